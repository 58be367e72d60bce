/-- the words' costs, on both sides -/
theorem kwF_cg {lt lw g lt2 lw2 g2 : Nat → Nat} {s L s2 L2 : Nat} : ∀ z, (∀ p, p < z → (sW lt lw g s L p ↔ sW lt2 lw2 g2 s2 L2 p)) → kwF lt lw g s L z = kwF lt2 lw2 g2 s2 L2 z
  | 0, _ => rfl
  | z + 1, h => by
    have h1 := kwF_cg z (fun p hp => h p (by omega))
    have h2 := h z (by omega)
    show (if kwF lt lw g s L z < z then kwF lt lw g s L z else if sW lt lw g s L z then z else z + 1) = (if kwF lt2 lw2 g2 s2 L2 z < z then kwF lt2 lw2 g2 s2 L2 z else if sW lt2 lw2 g2 s2 L2 z then z else z + 1)
    rw [h1]
    by_cases h3 : sW lt lw g s L z
    · rw [if_pos h3, if_pos (h2.mp h3)]
    · rw [if_neg h3, if_neg (fun q => h3 (h2.mpr q))]
theorem fmr_cg {g g2 : Nat → Nat} {s s2 k : Nat} (h : ∀ j, j < k → g (s + j) = g2 (s2 + j)) : fmr g s k = fmr g2 s2 k := by
  unfold fmr
  by_cases h0 : k = 0
  · rw [if_pos h0, if_pos h0]
  · rw [if_neg h0, if_neg h0, show s + k - 1 = s + (k - 1) by omega, show s2 + k - 1 = s2 + (k - 1) by omega]
    exact h (k - 1) (by omega)
theorem spS_cg {f : Nat → Int32} {t : Nat} {g g2 : Nat → Nat} {s s2 : Nat} : ∀ k, (∀ j, j < k → g (s + j) = g2 (s2 + j)) → spS f t g s k = spS f t g2 s2 k
  | 0, _ => rfl
  | k + 1, h => by
    show spS f t g s k + cost1 _ = spS f t g2 s2 k + cost1 _
    rw [spS_cg k (fun j hj => h j (by omega)), fmr_cg (fun j hj => h j (by omega)), h k (by omega)]
theorem spN_cg {f : Nat → Int32} {t : Nat} {g g2 : Nat → Nat} {s s2 L : Nat} (h : ∀ j, j < L → g (s + j) = g2 (s2 + j)) : spN f t g s L = spN f t g2 s2 L := by
  unfold spN
  rw [spS_cg L h, fmr_cg h]
theorem kBT_z : ∀ t : Fin 8, kBT 0 t.val = 0 := by decide +kernel
theorem kOR_nz : ∀ (v : Fin 256) (j : Fin 8), ¬ kOR (nI v.val) j.val = 0 := by decide +kernel
theorem sW_cg {lt lw lt2 lw2 g g2 : Nat → Nat} {s s2 L z p : Nat} (hL : LREL lt lw lt2 lw2 z) (hp : p < z) (h : ∀ j, j < L → g (s + j) = g2 (s2 + j)) : sW lt lw g s L p ↔ sW lt2 lw2 g2 s2 L p := by
  obtain ⟨h1, h2⟩ := hL p hp
  constructor
  · intro ⟨q1, q2⟩
    refine ⟨by rw [← h1]; exact q1, fun k hk => ?_⟩
    rw [← h k hk, ← q2 k hk, h2 k (by omega), Nat.mul_comm]
  · intro ⟨q1, q2⟩
    refine ⟨by rw [h1]; exact q1, fun k hk => ?_⟩
    rw [h k hk, ← q2 k hk, h2 k (by omega), Nat.mul_comm]
/-- a word costs the same on both sides -/
theorem WC_eq {g sb ln bo yo ko t8 u8 t6 u6 ln8 sn8 lk8 sk8 : Nat → Nat} {fx fk kk f ct : Nat → Int32} {n n2 w w2 z8 nn z6 kn : Nat} (hT : SOK g sb ln n w) (hn : n2 = n) (hx : ∀ j, j < n → g j = gm fx j) (hk : nn = z8) (hN : LREL t8 u8 ln8 sn8 z8) (hw : kn = z6) (hz6 : z6 ≤ 60) (hK : LREL t6 u6 lk8 sk8 z6) (hq : KREL fk kk z6) (hnz : ∀ p, p < z6 → ¬ fk p = 0) (hc : ct = f) (hC : CUT fx bo yo ko n2 w2) :
    ∀ i t, i < w → t < 8 → wcC t8 u8 z8 t6 u6 z6 fk f g sb ln i t = wcM ln8 sn8 nn lk8 sk8 kn kk ct fx bo yo i t := fun i t hi ht => by
  subst hn
  subst hk
  subst hw
  subst hc
  obtain ⟨ew, hW⟩ := WREL hT hC hx
  obtain ⟨q1, q2, q3, q4⟩ := hW i hi
  obtain ⟨w1, w2', w3, w4, w5⟩ := hT.wd hi
  by_cases hm : g (sb i) = 28
  · have h1 : ¬ cnD t8 u8 nn g sb ln i := fun h9 => h9.1 hm
    have h2 : ¬ ko i = 0 := by rw [q2.mp hm]; decide
    rw [wc_m hC (by omega) h2]
    unfold wcC kpF
    rw [if_neg h1]
    exact if_pos (Or.inl rfl)
  · have h3 := q3 hm
    have hk0 : ko i = 0 := by
      have h8 := (hC.wd (i := i) (by omega)).2.2.2.2.1
      by_cases h9 : ko i = 1
      · exact absurd (q2.mpr h9) hm
      · omega
    have hl : ∀ j, j < ln i → g (sb i + j) = gm fx (bo i + j) := fun j hj => by rw [← q1]; exact hx _ (by omega)
    have eN : ∀ p, p < nn → (sW t8 u8 g (sb i) (ln i) p ↔ sW ln8 sn8 (gm fx) (bo i) (mst (yo i)) p) := fun p hp => by rw [← h3]; exact sW_cg hN hp hl
    have eK : kwF t6 u6 g (sb i) (ln i) kn = kwF lk8 sk8 (gm fx) (bo i) (mst (yo i)) kn := kwF_cg kn (fun p hp => by rw [← h3]; exact sW_cg hK hp hl)
    have eS : spN ct t g (sb i) (ln i) = spN ct t (gm fx) (bo i) (mst (yo i)) := by rw [← h3]; exact spN_cg hl
    have hm8 : ¬ gm fx (bo i) = 28 := by rw [← q1, ← hx (sb i) (by omega)]; exact hm
    have eC : cnD t8 u8 nn g sb ln i ↔ cnD ln8 sn8 nn (gm fx) bo (fun i => mst (yo i)) i := ⟨fun h9 => ⟨hm8, fun p hp h8 => h9.2 p hp ((eN p hp).mpr h8)⟩, fun h9 => ⟨hm, fun p hp h8 => h9.2 p hp ((eN p hp).mp h8)⟩⟩
    unfold wcC kpF wcM
    by_cases hc : cnD t8 u8 nn g sb ln i
    · rw [if_pos hc, if_pos (eC.mp hc), ← eK, ← eS]
      unfold ciM ciT
      by_cases h4 : kwF t6 u6 g (sb i) (ln i) kn < kn
      · rw [if_pos h4, if_pos h4, ← hq.1 _ h4]
        have h5 := hnz _ h4
        obtain ⟨v, hv, ev⟩ := hq.2.2 (kwF t6 u6 g (sb i) (ln i) kn) (by omega)
        have h6 : ¬ fk (kwF t6 u6 g (sb i) (ln i) kn) = (-1) := by rw [ev]; exact nI_nm1 (by omega)
        have h7 := kBT_c ev hv ht
        by_cases h8 : kBT (fk (kwF t6 u6 g (sb i) (ln i) kn)) t = 1
        · rw [if_pos h8, if_pos (Or.inr (h7.mpr h8))]
        · rw [if_neg h8, if_neg (fun h9 => h9.elim h6 (fun h9 => h8 (h7.mp h9))), if_neg h5, Nat.add_comm]
      · rw [if_neg h4, if_neg h4, if_neg (fun h9 => h9.elim (fun h9 => absurd h9 (by decide)) (fun h9 => h9 (kBT_z ⟨t, ht⟩))), if_pos rfl]
    · rw [if_neg hc, if_neg (fun h9 => hc (eC.mpr h9))]
      exact if_pos (Or.inl rfl)
theorem WD_eq {g sb ln : Nat → Nat} {fx : Nat → Int32} {n n2 w w2 : Nat} (hT : SOK g sb ln n w) (hX : TXT fx n2 w2) (hn : n2 = n) (hx : ∀ j, j < n → g j = gm fx j) : w2 = w := by
  subst hn
  rw [hX.2.2, hT.2.2.1]
  exact (cB_congr n2 hx).symm
/-- keywords are some tongue's -/
theorem KNZ_kw {ts zt z zo : Nat} {p0 p1 r vo : Int32} {gt g2 go so lo t6 u6 to uo : Nat → Nat} {fk fko kk : Nat → Int32} (hzt : zt ≤ 8) (hz6 : z ≤ 60) (hq : KREL fk kk z) (hn : ∀ p, p < z → ¬ fk p = 0)
    (h1 : (¬ inT zt p0 ∧ r = (-1) ∧ vo = 1 ∧ zo = z ∧ to = t6 ∧ uo = u6 ∧ fko = fk) ∨ (∃ j9, j9 < zt ∧ p0 = nI j9 ∧ ((¬ onT ts p1 ∧ r = (-1) ∧ vo = 2 ∧ zo = z ∧ to = t6 ∧ uo = u6 ∧ fko = fk) ∨ (∃ k9, k9 ≤ ts ∧ p1 = nI k9 ∧ ((¬ oneW gt g2 k9 ∧ r = (-1) ∧ vo = 2 ∧ zo = z ∧ to = t6 ∧ uo = u6 ∧ fko = fk) ∨ (oneW gt g2 k9 ∧ SOK go so lo k9 1 ∧ go = va_cpy gt g2 0 0 k9 ∧ go (so 0) ≠ 28 ∧ ((∃ p, p < z ∧ sW t6 u6 go (so 0) (lo 0) p ∧ (∀ q, q < p → ¬ sW t6 u6 go (so 0) (lo 0) q) ∧ ((¬ kBT (fk p) j9 = 0 ∧ r = (-1) ∧ vo = 4 ∧ zo = z ∧ to = t6 ∧ uo = u6 ∧ fko = fk) ∨ (kBT (fk p) j9 = 0 ∧ r = bitc (kOR (fk p) j9) ∧ vo = 0 ∧ zo = z ∧ to = t6 ∧ uo = u6 ∧ fko = upd fk p (kOR (fk p) j9)))) ∨ ((∀ p, p < z → ¬ sW t6 u6 go (so 0) (lo 0) p) ∧ ((60 ≤ z ∧ r = (-1) ∧ vo = 3 ∧ zo = z ∧ to = t6 ∧ uo = u6 ∧ fko = fk) ∨ (z < 60 ∧ r = bitc (kOR (fk z) j9) ∧ vo = 0 ∧ zo = z + 1 ∧ to = va_cpy go t6 (so 0) (z * 24) (lo 0) ∧ uo = updN u6 z (lo 0) ∧ fko = upd fk z (kOR (fk z) j9))))))))))) : ∀ p, p < zo → ¬ fko p = 0 := by
  have same : zo = z ∧ to = t6 ∧ uo = u6 ∧ fko = fk → ∀ p, p < zo → ¬ fko p = 0 := fun ⟨e1, _, _, e4⟩ p hp => by rw [e4]; exact hn p (by omega)
  have up : ∀ q j, q < 60 → j < 8 → ¬ kOR (fk q) j = 0 := fun q j hq9 hj => by
    obtain ⟨v, hv, ev⟩ := hq.2.2 q hq9
    rw [ev]; exact kOR_nz ⟨v, hv⟩ ⟨j, hj⟩
  have one : ∀ q j, q < 60 → j < 8 → ∀ p, p < z + 1 → (p < z ∨ p = q) → ¬ upd fk q (kOR (fk q) j) p = 0 := fun q j hq9 hj p _ hp2 => by
    by_cases e : p = q
    · rw [e, upd_s]; exact up q j hq9 hj
    · rw [upd_n e]; exact hn p (by omega)
  rcases h1 with ⟨_, _, _, q⟩ | ⟨j, j1, j2, h1⟩
  · exact same q
  · rcases h1 with ⟨_, _, _, q⟩ | ⟨k, k1, k2, h1⟩
    · exact same q
    · rcases h1 with ⟨_, _, _, q⟩ | ⟨_, _, _, _, h1⟩
      · exact same q
      · rcases h1 with ⟨p, p1, p2, p3, h1⟩ | ⟨_, h1⟩
        · rcases h1 with ⟨_, _, _, q⟩ | ⟨_, _, _, e1, _, _, e4⟩
          · exact same q
          · intro q hq9
            rw [e4]; exact one p j (by omega) (by omega) q (by omega) (Or.inl (by omega))
        · rcases h1 with ⟨_, _, _, q⟩ | ⟨z1, _, _, e1, _, _, e4⟩
          · exact same q
          · intro q hq9
            rw [e4]; exact one z j z1 (by omega) q (by omega) (by omega)
/-- what the latest parting was, on both sides -/
def TLD (lm : Int32) (ls : Nat) (flr : Nat → Int32) (tm : Int32) (to8 : Nat → Int32) : Prop := (lm = 0 ∧ ls = 0 ∧ tm = (-1)) ∨ (¬ lm = 0 ∧ ls ≤ 60 ∧ tm = nI ls ∧ ∀ j, j < ls → flr j = to8 j)
/-- cost -/
theorem CS_eq {w w2 z z2 : Nat} {p0 p1 r r2 : Int32} {c c2 : Nat → Nat → Nat} {CU : Prop} (ew : w2 = w) (ez : z2 = z) (hz : z ≤ 8) (hw : w ≤ 60) (hW : CU → ∀ i t, i < w → t < 8 → c i t = c2 i t) (h1 : (r = (-1) ∧ ¬ (inT w p0 ∧ inT z p1)) ∨ (∃ a b, a < w ∧ p0 = nI a ∧ b < z ∧ p1 = nI b ∧ r = nI (c a b))) (h2 : (r2 = (-1) ∧ ¬ (inT w2 p0 ∧ inT z2 p1)) ∨ (∃ a b, a < w2 ∧ p0 = nI a ∧ b < z2 ∧ p1 = nI b ∧ CU ∧ r2 = nI (c2 a b))) : r = r2 := by
  subst ew
  subst ez
  rcases h1 with ⟨a1, a2⟩ | ⟨a, b, a1, a2, a3, a4, a5⟩
  · rcases h2 with ⟨b1, _⟩ | ⟨x, y, b1, b2, b3, b4, _⟩
    · rw [a1, b1]
    · exact absurd ⟨⟨x, b1, b2⟩, ⟨y, b3, b4⟩⟩ a2
  · rcases h2 with ⟨_, b2⟩ | ⟨x, y, b1, b2, b3, b4, b5, b6⟩
    · exact absurd ⟨⟨a, a1, a2⟩, ⟨b, a3, a4⟩⟩ b2
    · have e1 : a = x := (nI_eq (by omega) (by omega)).mp (a2.symm.trans b2)
      have e2 : b = y := (nI_eq (by omega) (by omega)).mp (a4.symm.trans b4)
      subst e1
      subst e2
      rw [a5, b6, hW b5 a b a1 (by omega)]
theorem AK_iff {v it : Int32} {z z2 : Nat} (e : it = v) (ez : z2 = z) : (¬ v = 0 ∧ 0 < z) ↔ (¬ it = 0 ∧ 0 < z2) := by rw [e, ez]
/-- whole -/
theorem WH_eq {A A2 : Prop} {w w2 z z2 : Nat} {p0 r r2 vo vo2 : Int32} {c c2 : Nat → Nat → Nat} {CU : Prop} (eA : A ↔ A2) (ew : w2 = w) (ez : z2 = z) (hz : z ≤ 8) (hW : CU → ∀ i t, i < w → t < 8 → c i t = c2 i t) (h1 : (¬ A ∧ r = (-1) ∧ vo = 5) ∨ (A ∧ ¬ inT z p0 ∧ r = (-1) ∧ vo = 1) ∨ (A ∧ ∃ a, a < z ∧ p0 = nI a ∧ vo = 0 ∧ r = nI (smW (fun i7 => c i7 a) w))) (h2 : (¬ A2 ∧ r2 = (-1) ∧ vo2 = 5) ∨ (A2 ∧ ¬ inT z2 p0 ∧ r2 = (-1) ∧ vo2 = 1) ∨ (A2 ∧ ∃ a, a < z2 ∧ p0 = nI a ∧ vo2 = 0 ∧ CU ∧ r2 = nI (smW (fun i7 => c2 i7 a) w2))) : r = r2 ∧ vo = vo2 := by
  subst ew
  subst ez
  rcases h1 with ⟨a0, a1, a2⟩ | ⟨a0, a1, a2, a3⟩ | ⟨a0, a, a1, a2, a3, a4⟩
  · rcases h2 with ⟨_, b1, b2⟩ | ⟨b0, _⟩ | ⟨b0, _⟩
    · exact ⟨by rw [a1, b1], by rw [a2, b2]⟩
    · exact absurd (eA.mpr b0) a0
    · exact absurd (eA.mpr b0) a0
  · rcases h2 with ⟨b0, _⟩ | ⟨b0, b1, b2, b3⟩ | ⟨b0, x, b1, b2, _⟩
    · exact absurd (eA.mp a0) b0
    · exact ⟨by rw [a2, b2], by rw [a3, b3]⟩
    · exact absurd ⟨x, b1, b2⟩ a1
  · rcases h2 with ⟨b0, _⟩ | ⟨b0, b1, _⟩ | ⟨b0, x, b1, b2, b3, b4, b5⟩
    · exact absurd (eA.mp a0) b0
    · exact absurd ⟨a, a1, a2⟩ b1
    · have e1 : a = x := (nI_eq (by omega) (by omega)).mp (a2.symm.trans b2)
      subst e1
      exact ⟨by rw [a4, b5, smW_cg w2 (fun j hj => hW b4 j a hj (by omega))], by rw [a3, b3]⟩
/-- part -/
theorem PT_eq {A A2 : Prop} {w w2 z z2 ch ch2 ls lz : Nat} {r r2 vo vo2 lm lo tm tmo : Int32} {flr fo to8 tlo : Nat → Int32} {c c2 : Nat → Nat → Nat} {CU : Prop} (eA : A ↔ A2) (ew : w2 = w) (ez : z2 = z) (ec : ch = ch2) (hz : z ≤ 8) (hw : w ≤ 60) (hW : CU → ∀ i t, i < w → t < 8 → c i t = c2 i t) (hT : TLD lm ls flr tm to8)
    (h1 : (¬ A ∧ r = (-1) ∧ vo = 5 ∧ lz = ls ∧ lo = lm ∧ fo = flr) ∨ (A ∧ vo = 0 ∧ lz = w ∧ lo = 1 ∧ ∃ p, OPT c ch z w p ∧ r = nI (pfC c ch p w) ∧ ∀ j, j < w → fo j = nI (p j)))
    (h2 : (¬ A2 ∧ r2 = (-1) ∧ vo2 = 5 ∧ tmo = tm ∧ tlo = to8) ∨ (A2 ∧ vo2 = 0 ∧ tmo = nI w2 ∧ ((w2 = 0 ∧ r2 = 0) ∨ (0 < w2 ∧ CU ∧ ∃ p, OPT c2 ch2 z2 w2 p ∧ r2 = nI (pfC c2 ch2 p w2) ∧ ∀ j, j < w2 → tlo j = nI (p j))))) : r = r2 ∧ vo = vo2 ∧ TLD lo lz fo tmo tlo := by
  subst ew
  subst ez
  subst ec
  rcases h1 with ⟨a0, a1, a2, a3, a4, a5⟩ | ⟨a0, a1, a2, a3, p, a4, a5, a6⟩
  · rcases h2 with ⟨_, b1, b2, b3, b4⟩ | ⟨b0, _⟩
    · exact ⟨by rw [a1, b1], by rw [a2, b2], by rw [a3, a4, a5, b3, b4]; exact hT⟩
    · exact absurd (eA.mpr b0) a0
  · rcases h2 with ⟨b0, _⟩ | ⟨b0, b1, b2, h2⟩
    · exact absurd (eA.mp a0) b0
    · rcases h2 with ⟨b3, b4⟩ | ⟨b3, b4, q, b5, b6, b7⟩
      · refine ⟨?_, by rw [a1, b1], Or.inr ⟨by rw [a3]; decide, by omega, by rw [b2, a2], fun j hj => absurd hj (by omega)⟩⟩
        rw [a5, b4, b3]; rfl
      · obtain ⟨k1, k2⟩ := OPT_cc a4 (fun i t hi ht => hW b4 i t hi (by omega))
        obtain ⟨k3, k4⟩ := OPS_u k1 b5
        refine ⟨by rw [a5, b6, k2, k3], by rw [a1, b1], Or.inr ⟨by rw [a3]; decide, by omega, by rw [b2, a2], fun j hj => ?_⟩⟩
        rw [a6 j (by omega), b7 j (by omega), k4 j (by omega)]
/-- sure -/
theorem SU_eq {A A2 : Prop} {w w2 z z2 ch ch2 : Nat} {p0 r r2 vo vo2 : Int32} {c c2 : Nat → Nat → Nat} {CU : Prop} (eA : A ↔ A2) (ew : w2 = w) (ez : z2 = z) (ec : ch = ch2) (hz : z ≤ 8) (hw : w ≤ 60) (hW : CU → ∀ i t, i < w → t < 8 → c i t = c2 i t)
    (h1 : (¬ A ∧ r = (-1) ∧ vo = 5) ∨ (A ∧ ¬ inT w p0 ∧ r = (-1) ∧ vo = 1) ∨ (A ∧ ∃ a, a < w ∧ p0 = nI a ∧ vo = 0 ∧ ((z = 1 ∧ r = 2147483647) ∨ (2 ≤ z ∧ ∃ p q, OPT c ch z w p ∧ OPS c ch w (OPN z w (oth a (p a))) q ∧ r = nI (pfC c ch q w) - nI (pfC c ch p w)))))
    (h2 : (¬ A2 ∧ r2 = (-1) ∧ vo2 = 5) ∨ (A2 ∧ ¬ inT w2 p0 ∧ r2 = (-1) ∧ vo2 = 1) ∨ (A2 ∧ ∃ a, a < w2 ∧ p0 = nI a ∧ vo2 = 0 ∧ CU ∧ ∃ p, OPT c2 ch2 z2 w2 p ∧ ((r2 = 2147483647 ∧ ∀ q, ¬ OPN z2 w2 (oth a (p a)) q) ∨ (∃ q, OPS c2 ch2 w2 (OPN z2 w2 (oth a (p a))) q ∧ r2 = nI (pfC c2 ch2 q w2) - nI (pfC c2 ch2 p w2))))) : r = r2 ∧ vo = vo2 := by
  subst ew
  subst ez
  subst ec
  rcases h1 with ⟨a0, a1, a2⟩ | ⟨a0, a1, a2, a3⟩ | ⟨a0, a, a1, a2, a3, h1⟩
  · rcases h2 with ⟨_, b1, b2⟩ | ⟨b0, _⟩ | ⟨b0, _⟩
    · exact ⟨by rw [a1, b1], by rw [a2, b2]⟩
    · exact absurd (eA.mpr b0) a0
    · exact absurd (eA.mpr b0) a0
  · rcases h2 with ⟨b0, _⟩ | ⟨b0, b1, b2, b3⟩ | ⟨b0, x, b1, b2, _⟩
    · exact absurd (eA.mp a0) b0
    · exact ⟨by rw [a2, b2], by rw [a3, b3]⟩
    · exact absurd ⟨x, b1, b2⟩ a1
  · rcases h2 with ⟨b0, _⟩ | ⟨b0, b1, _⟩ | ⟨b0, x, b1, b2, b3, b4, p2, b5, h2⟩
    · exact absurd (eA.mp a0) b0
    · exact absurd ⟨a, a1, a2⟩ b1
    · have e1 : a = x := (nI_eq (by omega) (by omega)).mp (a2.symm.trans b2)
      subst e1
      refine ⟨?_, by rw [a3, b3]⟩
      rcases h1 with ⟨k1, k2⟩ | ⟨k1, p, q, k2, k3, k4⟩
      · rcases h2 with ⟨m1, _⟩ | ⟨q2, m1, _⟩
        · rw [k2, m1]
        · exfalso
          have h9 := m1.1 a a1
          have h8 := b5.1 a a1
          have h7 : ¬ (a = a ∧ q2 a = p2 a) := of_decide_eq_true h9.2
          exact h7 ⟨rfl, by omega⟩
      · obtain ⟨n1, n2⟩ := OPT_cc k2 (fun i t hi ht => hW b4 i t hi (by omega))
        obtain ⟨n3, n4⟩ := OPS_u n1 b5
        have n5 := n4 a a1
        rcases h2 with ⟨_, m2⟩ | ⟨q2, m1, m2⟩
        · exact absurd (oth_ex k1) (m2 _)
        · obtain ⟨n6, n7⟩ := OPS_cc k3 (fun _ h j hj => (h j hj).1) (fun i t hi ht => hW b4 i t hi (by omega))
          rw [n5] at n6
          obtain ⟨n8, _⟩ := OPS_u n6 m1
          rw [k4, m2, n7, n8, n2, n3]
/-- fixed -/
theorem FI_eq {A A2 : Prop} {w w2 z z2 ch ch2 : Nat} {r r2 vo vo2 : Int32} {c c2 : Nat → Nat → Nat} {CU : Prop} (eA : A ↔ A2) (ea : A → 0 < z) (ew : w2 = w) (ez : z2 = z) (ec : ch = ch2) (hz : z ≤ 8) (hw : w ≤ 60) (hW : CU → ∀ i t, i < w → t < 8 → c i t = c2 i t)
    (h1 : (¬ A ∧ r = (-1) ∧ vo = 5) ∨ (A ∧ vo = 0 ∧ ∃ (P : Nat → Nat → Nat) (lo : Nat), (∀ e, e < z → 0 < w → OPS c ch w (EDS z w e) (P e)) ∧ FXI P w z lo ∧ r = nI lo))
    (h2 : (¬ A2 ∧ r2 = (-1) ∧ vo2 = 5) ∨ (A2 ∧ vo2 = 0 ∧ ((w2 = 0 ∧ r2 = 0) ∨ (0 < w2 ∧ CU ∧ ∃ (P : Nat → Nat → Nat) (lo : Nat), (∀ e, e < z2 → OPS c2 ch2 w2 (EDS z2 w2 e) (P e)) ∧ FXI P w2 z2 lo ∧ r2 = nI lo)))) : r = r2 ∧ vo = vo2 := by
  subst ew
  subst ez
  subst ec
  rcases h1 with ⟨a0, a1, a2⟩ | ⟨a0, a1, P, lo, a2, a3, a4⟩
  · rcases h2 with ⟨_, b1, b2⟩ | ⟨b0, _⟩
    · exact ⟨by rw [a1, b1], by rw [a2, b2]⟩
    · exact absurd (eA.mpr b0) a0
  · rcases h2 with ⟨b0, _⟩ | ⟨b0, b1, h2⟩
    · exact absurd (eA.mp a0) b0
    · refine ⟨?_, by rw [a1, b1]⟩
      rcases h2 with ⟨b2, b3⟩ | ⟨b2, b3, Q, lo2, b4, b5, b6⟩
      · have h9 := a3.1
        rw [a4, b3, show lo = 0 by omega]; rfl
      · have e9 : lo = lo2 := FX_u (ea a0) a3 b5 (fun t ht j hj => by
          obtain ⟨k1, _⟩ := OPS_cc (a2 t ht b2) (fun _ h => h.1) (fun i t hi ht => hW b3 i t hi (by omega))
          exact (OPS_u k1 (b4 t ht)).2 j hj)
        rw [a4, b6, e9]
/-- tells -/
theorem TE_eq {A A2 : Prop} {w w2 z z2 g g2 tz tl zo zo2 : Nat} {p0 p1 r r2 vo vo2 : Int32} {ftr fo te8 teo : Nat → Int32} {c c2 : Nat → Nat → Nat} {CU : Prop} (eA : A ↔ A2) (ew : w2 = w) (ez : z2 = z) (eg : g = g2) (hz : z ≤ 8) (hw : w ≤ 60) (hW : CU → ∀ i t, i < w → t < 8 → c i t = c2 i t) (et : tl = tz) (hf : ∀ j, j < tz → ftr j = te8 j)
    (h1 : (¬ A ∧ r = (-1) ∧ vo = 5 ∧ zo = tz ∧ fo = ftr) ∨ (A ∧ ¬ (∃ a b, a < z ∧ p0 = nI a ∧ b < z ∧ p1 = nI b ∧ ¬ a = b) ∧ r = (-1) ∧ vo = 1 ∧ zo = tz ∧ fo = ftr) ∨ (A ∧ ∃ a b, a < z ∧ p0 = nI a ∧ b < z ∧ p1 = nI b ∧ ¬ a = b ∧ vo = 0 ∧ TLA (dW c a b) w (nI g) r tz zo ftr fo))
    (h2 : (¬ A2 ∧ r2 = (-1) ∧ vo2 = 5 ∧ zo2 = tl ∧ teo = te8) ∨ (A2 ∧ ¬ (∃ a b, a < z2 ∧ p0 = nI a ∧ b < z2 ∧ p1 = nI b ∧ ¬ a = b) ∧ r2 = (-1) ∧ vo2 = 1 ∧ zo2 = tl ∧ teo = te8) ∨ (A2 ∧ ∃ a b, a < z2 ∧ p0 = nI a ∧ b < z2 ∧ p1 = nI b ∧ ¬ a = b ∧ vo2 = 0 ∧ CU ∧ TLA (dW c2 a b) w2 (nI g2) r2 tl zo2 te8 teo)) : r = r2 ∧ vo = vo2 ∧ zo2 = zo ∧ ∀ j, j < zo → fo j = teo j := by
  subst ew
  subst ez
  subst eg
  rcases h1 with ⟨a0, a1, a2, a3, a4⟩ | ⟨a0, a1, a2, a3, a4, a5⟩ | ⟨a0, a, b, a1, a2, a3, a4, a5, a6, a7⟩
  · rcases h2 with ⟨_, b1, b2, b3, b4⟩ | ⟨b0, _⟩ | ⟨b0, _⟩
    · exact ⟨by rw [a1, b1], by rw [a2, b2], by rw [a3, b3, et], by rw [a3, a4, b4]; exact hf⟩
    · exact absurd (eA.mpr b0) a0
    · exact absurd (eA.mpr b0) a0
  · rcases h2 with ⟨b0, _⟩ | ⟨b0, b1, b2, b3, b4, b5⟩ | ⟨b0, x, y, b1, b2, b3, b4, b5, _⟩
    · exact absurd (eA.mp a0) b0
    · exact ⟨by rw [a2, b2], by rw [a3, b3], by rw [a4, b4, et], by rw [a4, a5, b5]; exact hf⟩
    · exact absurd ⟨x, y, b1, b2, b3, b4, b5⟩ a1
  · rcases h2 with ⟨b0, _⟩ | ⟨b0, b1, _⟩ | ⟨b0, x, y, b1, b2, b3, b4, b5, b6, b7, b8⟩
    · exact absurd (eA.mp a0) b0
    · exact absurd ⟨a, b, a1, a2, a3, a4, a5⟩ b1
    · have e1 : a = x := (nI_eq (by omega) (by omega)).mp (a2.symm.trans b2)
      have e2 : b = y := (nI_eq (by omega) (by omega)).mp (a4.symm.trans b4)
      subst e1
      subst e2
      obtain ⟨k1, k2, k3⟩ := TL_eq (fun i hi => by show nI (c i b) - nI (c i a) = nI (c2 i b) - nI (c2 i a); rw [hW b7 i b hi (by omega), hW b7 i a hi (by omega)]) a7 b8 et hf
      exact ⟨k1, by rw [a6, b6], k2, k3⟩
/-- told -/
theorem TD_eq {ls : Nat} {lm tm p0 r r2 : Int32} {flr to8 : Nat → Int32} (hT : TLD lm ls flr tm to8) (h1 : (r = (-1) ∧ ¬ inT ls p0) ∨ (∃ a, a < ls ∧ p0 = nI a ∧ r = flr a)) (h2 : (r2 = (-1) ∧ ¬ (∃ tm9, tm9 ≤ 60 ∧ tm = nI tm9 ∧ inT tm9 p0)) ∨ (∃ tm9 a, tm9 ≤ 60 ∧ tm = nI tm9 ∧ a < tm9 ∧ p0 = nI a ∧ r2 = to8 a)) : r = r2 := by
  rcases hT with ⟨_, t2, t3⟩ | ⟨_, t2, t3, t4⟩
  · rcases h1 with ⟨a1, _⟩ | ⟨a, a1, _⟩
    · rcases h2 with ⟨b1, _⟩ | ⟨x, a, b1, b2, _⟩
      · rw [a1, b1]
      · exact absurd (b2.symm.trans t3) (nI_nm1 (by omega))
    · omega
  · rcases h1 with ⟨a1, a2⟩ | ⟨a, a1, a2, a3⟩
    · rcases h2 with ⟨b1, _⟩ | ⟨x, a, b1, b2, b3, b4, _⟩
      · rw [a1, b1]
      · have e : ls = x := (nI_eq (by omega) (by omega)).mp (t3.symm.trans b2)
        exact absurd ⟨a, by omega, b4⟩ a2
    · rcases h2 with ⟨_, b2⟩ | ⟨x, y, b1, b2, b3, b4, b5⟩
      · exact absurd ⟨ls, t2, t3, a, a1, a2⟩ b2
      · have e : a = y := (nI_eq (by omega) (by omega)).mp (a2.symm.trans b4)
        rw [a3, b5, ← e, t4 a a1]
/-- spans -/
theorem SN_eq {ls : Nat} {lm tm r r2 : Int32} {flr to8 : Nat → Int32} (hT : TLD lm ls flr tm to8) (h1 : (lm = 0 ∧ r = (-1)) ∨ (¬ lm = 0 ∧ r = nI (cS flr ls))) (h2 : (tm = (-1) ∧ r2 = (-1)) ∨ (∃ tm9, tm9 ≤ 60 ∧ tm = nI tm9 ∧ r2 = nI (cS to8 tm9))) : r = r2 := by
  rcases hT with ⟨t1, t2, t3⟩ | ⟨t1, t2, t3, t4⟩
  · rcases h1 with ⟨_, a1⟩ | ⟨a0, _⟩
    · rcases h2 with ⟨_, b1⟩ | ⟨x, b1, b2, _⟩
      · rw [a1, b1]
      · exact absurd (b2.symm.trans t3) (nI_nm1 (by omega))
    · exact absurd t1 a0
  · rcases h1 with ⟨a0, _⟩ | ⟨_, a1⟩
    · exact absurd a0 t1
    · rcases h2 with ⟨b1, _⟩ | ⟨x, b1, b2, b3⟩
      · exact absurd (t3.symm.trans b1) (nI_nm1 (by omega))
      · have e : ls = x := (nI_eq (by omega) (by omega)).mp (t3.symm.trans b2)
        rw [a1, b3, ← e, cS_cg ls t4]
theorem bS_cg {f g : Nat → Int32} {n j : Nat} (h : ∀ j, j < n → f j = g j) (hj : j < n) : bS f j ↔ bS g j := by
  unfold bS
  by_cases h0 : j = 0
  · simp [h0]
  · rw [h j hj, h (j - 1) (by omega)]
/-- span -/
theorem SP_eq {ls : Nat} {lm tm p0 p1 r r2 : Int32} {flr to8 : Nat → Int32} (hT : TLD lm ls flr tm to8)
    (h1 : (r = (-1) ∧ ∀ j, j < ls → bS flr j → ¬ nI (cS flr j) = p0) ∨ (∃ k, k < ls ∧ bS flr k ∧ nI (cS flr k) = p0 ∧ ((p1 = nI 0 ∧ r = nI k) ∨ (p1 = nI 1 ∧ ∃ e, k + 1 ≤ e ∧ e ≤ ls ∧ (∀ j, k < j → j < e → ¬ bS flr j) ∧ (e = ls ∨ bS flr e) ∧ r = nI (e - k)) ∨ (p1 = nI 2 ∧ r = flr k) ∨ (¬ p1 = nI 0 ∧ ¬ p1 = nI 1 ∧ ¬ p1 = nI 2 ∧ r = (-1)))))
    (h2 : (r2 = (-1) ∧ ∀ tm9, tm9 ≤ 60 → tm = nI tm9 → ∀ j, j < tm9 → bS to8 j → ¬ nI (cS to8 j) = p0) ∨ (∃ tm9 k, tm9 ≤ 60 ∧ tm = nI tm9 ∧ k < tm9 ∧ bS to8 k ∧ nI (cS to8 k) = p0 ∧ ((p1 = nI 0 ∧ r2 = nI k) ∨ (p1 = nI 1 ∧ ∃ e, k + 1 ≤ e ∧ e ≤ tm9 ∧ (∀ j, k < j → j < e → ¬ bS to8 j) ∧ (e = tm9 ∨ bS to8 e) ∧ r2 = nI (e - k)) ∨ (p1 = nI 2 ∧ r2 = to8 k) ∨ (¬ p1 = nI 0 ∧ ¬ p1 = nI 1 ∧ ¬ p1 = nI 2 ∧ r2 = (-1))))) : r = r2 := by
  rcases hT with ⟨t1, t2, t3⟩ | ⟨t1, t2, t3, t4⟩
  · rcases h1 with ⟨a1, _⟩ | ⟨k, a1, _⟩
    · rcases h2 with ⟨b1, _⟩ | ⟨x, k, b1, b2, _⟩
      · rw [a1, b1]
      · exact absurd (b2.symm.trans t3) (nI_nm1 (by omega))
    · omega
  · have hb : ∀ j, j < ls → (bS flr j ↔ bS to8 j) := fun j hj => bS_cg t4 hj
    have hc : ∀ j, j ≤ ls → cS flr j = cS to8 j := fun j hj => cS_cg j (fun i hi => t4 i (by omega))
    rcases h1 with ⟨a1, a2⟩ | ⟨k, a1, a2, a3, h1⟩
    · rcases h2 with ⟨b1, _⟩ | ⟨x, k, b1, b2, b3, b4, b5, _⟩
      · rw [a1, b1]
      · have e : ls = x := (nI_eq (by omega) (by omega)).mp (t3.symm.trans b2)
        subst e
        exact absurd (by rw [hc k (by omega)]; exact b5) (a2 k b3 ((hb k b3).mpr b4))
    · rcases h2 with ⟨_, b2⟩ | ⟨x, k2, b1, b2, b3, b4, b5, h2⟩
      · exact absurd (by rw [← hc k (by omega)]; exact a3) (b2 ls t2 t3 k a1 ((hb k a1).mp a2))
      · have e : ls = x := (nI_eq (by omega) (by omega)).mp (t3.symm.trans b2)
        subst e
        have c1 := cS_le to8 k
        have c2 := cS_le to8 k2
        have ek : k = k2 := cS_in ((hb k a1).mp a2) b4 ((nI_eq (by omega) (by omega)).mp ((by rw [← hc k (by omega)]; exact a3 : nI (cS to8 k) = p0).trans b5.symm))
        subst ek
        rcases h1 with ⟨p, q⟩ | ⟨p, e, e1, e2, e3, e4, q⟩ | ⟨p, q⟩ | ⟨n0, n1, n2, q⟩
        · rcases h2 with ⟨_, q2⟩ | ⟨p2, _⟩ | ⟨p2, _⟩ | ⟨m0, _⟩
          · rw [q, q2]
          · exact absurd (p.symm.trans p2) (by decide)
          · exact absurd (p.symm.trans p2) (by decide)
          · exact absurd p m0
        · rcases h2 with ⟨p2, _⟩ | ⟨_, f, f1, f2, f3, f4, q2⟩ | ⟨p2, _⟩ | ⟨_, m1, _⟩
          · exact absurd (p.symm.trans p2) (by decide)
          · have ef : e = f := by
              rcases Nat.lt_trichotomy e f with h | h | h
              · exfalso
                exact f3 e (by omega) h ((hb e (by omega)).mp (e4.resolve_left (by omega)))
              · exact h
              · exfalso
                exact e3 f (by omega) h ((hb f (by omega)).mpr (f4.resolve_left (by omega)))
            rw [q, q2, ef]
          · exact absurd (p.symm.trans p2) (by decide)
          · exact absurd p m1
        · rcases h2 with ⟨p2, _⟩ | ⟨p2, _⟩ | ⟨_, q2⟩ | ⟨_, _, m2, _⟩
          · exact absurd (p.symm.trans p2) (by decide)
          · exact absurd (p.symm.trans p2) (by decide)
          · rw [q, q2, t4 k a1]
          · exact absurd p m2
        · rcases h2 with ⟨p2, _⟩ | ⟨p2, _⟩ | ⟨p2, _⟩ | ⟨_, _, _, q2⟩
          · exact absurd p2 n0
          · exact absurd p2 n1
          · exact absurd p2 n2
          · rw [q, q2]
/-- telling -/
theorem TG_eq {tz tl : Nat} {p0 r r2 th : Int32} {f0 u : Nat → Int64} {ftr te8 : Nat → Int32} (hz : tz ≤ 60) (et : tl = tz) (hf : ∀ j, j < tz → ftr j = te8 j) (h1 : (r = 1 ∧ ¬ inT tz p0 ∧ u = f0) ∨ (r = 0 ∧ ∃ j, j < tz ∧ p0 = nI j ∧ u 0 = (ftr j).toInt64)) (h2 : (¬ inT tl p0 ∧ th = 1 ∧ r2 = 0) ∨ (∃ a, a < tl ∧ p0 = nI a ∧ th = 0 ∧ r2 = te8 a)) : (r = 1 ∧ th = 1) ∨ (r = 0 ∧ th = 0 ∧ u 0 = r2.toInt64) := by
  subst et
  rcases h1 with ⟨a1, a2, _⟩ | ⟨a1, j, a2, a3, a4⟩
  · rcases h2 with ⟨_, b2, _⟩ | ⟨a, b1, b2, _⟩
    · exact Or.inl ⟨a1, b2⟩
    · exact absurd ⟨a, b1, b2⟩ a2
  · rcases h2 with ⟨b1, _⟩ | ⟨a, b1, b2, b3, b4⟩
    · exact absurd ⟨j, a2, a3⟩ b1
    · have e : j = a := (nI_eq (by omega) (by omega)).mp (a3.symm.trans b2)
      refine Or.inr ⟨a1, b3, ?_⟩
      rw [a4, b4, ← e, hf j a2]
theorem ZO_vo {r vo r2 vo2 : Int32} {zo z zo2 z2 : Nat} (h : (z < 8 → r = nI z ∧ zo = z + 1 ∧ vo = 0) ∧ (¬ z < 8 → r = (-1) ∧ zo = z ∧ vo = 3)) (h2 : (z2 < 8 → r2 = nI z2 ∧ zo2 = z2 + 1 ∧ vo2 = 0) ∧ (¬ z2 < 8 → r2 = (-1) ∧ zo2 = z2 ∧ vo2 = 3)) (e : z2 = z) : vo2 = vo := by
  subst e
  by_cases hc : z2 < 8
  · rw [(h.1 hc).2.2, (h2.1 hc).2.2]
  · rw [(h.2 hc).2.2, (h2.2 hc).2.2]
/-- set -/
theorem ST_eq {p0 p1 u3 y3 : Int32} {u1 u2 y1 y2 v9 v10 c9 c10 : Nat} (h : (st_ok p0 p1 → p0 = nI u1 ∧ p1 = nI u2 ∧ u1 ≤ 2000 ∧ 1 ≤ u2 ∧ u2 ≤ 5000 ∧ u3 = 0) ∧ (¬ st_ok p0 p1 → u1 = v9 ∧ u2 = v10 ∧ u3 = 2)) (h2 : (st_ok p0 p1 → p0 = nI y1 ∧ p1 = nI y2 ∧ y1 ≤ 2000 ∧ 1 ≤ y2 ∧ y2 ≤ 5000 ∧ y3 = 0) ∧ (¬ st_ok p0 p1 → y1 = c9 ∧ y2 = c10 ∧ y3 = 2)) (e1 : v9 = c9) (e2 : v10 = c10) : u1 = y1 ∧ u2 = y2 ∧ y3 = u3 := by
  rcases Classical.em (st_ok p0 p1) with h9 | h9
  · obtain ⟨a1, a2, a3, a4, a5, a6⟩ := h.1 h9
    obtain ⟨b1, b2, b3, b4, b5, b6⟩ := h2.1 h9
    exact ⟨(nI_eq (by omega) (by omega)).mp (a1.symm.trans b1), (nI_eq (by omega) (by omega)).mp (a2.symm.trans b2), by rw [a6, b6]⟩
  · obtain ⟨a1, a2, a3⟩ := h.2 h9
    obtain ⟨b1, b2, b3⟩ := h2.2 h9
    exact ⟨by omega, by omega, by rw [a3, b3]⟩
