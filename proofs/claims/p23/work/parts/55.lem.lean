/-- the learnt texts that are held, by their places: number, tongue, trail -/
def HLD (L : List Nat) (f : Nat → va_E) (Rs : List Nat) (hq : Nat → Option Nat) (kr : ClassId) (nu : Nat → Int32) (tg tr tl : Nat → Nat) (gg : Nat → Nat → Nat) : Prop :=
  ∀ p, p < 100 → ∀ a, hq p = some a → a ∈ L ∧ a ∉ Rs ∧ f a = .inr (0, [.int (nu p), .int (nI (tg p)), .ref (tr p)]) ∧ tr p ∈ L.erase a ∧ tr p ∉ Rs ∧ f (tr p) = .inl (kr, tl p, .inl (nR (gg p))) ∧ tg p < 8 ∧ (1 ≤ tl p ∧ tl p ≤ 1000) ∧ ∀ j, gg p j < 28
theorem HLD_frm {L : List Nat} {f f2 : Nat → va_E} {Rs : List Nat} {hq : Nat → Option Nat} {kr : ClassId} {nu : Nat → Int32} {tg tr tl : Nat → Nat} {gg : Nat → Nat → Nat} (h : HLD L f Rs hq kr nu tg tr tl gg) (h2 : FRM f f2 Rs) : HLD L f2 Rs hq kr nu tg tr tl gg := fun p hp a ha => by
  obtain ⟨h1, h3, h4, h5, h6, h7, h8⟩ := h p hp a ha
  exact ⟨h1, h3, by rw [h2 a h3]; exact h4, h5, h6, by rw [h2 _ h6]; exact h7, h8⟩
theorem HLD_0 {L : List Nat} {f : Nat → va_E} {Rs : List Nat} {kr : ClassId} {nu : Nat → Int32} {tg tr tl : Nat → Nat} {gg : Nat → Nat → Nat} : HLD L f Rs (fun _ => none) kr nu tg tr tl gg := fun p hp a ha => by cases ha
theorem HLD_del {L : List Nat} {f : Nat → va_E} {Rs : List Nat} {hq : Nat → Option Nat} {kr : ClassId} {nu : Nat → Int32} {tg tr tl : Nat → Nat} {gg : Nat → Nat → Nat} {k : Nat} (h : HLD L f Rs hq kr nu tg tr tl gg) : HLD L f Rs (va_up hq k none) kr nu tg tr tl gg := fun p hp a ha => by
  by_cases e : p = k
  · rw [e, va_up_self] at ha; cases ha
  · rw [va_up_ne _ _ e] at ha; exact h p hp a ha
theorem HLD_add {L : List Nat} {f : Nat → va_E} {Rs : List Nat} {hq : Nat → Option Nat} {kr : ClassId} {nu : Nat → Int32} {tg tr tl : Nat → Nat} {gg : Nat → Nat → Nat} {k a t : Nat} {n : Int32} {tt len : Nat} {g : Nat → Nat} (h : HLD L f Rs hq kr nu tg tr tl gg) (hR : ∀ x, x ∈ Rs → x ∈ L)
    (ha : a ∉ t :: L) (ht : t ∉ L) (h1 : tt < 8) (h2 : 1 ≤ len ∧ len ≤ 1000) (h3 : ∀ j, g j < 28) :
    HLD (a :: t :: L) (va_up (va_up f t (.inl (kr, len, .inl (nR g)))) a (.inr (0, [.int n, .int (nI tt), .ref t]))) Rs (va_up hq k (some a)) kr (va_up nu k n) (va_up tg k tt) (va_up tr k t) (va_up tl k len) (va_up gg k g) := fun p hp b hb => by
  have hta : t ≠ a := fun e => ha (by rw [e]; exact List.mem_cons_self)
  have haL : a ∉ L := fun e => ha (List.mem_cons_of_mem _ e)
  by_cases e : p = k
  · rw [e, va_up_self] at hb
    cases hb
    rw [e, va_up_self, va_up_self, va_up_self, va_up_self, va_up_self, va_up_self]
    refine ⟨List.mem_cons_self, fun q => haL (hR _ q), rfl, ?_, fun q => ht (hR _ q), ?_, h1, h2, h3⟩
    · rw [List.erase_cons_head]; exact List.mem_cons_self
    · rw [va_up_ne _ _ hta, va_up_self]
  · rw [va_up_ne _ _ e] at hb
    obtain ⟨q1, q2, q3, q4, q5, q6, q7⟩ := h p hp b hb
    have hb1 : b ≠ a := fun e9 => haL (by rw [← e9]; exact q1)
    have hb2 : b ≠ t := fun e9 => ht (by rw [← e9]; exact q1)
    have q4' := List.mem_of_mem_erase q4
    have ht1 : tr p ≠ a := fun e9 => haL (by rw [← e9]; exact q4')
    have ht2 : tr p ≠ t := fun e9 => ht (by rw [← e9]; exact q4')
    rw [va_up_ne _ _ e, va_up_ne _ _ e, va_up_ne _ _ e, va_up_ne _ _ e, va_up_ne _ _ e]
    refine ⟨List.mem_cons_of_mem _ (List.mem_cons_of_mem _ q1), q2, ?_, ?_, q5, ?_, q7⟩
    · rw [va_up_ne _ _ hb1, va_up_ne _ _ hb2]; exact q3
    · rw [List.erase_cons_tail (by simpa using fun e9 : a = b => hb1 e9.symm), List.erase_cons_tail (by simpa using fun e9 : t = b => hb2 e9.symm)]
      exact List.mem_cons_of_mem _ (List.mem_cons_of_mem _ q4)
    · rw [va_up_ne _ _ ht1, va_up_ne _ _ ht2]; exact q6
