/-- cells and a pool -/
abbrev vpl (X : va_W) (L : List Nat) (f : Nat → va_E) : va_W := X ++ va_pl L f
theorem lv_join {G : JFrame → Prop} {α : Type} {P : α → Prop} {fr : α → JFrame} {g : JFrame} (h1 : (∀ x, P x → G (fr x)) → G g) (h2 : ∀ x, P x → G (fr x)) : G g := h1 h2
theorem pl_one {D : va_G} {cl : List vw_C} {X : va_W} {L : List Nat} {f : Nat → va_E} {H : Heap} {a : Nat} {e : va_E} (hP : va_P D cl (X ++ va_pl L f) H) (h : a ∈ L) (he : f a = e) : va_P D cl [(a, e)] H := by
  obtain ⟨k, hk⟩ := va_pl_get (X := X) (f := f) h
  intro j q hq
  have hj : j < 1 := (List.getElem?_eq_some_iff.mp hq).1
  rw [show j = 0 by omega] at hq
  cases hq
  rw [← he]
  exact hP k _ hk
theorem va_P.perm {D : va_G} {cl : List vw_C} {ws ws2 : va_W} {H : Heap} (h : ws.Perm ws2) (hP : va_P D cl ws H) : va_P D cl ws2 H := fun k q hk => by
  obtain ⟨j, hj⟩ := List.getElem?_of_mem (h.mem_iff.mpr (List.mem_of_getElem? hk))
  exact hP j q hj
theorem va_D_nd {ws : va_W} : (∀ (i j : Nat) (p q : Nat × va_E), ws[i]? = some p → ws[j]? = some q → p.1 = q.1 → i = j) ↔ (ws.map Prod.fst).Nodup := by
  constructor
  · intro h
    unfold List.Nodup
    rw [List.pairwise_iff_getElem]
    intro i j hi hj hij e
    rw [List.length_map] at hi hj
    have h9 := h i j ws[i] ws[j] (List.getElem?_eq_getElem hi) (List.getElem?_eq_getElem hj) (by simpa using e)
    omega
  · intro h i j p q hp hq e
    refine (List.getElem?_inj (l := ws.map Prod.fst) (by rw [List.length_map]; exact (List.getElem?_eq_some_iff.mp hp).1) h).mp ?_
    rw [List.getElem?_map, List.getElem?_map, hp, hq]
    exact congrArg some e
theorem va_D.perm {A : Nat → Prop} {ws ws2 : va_W} (h : ws.Perm ws2) (hD : va_D A ws) : va_D A ws2 := by
  refine ⟨va_D_nd.mpr ((h.map Prod.fst).nodup_iff.mp (va_D_nd.mp hD.1)), fun k q hk => ?_⟩
  obtain ⟨j, hj⟩ := List.getElem?_of_mem (h.mem_iff.mpr (List.mem_of_getElem? hk))
  exact hD.2 j q hj
theorem pl_focus {X : va_W} {L : List Nat} {f : Nat → va_E} {a : Nat} (h : a ∈ L) : (X ++ va_pl L f).Perm ((X ++ [(a, f a)]) ++ va_pl (L.erase a) f) := by
  have h1 : (va_pl L f).Perm (va_pl (a :: L.erase a) f) := (List.perm_cons_erase h).map _
  have h2 : (X ++ [(a, f a)]) ++ va_pl (L.erase a) f = X ++ va_pl (a :: L.erase a) f := by rw [List.append_assoc]; rfl
  rw [h2]
  exact h1.append_left X
theorem pl_push {A : Nat → Prop} {X : va_W} {L : List Nat} {f : Nat → va_E} {a : Nat} {e : va_E} (hD : va_D A ((X ++ [(a, e)]) ++ va_pl L f)) : a ∉ L ∧ ((X ++ [(a, e)]) ++ va_pl L f) = X ++ va_pl (a :: L) (va_up f a e) := by
  have hn : a ∉ L := va_pl_fresh2 hD.swap
  refine ⟨hn, ?_⟩
  rw [List.append_assoc]
  congr 1
  show (a, e) :: va_pl L f = (a, va_up f a e a) :: va_pl L (va_up f a e)
  rw [va_up_self]
  congr 1
  apply List.map_congr_left
  intro b hb
  have hne : b ≠ a := fun q => hn (by rw [← q]; exact hb)
  rw [va_up_ne _ _ hne]
/-- the rows of bytes -/
def ROWS (L : List Nat) (f : Nat → va_E) (kr : ClassId) (Rs : List Nat) : Prop := ∀ a, a ∈ Rs → a ∈ L ∧ ∃ h : Nat → Int32, f a = .inl (kr, 60, .inl h)
def RA (fr : Nat → Option Nat) (Rs : List Nat) : Prop := ∀ i, i < 8 → ∃ a, a ∈ Rs ∧ fr i = some a
def FRM (f f2 : Nat → va_E) (Rs : List Nat) : Prop := ∀ a, a ∉ Rs → f2 a = f a
theorem FRM_0 {f : Nat → va_E} {Rs : List Nat} : FRM f f Rs := fun _ _ => rfl
theorem FRM_t {f f2 f3 : Nat → va_E} {Rs : List Nat} (h : FRM f f2 Rs) (h2 : FRM f2 f3 Rs) : FRM f f3 Rs := fun a ha => (h2 a ha).trans (h a ha)
theorem ROWS_up {L : List Nat} {f : Nat → va_E} {kr : ClassId} {Rs : List Nat} {a : Nat} {h : Nat → Int32} (h0 : ROWS L f kr Rs) : ROWS L (va_up f a (.inl (kr, 60, .inl h))) kr Rs := fun b hb => by
  refine ⟨(h0 b hb).1, ?_⟩
  by_cases e : b = a
  · rw [e, va_up_self]; exact ⟨h, rfl⟩
  · rw [va_up_ne _ _ e]; exact (h0 b hb).2
theorem FRM_up {f f2 : Nat → va_E} {Rs : List Nat} {a : Nat} {e : va_E} (h : FRM f f2 Rs) (ha : a ∈ Rs) : FRM f (va_up f2 a e) Rs := fun b hb => by
  have hne : b ≠ a := fun q => hb (by rw [q]; exact ha)
  rw [va_up_ne _ _ hne]; exact h b hb
/-- what may stand in cheap and next -/
def CHB (c : Nat → Nat) (z B : Nat) : Prop := ∀ t, t < z → c t = 2147483647 ∨ c t ≤ B
theorem CHB_s {c : Nat → Nat} {t B v : Nat} (h : CHB c t B) (hv : v = 2147483647 ∨ v ≤ B) : CHB (updN c t v) (t + 1) B := fun u hu => by
  unfold updN
  split
  · exact hv
  · exact h u (by omega)
theorem CHB_k {c : Nat → Nat} {t B v : Nat} (h : CHB c t B) : CHB (updN c t v) t B := fun u hu => by
  unfold updN
  split
  · omega
  · exact h u hu
theorem CHB_1 {c : Nat → Nat} {t B : Nat} (h : CHB c t B) (hv : c t = 2147483647 ∨ c t ≤ B) : CHB c (t + 1) B := fun u hu => by
  rcases Nat.lt_or_ge u t with h1 | h1
  · exact h u h1
  · rw [show u = t by omega]; exact hv
def BYP (x : Int32) (n z B : Nat) : Prop := (x = (-1) ∧ n = 2147483647) ∨ (∃ j, j < z ∧ x = nI j ∧ n ≤ B)
def OJP (x : Int32) (w m : Nat) : Prop := x = (-1) ∨ (∃ j, j < w ∧ x = nI j ∧ 0 < m)
/-- a is ahead of b in their first n -/
def ahd (a b : Nat → Int32) (n : Nat) : Prop := ∃ k, k < n ∧ (∀ j, j < k → a j = b j) ∧ a k < b k
section V2A
variable {p : Program} {l : Launch} {e : Env} {R : Room} {s : State} {m : MethodId} {args : Array Value} {below : List Frame} {meth : Method} {c : Code} {H : Heap} {locs : List Loc} {cells slots : Nat} {Q : State → Prop}
variable {cc : ByteArray} {pc : Nat} {ls : Array Slot} {rest : List Value} {D : va_G} {cl : List vw_C} {a : Nat} {tys : List (ClassId × FieldType)} {ws : va_W}
/-- a row of rows is read -/
theorem va_ald2 (hexec : p.tables.exec = Jvm.exec) (hb : c.code = cc) (hK : va_K D cl tys s) (hP : va_P D cl ws H) (q0 t0 : Nat) {cA : ClassId} {n : Nat} {f : Nat → Option Nat} (ha : ws[q0]? = some (a, .inl (cA, n, .inr (.inr (.inr (.inr f)))))) (ht : tys[t0]? = some (cA, .array .byte)) {i : Int32} (hin : vp_in i n) (hdg : decode cc pc = .ok (.aaload, 1))
    (kk : W p l e R s m args below meth c H locs cells slots Q (F0 m (pc + 1) ls (va_rf (f i.toNatClampNeg) :: rest))) : W p l e R s m args below meth c H locs cells slots Q (F0 m pc ls (.int i :: .ref a :: rest)) := by
  have hlt : i.toNatClampNeg < n := Nat.not_le.mp fun q => hin (Or.inr q)
  exact W.aald (v := va_rf (f i.toNatClampNeg)) (ty := .array .byte) hexec hb (hP q0 _ ha) ((hK.2 t0 _ ht).1 n (fun j => va_rf (f j))) rfl (fun q => by cases q) (by show ¬ (i < 0 ∨ (arrV _ _ _).slots.size ≤ _); rw [arrV_size]; exact hin) (by show (arrV _ _ _).slots[_]? = _; rw [arrV_read _ _ hlt]) rfl rfl hdg kk
end V2A

theorem gt_nat {a b m : Nat} (ha : a ≤ 2800) (hb : b ≤ 2800) (h : nI m < nI a - nI b) (hm : m ≤ 2800) : ∃ d, m < d ∧ d ≤ 2800 ∧ nI a - nI b = nI d := by
  have h1 : (nI a - nI b).toInt = (a : Int) - b := pk_sub_toInt (by omega) (by omega)
  have h2 : (nI m).toInt = (m : Int) := nI_toInt (by omega)
  rw [Int32.lt_iff_toInt_lt, h1, h2] at h
  refine ⟨a - b, by omega, by omega, ?_⟩
  exact pk_sub (by omega)
