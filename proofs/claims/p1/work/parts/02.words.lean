theorem va_AOA.moved {ty : FieldType} {u U : State} (hvm : u.vm.Alike U.vm) (h : va_AOA ty u) : va_AOA ty U := by
  have e : (Cond.arrayOver (.array ty)).before #[] U = (Cond.arrayOver (.array ty)).before #[] (u.setVm U.vm) := rfl
  unfold va_AOA
  rw [e, Cond.arrayOver_setVmC hvm]
  exact h
theorem pl0_P {D : va_G} {cl : List vw_C} {ws : va_W} {H : Heap} (h : va_P D cl ws H) (f : Nat → va_E) : va_P D cl (ws ++ va_pl [] f) H := by
  rw [show va_pl [] f = [] from rfl, List.append_nil]
  exact h
theorem pl0_D {A : Nat → Prop} {ws : va_W} (h : va_D A ws) (f : Nat → va_E) : va_D A (ws ++ va_pl [] f) := by
  rw [show va_pl [] f = [] from rfl, List.append_nil]
  exact h

/-- what set takes -/
def st_ok (a b : Int32) : Prop := ¬ a < 0 ∧ ¬ 2000 < a ∧ ¬ b < 1 ∧ b ≤ 5000
