/-! A result by its name. -/
noncomputable def zlet {α β : Type} (x : α) (f : α → β) : β := f x
theorem zlet_eq {α β : Type} {x q : α} {f : α → β} (h : q = x) : zlet x f = f q := by
  rw [h]
  rfl
