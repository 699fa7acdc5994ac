/-- where the law calls its joint -/
noncomputable def zJpc : Nat := 386
