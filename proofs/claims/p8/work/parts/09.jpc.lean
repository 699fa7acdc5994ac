/-- where the law calls its joint -/
def zJpc : Nat := 386
