/-- how many inputs a kind has; how many of them it depends on -/
def inpN (k : Nat) : Nat := if k = 0 then 0 else if k = 1 ∨ k = 8 then 1 else if k = 5 then 3 else 2
def depN (k : Nat) : Nat := if k = 8 then 0 else inpN k
