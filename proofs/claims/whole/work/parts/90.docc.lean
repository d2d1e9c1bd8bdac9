/-- the answers of document, from the rows -/
def docC (z : Nat) (nu tc fa me : Nat → Nat) (i w : Nat) : Nat := if w = 0 then z else if w = 1 then nu (fa i) else if w = 2 then me (fa i) else tc i
