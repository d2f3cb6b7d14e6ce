def W0 (a f : Nat) : Bool := false
def Wat (a f : Nat) : Bool := Nat.beq a 117 && Nat.beq f 2

