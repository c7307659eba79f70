def todo79 : Nat := 0
