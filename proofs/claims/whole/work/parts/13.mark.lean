def jz_mark : Nat := 0
