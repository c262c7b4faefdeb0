def gw8 (a b c d e f g h : Nat → Int32) : Nat → Nat → Int32 := fun k => match k with
  | 0 => a
  | 1 => b
  | 2 => c
  | 3 => d
  | 4 => e
  | 5 => f
  | 6 => g
  | _ => h
def hBk (old sz : Nat) : Nat := (old + (sz - 1)) % 6
