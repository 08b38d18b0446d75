/-! a stream's head and its sum -/
def zHd (f : Nat → Int32) (a : Nat) : Prop := zbv f a 8 % 2 ^ 4 = 8 ∧ zbv f a 8 / 2 ^ 4 ≤ 7 ∧ (nI (zbv f (a + 8) 8) &&& 32) = 0 ∧ (zbv f a 8 * 256 + zbv f (a + 8) 8) % 31 = 0
def zdu (f : Nat → Int32) (a : Nat) : Nat → Int32
  | 0 => 0
  | j + 1 => (zdu f a j <<< ((8 : Int32) &&& 31)) ||| (f (a + j) &&& 255)
