/-- times times the length x from place a on -/
def zrep (lf : Nat → Int32) (a : Nat) (x : Int32) : Nat → (Nat → Int32)
  | 0 => lf
  | k + 1 => upd (zrep lf a x k) (a + k) x
