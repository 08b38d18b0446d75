/-! the whole stream of a packing -/
theorem z_head : zhf 0 0 30876 2 + 1 * 2 ^ (0 + 8 * 2) + 1 * 2 ^ (0 + 8 * 2 + 1) = 236664 := by decide +kernel
noncomputable def zPR (t : Nat → Int32) (n : Nat) : Nat × Nat := zpk t n n 0 236664 19
noncomputable def zPM (t : Nat → Int32) (n : Nat) : Nat := ((zPR t n).2 + zsl 256 + 7) / 8 * 8
noncomputable def zPL (t : Nat → Int32) (n : Nat) : Nat := zPM t n + 8 * 4
noncomputable def zPV (t : Nat → Int32) (n : Nat) : Nat := zhf (zsv (zPR t n).1 (zPR t n).2 256) (zPM t n) (zadler t n) 4
theorem z_sl256 : zsl 256 = 7 := by decide
theorem zOut_0 (g : Nat → Int32) : zOut g 0 0 := ⟨by decide, fun j h => absurd h (Nat.not_lt_zero _)⟩
