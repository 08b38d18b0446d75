section
variable {f o : Nat → Int32} {lim mo kd ps mm : Nat}
theorem zb1_0 (h : kd = 0) : zb1 f lim mo kd ps mm o = zsd f ((ps + 7) / 8 * 8) lim mo mm o := if_pos h
theorem zb1_1 (h : kd = 1) : zb1 f lim mo kd ps mm o = zbk zfl 288 zfd 32 f lim mo 32000 ps mm o := by
  unfold zb1
  rw [if_neg (by omega), if_pos h]
theorem zb1_2n (h : kd = 2) (h2 : zts f ps lim = none) : zb1 f lim mo kd ps mm o = none := by
  unfold zb1
  rw [if_neg (by omega), if_neg (by omega), if_pos h]
  simp only [h2]
theorem zb1_2 {p mn bk : Nat} {L : Nat → Nat} (h : kd = 2) (h2 : zts f ps lim = some (p, mn, bk, L)) : zb1 f lim mo kd ps mm o = zbk L mn (fun i => L (mn + i)) bk f lim mo 32000 p mm o := by
  unfold zb1
  rw [if_neg (by omega), if_neg (by omega), if_pos h]
  simp only [h2]
theorem zb1_3 (h : 3 ≤ kd) : zb1 f lim mo kd ps mm o = none := by
  unfold zb1
  rw [if_neg (by omega), if_neg (by omega), if_neg (by omega)]
end
theorem z_lim1 {n : Nat} (h : 4 ≤ n) : (nI n - 4) * 8 = nI (8 * (n - 4)) := by
  rw [show nI n - 4 = nI (n - 4) from pk_sub (a := n) (b := 4) h]
  exact (pk_mul (n - 4) 8).trans (congrArg nI (Nat.mul_comm _ _))
theorem z_lim {n : Nat} (h : n ≤ 4000) : ((nI n - 4) * 8).toNatClampNeg = 8 * (n - 4) := by
  rcases Nat.lt_or_ge n 4 with c | c
  · rcases (show n = 0 ∨ n = 1 ∨ n = 2 ∨ n = 3 by omega) with rfl | rfl | rfl | rfl <;> decide
  · rw [z_lim1 c, nI_clamp (by omega)]
