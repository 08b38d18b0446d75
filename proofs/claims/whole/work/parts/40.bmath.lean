def zBy (g : Nat → Int32) (k : Nat) : Prop := ∀ j, j < k → ∃ x : Int32, g j = x.toInt8.toInt32
theorem zBy_fit {g : Nat → Int32} {k j : Nat} (h : zBy g k) (hj : j < k) : fits .byte (.int (g j)) = true := by
  obtain ⟨x, e⟩ := h j hj
  rw [e]
  exact pk_fb x
theorem zBy_nar {g : Nat → Int32} {k : Nat} (h : zBy g k) : ∀ j, j < k → vp_nar .byte (g j) = g j := fun j hj => by
  obtain ⟨x, e⟩ := h j hj
  rw [e]
  exact pk_vb x
theorem z_cpy {f g : Nat → Int32} {k j : Nat} (h : j < k) : va_cpy f g 0 0 k j = f j := by
  rw [pk_cpy_in (Nat.zero_le _) (by omega)]
  congr 1
  omega
theorem z_cpy2 {f g : Nat → Int32} {k : Nat} (j : Nat) : va_cpy f g 0 0 k j = if j < k then f j else g j := by
  by_cases h : j < k
  · rw [if_pos h, z_cpy h]
  · rw [if_neg h, pk_cpy_out (by omega)]
