theorem z_head2 : 40056 + (1 : Int32).toBitVec.toNat % 2 ^ 1 * 2 ^ 16 + 1 * 2 ^ (16 + 1) = 236664 := by decide +kernel
theorem zRo_head {g : Nat → Int32} : zRo (upd (upd g 0 (vp_nar .byte 120)) 1 (vp_nar .byte (-100))) 40056 16 := by
  refine ⟨by decide, fun j hj => ?_⟩
  rcases (show j = 0 ∨ j = 1 by omega) with rfl | rfl
  · rw [pk_un (by decide), pk_us]
    decide
  · rw [pk_us]
    decide
/-- the loop over the distances stops early where the copy is full -/
theorem zbst_stop {t : Nat → Int32} {i n dd : Nat} (hd : dd ≤ i) (h : 258 ≤ (zbst t i (min 258 (n - i)) dd).1) : zbst t i (min 258 (n - i)) i = zbst t i (min 258 (n - i)) dd := by
  have h2 := zbst_2 t i (min 258 (n - i)) dd
  have hb := zbst_bd t i (min 258 (n - i)) dd hd
  have hne : (zbst t i (min 258 (n - i)) dd).2 ≠ 0 := by
    rcases h2 with q | q
    · omega
    · exact q
  have hb2 := hb.2 hne
  have e := zbst_full t i (min 258 (n - i)) dd (by omega) (by omega) (i - dd)
  rw [show dd + (i - dd) = i from by omega] at e
  exact e
