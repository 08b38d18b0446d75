/-! the law's own numbers -/
theorem z_lhd1 {it L : Nat} (hL : L ≤ 3072) (h : nI L - 6 < nI (6 * it)) (ht : 6 * it ≤ L) : L < 6 * it + 6 := by
  rw [Int32.lt_iff_toInt_lt, show nI L - 6 = nI L - nI 6 from rfl, pk_sub_toInt (by omega) (by omega), nI_toInt (by omega)] at h
  omega
theorem z_lhd2 {it L : Nat} (hL : L ≤ 3072) (h : ¬ nI L - 6 < nI (6 * it)) (ht : 6 * it ≤ L) : 6 * it + 6 ≤ L := by
  rw [Int32.lt_iff_toInt_lt, show nI L - 6 = nI L - nI 6 from rfl, pk_sub_toInt (by omega) (by omega), nI_toInt (by omega)] at h
  omega
theorem z_cmp {x y : Int64} (h : x = y) : lg_cmp x y = 0 := by
  subst h
  simp [lg_cmp]
theorem zwd_ag {g g2 : Nat → Int32} {rn j : Nat} (h : zAg g g2 rn) : ∀ k, zwd g rn j k = zwd g2 rn j k
  | 0 => rfl
  | k + 1 => by
    show (zwd g rn j k <<< _) ||| _ = (zwd g2 rn j k <<< _) ||| _
    rw [zwd_ag h k]
    by_cases c : j + k < rn
    · rw [if_pos c, if_pos c, h _ c]
    · rw [if_neg c, if_neg c]
theorem zOut_ag {u w : Nat → Int32} {V L : Nat} (h : zOut u V L) (h2 : zOut w V L) : zAg u w (L / 8) := fun j hj => (h.2 j hj).trans (h2.2 j hj).symm
theorem zBy_feed {f : Nat → Int32} {tn : Nat} {x1 x2 x3 x4 x5 : Int32} (h : zBy f tn) : zBy (zap4 (zap4 (zap4 (zap4 (zap4 f tn x1) (tn + 4) x2) (tn + 8) x3) (tn + 12) x4) (tn + 16) x5) (tn + 20) := zBy_apk (tn := tn + 16) (zBy_apk (tn := tn + 12) (zBy_apk (tn := tn + 8) (zBy_apk (tn := tn + 4) (zBy_apk h 4) 4) 4) 4) 4
theorem z_patch2 {tn j : Nat} {i : Int32} (ht : tn ≤ 4000) (hj : j < tn) (hi : i = nI j) (h : i < 0 ∨ nI tn - 1 < i) : False := by
  subst hi
  rcases h with h | h
  · exact absurd h (Int32.not_lt.mpr (nI_pos' (by omega)))
  · rw [show nI tn - 1 = nI (tn - 1) from pk_sub (a := tn) (b := 1) (by omega), nI_ltI (by omega) (by omega)] at h
    omega
theorem z_ge2 {tn j : Nat} {i : Int32} (ht : tn ≤ 8192) (hj : j < tn) (hi : i = nI j) (h : i < 0 ∨ nI tn ≤ i) : False := by
  subst hi
  rcases h with h | h
  · exact absurd h (Int32.not_lt.mpr (nI_pos' (by omega)))
  · rw [nI_leI (by omega) (by omega)] at h
    omega
theorem z_end2 {tn : Nat} {k : Int32} (ht : tn ≤ 4000) (h0 : 0 ≤ k) (h1 : k ≤ nI tn) : ∃ j, j ≤ tn ∧ k = nI j := nI_of2 (nI_toInt (n := tn) (by omega)) (Int32.not_lt.mpr h0) h1
theorem z_rng {a b k : Int32} (h0 : a ≤ k) (h1 : k ≤ b) (h : k < a ∨ b < k) : False := h.elim (fun q => absurd h0 (Int32.not_le.mpr q)) (fun q => absurd h1 (Int32.not_le.mpr q))
theorem z_bk {u w f g g2 : Nat → Int32} {rn : Nat} (hu : ∀ j, u j = if j < rn then g j else f j) (hw : ∀ j, w j = if j < rn then g2 j else f j) (h : zAg g g2 rn) : w = u := by
  funext j
  rw [hu, hw]
  by_cases c : j < rn
  · rw [if_pos c, if_pos c, h j c]
  · rw [if_neg c, if_neg c]
theorem z_bkby {u f g : Nat → Int32} {rn : Nat} (hu : ∀ j, u j = if j < rn then g j else f j) (h : zBy g rn) : zBy u rn := fun j hj => by
  rw [hu, if_pos hj]
  exact h j hj
theorem z_nI8 {a b : Nat} (ha : a ≤ 8192) (hb : b ≤ 8192) (h : nI a = nI b) : a = b := (nI_eq (by omega) (by omega)).mp h
theorem z_fl1 {bd k : Int32} {tn kn : Nat} (h1 : 1 ≤ bd) (h2 : bd ≤ 256) (h3 : k = nI kn) (h4 : tn + kn ≤ 4000) (h : bd < 1 ∨ 256 < bd ∨ k < 0 ∨ 4000 < k) : False := by
  subst h3
  rcases h with h | h | h | h
  · exact absurd h1 (Int32.not_le.mpr h)
  · exact absurd h2 (Int32.not_le.mpr h)
  · exact absurd h (Int32.not_lt.mpr (nI_pos' (by omega)))
  · exact absurd ((nI_ltI (a := 4000) (b := kn) (by omega) (by omega)).mp h) (by omega)
theorem z_fl2 {k : Int32} {tn kn : Nat} (ht : tn ≤ 4000) (h3 : k = nI kn) (h4 : tn + kn ≤ 4000) (h : nI (4000 - tn) < k) : False := by
  subst h3
  exact absurd ((nI_ltI (by omega) (by omega)).mp h) (by omega)
theorem z_fl3 {bd k : Int32} (h1 : 1 ≤ bd ∧ bd ≤ 256) (h2 : 0 ≤ k ∧ k ≤ 4000) (h : bd < 1 ∨ 256 < bd ∨ k < 0 ∨ 4000 < k) : False := by
  rcases h with h | h | h | h
  · exact absurd h1.1 (Int32.not_le.mpr h)
  · exact absurd h1.2 (Int32.not_le.mpr h)
  · exact absurd h2.1 (Int32.not_le.mpr h)
  · exact absurd h2.2 (Int32.not_le.mpr h)
theorem z_op1 {k : Int32} {mo : Nat} (h2 : mo ≤ 8192) (h1 : k = nI mo) (h : k < 0 ∨ 8192 < k) : False := by
  subst h1
  rcases h with h | h
  · exact absurd h (Int32.not_lt.mpr (nI_pos' (by omega)))
  · exact absurd ((nI_ltI (a := 8192) (b := mo) (by omega) (by omega)).mp h) (by omega)
