/-! the packing of n bytes: a copy where there is one, else the byte -/
def zu8 (x : Int32) : Nat := x.toBitVec.toNat % 2 ^ 8
theorem zu8_lt (x : Int32) : zu8 x < 256 := Nat.mod_lt _ (by decide)
theorem zu8_eq (x : Int32) : x &&& 255 = nI (zu8 x) := pk_and _ (m := 255) 8 (by decide)
theorem z_lbm : ∀ i, i < 29 → ∀ j, j < 29 → i < j → tn_LENGTH_BASE i < tn_LENGTH_BASE j := by decide +kernel
theorem z_dbm : ∀ i, i < 30 → ∀ j, j < 30 → i < j → tn_DISTANCE_BASE i < tn_DISTANCE_BASE j := by decide +kernel
theorem zIs_uniq {tn : Nat → Nat} {nt x i j : Nat} (hm : ∀ i, i < nt → ∀ j, j < nt → i < j → tn i < tn j) (hi : zIs tn nt x i) (hj : zIs tn nt x j) : i = j := by
  obtain ⟨a1, a2, a3⟩ := hi
  obtain ⟨b1, b2, b3⟩ := hj
  rcases Nat.lt_trichotomy i j with q | q | q
  · rcases a3 with a3 | a3
    · omega
    · rcases Nat.lt_or_ge (i + 1) j with r | r
      · have := hm (i + 1) (by omega) j b1 r
        omega
      · rw [show i + 1 = j from by omega] at a3
        omega
  · exact q
  · rcases b3 with b3 | b3
    · omega
    · rcases Nat.lt_or_ge (j + 1) i with r | r
      · have := hm (j + 1) (by omega) i a1 r
        omega
      · rw [show j + 1 = i from by omega] at b3
        omega
noncomputable def zlk (n : Nat) : Nat := Classical.epsilon (fun k => zIs tn_LENGTH_BASE 29 n k)
noncomputable def zdk (n : Nat) : Nat := Classical.epsilon (fun k => zIs tn_DISTANCE_BASE 30 n k)
theorem zlk_of {n k : Nat} (h : zIs tn_LENGTH_BASE 29 n k) : zlk n = k := zIs_uniq z_lbm (Classical.epsilon_spec (p := fun k => zIs tn_LENGTH_BASE 29 n k) ⟨k, h⟩) h
theorem zdk_of {n k : Nat} (h : zIs tn_DISTANCE_BASE 30 n k) : zdk n = k := zIs_uniq z_dbm (Classical.epsilon_spec (p := fun k => zIs tn_DISTANCE_BASE 30 n k) ⟨k, h⟩) h
noncomputable def zpk (t : Nat → Int32) (n : Nat) : Nat → Nat → Nat → Nat → Nat × Nat
  | 0, _, V, L => (V, L)
  | fu + 1, i, V, L => if i < n then
      (if (zbst t i (min 258 (n - i)) i).2 = 0 then zpk t n fu (i + 1) (zsv V L (zu8 (t i))) (L + zsl (zu8 (t i)))
       else zpk t n fu (i + (zbst t i (min 258 (n - i)) i).1) (zv4 V L (zbst t i (min 258 (n - i)) i).1 (zbst t i (min 258 (n - i)) i).2 (zlk (zbst t i (min 258 (n - i)) i).1) (zdk (zbst t i (min 258 (n - i)) i).2)) (zl4 L (zlk (zbst t i (min 258 (n - i)) i).1) (zdk (zbst t i (min 258 (n - i)) i).2)))
    else (V, L)
theorem zpk_end {t : Nat → Int32} {n fu i V L : Nat} (h : n ≤ i) : zpk t n fu i V L = (V, L) := by
  cases fu with
  | zero => rfl
  | succ fu => rw [zpk, if_neg (by omega)]
theorem zpk_fuel (t : Nat → Int32) (n : Nat) : ∀ (fu gu i V L : Nat), n - i ≤ fu → n - i ≤ gu → zpk t n fu i V L = zpk t n gu i V L
  | 0, gu, i, V, L, h, _ => by rw [zpk_end (by omega), zpk_end (by omega)]
  | fu + 1, 0, i, V, L, _, h => by rw [zpk_end (by omega), zpk_end (by omega)]
  | fu + 1, gu + 1, i, V, L, h1, h2 => by
    rw [zpk, zpk]
    by_cases hi : i < n
    · rw [if_pos hi, if_pos hi]
      split
      · exact zpk_fuel t n fu gu _ _ _ (by omega) (by omega)
      · have := zbst_ge t i (min 258 (n - i)) i
        exact zpk_fuel t n fu gu _ _ _ (by omega) (by omega)
    · rw [if_neg hi, if_neg hi]
theorem zpk_byte {t : Nat → Int32} {n i V L : Nat} (hi : i < n) (h0 : (zbst t i (min 258 (n - i)) i).2 = 0) : zpk t n (n - i) i V L = zpk t n (n - (i + 1)) (i + 1) (zsv V L (zu8 (t i))) (L + zsl (zu8 (t i))) := by
  rw [show n - i = (n - (i + 1)) + 1 from by omega, zpk, if_pos hi, if_pos h0]
theorem zpk_copy {t : Nat → Int32} {n i V L ln dw k d : Nat} (hi : i < n) (hl : (zbst t i (min 258 (n - i)) i).1 = ln) (hd : (zbst t i (min 258 (n - i)) i).2 = dw) (h0 : dw ≠ 0) (hk : zIs tn_LENGTH_BASE 29 ln k) (hdk : zIs tn_DISTANCE_BASE 30 dw d) : zpk t n (n - i) i V L = zpk t n (n - (i + ln)) (i + ln) (zv4 V L ln dw k d) (zl4 L k d) := by
  have hg := zbst_ge t i (min 258 (n - i)) i
  have e : zpk t n (n - i) i V L = zpk t n (n - (i + 1)) (i + ln) (zv4 V L ln dw k d) (zl4 L k d) := by
    rw [show n - i = (n - (i + 1)) + 1 from by omega, zpk, if_pos hi, hl, hd, if_neg h0, zlk_of hk, zdk_of hdk]
  rw [e]
  exact zpk_fuel t n _ _ _ _ _ (by omega) (by omega)
theorem zbst_bd (t : Nat → Int32) (i c : Nat) : ∀ d, d ≤ i → (zbst t i c d).2 ≤ d ∧ ((zbst t i c d).2 ≠ 0 → 3 ≤ (zbst t i c d).1 ∧ (zbst t i c d).1 ≤ c)
  | 0, _ => ⟨Nat.le_refl _, fun h => absurd rfl h⟩
  | d + 1, h => by
    have ih := zbst_bd t i c d (by omega)
    have hg := zbst_ge t i c d
    have hm := zml_le t i (i - (d + 1)) c
    rw [zbst_s]
    split
    · rename_i hc
      exact ⟨Nat.le_refl _, fun _ => ⟨by show 3 ≤ zml t i (i - (d + 1)) c; omega, hm⟩⟩
    · exact ⟨by omega, ih.2⟩
theorem z_sl7 : zsl 257 = 7 := by decide
theorem z_sl8 {k : Nat} (h : k < 29) : zsl (257 + k) ≤ 8 := by
  unfold zsl
  rw [if_neg (by omega), if_neg (by omega)]
  split <;> omega
theorem z_le0 : tn_LENGTH_EXTRA 0 = 0 := by decide
theorem z_lb1 : ∀ k, k < 29 → k ≠ 0 → 4 ≤ tn_LENGTH_BASE k := by decide +kernel
theorem zl4_le {L k d ln dw : Nat} (hk : zIs tn_LENGTH_BASE 29 ln k) (hd : zIs tn_DISTANCE_BASE 30 dw d) (h3 : 3 ≤ ln) (hl : ln ≤ 258) (hw : dw ≤ 4000) : zl4 L k d ≤ L + 9 * ln := by
  obtain ⟨a1, a2, a3, a4⟩ := z_len hk hl
  obtain ⟨b1, b2, b3, b4⟩ := z_dst hd hw
  unfold zl4 zl2 zl1
  by_cases h0 : k = 0
  · subst h0
    have e1 : zsl (257 + 0) = 7 := z_sl7
    have e2 := z_le0
    omega
  · have := z_lb1 k a4 h0
    have := z_sl8 a4
    omega
/-- the chains behind the places ahead of a -/
def zCh (t : Nat → Int32) (n a : Nat) (g w : Nat → Int32) : Prop := (∀ h, h < 4096 → g h = zprv t h (min a (n - 2))) ∧ (∀ j, j < min a (n - 2) → w j = zprv t (zhs t j) j)
theorem zCh_0 {t : Nat → Int32} {n : Nat} {g w : Nat → Int32} (h : ∀ j, j < 4096 → g j = -1) : zCh t n 0 g w := ⟨fun k hk => by rw [Nat.zero_min]; exact h k hk, fun j hj => by omega⟩
theorem zCh_s {t : Nat → Int32} {n a : Nat} {g w g2 w2 : Nat → Int32} (h : zCh t n a g w) (hu : (n < a + 3 → g2 = g ∧ w2 = w) ∧ (a + 3 ≤ n → g2 = upd g (zhs t a) (nI a) ∧ w2 = upd w a (g (zhs t a)))) : zCh t n (a + 1) g2 w2 := by
  rcases Nat.lt_or_ge n (a + 3) with q | q
  · obtain ⟨rfl, rfl⟩ := hu.1 q
    unfold zCh at h ⊢
    rw [show min (a + 1) (n - 2) = min a (n - 2) from by omega]
    exact h
  · obtain ⟨rfl, rfl⟩ := hu.2 q
    unfold zCh at h ⊢
    rw [show min a (n - 2) = a from by omega] at h
    rw [show min (a + 1) (n - 2) = a + 1 from by omega]
    refine ⟨fun k hk => ?_, fun j hj => ?_⟩
    · show _ = if zhs t a = k then nI a else zprv t k a
      by_cases e : zhs t a = k
      · subst e
        rw [pk_us, if_pos rfl]
      · rw [pk_un (fun q => e q.symm), if_neg e]
        exact h.1 k hk
    · by_cases e : j = a
      · subst e
        rw [pk_us]
        exact h.1 _ (zhs_lt t j)
      · rw [pk_un e]
        exact h.2 j (by omega)
