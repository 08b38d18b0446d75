/-! copies: how far two places are alike, the longest of the nearest, hashes and their chains -/
def zml (t : Nat → Int32) (i j : Nat) : Nat → Nat
  | 0 => 0
  | c + 1 => if zml t i j c = c ∧ t (j + c) = t (i + c) then c + 1 else zml t i j c
theorem zml_le (t : Nat → Int32) (i j : Nat) : ∀ c, zml t i j c ≤ c
  | 0 => Nat.le_refl _
  | c + 1 => by
    have h := zml_le t i j c
    show (if zml t i j c = c ∧ t (j + c) = t (i + c) then c + 1 else zml t i j c) ≤ c + 1
    split <;> omega
theorem zml_eq (t : Nat → Int32) (i j : Nat) : ∀ c m, m < zml t i j c → t (j + m) = t (i + m)
  | 0, m, h => absurd h (Nat.not_lt_zero _)
  | c + 1, m, h => by
    have h' : m < (if zml t i j c = c ∧ t (j + c) = t (i + c) then c + 1 else zml t i j c) := h
    split at h'
    · rename_i hc
      rcases Nat.lt_or_ge m c with q | q
      · exact zml_eq t i j c m (by omega)
      · rw [show m = c from by omega]
        exact hc.2
    · exact zml_eq t i j c m h'
theorem zml_all (t : Nat → Int32) (i j : Nat) : ∀ c k, k ≤ c → (∀ m, m < k → t (j + m) = t (i + m)) → k ≤ zml t i j c
  | 0, k, h, _ => by omega
  | c + 1, k, h, ha => by
    show k ≤ (if zml t i j c = c ∧ t (j + c) = t (i + c) then c + 1 else zml t i j c)
    rcases Nat.lt_or_ge k (c + 1) with q | q
    · have := zml_all t i j c k (by omega) ha
      split <;> omega
    · have e : k = c + 1 := by omega
      subst e
      have h1 := zml_all t i j c c (Nat.le_refl _) (fun m hm => ha m (by omega))
      have h2 := zml_le t i j c
      rw [if_pos ⟨by omega, ha c (by omega)⟩]
      exact Nat.le_refl _
/-- what a loop that counts finds -/
theorem zml_of {t : Nat → Int32} {i j c k : Nat} (hk : k ≤ c) (ha : ∀ m, m < k → t (j + m) = t (i + m)) (he : k = c ∨ ¬ t (j + k) = t (i + k)) : zml t i j c = k := by
  have h1 := zml_all t i j c k hk ha
  have h2 := zml_le t i j c
  rcases he with he | he
  · omega
  · rcases Nat.lt_or_ge k (zml t i j c) with q | q
    · exact absurd (zml_eq t i j c k q) he
    · omega
/-- the longest copy for place i, the nearest of these, among the places i - 1 .. i - d; (2, 0): none of three -/
def zbst (t : Nat → Int32) (i c : Nat) : Nat → Nat × Nat
  | 0 => (2, 0)
  | d + 1 => if (zbst t i c d).1 < zml t i (i - (d + 1)) c then (zml t i (i - (d + 1)) c, d + 1) else zbst t i c d
def zhx (t : Nat → Int32) (j : Nat) : Int32 := ((t j <<< ((8 : Int32) &&& 31)) ^^^ (t (j + 1) <<< ((4 : Int32) &&& 31))) ^^^ t (j + 2)
def zhs (t : Nat → Int32) (j : Nat) : Nat := (zhx t j).toBitVec.toNat % 2 ^ 12
theorem zhs_lt (t : Nat → Int32) (j : Nat) : zhs t j < 4096 := Nat.mod_lt _ (by decide)
theorem zhs_eq (t : Nat → Int32) (j : Nat) : zhx t j &&& 4095 = nI (zhs t j) := pk_and _ (m := 4095) 12 (by decide)
/-- the last place ahead of j with the hash h, or -1 -/
def zprv (t : Nat → Int32) (h : Nat) : Nat → Int32
  | 0 => -1
  | j + 1 => if zhs t j = h then nI j else zprv t h j
theorem zprv_c (t : Nat → Int32) (h : Nat) : ∀ J, (zprv t h J = -1 ∧ ∀ j, j < J → zhs t j ≠ h) ∨ ∃ j, j < J ∧ zprv t h J = nI j ∧ zhs t j = h ∧ ∀ i, j < i → i < J → zhs t i ≠ h
  | 0 => Or.inl ⟨rfl, fun _ h => absurd h (Nat.not_lt_zero _)⟩
  | J + 1 => by
    show ((if zhs t J = h then nI J else zprv t h J) = -1 ∧ _) ∨ ∃ j, j < J + 1 ∧ (if zhs t J = h then nI J else zprv t h J) = nI j ∧ _
    by_cases e : zhs t J = h
    · right
      exact ⟨J, by omega, if_pos e, e, fun i h1 h2 => by omega⟩
    · rw [if_neg e]
      rcases zprv_c t h J with ⟨a, b⟩ | ⟨j, a, b, c, d⟩
      · exact Or.inl ⟨a, fun j hj => by rcases Nat.lt_or_ge j J with q | q; exact b j q; rw [show j = J from by omega]; exact e⟩
      · exact Or.inr ⟨j, by omega, b, c, fun i h1 h2 => by rcases Nat.lt_or_ge i J with q | q; exact d i h1 q; rw [show i = J from by omega]; exact e⟩
theorem zhs_same {t : Nat → Int32} {i j : Nat} (h0 : t j = t i) (h1 : t (j + 1) = t (i + 1)) (h2 : t (j + 2) = t (i + 2)) : zhs t j = zhs t i := by
  unfold zhs zhx
  rw [h0, h1, h2]
/-- a place with another hash has no three bytes alike -/
theorem zml_hash {t : Nat → Int32} {i j c : Nat} (h : zhs t j ≠ zhs t i) : zml t i j c ≤ 2 := by
  rcases Nat.lt_or_ge 2 (zml t i j c) with q | q
  · have a0 := zml_eq t i j c 0 (by omega)
    have a1 := zml_eq t i j c 1 (by omega)
    have a2 := zml_eq t i j c 2 (by omega)
    exact absurd (zhs_same a0 a1 a2) h
  · exact q
theorem zbst_ge (t : Nat → Int32) (i c : Nat) : ∀ d, 2 ≤ (zbst t i c d).1
  | 0 => Nat.le_refl _
  | d + 1 => by
    have h := zbst_ge t i c d
    show 2 ≤ (if (zbst t i c d).1 < zml t i (i - (d + 1)) c then (zml t i (i - (d + 1)) c, d + 1) else zbst t i c d).1
    split
    · show 2 ≤ zml t i (i - (d + 1)) c
      omega
    · exact h
theorem zbst_s (t : Nat → Int32) (i c d : Nat) : zbst t i c (d + 1) = if (zbst t i c d).1 < zml t i (i - (d + 1)) c then (zml t i (i - (d + 1)) c, d + 1) else zbst t i c d := rfl
/-- what the finder holds behind d places: the best and its distance, where there is a copy of three; else less than three -/
def zFd (t : Nat → Int32) (i c d : Nat) (best : Nat) (dist : Int32) : Prop := ((zbst t i c d).2 = 0 ∧ best ≤ 2) ∨ ((zbst t i c d).2 ≠ 0 ∧ best = (zbst t i c d).1 ∧ dist = nI (zbst t i c d).2 ∧ 3 ≤ best)
theorem zbst_skip (t : Nat → Int32) (i c d : Nat) (h : zml t i (i - (d + 1)) c ≤ 2) : zbst t i c (d + 1) = zbst t i c d := by
  rw [zbst_s, if_neg]
  have := zbst_ge t i c d
  omega
theorem zbst_skips (t : Nat → Int32) (i c d : Nat) : ∀ k, (∀ m, d ≤ m → m < d + k → zml t i (i - (m + 1)) c ≤ 2) → zbst t i c (d + k) = zbst t i c d
  | 0, _ => rfl
  | k + 1, h => by
    rw [show d + (k + 1) = (d + k) + 1 from rfl, zbst_skip t i c (d + k) (h _ (by omega) (by omega))]
    exact zbst_skips t i c d k (fun m h1 h2 => h m h1 (by omega))
theorem zbst_full (t : Nat → Int32) (i c d : Nat) (h : (zbst t i c d).1 = c) (h3 : 2 ≤ c) : ∀ k, zbst t i c (d + k) = zbst t i c d
  | 0 => rfl
  | k + 1 => by
    have e := zbst_full t i c d h h3 k
    rw [show d + (k + 1) = (d + k) + 1 from rfl, zbst_s, e, if_neg]
    have := zml_le t i (i - (d + k + 1)) c
    omega
theorem zbst_2 (t : Nat → Int32) (i c : Nat) : ∀ d, (zbst t i c d).1 = 2 ∨ (zbst t i c d).2 ≠ 0
  | 0 => Or.inl rfl
  | d + 1 => by
    rw [zbst_s]
    split
    · exact Or.inr (by simp)
    · exact zbst_2 t i c d
/-- one more place: what the finder does is what the list of places says -/
theorem zFd_step {t : Nat → Int32} {i c d best : Nat} {dist : Int32} (h : zFd t i c d best dist) (same : Nat) (hs : (same = 0 ∧ zml t i (i - (d + 1)) c ≤ best) ∨ same = zml t i (i - (d + 1)) c) :
    (best < same → zFd t i c (d + 1) same (nI (d + 1))) ∧ (¬ best < same → zFd t i c (d + 1) best dist) := by
  refine ⟨fun hb => ?_, fun hb => ?_⟩
  · have hs' : same = zml t i (i - (d + 1)) c := by omega
    subst hs'
    rcases h with ⟨h0, h1⟩ | ⟨h0, h1, h2, h3⟩
    · by_cases q : 2 < zml t i (i - (d + 1)) c
      · right
        have hz : (zbst t i c d).1 = 2 ∨ (zbst t i c d).2 ≠ 0 := zbst_2 t i c d
        have e : zbst t i c (d + 1) = (zml t i (i - (d + 1)) c, d + 1) := by
          rw [zbst_s, if_pos]
          omega
        rw [e]
        exact ⟨by simp, rfl, rfl, q⟩
      · left
        rw [zbst_skip t i c d (by omega)]
        exact ⟨h0, by omega⟩
    · right
      have e : zbst t i c (d + 1) = (zml t i (i - (d + 1)) c, d + 1) := by
        rw [zbst_s, if_pos]
        omega
      rw [e]
      exact ⟨by simp, rfl, rfl, by omega⟩
  · have hm : zml t i (i - (d + 1)) c ≤ best := by omega
    rcases h with ⟨h0, h1⟩ | ⟨h0, h1, h2, h3⟩
    · left
      rw [zbst_skip t i c d (by omega)]
      exact ⟨h0, h1⟩
    · right
      have e : zbst t i c (d + 1) = zbst t i c d := by
        rw [zbst_s, if_neg]
        omega
      rw [e]
      exact ⟨h0, h1, h2, h3⟩
theorem z_min {k : Nat} (h : k < 2 ^ 31) : (if nI k < 258 then nI k else 258) = nI (min 258 k) := by
  by_cases c : k < 258
  · have hc : nI k < (258 : Int32) := (nI_ltI (a := k) (b := 258) h (by decide)).mpr c
    rw [if_pos hc, Nat.min_eq_right (by omega)]
  · have hc : ¬ nI k < (258 : Int32) := fun q => c ((nI_ltI (a := k) (b := 258) h (by decide)).mp q)
    rw [if_neg hc, Nat.min_eq_left (by omega)]
    rfl
theorem z_nm1 {j : Nat} (h : j < 2 ^ 31) : ¬ nI j = -1 := fun q => absurd (nI_pos h) (by rw [q]; decide)
theorem zbst_no {t : Nat → Int32} {i c : Nat} (h : c < 3) : ∀ {d : Nat}, (zbst t i c d).2 = 0
  | 0 => rfl
  | d + 1 => by
    have := zml_le t i (i - (d + 1)) c
    rw [zbst_skip t i c d (by omega)]
    exact zbst_no h
theorem z_fin {t : Nat → Int32} {i c best : Nat} {dist r : Int32} (h : zFd t i c i best dist) (hr : (best < 3 ∧ r = 0) ∨ (3 ≤ best ∧ r = nI best)) : (r = nI (if (zbst t i c i).2 = 0 then 0 else (zbst t i c i).1)) ∧ ((zbst t i c i).2 ≠ 0 → dist = nI (zbst t i c i).2) := by
  rcases h with ⟨h0, h1⟩ | ⟨h0, h1, h2, h3⟩
  · rw [if_pos h0]
    exact ⟨by rcases hr with q | q; exact q.2; omega, fun q => absurd h0 q⟩
  · rw [if_neg h0, ← h1]
    exact ⟨by rcases hr with q | q; omega; exact q.2, fun _ => h2⟩
