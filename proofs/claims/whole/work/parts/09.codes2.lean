def zCS (ℓ : Nat → Nat) (n : Nat) (co sy : Nat → Int32) : Prop := (∀ k, k < 16 → co k = nI (zcnt ℓ n k)) ∧ (∀ j, j < zoff ℓ n 16 → sy j = nI (zsym ℓ n j))
theorem z_cntup {ℓ : Nat → Nat} {i : Nat} {g : Nat → Int32} (h : ∀ k, k < 16 → g k = nI (zcnt ℓ i k)) (h15 : ℓ i ≤ 15) : ∀ k, k < 16 → upd g (ℓ i) (nI (zcnt ℓ i (ℓ i) + 1)) k = nI (zcnt ℓ (i + 1) k) := by
  intro k hk
  rw [zcnt_s]
  by_cases e : k = ℓ i
  · subst e
    rw [pk_us, if_pos rfl]
  · rw [pk_un e, if_neg (fun q => e q.symm), h k hk]
    rfl
theorem z_plup {ℓ : Nat → Nat} {n i : Nat} {g : Nat → Int32} (h : ∀ k, k ≠ 0 → k < 16 → g k = nI (zoff ℓ n k + zcnt ℓ i k)) (h15 : ℓ i ≤ 15) : ∀ k, k ≠ 0 → k < 16 → upd g (ℓ i) (nI (zoff ℓ n (ℓ i) + zcnt ℓ i (ℓ i) + 1)) k = nI (zoff ℓ n k + zcnt ℓ (i + 1) k) := by
  intro k h0 hk
  rw [zcnt_s]
  by_cases e : k = ℓ i
  · subst e
    rw [pk_us, if_pos rfl]
    rfl
  · rw [pk_un e, if_neg (fun q => e q.symm), h k h0 hk]
    rfl
theorem z_plup0 {ℓ : Nat → Nat} {n i : Nat} {g : Nat → Int32} (h : ∀ k, k ≠ 0 → k < 16 → g k = nI (zoff ℓ n k + zcnt ℓ i k)) (h0 : ℓ i = 0) : ∀ k, k ≠ 0 → k < 16 → g k = nI (zoff ℓ n k + zcnt ℓ (i + 1) k) := by
  intro k k0 hk
  rw [zcnt_s, if_neg (by omega), h k k0 hk]
  rfl
theorem z_syup {ℓ : Nat → Nat} {n i : Nat} {g : Nat → Int32} (h : ∀ s, s < i → ℓ s ≠ 0 → g (zpos ℓ n s) = nI s) (hi : i < n) (h0 : ℓ i ≠ 0) : ∀ s, s < i + 1 → ℓ s ≠ 0 → upd g (zoff ℓ n (ℓ i) + zcnt ℓ i (ℓ i)) (nI i) (zpos ℓ n s) = nI s := by
  intro s hs hz
  show upd g (zpos ℓ n i) (nI i) (zpos ℓ n s) = nI s
  by_cases e : s = i
  · subst e
    exact pk_us
  · rw [pk_un (fun q => e (zpos_inj ℓ (by omega) hi hz h0 q))]
    exact h s (by omega) hz
theorem z_syup0 {ℓ : Nat → Nat} {n i : Nat} {g : Nat → Int32} (h : ∀ s, s < i → ℓ s ≠ 0 → g (zpos ℓ n s) = nI s) (h0 : ℓ i = 0) : ∀ s, s < i + 1 → ℓ s ≠ 0 → g (zpos ℓ n s) = nI s := by
  intro s hs hz
  by_cases e : s = i
  · subst e
    exact absurd h0 hz
  · exact h s (by omega) hz
theorem zfree_none {c : Nat → Nat} {k : Nat} (h : zfree c k = none) : ∀ d, zfree c (k + d) = none
  | 0 => h
  | d + 1 => by
    show (match zfree c (k + d) with | none => none | some f => if c (k + d + 1) ≤ 2 * f then some (2 * f - c (k + d + 1)) else none) = none
    rw [zfree_none h d]
theorem zfree_s {c : Nat → Nat} {k f : Nat} (h : zfree c k = some f) : zfree c (k + 1) = if c (k + 1) ≤ 2 * f then some (2 * f - c (k + 1)) else none := by
  show (match zfree c k with | none => none | some f => if c (k + 1) ≤ 2 * f then some (2 * f - c (k + 1)) else none) = _
  rw [h]
theorem z_no {ℓ : Nat → Nat} {n k f : Nat} (h : zfree (zcnt ℓ n) k = some f) (hk : k < 15) (hc : 2 * f < zcnt ℓ n (k + 1)) : ¬ zallow ℓ n := by
  rintro ⟨f', h1, -⟩
  have h2 : zfree (zcnt ℓ n) (k + 1) = none := by rw [zfree_s h, if_neg (by omega)]
  have h3 := zfree_none h2 (14 - k)
  rw [show k + 1 + (14 - k) = 15 from by omega, h1] at h3
  cases h3
theorem zdec_gt (c : Nat → Nat) (f : Nat → Int32) (a : Nat) : ∀ (fu k code first place : Nat) (r : Nat × Nat), zdec c f a fu k code first place = some r → k < r.2
  | 0, _, _, _, _, _, h => by cases h
  | fu + 1, k, code, first, place, r, h => by
    unfold zdec at h
    split at h
    · cases h
      exact Nat.lt_succ_self k
    · have := zdec_gt c f a fu _ _ _ _ r h
      omega
theorem zrd_none1 {ℓ : Nat → Nat} {n : Nat} {f : Nat → Int32} {a lim fu k code first place : Nat} (h : zdec (zcnt ℓ n) f a 15 0 0 0 0 = zdec (zcnt ℓ n) f a fu k code first place) (hl : lim ≤ a + k) : zrd ℓ n f a lim = none := by
  unfold zrd
  rw [h]
  cases hz : zdec (zcnt ℓ n) f a fu k code first place with
  | none => rfl
  | some r =>
    have := zdec_gt _ _ _ _ _ _ _ _ _ hz
    exact if_neg (by omega)
theorem zrd_none2 {ℓ : Nat → Nat} {n : Nat} {f : Nat → Int32} {a lim k code first place : Nat} (h : zdec (zcnt ℓ n) f a 15 0 0 0 0 = zdec (zcnt ℓ n) f a 0 k code first place) : zrd ℓ n f a lim = none := by
  unfold zrd
  rw [h]
  rfl
theorem zrd_some {ℓ : Nat → Nat} {n : Nat} {f : Nat → Int32} {a lim fu k code first place : Nat} (h : zdec (zcnt ℓ n) f a 15 0 0 0 0 = zdec (zcnt ℓ n) f a (fu + 1) k code first place) (hl : a + k + 1 ≤ lim) (hc : 2 * code + zbt f (a + k) - 2 * first < zcnt ℓ n (k + 1)) : zrd ℓ n f a lim = some (zsym ℓ n (place + (2 * code + zbt f (a + k)) - 2 * first), a + k + 1) := by
  unfold zrd
  rw [h]
  unfold zdec
  rw [if_pos hc]
  exact if_pos (by show a + (k + 1) ≤ lim; omega)
theorem zdec_s {c : Nat → Nat} {f : Nat → Int32} {a fu k code first place : Nat} (hc : ¬ 2 * code + zbt f (a + k) - 2 * first < c (k + 1)) : zdec c f a (fu + 1) k code first place = zdec c f a fu (k + 1) (2 * code + zbt f (a + k)) (2 * first + c (k + 1)) (place + c (k + 1)) := by
  rw [zdec, if_neg hc]
theorem z_p2 {k : Nat} (h : k ≤ 15) : 2 ^ k ≤ 32768 := Nat.le_trans (Nat.pow_le_pow_right (by decide) h) (by decide)
