/-! the lengths of both sets, as a block tells them -/
def zNup (L : Nat → Nat) (k x : Nat) : Nat → Nat := fun j => if j = k then x else L j
def zNrep (L : Nat → Nat) (a x : Nat) : Nat → (Nat → Nat)
  | 0 => L
  | k + 1 => zNup (zNrep L a x k) (a + k) x
/-- how often symbol s repeats, its extra bits from bit p on -/
def zrt (f : Nat → Int32) (s p : Nat) : Nat := tn_REPEAT_BASE (s - 16) + zbv f p (tn_REPEAT_EXTRA (s - 16))
noncomputable def zlr (ℓc : Nat → Nat) (f : Nat → Int32) (lim all : Nat) : Nat → Nat → Nat → (Nat → Nat) → Option (Nat × (Nat → Nat))
  | 0, kn, ps, L => if kn < all then none else some (ps, L)
  | fu + 1, kn, ps, L => if kn < all then
      match zrd ℓc 19 f ps lim with
      | none => none
      | some sp => if sp.1 < 16 then zlr ℓc f lim all fu (kn + 1) sp.2 (zNup L kn sp.1)
        else if lim < sp.2 + tn_REPEAT_EXTRA (sp.1 - 16) ∨ (sp.1 = 16 ∧ kn = 0) ∨ all < kn + zrt f sp.1 sp.2 then none
        else zlr ℓc f lim all fu (kn + zrt f sp.1 sp.2) (sp.2 + tn_REPEAT_EXTRA (sp.1 - 16)) (zNrep L kn (if sp.1 = 16 then L (kn - 1) else 0) (zrt f sp.1 sp.2))
    else some (ps, L)
theorem zlr_end {ℓc : Nat → Nat} {f : Nat → Int32} {lim all fu kn ps : Nat} {L : Nat → Nat} (h : all ≤ kn) : zlr ℓc f lim all fu kn ps L = some (ps, L) := by
  cases fu with
  | zero => rw [zlr, if_neg (by omega)]
  | succ fu => rw [zlr, if_neg (by omega)]
theorem z_rb : ∀ k, k < 3 → 3 ≤ tn_REPEAT_BASE k ∧ tn_REPEAT_EXTRA k ≤ 7 ∧ tn_REPEAT_BASE k ≤ 11 := by decide +kernel
theorem zrt_bd {f : Nat → Int32} {s p : Nat} (h : 16 ≤ s) (h2 : s < 19) : 1 ≤ zrt f s p ∧ zrt f s p < 1000 := by
  have h3 := z_rb (s - 16) (by omega)
  have h4 := zbv_lt f p (tn_REPEAT_EXTRA (s - 16))
  have h5 : 2 ^ tn_REPEAT_EXTRA (s - 16) ≤ 2 ^ 7 := Nat.pow_le_pow_right (by decide) h3.2.1
  unfold zrt
  omega
theorem zlr_no {ℓc : Nat → Nat} {f : Nat → Int32} {lim all fu kn ps : Nat} {L : Nat → Nat} (hk : kn < all) (h : zrd ℓc 19 f ps lim = none) : zlr ℓc f lim all fu kn ps L = none := by
  cases fu with
  | zero => rw [zlr, if_pos hk]
  | succ fu =>
    rw [zlr, if_pos hk]
    simp only [h]
theorem zlr_put {ℓc : Nat → Nat} {f : Nat → Int32} {lim all fu kn ps s p : Nat} {L : Nat → Nat} (hk : kn < all) (h : zrd ℓc 19 f ps lim = some (s, p)) (hs : s < 16) : zlr ℓc f lim all (fu + 1) kn ps L = zlr ℓc f lim all fu (kn + 1) p (zNup L kn s) := by
  rw [zlr, if_pos hk]
  simp only [h]
  rw [if_pos hs]
theorem zlr_rno {ℓc : Nat → Nat} {f : Nat → Int32} {lim all fu kn ps s p : Nat} {L : Nat → Nat} (hk : kn < all) (h : zrd ℓc 19 f ps lim = some (s, p)) (hs : ¬ s < 16) (hc : lim < p + tn_REPEAT_EXTRA (s - 16) ∨ (s = 16 ∧ kn = 0) ∨ all < kn + zrt f s p) : zlr ℓc f lim all fu kn ps L = none := by
  cases fu with
  | zero => rw [zlr, if_pos hk]
  | succ fu =>
    rw [zlr, if_pos hk]
    simp only [h]
    rw [if_neg hs, if_pos hc]
theorem zlr_rep {ℓc : Nat → Nat} {f : Nat → Int32} {lim all fu kn ps s p : Nat} {L : Nat → Nat} (hk : kn < all) (h : zrd ℓc 19 f ps lim = some (s, p)) (hs : ¬ s < 16) (h1 : p + tn_REPEAT_EXTRA (s - 16) ≤ lim) (h2 : s = 16 → kn ≠ 0) (h3 : kn + zrt f s p ≤ all) : zlr ℓc f lim all (fu + 1) kn ps L = zlr ℓc f lim all fu (kn + zrt f s p) (p + tn_REPEAT_EXTRA (s - 16)) (zNrep L kn (if s = 16 then L (kn - 1) else 0) (zrt f s p)) := by
  rw [zlr, if_pos hk]
  simp only [h]
  rw [if_neg hs, if_neg (fun q => q.elim (fun q => by omega) (fun q => q.elim (fun q => h2 q.1 q.2) (fun q => by omega)))]
theorem zlr_rep1 {ℓc : Nat → Nat} {f : Nat → Int32} {lim all fu kn ps s p : Nat} {L : Nat → Nat} (hk : kn < all) (h : zrd ℓc 19 f ps lim = some (s, p)) (hs : s = 16) (h1 : p + tn_REPEAT_EXTRA (s - 16) ≤ lim) (h2 : kn ≠ 0) (h3 : kn + zrt f s p ≤ all) : zlr ℓc f lim all (fu + 1) kn ps L = zlr ℓc f lim all fu (kn + zrt f s p) (p + tn_REPEAT_EXTRA (s - 16)) (zNrep L kn (L (kn - 1)) (zrt f s p)) := by
  rw [zlr_rep hk h (by omega) h1 (fun _ => h2) h3, if_pos hs]
theorem zlr_rep0 {ℓc : Nat → Nat} {f : Nat → Int32} {lim all fu kn ps s p : Nat} {L : Nat → Nat} (hk : kn < all) (h : zrd ℓc 19 f ps lim = some (s, p)) (hs : 16 < s) (h1 : p + tn_REPEAT_EXTRA (s - 16) ≤ lim) (h3 : kn + zrt f s p ≤ all) : zlr ℓc f lim all (fu + 1) kn ps L = zlr ℓc f lim all fu (kn + zrt f s p) (p + tn_REPEAT_EXTRA (s - 16)) (zNrep L kn 0 (zrt f s p)) := by
  rw [zlr_rep hk h (by omega) h1 (fun q => by omega) h3, if_neg (by omega)]
theorem zlr_fu {ℓc : Nat → Nat} {f : Nat → Int32} {lim all kn ps st : Nat} {L : Nat → Nat} {q : Option (Nat × (Nat → Nat))} (h : zlr ℓc f lim all (316 - st) kn ps L = q) (hs : st < 316) : zlr ℓc f lim all (316 - (st + 1) + 1) kn ps L = q := by
  rw [show 316 - (st + 1) + 1 = 316 - st from by omega]
  exact h
theorem z_zb {f : Nat → Int32} {a k : Nat} (h : k ≤ 13) : zbv f a k < 8192 := Nat.lt_of_lt_of_le (zbv_lt f a k) (Nat.le_trans (Nat.pow_le_pow_right (by decide) h) (by decide))
/-- an array holds the lengths below k -/
def zLn (g : Nat → Int32) (L : Nat → Nat) (k : Nat) : Prop := ∀ j, j < k → g j = nI (L j) ∧ L j ≤ 15
theorem zLn_0 (g : Nat → Int32) (L : Nat → Nat) : zLn g L 0 := fun _ h => absurd h (Nat.not_lt_zero _)
theorem zLn_s {g : Nat → Int32} {L : Nat → Nat} {k x : Nat} (h : zLn g L k) (hx : x ≤ 15) : zLn (upd g k (nI x)) (zNup L k x) (k + 1) := by
  intro j hj
  by_cases e : j = k
  · subst e
    rw [pk_us]
    unfold zNup
    rw [if_pos rfl]
    exact ⟨rfl, hx⟩
  · rw [pk_un e]
    unfold zNup
    rw [if_neg e]
    exact h j (by omega)
theorem zLn_rep {g : Nat → Int32} {L : Nat → Nat} {k x : Nat} {y : Int32} (h : zLn g L k) (hx : x ≤ 15) (hy : y = nI x) : ∀ n, zLn (zrep g k y n) (zNrep L k x n) (k + n)
  | 0 => h
  | n + 1 => by
    subst hy
    exact zLn_s (zLn_rep h hx rfl n) hx
theorem zLn_up {g : Nat → Int32} {L : Nat → Nat} {k x : Nat} (h : zLn g L k) (hx : x ≤ 15) : ∀ n, zLn (zrep g k (nI x) n) (zNrep L k x n) (k + n) := zLn_rep h hx rfl
/-- the two sets that a block tells -/
noncomputable def zts (f : Nat → Int32) (ps lim : Nat) : Option (Nat × Nat × Nat × (Nat → Nat)) :=
  if ps + 14 ≤ lim ∧ zbv f ps 5 + 257 ≤ 286 ∧ zbv f (ps + 5) 5 + 1 ≤ 30 then
    match @ite (Option (Nat × (Nat → Nat))) (ps + 14 + 3 * (zbv f (ps + 10) 4 + 4) ≤ lim ∧ zallow (zcl f (ps + 14) (zbv f (ps + 10) 4 + 4)) 19) (Classical.propDecidable _) (zlr (zcl f (ps + 14) (zbv f (ps + 10) 4 + 4)) f lim (zbv f ps 5 + 257 + (zbv f (ps + 5) 5 + 1)) 316 0 (ps + 14 + 3 * (zbv f (ps + 10) 4 + 4)) (fun _ => 0)) none with
    | none => none
    | some q => @ite (Option (Nat × Nat × Nat × (Nat → Nat))) (q.2 256 ≠ 0 ∧ zallow q.2 (zbv f ps 5 + 257) ∧ zallow (fun i => q.2 (zbv f ps 5 + 257 + i)) (zbv f (ps + 5) 5 + 1)) (Classical.propDecidable _) (some (q.1, zbv f ps 5 + 257, zbv f (ps + 5) 5 + 1, q.2)) none
  else none
theorem zts_n1 {f : Nat → Int32} {ps lim : Nat} (h : ¬ (ps + 14 ≤ lim ∧ zbv f ps 5 + 257 ≤ 286 ∧ zbv f (ps + 5) 5 + 1 ≤ 30)) : zts f ps lim = none := by
  unfold zts
  rw [if_neg h]
theorem zts_n2 {f : Nat → Int32} {ps lim : Nat} (h : ¬ (ps + 14 + 3 * (zbv f (ps + 10) 4 + 4) ≤ lim ∧ zallow (zcl f (ps + 14) (zbv f (ps + 10) 4 + 4)) 19)) : zts f ps lim = none := by
  unfold zts
  by_cases c : ps + 14 ≤ lim ∧ zbv f ps 5 + 257 ≤ 286 ∧ zbv f (ps + 5) 5 + 1 ≤ 30
  · rw [if_pos c, if_neg h]
  · rw [if_neg c]
theorem zts_n3 {f : Nat → Int32} {ps lim : Nat} (h : zlr (zcl f (ps + 14) (zbv f (ps + 10) 4 + 4)) f lim (zbv f ps 5 + 257 + (zbv f (ps + 5) 5 + 1)) 316 0 (ps + 14 + 3 * (zbv f (ps + 10) 4 + 4)) (fun _ => 0) = none) : zts f ps lim = none := by
  unfold zts
  by_cases c : ps + 14 ≤ lim ∧ zbv f ps 5 + 257 ≤ 286 ∧ zbv f (ps + 5) 5 + 1 ≤ 30
  · rw [if_pos c, h, ite_self]
  · rw [if_neg c]
theorem zts_n4 {f : Nat → Int32} {ps lim p : Nat} {L : Nat → Nat} (h : zlr (zcl f (ps + 14) (zbv f (ps + 10) 4 + 4)) f lim (zbv f ps 5 + 257 + (zbv f (ps + 5) 5 + 1)) 316 0 (ps + 14 + 3 * (zbv f (ps + 10) 4 + 4)) (fun _ => 0) = some (p, L)) (hn : ¬ (L 256 ≠ 0 ∧ zallow L (zbv f ps 5 + 257) ∧ zallow (fun i => L (zbv f ps 5 + 257 + i)) (zbv f (ps + 5) 5 + 1))) : zts f ps lim = none := by
  unfold zts
  by_cases c : ps + 14 ≤ lim ∧ zbv f ps 5 + 257 ≤ 286 ∧ zbv f (ps + 5) 5 + 1 ≤ 30
  · by_cases c2 : ps + 14 + 3 * (zbv f (ps + 10) 4 + 4) ≤ lim ∧ zallow (zcl f (ps + 14) (zbv f (ps + 10) 4 + 4)) 19
    · rw [if_pos c, if_pos c2, h]
      exact if_neg hn
    · rw [if_pos c, if_neg c2]
  · rw [if_neg c]
theorem zts_y {f : Nat → Int32} {ps lim p : Nat} {L : Nat → Nat} (h1 : ps + 14 ≤ lim ∧ zbv f ps 5 + 257 ≤ 286 ∧ zbv f (ps + 5) 5 + 1 ≤ 30) (h2 : ps + 14 + 3 * (zbv f (ps + 10) 4 + 4) ≤ lim ∧ zallow (zcl f (ps + 14) (zbv f (ps + 10) 4 + 4)) 19) (h : zlr (zcl f (ps + 14) (zbv f (ps + 10) 4 + 4)) f lim (zbv f ps 5 + 257 + (zbv f (ps + 5) 5 + 1)) 316 0 (ps + 14 + 3 * (zbv f (ps + 10) 4 + 4)) (fun _ => 0) = some (p, L)) (hn : L 256 ≠ 0 ∧ zallow L (zbv f ps 5 + 257) ∧ zallow (fun i => L (zbv f ps 5 + 257 + i)) (zbv f (ps + 5) 5 + 1)) : zts f ps lim = some (p, zbv f ps 5 + 257, zbv f (ps + 5) 5 + 1, L) := by
  unfold zts
  rw [if_pos h1, if_pos h2, h]
  exact if_pos hn
