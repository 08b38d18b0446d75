/-! what is opened is bytes -/
theorem zBy_0 (o : Nat → Int32) : zBy o 0 := fun _ h => absurd h (Nat.not_lt_zero _)
theorem zBy_s {o : Nat → Int32} {k : Nat} {x : Int32} (h : zBy o k) : zBy (upd o k x.toInt8.toInt32) (k + 1) := by
  intro j hj
  by_cases e : j = k
  · subst e
    exact ⟨x, pk_us⟩
  · rw [pk_un e]
    exact h j (by omega)
theorem zBy_cp {o : Nat → Int32} {m d : Nat} (h : zBy o m) : ∀ k, zBy (zcp o m d k) (m + k)
  | 0 => h
  | k + 1 => zBy_s (zBy_cp h k)
theorem zBy_st {f o : Nat → Int32} {a m : Nat} (h : zBy o m) : ∀ k, zBy (zst f a o m k) (m + k)
  | 0 => h
  | k + 1 => zBy_s (zBy_st h k)
theorem zBy_bk {ℓ1 ℓ2 : Nat → Nat} {n1 n2 lim mo : Nat} {f : Nat → Int32} : ∀ (fu ps m : Nat) (o : Nat → Int32) (r : Nat × Nat × (Nat → Int32)), zBy o m → zbk ℓ1 n1 ℓ2 n2 f lim mo fu ps m o = some r → zBy r.2.2 r.2.1
  | 0, _, _, _, _, _, h => by cases h
  | fu + 1, ps, m, o, r, hb, h => by
    rw [zbk] at h
    cases e : zrd ℓ1 n1 f ps lim with
    | none => rw [e] at h; cases h
    | some sp =>
      rw [e] at h
      simp only at h
      split at h
      · split at h
        · exact zBy_bk fu _ _ _ r (zBy_s hb) h
        · cases h
      · split at h
        · cases h
          exact hb
        · split at h
          · cases h
          · cases e2 : zrd ℓ2 n2 f (sp.2 + tn_LENGTH_EXTRA (sp.1 - 257)) lim with
            | none => rw [e2] at h; cases h
            | some dp =>
              rw [e2] at h
              simp only at h
              split at h
              · cases h
              · exact zBy_bk fu _ _ _ r (zBy_cp hb _) h
theorem zBy_sd {f o : Nat → Int32} {p lim mo mm : Nat} {r : Nat × Nat × (Nat → Int32)} (hb : zBy o mm) (h : zsd f p lim mo mm o = some r) : zBy r.2.2 r.2.1 := by
  unfold zsd at h
  split at h
  · cases h
  · have h := Option.some.inj h
    rw [← h]
    exact zBy_st hb _
theorem zBy_b1 {f o : Nat → Int32} {lim mo kd ps mm : Nat} {r : Nat × Nat × (Nat → Int32)} (hb : zBy o mm) (h : zb1 f lim mo kd ps mm o = some r) : zBy r.2.2 r.2.1 := by
  unfold zb1 at h
  split at h
  · exact zBy_sd hb h
  · split at h
    · exact zBy_bk _ _ _ _ r hb h
    · split at h
      · cases e : zts f ps lim with
        | none => rw [e] at h; cases h
        | some q =>
          rw [e] at h
          exact zBy_bk _ _ _ _ r hb h
      · cases h
theorem zBy_bs {f : Nat → Int32} {lim mo : Nat} : ∀ (fu ps mm : Nat) (o : Nat → Int32) (r : Nat × Nat × (Nat → Int32)), zBy o mm → zbs f lim mo fu ps mm o = some r → zBy r.2.2 r.2.1
  | 0, _, _, _, _, _, h => by cases h
  | fu + 1, ps, mm, o, r, hb, h => by
    rw [zbs] at h
    split at h
    · cases h
    · cases e : zb1 f lim mo (zbv f (ps + 1) 2) (ps + 3) mm o with
      | none => rw [e] at h; cases h
      | some q =>
        rw [e] at h
        simp only at h
        have hq := zBy_b1 hb e
        split at h
        · cases h
          exact hq
        · exact zBy_bs fu _ _ _ r hq h
theorem zBy_op {f o : Nat → Int32} {n mo mm : Nat} (h : zop f n mo = some (mm, o)) : zBy o mm := by
  unfold zop at h
  split at h
  · cases e : zbs f (8 * (n - 4)) mo 32000 16 0 (fun _ => 0) with
    | none => rw [e] at h; cases h
    | some q =>
      rw [e] at h
      simp only at h
      have hq := zBy_bs _ _ _ _ q (zBy_0 _) e
      split at h
      · have h := Option.some.inj h
        have e1 : q.2.1 = mm := congrArg Prod.fst h
        have e2 : q.2.2 = o := congrArg Prod.snd h
        rw [← e1, ← e2]
        exact hq
      · cases h
  · cases h
theorem zAg_by {g o : Nat → Int32} {k : Nat} (h : zAg g o k) (hb : zBy o k) : zBy g k := fun j hj => by
  rw [h j hj]
  exact hb j hj
theorem zAg_tr {g o w : Nat → Int32} {k : Nat} (h : zAg g o k) (h2 : zAg o w k) : zAg g w k := fun j hj => (h j hj).trans (h2 j hj)
theorem zAg_sy {g o : Nat → Int32} {k : Nat} (h : zAg g o k) : zAg o g k := fun j hj => (h j hj).symm
theorem zAg_le {g o : Nat → Int32} {k n : Nat} (h : zAg g o k) (hn : n ≤ k) : zAg g o n := fun j hj => h j (by omega)
theorem zBy_le {g : Nat → Int32} {k n : Nat} (h : zBy g k) (hn : n ≤ k) : zBy g n := fun j hj => h j (by omega)
theorem zAg_up {f g : Nat → Int32} {k j : Nat} {x : Int32} (h : zAg f g k) : zAg (upd f j x) (upd g j x) k := by
  intro i hi
  by_cases e : i = j
  · subst e
    rw [pk_us, pk_us]
  · rw [pk_un e, pk_un e]
    exact h i hi
theorem zBy_up {f : Nat → Int32} {k j : Nat} {x : Int32} (h : zBy f k) : zBy (upd f j x.toInt8.toInt32) k := by
  intro i hi
  by_cases e : i = j
  · subst e
    exact ⟨x, pk_us⟩
  · rw [pk_un e]
    exact h i hi
theorem zAg_apk {f g : Nat → Int32} {tn : Nat} {x : Int32} (h : zAg f g tn) : ∀ k, zAg (zapk f tn x k) (zapk g tn x k) (tn + k)
  | 0 => h
  | k + 1 => zAg_s (zAg_apk h k) rfl
theorem zBy_apk {f : Nat → Int32} {tn : Nat} {x : Int32} (h : zBy f tn) : ∀ k, zBy (zapk f tn x k) (tn + k)
  | 0 => h
  | k + 1 => zBy_s (zBy_apk h k)
theorem zAg_fil {f g : Nat → Int32} {tn : Nat} {s bd : Int32} (h : zAg f g tn) : ∀ k, zAg (zfil f tn s bd k) (zfil g tn s bd k) (tn + k)
  | 0 => h
  | k + 1 => zAg_s (zAg_fil h k) rfl
theorem zBy_fil {f : Nat → Int32} {tn : Nat} {s bd : Int32} (h : zBy f tn) : ∀ k, zBy (zfil f tn s bd k) (tn + k)
  | 0 => h
  | k + 1 => zBy_s (zBy_fil h k)
theorem zBy_out {g : Nat → Int32} {V L : Nat} (h : zOut g V L) : zBy g (L / 8) := fun j hj => ⟨nI (V / 2 ^ (8 * j)), h.2 j hj⟩
