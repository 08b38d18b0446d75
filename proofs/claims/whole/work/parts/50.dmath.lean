/-! blocks, as both sides read them: the bit that is next, how many bytes are out, and which -/
/-- k bytes more, each that of d before -/
def zcp (o : Nat → Int32) (mm d : Nat) : Nat → (Nat → Int32)
  | 0 => o
  | k + 1 => upd (zcp o mm d k) (mm + k) ((zcp o mm d k (mm + k - d)).toInt8.toInt32)
/-- k bytes more, as they stand from byte a on -/
def zst (f : Nat → Int32) (a : Nat) (o : Nat → Int32) (mm : Nat) : Nat → (Nat → Int32)
  | 0 => o
  | k + 1 => upd (zst f a o mm k) (mm + k) ((f (a + k)).toInt8.toInt32)
def zAg (g o : Nat → Int32) (k : Nat) : Prop := ∀ j, j < k → g j = o j
theorem zAg_0 (g o : Nat → Int32) : zAg g o 0 := fun _ h => absurd h (Nat.not_lt_zero _)
theorem zAg_s {g o : Nat → Int32} {k : Nat} {x y : Int32} (h : zAg g o k) (e : x = y) : zAg (upd g k x) (upd o k y) (k + 1) := by
  intro j hj
  subst e
  by_cases c : j = k
  · subst c
    rw [pk_us, pk_us]
  · rw [pk_un c, pk_un c]
    exact h j (by omega)
theorem zAg_ad {g o : Nat → Int32} : ∀ {k : Nat}, zAg g o k → zad g k = zad o k
  | 0, _ => rfl
  | k + 1, h => by
    have h1 := zAg_ad (k := k) (fun j hj => h j (by omega))
    have h2 := h k (by omega)
    rw [zad, zad, h1, h2]
theorem zAg_adler {g o : Nat → Int32} {k : Nat} (h : zAg g o k) : zadler g k = zadler o k := by
  unfold zadler
  rw [zAg_ad h]
noncomputable def zbk (ℓ1 : Nat → Nat) (n1 : Nat) (ℓ2 : Nat → Nat) (n2 : Nat) (f : Nat → Int32) (lim mo : Nat) : Nat → Nat → Nat → (Nat → Int32) → Option (Nat × Nat × (Nat → Int32))
  | 0, _, _, _ => none
  | fu + 1, ps, mm, o => match zrd ℓ1 n1 f ps lim with
    | none => none
    | some sp => if sp.1 < 256 then (if mm < mo then zbk ℓ1 n1 ℓ2 n2 f lim mo fu sp.2 (mm + 1) (upd o mm (nI sp.1).toInt8.toInt32) else none)
      else if sp.1 = 256 then some (sp.2, mm, o)
      else if 286 ≤ sp.1 ∨ lim < sp.2 + tn_LENGTH_EXTRA (sp.1 - 257) then none
      else match zrd ℓ2 n2 f (sp.2 + tn_LENGTH_EXTRA (sp.1 - 257)) lim with
        | none => none
        | some dp => if 30 ≤ dp.1 ∨ lim < dp.2 + tn_DISTANCE_EXTRA dp.1 ∨ mm < tn_DISTANCE_BASE dp.1 + zbv f dp.2 (tn_DISTANCE_EXTRA dp.1) ∨ mo < mm + (tn_LENGTH_BASE (sp.1 - 257) + zbv f sp.2 (tn_LENGTH_EXTRA (sp.1 - 257))) then none
          else zbk ℓ1 n1 ℓ2 n2 f lim mo fu (dp.2 + tn_DISTANCE_EXTRA dp.1) (mm + (tn_LENGTH_BASE (sp.1 - 257) + zbv f sp.2 (tn_LENGTH_EXTRA (sp.1 - 257)))) (zcp o mm (tn_DISTANCE_BASE dp.1 + zbv f dp.2 (tn_DISTANCE_EXTRA dp.1)) (tn_LENGTH_BASE (sp.1 - 257) + zbv f sp.2 (tn_LENGTH_EXTRA (sp.1 - 257))))
section
variable {ℓ1 ℓ2 : Nat → Nat} {n1 n2 lim mo fu ps mm s p d p2 : Nat} {f o : Nat → Int32}
theorem zbk_n1 (h : zrd ℓ1 n1 f ps lim = none) : zbk ℓ1 n1 ℓ2 n2 f lim mo fu ps mm o = none := by
  cases fu with
  | zero => rfl
  | succ fu => rw [zbk]; simp only [h]
theorem zbk_b (h : zrd ℓ1 n1 f ps lim = some (s, p)) (hs : s < 256) (hm : mm < mo) : zbk ℓ1 n1 ℓ2 n2 f lim mo (fu + 1) ps mm o = zbk ℓ1 n1 ℓ2 n2 f lim mo fu p (mm + 1) (upd o mm (nI s).toInt8.toInt32) := by
  rw [zbk]; simp only [h]
  rw [if_pos hs, if_pos hm]
theorem zbk_n2 (h : zrd ℓ1 n1 f ps lim = some (s, p)) (hs : s < 256) (hm : mo ≤ mm) : zbk ℓ1 n1 ℓ2 n2 f lim mo fu ps mm o = none := by
  cases fu with
  | zero => rfl
  | succ fu =>
    rw [zbk]; simp only [h]
    rw [if_pos hs, if_neg (by omega)]
theorem zbk_e (h : zrd ℓ1 n1 f ps lim = some (256, p)) : zbk ℓ1 n1 ℓ2 n2 f lim mo (fu + 1) ps mm o = some (p, mm, o) := by
  rw [zbk]; simp only [h]
  rw [if_neg (by omega)]
  rfl
theorem zbk_n3 (h : zrd ℓ1 n1 f ps lim = some (s, p)) (hs : 256 < s) (hc : 286 ≤ s ∨ lim < p + tn_LENGTH_EXTRA (s - 257)) : zbk ℓ1 n1 ℓ2 n2 f lim mo fu ps mm o = none := by
  cases fu with
  | zero => rfl
  | succ fu =>
    rw [zbk]; simp only [h]
    rw [if_neg (by omega), if_neg (by omega), if_pos hc]
theorem zbk_n4 (h : zrd ℓ1 n1 f ps lim = some (s, p)) (hs : 256 < s) (h2 : zrd ℓ2 n2 f (p + tn_LENGTH_EXTRA (s - 257)) lim = none) : zbk ℓ1 n1 ℓ2 n2 f lim mo fu ps mm o = none := by
  cases fu with
  | zero => rfl
  | succ fu =>
    rw [zbk]; simp only [h]
    rw [if_neg (by omega), if_neg (by omega)]
    simp only [h2]
    exact ite_self _
theorem zbk_n5 (h : zrd ℓ1 n1 f ps lim = some (s, p)) (hs : 256 < s) (h2 : zrd ℓ2 n2 f (p + tn_LENGTH_EXTRA (s - 257)) lim = some (d, p2)) (hc : 30 ≤ d ∨ lim < p2 + tn_DISTANCE_EXTRA d ∨ mm < tn_DISTANCE_BASE d + zbv f p2 (tn_DISTANCE_EXTRA d) ∨ mo < mm + (tn_LENGTH_BASE (s - 257) + zbv f p (tn_LENGTH_EXTRA (s - 257)))) : zbk ℓ1 n1 ℓ2 n2 f lim mo fu ps mm o = none := by
  cases fu with
  | zero => rfl
  | succ fu =>
    rw [zbk]; simp only [h]
    rw [if_neg (by omega), if_neg (by omega)]
    simp only [h2]
    rw [if_pos hc]
    exact ite_self _
theorem zbk_c (h : zrd ℓ1 n1 f ps lim = some (s, p)) (hs : 256 < s) (hs2 : s < 286) (he : p + tn_LENGTH_EXTRA (s - 257) ≤ lim) (h2 : zrd ℓ2 n2 f (p + tn_LENGTH_EXTRA (s - 257)) lim = some (d, p2)) (c1 : d < 30) (c2 : p2 + tn_DISTANCE_EXTRA d ≤ lim) (c3 : tn_DISTANCE_BASE d + zbv f p2 (tn_DISTANCE_EXTRA d) ≤ mm) (c4 : mm + (tn_LENGTH_BASE (s - 257) + zbv f p (tn_LENGTH_EXTRA (s - 257))) ≤ mo) : zbk ℓ1 n1 ℓ2 n2 f lim mo (fu + 1) ps mm o = zbk ℓ1 n1 ℓ2 n2 f lim mo fu (p2 + tn_DISTANCE_EXTRA d) (mm + (tn_LENGTH_BASE (s - 257) + zbv f p (tn_LENGTH_EXTRA (s - 257)))) (zcp o mm (tn_DISTANCE_BASE d + zbv f p2 (tn_DISTANCE_EXTRA d)) (tn_LENGTH_BASE (s - 257) + zbv f p (tn_LENGTH_EXTRA (s - 257)))) := by
  rw [zbk]; simp only [h]
  rw [if_neg (by omega), if_neg (by omega), if_neg (fun q => q.elim (fun q => by omega) (fun q => by omega))]
  simp only [h2]
  exact if_neg (fun q => q.elim (fun q => by omega) (fun q => q.elim (fun q => by omega) (fun q => q.elim (fun q => by omega) (fun q => by omega))))
end
/-- a copy's end: the length and the distance of symbol s and of what follows it -/
noncomputable def zcd (ℓ2 : Nat → Nat) (n2 : Nat) (f : Nat → Int32) (lim mo sz p mm : Nat) : Option (Nat × Nat × Nat) :=
  if 29 ≤ sz ∨ lim < p + tn_LENGTH_EXTRA sz then none
  else match zrd ℓ2 n2 f (p + tn_LENGTH_EXTRA sz) lim with
    | none => none
    | some dp => if 30 ≤ dp.1 ∨ lim < dp.2 + tn_DISTANCE_EXTRA dp.1 ∨ mm < tn_DISTANCE_BASE dp.1 + zbv f dp.2 (tn_DISTANCE_EXTRA dp.1) ∨ mo < mm + (tn_LENGTH_BASE sz + zbv f p (tn_LENGTH_EXTRA sz)) then none
      else some (dp.2 + tn_DISTANCE_EXTRA dp.1, tn_LENGTH_BASE sz + zbv f p (tn_LENGTH_EXTRA sz), tn_DISTANCE_BASE dp.1 + zbv f dp.2 (tn_DISTANCE_EXTRA dp.1))
section
variable {ℓ1 ℓ2 : Nat → Nat} {n1 n2 lim mo fu ps mm s p d p2 sz nn dd : Nat} {f o : Nat → Int32}
theorem zcd_n1 (h : 29 ≤ sz ∨ lim < p + tn_LENGTH_EXTRA sz) : zcd ℓ2 n2 f lim mo sz p mm = none := by
  unfold zcd
  rw [if_pos h]
theorem zcd_n2 (h : zrd ℓ2 n2 f (p + tn_LENGTH_EXTRA sz) lim = none) : zcd ℓ2 n2 f lim mo sz p mm = none := by
  unfold zcd
  simp only [h]
  exact ite_self _
theorem zcd_n3 (h : zrd ℓ2 n2 f (p + tn_LENGTH_EXTRA sz) lim = some (d, p2)) (hc : 30 ≤ d ∨ lim < p2 + tn_DISTANCE_EXTRA d ∨ mm < tn_DISTANCE_BASE d + zbv f p2 (tn_DISTANCE_EXTRA d) ∨ mo < mm + (tn_LENGTH_BASE sz + zbv f p (tn_LENGTH_EXTRA sz))) : zcd ℓ2 n2 f lim mo sz p mm = none := by
  unfold zcd
  simp only [h]
  rw [if_pos hc]
  exact ite_self _
theorem zcd_y (h0 : sz < 29) (he : p + tn_LENGTH_EXTRA sz ≤ lim) (h : zrd ℓ2 n2 f (p + tn_LENGTH_EXTRA sz) lim = some (d, p2)) (c1 : d < 30) (c2 : p2 + tn_DISTANCE_EXTRA d ≤ lim) (c3 : tn_DISTANCE_BASE d + zbv f p2 (tn_DISTANCE_EXTRA d) ≤ mm) (c4 : mm + (tn_LENGTH_BASE sz + zbv f p (tn_LENGTH_EXTRA sz)) ≤ mo) : zcd ℓ2 n2 f lim mo sz p mm = some (p2 + tn_DISTANCE_EXTRA d, tn_LENGTH_BASE sz + zbv f p (tn_LENGTH_EXTRA sz), tn_DISTANCE_BASE d + zbv f p2 (tn_DISTANCE_EXTRA d)) := by
  unfold zcd
  simp only [h]
  rw [if_neg (fun q => q.elim (fun q => by omega) (fun q => by omega)), if_neg (fun q => q.elim (fun q => by omega) (fun q => q.elim (fun q => by omega) (fun q => q.elim (fun q => by omega) (fun q => by omega))))]
theorem zbk_cn (h : zrd ℓ1 n1 f ps lim = some (s, p)) (hs : 256 < s) (h2 : zcd ℓ2 n2 f lim mo (s - 257) p mm = none) : zbk ℓ1 n1 ℓ2 n2 f lim mo fu ps mm o = none := by
  unfold zcd at h2
  by_cases c : 29 ≤ s - 257 ∨ lim < p + tn_LENGTH_EXTRA (s - 257)
  · exact zbk_n3 h hs (c.elim (fun q => Or.inl (by omega)) Or.inr)
  · rw [if_neg c] at h2
    cases e : zrd ℓ2 n2 f (p + tn_LENGTH_EXTRA (s - 257)) lim with
    | none => exact zbk_n4 h hs e
    | some dp =>
      simp only [e] at h2
      split at h2
      · rename_i q
        exact zbk_n5 (d := dp.1) (p2 := dp.2) h hs e q
      · cases h2
theorem zbk_cy (h : zrd ℓ1 n1 f ps lim = some (s, p)) (hs : 256 < s) (h2 : zcd ℓ2 n2 f lim mo (s - 257) p mm = some (p2, nn, dd)) : zbk ℓ1 n1 ℓ2 n2 f lim mo (fu + 1) ps mm o = zbk ℓ1 n1 ℓ2 n2 f lim mo fu p2 (mm + nn) (zcp o mm dd nn) := by
  unfold zcd at h2
  by_cases c : 29 ≤ s - 257 ∨ lim < p + tn_LENGTH_EXTRA (s - 257)
  · rw [if_pos c] at h2
    cases h2
  · rw [if_neg c] at h2
    cases e : zrd ℓ2 n2 f (p + tn_LENGTH_EXTRA (s - 257)) lim with
    | none => simp only [e] at h2; cases h2
    | some dp =>
      simp only [e] at h2
      split at h2
      · cases h2
      · rename_i q
        simp only [Option.some.injEq, Prod.mk.injEq] at h2
        obtain ⟨rfl, rfl, rfl⟩ := h2
        exact zbk_c (d := dp.1) (p2 := dp.2) h hs (by omega) (by omega) e (by omega) (by omega) (by omega) (by omega)
end
/-- the lengths of the fixed codes -/
def zfl (s : Nat) : Nat := if s < 144 then 8 else if s < 256 then 9 else if s < 280 then 7 else 8
def zfd (_ : Nat) : Nat := 5
/-- a stored block from bit p on, at a byte's border -/
def zsd (f : Nat → Int32) (p lim mo mm : Nat) (o : Nat → Int32) : Option (Nat × Nat × (Nat → Int32)) :=
  if lim < p + 32 ∨ zbv f (p + 16) 16 ≠ 65535 - zbv f p 16 ∨ lim < p + 32 + 8 * zbv f p 16 ∨ mo < mm + zbv f p 16 then none
  else some (p + 32 + 8 * zbv f p 16, mm + zbv f p 16, zst f (p / 8 + 4) o mm (zbv f p 16))
noncomputable def zb1 (f : Nat → Int32) (lim mo kd ps mm : Nat) (o : Nat → Int32) : Option (Nat × Nat × (Nat → Int32)) :=
  if kd = 0 then zsd f ((ps + 7) / 8 * 8) lim mo mm o
  else if kd = 1 then zbk zfl 288 zfd 32 f lim mo 32000 ps mm o
  else if kd = 2 then (match zts f ps lim with
    | none => none
    | some q => zbk q.2.2.2 q.2.1 (fun i => q.2.2.2 (q.2.1 + i)) q.2.2.1 f lim mo 32000 q.1 mm o)
  else none
noncomputable def zbs (f : Nat → Int32) (lim mo : Nat) : Nat → Nat → Nat → (Nat → Int32) → Option (Nat × Nat × (Nat → Int32))
  | 0, _, _, _ => none
  | fu + 1, ps, mm, o => if lim < ps + 3 then none else match zb1 f lim mo (zbv f (ps + 1) 2) (ps + 3) mm o with
    | none => none
    | some q => if zbt f ps = 1 then some q else zbs f lim mo fu q.1 q.2.1 q.2.2
section
variable {lim mo fu ps mm p m2 : Nat} {f o o2 : Nat → Int32}
theorem zbs_n1 (h : lim < ps + 3) : zbs f lim mo fu ps mm o = none := by
  cases fu with
  | zero => rfl
  | succ fu => rw [zbs, if_pos h]
theorem zbs_n2 (h : zb1 f lim mo (zbv f (ps + 1) 2) (ps + 3) mm o = none) : zbs f lim mo fu ps mm o = none := by
  cases fu with
  | zero => rfl
  | succ fu =>
    rw [zbs]
    simp only [h]
    exact ite_self _
theorem zbs_e (h0 : ps + 3 ≤ lim) (h : zb1 f lim mo (zbv f (ps + 1) 2) (ps + 3) mm o = some (p, m2, o2)) (hb : zbt f ps = 1) : zbs f lim mo (fu + 1) ps mm o = some (p, m2, o2) := by
  rw [zbs]
  simp only [h]
  rw [if_neg (by omega), if_pos hb]
theorem zbs_s (h0 : ps + 3 ≤ lim) (h : zb1 f lim mo (zbv f (ps + 1) 2) (ps + 3) mm o = some (p, m2, o2)) (hb : zbt f ps ≠ 1) : zbs f lim mo (fu + 1) ps mm o = zbs f lim mo fu p m2 o2 := by
  rw [zbs]
  simp only [h]
  rw [if_neg (by omega), if_neg hb]
end
/-- a whole stream of n bytes, opened -/
noncomputable def zop (f : Nat → Int32) (n mo : Nat) : Option (Nat × (Nat → Int32)) :=
  @ite (Option (Nat × (Nat → Int32))) (0 + 16 ≤ 8 * (n - 4) ∧ zHd f 0) (Classical.propDecidable _)
    (match zbs f (8 * (n - 4)) mo 32000 16 0 (fun _ => 0) with
    | none => none
    | some q => if (q.1 + 7) / 8 * 8 = 8 * (n - 4) ∧ zdu f (n - 4) 4 = zadler q.2.2 q.2.1 then some (q.2.1, q.2.2) else none) none
theorem zop_n1 {f : Nat → Int32} {n mo : Nat} (h : ¬ (0 + 16 ≤ 8 * (n - 4) ∧ zHd f 0)) : zop f n mo = none := if_neg h
theorem zop_n2 {f : Nat → Int32} {n mo : Nat} (h : zbs f (8 * (n - 4)) mo 32000 16 0 (fun _ => 0) = none) : zop f n mo = none := by
  unfold zop
  rw [h]
  exact ite_self _
theorem zop_n3 {f : Nat → Int32} {n mo p mm : Nat} {o : Nat → Int32} (h : zbs f (8 * (n - 4)) mo 32000 16 0 (fun _ => 0) = some (p, mm, o)) (hc : ¬ ((p + 7) / 8 * 8 = 8 * (n - 4) ∧ zdu f (n - 4) 4 = zadler o mm)) : zop f n mo = none := by
  unfold zop
  rw [h]
  simp only
  rw [if_neg hc]
  exact ite_self _
theorem zop_y {f : Nat → Int32} {n mo p mm : Nat} {o : Nat → Int32} (h0 : 0 + 16 ≤ 8 * (n - 4) ∧ zHd f 0) (h : zbs f (8 * (n - 4)) mo 32000 16 0 (fun _ => 0) = some (p, mm, o)) (hc : (p + 7) / 8 * 8 = 8 * (n - 4) ∧ zdu f (n - 4) 4 = zadler o mm) : zop f n mo = some (mm, o) := by
  unfold zop
  rw [if_pos h0, h]
  exact if_pos hc
theorem zcp_ag {g o : Nat → Int32} {mm d : Nat} (h : zAg g o mm) (hd : 1 ≤ d) (hd2 : d ≤ mm) : ∀ k, zAg (zcp g mm d k) (zcp o mm d k) (mm + k)
  | 0 => h
  | k + 1 => by
    have ih := zcp_ag h hd hd2 k
    exact zAg_s ih (by rw [ih (mm + k - d) (by omega)])
theorem z_dbq : ∀ k, k < 30 → 1 ≤ tn_DISTANCE_BASE k ∧ tn_DISTANCE_BASE k ≤ 24577 ∧ tn_DISTANCE_EXTRA k ≤ 13 := by decide +kernel
theorem z_lbq : ∀ k, k < 29 → 3 ≤ tn_LENGTH_BASE k ∧ tn_LENGTH_BASE k ≤ 258 ∧ tn_LENGTH_EXTRA k ≤ 5 := by decide +kernel
theorem zbk_fu {ℓ1 ℓ2 : Nat → Nat} {n1 n2 lim mo ps mm st : Nat} {f o : Nat → Int32} {q : Option (Nat × Nat × (Nat → Int32))} (h : zbk ℓ1 n1 ℓ2 n2 f lim mo (32000 - st) ps mm o = q) (hs : st < 32000) : zbk ℓ1 n1 ℓ2 n2 f lim mo (32000 - (st + 1) + 1) ps mm o = q := by
  rw [show 32000 - (st + 1) + 1 = 32000 - st from by omega]
  exact h
theorem zbs_fu {lim mo ps mm st : Nat} {f o : Nat → Int32} {q : Option (Nat × Nat × (Nat → Int32))} (h : zbs f lim mo (32000 - st) ps mm o = q) (hs : st < 32000) : zbs f lim mo (32000 - (st + 1) + 1) ps mm o = q := by
  rw [show 32000 - (st + 1) + 1 = 32000 - st from by omega]
  exact h
theorem z_x16 {x : Nat} (h : x < 65536) : nI x ^^^ 65535 = nI (65535 - x) := by
  apply Int32.toBitVec_inj.1
  show BitVec.ofNat 32 x ^^^ BitVec.ofNat 32 65535 = BitVec.ofNat 32 (65535 - x)
  apply BitVec.eq_of_getLsbD_eq
  intro i hi
  rw [BitVec.getLsbD_xor, BitVec.getLsbD_ofNat, BitVec.getLsbD_ofNat, BitVec.getLsbD_ofNat]
  have e := Nat.testBit_two_pow_sub_succ (n := 16) (x := x) h i
  rw [show 2 ^ 16 - (x + 1) = 65535 - x from by omega] at e
  have e2 := Nat.testBit_two_pow_sub_one 16 i
  rw [show 2 ^ 16 - 1 = 65535 from rfl] at e2
  rw [e, e2]
  have e3 : 16 ≤ i → x.testBit i = false := fun q => Nat.testBit_lt_two_pow (Nat.lt_of_lt_of_le h (Nat.pow_le_pow_right (n := 2) (by decide) q))
  by_cases c : i < 16
  · simp [hi, c]
  · simp [hi, c, e3 (by omega)]
theorem z_bv8 {f : Nat → Int32} {a q : Nat} (h : a = 8 * q) : zbv f a 8 = (f q).toBitVec.toNat % 256 := by
  have e : ∀ k, k < 8 → zbt f (a + k) = (f q).toBitVec.toNat / 2 ^ k % 2 := fun k hk => by
    unfold zbt
    rw [show (a + k) / 8 = q from by omega, show (a + k) % 8 = k from by omega]
  simp only [zbv, e 0 (by decide), e 1 (by decide), e 2 (by decide), e 3 (by decide), e 4 (by decide), e 5 (by decide), e 6 (by decide), e 7 (by decide)]
  generalize (f q).toBitVec.toNat = X
  omega
theorem z_b8 {f : Nat → Int32} {a q : Nat} (h : a = 8 * q) : (nI (zbv f a 8)).toInt8.toInt32 = (f q).toInt8.toInt32 := by
  rw [z_bv8 h]
  have e := zby_add ((f q).toBitVec.toNat % 256) ((f q).toBitVec.toNat / 256)
  rw [show (f q).toBitVec.toNat % 256 + (f q).toBitVec.toNat / 256 * 256 = (f q).toBitVec.toNat from by omega] at e
  unfold zby at e
  rw [← e, z_nat]
