abbrev rm_X9_must_t : Room := { frames := 0, cells := 0, slots := 0, locals := 0 }
abbrev wo_X9_must_t (dC : Nat → ClassId) (dI : Nat → Nat → Nat) (cB cI cJ cM : ClassId) (h0 : Nat) (k0 : Value) (m1 m2 m3 m4 m5 m6 m7 m8 m9 m10 m11 m12 m13 m14 m15 m16 m17 m18 m19 m20 m21 m22 m23 : Value) : va_W := [(h0, .inr (9, [k0, m1, m2, m3, m4, m5, m6, m7, m8, m9, m10, m11, m12, m13, m14, m15, m16, m17, m18, m19, m20, m21, m22, m23]))]
abbrev q_X9_must_t (dC : Nat → ClassId) (dI : Nat → Nat → Nat) (cB cI cJ cM : ClassId) (h0 : Nat) (k0 : Value) (m1 m2 m3 m4 m5 m6 m7 m8 m9 m10 m11 m12 m13 m14 m15 m16 m17 m18 m19 m20 m21 m22 m23 : Value) (A : Nat → Prop) : Array Value → State → Outcome → State → Prop := va_Qv (fun (u : Unit) => True) (zB dC dI cB cI cJ cM A (fun u : Unit => [(h0, .inr (9, [k0, m1, m2, m3, m4, m5, m6, m7, m8, m9, m10, m11, m12, m13, m14, m15, m16, m17, m18, m19, m20, m21, m22, m23]))])) A
set_option maxHeartbeats 8000000 in
set_option maxRecDepth 100000 in
/-- must(true) -/
theorem k_X9_must_t (l : Launch) (dC : Nat → ClassId) (dI : Nat → Nat → Nat) (cB cI cJ cM : ClassId) (h0 : Nat) (k0 : Value) (m1 m2 m3 m4 m5 m6 m7 m8 m9 m10 m11 m12 m13 m14 m15 m16 m17 m18 m19 m20 m21 m22 m23 : Value) (sz : Nat) : Met l yX9_must wsX9_must rm_X9_must_t (va_Pc [.ref h0, .int 1] (fun U => U.heap.size = sz ∧ va_P (dC, dI) vwCl (wo_X9_must_t dC dI cB cI cJ cM h0 k0 m1 m2 m3 m4 m5 m6 m7 m8 m9 m10 m11 m12 m13 m14 m15 m16 m17 m18 m19 m20 m21 m22 m23) U.heap ∧ va_K (dC, dI) vwCl (zT cB cI cJ cM) U ∧ va_D (fun _ => True) (wo_X9_must_t dC dI cB cI cJ cM h0 k0 m1 m2 m3 m4 m5 m6 m7 m8 m9 m10 m11 m12 m13 m14 m15 m16 m17 m18 m19 m20 m21 m22 m23))) (q_X9_must_t dC dI cB cI cJ cM h0 k0 m1 m2 m3 m4 m5 m6 m7 m8 m9 m10 m11 m12 m13 m14 m15 m16 m17 m18 m19 m20 m21 m22 m23 (va_A (wo_X9_must_t dC dI cB cI cJ cM h0 k0 m1 m2 m3 m4 m5 m6 m7 m8 m9 m10 m11 m12 m13 m14 m15 m16 m17 m18 m19 m20 m21 m22 m23) sz)) 0 0 (va_A (wo_X9_must_t dC dI cB cI cJ cM h0 k0 m1 m2 m3 m4 m5 m6 m7 m8 m9 m10 m11 m12 m13 m14 m15 m16 m17 m18 m19 m20 m21 m22 m23) sz) := by
  refine Met.ofW (cc := cX9_must) (maxL := 2) (ret := none) (by decide) rfl ?_
  intro p e s m args below meth c s₁ B hml hv
  obtain ⟨rfl, hsz, hP, hK, hD0⟩ := hv
  have hx := B.exec
  have hb := B.bytes
  have hr := B.returns
  have hts := atoms_spec (ws := wsX9_must) B.pre
  have hown : s.vm.findClass RX9 = some m.cls := findClass_of_methodNamed B.named
  have hlocks := B.notSynchronized
  subst hsz
  have hD := hD0.self (sz := s.heap.size)
  generalize hAe : va_A (wo_X9_must_t dC dI cB cI cJ cM h0 k0 m1 m2 m3 m4 m5 m6 m7 m8 m9 m10 m11 m12 m13 m14 m15 m16 m17 m18 m19 m20 m21 m22 m23) s.heap.size = A at hD ⊢
  have hA : ∀ q : Nat, s.heap.size ≤ q → A q := fun q h => by rw [← hAe]; exact Or.inr h
  have hS : va_S A s.heap s.heap [] := va_S.rf
  have hP : va_P (dC, dI) vwCl [(h0, .inr (9, [k0, m1, m2, m3, m4, m5, m6, m7, m8, m9, m10, m11, m12, m13, m14, m15, m16, m17, m18, m19, m20, m21, m22, m23]))] s.heap := hP
  have hD : va_D A [(h0, .inr (9, [k0, m1, m2, m3, m4, m5, m6, m7, m8, m9, m10, m11, m12, m13, m14, m15, m16, m17, m18, m19, m20, m21, m22, m23]))] := hD
  have hl := lv_entry ([.ref h0, .int 1]) (n := 2) (Nat.le_of_ble_eq_true rfl)
  rw [lg_entry_eq]
  generalize (lg_sl ([.ref h0, .int 1]) ++ List.replicate (2 - (lg_sl ([.ref h0, .int 1])).length) Slot.unset).toArray = ls at hl ⊢
  have hl : lv_has ls 2 [(0, .ref h0), (1, .int 1)] := hl
  refine lv_iload_n hx hb dX9_must_0 rfl (lv_at hl 1 rfl) ?_
  refine lv_if_ne (tgt := 9) hx hb dX9_must_1 (by decide) (fun c1 => ?_) (fun c1 => ?_)
  · have c1 : ¬ (1 = 0) := fun h => c1 ((nI_eq (a := 1) (b := 0) (by omega) (by omega)).mpr h)
    have hP9 := hP.sub (ws' := [(h0, .inr (9, [k0, m1, m2, m3, m4, m5, m6, m7, m8, m9, m10, m11, m12, m13, m14, m15, m16, m17, m18, m19, m20, m21, m22, m23]))]) [0] rfl
    have hD9 := hD.sub (ws' := [(h0, .inr (9, [k0, m1, m2, m3, m4, m5, m6, m7, m8, m9, m10, m11, m12, m13, m14, m15, m16, m17, m18, m19, m20, m21, m22, m23]))]) [0] (by decide) rfl
    exact W.vret hx hb hr (fun t ht hW => ⟨⟨(), rfl, trivial, ⟨by rw [ht]; exact hP9, va_K.moved hW.alike hK, hD9⟩⟩, hS.F ht⟩) hS.2.2 dX9_must_9
  · have c1 : 1 = 0 := (nI_eq (a := 1) (b := 0) (by omega) (by omega)).mp c1
    exfalso; omega

abbrev rm_X9_must_f : Room := { frames := 0, cells := 0, slots := 0, locals := 0 }
abbrev wo_X9_must_f (dC : Nat → ClassId) (dI : Nat → Nat → Nat) (cB cI cJ cM : ClassId) (h0 bk : Nat) (k0 k1 k2 k3 k4 k5 : Value) (m1 m2 m3 m4 m5 m6 m7 m8 m9 m10 m11 m12 m13 m14 m15 m16 m17 m18 m19 m20 m21 m22 m23 : Value) : va_W := [(h0, .inr (9, [.ref bk, m1, m2, m3, m4, m5, m6, m7, m8, m9, m10, m11, m12, m13, m14, m15, m16, m17, m18, m19, m20, m21, m22, m23])), (bk, .inr (8, [k0, k1, k2, k3, k4, k5]))]
abbrev q_X9_must_f (dC : Nat → ClassId) (dI : Nat → Nat → Nat) (cB cI cJ cM : ClassId) (h0 bk : Nat) (k0 k1 k2 k3 k4 k5 : Value) (m1 m2 m3 m4 m5 m6 m7 m8 m9 m10 m11 m12 m13 m14 m15 m16 m17 m18 m19 m20 m21 m22 m23 : Value) (A : Nat → Prop) : Array Value → State → Outcome → State → Prop := va_Qv (fun (u : Unit) => False) (zB dC dI cB cI cJ cM A (fun u : Unit => [(h0, .inr (9, [.ref bk, m1, m2, m3, m4, m5, m6, m7, m8, m9, m10, m11, m12, m13, m14, m15, m16, m17, m18, m19, m20, m21, m22, m23])), (bk, .inr (8, [k0, k1, k2, k3, k4, k5]))])) A
abbrev x_X9_must_f (dC : Nat → ClassId) (dI : Nat → Nat → Nat) (cB cI cJ cM : ClassId) (h0 bk : Nat) (k0 k1 k2 k3 k4 k5 : Value) (m1 m2 m3 m4 m5 m6 m7 m8 m9 m10 m11 m12 m13 m14 m15 m16 m17 m18 m19 m20 m21 m22 m23 : Value) (A : Nat → Prop) : String → State → State → Prop := vx_X (fun (u : String × (Unit)) => (u.1 = "FixedPressModel$Broken") ∧ (True)) (fun E (u : String × (Unit)) t => E = u.1 ∧ zB dC dI cB cI cJ cM A (fun u : Unit => [(h0, .inr (9, [.ref bk, m1, m2, m3, m4, m5, m6, m7, m8, m9, m10, m11, m12, m13, m14, m15, m16, m17, m18, m19, m20, m21, m22, m23])), (bk, .inr (8, [k0, k1, k2, k3, k4, k5]))]) u.2 t) A
set_option maxHeartbeats 8000000 in
set_option maxRecDepth 100000 in
/-- must(false) -/
theorem k_X9_must_f (l : Launch) (dC : Nat → ClassId) (dI : Nat → Nat → Nat) (cB cI cJ cM : ClassId) (h0 bk : Nat) (k0 k1 k2 k3 k4 k5 : Value) (m1 m2 m3 m4 m5 m6 m7 m8 m9 m10 m11 m12 m13 m14 m15 m16 m17 m18 m19 m20 m21 m22 m23 : Value) (sz : Nat) : vx_Met l yX9_must wsX9_must rm_X9_must_f (va_Pc [.ref h0, .int 0] (fun U => U.heap.size = sz ∧ va_P (dC, dI) vwCl (wo_X9_must_f dC dI cB cI cJ cM h0 bk k0 k1 k2 k3 k4 k5 m1 m2 m3 m4 m5 m6 m7 m8 m9 m10 m11 m12 m13 m14 m15 m16 m17 m18 m19 m20 m21 m22 m23) U.heap ∧ va_K (dC, dI) vwCl (zT cB cI cJ cM) U ∧ va_D (fun _ => True) (wo_X9_must_f dC dI cB cI cJ cM h0 bk k0 k1 k2 k3 k4 k5 m1 m2 m3 m4 m5 m6 m7 m8 m9 m10 m11 m12 m13 m14 m15 m16 m17 m18 m19 m20 m21 m22 m23))) (q_X9_must_f dC dI cB cI cJ cM h0 bk k0 k1 k2 k3 k4 k5 m1 m2 m3 m4 m5 m6 m7 m8 m9 m10 m11 m12 m13 m14 m15 m16 m17 m18 m19 m20 m21 m22 m23 (va_A (wo_X9_must_f dC dI cB cI cJ cM h0 bk k0 k1 k2 k3 k4 k5 m1 m2 m3 m4 m5 m6 m7 m8 m9 m10 m11 m12 m13 m14 m15 m16 m17 m18 m19 m20 m21 m22 m23) sz)) (x_X9_must_f dC dI cB cI cJ cM h0 bk k0 k1 k2 k3 k4 k5 m1 m2 m3 m4 m5 m6 m7 m8 m9 m10 m11 m12 m13 m14 m15 m16 m17 m18 m19 m20 m21 m22 m23 (va_A (wo_X9_must_f dC dI cB cI cJ cM h0 bk k0 k1 k2 k3 k4 k5 m1 m2 m3 m4 m5 m6 m7 m8 m9 m10 m11 m12 m13 m14 m15 m16 m17 m18 m19 m20 m21 m22 m23) sz)) 0 0 0 0 (va_A (wo_X9_must_f dC dI cB cI cJ cM h0 bk k0 k1 k2 k3 k4 k5 m1 m2 m3 m4 m5 m6 m7 m8 m9 m10 m11 m12 m13 m14 m15 m16 m17 m18 m19 m20 m21 m22 m23) sz) := by
  refine vx_ofW (cc := cX9_must) (maxL := 2) (ret := none) (by decide) rfl ?_
  intro p e s m args below meth c s₁ B hml hEx hv
  obtain ⟨rfl, hsz, hP, hK, hD0⟩ := hv
  have hx := B.exec
  have hb := B.bytes
  have hr := B.returns
  have hts := atoms_spec (ws := wsX9_must) B.pre
  have hown : s.vm.findClass RX9 = some m.cls := findClass_of_methodNamed B.named
  have hlocks := B.notSynchronized
  subst hsz
  have hD := hD0.self (sz := s.heap.size)
  generalize hAe : va_A (wo_X9_must_f dC dI cB cI cJ cM h0 bk k0 k1 k2 k3 k4 k5 m1 m2 m3 m4 m5 m6 m7 m8 m9 m10 m11 m12 m13 m14 m15 m16 m17 m18 m19 m20 m21 m22 m23) s.heap.size = A at hD ⊢
  have hA : ∀ q : Nat, s.heap.size ≤ q → A q := fun q h => by rw [← hAe]; exact Or.inr h
  have hS : va_S A s.heap s.heap [] := va_S.rf
  have hP : va_P (dC, dI) vwCl [(h0, .inr (9, [.ref bk, m1, m2, m3, m4, m5, m6, m7, m8, m9, m10, m11, m12, m13, m14, m15, m16, m17, m18, m19, m20, m21, m22, m23])), (bk, .inr (8, [k0, k1, k2, k3, k4, k5]))] s.heap := hP
  have hD : va_D A [(h0, .inr (9, [.ref bk, m1, m2, m3, m4, m5, m6, m7, m8, m9, m10, m11, m12, m13, m14, m15, m16, m17, m18, m19, m20, m21, m22, m23])), (bk, .inr (8, [k0, k1, k2, k3, k4, k5]))] := hD
  have hl := lv_entry ([.ref h0, .int 0]) (n := 2) (Nat.le_of_ble_eq_true rfl)
  rw [lg_entry_eq]
  generalize (lg_sl ([.ref h0, .int 0]) ++ List.replicate (2 - (lg_sl ([.ref h0, .int 0])).length) Slot.unset).toArray = ls at hl ⊢
  have hl : lv_has ls 2 [(0, .ref h0), (1, .int 0)] := hl
  refine lv_iload_n hx hb dX9_must_0 rfl (lv_at hl 1 rfl) ?_
  refine lv_if_ne (tgt := 9) hx hb dX9_must_1 (by decide) (fun c1 => ?_) (fun c1 => ?_)
  · have c1 : ¬ (0 = 0) := fun h => c1 ((nI_eq (a := 0) (b := 0) (by omega) (by omega)).mpr h)
    exfalso; omega
  · have c1 : 0 = 0 := (nI_eq (a := 0) (b := 0) (by omega) (by omega)).mp c1
    refine lv_aload_n hx hb dX9_must_4 rfl (lv_at hl 0 rfl) ?_
    refine va_get (D := (dC, dI)) (ci := 9) (v := .ref bk) (C := RX9) (T := TX9) (N := 24) hx hb hts (by decide +kernel) hown hK hP 0 rfl rfl 0 (by decide) (hts (.fieldLink RX9 1 "FixedPressModel" "broken" "LFixedPressModel$Broken;") (by decide +kernel)) (fun _ h9 => h9) rfl dX9_must_5 ?_
    have hP9 := hP.sub (ws' := [(h0, .inr (9, [.ref bk, m1, m2, m3, m4, m5, m6, m7, m8, m9, m10, m11, m12, m13, m14, m15, m16, m17, m18, m19, m20, m21, m22, m23])), (bk, .inr (8, [k0, k1, k2, k3, k4, k5]))]) [0, 1] rfl
    have hD9 := hD.sub (ws' := [(h0, .inr (9, [.ref bk, m1, m2, m3, m4, m5, m6, m7, m8, m9, m10, m11, m12, m13, m14, m15, m16, m17, m18, m19, m20, m21, m22, m23])), (bk, .inr (8, [k0, k1, k2, k3, k4, k5]))]) [0, 1] (by decide) rfl
    obtain ⟨ce9, hce9, hcv9, hcl9⟩ := zz_recv hK hP (ci := 8) (q0 := 1) rfl rfl
    exact zz_athrow (E := "FixedPressModel$Broken") hx hb (fun x hx => (hEx x hx).elim) hlocks hce9 hcv9 hcl9 dX9_must_8 (fun t ht9 ha => ⟨("FixedPressModel$Broken", ()), ⟨rfl, trivial⟩, ⟨rfl, by rw [ht9]; exact hP9, va_K.moved ha hK, hD9⟩, hS.F ht9⟩) hS.2.2 (Nat.le_of_ble_eq_true rfl) (Nat.le_of_ble_eq_true rfl)

abbrev rm_X9_take : Room := { frames := 1, cells := 0, slots := 0, locals := 21 }
abbrev wo_X9_take (dC : Nat → ClassId) (dI : Nat → Nat → Nat) (cB cI cJ cM : ClassId) (h0 bk b : Nat) (f : Nat → Int32) (ps lb n : Nat) (k0 k1 k2 k3 k4 k5 : Value) (m1 m2 m3 m4 m5 m11 m12 m13 m14 m15 m16 m17 m18 m19 m20 m21 m22 m23 : Value) : va_W := [(h0, .inr (9, [.ref bk, m1, m2, m3, m4, m5, .ref b, .int (nI ((ps + 7) / 8)), .int (nI lb), .int (nI (zbv f ps ((ps + 7) / 8 * 8 - ps))), .int (nI ((ps + 7) / 8 * 8 - ps)), m11, m12, m13, m14, m15, m16, m17, m18, m19, m20, m21, m22, m23])), (bk, .inr (8, [k0, k1, k2, k3, k4, k5])), (b, .inl (cB, 4000, .inl f))]
abbrev q_X9_take (dC : Nat → ClassId) (dI : Nat → Nat → Nat) (cB cI cJ cM : ClassId) (h0 bk b : Nat) (f : Nat → Int32) (ps lb n : Nat) (k0 k1 k2 k3 k4 k5 : Value) (m1 m2 m3 m4 m5 m11 m12 m13 m14 m15 m16 m17 m18 m19 m20 m21 m22 m23 : Value) (A : Nat → Prop) : Array Value → State → Outcome → State → Prop := va_Qi (fun (r : Int32) (u : Unit) => r = nI (zbv f ps n) ∧ ps + n ≤ 8 * lb) (zB dC dI cB cI cJ cM A (fun u : Unit => [(h0, .inr (9, [.ref bk, m1, m2, m3, m4, m5, .ref b, .int (nI ((ps + n + 7) / 8)), .int (nI lb), .int (nI (zbv f (ps + n) ((ps + n + 7) / 8 * 8 - (ps + n)))), .int (nI ((ps + n + 7) / 8 * 8 - (ps + n))), m11, m12, m13, m14, m15, m16, m17, m18, m19, m20, m21, m22, m23])), (bk, .inr (8, [k0, k1, k2, k3, k4, k5])), (b, .inl (cB, 4000, .inl f))])) A
abbrev x_X9_take (dC : Nat → ClassId) (dI : Nat → Nat → Nat) (cB cI cJ cM : ClassId) (h0 bk b : Nat) (f : Nat → Int32) (ps lb n : Nat) (k0 k1 k2 k3 k4 k5 : Value) (m1 m2 m3 m4 m5 m11 m12 m13 m14 m15 m16 m17 m18 m19 m20 m21 m22 m23 : Value) (A : Nat → Prop) : String → State → State → Prop := vx_X (fun (u : String × (Int32 × Int32 × Int32)) => (u.1 = "FixedPressModel$Broken") ∧ (8 * lb < ps + n)) (fun E (u : String × (Int32 × Int32 × Int32)) t => E = u.1 ∧ zB dC dI cB cI cJ cM A (fun u : Int32 × Int32 × Int32 => [(h0, .inr (9, [.ref bk, m1, m2, m3, m4, m5, .ref b, .int u.1, .int (nI lb), .int u.2.1, .int u.2.2, m11, m12, m13, m14, m15, m16, m17, m18, m19, m20, m21, m22, m23])), (bk, .inr (8, [k0, k1, k2, k3, k4, k5])), (b, .inl (cB, 4000, .inl f))]) u.2 t) A
set_option maxHeartbeats 8000000 in
set_option maxRecDepth 100000 in
/-- take -/
theorem k_X9_take (l : Launch) (dC : Nat → ClassId) (dI : Nat → Nat → Nat) (cB cI cJ cM : ClassId) (h0 bk b : Nat) (f : Nat → Int32) (ps lb n : Nat) (k0 k1 k2 k3 k4 k5 : Value) (m1 m2 m3 m4 m5 m11 m12 m13 m14 m15 m16 m17 m18 m19 m20 m21 m22 m23 : Value) (h1 : n ≤ 16) (h2 : lb ≤ 4000) (h3 : ps ≤ 8 * lb) (sz : Nat) : vx_Met l yX9_take wsX9_take rm_X9_take (va_Pc [.ref h0, .int (nI n)] (fun U => U.heap.size = sz ∧ va_P (dC, dI) vwCl (wo_X9_take dC dI cB cI cJ cM h0 bk b f ps lb n k0 k1 k2 k3 k4 k5 m1 m2 m3 m4 m5 m11 m12 m13 m14 m15 m16 m17 m18 m19 m20 m21 m22 m23) U.heap ∧ va_K (dC, dI) vwCl (zT cB cI cJ cM) U ∧ va_D (fun _ => True) (wo_X9_take dC dI cB cI cJ cM h0 bk b f ps lb n k0 k1 k2 k3 k4 k5 m1 m2 m3 m4 m5 m11 m12 m13 m14 m15 m16 m17 m18 m19 m20 m21 m22 m23))) (q_X9_take dC dI cB cI cJ cM h0 bk b f ps lb n k0 k1 k2 k3 k4 k5 m1 m2 m3 m4 m5 m11 m12 m13 m14 m15 m16 m17 m18 m19 m20 m21 m22 m23 (va_A (wo_X9_take dC dI cB cI cJ cM h0 bk b f ps lb n k0 k1 k2 k3 k4 k5 m1 m2 m3 m4 m5 m11 m12 m13 m14 m15 m16 m17 m18 m19 m20 m21 m22 m23) sz)) (x_X9_take dC dI cB cI cJ cM h0 bk b f ps lb n k0 k1 k2 k3 k4 k5 m1 m2 m3 m4 m5 m11 m12 m13 m14 m15 m16 m17 m18 m19 m20 m21 m22 m23 (va_A (wo_X9_take dC dI cB cI cJ cM h0 bk b f ps lb n k0 k1 k2 k3 k4 k5 m1 m2 m3 m4 m5 m11 m12 m13 m14 m15 m16 m17 m18 m19 m20 m21 m22 m23) sz)) 0 0 0 0 (va_A (wo_X9_take dC dI cB cI cJ cM h0 bk b f ps lb n k0 k1 k2 k3 k4 k5 m1 m2 m3 m4 m5 m11 m12 m13 m14 m15 m16 m17 m18 m19 m20 m21 m22 m23) sz) := by
  refine vx_ofW (cc := cX9_take) (maxL := 3) (ret := (some .int)) (by decide) rfl ?_
  intro p e s m args below meth c s₁ B hml hEx hv
  obtain ⟨rfl, hsz, hP, hK, hD0⟩ := hv
  have hx := B.exec
  have hb := B.bytes
  have hr := B.returns
  have hts := atoms_spec (ws := wsX9_take) B.pre
  have hown : s.vm.findClass RX9 = some m.cls := findClass_of_methodNamed B.named
  have hlocks := B.notSynchronized
  subst hsz
  have hD := hD0.self (sz := s.heap.size)
  generalize hAe : va_A (wo_X9_take dC dI cB cI cJ cM h0 bk b f ps lb n k0 k1 k2 k3 k4 k5 m1 m2 m3 m4 m5 m11 m12 m13 m14 m15 m16 m17 m18 m19 m20 m21 m22 m23) s.heap.size = A at hD ⊢
  have hA : ∀ q : Nat, s.heap.size ≤ q → A q := fun q h => by rw [← hAe]; exact Or.inr h
  have hS : va_S A s.heap s.heap [] := va_S.rf
  have hP : va_P (dC, dI) vwCl [(h0, .inr (9, [.ref bk, m1, m2, m3, m4, m5, .ref b, .int (nI ((ps + 7) / 8)), .int (nI lb), .int (nI (zbv f ps ((ps + 7) / 8 * 8 - ps))), .int (nI ((ps + 7) / 8 * 8 - ps)), m11, m12, m13, m14, m15, m16, m17, m18, m19, m20, m21, m22, m23])), (bk, .inr (8, [k0, k1, k2, k3, k4, k5])), (b, .inl (cB, 4000, .inl f))] s.heap := hP
  have hD : va_D A [(h0, .inr (9, [.ref bk, m1, m2, m3, m4, m5, .ref b, .int (nI ((ps + 7) / 8)), .int (nI lb), .int (nI (zbv f ps ((ps + 7) / 8 * 8 - ps))), .int (nI ((ps + 7) / 8 * 8 - ps)), m11, m12, m13, m14, m15, m16, m17, m18, m19, m20, m21, m22, m23])), (bk, .inr (8, [k0, k1, k2, k3, k4, k5])), (b, .inl (cB, 4000, .inl f))] := hD
  have hl := lv_entry ([.ref h0, .int (nI n)]) (n := 3) (Nat.le_of_ble_eq_true rfl)
  rw [lg_entry_eq]
  generalize (lg_sl ([.ref h0, .int (nI n)]) ++ List.replicate (3 - (lg_sl ([.ref h0, .int (nI n)])).length) Slot.unset).toArray = ls at hl ⊢
  have hl : lv_has ls 3 [(0, .ref h0), (1, .int (nI n))] := hl
  have cut0 : ∀ (fuel : Nat) (q : Nat) (hb_ : Nat), (ps + hb_ = 8 * q) → (hb_ ≤ n + 7) → (q ≤ lb) → (n - hb_ < fuel) → ∀ (H : Heap) (locs : List Loc), va_P (dC, dI) vwCl [(h0, .inr (9, [.ref bk, m1, m2, m3, m4, m5, .ref b, .int (nI q), .int (nI lb), .int (nI (zbv f ps hb_)), .int (nI hb_), m11, m12, m13, m14, m15, m16, m17, m18, m19, m20, m21, m22, m23])), (bk, .inr (8, [k0, k1, k2, k3, k4, k5])), (b, .inl (cB, 4000, .inl f))] H → va_D A [(h0, .inr (9, [.ref bk, m1, m2, m3, m4, m5, .ref b, .int (nI q), .int (nI lb), .int (nI (zbv f ps hb_)), .int (nI hb_), m11, m12, m13, m14, m15, m16, m17, m18, m19, m20, m21, m22, m23])), (bk, .inr (8, [k0, k1, k2, k3, k4, k5])), (b, .inl (cB, 4000, .inl f))] → va_S A s.heap H locs → ∀ (ls : Array Slot), lv_has ls 3 [(0, .ref h0), (1, .int (nI n))] → W p l e (headSpec wsX9_take rm_X9_take).room s m ([.ref h0, .int (nI n)] : List Value).toArray below meth c H locs 0 0 (vx_MQ below (q_X9_take dC dI cB cI cJ cM h0 bk b f ps lb n k0 k1 k2 k3 k4 k5 m1 m2 m3 m4 m5 m11 m12 m13 m14 m15 m16 m17 m18 m19 m20 m21 m22 m23 A) (x_X9_take dC dI cB cI cJ cM h0 bk b f ps lb n k0 k1 k2 k3 k4 k5 m1 m2 m3 m4 m5 m11 m12 m13 m14 m15 m16 m17 m18 m19 m20 m21 m22 m23 A) ([.ref h0, .int (nI n)] : List Value).toArray s 0 0 0 0 A) (F0 m 0 ls []) := by
    intro fuel
    induction fuel with
    | zero => intros; omega
    | succ fuel ih =>
      intro q hb_ hq hh hql hfuel H locs hP hD hS ls hl
      refine lv_aload_n hx hb dX9_take_0 rfl (lv_at hl 0 rfl) ?_
      refine va_get (D := (dC, dI)) (ci := 9) (v := .int (nI hb_)) (C := RX9) (T := TX9) (N := 24) hx hb hts (by decide +kernel) hown hK hP 0 rfl rfl 10 (by decide) (hts (.fieldLink RX9 53 "FixedPressModel" "heldBits" "I") (by decide +kernel)) (fun _ h9 => h9) rfl dX9_take_1 ?_
      refine lv_iload_n hx hb dX9_take_4 rfl (lv_at hl 1 rfl) ?_
      refine lv_icmp_ge (tgt := 79) hx hb dX9_take_5 (by decide) (fun c5 => ?_) (fun c5 => ?_)
      · have c5 : n ≤ hb_ := (nI_leI (a := n) (b := hb_) (by omega) (by omega)).mp c5
        have hz24 := zbv_24 (f := f) (a := ps) (k := hb_) (by omega)
        refine lv_aload_n hx hb dX9_take_79 rfl (lv_at hl 0 rfl) ?_
        refine va_get (D := (dC, dI)) (ci := 9) (v := .int (nI (zbv f ps hb_))) (C := RX9) (T := TX9) (N := 24) hx hb hts (by decide +kernel) hown hK hP 0 rfl rfl 9 (by decide) (hts (.fieldLink RX9 66 "FixedPressModel" "held" "I") (by decide +kernel)) (fun _ h9 => h9) rfl dX9_take_80 ?_
        refine lv_iconst (v := 1) hx hb dX9_take_83 (by decide) ?_
        refine lv_iload_n hx hb dX9_take_84 rfl (lv_at hl 1 rfl) ?_
        refine lv_ishl hx hb dX9_take_85 ?_
        refine lv_iconst (v := 1) hx hb dX9_take_86 (by decide) ?_
        refine lv_isub hx hb dX9_take_87 ?_
        refine lv_iand hx hb dX9_take_88 ?_
        refine lv_topi (fun y_1 ey_1 => ?_)
        obtain rfl : y_1 = nI (zbv f ps n) := ey_1.trans ((z_msk (by omega) (by omega)).trans (congrArg nI (zbv_mod f ps (by omega))))
        refine lv_istore_n (lv' := [(2, .int (nI (zbv f ps n))), (0, .ref h0), (1, .int (nI n))]) hx hb dX9_take_89 rfl hl (by decide) rfl (fun ls hl => ?_)
        refine lv_aload_n hx hb dX9_take_90 rfl (lv_at hl 1 rfl) ?_
        refine lv_dup hx hb dX9_take_91 rfl ?_
        refine va_get (D := (dC, dI)) (ci := 9) (v := .int (nI (zbv f ps hb_))) (C := RX9) (T := TX9) (N := 24) hx hb hts (by decide +kernel) hown hK hP 0 rfl rfl 9 (by decide) (hts (.fieldLink RX9 66 "FixedPressModel" "held" "I") (by decide +kernel)) (fun _ h9 => h9) rfl dX9_take_92 ?_
        refine lv_iload_n hx hb dX9_take_95 rfl (lv_at hl 2 rfl) ?_
        refine lv_iushr hx hb dX9_take_96 rfl ?_
        refine lv_topi (fun y_2 ey_2 => ?_)
        obtain rfl : y_2 = nI (zbv f (ps + n) (hb_ - n)) := ey_2.trans ((z_ush (n := zbv f ps hb_) (k := n) (by omega) (by omega)).trans (congrArg nI (zbv_div f ps (by omega))))
        refine va_put (D := (dC, dI)) (ci := 9) (v := .int (nI (zbv f (ps + n) (hb_ - n)))) (ty := .int) (C := RX9) (T := TX9) (N := 24) hx hb hts (by decide +kernel) tyX9 tyX9_ok nmX9 hown hK hP hD hS 0 rfl rfl 9 (by decide) (hts (.fieldLink RX9 66 "FixedPressModel" "held" "I") (by decide +kernel)) (fun _ h9 => h9) rfl (by decide +kernel) rfl rfl (Nat.le_of_ble_eq_true rfl) dX9_take_97 (fun H locs hP hD hS => ?_)
        have hP : va_P (dC, dI) vwCl [(h0, .inr (9, [.ref bk, m1, m2, m3, m4, m5, .ref b, .int (nI q), .int (nI lb), .int (nI (zbv f (ps + n) (hb_ - n))), .int (nI hb_), m11, m12, m13, m14, m15, m16, m17, m18, m19, m20, m21, m22, m23])), (bk, .inr (8, [k0, k1, k2, k3, k4, k5])), (b, .inl (cB, 4000, .inl f))] H := hP
        have hD : va_D A [(h0, .inr (9, [.ref bk, m1, m2, m3, m4, m5, .ref b, .int (nI q), .int (nI lb), .int (nI (zbv f (ps + n) (hb_ - n))), .int (nI hb_), m11, m12, m13, m14, m15, m16, m17, m18, m19, m20, m21, m22, m23])), (bk, .inr (8, [k0, k1, k2, k3, k4, k5])), (b, .inl (cB, 4000, .inl f))] := hD
        refine lv_aload_n hx hb dX9_take_100 rfl (lv_at hl 1 rfl) ?_
        refine lv_dup hx hb dX9_take_101 rfl ?_
        refine va_get (D := (dC, dI)) (ci := 9) (v := .int (nI hb_)) (C := RX9) (T := TX9) (N := 24) hx hb hts (by decide +kernel) hown hK hP 0 rfl rfl 10 (by decide) (hts (.fieldLink RX9 53 "FixedPressModel" "heldBits" "I") (by decide +kernel)) (fun _ h9 => h9) rfl dX9_take_102 ?_
        refine lv_iload_n hx hb dX9_take_105 rfl (lv_at hl 2 rfl) ?_
        refine lv_isub hx hb dX9_take_106 ?_
        refine lv_topi (fun y_3 ey_3 => ?_)
        obtain rfl : y_3 = nI (hb_ - n) := ey_3.trans (pk_sub (a := hb_) (b := n) (by omega))
        refine va_put (D := (dC, dI)) (ci := 9) (v := .int (nI (hb_ - n))) (ty := .int) (C := RX9) (T := TX9) (N := 24) hx hb hts (by decide +kernel) tyX9 tyX9_ok nmX9 hown hK hP hD hS 0 rfl rfl 10 (by decide) (hts (.fieldLink RX9 53 "FixedPressModel" "heldBits" "I") (by decide +kernel)) (fun _ h9 => h9) rfl (by decide +kernel) rfl rfl (Nat.le_of_ble_eq_true rfl) dX9_take_107 (fun H locs hP hD hS => ?_)
        have hP : va_P (dC, dI) vwCl [(h0, .inr (9, [.ref bk, m1, m2, m3, m4, m5, .ref b, .int (nI q), .int (nI lb), .int (nI (zbv f (ps + n) (hb_ - n))), .int (nI (hb_ - n)), m11, m12, m13, m14, m15, m16, m17, m18, m19, m20, m21, m22, m23])), (bk, .inr (8, [k0, k1, k2, k3, k4, k5])), (b, .inl (cB, 4000, .inl f))] H := hP
        have hD : va_D A [(h0, .inr (9, [.ref bk, m1, m2, m3, m4, m5, .ref b, .int (nI q), .int (nI lb), .int (nI (zbv f (ps + n) (hb_ - n))), .int (nI (hb_ - n)), m11, m12, m13, m14, m15, m16, m17, m18, m19, m20, m21, m22, m23])), (bk, .inr (8, [k0, k1, k2, k3, k4, k5])), (b, .inl (cB, 4000, .inl f))] := hD
        have e1 : q = (ps + n + 7) / 8 := by omega
        have e2 : hb_ - n = (ps + n + 7) / 8 * 8 - (ps + n) := by omega
        rw [e2] at hP hD
        rw [e1] at hP hD
        have hP : va_P (dC, dI) vwCl [(h0, .inr (9, [.ref bk, m1, m2, m3, m4, m5, .ref b, .int (nI ((ps + n + 7) / 8)), .int (nI lb), .int (nI (zbv f (ps + n) ((ps + n + 7) / 8 * 8 - (ps + n)))), .int (nI ((ps + n + 7) / 8 * 8 - (ps + n))), m11, m12, m13, m14, m15, m16, m17, m18, m19, m20, m21, m22, m23])), (bk, .inr (8, [k0, k1, k2, k3, k4, k5])), (b, .inl (cB, 4000, .inl f))] H := hP
        have hD : va_D A [(h0, .inr (9, [.ref bk, m1, m2, m3, m4, m5, .ref b, .int (nI ((ps + n + 7) / 8)), .int (nI lb), .int (nI (zbv f (ps + n) ((ps + n + 7) / 8 * 8 - (ps + n)))), .int (nI ((ps + n + 7) / 8 * 8 - (ps + n))), m11, m12, m13, m14, m15, m16, m17, m18, m19, m20, m21, m22, m23])), (bk, .inr (8, [k0, k1, k2, k3, k4, k5])), (b, .inl (cB, 4000, .inl f))] := hD
        refine lv_iload_n hx hb dX9_take_110 rfl (lv_at hl 0 rfl) ?_
        have hP9 := hP.sub (ws' := [(h0, .inr (9, [.ref bk, m1, m2, m3, m4, m5, .ref b, .int (nI ((ps + n + 7) / 8)), .int (nI lb), .int (nI (zbv f (ps + n) ((ps + n + 7) / 8 * 8 - (ps + n)))), .int (nI ((ps + n + 7) / 8 * 8 - (ps + n))), m11, m12, m13, m14, m15, m16, m17, m18, m19, m20, m21, m22, m23])), (bk, .inr (8, [k0, k1, k2, k3, k4, k5])), (b, .inl (cB, 4000, .inl f))]) [0, 1, 2] rfl
        have hD9 := hD.sub (ws' := [(h0, .inr (9, [.ref bk, m1, m2, m3, m4, m5, .ref b, .int (nI ((ps + n + 7) / 8)), .int (nI lb), .int (nI (zbv f (ps + n) ((ps + n + 7) / 8 * 8 - (ps + n)))), .int (nI ((ps + n + 7) / 8 * 8 - (ps + n))), m11, m12, m13, m14, m15, m16, m17, m18, m19, m20, m21, m22, m23])), (bk, .inr (8, [k0, k1, k2, k3, k4, k5])), (b, .inl (cB, 4000, .inl f))]) [0, 1, 2] (by decide) rfl
        exact vx_ret (W.iret (v := (nI (zbv f ps n))) hx hb hr (fun t ht hW => ⟨⟨(nI (zbv f ps n)), (), rfl, ⟨rfl, by omega⟩, ⟨by rw [ht]; exact hP9, va_K.moved hW.alike hK, hD9⟩⟩, hS.F ht⟩) hS.2.2 dX9_take_111)
      · have c5 : ¬ (n ≤ hb_) := fun h => c5 ((nI_leI (a := n) (b := hb_) (by omega) (by omega)).mpr h)
        refine lv_aload_n hx hb dX9_take_8 rfl (lv_at hl 0 rfl) ?_
        refine lv_aload_n hx hb dX9_take_9 rfl (lv_at hl 0 rfl) ?_
        refine va_get (D := (dC, dI)) (ci := 9) (v := .int (nI q)) (C := RX9) (T := TX9) (N := 24) hx hb hts (by decide +kernel) hown hK hP 0 rfl rfl 7 (by decide) (hts (.fieldLink RX9 56 "FixedPressModel" "at" "I") (by decide +kernel)) (fun _ h9 => h9) rfl dX9_take_10 ?_
        refine lv_aload_n hx hb dX9_take_13 rfl (lv_at hl 0 rfl) ?_
        refine va_get (D := (dC, dI)) (ci := 9) (v := .int (nI lb)) (C := RX9) (T := TX9) (N := 24) hx hb hts (by decide +kernel) hown hK hP 0 rfl rfl 8 (by decide) (hts (.fieldLink RX9 59 "FixedPressModel" "limit" "I") (by decide +kernel)) (fun _ h9 => h9) rfl dX9_take_14 ?_
        refine lv_icmp_ge (tgt := 24) hx hb dX9_take_17 (by decide) (fun c17 => ?_) (fun c17 => ?_)
        · have c17 : lb ≤ q := (nI_leI (a := lb) (b := q) (by omega) (by omega)).mp c17
          refine lv_iconst (v := 0) hx hb dX9_take_24 (by decide) ?_
          have hPc := hP.sub (ws' := [(h0, .inr (9, [.ref bk, m1, m2, m3, m4, m5, .ref b, .int (nI q), .int (nI lb), .int (nI (zbv f ps hb_)), .int (nI hb_), m11, m12, m13, m14, m15, m16, m17, m18, m19, m20, m21, m22, m23])), (bk, .inr (8, [k0, k1, k2, k3, k4, k5]))]) [0, 1] rfl
          have hDc := hD.sub (ws' := [(h0, .inr (9, [.ref bk, m1, m2, m3, m4, m5, .ref b, .int (nI q), .int (nI lb), .int (nI (zbv f ps hb_)), .int (nI hb_), m11, m12, m13, m14, m15, m16, m17, m18, m19, m20, m21, m22, m23])), (bk, .inr (8, [k0, k1, k2, k3, k4, k5]))]) [0, 1] (by decide) rfl
          have hFc := va_free (wc := [(h0, .inr (9, [.ref bk, m1, m2, m3, m4, m5, .ref b, .int (nI q), .int (nI lb), .int (nI (zbv f ps hb_)), .int (nI hb_), m11, m12, m13, m14, m15, m16, m17, m18, m19, m20, m21, m22, m23])), (bk, .inr (8, [k0, k1, k2, k3, k4, k5]))]) hD hS hA [0, 1] rfl
          refine vx_callv (vx_runV (As := [.int 0]) (rest := []) ⟨hx, hb, hml, hown, hts⟩ (k_X9_must_f l dC dI cB cI cJ cM h0 bk k0 k1 k2 k3 k4 k5 m1 m2 m3 m4 m5 (.ref b) (.int (nI q)) (.int (nI lb)) (.int (nI (zbv f ps hb_))) (.int (nI hb_)) m11 m12 m13 m14 m15 m16 m17 m18 m19 m20 m21 m22 m23  H.size) (cwV 1 hts gX9_take_X9_must rfl rfl rfl (by decide +kernel) ⟨Nat.le_of_ble_eq_true rfl, Nat.le_of_ble_eq_true rfl⟩) ⟨fun a U g mk q => by obtain ⟨q0, q1, qP, qK, qD⟩ := q; exact ⟨q0, q1, qP, va_K.moved (u := U) (U := U.calling g mk a) (Vm.Alike.refl U.vm) qK, qD⟩, va_recv hK hPc (ci := 9) (q0 := 0) rfl rfl, fun U hU hW => ⟨rfl, by rw [hU], by rw [hU]; exact hPc, va_K.moved hW.alike hK, hDc.weaken (fun _ _ _ _ => trivial)⟩⟩ rfl rfl hl.1 rfl (lv_room (Nat.le_of_ble_eq_true rfl)) dX9_take_25 ⟨(show 0 + 0 ≤ 0 by omega), (show 0 + 0 ≤ 0 by omega)⟩) hS (fun q _ h => hFc q h) hFc (fun q _ h => hFc q h) (fun E8 ce9 q9 ux t H1 locs ht hvm hw hB hz1 hk1 hS hce9 hcv9 hcl9 => ?_) (fun u t H1 locs ht hvm hw hB hz1 hk1 hS => ?_)
          · obtain ⟨E9, ux9⟩ := ux
            obtain ⟨hEe, hB9⟩ := hB
            have hB : True ∧ zB dC dI cB cI cJ cM (va_A [(h0, .inr (9, [.ref bk, m1, m2, m3, m4, m5, .ref b, .int (nI q), .int (nI lb), .int (nI (zbv f ps hb_)), .int (nI hb_), m11, m12, m13, m14, m15, m16, m17, m18, m19, m20, m21, m22, m23])), (bk, .inr (8, [k0, k1, k2, k3, k4, k5]))] H.size) (fun u : Unit => [(h0, .inr (9, [.ref bk, m1, m2, m3, m4, m5, .ref b, .int (nI q), .int (nI lb), .int (nI (zbv f ps hb_)), .int (nI hb_), m11, m12, m13, m14, m15, m16, m17, m18, m19, m20, m21, m22, m23])), (bk, .inr (8, [k0, k1, k2, k3, k4, k5]))]) ux9 t := ⟨trivial, hB9⟩
            have hP1 : va_P (dC, dI) vwCl [(h0, .inr (9, [.ref bk, m1, m2, m3, m4, m5, .ref b, .int (nI q), .int (nI lb), .int (nI (zbv f ps hb_)), .int (nI hb_), m11, m12, m13, m14, m15, m16, m17, m18, m19, m20, m21, m22, m23])), (bk, .inr (8, [k0, k1, k2, k3, k4, k5]))] H1 := by rw [← ht]; exact hB.2.1
            have hD1 : va_D (va_A [(h0, .inr (9, [.ref bk, m1, m2, m3, m4, m5, .ref b, .int (nI q), .int (nI lb), .int (nI (zbv f ps hb_)), .int (nI hb_), m11, m12, m13, m14, m15, m16, m17, m18, m19, m20, m21, m22, m23])), (bk, .inr (8, [k0, k1, k2, k3, k4, k5]))] H.size) [(h0, .inr (9, [.ref bk, m1, m2, m3, m4, m5, .ref b, .int (nI q), .int (nI lb), .int (nI (zbv f ps hb_)), .int (nI hb_), m11, m12, m13, m14, m15, m16, m17, m18, m19, m20, m21, m22, m23])), (bk, .inr (8, [k0, k1, k2, k3, k4, k5]))] := hB.2.2.2
            obtain ⟨hP, hD⟩ := va_join (wr := [(b, .inl (cB, 4000, .inl f))]) (w1 := [(h0, .inr (9, [.ref bk, m1, m2, m3, m4, m5, .ref b, .int (nI q), .int (nI lb), .int (nI (zbv f ps hb_)), .int (nI hb_), m11, m12, m13, m14, m15, m16, m17, m18, m19, m20, m21, m22, m23])), (bk, .inr (8, [k0, k1, k2, k3, k4, k5]))]) hP hD [0, 1] [2] rfl rfl (by decide) (by decide) hk1 hFc hP1 hD1
            generalize H1 = H at hP hS hce9 ⊢
            try dsimp only at hw hEe
            subst hEe
            have hP : va_P (dC, dI) vwCl [(b, .inl (cB, 4000, .inl f)), (h0, .inr (9, [.ref bk, m1, m2, m3, m4, m5, .ref b, .int (nI q), .int (nI lb), .int (nI (zbv f ps hb_)), .int (nI hb_), m11, m12, m13, m14, m15, m16, m17, m18, m19, m20, m21, m22, m23])), (bk, .inr (8, [k0, k1, k2, k3, k4, k5]))] H := hP
            have hD : va_D A [(b, .inl (cB, 4000, .inl f)), (h0, .inr (9, [.ref bk, m1, m2, m3, m4, m5, .ref b, .int (nI q), .int (nI lb), .int (nI (zbv f ps hb_)), .int (nI hb_), m11, m12, m13, m14, m15, m16, m17, m18, m19, m20, m21, m22, m23])), (bk, .inr (8, [k0, k1, k2, k3, k4, k5]))] := hD
            have hP9 := hP.sub (ws' := [(h0, .inr (9, [.ref bk, m1, m2, m3, m4, m5, .ref b, .int (nI q), .int (nI lb), .int (nI (zbv f ps hb_)), .int (nI hb_), m11, m12, m13, m14, m15, m16, m17, m18, m19, m20, m21, m22, m23])), (bk, .inr (8, [k0, k1, k2, k3, k4, k5])), (b, .inl (cB, 4000, .inl f))]) [1, 2, 0] rfl
            have hD9 := hD.sub (ws' := [(h0, .inr (9, [.ref bk, m1, m2, m3, m4, m5, .ref b, .int (nI q), .int (nI lb), .int (nI (zbv f ps hb_)), .int (nI hb_), m11, m12, m13, m14, m15, m16, m17, m18, m19, m20, m21, m22, m23])), (bk, .inr (8, [k0, k1, k2, k3, k4, k5])), (b, .inl (cB, 4000, .inl f))]) [1, 2, 0] (by decide) rfl
            exact vx_out (fun x hx => (hEx x hx).elim) hlocks hce9 hcv9 hcl9 (fun t ht9 ha => ⟨(_, (nI q, nI (zbv f ps hb_), nI hb_)), ⟨hw.1, by omega⟩, ⟨rfl, by rw [ht9]; exact hP9, va_K.moved ha hK, hD9⟩, hS.F ht9⟩) hS.2.2 (Nat.le_of_ble_eq_true rfl) (Nat.le_of_ble_eq_true rfl)
          have hP1 : va_P (dC, dI) vwCl [(h0, .inr (9, [.ref bk, m1, m2, m3, m4, m5, .ref b, .int (nI q), .int (nI lb), .int (nI (zbv f ps hb_)), .int (nI hb_), m11, m12, m13, m14, m15, m16, m17, m18, m19, m20, m21, m22, m23])), (bk, .inr (8, [k0, k1, k2, k3, k4, k5]))] H1 := by rw [← ht]; exact hB.1
          have hD1 : va_D (va_A [(h0, .inr (9, [.ref bk, m1, m2, m3, m4, m5, .ref b, .int (nI q), .int (nI lb), .int (nI (zbv f ps hb_)), .int (nI hb_), m11, m12, m13, m14, m15, m16, m17, m18, m19, m20, m21, m22, m23])), (bk, .inr (8, [k0, k1, k2, k3, k4, k5]))] H.size) [(h0, .inr (9, [.ref bk, m1, m2, m3, m4, m5, .ref b, .int (nI q), .int (nI lb), .int (nI (zbv f ps hb_)), .int (nI hb_), m11, m12, m13, m14, m15, m16, m17, m18, m19, m20, m21, m22, m23])), (bk, .inr (8, [k0, k1, k2, k3, k4, k5]))] := hB.2.2
          obtain ⟨hP, hD⟩ := va_join (wr := [(b, .inl (cB, 4000, .inl f))]) (w1 := [(h0, .inr (9, [.ref bk, m1, m2, m3, m4, m5, .ref b, .int (nI q), .int (nI lb), .int (nI (zbv f ps hb_)), .int (nI hb_), m11, m12, m13, m14, m15, m16, m17, m18, m19, m20, m21, m22, m23])), (bk, .inr (8, [k0, k1, k2, k3, k4, k5]))]) hP hD [0, 1] [2] rfl rfl (by decide) (by decide) hk1 hFc hP1 hD1
          generalize H1 = H at hP hS ⊢
          exact False.elim hw
        · have c17 : ¬ (lb ≤ q) := fun h => c17 ((nI_leI (a := lb) (b := q) (by omega) (by omega)).mpr h)
          refine lv_iconst (v := 1) hx hb dX9_take_20 (by decide) ?_
          refine lv_goto (tgt := 25) hx hb dX9_take_21 (by decide) ?_
          have hPc := hP.sub (ws' := [(h0, .inr (9, [.ref bk, m1, m2, m3, m4, m5, .ref b, .int (nI q), .int (nI lb), .int (nI (zbv f ps hb_)), .int (nI hb_), m11, m12, m13, m14, m15, m16, m17, m18, m19, m20, m21, m22, m23]))]) [0] rfl
          have hDc := hD.sub (ws' := [(h0, .inr (9, [.ref bk, m1, m2, m3, m4, m5, .ref b, .int (nI q), .int (nI lb), .int (nI (zbv f ps hb_)), .int (nI hb_), m11, m12, m13, m14, m15, m16, m17, m18, m19, m20, m21, m22, m23]))]) [0] (by decide) rfl
          have hFc := va_free (wc := [(h0, .inr (9, [.ref bk, m1, m2, m3, m4, m5, .ref b, .int (nI q), .int (nI lb), .int (nI (zbv f ps hb_)), .int (nI hb_), m11, m12, m13, m14, m15, m16, m17, m18, m19, m20, m21, m22, m23]))]) hD hS hA [0] rfl
          refine va_callv (va_runV (As := [.int 1]) (rest := []) ⟨hx, hb, hml, hown, hts⟩ (k_X9_must_t l dC dI cB cI cJ cM h0 (.ref bk) m1 m2 m3 m4 m5 (.ref b) (.int (nI q)) (.int (nI lb)) (.int (nI (zbv f ps hb_))) (.int (nI hb_)) m11 m12 m13 m14 m15 m16 m17 m18 m19 m20 m21 m22 m23  H.size) (cwV 1 hts gX9_take_X9_must rfl rfl rfl (by decide +kernel) ⟨Nat.le_of_ble_eq_true rfl, Nat.le_of_ble_eq_true rfl⟩) ⟨fun a U g mk q => by obtain ⟨q0, q1, qP, qK, qD⟩ := q; exact ⟨q0, q1, qP, va_K.moved (u := U) (U := U.calling g mk a) (Vm.Alike.refl U.vm) qK, qD⟩, va_recv hK hPc (ci := 9) (q0 := 0) rfl rfl, fun U hU hW => ⟨rfl, by rw [hU], by rw [hU]; exact hPc, va_K.moved hW.alike hK, hDc.weaken (fun _ _ _ _ => trivial)⟩⟩ rfl rfl hl.1 rfl (lv_room (Nat.le_of_ble_eq_true rfl)) dX9_take_25 ⟨(show 0 + 0 ≤ 0 by omega), (show 0 + 0 ≤ 0 by omega)⟩) hS (fun q _ h => hFc q h) hFc (fun u t H1 locs ht hvm hw hB hz1 hk1 hS => ?_)
          have hP1 : va_P (dC, dI) vwCl [(h0, .inr (9, [.ref bk, m1, m2, m3, m4, m5, .ref b, .int (nI q), .int (nI lb), .int (nI (zbv f ps hb_)), .int (nI hb_), m11, m12, m13, m14, m15, m16, m17, m18, m19, m20, m21, m22, m23]))] H1 := by rw [← ht]; exact hB.1
          have hD1 : va_D (va_A [(h0, .inr (9, [.ref bk, m1, m2, m3, m4, m5, .ref b, .int (nI q), .int (nI lb), .int (nI (zbv f ps hb_)), .int (nI hb_), m11, m12, m13, m14, m15, m16, m17, m18, m19, m20, m21, m22, m23]))] H.size) [(h0, .inr (9, [.ref bk, m1, m2, m3, m4, m5, .ref b, .int (nI q), .int (nI lb), .int (nI (zbv f ps hb_)), .int (nI hb_), m11, m12, m13, m14, m15, m16, m17, m18, m19, m20, m21, m22, m23]))] := hB.2.2
          obtain ⟨hP, hD⟩ := va_join (wr := [(bk, .inr (8, [k0, k1, k2, k3, k4, k5])), (b, .inl (cB, 4000, .inl f))]) (w1 := [(h0, .inr (9, [.ref bk, m1, m2, m3, m4, m5, .ref b, .int (nI q), .int (nI lb), .int (nI (zbv f ps hb_)), .int (nI hb_), m11, m12, m13, m14, m15, m16, m17, m18, m19, m20, m21, m22, m23]))]) hP hD [0] [1, 2] rfl rfl (by decide) (by decide) hk1 hFc hP1 hD1
          generalize H1 = H at hP hS ⊢
          try dsimp only at hw
          have hP : va_P (dC, dI) vwCl [(bk, .inr (8, [k0, k1, k2, k3, k4, k5])), (b, .inl (cB, 4000, .inl f)), (h0, .inr (9, [.ref bk, m1, m2, m3, m4, m5, .ref b, .int (nI q), .int (nI lb), .int (nI (zbv f ps hb_)), .int (nI hb_), m11, m12, m13, m14, m15, m16, m17, m18, m19, m20, m21, m22, m23]))] H := hP
          have hD : va_D A [(bk, .inr (8, [k0, k1, k2, k3, k4, k5])), (b, .inl (cB, 4000, .inl f)), (h0, .inr (9, [.ref bk, m1, m2, m3, m4, m5, .ref b, .int (nI q), .int (nI lb), .int (nI (zbv f ps hb_)), .int (nI hb_), m11, m12, m13, m14, m15, m16, m17, m18, m19, m20, m21, m22, m23]))] := hD
          refine W.eq (g2 := F0 m 28 ls []) rfl ?_
          refine lv_aload_n hx hb dX9_take_28 rfl (lv_at hl 0 rfl) ?_
          refine lv_dup hx hb dX9_take_29 rfl ?_
          refine va_get (D := (dC, dI)) (ci := 9) (v := .int (nI (zbv f ps hb_))) (C := RX9) (T := TX9) (N := 24) hx hb hts (by decide +kernel) hown hK hP 2 rfl rfl 9 (by decide) (hts (.fieldLink RX9 66 "FixedPressModel" "held" "I") (by decide +kernel)) (fun _ h9 => h9) rfl dX9_take_30 ?_
          refine lv_aload_n hx hb dX9_take_33 rfl (lv_at hl 0 rfl) ?_
          refine va_get (D := (dC, dI)) (ci := 9) (v := .ref b) (C := RX9) (T := TX9) (N := 24) hx hb hts (by decide +kernel) hown hK hP 2 rfl rfl 6 (by decide) (hts (.fieldLink RX9 69 "FixedPressModel" "source" "[B") (by decide +kernel)) (fun _ h9 => h9) rfl dX9_take_34 ?_
          refine lv_aload_n hx hb dX9_take_37 rfl (lv_at hl 0 rfl) ?_
          refine va_get (D := (dC, dI)) (ci := 9) (v := .int (nI q)) (C := RX9) (T := TX9) (N := 24) hx hb hts (by decide +kernel) hown hK hP 2 rfl rfl 7 (by decide) (hts (.fieldLink RX9 56 "FixedPressModel" "at" "I") (by decide +kernel)) (fun _ h9 => h9) rfl dX9_take_38 ?_
          refine va_bald hx hb hK hP 1 0 rfl rfl (vp_in_nI (n := q) (by omega) (by omega)) dX9_take_41 ?_
          rw [nI_clamp (n := q) (by omega)]
          refine lv_sipush (v := 255) hx hb dX9_take_42 (by decide) ?_
          refine lv_iand hx hb dX9_take_45 ?_
          refine lv_aload_n hx hb dX9_take_46 rfl (lv_at hl 0 rfl) ?_
          refine va_get (D := (dC, dI)) (ci := 9) (v := .int (nI hb_)) (C := RX9) (T := TX9) (N := 24) hx hb hts (by decide +kernel) hown hK hP 2 rfl rfl 10 (by decide) (hts (.fieldLink RX9 53 "FixedPressModel" "heldBits" "I") (by decide +kernel)) (fun _ h9 => h9) rfl dX9_take_47 ?_
          refine lv_ishl hx hb dX9_take_50 ?_
          refine lv_ior hx hb dX9_take_51 ?_
          refine lv_topi (fun y_4 ey_4 => ?_)
          obtain rfl : y_4 = nI (zbv f ps (hb_ + 8)) := ey_4.trans (z_take hq (by omega))
          refine va_put (D := (dC, dI)) (ci := 9) (v := .int (nI (zbv f ps (hb_ + 8)))) (ty := .int) (C := RX9) (T := TX9) (N := 24) hx hb hts (by decide +kernel) tyX9 tyX9_ok nmX9 hown hK hP hD hS 2 rfl rfl 9 (by decide) (hts (.fieldLink RX9 66 "FixedPressModel" "held" "I") (by decide +kernel)) (fun _ h9 => h9) rfl (by decide +kernel) rfl rfl (Nat.le_of_ble_eq_true rfl) dX9_take_52 (fun H locs hP hD hS => ?_)
          have hP : va_P (dC, dI) vwCl [(bk, .inr (8, [k0, k1, k2, k3, k4, k5])), (b, .inl (cB, 4000, .inl f)), (h0, .inr (9, [.ref bk, m1, m2, m3, m4, m5, .ref b, .int (nI q), .int (nI lb), .int (nI (zbv f ps (hb_ + 8))), .int (nI hb_), m11, m12, m13, m14, m15, m16, m17, m18, m19, m20, m21, m22, m23]))] H := hP
          have hD : va_D A [(bk, .inr (8, [k0, k1, k2, k3, k4, k5])), (b, .inl (cB, 4000, .inl f)), (h0, .inr (9, [.ref bk, m1, m2, m3, m4, m5, .ref b, .int (nI q), .int (nI lb), .int (nI (zbv f ps (hb_ + 8))), .int (nI hb_), m11, m12, m13, m14, m15, m16, m17, m18, m19, m20, m21, m22, m23]))] := hD
          refine lv_aload_n hx hb dX9_take_55 rfl (lv_at hl 0 rfl) ?_
          refine lv_dup hx hb dX9_take_56 rfl ?_
          refine va_get (D := (dC, dI)) (ci := 9) (v := .int (nI hb_)) (C := RX9) (T := TX9) (N := 24) hx hb hts (by decide +kernel) hown hK hP 2 rfl rfl 10 (by decide) (hts (.fieldLink RX9 53 "FixedPressModel" "heldBits" "I") (by decide +kernel)) (fun _ h9 => h9) rfl dX9_take_57 ?_
          refine lv_bipush (v := 8) hx hb dX9_take_60 (by decide) ?_
          refine lv_iadd hx hb dX9_take_62 ?_
          refine lv_topi (fun y_5 ey_5 => ?_)
          obtain rfl : y_5 = nI (hb_ + 8) := ey_5.trans (nI_add hb_ 8)
          refine va_put (D := (dC, dI)) (ci := 9) (v := .int (nI (hb_ + 8))) (ty := .int) (C := RX9) (T := TX9) (N := 24) hx hb hts (by decide +kernel) tyX9 tyX9_ok nmX9 hown hK hP hD hS 2 rfl rfl 10 (by decide) (hts (.fieldLink RX9 53 "FixedPressModel" "heldBits" "I") (by decide +kernel)) (fun _ h9 => h9) rfl (by decide +kernel) rfl rfl (Nat.le_of_ble_eq_true rfl) dX9_take_63 (fun H locs hP hD hS => ?_)
          have hP : va_P (dC, dI) vwCl [(bk, .inr (8, [k0, k1, k2, k3, k4, k5])), (b, .inl (cB, 4000, .inl f)), (h0, .inr (9, [.ref bk, m1, m2, m3, m4, m5, .ref b, .int (nI q), .int (nI lb), .int (nI (zbv f ps (hb_ + 8))), .int (nI (hb_ + 8)), m11, m12, m13, m14, m15, m16, m17, m18, m19, m20, m21, m22, m23]))] H := hP
          have hD : va_D A [(bk, .inr (8, [k0, k1, k2, k3, k4, k5])), (b, .inl (cB, 4000, .inl f)), (h0, .inr (9, [.ref bk, m1, m2, m3, m4, m5, .ref b, .int (nI q), .int (nI lb), .int (nI (zbv f ps (hb_ + 8))), .int (nI (hb_ + 8)), m11, m12, m13, m14, m15, m16, m17, m18, m19, m20, m21, m22, m23]))] := hD
          refine lv_aload_n hx hb dX9_take_66 rfl (lv_at hl 0 rfl) ?_
          refine lv_dup hx hb dX9_take_67 rfl ?_
          refine va_get (D := (dC, dI)) (ci := 9) (v := .int (nI q)) (C := RX9) (T := TX9) (N := 24) hx hb hts (by decide +kernel) hown hK hP 2 rfl rfl 7 (by decide) (hts (.fieldLink RX9 56 "FixedPressModel" "at" "I") (by decide +kernel)) (fun _ h9 => h9) rfl dX9_take_68 ?_
          refine lv_iconst (v := 1) hx hb dX9_take_71 (by decide) ?_
          refine lv_iadd hx hb dX9_take_72 ?_
          refine lv_topi (fun y_6 ey_6 => ?_)
          obtain rfl : y_6 = nI (q + 1) := ey_6.trans (nI_add q 1)
          refine va_put (D := (dC, dI)) (ci := 9) (v := .int (nI (q + 1))) (ty := .int) (C := RX9) (T := TX9) (N := 24) hx hb hts (by decide +kernel) tyX9 tyX9_ok nmX9 hown hK hP hD hS 2 rfl rfl 7 (by decide) (hts (.fieldLink RX9 56 "FixedPressModel" "at" "I") (by decide +kernel)) (fun _ h9 => h9) rfl (by decide +kernel) rfl rfl (Nat.le_of_ble_eq_true rfl) dX9_take_73 (fun H locs hP hD hS => ?_)
          have hP : va_P (dC, dI) vwCl [(bk, .inr (8, [k0, k1, k2, k3, k4, k5])), (b, .inl (cB, 4000, .inl f)), (h0, .inr (9, [.ref bk, m1, m2, m3, m4, m5, .ref b, .int (nI (q + 1)), .int (nI lb), .int (nI (zbv f ps (hb_ + 8))), .int (nI (hb_ + 8)), m11, m12, m13, m14, m15, m16, m17, m18, m19, m20, m21, m22, m23]))] H := hP
          have hD : va_D A [(bk, .inr (8, [k0, k1, k2, k3, k4, k5])), (b, .inl (cB, 4000, .inl f)), (h0, .inr (9, [.ref bk, m1, m2, m3, m4, m5, .ref b, .int (nI (q + 1)), .int (nI lb), .int (nI (zbv f ps (hb_ + 8))), .int (nI (hb_ + 8)), m11, m12, m13, m14, m15, m16, m17, m18, m19, m20, m21, m22, m23]))] := hD
          refine lv_goto (tgt := 0) hx hb dX9_take_76 (by decide) ?_
          exact ih (q + 1) (hb_ + 8) (by omega) (by omega) (by omega) (by omega) _ _ (hP.sub [2, 0, 1] rfl) (hD.sub [2, 0, 1] (by decide) rfl) hS _ (lv_sub hl [0, 1] rfl)
  exact cut0 (n - ((ps + 7) / 8 * 8 - ps) + 1) ((ps + 7) / 8) ((ps + 7) / 8 * 8 - ps) (by omega) (by omega) (by omega) (by omega) _ _ hP hD hS _ (lv_sub hl [0, 1] rfl)

abbrev rm_X9_out : Room := { frames := 1, cells := 0, slots := 0, locals := 21 }
abbrev wo_X9_out (dC : Nat → ClassId) (dI : Nat → Nat → Nat) (cB cI cJ cM : ClassId) (h0 bk pl : Nat) (g : Nat → Int32) (m_ mo : Nat) (x : Int32) (k0 k1 k2 k3 k4 k5 : Value) (m1 m2 m3 m6 m7 m8 m9 m10 m11 m12 m13 m14 m15 m16 m18 m19 m20 m21 m22 m23 : Value) : va_W := [(h0, .inr (9, [.ref bk, m1, m2, m3, .ref pl, .int (nI m_), m6, m7, m8, m9, m10, m11, m12, m13, m14, m15, m16, .int (nI mo), m18, m19, m20, m21, m22, m23])), (bk, .inr (8, [k0, k1, k2, k3, k4, k5])), (pl, .inl (cB, 8192, .inl g))]
abbrev q_X9_out (dC : Nat → ClassId) (dI : Nat → Nat → Nat) (cB cI cJ cM : ClassId) (h0 bk pl : Nat) (g : Nat → Int32) (m_ mo : Nat) (x : Int32) (k0 k1 k2 k3 k4 k5 : Value) (m1 m2 m3 m6 m7 m8 m9 m10 m11 m12 m13 m14 m15 m16 m18 m19 m20 m21 m22 m23 : Value) (A : Nat → Prop) : Array Value → State → Outcome → State → Prop := va_Qv (fun (u : Unit) => m_ < mo) (zB dC dI cB cI cJ cM A (fun u : Unit => [(h0, .inr (9, [.ref bk, m1, m2, m3, .ref pl, .int (nI (m_ + 1)), m6, m7, m8, m9, m10, m11, m12, m13, m14, m15, m16, .int (nI mo), m18, m19, m20, m21, m22, m23])), (bk, .inr (8, [k0, k1, k2, k3, k4, k5])), (pl, .inl (cB, 8192, .inl (upd g m_ x.toInt8.toInt32)))])) A
abbrev x_X9_out (dC : Nat → ClassId) (dI : Nat → Nat → Nat) (cB cI cJ cM : ClassId) (h0 bk pl : Nat) (g : Nat → Int32) (m_ mo : Nat) (x : Int32) (k0 k1 k2 k3 k4 k5 : Value) (m1 m2 m3 m6 m7 m8 m9 m10 m11 m12 m13 m14 m15 m16 m18 m19 m20 m21 m22 m23 : Value) (A : Nat → Prop) : String → State → State → Prop := vx_X (fun (u : String × (Unit)) => (u.1 = "FixedPressModel$Broken") ∧ (mo ≤ m_)) (fun E (u : String × (Unit)) t => E = u.1 ∧ zB dC dI cB cI cJ cM A (fun u : Unit => [(h0, .inr (9, [.ref bk, m1, m2, m3, .ref pl, .int (nI m_), m6, m7, m8, m9, m10, m11, m12, m13, m14, m15, m16, .int (nI mo), m18, m19, m20, m21, m22, m23])), (bk, .inr (8, [k0, k1, k2, k3, k4, k5])), (pl, .inl (cB, 8192, .inl g))]) u.2 t) A
set_option maxHeartbeats 8000000 in
set_option maxRecDepth 100000 in
/-- out -/
theorem k_X9_out (l : Launch) (dC : Nat → ClassId) (dI : Nat → Nat → Nat) (cB cI cJ cM : ClassId) (h0 bk pl : Nat) (g : Nat → Int32) (m_ mo : Nat) (x : Int32) (k0 k1 k2 k3 k4 k5 : Value) (m1 m2 m3 m6 m7 m8 m9 m10 m11 m12 m13 m14 m15 m16 m18 m19 m20 m21 m22 m23 : Value) (h1 : m_ ≤ 8192) (h2 : mo ≤ 8192) (sz : Nat) : vx_Met l yX9_out wsX9_out rm_X9_out (va_Pc [.ref h0, .int x] (fun U => U.heap.size = sz ∧ va_P (dC, dI) vwCl (wo_X9_out dC dI cB cI cJ cM h0 bk pl g m_ mo x k0 k1 k2 k3 k4 k5 m1 m2 m3 m6 m7 m8 m9 m10 m11 m12 m13 m14 m15 m16 m18 m19 m20 m21 m22 m23) U.heap ∧ va_K (dC, dI) vwCl (zT cB cI cJ cM) U ∧ va_D (fun _ => True) (wo_X9_out dC dI cB cI cJ cM h0 bk pl g m_ mo x k0 k1 k2 k3 k4 k5 m1 m2 m3 m6 m7 m8 m9 m10 m11 m12 m13 m14 m15 m16 m18 m19 m20 m21 m22 m23))) (q_X9_out dC dI cB cI cJ cM h0 bk pl g m_ mo x k0 k1 k2 k3 k4 k5 m1 m2 m3 m6 m7 m8 m9 m10 m11 m12 m13 m14 m15 m16 m18 m19 m20 m21 m22 m23 (va_A (wo_X9_out dC dI cB cI cJ cM h0 bk pl g m_ mo x k0 k1 k2 k3 k4 k5 m1 m2 m3 m6 m7 m8 m9 m10 m11 m12 m13 m14 m15 m16 m18 m19 m20 m21 m22 m23) sz)) (x_X9_out dC dI cB cI cJ cM h0 bk pl g m_ mo x k0 k1 k2 k3 k4 k5 m1 m2 m3 m6 m7 m8 m9 m10 m11 m12 m13 m14 m15 m16 m18 m19 m20 m21 m22 m23 (va_A (wo_X9_out dC dI cB cI cJ cM h0 bk pl g m_ mo x k0 k1 k2 k3 k4 k5 m1 m2 m3 m6 m7 m8 m9 m10 m11 m12 m13 m14 m15 m16 m18 m19 m20 m21 m22 m23) sz)) 0 0 0 0 (va_A (wo_X9_out dC dI cB cI cJ cM h0 bk pl g m_ mo x k0 k1 k2 k3 k4 k5 m1 m2 m3 m6 m7 m8 m9 m10 m11 m12 m13 m14 m15 m16 m18 m19 m20 m21 m22 m23) sz) := by
  refine vx_ofW (cc := cX9_out) (maxL := 2) (ret := none) (by decide) rfl ?_
  intro p e s m args below meth c s₁ B hml hEx hv
  obtain ⟨rfl, hsz, hP, hK, hD0⟩ := hv
  have hx := B.exec
  have hb := B.bytes
  have hr := B.returns
  have hts := atoms_spec (ws := wsX9_out) B.pre
  have hown : s.vm.findClass RX9 = some m.cls := findClass_of_methodNamed B.named
  have hlocks := B.notSynchronized
  subst hsz
  have hD := hD0.self (sz := s.heap.size)
  generalize hAe : va_A (wo_X9_out dC dI cB cI cJ cM h0 bk pl g m_ mo x k0 k1 k2 k3 k4 k5 m1 m2 m3 m6 m7 m8 m9 m10 m11 m12 m13 m14 m15 m16 m18 m19 m20 m21 m22 m23) s.heap.size = A at hD ⊢
  have hA : ∀ q : Nat, s.heap.size ≤ q → A q := fun q h => by rw [← hAe]; exact Or.inr h
  have hS : va_S A s.heap s.heap [] := va_S.rf
  have hP : va_P (dC, dI) vwCl [(h0, .inr (9, [.ref bk, m1, m2, m3, .ref pl, .int (nI m_), m6, m7, m8, m9, m10, m11, m12, m13, m14, m15, m16, .int (nI mo), m18, m19, m20, m21, m22, m23])), (bk, .inr (8, [k0, k1, k2, k3, k4, k5])), (pl, .inl (cB, 8192, .inl g))] s.heap := hP
  have hD : va_D A [(h0, .inr (9, [.ref bk, m1, m2, m3, .ref pl, .int (nI m_), m6, m7, m8, m9, m10, m11, m12, m13, m14, m15, m16, .int (nI mo), m18, m19, m20, m21, m22, m23])), (bk, .inr (8, [k0, k1, k2, k3, k4, k5])), (pl, .inl (cB, 8192, .inl g))] := hD
  have hl := lv_entry ([.ref h0, .int x]) (n := 2) (Nat.le_of_ble_eq_true rfl)
  rw [lg_entry_eq]
  generalize (lg_sl ([.ref h0, .int x]) ++ List.replicate (2 - (lg_sl ([.ref h0, .int x])).length) Slot.unset).toArray = ls at hl ⊢
  have hl : lv_has ls 2 [(0, .ref h0), (1, .int x)] := hl
  refine lv_aload_n hx hb dX9_out_0 rfl (lv_at hl 0 rfl) ?_
  refine lv_aload_n hx hb dX9_out_1 rfl (lv_at hl 0 rfl) ?_
  refine va_get (D := (dC, dI)) (ci := 9) (v := .int (nI m_)) (C := RX9) (T := TX9) (N := 24) hx hb hts (by decide +kernel) hown hK hP 0 rfl rfl 5 (by decide) (hts (.fieldLink RX9 82 "FixedPressModel" "plainLength" "I") (by decide +kernel)) (fun _ h9 => h9) rfl dX9_out_2 ?_
  refine lv_aload_n hx hb dX9_out_5 rfl (lv_at hl 0 rfl) ?_
  refine va_get (D := (dC, dI)) (ci := 9) (v := .int (nI mo)) (C := RX9) (T := TX9) (N := 24) hx hb hts (by decide +kernel) hown hK hP 0 rfl rfl 17 (by decide) (hts (.fieldLink RX9 85 "FixedPressModel" "most" "I") (by decide +kernel)) (fun _ h9 => h9) rfl dX9_out_6 ?_
  refine lv_icmp_ge (tgt := 16) hx hb dX9_out_9 (by decide) (fun c9 => ?_) (fun c9 => ?_)
  · have c9 : mo ≤ m_ := (nI_leI (a := mo) (b := m_) (by omega) (by omega)).mp c9
    refine lv_iconst (v := 0) hx hb dX9_out_16 (by decide) ?_
    have hPc := hP.sub (ws' := [(h0, .inr (9, [.ref bk, m1, m2, m3, .ref pl, .int (nI m_), m6, m7, m8, m9, m10, m11, m12, m13, m14, m15, m16, .int (nI mo), m18, m19, m20, m21, m22, m23])), (bk, .inr (8, [k0, k1, k2, k3, k4, k5]))]) [0, 1] rfl
    have hDc := hD.sub (ws' := [(h0, .inr (9, [.ref bk, m1, m2, m3, .ref pl, .int (nI m_), m6, m7, m8, m9, m10, m11, m12, m13, m14, m15, m16, .int (nI mo), m18, m19, m20, m21, m22, m23])), (bk, .inr (8, [k0, k1, k2, k3, k4, k5]))]) [0, 1] (by decide) rfl
    have hFc := va_free (wc := [(h0, .inr (9, [.ref bk, m1, m2, m3, .ref pl, .int (nI m_), m6, m7, m8, m9, m10, m11, m12, m13, m14, m15, m16, .int (nI mo), m18, m19, m20, m21, m22, m23])), (bk, .inr (8, [k0, k1, k2, k3, k4, k5]))]) hD hS hA [0, 1] rfl
    refine vx_callv (vx_runV (As := [.int 0]) (rest := []) ⟨hx, hb, hml, hown, hts⟩ (k_X9_must_f l dC dI cB cI cJ cM h0 bk k0 k1 k2 k3 k4 k5 m1 m2 m3 (.ref pl) (.int (nI m_)) m6 m7 m8 m9 m10 m11 m12 m13 m14 m15 m16 (.int (nI mo)) m18 m19 m20 m21 m22 m23  s.heap.size) (cwV 1 hts gX9_out_X9_must rfl rfl rfl (by decide +kernel) ⟨Nat.le_of_ble_eq_true rfl, Nat.le_of_ble_eq_true rfl⟩) ⟨fun a U g mk q => by obtain ⟨q0, q1, qP, qK, qD⟩ := q; exact ⟨q0, q1, qP, va_K.moved (u := U) (U := U.calling g mk a) (Vm.Alike.refl U.vm) qK, qD⟩, va_recv hK hPc (ci := 9) (q0 := 0) rfl rfl, fun U hU hW => ⟨rfl, by rw [hU], by rw [hU]; exact hPc, va_K.moved hW.alike hK, hDc.weaken (fun _ _ _ _ => trivial)⟩⟩ rfl rfl hl.1 rfl (lv_room (Nat.le_of_ble_eq_true rfl)) dX9_out_17 ⟨(show 0 + 0 ≤ 0 by omega), (show 0 + 0 ≤ 0 by omega)⟩) hS (fun q _ h => hFc q h) hFc (fun q _ h => hFc q h) (fun E8 ce9 q9 ux t H1 locs ht hvm hw hB hz1 hk1 hS hce9 hcv9 hcl9 => ?_) (fun u t H1 locs ht hvm hw hB hz1 hk1 hS => ?_)
    · obtain ⟨E9, ux9⟩ := ux
      obtain ⟨hEe, hB9⟩ := hB
      have hB : True ∧ zB dC dI cB cI cJ cM (va_A [(h0, .inr (9, [.ref bk, m1, m2, m3, .ref pl, .int (nI m_), m6, m7, m8, m9, m10, m11, m12, m13, m14, m15, m16, .int (nI mo), m18, m19, m20, m21, m22, m23])), (bk, .inr (8, [k0, k1, k2, k3, k4, k5]))] s.heap.size) (fun u : Unit => [(h0, .inr (9, [.ref bk, m1, m2, m3, .ref pl, .int (nI m_), m6, m7, m8, m9, m10, m11, m12, m13, m14, m15, m16, .int (nI mo), m18, m19, m20, m21, m22, m23])), (bk, .inr (8, [k0, k1, k2, k3, k4, k5]))]) ux9 t := ⟨trivial, hB9⟩
      have hP1 : va_P (dC, dI) vwCl [(h0, .inr (9, [.ref bk, m1, m2, m3, .ref pl, .int (nI m_), m6, m7, m8, m9, m10, m11, m12, m13, m14, m15, m16, .int (nI mo), m18, m19, m20, m21, m22, m23])), (bk, .inr (8, [k0, k1, k2, k3, k4, k5]))] H1 := by rw [← ht]; exact hB.2.1
      have hD1 : va_D (va_A [(h0, .inr (9, [.ref bk, m1, m2, m3, .ref pl, .int (nI m_), m6, m7, m8, m9, m10, m11, m12, m13, m14, m15, m16, .int (nI mo), m18, m19, m20, m21, m22, m23])), (bk, .inr (8, [k0, k1, k2, k3, k4, k5]))] s.heap.size) [(h0, .inr (9, [.ref bk, m1, m2, m3, .ref pl, .int (nI m_), m6, m7, m8, m9, m10, m11, m12, m13, m14, m15, m16, .int (nI mo), m18, m19, m20, m21, m22, m23])), (bk, .inr (8, [k0, k1, k2, k3, k4, k5]))] := hB.2.2.2
      obtain ⟨hP, hD⟩ := va_join (wr := [(pl, .inl (cB, 8192, .inl g))]) (w1 := [(h0, .inr (9, [.ref bk, m1, m2, m3, .ref pl, .int (nI m_), m6, m7, m8, m9, m10, m11, m12, m13, m14, m15, m16, .int (nI mo), m18, m19, m20, m21, m22, m23])), (bk, .inr (8, [k0, k1, k2, k3, k4, k5]))]) hP hD [0, 1] [2] rfl rfl (by decide) (by decide) hk1 hFc hP1 hD1
      generalize H1 = H at hP hS hce9 ⊢
      try dsimp only at hw hEe
      subst hEe
      have hP : va_P (dC, dI) vwCl [(pl, .inl (cB, 8192, .inl g)), (h0, .inr (9, [.ref bk, m1, m2, m3, .ref pl, .int (nI m_), m6, m7, m8, m9, m10, m11, m12, m13, m14, m15, m16, .int (nI mo), m18, m19, m20, m21, m22, m23])), (bk, .inr (8, [k0, k1, k2, k3, k4, k5]))] H := hP
      have hD : va_D A [(pl, .inl (cB, 8192, .inl g)), (h0, .inr (9, [.ref bk, m1, m2, m3, .ref pl, .int (nI m_), m6, m7, m8, m9, m10, m11, m12, m13, m14, m15, m16, .int (nI mo), m18, m19, m20, m21, m22, m23])), (bk, .inr (8, [k0, k1, k2, k3, k4, k5]))] := hD
      have hP9 := hP.sub (ws' := [(h0, .inr (9, [.ref bk, m1, m2, m3, .ref pl, .int (nI m_), m6, m7, m8, m9, m10, m11, m12, m13, m14, m15, m16, .int (nI mo), m18, m19, m20, m21, m22, m23])), (bk, .inr (8, [k0, k1, k2, k3, k4, k5])), (pl, .inl (cB, 8192, .inl g))]) [1, 2, 0] rfl
      have hD9 := hD.sub (ws' := [(h0, .inr (9, [.ref bk, m1, m2, m3, .ref pl, .int (nI m_), m6, m7, m8, m9, m10, m11, m12, m13, m14, m15, m16, .int (nI mo), m18, m19, m20, m21, m22, m23])), (bk, .inr (8, [k0, k1, k2, k3, k4, k5])), (pl, .inl (cB, 8192, .inl g))]) [1, 2, 0] (by decide) rfl
      exact vx_out (fun x hx => (hEx x hx).elim) hlocks hce9 hcv9 hcl9 (fun t ht9 ha => ⟨(_, ()), ⟨hw.1, by omega⟩, ⟨rfl, by rw [ht9]; exact hP9, va_K.moved ha hK, hD9⟩, hS.F ht9⟩) hS.2.2 (Nat.le_of_ble_eq_true rfl) (Nat.le_of_ble_eq_true rfl)
    have hP1 : va_P (dC, dI) vwCl [(h0, .inr (9, [.ref bk, m1, m2, m3, .ref pl, .int (nI m_), m6, m7, m8, m9, m10, m11, m12, m13, m14, m15, m16, .int (nI mo), m18, m19, m20, m21, m22, m23])), (bk, .inr (8, [k0, k1, k2, k3, k4, k5]))] H1 := by rw [← ht]; exact hB.1
    have hD1 : va_D (va_A [(h0, .inr (9, [.ref bk, m1, m2, m3, .ref pl, .int (nI m_), m6, m7, m8, m9, m10, m11, m12, m13, m14, m15, m16, .int (nI mo), m18, m19, m20, m21, m22, m23])), (bk, .inr (8, [k0, k1, k2, k3, k4, k5]))] s.heap.size) [(h0, .inr (9, [.ref bk, m1, m2, m3, .ref pl, .int (nI m_), m6, m7, m8, m9, m10, m11, m12, m13, m14, m15, m16, .int (nI mo), m18, m19, m20, m21, m22, m23])), (bk, .inr (8, [k0, k1, k2, k3, k4, k5]))] := hB.2.2
    obtain ⟨hP, hD⟩ := va_join (wr := [(pl, .inl (cB, 8192, .inl g))]) (w1 := [(h0, .inr (9, [.ref bk, m1, m2, m3, .ref pl, .int (nI m_), m6, m7, m8, m9, m10, m11, m12, m13, m14, m15, m16, .int (nI mo), m18, m19, m20, m21, m22, m23])), (bk, .inr (8, [k0, k1, k2, k3, k4, k5]))]) hP hD [0, 1] [2] rfl rfl (by decide) (by decide) hk1 hFc hP1 hD1
    generalize H1 = H at hP hS ⊢
    exact False.elim hw
  · have c9 : ¬ (mo ≤ m_) := fun h => c9 ((nI_leI (a := mo) (b := m_) (by omega) (by omega)).mpr h)
    refine lv_iconst (v := 1) hx hb dX9_out_12 (by decide) ?_
    refine lv_goto (tgt := 17) hx hb dX9_out_13 (by decide) ?_
    have hPc := hP.sub (ws' := [(h0, .inr (9, [.ref bk, m1, m2, m3, .ref pl, .int (nI m_), m6, m7, m8, m9, m10, m11, m12, m13, m14, m15, m16, .int (nI mo), m18, m19, m20, m21, m22, m23]))]) [0] rfl
    have hDc := hD.sub (ws' := [(h0, .inr (9, [.ref bk, m1, m2, m3, .ref pl, .int (nI m_), m6, m7, m8, m9, m10, m11, m12, m13, m14, m15, m16, .int (nI mo), m18, m19, m20, m21, m22, m23]))]) [0] (by decide) rfl
    have hFc := va_free (wc := [(h0, .inr (9, [.ref bk, m1, m2, m3, .ref pl, .int (nI m_), m6, m7, m8, m9, m10, m11, m12, m13, m14, m15, m16, .int (nI mo), m18, m19, m20, m21, m22, m23]))]) hD hS hA [0] rfl
    refine va_callv (va_runV (As := [.int 1]) (rest := []) ⟨hx, hb, hml, hown, hts⟩ (k_X9_must_t l dC dI cB cI cJ cM h0 (.ref bk) m1 m2 m3 (.ref pl) (.int (nI m_)) m6 m7 m8 m9 m10 m11 m12 m13 m14 m15 m16 (.int (nI mo)) m18 m19 m20 m21 m22 m23  s.heap.size) (cwV 1 hts gX9_out_X9_must rfl rfl rfl (by decide +kernel) ⟨Nat.le_of_ble_eq_true rfl, Nat.le_of_ble_eq_true rfl⟩) ⟨fun a U g mk q => by obtain ⟨q0, q1, qP, qK, qD⟩ := q; exact ⟨q0, q1, qP, va_K.moved (u := U) (U := U.calling g mk a) (Vm.Alike.refl U.vm) qK, qD⟩, va_recv hK hPc (ci := 9) (q0 := 0) rfl rfl, fun U hU hW => ⟨rfl, by rw [hU], by rw [hU]; exact hPc, va_K.moved hW.alike hK, hDc.weaken (fun _ _ _ _ => trivial)⟩⟩ rfl rfl hl.1 rfl (lv_room (Nat.le_of_ble_eq_true rfl)) dX9_out_17 ⟨(show 0 + 0 ≤ 0 by omega), (show 0 + 0 ≤ 0 by omega)⟩) hS (fun q _ h => hFc q h) hFc (fun u t H1 locs ht hvm hw hB hz1 hk1 hS => ?_)
    have hP1 : va_P (dC, dI) vwCl [(h0, .inr (9, [.ref bk, m1, m2, m3, .ref pl, .int (nI m_), m6, m7, m8, m9, m10, m11, m12, m13, m14, m15, m16, .int (nI mo), m18, m19, m20, m21, m22, m23]))] H1 := by rw [← ht]; exact hB.1
    have hD1 : va_D (va_A [(h0, .inr (9, [.ref bk, m1, m2, m3, .ref pl, .int (nI m_), m6, m7, m8, m9, m10, m11, m12, m13, m14, m15, m16, .int (nI mo), m18, m19, m20, m21, m22, m23]))] s.heap.size) [(h0, .inr (9, [.ref bk, m1, m2, m3, .ref pl, .int (nI m_), m6, m7, m8, m9, m10, m11, m12, m13, m14, m15, m16, .int (nI mo), m18, m19, m20, m21, m22, m23]))] := hB.2.2
    obtain ⟨hP, hD⟩ := va_join (wr := [(bk, .inr (8, [k0, k1, k2, k3, k4, k5])), (pl, .inl (cB, 8192, .inl g))]) (w1 := [(h0, .inr (9, [.ref bk, m1, m2, m3, .ref pl, .int (nI m_), m6, m7, m8, m9, m10, m11, m12, m13, m14, m15, m16, .int (nI mo), m18, m19, m20, m21, m22, m23]))]) hP hD [0] [1, 2] rfl rfl (by decide) (by decide) hk1 hFc hP1 hD1
    generalize H1 = H at hP hS ⊢
    try dsimp only at hw
    have hP : va_P (dC, dI) vwCl [(bk, .inr (8, [k0, k1, k2, k3, k4, k5])), (pl, .inl (cB, 8192, .inl g)), (h0, .inr (9, [.ref bk, m1, m2, m3, .ref pl, .int (nI m_), m6, m7, m8, m9, m10, m11, m12, m13, m14, m15, m16, .int (nI mo), m18, m19, m20, m21, m22, m23]))] H := hP
    have hD : va_D A [(bk, .inr (8, [k0, k1, k2, k3, k4, k5])), (pl, .inl (cB, 8192, .inl g)), (h0, .inr (9, [.ref bk, m1, m2, m3, .ref pl, .int (nI m_), m6, m7, m8, m9, m10, m11, m12, m13, m14, m15, m16, .int (nI mo), m18, m19, m20, m21, m22, m23]))] := hD
    refine W.eq (g2 := F0 m 20 ls []) rfl ?_
    refine lv_aload_n hx hb dX9_out_20 rfl (lv_at hl 0 rfl) ?_
    refine va_get (D := (dC, dI)) (ci := 9) (v := .ref pl) (C := RX9) (T := TX9) (N := 24) hx hb hts (by decide +kernel) hown hK hP 2 rfl rfl 4 (by decide) (hts (.fieldLink RX9 88 "FixedPressModel" "plain" "[B") (by decide +kernel)) (fun _ h9 => h9) rfl dX9_out_21 ?_
    refine lv_aload_n hx hb dX9_out_24 rfl (lv_at hl 0 rfl) ?_
    refine va_get (D := (dC, dI)) (ci := 9) (v := .int (nI m_)) (C := RX9) (T := TX9) (N := 24) hx hb hts (by decide +kernel) hown hK hP 2 rfl rfl 5 (by decide) (hts (.fieldLink RX9 82 "FixedPressModel" "plainLength" "I") (by decide +kernel)) (fun _ h9 => h9) rfl dX9_out_25 ?_
    refine lv_iload_n hx hb dX9_out_28 rfl (lv_at hl 1 rfl) ?_
    refine lv_i2b hx hb dX9_out_29 rfl ?_
    refine va_bast hx hb hK hP hD hS 1 0 rfl rfl (vp_in_nI (n := m_) (by omega) (by omega)) dX9_out_30 (fun H locs hP hD hS => ?_)
    rw [nI_clamp (n := m_) (by omega)] at hP hD
    have hP : va_P (dC, dI) vwCl [(bk, .inr (8, [k0, k1, k2, k3, k4, k5])), (pl, .inl (cB, 8192, .inl (upd g m_ (vp_nar .byte x.toInt8.toInt32)))), (h0, .inr (9, [.ref bk, m1, m2, m3, .ref pl, .int (nI m_), m6, m7, m8, m9, m10, m11, m12, m13, m14, m15, m16, .int (nI mo), m18, m19, m20, m21, m22, m23]))] H := hP
    have hD : va_D A [(bk, .inr (8, [k0, k1, k2, k3, k4, k5])), (pl, .inl (cB, 8192, .inl (upd g m_ (vp_nar .byte x.toInt8.toInt32)))), (h0, .inr (9, [.ref bk, m1, m2, m3, .ref pl, .int (nI m_), m6, m7, m8, m9, m10, m11, m12, m13, m14, m15, m16, .int (nI mo), m18, m19, m20, m21, m22, m23]))] := hD
    rw [pk_vb] at hP hD
    have hP : va_P (dC, dI) vwCl [(bk, .inr (8, [k0, k1, k2, k3, k4, k5])), (pl, .inl (cB, 8192, .inl (upd g m_ x.toInt8.toInt32))), (h0, .inr (9, [.ref bk, m1, m2, m3, .ref pl, .int (nI m_), m6, m7, m8, m9, m10, m11, m12, m13, m14, m15, m16, .int (nI mo), m18, m19, m20, m21, m22, m23]))] H := hP
    have hD : va_D A [(bk, .inr (8, [k0, k1, k2, k3, k4, k5])), (pl, .inl (cB, 8192, .inl (upd g m_ x.toInt8.toInt32))), (h0, .inr (9, [.ref bk, m1, m2, m3, .ref pl, .int (nI m_), m6, m7, m8, m9, m10, m11, m12, m13, m14, m15, m16, .int (nI mo), m18, m19, m20, m21, m22, m23]))] := hD
    refine lv_aload_n hx hb dX9_out_31 rfl (lv_at hl 0 rfl) ?_
    refine lv_dup hx hb dX9_out_32 rfl ?_
    refine va_get (D := (dC, dI)) (ci := 9) (v := .int (nI m_)) (C := RX9) (T := TX9) (N := 24) hx hb hts (by decide +kernel) hown hK hP 2 rfl rfl 5 (by decide) (hts (.fieldLink RX9 82 "FixedPressModel" "plainLength" "I") (by decide +kernel)) (fun _ h9 => h9) rfl dX9_out_33 ?_
    refine lv_iconst (v := 1) hx hb dX9_out_36 (by decide) ?_
    refine lv_iadd hx hb dX9_out_37 ?_
    refine lv_topi (fun y_1 ey_1 => ?_)
    obtain rfl : y_1 = nI (m_ + 1) := ey_1.trans (nI_add m_ 1)
    refine va_put (D := (dC, dI)) (ci := 9) (v := .int (nI (m_ + 1))) (ty := .int) (C := RX9) (T := TX9) (N := 24) hx hb hts (by decide +kernel) tyX9 tyX9_ok nmX9 hown hK hP hD hS 2 rfl rfl 5 (by decide) (hts (.fieldLink RX9 82 "FixedPressModel" "plainLength" "I") (by decide +kernel)) (fun _ h9 => h9) rfl (by decide +kernel) rfl rfl (Nat.le_of_ble_eq_true rfl) dX9_out_38 (fun H locs hP hD hS => ?_)
    have hP : va_P (dC, dI) vwCl [(bk, .inr (8, [k0, k1, k2, k3, k4, k5])), (pl, .inl (cB, 8192, .inl (upd g m_ x.toInt8.toInt32))), (h0, .inr (9, [.ref bk, m1, m2, m3, .ref pl, .int (nI (m_ + 1)), m6, m7, m8, m9, m10, m11, m12, m13, m14, m15, m16, .int (nI mo), m18, m19, m20, m21, m22, m23]))] H := hP
    have hD : va_D A [(bk, .inr (8, [k0, k1, k2, k3, k4, k5])), (pl, .inl (cB, 8192, .inl (upd g m_ x.toInt8.toInt32))), (h0, .inr (9, [.ref bk, m1, m2, m3, .ref pl, .int (nI (m_ + 1)), m6, m7, m8, m9, m10, m11, m12, m13, m14, m15, m16, .int (nI mo), m18, m19, m20, m21, m22, m23]))] := hD
    have hP9 := hP.sub (ws' := [(h0, .inr (9, [.ref bk, m1, m2, m3, .ref pl, .int (nI (m_ + 1)), m6, m7, m8, m9, m10, m11, m12, m13, m14, m15, m16, .int (nI mo), m18, m19, m20, m21, m22, m23])), (bk, .inr (8, [k0, k1, k2, k3, k4, k5])), (pl, .inl (cB, 8192, .inl (upd g m_ x.toInt8.toInt32)))]) [2, 0, 1] rfl
    have hD9 := hD.sub (ws' := [(h0, .inr (9, [.ref bk, m1, m2, m3, .ref pl, .int (nI (m_ + 1)), m6, m7, m8, m9, m10, m11, m12, m13, m14, m15, m16, .int (nI mo), m18, m19, m20, m21, m22, m23])), (bk, .inr (8, [k0, k1, k2, k3, k4, k5])), (pl, .inl (cB, 8192, .inl (upd g m_ x.toInt8.toInt32)))]) [2, 0, 1] (by decide) rfl
    exact vx_ret (W.vret hx hb hr (fun t ht hW => ⟨⟨(), rfl, by omega, ⟨by rw [ht]; exact hP9, va_K.moved hW.alike hK, hD9⟩⟩, hS.F ht⟩) hS.2.2 dX9_out_41)
