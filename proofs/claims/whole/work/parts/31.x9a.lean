abbrev rm_X9_thrown : Room := { frames := 0, cells := 0, slots := 0, locals := 0 }
abbrev wo_X9_thrown (dC : Nat → ClassId) (dI : Nat → Nat → Nat) (cB cI cJ cM : ClassId) (h0 : Nat) (k : Int32) (m0 m1 m2 m3 m4 m5 m6 m7 m8 m9 m10 m11 m12 m13 m14 m15 m16 m17 m18 m19 m20 m21 m22 : Value) : va_W := [(h0, .inr (9, [m0, m1, m2, m3, m4, m5, m6, m7, m8, m9, m10, m11, m12, m13, m14, m15, m16, m17, m18, m19, m20, m21, m22, .int k]))]
abbrev q_X9_thrown (dC : Nat → ClassId) (dI : Nat → Nat → Nat) (cB cI cJ cM : ClassId) (h0 : Nat) (k : Int32) (m0 m1 m2 m3 m4 m5 m6 m7 m8 m9 m10 m11 m12 m13 m14 m15 m16 m17 m18 m19 m20 m21 m22 : Value) (A : Nat → Prop) : Array Value → State → Outcome → State → Prop := va_Qi (fun (r : Int32) (u : Unit) => r = k) (zB dC dI cB cI cJ cM A (fun u : Unit => [(h0, .inr (9, [m0, m1, m2, m3, m4, m5, m6, m7, m8, m9, m10, m11, m12, m13, m14, m15, m16, m17, m18, m19, m20, m21, m22, .int k]))])) A
set_option maxHeartbeats 8000000 in
set_option maxRecDepth 100000 in
theorem k_X9_thrown (l : Launch) (dC : Nat → ClassId) (dI : Nat → Nat → Nat) (cB cI cJ cM : ClassId) (h0 : Nat) (k : Int32) (m0 m1 m2 m3 m4 m5 m6 m7 m8 m9 m10 m11 m12 m13 m14 m15 m16 m17 m18 m19 m20 m21 m22 : Value) (sz : Nat) : Met l yX9_thrown wsX9_thrown rm_X9_thrown (va_Pc [.ref h0] (fun U => U.heap.size = sz ∧ va_P (dC, dI) vwCl (wo_X9_thrown dC dI cB cI cJ cM h0 k m0 m1 m2 m3 m4 m5 m6 m7 m8 m9 m10 m11 m12 m13 m14 m15 m16 m17 m18 m19 m20 m21 m22) U.heap ∧ va_K (dC, dI) vwCl (zT cB cI cJ cM) U ∧ va_D (fun _ => True) (wo_X9_thrown dC dI cB cI cJ cM h0 k m0 m1 m2 m3 m4 m5 m6 m7 m8 m9 m10 m11 m12 m13 m14 m15 m16 m17 m18 m19 m20 m21 m22))) (q_X9_thrown dC dI cB cI cJ cM h0 k m0 m1 m2 m3 m4 m5 m6 m7 m8 m9 m10 m11 m12 m13 m14 m15 m16 m17 m18 m19 m20 m21 m22 (va_A (wo_X9_thrown dC dI cB cI cJ cM h0 k m0 m1 m2 m3 m4 m5 m6 m7 m8 m9 m10 m11 m12 m13 m14 m15 m16 m17 m18 m19 m20 m21 m22) sz)) 0 0 (va_A (wo_X9_thrown dC dI cB cI cJ cM h0 k m0 m1 m2 m3 m4 m5 m6 m7 m8 m9 m10 m11 m12 m13 m14 m15 m16 m17 m18 m19 m20 m21 m22) sz) := by
  refine Met.ofW (cc := cX9_thrown) (maxL := 1) (ret := (some .int)) (by decide) rfl ?_
  intro p e s m args below meth c s₁ B hml hv
  obtain ⟨rfl, hsz, hP, hK, hD0⟩ := hv
  have hx := B.exec
  have hb := B.bytes
  have hr := B.returns
  have hts := atoms_spec (ws := wsX9_thrown) B.pre
  have hown : s.vm.findClass RX9 = some m.cls := findClass_of_methodNamed B.named
  have hlocks := B.notSynchronized
  subst hsz
  have hD := hD0.self (sz := s.heap.size)
  generalize hAe : va_A (wo_X9_thrown dC dI cB cI cJ cM h0 k m0 m1 m2 m3 m4 m5 m6 m7 m8 m9 m10 m11 m12 m13 m14 m15 m16 m17 m18 m19 m20 m21 m22) s.heap.size = A at hD ⊢
  have hA : ∀ q : Nat, s.heap.size ≤ q → A q := fun q h => by rw [← hAe]; exact Or.inr h
  have hS : va_S A s.heap s.heap [] := va_S.rf
  have hP : va_P (dC, dI) vwCl [(h0, .inr (9, [m0, m1, m2, m3, m4, m5, m6, m7, m8, m9, m10, m11, m12, m13, m14, m15, m16, m17, m18, m19, m20, m21, m22, .int k]))] s.heap := hP
  have hD : va_D A [(h0, .inr (9, [m0, m1, m2, m3, m4, m5, m6, m7, m8, m9, m10, m11, m12, m13, m14, m15, m16, m17, m18, m19, m20, m21, m22, .int k]))] := hD
  have hl := lv_entry ([.ref h0]) (n := 1) (Nat.le_of_ble_eq_true rfl)
  rw [lg_entry_eq]
  generalize (lg_sl ([.ref h0]) ++ List.replicate (1 - (lg_sl ([.ref h0])).length) Slot.unset).toArray = ls at hl ⊢
  have hl : lv_has ls 1 [(0, .ref h0)] := hl
  refine lv_aload_n hx hb dX9_thrown_0 rfl (lv_at hl 0 rfl) ?_
  refine va_get (D := (dC, dI)) (ci := 9) (v := .int k) (C := RX9) (T := TX9) (N := 24) hx hb hts (by decide +kernel) hown hK hP 0 rfl rfl 23 (by decide) (hts (.fieldLink RX9 150 "FixedPressModel" "code" "I") (by decide +kernel)) (fun _ h9 => h9) rfl dX9_thrown_1 ?_
  have hP9 := hP.sub (ws' := [(h0, .inr (9, [m0, m1, m2, m3, m4, m5, m6, m7, m8, m9, m10, m11, m12, m13, m14, m15, m16, m17, m18, m19, m20, m21, m22, .int k]))]) [0] rfl
  have hD9 := hD.sub (ws' := [(h0, .inr (9, [m0, m1, m2, m3, m4, m5, m6, m7, m8, m9, m10, m11, m12, m13, m14, m15, m16, m17, m18, m19, m20, m21, m22, .int k]))]) [0] (by decide) rfl
  exact W.iret (v := k) hx hb hr (fun t ht hW => ⟨⟨k, (), rfl, rfl, ⟨by rw [ht]; exact hP9, va_K.moved hW.alike hK, hD9⟩⟩, hS.F ht⟩) hS.2.2 dX9_thrown_4

abbrev rm_X9_good_t : Room := { frames := 0, cells := 0, slots := 0, locals := 0 }
abbrev wo_X9_good_t (dC : Nat → ClassId) (dI : Nat → Nat → Nat) (cB cI cJ cM : ClassId) (h0 : Nat) (k0 k : Int32) (m0 m1 m2 m3 m4 m5 m6 m7 m8 m9 m10 m11 m12 m13 m14 m15 m16 m17 m18 m19 m20 m21 m22 : Value) : va_W := [(h0, .inr (9, [m0, m1, m2, m3, m4, m5, m6, m7, m8, m9, m10, m11, m12, m13, m14, m15, m16, m17, m18, m19, m20, m21, m22, .int k0]))]
abbrev q_X9_good_t (dC : Nat → ClassId) (dI : Nat → Nat → Nat) (cB cI cJ cM : ClassId) (h0 : Nat) (k0 k : Int32) (m0 m1 m2 m3 m4 m5 m6 m7 m8 m9 m10 m11 m12 m13 m14 m15 m16 m17 m18 m19 m20 m21 m22 : Value) (A : Nat → Prop) : Array Value → State → Outcome → State → Prop := va_Qi (fun (r : Int32) (u : Unit) => r = 1) (zB dC dI cB cI cJ cM A (fun u : Unit => [(h0, .inr (9, [m0, m1, m2, m3, m4, m5, m6, m7, m8, m9, m10, m11, m12, m13, m14, m15, m16, m17, m18, m19, m20, m21, m22, .int 0]))])) A
set_option maxHeartbeats 8000000 in
set_option maxRecDepth 100000 in
theorem k_X9_good_t (l : Launch) (dC : Nat → ClassId) (dI : Nat → Nat → Nat) (cB cI cJ cM : ClassId) (h0 : Nat) (k0 k : Int32) (m0 m1 m2 m3 m4 m5 m6 m7 m8 m9 m10 m11 m12 m13 m14 m15 m16 m17 m18 m19 m20 m21 m22 : Value) (sz : Nat) : Met l yX9_good wsX9_good rm_X9_good_t (va_Pc [.ref h0, .int 1, .int k] (fun U => U.heap.size = sz ∧ va_P (dC, dI) vwCl (wo_X9_good_t dC dI cB cI cJ cM h0 k0 k m0 m1 m2 m3 m4 m5 m6 m7 m8 m9 m10 m11 m12 m13 m14 m15 m16 m17 m18 m19 m20 m21 m22) U.heap ∧ va_K (dC, dI) vwCl (zT cB cI cJ cM) U ∧ va_D (fun _ => True) (wo_X9_good_t dC dI cB cI cJ cM h0 k0 k m0 m1 m2 m3 m4 m5 m6 m7 m8 m9 m10 m11 m12 m13 m14 m15 m16 m17 m18 m19 m20 m21 m22))) (q_X9_good_t dC dI cB cI cJ cM h0 k0 k m0 m1 m2 m3 m4 m5 m6 m7 m8 m9 m10 m11 m12 m13 m14 m15 m16 m17 m18 m19 m20 m21 m22 (va_A (wo_X9_good_t dC dI cB cI cJ cM h0 k0 k m0 m1 m2 m3 m4 m5 m6 m7 m8 m9 m10 m11 m12 m13 m14 m15 m16 m17 m18 m19 m20 m21 m22) sz)) 0 0 (va_A (wo_X9_good_t dC dI cB cI cJ cM h0 k0 k m0 m1 m2 m3 m4 m5 m6 m7 m8 m9 m10 m11 m12 m13 m14 m15 m16 m17 m18 m19 m20 m21 m22) sz) := by
  refine Met.ofW (cc := cX9_good) (maxL := 3) (ret := (some .boolean)) (by decide) rfl ?_
  intro p e s m args below meth c s₁ B hml hv
  obtain ⟨rfl, hsz, hP, hK, hD0⟩ := hv
  have hx := B.exec
  have hb := B.bytes
  have hr := B.returns
  have hts := atoms_spec (ws := wsX9_good) B.pre
  have hown : s.vm.findClass RX9 = some m.cls := findClass_of_methodNamed B.named
  have hlocks := B.notSynchronized
  subst hsz
  have hD := hD0.self (sz := s.heap.size)
  generalize hAe : va_A (wo_X9_good_t dC dI cB cI cJ cM h0 k0 k m0 m1 m2 m3 m4 m5 m6 m7 m8 m9 m10 m11 m12 m13 m14 m15 m16 m17 m18 m19 m20 m21 m22) s.heap.size = A at hD ⊢
  have hA : ∀ q : Nat, s.heap.size ≤ q → A q := fun q h => by rw [← hAe]; exact Or.inr h
  have hS : va_S A s.heap s.heap [] := va_S.rf
  have hP : va_P (dC, dI) vwCl [(h0, .inr (9, [m0, m1, m2, m3, m4, m5, m6, m7, m8, m9, m10, m11, m12, m13, m14, m15, m16, m17, m18, m19, m20, m21, m22, .int k0]))] s.heap := hP
  have hD : va_D A [(h0, .inr (9, [m0, m1, m2, m3, m4, m5, m6, m7, m8, m9, m10, m11, m12, m13, m14, m15, m16, m17, m18, m19, m20, m21, m22, .int k0]))] := hD
  have hl := lv_entry ([.ref h0, .int 1, .int k]) (n := 3) (Nat.le_of_ble_eq_true rfl)
  rw [lg_entry_eq]
  generalize (lg_sl ([.ref h0, .int 1, .int k]) ++ List.replicate (3 - (lg_sl ([.ref h0, .int 1, .int k])).length) Slot.unset).toArray = ls at hl ⊢
  have hl : lv_has ls 3 [(0, .ref h0), (1, .int 1), (2, .int k)] := hl
  refine lv_aload_n hx hb dX9_good_0 rfl (lv_at hl 0 rfl) ?_
  refine lv_iload_n hx hb dX9_good_1 rfl (lv_at hl 1 rfl) ?_
  refine lv_if_eq (tgt := 9) hx hb dX9_good_2 (by decide) (fun c2 => ?_) (fun c2 => ?_)
  · have c2 : 1 = 0 := (nI_eq (a := 1) (b := 0) (by omega) (by omega)).mp c2
    exfalso; omega
  · have c2 : ¬ (1 = 0) := fun h => c2 ((nI_eq (a := 1) (b := 0) (by omega) (by omega)).mpr h)
    refine lv_iconst (v := 0) hx hb dX9_good_5 (by decide) ?_
    refine lv_goto (tgt := 10) hx hb dX9_good_6 (by decide) ?_
    refine va_put (D := (dC, dI)) (ci := 9) (v := .int 0) (ty := .int) (C := RX9) (T := TX9) (N := 24) hx hb hts (by decide +kernel) tyX9 tyX9_ok nmX9 hown hK hP hD hS 0 rfl rfl 23 (by decide) (hts (.fieldLink RX9 150 "FixedPressModel" "code" "I") (by decide +kernel)) (fun _ h9 => h9) rfl (by decide +kernel) rfl rfl (Nat.le_of_ble_eq_true rfl) dX9_good_10 (fun H locs hP hD hS => ?_)
    have hP : va_P (dC, dI) vwCl [(h0, .inr (9, [m0, m1, m2, m3, m4, m5, m6, m7, m8, m9, m10, m11, m12, m13, m14, m15, m16, m17, m18, m19, m20, m21, m22, .int 0]))] H := hP
    have hD : va_D A [(h0, .inr (9, [m0, m1, m2, m3, m4, m5, m6, m7, m8, m9, m10, m11, m12, m13, m14, m15, m16, m17, m18, m19, m20, m21, m22, .int 0]))] := hD
    refine lv_iload_n hx hb dX9_good_13 rfl (lv_at hl 1 rfl) ?_
    have hP9 := hP.sub (ws' := [(h0, .inr (9, [m0, m1, m2, m3, m4, m5, m6, m7, m8, m9, m10, m11, m12, m13, m14, m15, m16, m17, m18, m19, m20, m21, m22, .int 0]))]) [0] rfl
    have hD9 := hD.sub (ws' := [(h0, .inr (9, [m0, m1, m2, m3, m4, m5, m6, m7, m8, m9, m10, m11, m12, m13, m14, m15, m16, m17, m18, m19, m20, m21, m22, .int 0]))]) [0] (by decide) rfl
    exact W.zret (v := 1) hx hb hr (by decide) (fun t ht hW => ⟨⟨1, (), rfl, rfl, ⟨by rw [ht]; exact hP9, va_K.moved hW.alike hK, hD9⟩⟩, hS.F ht⟩) hS.2.2 dX9_good_14

abbrev rm_X9_good_f : Room := { frames := 0, cells := 0, slots := 0, locals := 0 }
abbrev wo_X9_good_f (dC : Nat → ClassId) (dI : Nat → Nat → Nat) (cB cI cJ cM : ClassId) (h0 : Nat) (k0 k : Int32) (m0 m1 m2 m3 m4 m5 m6 m7 m8 m9 m10 m11 m12 m13 m14 m15 m16 m17 m18 m19 m20 m21 m22 : Value) : va_W := [(h0, .inr (9, [m0, m1, m2, m3, m4, m5, m6, m7, m8, m9, m10, m11, m12, m13, m14, m15, m16, m17, m18, m19, m20, m21, m22, .int k0]))]
abbrev q_X9_good_f (dC : Nat → ClassId) (dI : Nat → Nat → Nat) (cB cI cJ cM : ClassId) (h0 : Nat) (k0 k : Int32) (m0 m1 m2 m3 m4 m5 m6 m7 m8 m9 m10 m11 m12 m13 m14 m15 m16 m17 m18 m19 m20 m21 m22 : Value) (A : Nat → Prop) : Array Value → State → Outcome → State → Prop := va_Qi (fun (r : Int32) (u : Unit) => r = 0) (zB dC dI cB cI cJ cM A (fun u : Unit => [(h0, .inr (9, [m0, m1, m2, m3, m4, m5, m6, m7, m8, m9, m10, m11, m12, m13, m14, m15, m16, m17, m18, m19, m20, m21, m22, .int k]))])) A
set_option maxHeartbeats 8000000 in
set_option maxRecDepth 100000 in
theorem k_X9_good_f (l : Launch) (dC : Nat → ClassId) (dI : Nat → Nat → Nat) (cB cI cJ cM : ClassId) (h0 : Nat) (k0 k : Int32) (m0 m1 m2 m3 m4 m5 m6 m7 m8 m9 m10 m11 m12 m13 m14 m15 m16 m17 m18 m19 m20 m21 m22 : Value) (sz : Nat) : Met l yX9_good wsX9_good rm_X9_good_f (va_Pc [.ref h0, .int 0, .int k] (fun U => U.heap.size = sz ∧ va_P (dC, dI) vwCl (wo_X9_good_f dC dI cB cI cJ cM h0 k0 k m0 m1 m2 m3 m4 m5 m6 m7 m8 m9 m10 m11 m12 m13 m14 m15 m16 m17 m18 m19 m20 m21 m22) U.heap ∧ va_K (dC, dI) vwCl (zT cB cI cJ cM) U ∧ va_D (fun _ => True) (wo_X9_good_f dC dI cB cI cJ cM h0 k0 k m0 m1 m2 m3 m4 m5 m6 m7 m8 m9 m10 m11 m12 m13 m14 m15 m16 m17 m18 m19 m20 m21 m22))) (q_X9_good_f dC dI cB cI cJ cM h0 k0 k m0 m1 m2 m3 m4 m5 m6 m7 m8 m9 m10 m11 m12 m13 m14 m15 m16 m17 m18 m19 m20 m21 m22 (va_A (wo_X9_good_f dC dI cB cI cJ cM h0 k0 k m0 m1 m2 m3 m4 m5 m6 m7 m8 m9 m10 m11 m12 m13 m14 m15 m16 m17 m18 m19 m20 m21 m22) sz)) 0 0 (va_A (wo_X9_good_f dC dI cB cI cJ cM h0 k0 k m0 m1 m2 m3 m4 m5 m6 m7 m8 m9 m10 m11 m12 m13 m14 m15 m16 m17 m18 m19 m20 m21 m22) sz) := by
  refine Met.ofW (cc := cX9_good) (maxL := 3) (ret := (some .boolean)) (by decide) rfl ?_
  intro p e s m args below meth c s₁ B hml hv
  obtain ⟨rfl, hsz, hP, hK, hD0⟩ := hv
  have hx := B.exec
  have hb := B.bytes
  have hr := B.returns
  have hts := atoms_spec (ws := wsX9_good) B.pre
  have hown : s.vm.findClass RX9 = some m.cls := findClass_of_methodNamed B.named
  have hlocks := B.notSynchronized
  subst hsz
  have hD := hD0.self (sz := s.heap.size)
  generalize hAe : va_A (wo_X9_good_f dC dI cB cI cJ cM h0 k0 k m0 m1 m2 m3 m4 m5 m6 m7 m8 m9 m10 m11 m12 m13 m14 m15 m16 m17 m18 m19 m20 m21 m22) s.heap.size = A at hD ⊢
  have hA : ∀ q : Nat, s.heap.size ≤ q → A q := fun q h => by rw [← hAe]; exact Or.inr h
  have hS : va_S A s.heap s.heap [] := va_S.rf
  have hP : va_P (dC, dI) vwCl [(h0, .inr (9, [m0, m1, m2, m3, m4, m5, m6, m7, m8, m9, m10, m11, m12, m13, m14, m15, m16, m17, m18, m19, m20, m21, m22, .int k0]))] s.heap := hP
  have hD : va_D A [(h0, .inr (9, [m0, m1, m2, m3, m4, m5, m6, m7, m8, m9, m10, m11, m12, m13, m14, m15, m16, m17, m18, m19, m20, m21, m22, .int k0]))] := hD
  have hl := lv_entry ([.ref h0, .int 0, .int k]) (n := 3) (Nat.le_of_ble_eq_true rfl)
  rw [lg_entry_eq]
  generalize (lg_sl ([.ref h0, .int 0, .int k]) ++ List.replicate (3 - (lg_sl ([.ref h0, .int 0, .int k])).length) Slot.unset).toArray = ls at hl ⊢
  have hl : lv_has ls 3 [(0, .ref h0), (1, .int 0), (2, .int k)] := hl
  refine lv_aload_n hx hb dX9_good_0 rfl (lv_at hl 0 rfl) ?_
  refine lv_iload_n hx hb dX9_good_1 rfl (lv_at hl 1 rfl) ?_
  refine lv_if_eq (tgt := 9) hx hb dX9_good_2 (by decide) (fun c2 => ?_) (fun c2 => ?_)
  · have c2 : 0 = 0 := (nI_eq (a := 0) (b := 0) (by omega) (by omega)).mp c2
    refine lv_iload_n hx hb dX9_good_9 rfl (lv_at hl 2 rfl) ?_
    refine va_put (D := (dC, dI)) (ci := 9) (v := .int k) (ty := .int) (C := RX9) (T := TX9) (N := 24) hx hb hts (by decide +kernel) tyX9 tyX9_ok nmX9 hown hK hP hD hS 0 rfl rfl 23 (by decide) (hts (.fieldLink RX9 150 "FixedPressModel" "code" "I") (by decide +kernel)) (fun _ h9 => h9) rfl (by decide +kernel) rfl rfl (Nat.le_of_ble_eq_true rfl) dX9_good_10 (fun H locs hP hD hS => ?_)
    have hP : va_P (dC, dI) vwCl [(h0, .inr (9, [m0, m1, m2, m3, m4, m5, m6, m7, m8, m9, m10, m11, m12, m13, m14, m15, m16, m17, m18, m19, m20, m21, m22, .int k]))] H := hP
    have hD : va_D A [(h0, .inr (9, [m0, m1, m2, m3, m4, m5, m6, m7, m8, m9, m10, m11, m12, m13, m14, m15, m16, m17, m18, m19, m20, m21, m22, .int k]))] := hD
    refine lv_iload_n hx hb dX9_good_13 rfl (lv_at hl 1 rfl) ?_
    have hP9 := hP.sub (ws' := [(h0, .inr (9, [m0, m1, m2, m3, m4, m5, m6, m7, m8, m9, m10, m11, m12, m13, m14, m15, m16, m17, m18, m19, m20, m21, m22, .int k]))]) [0] rfl
    have hD9 := hD.sub (ws' := [(h0, .inr (9, [m0, m1, m2, m3, m4, m5, m6, m7, m8, m9, m10, m11, m12, m13, m14, m15, m16, m17, m18, m19, m20, m21, m22, .int k]))]) [0] (by decide) rfl
    exact W.zret (v := 0) hx hb hr (by decide) (fun t ht hW => ⟨⟨0, (), rfl, rfl, ⟨by rw [ht]; exact hP9, va_K.moved hW.alike hK, hD9⟩⟩, hS.F ht⟩) hS.2.2 dX9_good_14
  · have c2 : ¬ (0 = 0) := fun h => c2 ((nI_eq (a := 0) (b := 0) (by omega) (by omega)).mpr h)
    exfalso; omega

abbrev rm_X9_adler : Room := { frames := 0, cells := 0, slots := 0, locals := 0 }
abbrev wo_X9_adler (dC : Nat → ClassId) (dI : Nat → Nat → Nat) (cB cI cJ cM : ClassId) (b n : Nat) (f : Nat → Int32) (k : Nat) : va_W := [(b, .inl (cB, n, .inl f))]
abbrev q_X9_adler (dC : Nat → ClassId) (dI : Nat → Nat → Nat) (cB cI cJ cM : ClassId) (b n : Nat) (f : Nat → Int32) (k : Nat) (A : Nat → Prop) : Array Value → State → Outcome → State → Prop := va_Qi (fun (r : Int32) (u : Unit) => r = zadler f k) (zB dC dI cB cI cJ cM A (fun u : Unit => [(b, .inl (cB, n, .inl f))])) A
set_option maxHeartbeats 8000000 in
set_option maxRecDepth 100000 in
/-- adler of the reference -/
theorem k_X9_adler (l : Launch) (dC : Nat → ClassId) (dI : Nat → Nat → Nat) (cB cI cJ cM : ClassId) (b n : Nat) (f : Nat → Int32) (k : Nat) (h1 : k ≤ n) (h2 : n < 100000) (sz : Nat) : Met l yX9_adler wsX9_adler rm_X9_adler (va_Pc [.ref b, .int 0, .int (nI k)] (fun U => U.heap.size = sz ∧ va_P (dC, dI) vwCl (wo_X9_adler dC dI cB cI cJ cM b n f k) U.heap ∧ va_K (dC, dI) vwCl (zT cB cI cJ cM) U ∧ va_D (fun _ => True) (wo_X9_adler dC dI cB cI cJ cM b n f k))) (q_X9_adler dC dI cB cI cJ cM b n f k (va_A (wo_X9_adler dC dI cB cI cJ cM b n f k) sz)) 0 0 (va_A (wo_X9_adler dC dI cB cI cJ cM b n f k) sz) := by
  refine Met.ofW (cc := cX9_adler) (maxL := 6) (ret := (some .int)) (by decide) rfl ?_
  intro p e s m args below meth c s₁ B hml hv
  obtain ⟨rfl, hsz, hP, hK, hD0⟩ := hv
  have hx := B.exec
  have hb := B.bytes
  have hr := B.returns
  have hts := atoms_spec (ws := wsX9_adler) B.pre
  have hown : s.vm.findClass RX9 = some m.cls := findClass_of_methodNamed B.named
  have hlocks := B.notSynchronized
  subst hsz
  have hD := hD0.self (sz := s.heap.size)
  generalize hAe : va_A (wo_X9_adler dC dI cB cI cJ cM b n f k) s.heap.size = A at hD ⊢
  have hA : ∀ q : Nat, s.heap.size ≤ q → A q := fun q h => by rw [← hAe]; exact Or.inr h
  have hS : va_S A s.heap s.heap [] := va_S.rf
  have hP : va_P (dC, dI) vwCl [(b, .inl (cB, n, .inl f))] s.heap := hP
  have hD : va_D A [(b, .inl (cB, n, .inl f))] := hD
  have hl := lv_entry ([.ref b, .int 0, .int (nI k)]) (n := 6) (Nat.le_of_ble_eq_true rfl)
  rw [lg_entry_eq]
  generalize (lg_sl ([.ref b, .int 0, .int (nI k)]) ++ List.replicate (6 - (lg_sl ([.ref b, .int 0, .int (nI k)])).length) Slot.unset).toArray = ls at hl ⊢
  have hl : lv_has ls 6 [(0, .ref b), (1, .int 0), (2, .int (nI k))] := hl
  refine lv_iconst (v := 1) hx hb dX9_adler_0 (by decide) ?_
  refine lv_istore_n (lv' := [(3, .int 1), (0, .ref b), (1, .int 0), (2, .int (nI k))]) hx hb dX9_adler_1 rfl hl (by decide) rfl (fun ls hl => ?_)
  refine lv_iconst (v := 0) hx hb dX9_adler_2 (by decide) ?_
  refine lv_istore (lv' := [(4, .int 0), (3, .int 1), (0, .ref b), (1, .int 0), (2, .int (nI k))]) hx hb dX9_adler_3 hl (by decide) rfl (fun ls hl => ?_)
  refine lv_iconst (v := 0) hx hb dX9_adler_5 (by decide) ?_
  refine lv_istore (lv' := [(5, .int 0), (4, .int 0), (3, .int 1), (0, .ref b), (1, .int 0), (2, .int (nI k))]) hx hb dX9_adler_6 hl (by decide) rfl (fun ls hl => ?_)
  have cut8 : ∀ (fuel : Nat) (i : Nat) (lo : Int32) (hi : Int32), (i ≤ k) → (lo = (zad f i).1) → (hi = (zad f i).2) → (k - i < fuel) → ∀ (H : Heap) (locs : List Loc), va_P (dC, dI) vwCl [(b, .inl (cB, n, .inl f))] H → va_D A [(b, .inl (cB, n, .inl f))] → va_S A s.heap H locs → ∀ (ls : Array Slot), lv_has ls 6 [(0, .ref b), (1, .int 0), (2, .int (nI k)), (3, .int lo), (4, .int hi), (5, .int (nI i))] → W p l e (headSpec wsX9_adler rm_X9_adler).room s m ([.ref b, .int 0, .int (nI k)] : List Value).toArray below meth c H locs 0 0 (MQ below (q_X9_adler dC dI cB cI cJ cM b n f k A) ([.ref b, .int 0, .int (nI k)] : List Value).toArray s 0 0 A) (F0 m 8 ls []) := by
    intro fuel
    induction fuel with
    | zero => intros; omega
    | succ fuel ih =>
      intro i lo hi hi1 hlo hhi hfuel H locs hP hD hS ls hl
      refine lv_iload hx hb dX9_adler_8 (lv_at hl 5 rfl) ?_
      refine lv_iload_n hx hb dX9_adler_10 rfl (lv_at hl 2 rfl) ?_
      refine lv_icmp_ge (tgt := 45) hx hb dX9_adler_11 (by decide) (fun c11 => ?_) (fun c11 => ?_)
      · have c11 : k ≤ i := (nI_leI (a := k) (b := i) (by omega) (by omega)).mp c11
        have hik : i = k := by omega
        rw [hik] at hlo hhi
        refine lv_iload hx hb dX9_adler_45 (lv_at hl 4 rfl) ?_
        refine lv_bipush (v := 16) hx hb dX9_adler_47 (by decide) ?_
        refine lv_ishl hx hb dX9_adler_49 ?_
        refine lv_iload_n hx hb dX9_adler_50 rfl (lv_at hl 3 rfl) ?_
        refine lv_ior hx hb dX9_adler_51 ?_
        have hP9 := hP.sub (ws' := [(b, .inl (cB, n, .inl f))]) [0] rfl
        have hD9 := hD.sub (ws' := [(b, .inl (cB, n, .inl f))]) [0] (by decide) rfl
        exact W.iret (v := ((hi <<< (16 &&& 31)) ||| lo)) hx hb hr (fun t ht hW => ⟨⟨((hi <<< (16 &&& 31)) ||| lo), (), rfl, by rw [hlo, hhi]; rfl, ⟨by rw [ht]; exact hP9, va_K.moved hW.alike hK, hD9⟩⟩, hS.F ht⟩) hS.2.2 dX9_adler_52
      · have c11 : ¬ (k ≤ i) := fun h => c11 ((nI_leI (a := k) (b := i) (by omega) (by omega)).mpr h)
        refine lv_iload_n hx hb dX9_adler_14 rfl (lv_at hl 3 rfl) ?_
        refine lv_aload_n hx hb dX9_adler_15 rfl (lv_at hl 0 rfl) ?_
        refine lv_iload_n hx hb dX9_adler_16 rfl (lv_at hl 1 rfl) ?_
        refine lv_iload hx hb dX9_adler_17 (lv_at hl 5 rfl) ?_
        refine lv_iadd hx hb dX9_adler_19 ?_
        refine lv_topi (fun y_1 ey_1 => ?_)
        obtain rfl : y_1 = nI i := ey_1.trans ((nI_add 0 i).trans (congrArg nI (Nat.zero_add i)))
        refine va_bald hx hb hK hP 0 0 rfl rfl (vp_in_nI (n := i) (by omega) (by omega)) dX9_adler_20 ?_
        rw [nI_clamp (n := i) (by omega)]
        refine lv_sipush (v := 255) hx hb dX9_adler_21 (by decide) ?_
        refine lv_iand hx hb dX9_adler_24 ?_
        refine lv_iadd hx hb dX9_adler_25 ?_
        refine lv_ldc hx hb hown (hts (.constant RX9 7 (65521)) (by decide +kernel)) dX9_adler_26 ?_
        refine lv_irem hx hb dX9_adler_28 (by decide) ?_
        refine lv_istore_n (lv' := [(3, .int ((lo + ((f i) &&& 255)) - (lo + ((f i) &&& 255)) / 65521 * 65521)), (0, .ref b), (1, .int 0), (2, .int (nI k)), (4, .int hi), (5, .int (nI i))]) hx hb dX9_adler_29 rfl hl (by decide) rfl (fun ls hl => ?_)
        refine lv_iload hx hb dX9_adler_30 (lv_at hl 4 rfl) ?_
        refine lv_iload_n hx hb dX9_adler_32 rfl (lv_at hl 0 rfl) ?_
        refine lv_iadd hx hb dX9_adler_33 ?_
        refine lv_ldc hx hb hown (hts (.constant RX9 7 (65521)) (by decide +kernel)) dX9_adler_34 ?_
        refine lv_irem hx hb dX9_adler_36 (by decide) ?_
        refine lv_istore (lv' := [(4, .int ((hi + ((lo + ((f i) &&& 255)) - (lo + ((f i) &&& 255)) / 65521 * 65521)) - (hi + ((lo + ((f i) &&& 255)) - (lo + ((f i) &&& 255)) / 65521 * 65521)) / 65521 * 65521)), (3, .int ((lo + ((f i) &&& 255)) - (lo + ((f i) &&& 255)) / 65521 * 65521)), (0, .ref b), (1, .int 0), (2, .int (nI k)), (5, .int (nI i))]) hx hb dX9_adler_37 hl (by decide) rfl (fun ls hl => ?_)
        refine lv_iinc (v := nI (i + 1)) (lv' := [(5, .int (nI (i + 1))), (4, .int ((hi + ((lo + ((f i) &&& 255)) - (lo + ((f i) &&& 255)) / 65521 * 65521)) - (hi + ((lo + ((f i) &&& 255)) - (lo + ((f i) &&& 255)) / 65521 * 65521)) / 65521 * 65521)), (3, .int ((lo + ((f i) &&& 255)) - (lo + ((f i) &&& 255)) / 65521 * 65521)), (0, .ref b), (1, .int 0), (2, .int (nI k))]) hx hb dX9_adler_39 hl (k := 5) rfl (show nI i + Int32.ofInt 1 = _ from nI_add i 1) (by decide) rfl (fun ls hl => ?_)
        refine lv_goto (tgt := 8) hx hb dX9_adler_42 (by decide) ?_
        exact ih (i + 1) ((lo + ((f i) &&& 255)) - (lo + ((f i) &&& 255)) / 65521 * 65521) ((hi + ((lo + ((f i) &&& 255)) - (lo + ((f i) &&& 255)) / 65521 * 65521)) - (hi + ((lo + ((f i) &&& 255)) - (lo + ((f i) &&& 255)) / 65521 * 65521)) / 65521 * 65521) (by omega) (by subst hlo; rfl) (by subst hlo; subst hhi; rfl) (by omega) _ _ hP hD hS _ (lv_sub hl [3, 4, 5, 2, 1, 0] rfl)
  exact cut8 (k - 0 + 1) 0 1 0 (by omega) (rfl) (rfl) (by omega) _ _ hP hD hS _ (lv_sub hl [3, 4, 5, 2, 1, 0] rfl)

abbrev rm_X9_four : Room := { frames := 0, cells := 0, slots := 0, locals := 0 }
abbrev wo_X9_four (dC : Nat → ClassId) (dI : Nat → Nat → Nat) (cB cI cJ cM : ClassId) (h0 tp : Nat) (f : Nat → Int32) (tn : Nat) (x : Int32) (m0 m1 m2 m3 m4 m5 m6 m7 m8 m9 m10 m11 m12 m13 m14 m15 m16 m17 m18 m21 m22 m23 : Value) : va_W := [(h0, .inr (9, [m0, m1, m2, m3, m4, m5, m6, m7, m8, m9, m10, m11, m12, m13, m14, m15, m16, m17, m18, .ref tp, .int (nI tn), m21, m22, m23])), (tp, .inl (cB, 4000, .inl f))]
abbrev q_X9_four (dC : Nat → ClassId) (dI : Nat → Nat → Nat) (cB cI cJ cM : ClassId) (h0 tp : Nat) (f : Nat → Int32) (tn : Nat) (x : Int32) (m0 m1 m2 m3 m4 m5 m6 m7 m8 m9 m10 m11 m12 m13 m14 m15 m16 m17 m18 m21 m22 m23 : Value) (A : Nat → Prop) : Array Value → State → Outcome → State → Prop := va_Qv (fun (u : Unit) => True) (zB dC dI cB cI cJ cM A (fun u : Unit => [(h0, .inr (9, [m0, m1, m2, m3, m4, m5, m6, m7, m8, m9, m10, m11, m12, m13, m14, m15, m16, m17, m18, .ref tp, .int (nI (tn + 4)), m21, m22, m23])), (tp, .inl (cB, 4000, .inl (zap4 f tn x)))])) A
set_option maxHeartbeats 8000000 in
set_option maxRecDepth 100000 in
/-- four -/
theorem k_X9_four (l : Launch) (dC : Nat → ClassId) (dI : Nat → Nat → Nat) (cB cI cJ cM : ClassId) (h0 tp : Nat) (f : Nat → Int32) (tn : Nat) (x : Int32) (m0 m1 m2 m3 m4 m5 m6 m7 m8 m9 m10 m11 m12 m13 m14 m15 m16 m17 m18 m21 m22 m23 : Value) (h1 : tn + 4 ≤ 4000) (sz : Nat) : Met l yX9_four wsX9_four rm_X9_four (va_Pc [.ref h0, .int x] (fun U => U.heap.size = sz ∧ va_P (dC, dI) vwCl (wo_X9_four dC dI cB cI cJ cM h0 tp f tn x m0 m1 m2 m3 m4 m5 m6 m7 m8 m9 m10 m11 m12 m13 m14 m15 m16 m17 m18 m21 m22 m23) U.heap ∧ va_K (dC, dI) vwCl (zT cB cI cJ cM) U ∧ va_D (fun _ => True) (wo_X9_four dC dI cB cI cJ cM h0 tp f tn x m0 m1 m2 m3 m4 m5 m6 m7 m8 m9 m10 m11 m12 m13 m14 m15 m16 m17 m18 m21 m22 m23))) (q_X9_four dC dI cB cI cJ cM h0 tp f tn x m0 m1 m2 m3 m4 m5 m6 m7 m8 m9 m10 m11 m12 m13 m14 m15 m16 m17 m18 m21 m22 m23 (va_A (wo_X9_four dC dI cB cI cJ cM h0 tp f tn x m0 m1 m2 m3 m4 m5 m6 m7 m8 m9 m10 m11 m12 m13 m14 m15 m16 m17 m18 m21 m22 m23) sz)) 0 0 (va_A (wo_X9_four dC dI cB cI cJ cM h0 tp f tn x m0 m1 m2 m3 m4 m5 m6 m7 m8 m9 m10 m11 m12 m13 m14 m15 m16 m17 m18 m21 m22 m23) sz) := by
  refine Met.ofW (cc := cX9_four) (maxL := 3) (ret := none) (by decide) rfl ?_
  intro p e s m args below meth c s₁ B hml hv
  obtain ⟨rfl, hsz, hP, hK, hD0⟩ := hv
  have hx := B.exec
  have hb := B.bytes
  have hr := B.returns
  have hts := atoms_spec (ws := wsX9_four) B.pre
  have hown : s.vm.findClass RX9 = some m.cls := findClass_of_methodNamed B.named
  have hlocks := B.notSynchronized
  subst hsz
  have hD := hD0.self (sz := s.heap.size)
  generalize hAe : va_A (wo_X9_four dC dI cB cI cJ cM h0 tp f tn x m0 m1 m2 m3 m4 m5 m6 m7 m8 m9 m10 m11 m12 m13 m14 m15 m16 m17 m18 m21 m22 m23) s.heap.size = A at hD ⊢
  have hA : ∀ q : Nat, s.heap.size ≤ q → A q := fun q h => by rw [← hAe]; exact Or.inr h
  have hS : va_S A s.heap s.heap [] := va_S.rf
  have hP : va_P (dC, dI) vwCl [(h0, .inr (9, [m0, m1, m2, m3, m4, m5, m6, m7, m8, m9, m10, m11, m12, m13, m14, m15, m16, m17, m18, .ref tp, .int (nI tn), m21, m22, m23])), (tp, .inl (cB, 4000, .inl f))] s.heap := hP
  have hD : va_D A [(h0, .inr (9, [m0, m1, m2, m3, m4, m5, m6, m7, m8, m9, m10, m11, m12, m13, m14, m15, m16, m17, m18, .ref tp, .int (nI tn), m21, m22, m23])), (tp, .inl (cB, 4000, .inl f))] := hD
  have hl := lv_entry ([.ref h0, .int x]) (n := 3) (Nat.le_of_ble_eq_true rfl)
  rw [lg_entry_eq]
  generalize (lg_sl ([.ref h0, .int x]) ++ List.replicate (3 - (lg_sl ([.ref h0, .int x])).length) Slot.unset).toArray = ls at hl ⊢
  have hl : lv_has ls 3 [(0, .ref h0), (1, .int x)] := hl
  refine lv_bipush (v := 24) hx hb dX9_four_0 (by decide) ?_
  refine lv_istore_n (lv' := [(2, .int 24), (0, .ref h0), (1, .int x)]) hx hb dX9_four_2 rfl hl (by decide) rfl (fun ls hl => ?_)
  have cut3 : ∀ (fuel : Nat) (j : Nat) (w : Int32) (f1 : Nat → Int32), (j ≤ 4) → (w = nI (8 * (4 - j)) - 8) → (f1 = zapk f tn x j) → (4 - j < fuel) → ∀ (H : Heap) (locs : List Loc), va_P (dC, dI) vwCl [(h0, .inr (9, [m0, m1, m2, m3, m4, m5, m6, m7, m8, m9, m10, m11, m12, m13, m14, m15, m16, m17, m18, .ref tp, .int (nI (tn + j)), m21, m22, m23])), (tp, .inl (cB, 4000, .inl f1))] H → va_D A [(h0, .inr (9, [m0, m1, m2, m3, m4, m5, m6, m7, m8, m9, m10, m11, m12, m13, m14, m15, m16, m17, m18, .ref tp, .int (nI (tn + j)), m21, m22, m23])), (tp, .inl (cB, 4000, .inl f1))] → va_S A s.heap H locs → ∀ (ls : Array Slot), lv_has ls 3 [(0, .ref h0), (1, .int x), (2, .int w)] → W p l e (headSpec wsX9_four rm_X9_four).room s m ([.ref h0, .int x] : List Value).toArray below meth c H locs 0 0 (MQ below (q_X9_four dC dI cB cI cJ cM h0 tp f tn x m0 m1 m2 m3 m4 m5 m6 m7 m8 m9 m10 m11 m12 m13 m14 m15 m16 m17 m18 m21 m22 m23 A) ([.ref h0, .int x] : List Value).toArray s 0 0 A) (F0 m 3 ls []) := by
    intro fuel
    induction fuel with
    | zero => intros; omega
    | succ fuel ih =>
      intro j w f1 hj hw3 hf1 hfuel H locs hP hD hS ls hl
      refine lv_iload_n hx hb dX9_four_3 rfl (lv_at hl 2 rfl) ?_
      refine lv_if_lt (tgt := 36) hx hb dX9_four_4 (by decide) (fun c4 => ?_) (fun c4 => ?_)
      · have hj4 : j = 4 := z_j4 hj (by rw [← hw3]; exact c4)
        rw [hf1, hj4] at hP hD
        have hP : va_P (dC, dI) vwCl [(h0, .inr (9, [m0, m1, m2, m3, m4, m5, m6, m7, m8, m9, m10, m11, m12, m13, m14, m15, m16, m17, m18, .ref tp, .int (nI (tn + 4)), m21, m22, m23])), (tp, .inl (cB, 4000, .inl (zap4 f tn x)))] H := hP
        have hD : va_D A [(h0, .inr (9, [m0, m1, m2, m3, m4, m5, m6, m7, m8, m9, m10, m11, m12, m13, m14, m15, m16, m17, m18, .ref tp, .int (nI (tn + 4)), m21, m22, m23])), (tp, .inl (cB, 4000, .inl (zap4 f tn x)))] := hD
        have hP9 := hP.sub (ws' := [(h0, .inr (9, [m0, m1, m2, m3, m4, m5, m6, m7, m8, m9, m10, m11, m12, m13, m14, m15, m16, m17, m18, .ref tp, .int (nI (tn + 4)), m21, m22, m23])), (tp, .inl (cB, 4000, .inl (zap4 f tn x)))]) [0, 1] rfl
        have hD9 := hD.sub (ws' := [(h0, .inr (9, [m0, m1, m2, m3, m4, m5, m6, m7, m8, m9, m10, m11, m12, m13, m14, m15, m16, m17, m18, .ref tp, .int (nI (tn + 4)), m21, m22, m23])), (tp, .inl (cB, 4000, .inl (zap4 f tn x)))]) [0, 1] (by decide) rfl
        exact W.vret hx hb hr (fun t ht hW => ⟨⟨(), rfl, trivial, ⟨by rw [ht]; exact hP9, va_K.moved hW.alike hK, hD9⟩⟩, hS.F ht⟩) hS.2.2 dX9_four_36
      · have hj4 : j < 4 := z_j3 hj (by rw [← hw3]; exact c4)
        obtain rfl : w = nI (8 * (3 - j)) := hw3.trans (z_w8 (by omega))
        refine lv_aload_n hx hb dX9_four_7 rfl (lv_at hl 0 rfl) ?_
        refine va_get (D := (dC, dI)) (ci := 9) (v := .ref tp) (C := RX9) (T := TX9) (N := 24) hx hb hts (by decide +kernel) hown hK hP 0 rfl rfl 19 (by decide) (hts (.fieldLink RX9 144 "FixedPressModel" "tape" "[B") (by decide +kernel)) (fun _ h9 => h9) rfl dX9_four_8 ?_
        refine lv_aload_n hx hb dX9_four_11 rfl (lv_at hl 0 rfl) ?_
        refine va_get (D := (dC, dI)) (ci := 9) (v := .int (nI (tn + j))) (C := RX9) (T := TX9) (N := 24) hx hb hts (by decide +kernel) hown hK hP 0 rfl rfl 20 (by decide) (hts (.fieldLink RX9 153 "FixedPressModel" "taped" "I") (by decide +kernel)) (fun _ h9 => h9) rfl dX9_four_12 ?_
        refine lv_iload_n hx hb dX9_four_15 rfl (lv_at hl 1 rfl) ?_
        refine lv_iload_n hx hb dX9_four_16 rfl (lv_at hl 2 rfl) ?_
        refine lv_ishr hx hb dX9_four_17 ?_
        refine lv_i2b hx hb dX9_four_18 rfl ?_
        refine lv_topi (fun y_1 ey_1 => ?_)
        obtain rfl : y_1 = (x.toUInt32 >>> ((nI (8 * (3 - j))).toUInt32 &&& Int32.toUInt32 31)).toInt32.toInt8.toInt32 := ey_1.trans (congrArg Int8.toInt32 (z_shb x (k := 8 * (3 - j)) (by omega)))
        refine va_bast hx hb hK hP hD hS 1 0 rfl rfl (vp_in_nI (n := tn + j) (by omega) (by omega)) dX9_four_19 (fun H locs hP hD hS => ?_)
        rw [nI_clamp (n := tn + j) (by omega)] at hP hD
        have hP : va_P (dC, dI) vwCl [(h0, .inr (9, [m0, m1, m2, m3, m4, m5, m6, m7, m8, m9, m10, m11, m12, m13, m14, m15, m16, m17, m18, .ref tp, .int (nI (tn + j)), m21, m22, m23])), (tp, .inl (cB, 4000, .inl (upd f1 (tn + j) (vp_nar .byte ((x.toUInt32 >>> ((nI (8 * (3 - j))).toUInt32 &&& Int32.toUInt32 31)).toInt32.toInt8.toInt32)))))] H := hP
        have hD : va_D A [(h0, .inr (9, [m0, m1, m2, m3, m4, m5, m6, m7, m8, m9, m10, m11, m12, m13, m14, m15, m16, m17, m18, .ref tp, .int (nI (tn + j)), m21, m22, m23])), (tp, .inl (cB, 4000, .inl (upd f1 (tn + j) (vp_nar .byte ((x.toUInt32 >>> ((nI (8 * (3 - j))).toUInt32 &&& Int32.toUInt32 31)).toInt32.toInt8.toInt32)))))] := hD
        rw [pk_vb] at hP hD
        have hP : va_P (dC, dI) vwCl [(h0, .inr (9, [m0, m1, m2, m3, m4, m5, m6, m7, m8, m9, m10, m11, m12, m13, m14, m15, m16, m17, m18, .ref tp, .int (nI (tn + j)), m21, m22, m23])), (tp, .inl (cB, 4000, .inl (upd f1 (tn + j) ((x.toUInt32 >>> ((nI (8 * (3 - j))).toUInt32 &&& Int32.toUInt32 31)).toInt32.toInt8.toInt32))))] H := hP
        have hD : va_D A [(h0, .inr (9, [m0, m1, m2, m3, m4, m5, m6, m7, m8, m9, m10, m11, m12, m13, m14, m15, m16, m17, m18, .ref tp, .int (nI (tn + j)), m21, m22, m23])), (tp, .inl (cB, 4000, .inl (upd f1 (tn + j) ((x.toUInt32 >>> ((nI (8 * (3 - j))).toUInt32 &&& Int32.toUInt32 31)).toInt32.toInt8.toInt32))))] := hD
        refine lv_aload_n hx hb dX9_four_20 rfl (lv_at hl 0 rfl) ?_
        refine lv_dup hx hb dX9_four_21 rfl ?_
        refine va_get (D := (dC, dI)) (ci := 9) (v := .int (nI (tn + j))) (C := RX9) (T := TX9) (N := 24) hx hb hts (by decide +kernel) hown hK hP 0 rfl rfl 20 (by decide) (hts (.fieldLink RX9 153 "FixedPressModel" "taped" "I") (by decide +kernel)) (fun _ h9 => h9) rfl dX9_four_22 ?_
        refine lv_iconst (v := 1) hx hb dX9_four_25 (by decide) ?_
        refine lv_iadd hx hb dX9_four_26 ?_
        refine lv_topi (fun y_2 ey_2 => ?_)
        obtain rfl : y_2 = nI ((tn + j) + 1) := ey_2.trans (nI_add (tn + j) 1)
        refine va_put (D := (dC, dI)) (ci := 9) (v := .int (nI ((tn + j) + 1))) (ty := .int) (C := RX9) (T := TX9) (N := 24) hx hb hts (by decide +kernel) tyX9 tyX9_ok nmX9 hown hK hP hD hS 0 rfl rfl 20 (by decide) (hts (.fieldLink RX9 153 "FixedPressModel" "taped" "I") (by decide +kernel)) (fun _ h9 => h9) rfl (by decide +kernel) rfl rfl (Nat.le_of_ble_eq_true rfl) dX9_four_27 (fun H locs hP hD hS => ?_)
        have hP : va_P (dC, dI) vwCl [(h0, .inr (9, [m0, m1, m2, m3, m4, m5, m6, m7, m8, m9, m10, m11, m12, m13, m14, m15, m16, m17, m18, .ref tp, .int (nI ((tn + j) + 1)), m21, m22, m23])), (tp, .inl (cB, 4000, .inl (upd f1 (tn + j) ((x.toUInt32 >>> ((nI (8 * (3 - j))).toUInt32 &&& Int32.toUInt32 31)).toInt32.toInt8.toInt32))))] H := hP
        have hD : va_D A [(h0, .inr (9, [m0, m1, m2, m3, m4, m5, m6, m7, m8, m9, m10, m11, m12, m13, m14, m15, m16, m17, m18, .ref tp, .int (nI ((tn + j) + 1)), m21, m22, m23])), (tp, .inl (cB, 4000, .inl (upd f1 (tn + j) ((x.toUInt32 >>> ((nI (8 * (3 - j))).toUInt32 &&& Int32.toUInt32 31)).toInt32.toInt8.toInt32))))] := hD
        refine lv_iinc (v := nI (8 * (3 - j)) - 8) (lv' := [(2, .int (nI (8 * (3 - j)) - 8)), (0, .ref h0), (1, .int x)]) hx hb dX9_four_30 hl (k := 2) rfl (by rw [Int32.sub_eq_add_neg]; rfl) (by decide) rfl (fun ls hl => ?_)
        refine lv_goto (tgt := 3) hx hb dX9_four_33 (by decide) ?_
        exact ih (j + 1) (nI (8 * (3 - j)) - 8) (upd f1 (tn + j) ((x.toUInt32 >>> ((nI (8 * (3 - j))).toUInt32 &&& Int32.toUInt32 31)).toInt32.toInt8.toInt32)) (by omega) (z_sh8 (by omega)) (by rw [hf1]; rfl) (by omega) _ _ hP hD hS _ (lv_sub hl [1, 2, 0] rfl)
  exact cut3 (4 - 0 + 1) 0 24 f (by omega) (by decide) (rfl) (by omega) _ _ hP hD hS _ (lv_sub hl [1, 2, 0] rfl)

abbrev rm_X9_feed : Room := { frames := 1, cells := 0, slots := 0, locals := 22 }
abbrev wo_X9_feed (dC : Nat → ClassId) (dI : Nat → Nat → Nat) (cB cI cJ cM : ClassId) (h0 tp : Nat) (f : Nat → Int32) (tn : Nat) (kd x1 x2 x3 x4 x5 : Int32) (m0 m1 m2 m3 m4 m5 m6 m7 m8 m9 m10 m11 m12 m13 m14 m15 m16 m17 m18 m21 m22 : Value) : va_W := [(h0, .inr (9, [m0, m1, m2, m3, m4, m5, m6, m7, m8, m9, m10, m11, m12, m13, m14, m15, m16, m17, m18, .ref tp, .int (nI tn), m21, m22, .int kd])), (tp, .inl (cB, 4000, .inl f))]
abbrev q_X9_feed (dC : Nat → ClassId) (dI : Nat → Nat → Nat) (cB cI cJ cM : ClassId) (h0 tp : Nat) (f : Nat → Int32) (tn : Nat) (kd x1 x2 x3 x4 x5 : Int32) (m0 m1 m2 m3 m4 m5 m6 m7 m8 m9 m10 m11 m12 m13 m14 m15 m16 m17 m18 m21 m22 : Value) (A : Nat → Prop) : Array Value → State → Outcome → State → Prop := va_Qi (fun (r : Int32) (u : (Nat → Int32) × Nat × Int32) => (tn + 20 ≤ 4000 ∧ r = nI (tn + 20) ∧ u = (zap4 (zap4 (zap4 (zap4 (zap4 f tn x1) (tn + 4) x2) (tn + 8) x3) (tn + 12) x4) (tn + 16) x5, tn + 20, 0)) ∨ (4000 < tn + 20 ∧ u = (f, tn, 1))) (zB dC dI cB cI cJ cM A (fun u : (Nat → Int32) × Nat × Int32 => [(h0, .inr (9, [m0, m1, m2, m3, m4, m5, m6, m7, m8, m9, m10, m11, m12, m13, m14, m15, m16, m17, m18, .ref tp, .int (nI u.2.1), m21, m22, .int u.2.2])), (tp, .inl (cB, 4000, .inl u.1))])) A
set_option maxHeartbeats 8000000 in
set_option maxRecDepth 100000 in
/-- feed of the reference -/
theorem k_X9_feed (l : Launch) (dC : Nat → ClassId) (dI : Nat → Nat → Nat) (cB cI cJ cM : ClassId) (h0 tp : Nat) (f : Nat → Int32) (tn : Nat) (kd x1 x2 x3 x4 x5 : Int32) (m0 m1 m2 m3 m4 m5 m6 m7 m8 m9 m10 m11 m12 m13 m14 m15 m16 m17 m18 m21 m22 : Value) (h1 : tn ≤ 4000) (sz : Nat) : Met l yX9_feed wsX9_feed rm_X9_feed (va_Pc [.ref h0, .int x1, .int x2, .int x3, .int x4, .int x5] (fun U => U.heap.size = sz ∧ va_P (dC, dI) vwCl (wo_X9_feed dC dI cB cI cJ cM h0 tp f tn kd x1 x2 x3 x4 x5 m0 m1 m2 m3 m4 m5 m6 m7 m8 m9 m10 m11 m12 m13 m14 m15 m16 m17 m18 m21 m22) U.heap ∧ va_K (dC, dI) vwCl (zT cB cI cJ cM) U ∧ va_D (fun _ => True) (wo_X9_feed dC dI cB cI cJ cM h0 tp f tn kd x1 x2 x3 x4 x5 m0 m1 m2 m3 m4 m5 m6 m7 m8 m9 m10 m11 m12 m13 m14 m15 m16 m17 m18 m21 m22))) (q_X9_feed dC dI cB cI cJ cM h0 tp f tn kd x1 x2 x3 x4 x5 m0 m1 m2 m3 m4 m5 m6 m7 m8 m9 m10 m11 m12 m13 m14 m15 m16 m17 m18 m21 m22 (va_A (wo_X9_feed dC dI cB cI cJ cM h0 tp f tn kd x1 x2 x3 x4 x5 m0 m1 m2 m3 m4 m5 m6 m7 m8 m9 m10 m11 m12 m13 m14 m15 m16 m17 m18 m21 m22) sz)) 0 0 (va_A (wo_X9_feed dC dI cB cI cJ cM h0 tp f tn kd x1 x2 x3 x4 x5 m0 m1 m2 m3 m4 m5 m6 m7 m8 m9 m10 m11 m12 m13 m14 m15 m16 m17 m18 m21 m22) sz) := by
  refine Met.ofW (cc := cX9_feed) (maxL := 6) (ret := (some .int)) (by decide) rfl ?_
  intro p e s m args below meth c s₁ B hml hv
  obtain ⟨rfl, hsz, hP, hK, hD0⟩ := hv
  have hx := B.exec
  have hb := B.bytes
  have hr := B.returns
  have hts := atoms_spec (ws := wsX9_feed) B.pre
  have hown : s.vm.findClass RX9 = some m.cls := findClass_of_methodNamed B.named
  have hlocks := B.notSynchronized
  subst hsz
  have hD := hD0.self (sz := s.heap.size)
  generalize hAe : va_A (wo_X9_feed dC dI cB cI cJ cM h0 tp f tn kd x1 x2 x3 x4 x5 m0 m1 m2 m3 m4 m5 m6 m7 m8 m9 m10 m11 m12 m13 m14 m15 m16 m17 m18 m21 m22) s.heap.size = A at hD ⊢
  have hA : ∀ q : Nat, s.heap.size ≤ q → A q := fun q h => by rw [← hAe]; exact Or.inr h
  have hS : va_S A s.heap s.heap [] := va_S.rf
  have hP : va_P (dC, dI) vwCl [(h0, .inr (9, [m0, m1, m2, m3, m4, m5, m6, m7, m8, m9, m10, m11, m12, m13, m14, m15, m16, m17, m18, .ref tp, .int (nI tn), m21, m22, .int kd])), (tp, .inl (cB, 4000, .inl f))] s.heap := hP
  have hD : va_D A [(h0, .inr (9, [m0, m1, m2, m3, m4, m5, m6, m7, m8, m9, m10, m11, m12, m13, m14, m15, m16, m17, m18, .ref tp, .int (nI tn), m21, m22, .int kd])), (tp, .inl (cB, 4000, .inl f))] := hD
  have hl := lv_entry ([.ref h0, .int x1, .int x2, .int x3, .int x4, .int x5]) (n := 6) (Nat.le_of_ble_eq_true rfl)
  rw [lg_entry_eq]
  generalize (lg_sl ([.ref h0, .int x1, .int x2, .int x3, .int x4, .int x5]) ++ List.replicate (6 - (lg_sl ([.ref h0, .int x1, .int x2, .int x3, .int x4, .int x5])).length) Slot.unset).toArray = ls at hl ⊢
  have hl : lv_has ls 6 [(0, .ref h0), (1, .int x1), (2, .int x2), (3, .int x3), (4, .int x4), (5, .int x5)] := hl
  refine lv_aload_n hx hb dX9_feed_0 rfl (lv_at hl 0 rfl) ?_
  refine lv_aload_n hx hb dX9_feed_1 rfl (lv_at hl 0 rfl) ?_
  refine va_get (D := (dC, dI)) (ci := 9) (v := .int (nI tn)) (C := RX9) (T := TX9) (N := 24) hx hb hts (by decide +kernel) hown hK hP 0 rfl rfl 20 (by decide) (hts (.fieldLink RX9 153 "FixedPressModel" "taped" "I") (by decide +kernel)) (fun _ h9 => h9) rfl dX9_feed_2 ?_
  refine lv_bipush (v := 20) hx hb dX9_feed_5 (by decide) ?_
  refine lv_iadd hx hb dX9_feed_7 ?_
  refine lv_topi (fun y_1 ey_1 => ?_)
  obtain rfl : y_1 = nI (tn + 20) := ey_1.trans (nI_add tn 20)
  refine lv_sipush (v := 4000) hx hb dX9_feed_8 (by decide) ?_
  refine lv_icmp_gt (tgt := 18) hx hb dX9_feed_11 (by decide) (fun c11 => ?_) (fun c11 => ?_)
  · have c11 : 4000 < (tn + 20) := (nI_ltI (a := 4000) (b := (tn + 20)) (by omega) (by omega)).mp c11
    refine lv_iconst (v := 0) hx hb dX9_feed_18 (by decide) ?_
    refine lv_iconst (v := 1) hx hb dX9_feed_19 (by decide) ?_
    have hPc := hP.sub (ws' := [(h0, .inr (9, [m0, m1, m2, m3, m4, m5, m6, m7, m8, m9, m10, m11, m12, m13, m14, m15, m16, m17, m18, .ref tp, .int (nI tn), m21, m22, .int kd]))]) [0] rfl
    have hDc := hD.sub (ws' := [(h0, .inr (9, [m0, m1, m2, m3, m4, m5, m6, m7, m8, m9, m10, m11, m12, m13, m14, m15, m16, m17, m18, .ref tp, .int (nI tn), m21, m22, .int kd]))]) [0] (by decide) rfl
    have hFc := va_free (wc := [(h0, .inr (9, [m0, m1, m2, m3, m4, m5, m6, m7, m8, m9, m10, m11, m12, m13, m14, m15, m16, m17, m18, .ref tp, .int (nI tn), m21, m22, .int kd]))]) hD hS hA [0] rfl
    refine va_calli (va_runV (As := [.int 0, .int 1]) (rest := []) ⟨hx, hb, hml, hown, hts⟩ (k_X9_good_f l dC dI cB cI cJ cM h0 kd 1 m0 m1 m2 m3 m4 m5 m6 m7 m8 m9 m10 m11 m12 m13 m14 m15 m16 m17 m18 (.ref tp) (.int (nI tn)) m21 m22  s.heap.size) (cwV 2 hts gX9_feed_X9_good rfl rfl rfl (by decide +kernel) ⟨Nat.le_of_ble_eq_true rfl, Nat.le_of_ble_eq_true rfl⟩) ⟨fun a U g mk q => by obtain ⟨q0, q1, qP, qK, qD⟩ := q; exact ⟨q0, q1, qP, va_K.moved (u := U) (U := U.calling g mk a) (Vm.Alike.refl U.vm) qK, qD⟩, va_recv hK hPc (ci := 9) (q0 := 0) rfl rfl, fun U hU hW => ⟨rfl, by rw [hU], by rw [hU]; exact hPc, va_K.moved hW.alike hK, hDc.weaken (fun _ _ _ _ => trivial)⟩⟩ rfl rfl hl.1 rfl (lv_room (Nat.le_of_ble_eq_true rfl)) dX9_feed_20 ⟨(show 0 + 0 ≤ 0 by omega), (show 0 + 0 ≤ 0 by omega)⟩) hS (fun q _ h => hFc q h) hFc (fun r20 u t H1 locs ht hvm hw hB hz1 hk1 hS => ?_)
    have hP1 : va_P (dC, dI) vwCl [(h0, .inr (9, [m0, m1, m2, m3, m4, m5, m6, m7, m8, m9, m10, m11, m12, m13, m14, m15, m16, m17, m18, .ref tp, .int (nI tn), m21, m22, .int 1]))] H1 := by rw [← ht]; exact hB.1
    have hD1 : va_D (va_A [(h0, .inr (9, [m0, m1, m2, m3, m4, m5, m6, m7, m8, m9, m10, m11, m12, m13, m14, m15, m16, m17, m18, .ref tp, .int (nI tn), m21, m22, .int kd]))] s.heap.size) [(h0, .inr (9, [m0, m1, m2, m3, m4, m5, m6, m7, m8, m9, m10, m11, m12, m13, m14, m15, m16, m17, m18, .ref tp, .int (nI tn), m21, m22, .int 1]))] := hB.2.2
    obtain ⟨hP, hD⟩ := va_join (wr := [(tp, .inl (cB, 4000, .inl f))]) (w1 := [(h0, .inr (9, [m0, m1, m2, m3, m4, m5, m6, m7, m8, m9, m10, m11, m12, m13, m14, m15, m16, m17, m18, .ref tp, .int (nI tn), m21, m22, .int 1]))]) hP hD [0] [1] rfl rfl (by decide) (by decide) hk1 hFc hP1 hD1
    generalize H1 = H at hP hS ⊢
    try dsimp only at hw
    have hP : va_P (dC, dI) vwCl [(tp, .inl (cB, 4000, .inl f)), (h0, .inr (9, [m0, m1, m2, m3, m4, m5, m6, m7, m8, m9, m10, m11, m12, m13, m14, m15, m16, m17, m18, .ref tp, .int (nI tn), m21, m22, .int 1]))] H := hP
    have hD : va_D A [(tp, .inl (cB, 4000, .inl f)), (h0, .inr (9, [m0, m1, m2, m3, m4, m5, m6, m7, m8, m9, m10, m11, m12, m13, m14, m15, m16, m17, m18, .ref tp, .int (nI tn), m21, m22, .int 1]))] := hD
    obtain rfl : r20 = 0 := hw
    refine W.eq (g2 := F0 m 23 ls [.int 0]) rfl ?_
    refine lv_if_ne (tgt := 28) hx hb dX9_feed_23 (by decide) (fun c23 => ?_) (fun c23 => ?_)
    · have c23 : ¬ (0 = 0) := fun h => c23 ((nI_eq (a := 0) (b := 0) (by omega) (by omega)).mpr h)
      exfalso; omega
    · have c23 : 0 = 0 := (nI_eq (a := 0) (b := 0) (by omega) (by omega)).mp c23
      refine lv_iconst (v := 0) hx hb dX9_feed_26 (by decide) ?_
      have hP9 := hP.sub (ws' := [(h0, .inr (9, [m0, m1, m2, m3, m4, m5, m6, m7, m8, m9, m10, m11, m12, m13, m14, m15, m16, m17, m18, .ref tp, .int (nI tn), m21, m22, .int 1])), (tp, .inl (cB, 4000, .inl f))]) [1, 0] rfl
      have hD9 := hD.sub (ws' := [(h0, .inr (9, [m0, m1, m2, m3, m4, m5, m6, m7, m8, m9, m10, m11, m12, m13, m14, m15, m16, m17, m18, .ref tp, .int (nI tn), m21, m22, .int 1])), (tp, .inl (cB, 4000, .inl f))]) [1, 0] (by decide) rfl
      exact W.iret (v := 0) hx hb hr (fun t ht hW => ⟨⟨0, (f, tn, 1), rfl, Or.inr ⟨by omega, rfl⟩, ⟨by rw [ht]; exact hP9, va_K.moved hW.alike hK, hD9⟩⟩, hS.F ht⟩) hS.2.2 dX9_feed_27
  · have c11 : ¬ (4000 < (tn + 20)) := fun h => c11 ((nI_ltI (a := 4000) (b := (tn + 20)) (by omega) (by omega)).mpr h)
    refine lv_iconst (v := 1) hx hb dX9_feed_14 (by decide) ?_
    refine lv_goto (tgt := 19) hx hb dX9_feed_15 (by decide) ?_
    refine lv_iconst (v := 1) hx hb dX9_feed_19 (by decide) ?_
    have hPc := hP.sub (ws' := [(h0, .inr (9, [m0, m1, m2, m3, m4, m5, m6, m7, m8, m9, m10, m11, m12, m13, m14, m15, m16, m17, m18, .ref tp, .int (nI tn), m21, m22, .int kd]))]) [0] rfl
    have hDc := hD.sub (ws' := [(h0, .inr (9, [m0, m1, m2, m3, m4, m5, m6, m7, m8, m9, m10, m11, m12, m13, m14, m15, m16, m17, m18, .ref tp, .int (nI tn), m21, m22, .int kd]))]) [0] (by decide) rfl
    have hFc := va_free (wc := [(h0, .inr (9, [m0, m1, m2, m3, m4, m5, m6, m7, m8, m9, m10, m11, m12, m13, m14, m15, m16, m17, m18, .ref tp, .int (nI tn), m21, m22, .int kd]))]) hD hS hA [0] rfl
    refine va_calli (va_runV (As := [.int 1, .int 1]) (rest := []) ⟨hx, hb, hml, hown, hts⟩ (k_X9_good_t l dC dI cB cI cJ cM h0 kd 1 m0 m1 m2 m3 m4 m5 m6 m7 m8 m9 m10 m11 m12 m13 m14 m15 m16 m17 m18 (.ref tp) (.int (nI tn)) m21 m22  s.heap.size) (cwV 2 hts gX9_feed_X9_good rfl rfl rfl (by decide +kernel) ⟨Nat.le_of_ble_eq_true rfl, Nat.le_of_ble_eq_true rfl⟩) ⟨fun a U g mk q => by obtain ⟨q0, q1, qP, qK, qD⟩ := q; exact ⟨q0, q1, qP, va_K.moved (u := U) (U := U.calling g mk a) (Vm.Alike.refl U.vm) qK, qD⟩, va_recv hK hPc (ci := 9) (q0 := 0) rfl rfl, fun U hU hW => ⟨rfl, by rw [hU], by rw [hU]; exact hPc, va_K.moved hW.alike hK, hDc.weaken (fun _ _ _ _ => trivial)⟩⟩ rfl rfl hl.1 rfl (lv_room (Nat.le_of_ble_eq_true rfl)) dX9_feed_20 ⟨(show 0 + 0 ≤ 0 by omega), (show 0 + 0 ≤ 0 by omega)⟩) hS (fun q _ h => hFc q h) hFc (fun r20 u t H1 locs ht hvm hw hB hz1 hk1 hS => ?_)
    have hP1 : va_P (dC, dI) vwCl [(h0, .inr (9, [m0, m1, m2, m3, m4, m5, m6, m7, m8, m9, m10, m11, m12, m13, m14, m15, m16, m17, m18, .ref tp, .int (nI tn), m21, m22, .int 0]))] H1 := by rw [← ht]; exact hB.1
    have hD1 : va_D (va_A [(h0, .inr (9, [m0, m1, m2, m3, m4, m5, m6, m7, m8, m9, m10, m11, m12, m13, m14, m15, m16, m17, m18, .ref tp, .int (nI tn), m21, m22, .int kd]))] s.heap.size) [(h0, .inr (9, [m0, m1, m2, m3, m4, m5, m6, m7, m8, m9, m10, m11, m12, m13, m14, m15, m16, m17, m18, .ref tp, .int (nI tn), m21, m22, .int 0]))] := hB.2.2
    obtain ⟨hP, hD⟩ := va_join (wr := [(tp, .inl (cB, 4000, .inl f))]) (w1 := [(h0, .inr (9, [m0, m1, m2, m3, m4, m5, m6, m7, m8, m9, m10, m11, m12, m13, m14, m15, m16, m17, m18, .ref tp, .int (nI tn), m21, m22, .int 0]))]) hP hD [0] [1] rfl rfl (by decide) (by decide) hk1 hFc hP1 hD1
    generalize H1 = H at hP hS ⊢
    try dsimp only at hw
    have hP : va_P (dC, dI) vwCl [(tp, .inl (cB, 4000, .inl f)), (h0, .inr (9, [m0, m1, m2, m3, m4, m5, m6, m7, m8, m9, m10, m11, m12, m13, m14, m15, m16, m17, m18, .ref tp, .int (nI tn), m21, m22, .int 0]))] H := hP
    have hD : va_D A [(tp, .inl (cB, 4000, .inl f)), (h0, .inr (9, [m0, m1, m2, m3, m4, m5, m6, m7, m8, m9, m10, m11, m12, m13, m14, m15, m16, m17, m18, .ref tp, .int (nI tn), m21, m22, .int 0]))] := hD
    obtain rfl : r20 = 1 := hw
    refine W.eq (g2 := F0 m 23 ls [.int 1]) rfl ?_
    refine lv_if_ne (tgt := 28) hx hb dX9_feed_23 (by decide) (fun c23 => ?_) (fun c23 => ?_)
    · have c23 : ¬ (1 = 0) := fun h => c23 ((nI_eq (a := 1) (b := 0) (by omega) (by omega)).mpr h)
      refine lv_aload_n hx hb dX9_feed_28 rfl (lv_at hl 0 rfl) ?_
      refine lv_iload_n hx hb dX9_feed_29 rfl (lv_at hl 1 rfl) ?_
      have hPc := hP.sub (ws' := [(h0, .inr (9, [m0, m1, m2, m3, m4, m5, m6, m7, m8, m9, m10, m11, m12, m13, m14, m15, m16, m17, m18, .ref tp, .int (nI tn), m21, m22, .int 0])), (tp, .inl (cB, 4000, .inl f))]) [1, 0] rfl
      have hDc := hD.sub (ws' := [(h0, .inr (9, [m0, m1, m2, m3, m4, m5, m6, m7, m8, m9, m10, m11, m12, m13, m14, m15, m16, m17, m18, .ref tp, .int (nI tn), m21, m22, .int 0])), (tp, .inl (cB, 4000, .inl f))]) [1, 0] (by decide) rfl
      have hFc := va_free (wc := [(h0, .inr (9, [m0, m1, m2, m3, m4, m5, m6, m7, m8, m9, m10, m11, m12, m13, m14, m15, m16, m17, m18, .ref tp, .int (nI tn), m21, m22, .int 0])), (tp, .inl (cB, 4000, .inl f))]) hD hS hA [1, 0] rfl
      refine va_callv (va_runV (As := [.int x1]) (rest := []) ⟨hx, hb, hml, hown, hts⟩ (k_X9_four l dC dI cB cI cJ cM h0 tp f tn x1 m0 m1 m2 m3 m4 m5 m6 m7 m8 m9 m10 m11 m12 m13 m14 m15 m16 m17 m18 m21 m22 (.int 0) (by omega) H.size) (cwV 1 hts gX9_feed_X9_four rfl rfl rfl (by decide +kernel) ⟨Nat.le_of_ble_eq_true rfl, Nat.le_of_ble_eq_true rfl⟩) ⟨fun a U g mk q => by obtain ⟨q0, q1, qP, qK, qD⟩ := q; exact ⟨q0, q1, qP, va_K.moved (u := U) (U := U.calling g mk a) (Vm.Alike.refl U.vm) qK, qD⟩, va_recv hK hPc (ci := 9) (q0 := 0) rfl rfl, fun U hU hW => ⟨rfl, by rw [hU], by rw [hU]; exact hPc, va_K.moved hW.alike hK, hDc.weaken (fun _ _ _ _ => trivial)⟩⟩ rfl rfl hl.1 rfl (lv_room (Nat.le_of_ble_eq_true rfl)) dX9_feed_30 ⟨(show 0 + 0 ≤ 0 by omega), (show 0 + 0 ≤ 0 by omega)⟩) hS (fun q _ h => hFc q h) hFc (fun u t H1 locs ht hvm hw hB hz1 hk1 hS => ?_)
      have hP1 : va_P (dC, dI) vwCl [(h0, .inr (9, [m0, m1, m2, m3, m4, m5, m6, m7, m8, m9, m10, m11, m12, m13, m14, m15, m16, m17, m18, .ref tp, .int (nI (tn + 4)), m21, m22, .int 0])), (tp, .inl (cB, 4000, .inl (zap4 f tn x1)))] H1 := by rw [← ht]; exact hB.1
      have hD1 : va_D (va_A [(h0, .inr (9, [m0, m1, m2, m3, m4, m5, m6, m7, m8, m9, m10, m11, m12, m13, m14, m15, m16, m17, m18, .ref tp, .int (nI tn), m21, m22, .int 0])), (tp, .inl (cB, 4000, .inl f))] H.size) [(h0, .inr (9, [m0, m1, m2, m3, m4, m5, m6, m7, m8, m9, m10, m11, m12, m13, m14, m15, m16, m17, m18, .ref tp, .int (nI (tn + 4)), m21, m22, .int 0])), (tp, .inl (cB, 4000, .inl (zap4 f tn x1)))] := hB.2.2
      obtain ⟨hP, hD⟩ := va_join (wr := []) (w1 := [(h0, .inr (9, [m0, m1, m2, m3, m4, m5, m6, m7, m8, m9, m10, m11, m12, m13, m14, m15, m16, m17, m18, .ref tp, .int (nI (tn + 4)), m21, m22, .int 0])), (tp, .inl (cB, 4000, .inl (zap4 f tn x1)))]) hP hD [1, 0] [] rfl rfl (by decide) (by decide) hk1 hFc hP1 hD1
      generalize H1 = H at hP hS ⊢
      try dsimp only at hw
      have hP : va_P (dC, dI) vwCl [(h0, .inr (9, [m0, m1, m2, m3, m4, m5, m6, m7, m8, m9, m10, m11, m12, m13, m14, m15, m16, m17, m18, .ref tp, .int (nI (tn + 4)), m21, m22, .int 0])), (tp, .inl (cB, 4000, .inl (zap4 f tn x1)))] H := hP
      have hD : va_D A [(h0, .inr (9, [m0, m1, m2, m3, m4, m5, m6, m7, m8, m9, m10, m11, m12, m13, m14, m15, m16, m17, m18, .ref tp, .int (nI (tn + 4)), m21, m22, .int 0])), (tp, .inl (cB, 4000, .inl (zap4 f tn x1)))] := hD
      refine W.eq (g2 := F0 m 33 ls []) rfl ?_
      refine lv_aload_n hx hb dX9_feed_33 rfl (lv_at hl 0 rfl) ?_
      refine lv_iload_n hx hb dX9_feed_34 rfl (lv_at hl 2 rfl) ?_
      have hPc := hP.sub (ws' := [(h0, .inr (9, [m0, m1, m2, m3, m4, m5, m6, m7, m8, m9, m10, m11, m12, m13, m14, m15, m16, m17, m18, .ref tp, .int (nI (tn + 4)), m21, m22, .int 0])), (tp, .inl (cB, 4000, .inl (zap4 f tn x1)))]) [0, 1] rfl
      have hDc := hD.sub (ws' := [(h0, .inr (9, [m0, m1, m2, m3, m4, m5, m6, m7, m8, m9, m10, m11, m12, m13, m14, m15, m16, m17, m18, .ref tp, .int (nI (tn + 4)), m21, m22, .int 0])), (tp, .inl (cB, 4000, .inl (zap4 f tn x1)))]) [0, 1] (by decide) rfl
      have hFc := va_free (wc := [(h0, .inr (9, [m0, m1, m2, m3, m4, m5, m6, m7, m8, m9, m10, m11, m12, m13, m14, m15, m16, m17, m18, .ref tp, .int (nI (tn + 4)), m21, m22, .int 0])), (tp, .inl (cB, 4000, .inl (zap4 f tn x1)))]) hD hS hA [0, 1] rfl
      refine va_callv (va_runV (As := [.int x2]) (rest := []) ⟨hx, hb, hml, hown, hts⟩ (k_X9_four l dC dI cB cI cJ cM h0 tp (zap4 f tn x1) (tn + 4) x2 m0 m1 m2 m3 m4 m5 m6 m7 m8 m9 m10 m11 m12 m13 m14 m15 m16 m17 m18 m21 m22 (.int 0) (by omega) H.size) (cwV 1 hts gX9_feed_X9_four rfl rfl rfl (by decide +kernel) ⟨Nat.le_of_ble_eq_true rfl, Nat.le_of_ble_eq_true rfl⟩) ⟨fun a U g mk q => by obtain ⟨q0, q1, qP, qK, qD⟩ := q; exact ⟨q0, q1, qP, va_K.moved (u := U) (U := U.calling g mk a) (Vm.Alike.refl U.vm) qK, qD⟩, va_recv hK hPc (ci := 9) (q0 := 0) rfl rfl, fun U hU hW => ⟨rfl, by rw [hU], by rw [hU]; exact hPc, va_K.moved hW.alike hK, hDc.weaken (fun _ _ _ _ => trivial)⟩⟩ rfl rfl hl.1 rfl (lv_room (Nat.le_of_ble_eq_true rfl)) dX9_feed_35 ⟨(show 0 + 0 ≤ 0 by omega), (show 0 + 0 ≤ 0 by omega)⟩) hS (fun q _ h => hFc q h) hFc (fun u t H1 locs ht hvm hw hB hz1 hk1 hS => ?_)
      have hP1 : va_P (dC, dI) vwCl [(h0, .inr (9, [m0, m1, m2, m3, m4, m5, m6, m7, m8, m9, m10, m11, m12, m13, m14, m15, m16, m17, m18, .ref tp, .int (nI ((tn + 4) + 4)), m21, m22, .int 0])), (tp, .inl (cB, 4000, .inl (zap4 (zap4 f tn x1) (tn + 4) x2)))] H1 := by rw [← ht]; exact hB.1
      have hD1 : va_D (va_A [(h0, .inr (9, [m0, m1, m2, m3, m4, m5, m6, m7, m8, m9, m10, m11, m12, m13, m14, m15, m16, m17, m18, .ref tp, .int (nI (tn + 4)), m21, m22, .int 0])), (tp, .inl (cB, 4000, .inl (zap4 f tn x1)))] H.size) [(h0, .inr (9, [m0, m1, m2, m3, m4, m5, m6, m7, m8, m9, m10, m11, m12, m13, m14, m15, m16, m17, m18, .ref tp, .int (nI ((tn + 4) + 4)), m21, m22, .int 0])), (tp, .inl (cB, 4000, .inl (zap4 (zap4 f tn x1) (tn + 4) x2)))] := hB.2.2
      obtain ⟨hP, hD⟩ := va_join (wr := []) (w1 := [(h0, .inr (9, [m0, m1, m2, m3, m4, m5, m6, m7, m8, m9, m10, m11, m12, m13, m14, m15, m16, m17, m18, .ref tp, .int (nI ((tn + 4) + 4)), m21, m22, .int 0])), (tp, .inl (cB, 4000, .inl (zap4 (zap4 f tn x1) (tn + 4) x2)))]) hP hD [0, 1] [] rfl rfl (by decide) (by decide) hk1 hFc hP1 hD1
      generalize H1 = H at hP hS ⊢
      try dsimp only at hw
      have hP : va_P (dC, dI) vwCl [(h0, .inr (9, [m0, m1, m2, m3, m4, m5, m6, m7, m8, m9, m10, m11, m12, m13, m14, m15, m16, m17, m18, .ref tp, .int (nI ((tn + 4) + 4)), m21, m22, .int 0])), (tp, .inl (cB, 4000, .inl (zap4 (zap4 f tn x1) (tn + 4) x2)))] H := hP
      have hD : va_D A [(h0, .inr (9, [m0, m1, m2, m3, m4, m5, m6, m7, m8, m9, m10, m11, m12, m13, m14, m15, m16, m17, m18, .ref tp, .int (nI ((tn + 4) + 4)), m21, m22, .int 0])), (tp, .inl (cB, 4000, .inl (zap4 (zap4 f tn x1) (tn + 4) x2)))] := hD
      have e9 : (tn + 4) + 4 = tn + 8 := by omega
      rw [e9] at hP hD
      have hP : va_P (dC, dI) vwCl [(h0, .inr (9, [m0, m1, m2, m3, m4, m5, m6, m7, m8, m9, m10, m11, m12, m13, m14, m15, m16, m17, m18, .ref tp, .int (nI (tn + 8)), m21, m22, .int 0])), (tp, .inl (cB, 4000, .inl (zap4 (zap4 f tn x1) (tn + 4) x2)))] H := hP
      have hD : va_D A [(h0, .inr (9, [m0, m1, m2, m3, m4, m5, m6, m7, m8, m9, m10, m11, m12, m13, m14, m15, m16, m17, m18, .ref tp, .int (nI (tn + 8)), m21, m22, .int 0])), (tp, .inl (cB, 4000, .inl (zap4 (zap4 f tn x1) (tn + 4) x2)))] := hD
      refine W.eq (g2 := F0 m 38 ls []) rfl ?_
      refine lv_aload_n hx hb dX9_feed_38 rfl (lv_at hl 0 rfl) ?_
      refine lv_iload_n hx hb dX9_feed_39 rfl (lv_at hl 3 rfl) ?_
      have hPc := hP.sub (ws' := [(h0, .inr (9, [m0, m1, m2, m3, m4, m5, m6, m7, m8, m9, m10, m11, m12, m13, m14, m15, m16, m17, m18, .ref tp, .int (nI (tn + 8)), m21, m22, .int 0])), (tp, .inl (cB, 4000, .inl (zap4 (zap4 f tn x1) (tn + 4) x2)))]) [0, 1] rfl
      have hDc := hD.sub (ws' := [(h0, .inr (9, [m0, m1, m2, m3, m4, m5, m6, m7, m8, m9, m10, m11, m12, m13, m14, m15, m16, m17, m18, .ref tp, .int (nI (tn + 8)), m21, m22, .int 0])), (tp, .inl (cB, 4000, .inl (zap4 (zap4 f tn x1) (tn + 4) x2)))]) [0, 1] (by decide) rfl
      have hFc := va_free (wc := [(h0, .inr (9, [m0, m1, m2, m3, m4, m5, m6, m7, m8, m9, m10, m11, m12, m13, m14, m15, m16, m17, m18, .ref tp, .int (nI (tn + 8)), m21, m22, .int 0])), (tp, .inl (cB, 4000, .inl (zap4 (zap4 f tn x1) (tn + 4) x2)))]) hD hS hA [0, 1] rfl
      refine va_callv (va_runV (As := [.int x3]) (rest := []) ⟨hx, hb, hml, hown, hts⟩ (k_X9_four l dC dI cB cI cJ cM h0 tp (zap4 (zap4 f tn x1) (tn + 4) x2) (tn + 8) x3 m0 m1 m2 m3 m4 m5 m6 m7 m8 m9 m10 m11 m12 m13 m14 m15 m16 m17 m18 m21 m22 (.int 0) (by omega) H.size) (cwV 1 hts gX9_feed_X9_four rfl rfl rfl (by decide +kernel) ⟨Nat.le_of_ble_eq_true rfl, Nat.le_of_ble_eq_true rfl⟩) ⟨fun a U g mk q => by obtain ⟨q0, q1, qP, qK, qD⟩ := q; exact ⟨q0, q1, qP, va_K.moved (u := U) (U := U.calling g mk a) (Vm.Alike.refl U.vm) qK, qD⟩, va_recv hK hPc (ci := 9) (q0 := 0) rfl rfl, fun U hU hW => ⟨rfl, by rw [hU], by rw [hU]; exact hPc, va_K.moved hW.alike hK, hDc.weaken (fun _ _ _ _ => trivial)⟩⟩ rfl rfl hl.1 rfl (lv_room (Nat.le_of_ble_eq_true rfl)) dX9_feed_40 ⟨(show 0 + 0 ≤ 0 by omega), (show 0 + 0 ≤ 0 by omega)⟩) hS (fun q _ h => hFc q h) hFc (fun u t H1 locs ht hvm hw hB hz1 hk1 hS => ?_)
      have hP1 : va_P (dC, dI) vwCl [(h0, .inr (9, [m0, m1, m2, m3, m4, m5, m6, m7, m8, m9, m10, m11, m12, m13, m14, m15, m16, m17, m18, .ref tp, .int (nI ((tn + 8) + 4)), m21, m22, .int 0])), (tp, .inl (cB, 4000, .inl (zap4 (zap4 (zap4 f tn x1) (tn + 4) x2) (tn + 8) x3)))] H1 := by rw [← ht]; exact hB.1
      have hD1 : va_D (va_A [(h0, .inr (9, [m0, m1, m2, m3, m4, m5, m6, m7, m8, m9, m10, m11, m12, m13, m14, m15, m16, m17, m18, .ref tp, .int (nI (tn + 8)), m21, m22, .int 0])), (tp, .inl (cB, 4000, .inl (zap4 (zap4 f tn x1) (tn + 4) x2)))] H.size) [(h0, .inr (9, [m0, m1, m2, m3, m4, m5, m6, m7, m8, m9, m10, m11, m12, m13, m14, m15, m16, m17, m18, .ref tp, .int (nI ((tn + 8) + 4)), m21, m22, .int 0])), (tp, .inl (cB, 4000, .inl (zap4 (zap4 (zap4 f tn x1) (tn + 4) x2) (tn + 8) x3)))] := hB.2.2
      obtain ⟨hP, hD⟩ := va_join (wr := []) (w1 := [(h0, .inr (9, [m0, m1, m2, m3, m4, m5, m6, m7, m8, m9, m10, m11, m12, m13, m14, m15, m16, m17, m18, .ref tp, .int (nI ((tn + 8) + 4)), m21, m22, .int 0])), (tp, .inl (cB, 4000, .inl (zap4 (zap4 (zap4 f tn x1) (tn + 4) x2) (tn + 8) x3)))]) hP hD [0, 1] [] rfl rfl (by decide) (by decide) hk1 hFc hP1 hD1
      generalize H1 = H at hP hS ⊢
      try dsimp only at hw
      have hP : va_P (dC, dI) vwCl [(h0, .inr (9, [m0, m1, m2, m3, m4, m5, m6, m7, m8, m9, m10, m11, m12, m13, m14, m15, m16, m17, m18, .ref tp, .int (nI ((tn + 8) + 4)), m21, m22, .int 0])), (tp, .inl (cB, 4000, .inl (zap4 (zap4 (zap4 f tn x1) (tn + 4) x2) (tn + 8) x3)))] H := hP
      have hD : va_D A [(h0, .inr (9, [m0, m1, m2, m3, m4, m5, m6, m7, m8, m9, m10, m11, m12, m13, m14, m15, m16, m17, m18, .ref tp, .int (nI ((tn + 8) + 4)), m21, m22, .int 0])), (tp, .inl (cB, 4000, .inl (zap4 (zap4 (zap4 f tn x1) (tn + 4) x2) (tn + 8) x3)))] := hD
      have e9 : (tn + 8) + 4 = tn + 12 := by omega
      rw [e9] at hP hD
      have hP : va_P (dC, dI) vwCl [(h0, .inr (9, [m0, m1, m2, m3, m4, m5, m6, m7, m8, m9, m10, m11, m12, m13, m14, m15, m16, m17, m18, .ref tp, .int (nI (tn + 12)), m21, m22, .int 0])), (tp, .inl (cB, 4000, .inl (zap4 (zap4 (zap4 f tn x1) (tn + 4) x2) (tn + 8) x3)))] H := hP
      have hD : va_D A [(h0, .inr (9, [m0, m1, m2, m3, m4, m5, m6, m7, m8, m9, m10, m11, m12, m13, m14, m15, m16, m17, m18, .ref tp, .int (nI (tn + 12)), m21, m22, .int 0])), (tp, .inl (cB, 4000, .inl (zap4 (zap4 (zap4 f tn x1) (tn + 4) x2) (tn + 8) x3)))] := hD
      refine W.eq (g2 := F0 m 43 ls []) rfl ?_
      refine lv_aload_n hx hb dX9_feed_43 rfl (lv_at hl 0 rfl) ?_
      refine lv_iload hx hb dX9_feed_44 (lv_at hl 4 rfl) ?_
      have hPc := hP.sub (ws' := [(h0, .inr (9, [m0, m1, m2, m3, m4, m5, m6, m7, m8, m9, m10, m11, m12, m13, m14, m15, m16, m17, m18, .ref tp, .int (nI (tn + 12)), m21, m22, .int 0])), (tp, .inl (cB, 4000, .inl (zap4 (zap4 (zap4 f tn x1) (tn + 4) x2) (tn + 8) x3)))]) [0, 1] rfl
      have hDc := hD.sub (ws' := [(h0, .inr (9, [m0, m1, m2, m3, m4, m5, m6, m7, m8, m9, m10, m11, m12, m13, m14, m15, m16, m17, m18, .ref tp, .int (nI (tn + 12)), m21, m22, .int 0])), (tp, .inl (cB, 4000, .inl (zap4 (zap4 (zap4 f tn x1) (tn + 4) x2) (tn + 8) x3)))]) [0, 1] (by decide) rfl
      have hFc := va_free (wc := [(h0, .inr (9, [m0, m1, m2, m3, m4, m5, m6, m7, m8, m9, m10, m11, m12, m13, m14, m15, m16, m17, m18, .ref tp, .int (nI (tn + 12)), m21, m22, .int 0])), (tp, .inl (cB, 4000, .inl (zap4 (zap4 (zap4 f tn x1) (tn + 4) x2) (tn + 8) x3)))]) hD hS hA [0, 1] rfl
      refine va_callv (va_runV (As := [.int x4]) (rest := []) ⟨hx, hb, hml, hown, hts⟩ (k_X9_four l dC dI cB cI cJ cM h0 tp (zap4 (zap4 (zap4 f tn x1) (tn + 4) x2) (tn + 8) x3) (tn + 12) x4 m0 m1 m2 m3 m4 m5 m6 m7 m8 m9 m10 m11 m12 m13 m14 m15 m16 m17 m18 m21 m22 (.int 0) (by omega) H.size) (cwV 1 hts gX9_feed_X9_four rfl rfl rfl (by decide +kernel) ⟨Nat.le_of_ble_eq_true rfl, Nat.le_of_ble_eq_true rfl⟩) ⟨fun a U g mk q => by obtain ⟨q0, q1, qP, qK, qD⟩ := q; exact ⟨q0, q1, qP, va_K.moved (u := U) (U := U.calling g mk a) (Vm.Alike.refl U.vm) qK, qD⟩, va_recv hK hPc (ci := 9) (q0 := 0) rfl rfl, fun U hU hW => ⟨rfl, by rw [hU], by rw [hU]; exact hPc, va_K.moved hW.alike hK, hDc.weaken (fun _ _ _ _ => trivial)⟩⟩ rfl rfl hl.1 rfl (lv_room (Nat.le_of_ble_eq_true rfl)) dX9_feed_46 ⟨(show 0 + 0 ≤ 0 by omega), (show 0 + 0 ≤ 0 by omega)⟩) hS (fun q _ h => hFc q h) hFc (fun u t H1 locs ht hvm hw hB hz1 hk1 hS => ?_)
      have hP1 : va_P (dC, dI) vwCl [(h0, .inr (9, [m0, m1, m2, m3, m4, m5, m6, m7, m8, m9, m10, m11, m12, m13, m14, m15, m16, m17, m18, .ref tp, .int (nI ((tn + 12) + 4)), m21, m22, .int 0])), (tp, .inl (cB, 4000, .inl (zap4 (zap4 (zap4 (zap4 f tn x1) (tn + 4) x2) (tn + 8) x3) (tn + 12) x4)))] H1 := by rw [← ht]; exact hB.1
      have hD1 : va_D (va_A [(h0, .inr (9, [m0, m1, m2, m3, m4, m5, m6, m7, m8, m9, m10, m11, m12, m13, m14, m15, m16, m17, m18, .ref tp, .int (nI (tn + 12)), m21, m22, .int 0])), (tp, .inl (cB, 4000, .inl (zap4 (zap4 (zap4 f tn x1) (tn + 4) x2) (tn + 8) x3)))] H.size) [(h0, .inr (9, [m0, m1, m2, m3, m4, m5, m6, m7, m8, m9, m10, m11, m12, m13, m14, m15, m16, m17, m18, .ref tp, .int (nI ((tn + 12) + 4)), m21, m22, .int 0])), (tp, .inl (cB, 4000, .inl (zap4 (zap4 (zap4 (zap4 f tn x1) (tn + 4) x2) (tn + 8) x3) (tn + 12) x4)))] := hB.2.2
      obtain ⟨hP, hD⟩ := va_join (wr := []) (w1 := [(h0, .inr (9, [m0, m1, m2, m3, m4, m5, m6, m7, m8, m9, m10, m11, m12, m13, m14, m15, m16, m17, m18, .ref tp, .int (nI ((tn + 12) + 4)), m21, m22, .int 0])), (tp, .inl (cB, 4000, .inl (zap4 (zap4 (zap4 (zap4 f tn x1) (tn + 4) x2) (tn + 8) x3) (tn + 12) x4)))]) hP hD [0, 1] [] rfl rfl (by decide) (by decide) hk1 hFc hP1 hD1
      generalize H1 = H at hP hS ⊢
      try dsimp only at hw
      have hP : va_P (dC, dI) vwCl [(h0, .inr (9, [m0, m1, m2, m3, m4, m5, m6, m7, m8, m9, m10, m11, m12, m13, m14, m15, m16, m17, m18, .ref tp, .int (nI ((tn + 12) + 4)), m21, m22, .int 0])), (tp, .inl (cB, 4000, .inl (zap4 (zap4 (zap4 (zap4 f tn x1) (tn + 4) x2) (tn + 8) x3) (tn + 12) x4)))] H := hP
      have hD : va_D A [(h0, .inr (9, [m0, m1, m2, m3, m4, m5, m6, m7, m8, m9, m10, m11, m12, m13, m14, m15, m16, m17, m18, .ref tp, .int (nI ((tn + 12) + 4)), m21, m22, .int 0])), (tp, .inl (cB, 4000, .inl (zap4 (zap4 (zap4 (zap4 f tn x1) (tn + 4) x2) (tn + 8) x3) (tn + 12) x4)))] := hD
      have e9 : (tn + 12) + 4 = tn + 16 := by omega
      rw [e9] at hP hD
      have hP : va_P (dC, dI) vwCl [(h0, .inr (9, [m0, m1, m2, m3, m4, m5, m6, m7, m8, m9, m10, m11, m12, m13, m14, m15, m16, m17, m18, .ref tp, .int (nI (tn + 16)), m21, m22, .int 0])), (tp, .inl (cB, 4000, .inl (zap4 (zap4 (zap4 (zap4 f tn x1) (tn + 4) x2) (tn + 8) x3) (tn + 12) x4)))] H := hP
      have hD : va_D A [(h0, .inr (9, [m0, m1, m2, m3, m4, m5, m6, m7, m8, m9, m10, m11, m12, m13, m14, m15, m16, m17, m18, .ref tp, .int (nI (tn + 16)), m21, m22, .int 0])), (tp, .inl (cB, 4000, .inl (zap4 (zap4 (zap4 (zap4 f tn x1) (tn + 4) x2) (tn + 8) x3) (tn + 12) x4)))] := hD
      refine W.eq (g2 := F0 m 49 ls []) rfl ?_
      refine lv_aload_n hx hb dX9_feed_49 rfl (lv_at hl 0 rfl) ?_
      refine lv_iload hx hb dX9_feed_50 (lv_at hl 5 rfl) ?_
      have hPc := hP.sub (ws' := [(h0, .inr (9, [m0, m1, m2, m3, m4, m5, m6, m7, m8, m9, m10, m11, m12, m13, m14, m15, m16, m17, m18, .ref tp, .int (nI (tn + 16)), m21, m22, .int 0])), (tp, .inl (cB, 4000, .inl (zap4 (zap4 (zap4 (zap4 f tn x1) (tn + 4) x2) (tn + 8) x3) (tn + 12) x4)))]) [0, 1] rfl
      have hDc := hD.sub (ws' := [(h0, .inr (9, [m0, m1, m2, m3, m4, m5, m6, m7, m8, m9, m10, m11, m12, m13, m14, m15, m16, m17, m18, .ref tp, .int (nI (tn + 16)), m21, m22, .int 0])), (tp, .inl (cB, 4000, .inl (zap4 (zap4 (zap4 (zap4 f tn x1) (tn + 4) x2) (tn + 8) x3) (tn + 12) x4)))]) [0, 1] (by decide) rfl
      have hFc := va_free (wc := [(h0, .inr (9, [m0, m1, m2, m3, m4, m5, m6, m7, m8, m9, m10, m11, m12, m13, m14, m15, m16, m17, m18, .ref tp, .int (nI (tn + 16)), m21, m22, .int 0])), (tp, .inl (cB, 4000, .inl (zap4 (zap4 (zap4 (zap4 f tn x1) (tn + 4) x2) (tn + 8) x3) (tn + 12) x4)))]) hD hS hA [0, 1] rfl
      refine va_callv (va_runV (As := [.int x5]) (rest := []) ⟨hx, hb, hml, hown, hts⟩ (k_X9_four l dC dI cB cI cJ cM h0 tp (zap4 (zap4 (zap4 (zap4 f tn x1) (tn + 4) x2) (tn + 8) x3) (tn + 12) x4) (tn + 16) x5 m0 m1 m2 m3 m4 m5 m6 m7 m8 m9 m10 m11 m12 m13 m14 m15 m16 m17 m18 m21 m22 (.int 0) (by omega) H.size) (cwV 1 hts gX9_feed_X9_four rfl rfl rfl (by decide +kernel) ⟨Nat.le_of_ble_eq_true rfl, Nat.le_of_ble_eq_true rfl⟩) ⟨fun a U g mk q => by obtain ⟨q0, q1, qP, qK, qD⟩ := q; exact ⟨q0, q1, qP, va_K.moved (u := U) (U := U.calling g mk a) (Vm.Alike.refl U.vm) qK, qD⟩, va_recv hK hPc (ci := 9) (q0 := 0) rfl rfl, fun U hU hW => ⟨rfl, by rw [hU], by rw [hU]; exact hPc, va_K.moved hW.alike hK, hDc.weaken (fun _ _ _ _ => trivial)⟩⟩ rfl rfl hl.1 rfl (lv_room (Nat.le_of_ble_eq_true rfl)) dX9_feed_52 ⟨(show 0 + 0 ≤ 0 by omega), (show 0 + 0 ≤ 0 by omega)⟩) hS (fun q _ h => hFc q h) hFc (fun u t H1 locs ht hvm hw hB hz1 hk1 hS => ?_)
      have hP1 : va_P (dC, dI) vwCl [(h0, .inr (9, [m0, m1, m2, m3, m4, m5, m6, m7, m8, m9, m10, m11, m12, m13, m14, m15, m16, m17, m18, .ref tp, .int (nI ((tn + 16) + 4)), m21, m22, .int 0])), (tp, .inl (cB, 4000, .inl (zap4 (zap4 (zap4 (zap4 (zap4 f tn x1) (tn + 4) x2) (tn + 8) x3) (tn + 12) x4) (tn + 16) x5)))] H1 := by rw [← ht]; exact hB.1
      have hD1 : va_D (va_A [(h0, .inr (9, [m0, m1, m2, m3, m4, m5, m6, m7, m8, m9, m10, m11, m12, m13, m14, m15, m16, m17, m18, .ref tp, .int (nI (tn + 16)), m21, m22, .int 0])), (tp, .inl (cB, 4000, .inl (zap4 (zap4 (zap4 (zap4 f tn x1) (tn + 4) x2) (tn + 8) x3) (tn + 12) x4)))] H.size) [(h0, .inr (9, [m0, m1, m2, m3, m4, m5, m6, m7, m8, m9, m10, m11, m12, m13, m14, m15, m16, m17, m18, .ref tp, .int (nI ((tn + 16) + 4)), m21, m22, .int 0])), (tp, .inl (cB, 4000, .inl (zap4 (zap4 (zap4 (zap4 (zap4 f tn x1) (tn + 4) x2) (tn + 8) x3) (tn + 12) x4) (tn + 16) x5)))] := hB.2.2
      obtain ⟨hP, hD⟩ := va_join (wr := []) (w1 := [(h0, .inr (9, [m0, m1, m2, m3, m4, m5, m6, m7, m8, m9, m10, m11, m12, m13, m14, m15, m16, m17, m18, .ref tp, .int (nI ((tn + 16) + 4)), m21, m22, .int 0])), (tp, .inl (cB, 4000, .inl (zap4 (zap4 (zap4 (zap4 (zap4 f tn x1) (tn + 4) x2) (tn + 8) x3) (tn + 12) x4) (tn + 16) x5)))]) hP hD [0, 1] [] rfl rfl (by decide) (by decide) hk1 hFc hP1 hD1
      generalize H1 = H at hP hS ⊢
      try dsimp only at hw
      have hP : va_P (dC, dI) vwCl [(h0, .inr (9, [m0, m1, m2, m3, m4, m5, m6, m7, m8, m9, m10, m11, m12, m13, m14, m15, m16, m17, m18, .ref tp, .int (nI ((tn + 16) + 4)), m21, m22, .int 0])), (tp, .inl (cB, 4000, .inl (zap4 (zap4 (zap4 (zap4 (zap4 f tn x1) (tn + 4) x2) (tn + 8) x3) (tn + 12) x4) (tn + 16) x5)))] H := hP
      have hD : va_D A [(h0, .inr (9, [m0, m1, m2, m3, m4, m5, m6, m7, m8, m9, m10, m11, m12, m13, m14, m15, m16, m17, m18, .ref tp, .int (nI ((tn + 16) + 4)), m21, m22, .int 0])), (tp, .inl (cB, 4000, .inl (zap4 (zap4 (zap4 (zap4 (zap4 f tn x1) (tn + 4) x2) (tn + 8) x3) (tn + 12) x4) (tn + 16) x5)))] := hD
      have e9 : (tn + 16) + 4 = tn + 20 := by omega
      rw [e9] at hP hD
      have hP : va_P (dC, dI) vwCl [(h0, .inr (9, [m0, m1, m2, m3, m4, m5, m6, m7, m8, m9, m10, m11, m12, m13, m14, m15, m16, m17, m18, .ref tp, .int (nI (tn + 20)), m21, m22, .int 0])), (tp, .inl (cB, 4000, .inl (zap4 (zap4 (zap4 (zap4 (zap4 f tn x1) (tn + 4) x2) (tn + 8) x3) (tn + 12) x4) (tn + 16) x5)))] H := hP
      have hD : va_D A [(h0, .inr (9, [m0, m1, m2, m3, m4, m5, m6, m7, m8, m9, m10, m11, m12, m13, m14, m15, m16, m17, m18, .ref tp, .int (nI (tn + 20)), m21, m22, .int 0])), (tp, .inl (cB, 4000, .inl (zap4 (zap4 (zap4 (zap4 (zap4 f tn x1) (tn + 4) x2) (tn + 8) x3) (tn + 12) x4) (tn + 16) x5)))] := hD
      refine W.eq (g2 := F0 m 55 ls []) rfl ?_
      refine lv_aload_n hx hb dX9_feed_55 rfl (lv_at hl 0 rfl) ?_
      refine va_get (D := (dC, dI)) (ci := 9) (v := .int (nI (tn + 20))) (C := RX9) (T := TX9) (N := 24) hx hb hts (by decide +kernel) hown hK hP 0 rfl rfl 20 (by decide) (hts (.fieldLink RX9 153 "FixedPressModel" "taped" "I") (by decide +kernel)) (fun _ h9 => h9) rfl dX9_feed_56 ?_
      have hP9 := hP.sub (ws' := [(h0, .inr (9, [m0, m1, m2, m3, m4, m5, m6, m7, m8, m9, m10, m11, m12, m13, m14, m15, m16, m17, m18, .ref tp, .int (nI (tn + 20)), m21, m22, .int 0])), (tp, .inl (cB, 4000, .inl (zap4 (zap4 (zap4 (zap4 (zap4 f tn x1) (tn + 4) x2) (tn + 8) x3) (tn + 12) x4) (tn + 16) x5)))]) [0, 1] rfl
      have hD9 := hD.sub (ws' := [(h0, .inr (9, [m0, m1, m2, m3, m4, m5, m6, m7, m8, m9, m10, m11, m12, m13, m14, m15, m16, m17, m18, .ref tp, .int (nI (tn + 20)), m21, m22, .int 0])), (tp, .inl (cB, 4000, .inl (zap4 (zap4 (zap4 (zap4 (zap4 f tn x1) (tn + 4) x2) (tn + 8) x3) (tn + 12) x4) (tn + 16) x5)))]) [0, 1] (by decide) rfl
      exact W.iret (v := (nI (tn + 20))) hx hb hr (fun t ht hW => ⟨⟨(nI (tn + 20)), (zap4 (zap4 (zap4 (zap4 (zap4 f tn x1) (tn + 4) x2) (tn + 8) x3) (tn + 12) x4) (tn + 16) x5, tn + 20, 0), rfl, Or.inl ⟨by omega, rfl, rfl⟩, ⟨by rw [ht]; exact hP9, va_K.moved hW.alike hK, hD9⟩⟩, hS.F ht⟩) hS.2.2 dX9_feed_59
    · have c23 : 1 = 0 := (nI_eq (a := 1) (b := 0) (by omega) (by omega)).mp c23
      exfalso; omega
