abbrev rm_X7_needRange : Room := { frames := 6, cells := 1, slots := 6, locals := 96 }
abbrev wo_X7_needRange (dC : Nat → ClassId) (dI : Nat → Nat → Nat) (cB cI cJ cM : ClassId) (x lo hi : Int32) : va_W := []
abbrev q_X7_needRange (dC : Nat → ClassId) (dI : Nat → Nat → Nat) (cB cI cJ cM : ClassId) (x lo hi : Int32) (A : Nat → Prop) : Array Value → State → Outcome → State → Prop := va_Qv (fun (u : Unit) => lo ≤ x ∧ x ≤ hi) (zB dC dI cB cI cJ cM A (fun u : Unit => [])) A
abbrev x_X7_needRange (dC : Nat → ClassId) (dI : Nat → Nat → Nat) (cB cI cJ cM : ClassId) (x lo hi : Int32) (A : Nat → Prop) : String → State → State → Prop := vx_X (fun (u : String × (Unit)) => (u.1 = "java/lang/IllegalArgumentException") ∧ (x < lo ∨ hi < x)) (fun E (u : String × (Unit)) t => E = u.1 ∧ zB dC dI cB cI cJ cM A (fun u : Unit => []) u.2 t) A
set_option maxHeartbeats 8000000 in
set_option maxRecDepth 100000 in
/-- needRange -/
theorem k_X7_needRange (l : Launch) (hl9 : l.stackTraces = false) (dC : Nat → ClassId) (dI : Nat → Nat → Nat) (cB cI cJ cM : ClassId) (x lo hi : Int32) (sz : Nat) : vx_Met l yX7_needRange wsX7_needRange rm_X7_needRange (va_Pc [.int x, .int lo, .int hi] (fun U => U.heap.size = sz ∧ va_P (dC, dI) vwCl (wo_X7_needRange dC dI cB cI cJ cM x lo hi) U.heap ∧ va_K (dC, dI) vwCl (zT cB cI cJ cM) U ∧ va_D (fun _ => True) (wo_X7_needRange dC dI cB cI cJ cM x lo hi) ∧ zE (va_A (wo_X7_needRange dC dI cB cI cJ cM x lo hi) sz) U)) (q_X7_needRange dC dI cB cI cJ cM x lo hi (va_A (wo_X7_needRange dC dI cB cI cJ cM x lo hi) sz)) (x_X7_needRange dC dI cB cI cJ cM x lo hi (va_A (wo_X7_needRange dC dI cB cI cJ cM x lo hi) sz)) 0 0 1 6 (va_A (wo_X7_needRange dC dI cB cI cJ cM x lo hi) sz) := by
  refine vx_ofW (cc := cX7_needRange) (maxL := 3) (ret := none) (by decide) rfl ?_
  intro p e s m args below meth c s₁ B hml hEx hv
  obtain ⟨rfl, hsz, hP, hK, hD0, hE⟩ := hv
  have hx := B.exec
  have hb := B.bytes
  have hr := B.returns
  have hts := atoms_spec (ws := wsX7_needRange) B.pre
  have hown : s.vm.findClass RX7 = some m.cls := findClass_of_methodNamed B.named
  have hlocks := B.notSynchronized
  subst hsz
  have hD := hD0.self (sz := s.heap.size)
  generalize hAe : va_A (wo_X7_needRange dC dI cB cI cJ cM x lo hi) s.heap.size = A at hD hE ⊢
  have hA : ∀ q : Nat, s.heap.size ≤ q → A q := fun q h => by rw [← hAe]; exact Or.inr h
  have hS : va_S A s.heap s.heap [] := va_S.rf
  have hP : va_P (dC, dI) vwCl [] s.heap := hP
  have hD : va_D A [] := hD
  have hl := lv_entry ([.int x, .int lo, .int hi]) (n := 3) (Nat.le_of_ble_eq_true rfl)
  rw [lg_entry_eq]
  generalize (lg_sl ([.int x, .int lo, .int hi]) ++ List.replicate (3 - (lg_sl ([.int x, .int lo, .int hi])).length) Slot.unset).toArray = ls at hl ⊢
  have hl : lv_has ls 3 [(0, .int x), (1, .int lo), (2, .int hi)] := hl
  refine lv_iload_n hx hb dX7_needRange_0 rfl (lv_at hl 0 rfl) ?_
  refine lv_iload_n hx hb dX7_needRange_1 rfl (lv_at hl 1 rfl) ?_
  refine lv_icmp_lt (tgt := 10) hx hb dX7_needRange_2 (by decide) (fun c2 => ?_) (fun c2 => ?_)
  · have hP9 := hP.sub (ws' := []) [] rfl
    have hD9 := hD.sub (ws' := []) [] (by decide) rfl
    obtain ⟨sa9, hstr9⟩ := zX_X7_84 hE
    exact vx_throwS (own := RX7) (cls := "java/lang/IllegalArgumentException") (names := ["java/lang/RuntimeException", "java/lang/Exception"]) hx hb hl9 hown (by decide +kernel) (by decide +kernel) (hts (.classLink RX7 82 "java/lang/IllegalArgumentException") (by decide +kernel)) (hts (.initialized "java/lang/IllegalArgumentException") (by decide +kernel)) hstr9 (vx_hat (L := vx_atS RX7 86 "java/lang/IllegalArgumentException" ["java/lang/RuntimeException", "java/lang/Exception"]) (B := zBad "java/lang/IllegalArgumentException") (fun w hw => hts w ((by decide +kernel : ∀ w ∈ (vx_atS RX7 86 "java/lang/IllegalArgumentException" ["java/lang/RuntimeException", "java/lang/Exception"]).filter goodWord, w ∈ wsX7_needRange) w hw)) (by decide +kernel) (zBad_IllegalArgumentException hE)) (by decide +kernel) (zE_U hE) (zE_N hE) hS (hl.1.trans hml.symm) dX7_needRange_10 dX7_needRange_13 dX7_needRange_14 dX7_needRange_16 dX7_needRange_19 (fun x hx => (hEx x hx).elim) (Nat.le_of_ble_eq_true rfl) (Nat.le_of_ble_eq_true rfl) (Nat.le_of_ble_eq_true rfl) (Nat.le_of_ble_eq_true rfl) hlocks (fun t ha hsz hk => ⟨("java/lang/IllegalArgumentException", ()), ⟨rfl, Or.inl c2⟩, ⟨rfl, hP9.kept (fun k q hq => hk q.1 (hP9 k q hq).lt), va_K.moved ha hK, hD9⟩, Nat.le_trans hS.1 hsz, fun q h1 h2 => (hk q (Nat.lt_of_lt_of_le h1 hS.1)).trans (hS.2.1 q h1 h2)⟩) hS.2.2 (Nat.le_of_ble_eq_true rfl) (Nat.le_of_ble_eq_true rfl)
  · refine lv_iload_n hx hb dX7_needRange_5 rfl (lv_at hl 0 rfl) ?_
    refine lv_iload_n hx hb dX7_needRange_6 rfl (lv_at hl 2 rfl) ?_
    refine lv_icmp_le (tgt := 20) hx hb dX7_needRange_7 (by decide) (fun c7 => ?_) (fun c7 => ?_)
    · have hP9 := hP.sub (ws' := []) [] rfl
      have hD9 := hD.sub (ws' := []) [] (by decide) rfl
      exact vx_ret (W.vret hx hb hr (fun t ht hW => ⟨⟨(), rfl, ⟨Int32.not_lt.mp c2, c7⟩, ⟨by rw [ht]; exact hP9, va_K.moved hW.alike hK, hD9⟩⟩, hS.F ht⟩) hS.2.2 dX7_needRange_20)
    · have hP9 := hP.sub (ws' := []) [] rfl
      have hD9 := hD.sub (ws' := []) [] (by decide) rfl
      obtain ⟨sa9, hstr9⟩ := zX_X7_84 hE
      exact vx_throwS (own := RX7) (cls := "java/lang/IllegalArgumentException") (names := ["java/lang/RuntimeException", "java/lang/Exception"]) hx hb hl9 hown (by decide +kernel) (by decide +kernel) (hts (.classLink RX7 82 "java/lang/IllegalArgumentException") (by decide +kernel)) (hts (.initialized "java/lang/IllegalArgumentException") (by decide +kernel)) hstr9 (vx_hat (L := vx_atS RX7 86 "java/lang/IllegalArgumentException" ["java/lang/RuntimeException", "java/lang/Exception"]) (B := zBad "java/lang/IllegalArgumentException") (fun w hw => hts w ((by decide +kernel : ∀ w ∈ (vx_atS RX7 86 "java/lang/IllegalArgumentException" ["java/lang/RuntimeException", "java/lang/Exception"]).filter goodWord, w ∈ wsX7_needRange) w hw)) (by decide +kernel) (zBad_IllegalArgumentException hE)) (by decide +kernel) (zE_U hE) (zE_N hE) hS (hl.1.trans hml.symm) dX7_needRange_10 dX7_needRange_13 dX7_needRange_14 dX7_needRange_16 dX7_needRange_19 (fun x hx => (hEx x hx).elim) (Nat.le_of_ble_eq_true rfl) (Nat.le_of_ble_eq_true rfl) (Nat.le_of_ble_eq_true rfl) (Nat.le_of_ble_eq_true rfl) hlocks (fun t ha hsz hk => ⟨("java/lang/IllegalArgumentException", ()), ⟨rfl, Or.inr (Int32.not_le.mp c7)⟩, ⟨rfl, hP9.kept (fun k q hq => hk q.1 (hP9 k q hq).lt), va_K.moved ha hK, hD9⟩, Nat.le_trans hS.1 hsz, fun q h1 h2 => (hk q (Nat.lt_of_lt_of_le h1 hS.1)).trans (hS.2.1 q h1 h2)⟩) hS.2.2 (Nat.le_of_ble_eq_true rfl) (Nat.le_of_ble_eq_true rfl)

abbrev rm_X7_needRoom : Room := { frames := 6, cells := 1, slots := 6, locals := 96 }
abbrev wo_X7_needRoom (dC : Nat → ClassId) (dI : Nat → Nat → Nat) (cB cI cJ cM : ClassId) (h0 tp : Nat) (v2 v3 v4 v5 v6 : Value) (tn : Nat) (k : Int32) : va_W := [(h0, .inr (7, [.ref tp, .int (nI tn), v2, v3, v4, v5, v6]))]
abbrev q_X7_needRoom (dC : Nat → ClassId) (dI : Nat → Nat → Nat) (cB cI cJ cM : ClassId) (h0 tp : Nat) (v2 v3 v4 v5 v6 : Value) (tn : Nat) (k : Int32) (A : Nat → Prop) : Array Value → State → Outcome → State → Prop := va_Qv (fun (u : Unit) => k ≤ nI (4000 - tn)) (zB dC dI cB cI cJ cM A (fun u : Unit => [(h0, .inr (7, [.ref tp, .int (nI tn), v2, v3, v4, v5, v6]))])) A
abbrev x_X7_needRoom (dC : Nat → ClassId) (dI : Nat → Nat → Nat) (cB cI cJ cM : ClassId) (h0 tp : Nat) (v2 v3 v4 v5 v6 : Value) (tn : Nat) (k : Int32) (A : Nat → Prop) : String → State → State → Prop := vx_X (fun (u : String × (Unit)) => (u.1 = "java/lang/IndexOutOfBoundsException") ∧ (nI (4000 - tn) < k)) (fun E (u : String × (Unit)) t => E = u.1 ∧ zB dC dI cB cI cJ cM A (fun u : Unit => [(h0, .inr (7, [.ref tp, .int (nI tn), v2, v3, v4, v5, v6]))]) u.2 t) A
set_option maxHeartbeats 8000000 in
set_option maxRecDepth 100000 in
/-- needRoom -/
theorem k_X7_needRoom (l : Launch) (hl9 : l.stackTraces = false) (dC : Nat → ClassId) (dI : Nat → Nat → Nat) (cB cI cJ cM : ClassId) (h0 tp : Nat) (v2 v3 v4 v5 v6 : Value) (tn : Nat) (k : Int32) (h1 : tn ≤ 4000) (sz : Nat) : vx_Met l yX7_needRoom wsX7_needRoom rm_X7_needRoom (va_Pc [.ref h0, .int k] (fun U => U.heap.size = sz ∧ va_P (dC, dI) vwCl (wo_X7_needRoom dC dI cB cI cJ cM h0 tp v2 v3 v4 v5 v6 tn k) U.heap ∧ va_K (dC, dI) vwCl (zT cB cI cJ cM) U ∧ va_D (fun _ => True) (wo_X7_needRoom dC dI cB cI cJ cM h0 tp v2 v3 v4 v5 v6 tn k) ∧ zE (va_A (wo_X7_needRoom dC dI cB cI cJ cM h0 tp v2 v3 v4 v5 v6 tn k) sz) U)) (q_X7_needRoom dC dI cB cI cJ cM h0 tp v2 v3 v4 v5 v6 tn k (va_A (wo_X7_needRoom dC dI cB cI cJ cM h0 tp v2 v3 v4 v5 v6 tn k) sz)) (x_X7_needRoom dC dI cB cI cJ cM h0 tp v2 v3 v4 v5 v6 tn k (va_A (wo_X7_needRoom dC dI cB cI cJ cM h0 tp v2 v3 v4 v5 v6 tn k) sz)) 0 0 1 6 (va_A (wo_X7_needRoom dC dI cB cI cJ cM h0 tp v2 v3 v4 v5 v6 tn k) sz) := by
  refine vx_ofW (cc := cX7_needRoom) (maxL := 2) (ret := none) (by decide) rfl ?_
  intro p e s m args below meth c s₁ B hml hEx hv
  obtain ⟨rfl, hsz, hP, hK, hD0, hE⟩ := hv
  have hx := B.exec
  have hb := B.bytes
  have hr := B.returns
  have hts := atoms_spec (ws := wsX7_needRoom) B.pre
  have hown : s.vm.findClass RX7 = some m.cls := findClass_of_methodNamed B.named
  have hlocks := B.notSynchronized
  subst hsz
  have hD := hD0.self (sz := s.heap.size)
  generalize hAe : va_A (wo_X7_needRoom dC dI cB cI cJ cM h0 tp v2 v3 v4 v5 v6 tn k) s.heap.size = A at hD hE ⊢
  have hA : ∀ q : Nat, s.heap.size ≤ q → A q := fun q h => by rw [← hAe]; exact Or.inr h
  have hS : va_S A s.heap s.heap [] := va_S.rf
  have hP : va_P (dC, dI) vwCl [(h0, .inr (7, [.ref tp, .int (nI tn), v2, v3, v4, v5, v6]))] s.heap := hP
  have hD : va_D A [(h0, .inr (7, [.ref tp, .int (nI tn), v2, v3, v4, v5, v6]))] := hD
  have hl := lv_entry ([.ref h0, .int k]) (n := 2) (Nat.le_of_ble_eq_true rfl)
  rw [lg_entry_eq]
  generalize (lg_sl ([.ref h0, .int k]) ++ List.replicate (2 - (lg_sl ([.ref h0, .int k])).length) Slot.unset).toArray = ls at hl ⊢
  have hl : lv_has ls 2 [(0, .ref h0), (1, .int k)] := hl
  refine lv_iload_n hx hb dX7_needRoom_0 rfl (lv_at hl 1 rfl) ?_
  refine lv_sipush (v := 4000) hx hb dX7_needRoom_1 (by decide) ?_
  refine lv_aload_n hx hb dX7_needRoom_4 rfl (lv_at hl 0 rfl) ?_
  refine va_get (D := (dC, dI)) (ci := 7) (v := .int (nI tn)) (C := RX7) (T := TX7) (N := 7) hx hb hts (by decide +kernel) hown hK hP 0 rfl rfl 1 (by decide) (hts (.fieldLink RX7 40 "FixedPress" "tapeLength" "I") (by decide +kernel)) (fun _ h9 => h9) rfl dX7_needRoom_5 ?_
  refine lv_isub hx hb dX7_needRoom_8 ?_
  refine lv_topi (fun y_1 ey_1 => ?_)
  obtain rfl : y_1 = nI (4000 - tn) := ey_1.trans (pk_sub (a := 4000) (b := tn) (by omega))
  refine lv_icmp_le (tgt := 22) hx hb dX7_needRoom_9 (by decide) (fun c9 => ?_) (fun c9 => ?_)
  · have hP9 := hP.sub (ws' := [(h0, .inr (7, [.ref tp, .int (nI tn), v2, v3, v4, v5, v6]))]) [0] rfl
    have hD9 := hD.sub (ws' := [(h0, .inr (7, [.ref tp, .int (nI tn), v2, v3, v4, v5, v6]))]) [0] (by decide) rfl
    exact vx_ret (W.vret hx hb hr (fun t ht hW => ⟨⟨(), rfl, c9, ⟨by rw [ht]; exact hP9, va_K.moved hW.alike hK, hD9⟩⟩, hS.F ht⟩) hS.2.2 dX7_needRoom_22)
  · have hP9 := hP.sub (ws' := [(h0, .inr (7, [.ref tp, .int (nI tn), v2, v3, v4, v5, v6]))]) [0] rfl
    have hD9 := hD.sub (ws' := [(h0, .inr (7, [.ref tp, .int (nI tn), v2, v3, v4, v5, v6]))]) [0] (by decide) rfl
    obtain ⟨sa9, hstr9⟩ := zX_X7_87 hE
    exact vx_throwS (own := RX7) (cls := "java/lang/IndexOutOfBoundsException") (names := ["java/lang/RuntimeException", "java/lang/Exception"]) hx hb hl9 hown (by decide +kernel) (by decide +kernel) (hts (.classLink RX7 63 "java/lang/IndexOutOfBoundsException") (by decide +kernel)) (hts (.initialized "java/lang/IndexOutOfBoundsException") (by decide +kernel)) hstr9 (vx_hat (L := vx_atS RX7 67 "java/lang/IndexOutOfBoundsException" ["java/lang/RuntimeException", "java/lang/Exception"]) (B := zBad "java/lang/IndexOutOfBoundsException") (fun w hw => hts w ((by decide +kernel : ∀ w ∈ (vx_atS RX7 67 "java/lang/IndexOutOfBoundsException" ["java/lang/RuntimeException", "java/lang/Exception"]).filter goodWord, w ∈ wsX7_needRoom) w hw)) (by decide +kernel) (zBad_IndexOutOfBoundsException hE)) (by decide +kernel) (zE_U hE) (zE_N hE) hS (hl.1.trans hml.symm) dX7_needRoom_12 dX7_needRoom_15 dX7_needRoom_16 dX7_needRoom_18 dX7_needRoom_21 (fun x hx => (hEx x hx).elim) (Nat.le_of_ble_eq_true rfl) (Nat.le_of_ble_eq_true rfl) (Nat.le_of_ble_eq_true rfl) (Nat.le_of_ble_eq_true rfl) hlocks (fun t ha hsz hk => ⟨("java/lang/IndexOutOfBoundsException", ()), ⟨rfl, Int32.not_le.mp c9⟩, ⟨rfl, hP9.kept (fun k q hq => hk q.1 (hP9 k q hq).lt), va_K.moved ha hK, hD9⟩, Nat.le_trans hS.1 hsz, fun q h1 h2 => (hk q (Nat.lt_of_lt_of_le h1 hS.1)).trans (hS.2.1 q h1 h2)⟩) hS.2.2 (Nat.le_of_ble_eq_true rfl) (Nat.le_of_ble_eq_true rfl)

abbrev rm_X7_appendByte : Room := { frames := 0, cells := 0, slots := 0, locals := 0 }
abbrev wo_X7_appendByte (dC : Nat → ClassId) (dI : Nat → Nat → Nat) (cB cI cJ cM : ClassId) (h0 tp : Nat) (v2 v3 v4 v5 v6 : Value) (f : Nat → Int32) (tn : Nat) (x : Int32) : va_W := [(h0, .inr (7, [.ref tp, .int (nI tn), v2, v3, v4, v5, v6])), (tp, .inl (cB, 4000, .inl f))]
abbrev q_X7_appendByte (dC : Nat → ClassId) (dI : Nat → Nat → Nat) (cB cI cJ cM : ClassId) (h0 tp : Nat) (v2 v3 v4 v5 v6 : Value) (f : Nat → Int32) (tn : Nat) (x : Int32) (A : Nat → Prop) : Array Value → State → Outcome → State → Prop := va_Qv (fun (u : Unit) => True) (zB dC dI cB cI cJ cM A (fun u : Unit => [(h0, .inr (7, [.ref tp, .int (nI (tn + 1)), v2, v3, v4, v5, v6])), (tp, .inl (cB, 4000, .inl (upd f tn x.toInt8.toInt32)))])) A
set_option maxHeartbeats 8000000 in
set_option maxRecDepth 100000 in
/-- appendByte -/
theorem k_X7_appendByte (l : Launch) (dC : Nat → ClassId) (dI : Nat → Nat → Nat) (cB cI cJ cM : ClassId) (h0 tp : Nat) (v2 v3 v4 v5 v6 : Value) (f : Nat → Int32) (tn : Nat) (x : Int32) (h1 : tn < 4000) (sz : Nat) : Met l yX7_appendByte wsX7_appendByte rm_X7_appendByte (va_Pc [.ref h0, .int x] (fun U => U.heap.size = sz ∧ va_P (dC, dI) vwCl (wo_X7_appendByte dC dI cB cI cJ cM h0 tp v2 v3 v4 v5 v6 f tn x) U.heap ∧ va_K (dC, dI) vwCl (zT cB cI cJ cM) U ∧ va_D (fun _ => True) (wo_X7_appendByte dC dI cB cI cJ cM h0 tp v2 v3 v4 v5 v6 f tn x))) (q_X7_appendByte dC dI cB cI cJ cM h0 tp v2 v3 v4 v5 v6 f tn x (va_A (wo_X7_appendByte dC dI cB cI cJ cM h0 tp v2 v3 v4 v5 v6 f tn x) sz)) 0 0 (va_A (wo_X7_appendByte dC dI cB cI cJ cM h0 tp v2 v3 v4 v5 v6 f tn x) sz) := by
  refine Met.ofW (cc := cX7_appendByte) (maxL := 2) (ret := none) (by decide) rfl ?_
  intro p e s m args below meth c s₁ B hml hv
  obtain ⟨rfl, hsz, hP, hK, hD0⟩ := hv
  have hx := B.exec
  have hb := B.bytes
  have hr := B.returns
  have hts := atoms_spec (ws := wsX7_appendByte) B.pre
  have hown : s.vm.findClass RX7 = some m.cls := findClass_of_methodNamed B.named
  have hlocks := B.notSynchronized
  subst hsz
  have hD := hD0.self (sz := s.heap.size)
  generalize hAe : va_A (wo_X7_appendByte dC dI cB cI cJ cM h0 tp v2 v3 v4 v5 v6 f tn x) s.heap.size = A at hD ⊢
  have hA : ∀ q : Nat, s.heap.size ≤ q → A q := fun q h => by rw [← hAe]; exact Or.inr h
  have hS : va_S A s.heap s.heap [] := va_S.rf
  have hP : va_P (dC, dI) vwCl [(h0, .inr (7, [.ref tp, .int (nI tn), v2, v3, v4, v5, v6])), (tp, .inl (cB, 4000, .inl f))] s.heap := hP
  have hD : va_D A [(h0, .inr (7, [.ref tp, .int (nI tn), v2, v3, v4, v5, v6])), (tp, .inl (cB, 4000, .inl f))] := hD
  have hl := lv_entry ([.ref h0, .int x]) (n := 2) (Nat.le_of_ble_eq_true rfl)
  rw [lg_entry_eq]
  generalize (lg_sl ([.ref h0, .int x]) ++ List.replicate (2 - (lg_sl ([.ref h0, .int x])).length) Slot.unset).toArray = ls at hl ⊢
  have hl : lv_has ls 2 [(0, .ref h0), (1, .int x)] := hl
  refine lv_aload_n hx hb dX7_appendByte_0 rfl (lv_at hl 0 rfl) ?_
  refine va_get (D := (dC, dI)) (ci := 7) (v := .ref tp) (C := RX7) (T := TX7) (N := 7) hx hb hts (by decide +kernel) hown hK hP 0 rfl rfl 0 (by decide) (hts (.fieldLink RX7 9 "FixedPress" "tape" "[B") (by decide +kernel)) (fun _ h9 => h9) rfl dX7_appendByte_1 ?_
  refine lv_aload_n hx hb dX7_appendByte_4 rfl (lv_at hl 0 rfl) ?_
  refine va_get (D := (dC, dI)) (ci := 7) (v := .int (nI tn)) (C := RX7) (T := TX7) (N := 7) hx hb hts (by decide +kernel) hown hK hP 0 rfl rfl 1 (by decide) (hts (.fieldLink RX7 40 "FixedPress" "tapeLength" "I") (by decide +kernel)) (fun _ h9 => h9) rfl dX7_appendByte_5 ?_
  refine lv_iload_n hx hb dX7_appendByte_8 rfl (lv_at hl 1 rfl) ?_
  refine lv_i2b hx hb dX7_appendByte_9 rfl ?_
  refine va_bast hx hb hK hP hD hS 1 0 rfl rfl (vp_in_nI (n := tn) (by omega) (by omega)) dX7_appendByte_10 (fun H locs hP hD hS => ?_)
  rw [nI_clamp (n := tn) (by omega)] at hP hD
  have hP : va_P (dC, dI) vwCl [(h0, .inr (7, [.ref tp, .int (nI tn), v2, v3, v4, v5, v6])), (tp, .inl (cB, 4000, .inl (upd f tn (vp_nar .byte x.toInt8.toInt32))))] H := hP
  have hD : va_D A [(h0, .inr (7, [.ref tp, .int (nI tn), v2, v3, v4, v5, v6])), (tp, .inl (cB, 4000, .inl (upd f tn (vp_nar .byte x.toInt8.toInt32))))] := hD
  rw [pk_vb] at hP hD
  have hP : va_P (dC, dI) vwCl [(h0, .inr (7, [.ref tp, .int (nI tn), v2, v3, v4, v5, v6])), (tp, .inl (cB, 4000, .inl (upd f tn x.toInt8.toInt32)))] H := hP
  have hD : va_D A [(h0, .inr (7, [.ref tp, .int (nI tn), v2, v3, v4, v5, v6])), (tp, .inl (cB, 4000, .inl (upd f tn x.toInt8.toInt32)))] := hD
  refine lv_aload_n hx hb dX7_appendByte_11 rfl (lv_at hl 0 rfl) ?_
  refine lv_dup hx hb dX7_appendByte_12 rfl ?_
  refine va_get (D := (dC, dI)) (ci := 7) (v := .int (nI tn)) (C := RX7) (T := TX7) (N := 7) hx hb hts (by decide +kernel) hown hK hP 0 rfl rfl 1 (by decide) (hts (.fieldLink RX7 40 "FixedPress" "tapeLength" "I") (by decide +kernel)) (fun _ h9 => h9) rfl dX7_appendByte_13 ?_
  refine lv_iconst (v := 1) hx hb dX7_appendByte_16 (by decide) ?_
  refine lv_iadd hx hb dX7_appendByte_17 ?_
  refine lv_topi (fun y_1 ey_1 => ?_)
  obtain rfl : y_1 = nI (tn + 1) := ey_1.trans (nI_add tn 1)
  refine va_put (D := (dC, dI)) (ci := 7) (v := .int (nI (tn + 1))) (ty := .int) (C := RX7) (T := TX7) (N := 7) hx hb hts (by decide +kernel) tyX7 tyX7_ok nmX7 hown hK hP hD hS 0 rfl rfl 1 (by decide) (hts (.fieldLink RX7 40 "FixedPress" "tapeLength" "I") (by decide +kernel)) (fun _ h9 => h9) rfl (by decide +kernel) rfl rfl (Nat.le_of_ble_eq_true rfl) dX7_appendByte_18 (fun H locs hP hD hS => ?_)
  have hP : va_P (dC, dI) vwCl [(h0, .inr (7, [.ref tp, .int (nI (tn + 1)), v2, v3, v4, v5, v6])), (tp, .inl (cB, 4000, .inl (upd f tn x.toInt8.toInt32)))] H := hP
  have hD : va_D A [(h0, .inr (7, [.ref tp, .int (nI (tn + 1)), v2, v3, v4, v5, v6])), (tp, .inl (cB, 4000, .inl (upd f tn x.toInt8.toInt32)))] := hD
  have hP9 := hP.sub (ws' := [(h0, .inr (7, [.ref tp, .int (nI (tn + 1)), v2, v3, v4, v5, v6])), (tp, .inl (cB, 4000, .inl (upd f tn x.toInt8.toInt32)))]) [0, 1] rfl
  have hD9 := hD.sub (ws' := [(h0, .inr (7, [.ref tp, .int (nI (tn + 1)), v2, v3, v4, v5, v6])), (tp, .inl (cB, 4000, .inl (upd f tn x.toInt8.toInt32)))]) [0, 1] (by decide) rfl
  exact W.vret hx hb hr (fun t ht hW => ⟨⟨(), rfl, trivial, ⟨by rw [ht]; exact hP9, va_K.moved hW.alike hK, hD9⟩⟩, hS.F ht⟩) hS.2.2 dX7_appendByte_21

abbrev rm_X7_appendInt : Room := { frames := 1, cells := 0, slots := 0, locals := 21 }
abbrev wo_X7_appendInt (dC : Nat → ClassId) (dI : Nat → Nat → Nat) (cB cI cJ cM : ClassId) (h0 tp : Nat) (v2 v3 v4 v5 v6 : Value) (f : Nat → Int32) (tn : Nat) (x : Int32) : va_W := [(h0, .inr (7, [.ref tp, .int (nI tn), v2, v3, v4, v5, v6])), (tp, .inl (cB, 4000, .inl f))]
abbrev q_X7_appendInt (dC : Nat → ClassId) (dI : Nat → Nat → Nat) (cB cI cJ cM : ClassId) (h0 tp : Nat) (v2 v3 v4 v5 v6 : Value) (f : Nat → Int32) (tn : Nat) (x : Int32) (A : Nat → Prop) : Array Value → State → Outcome → State → Prop := va_Qv (fun (u : Unit) => True) (zB dC dI cB cI cJ cM A (fun u : Unit => [(h0, .inr (7, [.ref tp, .int (nI (tn + 4)), v2, v3, v4, v5, v6])), (tp, .inl (cB, 4000, .inl (zap4 f tn x)))])) A
set_option maxHeartbeats 8000000 in
set_option maxRecDepth 100000 in
/-- appendInt -/
theorem k_X7_appendInt (l : Launch) (dC : Nat → ClassId) (dI : Nat → Nat → Nat) (cB cI cJ cM : ClassId) (h0 tp : Nat) (v2 v3 v4 v5 v6 : Value) (f : Nat → Int32) (tn : Nat) (x : Int32) (h1 : tn + 4 ≤ 4000) (sz : Nat) : Met l yX7_appendInt wsX7_appendInt rm_X7_appendInt (va_Pc [.ref h0, .int x] (fun U => U.heap.size = sz ∧ va_P (dC, dI) vwCl (wo_X7_appendInt dC dI cB cI cJ cM h0 tp v2 v3 v4 v5 v6 f tn x) U.heap ∧ va_K (dC, dI) vwCl (zT cB cI cJ cM) U ∧ va_D (fun _ => True) (wo_X7_appendInt dC dI cB cI cJ cM h0 tp v2 v3 v4 v5 v6 f tn x))) (q_X7_appendInt dC dI cB cI cJ cM h0 tp v2 v3 v4 v5 v6 f tn x (va_A (wo_X7_appendInt dC dI cB cI cJ cM h0 tp v2 v3 v4 v5 v6 f tn x) sz)) 0 0 (va_A (wo_X7_appendInt dC dI cB cI cJ cM h0 tp v2 v3 v4 v5 v6 f tn x) sz) := by
  refine Met.ofW (cc := cX7_appendInt) (maxL := 3) (ret := none) (by decide) rfl ?_
  intro p e s m args below meth c s₁ B hml hv
  obtain ⟨rfl, hsz, hP, hK, hD0⟩ := hv
  have hx := B.exec
  have hb := B.bytes
  have hr := B.returns
  have hts := atoms_spec (ws := wsX7_appendInt) B.pre
  have hown : s.vm.findClass RX7 = some m.cls := findClass_of_methodNamed B.named
  have hlocks := B.notSynchronized
  subst hsz
  have hD := hD0.self (sz := s.heap.size)
  generalize hAe : va_A (wo_X7_appendInt dC dI cB cI cJ cM h0 tp v2 v3 v4 v5 v6 f tn x) s.heap.size = A at hD ⊢
  have hA : ∀ q : Nat, s.heap.size ≤ q → A q := fun q h => by rw [← hAe]; exact Or.inr h
  have hS : va_S A s.heap s.heap [] := va_S.rf
  have hP : va_P (dC, dI) vwCl [(h0, .inr (7, [.ref tp, .int (nI tn), v2, v3, v4, v5, v6])), (tp, .inl (cB, 4000, .inl f))] s.heap := hP
  have hD : va_D A [(h0, .inr (7, [.ref tp, .int (nI tn), v2, v3, v4, v5, v6])), (tp, .inl (cB, 4000, .inl f))] := hD
  have hl := lv_entry ([.ref h0, .int x]) (n := 3) (Nat.le_of_ble_eq_true rfl)
  rw [lg_entry_eq]
  generalize (lg_sl ([.ref h0, .int x]) ++ List.replicate (3 - (lg_sl ([.ref h0, .int x])).length) Slot.unset).toArray = ls at hl ⊢
  have hl : lv_has ls 3 [(0, .ref h0), (1, .int x)] := hl
  refine lv_bipush (v := 24) hx hb dX7_appendInt_0 (by decide) ?_
  refine lv_istore_n (lv' := [(2, .int 24), (0, .ref h0), (1, .int x)]) hx hb dX7_appendInt_2 rfl hl (by decide) rfl (fun ls hl => ?_)
  have cut3 : ∀ (fuel : Nat) (j : Nat) (w : Int32) (f1 : Nat → Int32), (j ≤ 4) → (w = nI (8 * (4 - j)) - 8) → (f1 = zapk f tn x j) → (4 - j < fuel) → ∀ (H : Heap) (locs : List Loc), va_P (dC, dI) vwCl [(h0, .inr (7, [.ref tp, .int (nI (tn + j)), v2, v3, v4, v5, v6])), (tp, .inl (cB, 4000, .inl f1))] H → va_D A [(h0, .inr (7, [.ref tp, .int (nI (tn + j)), v2, v3, v4, v5, v6])), (tp, .inl (cB, 4000, .inl f1))] → va_S A s.heap H locs → ∀ (ls : Array Slot), lv_has ls 3 [(0, .ref h0), (1, .int x), (2, .int w)] → W p l e (headSpec wsX7_appendInt rm_X7_appendInt).room s m ([.ref h0, .int x] : List Value).toArray below meth c H locs 0 0 (MQ below (q_X7_appendInt dC dI cB cI cJ cM h0 tp v2 v3 v4 v5 v6 f tn x A) ([.ref h0, .int x] : List Value).toArray s 0 0 A) (F0 m 3 ls []) := by
    intro fuel
    induction fuel with
    | zero => intros; omega
    | succ fuel ih =>
      intro j w f1 hj hw3 hf1 hfuel H locs hP hD hS ls hl
      refine lv_iload_n hx hb dX7_appendInt_3 rfl (lv_at hl 2 rfl) ?_
      refine lv_if_lt (tgt := 20) hx hb dX7_appendInt_4 (by decide) (fun c4 => ?_) (fun c4 => ?_)
      · have hj4 : j = 4 := z_j4 hj (by rw [← hw3]; exact c4)
        rw [hf1, hj4] at hP hD
        have hP : va_P (dC, dI) vwCl [(h0, .inr (7, [.ref tp, .int (nI (tn + 4)), v2, v3, v4, v5, v6])), (tp, .inl (cB, 4000, .inl (zap4 f tn x)))] H := hP
        have hD : va_D A [(h0, .inr (7, [.ref tp, .int (nI (tn + 4)), v2, v3, v4, v5, v6])), (tp, .inl (cB, 4000, .inl (zap4 f tn x)))] := hD
        have hP9 := hP.sub (ws' := [(h0, .inr (7, [.ref tp, .int (nI (tn + 4)), v2, v3, v4, v5, v6])), (tp, .inl (cB, 4000, .inl (zap4 f tn x)))]) [0, 1] rfl
        have hD9 := hD.sub (ws' := [(h0, .inr (7, [.ref tp, .int (nI (tn + 4)), v2, v3, v4, v5, v6])), (tp, .inl (cB, 4000, .inl (zap4 f tn x)))]) [0, 1] (by decide) rfl
        exact W.vret hx hb hr (fun t ht hW => ⟨⟨(), rfl, trivial, ⟨by rw [ht]; exact hP9, va_K.moved hW.alike hK, hD9⟩⟩, hS.F ht⟩) hS.2.2 dX7_appendInt_20
      · have hj4 : j < 4 := z_j3 hj (by rw [← hw3]; exact c4)
        obtain rfl : w = nI (8 * (3 - j)) := hw3.trans (z_w8 (by omega))
        refine lv_aload_n hx hb dX7_appendInt_7 rfl (lv_at hl 0 rfl) ?_
        refine lv_iload_n hx hb dX7_appendInt_8 rfl (lv_at hl 1 rfl) ?_
        refine lv_iload_n hx hb dX7_appendInt_9 rfl (lv_at hl 2 rfl) ?_
        refine lv_iushr hx hb dX7_appendInt_10 rfl ?_
        have hPc := hP.sub (ws' := [(h0, .inr (7, [.ref tp, .int (nI (tn + j)), v2, v3, v4, v5, v6])), (tp, .inl (cB, 4000, .inl f1))]) [0, 1] rfl
        have hDc := hD.sub (ws' := [(h0, .inr (7, [.ref tp, .int (nI (tn + j)), v2, v3, v4, v5, v6])), (tp, .inl (cB, 4000, .inl f1))]) [0, 1] (by decide) rfl
        have hFc := va_free (wc := [(h0, .inr (7, [.ref tp, .int (nI (tn + j)), v2, v3, v4, v5, v6])), (tp, .inl (cB, 4000, .inl f1))]) hD hS hA [0, 1] rfl
        refine va_callv (va_runV (As := [.int ((x.toUInt32 >>> ((nI (8 * (3 - j))).toUInt32 &&& Int32.toUInt32 31)).toInt32)]) (rest := []) ⟨hx, hb, hml, hown, hts⟩ (k_X7_appendByte l dC dI cB cI cJ cM h0 tp v2 v3 v4 v5 v6 f1 (tn + j) ((x.toUInt32 >>> ((nI (8 * (3 - j))).toUInt32 &&& Int32.toUInt32 31)).toInt32) (by omega) H.size) (cwV 1 hts gX7_appendInt_X7_appendByte rfl rfl rfl (by decide +kernel) ⟨Nat.le_of_ble_eq_true rfl, Nat.le_of_ble_eq_true rfl⟩) ⟨fun a U g mk q => by obtain ⟨q0, q1, qP, qK, qD⟩ := q; exact ⟨q0, q1, qP, va_K.moved (u := U) (U := U.calling g mk a) (Vm.Alike.refl U.vm) qK, qD⟩, va_recv hK hPc (ci := 7) (q0 := 0) rfl rfl, fun U hU hW => ⟨rfl, by rw [hU], by rw [hU]; exact hPc, va_K.moved hW.alike hK, hDc.weaken (fun _ _ _ _ => trivial)⟩⟩ rfl rfl hl.1 rfl (lv_room (Nat.le_of_ble_eq_true rfl)) dX7_appendInt_11 ⟨(show 0 + 0 ≤ 0 by omega), (show 0 + 0 ≤ 0 by omega)⟩) hS (fun q _ h => hFc q h) hFc (fun u t H1 locs ht hvm hw hB hz1 hk1 hS => ?_)
        have hP1 : va_P (dC, dI) vwCl [(h0, .inr (7, [.ref tp, .int (nI ((tn + j) + 1)), v2, v3, v4, v5, v6])), (tp, .inl (cB, 4000, .inl (upd f1 (tn + j) ((x.toUInt32 >>> ((nI (8 * (3 - j))).toUInt32 &&& Int32.toUInt32 31)).toInt32).toInt8.toInt32)))] H1 := by rw [← ht]; exact hB.1
        have hD1 : va_D (va_A [(h0, .inr (7, [.ref tp, .int (nI (tn + j)), v2, v3, v4, v5, v6])), (tp, .inl (cB, 4000, .inl f1))] H.size) [(h0, .inr (7, [.ref tp, .int (nI ((tn + j) + 1)), v2, v3, v4, v5, v6])), (tp, .inl (cB, 4000, .inl (upd f1 (tn + j) ((x.toUInt32 >>> ((nI (8 * (3 - j))).toUInt32 &&& Int32.toUInt32 31)).toInt32).toInt8.toInt32)))] := hB.2.2
        obtain ⟨hP, hD⟩ := va_join (wr := []) (w1 := [(h0, .inr (7, [.ref tp, .int (nI ((tn + j) + 1)), v2, v3, v4, v5, v6])), (tp, .inl (cB, 4000, .inl (upd f1 (tn + j) ((x.toUInt32 >>> ((nI (8 * (3 - j))).toUInt32 &&& Int32.toUInt32 31)).toInt32).toInt8.toInt32)))]) hP hD [0, 1] [] rfl rfl (by decide) (by decide) hk1 hFc hP1 hD1
        generalize H1 = H at hP hS ⊢
        try dsimp only at hw
        have hP : va_P (dC, dI) vwCl [(h0, .inr (7, [.ref tp, .int (nI ((tn + j) + 1)), v2, v3, v4, v5, v6])), (tp, .inl (cB, 4000, .inl (upd f1 (tn + j) ((x.toUInt32 >>> ((nI (8 * (3 - j))).toUInt32 &&& Int32.toUInt32 31)).toInt32).toInt8.toInt32)))] H := hP
        have hD : va_D A [(h0, .inr (7, [.ref tp, .int (nI ((tn + j) + 1)), v2, v3, v4, v5, v6])), (tp, .inl (cB, 4000, .inl (upd f1 (tn + j) ((x.toUInt32 >>> ((nI (8 * (3 - j))).toUInt32 &&& Int32.toUInt32 31)).toInt32).toInt8.toInt32)))] := hD
        refine W.eq (g2 := F0 m 14 ls []) rfl ?_
        refine lv_iinc (v := nI (8 * (3 - j)) - 8) (lv' := [(2, .int (nI (8 * (3 - j)) - 8)), (0, .ref h0), (1, .int x)]) hx hb dX7_appendInt_14 hl (k := 2) rfl (by rw [Int32.sub_eq_add_neg]; rfl) (by decide) rfl (fun ls hl => ?_)
        refine lv_goto (tgt := 3) hx hb dX7_appendInt_17 (by decide) ?_
        exact ih (j + 1) (nI (8 * (3 - j)) - 8) (upd f1 (tn + j) ((x.toUInt32 >>> ((nI (8 * (3 - j))).toUInt32 &&& Int32.toUInt32 31)).toInt32).toInt8.toInt32) (by omega) (z_sh8 (by omega)) (by rw [hf1]; rfl) (by omega) _ _ hP hD hS _ (lv_sub hl [1, 2, 0] rfl)
  exact cut3 (4 - 0 + 1) 0 24 f (by omega) (by decide) (rfl) (by omega) _ _ hP hD hS _ (lv_sub hl [1, 2, 0] rfl)

abbrev rm_X7_adler : Room := { frames := 0, cells := 0, slots := 0, locals := 0 }
abbrev wo_X7_adler (dC : Nat → ClassId) (dI : Nat → Nat → Nat) (cB cI cJ cM : ClassId) (b n : Nat) (f : Nat → Int32) (k : Nat) : va_W := [(b, .inl (cB, n, .inl f))]
abbrev q_X7_adler (dC : Nat → ClassId) (dI : Nat → Nat → Nat) (cB cI cJ cM : ClassId) (b n : Nat) (f : Nat → Int32) (k : Nat) (A : Nat → Prop) : Array Value → State → Outcome → State → Prop := va_Qi (fun (r : Int32) (u : Unit) => r = zadler f k) (zB dC dI cB cI cJ cM A (fun u : Unit => [(b, .inl (cB, n, .inl f))])) A
set_option maxHeartbeats 8000000 in
set_option maxRecDepth 100000 in
/-- adler -/
theorem k_X7_adler (l : Launch) (dC : Nat → ClassId) (dI : Nat → Nat → Nat) (cB cI cJ cM : ClassId) (b n : Nat) (f : Nat → Int32) (k : Nat) (h1 : k ≤ n) (h2 : n < 100000) (sz : Nat) : Met l yX7_adler wsX7_adler rm_X7_adler (va_Pc [.ref b, .int (nI k)] (fun U => U.heap.size = sz ∧ va_P (dC, dI) vwCl (wo_X7_adler dC dI cB cI cJ cM b n f k) U.heap ∧ va_K (dC, dI) vwCl (zT cB cI cJ cM) U ∧ va_D (fun _ => True) (wo_X7_adler dC dI cB cI cJ cM b n f k))) (q_X7_adler dC dI cB cI cJ cM b n f k (va_A (wo_X7_adler dC dI cB cI cJ cM b n f k) sz)) 0 0 (va_A (wo_X7_adler dC dI cB cI cJ cM b n f k) sz) := by
  refine Met.ofW (cc := cX7_adler) (maxL := 5) (ret := (some .int)) (by decide) rfl ?_
  intro p e s m args below meth c s₁ B hml hv
  obtain ⟨rfl, hsz, hP, hK, hD0⟩ := hv
  have hx := B.exec
  have hb := B.bytes
  have hr := B.returns
  have hts := atoms_spec (ws := wsX7_adler) B.pre
  have hown : s.vm.findClass RX7 = some m.cls := findClass_of_methodNamed B.named
  have hlocks := B.notSynchronized
  subst hsz
  have hD := hD0.self (sz := s.heap.size)
  generalize hAe : va_A (wo_X7_adler dC dI cB cI cJ cM b n f k) s.heap.size = A at hD ⊢
  have hA : ∀ q : Nat, s.heap.size ≤ q → A q := fun q h => by rw [← hAe]; exact Or.inr h
  have hS : va_S A s.heap s.heap [] := va_S.rf
  have hP : va_P (dC, dI) vwCl [(b, .inl (cB, n, .inl f))] s.heap := hP
  have hD : va_D A [(b, .inl (cB, n, .inl f))] := hD
  have hl := lv_entry ([.ref b, .int (nI k)]) (n := 5) (Nat.le_of_ble_eq_true rfl)
  rw [lg_entry_eq]
  generalize (lg_sl ([.ref b, .int (nI k)]) ++ List.replicate (5 - (lg_sl ([.ref b, .int (nI k)])).length) Slot.unset).toArray = ls at hl ⊢
  have hl : lv_has ls 5 [(0, .ref b), (1, .int (nI k))] := hl
  refine lv_iconst (v := 1) hx hb dX7_adler_0 (by decide) ?_
  refine lv_istore_n (lv' := [(2, .int 1), (0, .ref b), (1, .int (nI k))]) hx hb dX7_adler_1 rfl hl (by decide) rfl (fun ls hl => ?_)
  refine lv_iconst (v := 0) hx hb dX7_adler_2 (by decide) ?_
  refine lv_istore_n (lv' := [(3, .int 0), (2, .int 1), (0, .ref b), (1, .int (nI k))]) hx hb dX7_adler_3 rfl hl (by decide) rfl (fun ls hl => ?_)
  refine lv_iconst (v := 0) hx hb dX7_adler_4 (by decide) ?_
  refine lv_istore (lv' := [(4, .int 0), (3, .int 0), (2, .int 1), (0, .ref b), (1, .int (nI k))]) hx hb dX7_adler_5 hl (by decide) rfl (fun ls hl => ?_)
  have cut7 : ∀ (fuel : Nat) (i : Nat) (lo : Int32) (hi : Int32), (i ≤ k) → (lo = (zad f i).1) → (hi = (zad f i).2) → (k - i < fuel) → ∀ (H : Heap) (locs : List Loc), va_P (dC, dI) vwCl [(b, .inl (cB, n, .inl f))] H → va_D A [(b, .inl (cB, n, .inl f))] → va_S A s.heap H locs → ∀ (ls : Array Slot), lv_has ls 5 [(0, .ref b), (1, .int (nI k)), (2, .int lo), (3, .int hi), (4, .int (nI i))] → W p l e (headSpec wsX7_adler rm_X7_adler).room s m ([.ref b, .int (nI k)] : List Value).toArray below meth c H locs 0 0 (MQ below (q_X7_adler dC dI cB cI cJ cM b n f k A) ([.ref b, .int (nI k)] : List Value).toArray s 0 0 A) (F0 m 7 ls []) := by
    intro fuel
    induction fuel with
    | zero => intros; omega
    | succ fuel ih =>
      intro i lo hi hi1 hlo hhi hfuel H locs hP hD hS ls hl
      refine lv_iload hx hb dX7_adler_7 (lv_at hl 4 rfl) ?_
      refine lv_iload_n hx hb dX7_adler_9 rfl (lv_at hl 1 rfl) ?_
      refine lv_icmp_ge (tgt := 40) hx hb dX7_adler_10 (by decide) (fun c10 => ?_) (fun c10 => ?_)
      · have c10 : k ≤ i := (nI_leI (a := k) (b := i) (by omega) (by omega)).mp c10
        have hik : i = k := by omega
        rw [hik] at hlo hhi
        refine lv_iload_n hx hb dX7_adler_40 rfl (lv_at hl 3 rfl) ?_
        refine lv_bipush (v := 16) hx hb dX7_adler_41 (by decide) ?_
        refine lv_ishl hx hb dX7_adler_43 ?_
        refine lv_iload_n hx hb dX7_adler_44 rfl (lv_at hl 2 rfl) ?_
        refine lv_ior hx hb dX7_adler_45 ?_
        have hP9 := hP.sub (ws' := [(b, .inl (cB, n, .inl f))]) [0] rfl
        have hD9 := hD.sub (ws' := [(b, .inl (cB, n, .inl f))]) [0] (by decide) rfl
        exact W.iret (v := ((hi <<< (16 &&& 31)) ||| lo)) hx hb hr (fun t ht hW => ⟨⟨((hi <<< (16 &&& 31)) ||| lo), (), rfl, by rw [hlo, hhi]; rfl, ⟨by rw [ht]; exact hP9, va_K.moved hW.alike hK, hD9⟩⟩, hS.F ht⟩) hS.2.2 dX7_adler_46
      · have c10 : ¬ (k ≤ i) := fun h => c10 ((nI_leI (a := k) (b := i) (by omega) (by omega)).mpr h)
        refine lv_iload_n hx hb dX7_adler_13 rfl (lv_at hl 2 rfl) ?_
        refine lv_aload_n hx hb dX7_adler_14 rfl (lv_at hl 0 rfl) ?_
        refine lv_iload hx hb dX7_adler_15 (lv_at hl 4 rfl) ?_
        refine va_bald hx hb hK hP 0 0 rfl rfl (vp_in_nI (n := i) (by omega) (by omega)) dX7_adler_17 ?_
        rw [nI_clamp (n := i) (by omega)]
        refine lv_sipush (v := 255) hx hb dX7_adler_18 (by decide) ?_
        refine lv_iand hx hb dX7_adler_21 ?_
        refine lv_iadd hx hb dX7_adler_22 ?_
        refine lv_ldc hx hb hown (hts (.constant RX7 89 (65521)) (by decide +kernel)) dX7_adler_23 ?_
        refine lv_irem hx hb dX7_adler_25 (by decide) ?_
        refine lv_istore_n (lv' := [(2, .int ((lo + ((f i) &&& 255)) - (lo + ((f i) &&& 255)) / 65521 * 65521)), (0, .ref b), (1, .int (nI k)), (3, .int hi), (4, .int (nI i))]) hx hb dX7_adler_26 rfl hl (by decide) rfl (fun ls hl => ?_)
        refine lv_iload_n hx hb dX7_adler_27 rfl (lv_at hl 3 rfl) ?_
        refine lv_iload_n hx hb dX7_adler_28 rfl (lv_at hl 0 rfl) ?_
        refine lv_iadd hx hb dX7_adler_29 ?_
        refine lv_ldc hx hb hown (hts (.constant RX7 89 (65521)) (by decide +kernel)) dX7_adler_30 ?_
        refine lv_irem hx hb dX7_adler_32 (by decide) ?_
        refine lv_istore_n (lv' := [(3, .int ((hi + ((lo + ((f i) &&& 255)) - (lo + ((f i) &&& 255)) / 65521 * 65521)) - (hi + ((lo + ((f i) &&& 255)) - (lo + ((f i) &&& 255)) / 65521 * 65521)) / 65521 * 65521)), (2, .int ((lo + ((f i) &&& 255)) - (lo + ((f i) &&& 255)) / 65521 * 65521)), (0, .ref b), (1, .int (nI k)), (4, .int (nI i))]) hx hb dX7_adler_33 rfl hl (by decide) rfl (fun ls hl => ?_)
        refine lv_iinc (v := nI (i + 1)) (lv' := [(4, .int (nI (i + 1))), (3, .int ((hi + ((lo + ((f i) &&& 255)) - (lo + ((f i) &&& 255)) / 65521 * 65521)) - (hi + ((lo + ((f i) &&& 255)) - (lo + ((f i) &&& 255)) / 65521 * 65521)) / 65521 * 65521)), (2, .int ((lo + ((f i) &&& 255)) - (lo + ((f i) &&& 255)) / 65521 * 65521)), (0, .ref b), (1, .int (nI k))]) hx hb dX7_adler_34 hl (k := 4) rfl (show nI i + Int32.ofInt 1 = _ from nI_add i 1) (by decide) rfl (fun ls hl => ?_)
        refine lv_goto (tgt := 7) hx hb dX7_adler_37 (by decide) ?_
        exact ih (i + 1) ((lo + ((f i) &&& 255)) - (lo + ((f i) &&& 255)) / 65521 * 65521) ((hi + ((lo + ((f i) &&& 255)) - (lo + ((f i) &&& 255)) / 65521 * 65521)) - (hi + ((lo + ((f i) &&& 255)) - (lo + ((f i) &&& 255)) / 65521 * 65521)) / 65521 * 65521) (by omega) (by subst hlo; rfl) (by subst hlo; subst hhi; rfl) (by omega) _ _ hP hD hS _ (lv_sub hl [3, 4, 2, 1, 0] rfl)
  exact cut7 (k - 0 + 1) 0 1 0 (by omega) (rfl) (rfl) (by omega) _ _ hP hD hS _ (lv_sub hl [3, 4, 2, 1, 0] rfl)

abbrev rm_X7_feed : Room := { frames := 7, cells := 1, slots := 6, locals := 117 }
abbrev wo_X7_feed (dC : Nat → ClassId) (dI : Nat → Nat → Nat) (cB cI cJ cM : ClassId) (h0 tp : Nat) (v2 v3 v4 v5 v6 : Value) (f : Nat → Int32) (tn : Nat) (x1 x2 x3 x4 x5 : Int32) : va_W := [(h0, .inr (7, [.ref tp, .int (nI tn), v2, v3, v4, v5, v6])), (tp, .inl (cB, 4000, .inl f))]
abbrev q_X7_feed (dC : Nat → ClassId) (dI : Nat → Nat → Nat) (cB cI cJ cM : ClassId) (h0 tp : Nat) (v2 v3 v4 v5 v6 : Value) (f : Nat → Int32) (tn : Nat) (x1 x2 x3 x4 x5 : Int32) (A : Nat → Prop) : Array Value → State → Outcome → State → Prop := va_Qi (fun (r : Int32) (u : Unit) => tn + 20 ≤ 4000 ∧ r = nI (tn + 20)) (zB dC dI cB cI cJ cM A (fun u : Unit => [(h0, .inr (7, [.ref tp, .int (nI (tn + 20)), v2, v3, v4, v5, v6])), (tp, .inl (cB, 4000, .inl (zap4 (zap4 (zap4 (zap4 (zap4 f tn x1) (tn + 4) x2) (tn + 8) x3) (tn + 12) x4) (tn + 16) x5)))])) A
abbrev x_X7_feed (dC : Nat → ClassId) (dI : Nat → Nat → Nat) (cB cI cJ cM : ClassId) (h0 tp : Nat) (v2 v3 v4 v5 v6 : Value) (f : Nat → Int32) (tn : Nat) (x1 x2 x3 x4 x5 : Int32) (A : Nat → Prop) : String → State → State → Prop := vx_X (fun (u : String × (Unit)) => (u.1 = "java/lang/IndexOutOfBoundsException") ∧ (4000 < tn + 20)) (fun E (u : String × (Unit)) t => E = u.1 ∧ zB dC dI cB cI cJ cM A (fun u : Unit => [(h0, .inr (7, [.ref tp, .int (nI tn), v2, v3, v4, v5, v6])), (tp, .inl (cB, 4000, .inl f))]) u.2 t) A
set_option maxHeartbeats 8000000 in
set_option maxRecDepth 100000 in
/-- feed -/
theorem k_X7_feed (l : Launch) (hl9 : l.stackTraces = false) (dC : Nat → ClassId) (dI : Nat → Nat → Nat) (cB cI cJ cM : ClassId) (h0 tp : Nat) (v2 v3 v4 v5 v6 : Value) (f : Nat → Int32) (tn : Nat) (x1 x2 x3 x4 x5 : Int32) (h1 : tn ≤ 4000) (sz : Nat) : vx_Met l yX7_feed wsX7_feed rm_X7_feed (va_Pc [.ref h0, .int x1, .int x2, .int x3, .int x4, .int x5] (fun U => U.heap.size = sz ∧ va_P (dC, dI) vwCl (wo_X7_feed dC dI cB cI cJ cM h0 tp v2 v3 v4 v5 v6 f tn x1 x2 x3 x4 x5) U.heap ∧ va_K (dC, dI) vwCl (zT cB cI cJ cM) U ∧ va_D (fun _ => True) (wo_X7_feed dC dI cB cI cJ cM h0 tp v2 v3 v4 v5 v6 f tn x1 x2 x3 x4 x5) ∧ zE (va_A (wo_X7_feed dC dI cB cI cJ cM h0 tp v2 v3 v4 v5 v6 f tn x1 x2 x3 x4 x5) sz) U)) (q_X7_feed dC dI cB cI cJ cM h0 tp v2 v3 v4 v5 v6 f tn x1 x2 x3 x4 x5 (va_A (wo_X7_feed dC dI cB cI cJ cM h0 tp v2 v3 v4 v5 v6 f tn x1 x2 x3 x4 x5) sz)) (x_X7_feed dC dI cB cI cJ cM h0 tp v2 v3 v4 v5 v6 f tn x1 x2 x3 x4 x5 (va_A (wo_X7_feed dC dI cB cI cJ cM h0 tp v2 v3 v4 v5 v6 f tn x1 x2 x3 x4 x5) sz)) 0 0 1 6 (va_A (wo_X7_feed dC dI cB cI cJ cM h0 tp v2 v3 v4 v5 v6 f tn x1 x2 x3 x4 x5) sz) := by
  refine vx_ofW (cc := cX7_feed) (maxL := 6) (ret := (some .int)) (by decide) rfl ?_
  intro p e s m args below meth c s₁ B hml hEx hv
  obtain ⟨rfl, hsz, hP, hK, hD0, hE⟩ := hv
  have hx := B.exec
  have hb := B.bytes
  have hr := B.returns
  have hts := atoms_spec (ws := wsX7_feed) B.pre
  have hown : s.vm.findClass RX7 = some m.cls := findClass_of_methodNamed B.named
  have hlocks := B.notSynchronized
  subst hsz
  have hD := hD0.self (sz := s.heap.size)
  generalize hAe : va_A (wo_X7_feed dC dI cB cI cJ cM h0 tp v2 v3 v4 v5 v6 f tn x1 x2 x3 x4 x5) s.heap.size = A at hD hE ⊢
  have hA : ∀ q : Nat, s.heap.size ≤ q → A q := fun q h => by rw [← hAe]; exact Or.inr h
  have hS : va_S A s.heap s.heap [] := va_S.rf
  have hP : va_P (dC, dI) vwCl [(h0, .inr (7, [.ref tp, .int (nI tn), v2, v3, v4, v5, v6])), (tp, .inl (cB, 4000, .inl f))] s.heap := hP
  have hD : va_D A [(h0, .inr (7, [.ref tp, .int (nI tn), v2, v3, v4, v5, v6])), (tp, .inl (cB, 4000, .inl f))] := hD
  have hl := lv_entry ([.ref h0, .int x1, .int x2, .int x3, .int x4, .int x5]) (n := 6) (Nat.le_of_ble_eq_true rfl)
  rw [lg_entry_eq]
  generalize (lg_sl ([.ref h0, .int x1, .int x2, .int x3, .int x4, .int x5]) ++ List.replicate (6 - (lg_sl ([.ref h0, .int x1, .int x2, .int x3, .int x4, .int x5])).length) Slot.unset).toArray = ls at hl ⊢
  have hl : lv_has ls 6 [(0, .ref h0), (1, .int x1), (2, .int x2), (3, .int x3), (4, .int x4), (5, .int x5)] := hl
  refine lv_aload_n hx hb dX7_feed_0 rfl (lv_at hl 0 rfl) ?_
  refine lv_bipush (v := 20) hx hb dX7_feed_1 (by decide) ?_
  have hPc := hP.sub (ws' := [(h0, .inr (7, [.ref tp, .int (nI tn), v2, v3, v4, v5, v6]))]) [0] rfl
  have hDc := hD.sub (ws' := [(h0, .inr (7, [.ref tp, .int (nI tn), v2, v3, v4, v5, v6]))]) [0] (by decide) rfl
  have hFc := va_free (wc := [(h0, .inr (7, [.ref tp, .int (nI tn), v2, v3, v4, v5, v6]))]) hD hS hA [0] rfl
  refine vx_callv (vx_runV (As := [.int 20]) (rest := []) ⟨hx, hb, hml, hown, hts⟩ (k_X7_needRoom l hl9 dC dI cB cI cJ cM h0 tp v2 v3 v4 v5 v6 tn 20 (by omega) s.heap.size) (cwV 1 hts gX7_feed_X7_needRoom rfl rfl rfl (by decide +kernel) ⟨Nat.le_of_ble_eq_true rfl, Nat.le_of_ble_eq_true rfl⟩) ⟨fun a U g mk q => by obtain ⟨q0, q1, qP, qK, qD, qE⟩ := q; exact ⟨q0, q1, qP, va_K.moved (u := U) (U := U.calling g mk a) (Vm.Alike.refl U.vm) qK, qD, zE.blind qE⟩, va_recv hK hPc (ci := 7) (q0 := 0) rfl rfl, fun U hU hW => ⟨rfl, by rw [hU], by rw [hU]; exact hPc, va_K.moved hW.alike hK, hDc.weaken (fun _ _ _ _ => trivial), zE.call hE hS hU hW hFc⟩⟩ rfl rfl hl.1 rfl (lv_room (Nat.le_of_ble_eq_true rfl)) dX7_feed_3 ⟨(show 0 + 1 ≤ 1 by omega), (show 0 + 6 ≤ 6 by omega)⟩) hS (fun q _ h => hFc q h) hFc (fun q _ h => hFc q h) (fun E8 ce9 q9 ux t H1 locs ht hvm hw hB hz1 hk1 hS hce9 hcv9 hcl9 => ?_) (fun u t H1 locs ht hvm hw hB hz1 hk1 hS => ?_)
  · obtain ⟨E9, ux9⟩ := ux
    obtain ⟨hEe, hB9⟩ := hB
    have hB : True ∧ zB dC dI cB cI cJ cM (va_A [(h0, .inr (7, [.ref tp, .int (nI tn), v2, v3, v4, v5, v6]))] s.heap.size) (fun u : Unit => [(h0, .inr (7, [.ref tp, .int (nI tn), v2, v3, v4, v5, v6]))]) ux9 t := ⟨trivial, hB9⟩
    have hP1 : va_P (dC, dI) vwCl [(h0, .inr (7, [.ref tp, .int (nI tn), v2, v3, v4, v5, v6]))] H1 := by rw [← ht]; exact hB.2.1
    have hD1 : va_D (va_A [(h0, .inr (7, [.ref tp, .int (nI tn), v2, v3, v4, v5, v6]))] s.heap.size) [(h0, .inr (7, [.ref tp, .int (nI tn), v2, v3, v4, v5, v6]))] := hB.2.2.2
    obtain ⟨hP, hD⟩ := va_join (wr := [(tp, .inl (cB, 4000, .inl f))]) (w1 := [(h0, .inr (7, [.ref tp, .int (nI tn), v2, v3, v4, v5, v6]))]) hP hD [0] [1] rfl rfl (by decide) (by decide) hk1 hFc hP1 hD1
    generalize H1 = H at hP hS hce9 ⊢
    try dsimp only at hw hEe
    subst hEe
    have hP : va_P (dC, dI) vwCl [(tp, .inl (cB, 4000, .inl f)), (h0, .inr (7, [.ref tp, .int (nI tn), v2, v3, v4, v5, v6]))] H := hP
    have hD : va_D A [(tp, .inl (cB, 4000, .inl f)), (h0, .inr (7, [.ref tp, .int (nI tn), v2, v3, v4, v5, v6]))] := hD
    have hP9 := hP.sub (ws' := [(h0, .inr (7, [.ref tp, .int (nI tn), v2, v3, v4, v5, v6])), (tp, .inl (cB, 4000, .inl f))]) [1, 0] rfl
    have hD9 := hD.sub (ws' := [(h0, .inr (7, [.ref tp, .int (nI tn), v2, v3, v4, v5, v6])), (tp, .inl (cB, 4000, .inl f))]) [1, 0] (by decide) rfl
    exact vx_out (fun x hx => (hEx x hx).elim) hlocks hce9 hcv9 hcl9 (fun t ht9 ha => ⟨(_, ()), ⟨hw.1, by have := (nI_ltI (a := 4000 - tn) (b := 20) (by omega) (by omega)).mp hw.2; omega⟩, ⟨rfl, by rw [ht9]; exact hP9, va_K.moved ha hK, hD9⟩, hS.F ht9⟩) hS.2.2 (Nat.le_of_ble_eq_true rfl) (Nat.le_of_ble_eq_true rfl)
  have hP1 : va_P (dC, dI) vwCl [(h0, .inr (7, [.ref tp, .int (nI tn), v2, v3, v4, v5, v6]))] H1 := by rw [← ht]; exact hB.1
  have hD1 : va_D (va_A [(h0, .inr (7, [.ref tp, .int (nI tn), v2, v3, v4, v5, v6]))] s.heap.size) [(h0, .inr (7, [.ref tp, .int (nI tn), v2, v3, v4, v5, v6]))] := hB.2.2
  obtain ⟨hP, hD⟩ := va_join (wr := [(tp, .inl (cB, 4000, .inl f))]) (w1 := [(h0, .inr (7, [.ref tp, .int (nI tn), v2, v3, v4, v5, v6]))]) hP hD [0] [1] rfl rfl (by decide) (by decide) hk1 hFc hP1 hD1
  generalize H1 = H at hP hS ⊢
  try dsimp only at hw
  have hP : va_P (dC, dI) vwCl [(tp, .inl (cB, 4000, .inl f)), (h0, .inr (7, [.ref tp, .int (nI tn), v2, v3, v4, v5, v6]))] H := hP
  have hD : va_D A [(tp, .inl (cB, 4000, .inl f)), (h0, .inr (7, [.ref tp, .int (nI tn), v2, v3, v4, v5, v6]))] := hD
  have hr20 : 20 ≤ 4000 - tn := (nI_leI (a := 20) (b := 4000 - tn) (by omega) (by omega)).mp hw
  refine W.eq (g2 := F0 m 6 ls []) rfl ?_
  refine lv_aload_n hx hb dX7_feed_6 rfl (lv_at hl 0 rfl) ?_
  refine lv_iload_n hx hb dX7_feed_7 rfl (lv_at hl 1 rfl) ?_
  have hPc := hP.sub (ws' := [(h0, .inr (7, [.ref tp, .int (nI tn), v2, v3, v4, v5, v6])), (tp, .inl (cB, 4000, .inl f))]) [1, 0] rfl
  have hDc := hD.sub (ws' := [(h0, .inr (7, [.ref tp, .int (nI tn), v2, v3, v4, v5, v6])), (tp, .inl (cB, 4000, .inl f))]) [1, 0] (by decide) rfl
  have hFc := va_free (wc := [(h0, .inr (7, [.ref tp, .int (nI tn), v2, v3, v4, v5, v6])), (tp, .inl (cB, 4000, .inl f))]) hD hS hA [1, 0] rfl
  refine va_callv (va_runV (As := [.int x1]) (rest := []) ⟨hx, hb, hml, hown, hts⟩ (k_X7_appendInt l dC dI cB cI cJ cM h0 tp v2 v3 v4 v5 v6 f tn x1 (by omega) H.size) (cwV 1 hts gX7_feed_X7_appendInt rfl rfl rfl (by decide +kernel) ⟨Nat.le_of_ble_eq_true rfl, Nat.le_of_ble_eq_true rfl⟩) ⟨fun a U g mk q => by obtain ⟨q0, q1, qP, qK, qD⟩ := q; exact ⟨q0, q1, qP, va_K.moved (u := U) (U := U.calling g mk a) (Vm.Alike.refl U.vm) qK, qD⟩, va_recv hK hPc (ci := 7) (q0 := 0) rfl rfl, fun U hU hW => ⟨rfl, by rw [hU], by rw [hU]; exact hPc, va_K.moved hW.alike hK, hDc.weaken (fun _ _ _ _ => trivial)⟩⟩ rfl rfl hl.1 rfl (lv_room (Nat.le_of_ble_eq_true rfl)) dX7_feed_8 ⟨(show 0 + 0 ≤ 1 by omega), (show 0 + 0 ≤ 6 by omega)⟩) hS (fun q _ h => hFc q h) hFc (fun u t H1 locs ht hvm hw hB hz1 hk1 hS => ?_)
  have hP1 : va_P (dC, dI) vwCl [(h0, .inr (7, [.ref tp, .int (nI (tn + 4)), v2, v3, v4, v5, v6])), (tp, .inl (cB, 4000, .inl (zap4 f tn x1)))] H1 := by rw [← ht]; exact hB.1
  have hD1 : va_D (va_A [(h0, .inr (7, [.ref tp, .int (nI tn), v2, v3, v4, v5, v6])), (tp, .inl (cB, 4000, .inl f))] H.size) [(h0, .inr (7, [.ref tp, .int (nI (tn + 4)), v2, v3, v4, v5, v6])), (tp, .inl (cB, 4000, .inl (zap4 f tn x1)))] := hB.2.2
  obtain ⟨hP, hD⟩ := va_join (wr := []) (w1 := [(h0, .inr (7, [.ref tp, .int (nI (tn + 4)), v2, v3, v4, v5, v6])), (tp, .inl (cB, 4000, .inl (zap4 f tn x1)))]) hP hD [1, 0] [] rfl rfl (by decide) (by decide) hk1 hFc hP1 hD1
  generalize H1 = H at hP hS ⊢
  try dsimp only at hw
  have hP : va_P (dC, dI) vwCl [(h0, .inr (7, [.ref tp, .int (nI (tn + 4)), v2, v3, v4, v5, v6])), (tp, .inl (cB, 4000, .inl (zap4 f tn x1)))] H := hP
  have hD : va_D A [(h0, .inr (7, [.ref tp, .int (nI (tn + 4)), v2, v3, v4, v5, v6])), (tp, .inl (cB, 4000, .inl (zap4 f tn x1)))] := hD
  refine W.eq (g2 := F0 m 11 ls []) rfl ?_
  refine lv_aload_n hx hb dX7_feed_11 rfl (lv_at hl 0 rfl) ?_
  refine lv_iload_n hx hb dX7_feed_12 rfl (lv_at hl 2 rfl) ?_
  have hPc := hP.sub (ws' := [(h0, .inr (7, [.ref tp, .int (nI (tn + 4)), v2, v3, v4, v5, v6])), (tp, .inl (cB, 4000, .inl (zap4 f tn x1)))]) [0, 1] rfl
  have hDc := hD.sub (ws' := [(h0, .inr (7, [.ref tp, .int (nI (tn + 4)), v2, v3, v4, v5, v6])), (tp, .inl (cB, 4000, .inl (zap4 f tn x1)))]) [0, 1] (by decide) rfl
  have hFc := va_free (wc := [(h0, .inr (7, [.ref tp, .int (nI (tn + 4)), v2, v3, v4, v5, v6])), (tp, .inl (cB, 4000, .inl (zap4 f tn x1)))]) hD hS hA [0, 1] rfl
  refine va_callv (va_runV (As := [.int x2]) (rest := []) ⟨hx, hb, hml, hown, hts⟩ (k_X7_appendInt l dC dI cB cI cJ cM h0 tp v2 v3 v4 v5 v6 (zap4 f tn x1) (tn + 4) x2 (by omega) H.size) (cwV 1 hts gX7_feed_X7_appendInt rfl rfl rfl (by decide +kernel) ⟨Nat.le_of_ble_eq_true rfl, Nat.le_of_ble_eq_true rfl⟩) ⟨fun a U g mk q => by obtain ⟨q0, q1, qP, qK, qD⟩ := q; exact ⟨q0, q1, qP, va_K.moved (u := U) (U := U.calling g mk a) (Vm.Alike.refl U.vm) qK, qD⟩, va_recv hK hPc (ci := 7) (q0 := 0) rfl rfl, fun U hU hW => ⟨rfl, by rw [hU], by rw [hU]; exact hPc, va_K.moved hW.alike hK, hDc.weaken (fun _ _ _ _ => trivial)⟩⟩ rfl rfl hl.1 rfl (lv_room (Nat.le_of_ble_eq_true rfl)) dX7_feed_13 ⟨(show 0 + 0 ≤ 1 by omega), (show 0 + 0 ≤ 6 by omega)⟩) hS (fun q _ h => hFc q h) hFc (fun u t H1 locs ht hvm hw hB hz1 hk1 hS => ?_)
  have hP1 : va_P (dC, dI) vwCl [(h0, .inr (7, [.ref tp, .int (nI ((tn + 4) + 4)), v2, v3, v4, v5, v6])), (tp, .inl (cB, 4000, .inl (zap4 (zap4 f tn x1) (tn + 4) x2)))] H1 := by rw [← ht]; exact hB.1
  have hD1 : va_D (va_A [(h0, .inr (7, [.ref tp, .int (nI (tn + 4)), v2, v3, v4, v5, v6])), (tp, .inl (cB, 4000, .inl (zap4 f tn x1)))] H.size) [(h0, .inr (7, [.ref tp, .int (nI ((tn + 4) + 4)), v2, v3, v4, v5, v6])), (tp, .inl (cB, 4000, .inl (zap4 (zap4 f tn x1) (tn + 4) x2)))] := hB.2.2
  obtain ⟨hP, hD⟩ := va_join (wr := []) (w1 := [(h0, .inr (7, [.ref tp, .int (nI ((tn + 4) + 4)), v2, v3, v4, v5, v6])), (tp, .inl (cB, 4000, .inl (zap4 (zap4 f tn x1) (tn + 4) x2)))]) hP hD [0, 1] [] rfl rfl (by decide) (by decide) hk1 hFc hP1 hD1
  generalize H1 = H at hP hS ⊢
  try dsimp only at hw
  have hP : va_P (dC, dI) vwCl [(h0, .inr (7, [.ref tp, .int (nI ((tn + 4) + 4)), v2, v3, v4, v5, v6])), (tp, .inl (cB, 4000, .inl (zap4 (zap4 f tn x1) (tn + 4) x2)))] H := hP
  have hD : va_D A [(h0, .inr (7, [.ref tp, .int (nI ((tn + 4) + 4)), v2, v3, v4, v5, v6])), (tp, .inl (cB, 4000, .inl (zap4 (zap4 f tn x1) (tn + 4) x2)))] := hD
  have e9 : (tn + 4) + 4 = tn + 8 := by omega
  rw [e9] at hP hD
  have hP : va_P (dC, dI) vwCl [(h0, .inr (7, [.ref tp, .int (nI (tn + 8)), v2, v3, v4, v5, v6])), (tp, .inl (cB, 4000, .inl (zap4 (zap4 f tn x1) (tn + 4) x2)))] H := hP
  have hD : va_D A [(h0, .inr (7, [.ref tp, .int (nI (tn + 8)), v2, v3, v4, v5, v6])), (tp, .inl (cB, 4000, .inl (zap4 (zap4 f tn x1) (tn + 4) x2)))] := hD
  refine W.eq (g2 := F0 m 16 ls []) rfl ?_
  refine lv_aload_n hx hb dX7_feed_16 rfl (lv_at hl 0 rfl) ?_
  refine lv_iload_n hx hb dX7_feed_17 rfl (lv_at hl 3 rfl) ?_
  have hPc := hP.sub (ws' := [(h0, .inr (7, [.ref tp, .int (nI (tn + 8)), v2, v3, v4, v5, v6])), (tp, .inl (cB, 4000, .inl (zap4 (zap4 f tn x1) (tn + 4) x2)))]) [0, 1] rfl
  have hDc := hD.sub (ws' := [(h0, .inr (7, [.ref tp, .int (nI (tn + 8)), v2, v3, v4, v5, v6])), (tp, .inl (cB, 4000, .inl (zap4 (zap4 f tn x1) (tn + 4) x2)))]) [0, 1] (by decide) rfl
  have hFc := va_free (wc := [(h0, .inr (7, [.ref tp, .int (nI (tn + 8)), v2, v3, v4, v5, v6])), (tp, .inl (cB, 4000, .inl (zap4 (zap4 f tn x1) (tn + 4) x2)))]) hD hS hA [0, 1] rfl
  refine va_callv (va_runV (As := [.int x3]) (rest := []) ⟨hx, hb, hml, hown, hts⟩ (k_X7_appendInt l dC dI cB cI cJ cM h0 tp v2 v3 v4 v5 v6 (zap4 (zap4 f tn x1) (tn + 4) x2) (tn + 8) x3 (by omega) H.size) (cwV 1 hts gX7_feed_X7_appendInt rfl rfl rfl (by decide +kernel) ⟨Nat.le_of_ble_eq_true rfl, Nat.le_of_ble_eq_true rfl⟩) ⟨fun a U g mk q => by obtain ⟨q0, q1, qP, qK, qD⟩ := q; exact ⟨q0, q1, qP, va_K.moved (u := U) (U := U.calling g mk a) (Vm.Alike.refl U.vm) qK, qD⟩, va_recv hK hPc (ci := 7) (q0 := 0) rfl rfl, fun U hU hW => ⟨rfl, by rw [hU], by rw [hU]; exact hPc, va_K.moved hW.alike hK, hDc.weaken (fun _ _ _ _ => trivial)⟩⟩ rfl rfl hl.1 rfl (lv_room (Nat.le_of_ble_eq_true rfl)) dX7_feed_18 ⟨(show 0 + 0 ≤ 1 by omega), (show 0 + 0 ≤ 6 by omega)⟩) hS (fun q _ h => hFc q h) hFc (fun u t H1 locs ht hvm hw hB hz1 hk1 hS => ?_)
  have hP1 : va_P (dC, dI) vwCl [(h0, .inr (7, [.ref tp, .int (nI ((tn + 8) + 4)), v2, v3, v4, v5, v6])), (tp, .inl (cB, 4000, .inl (zap4 (zap4 (zap4 f tn x1) (tn + 4) x2) (tn + 8) x3)))] H1 := by rw [← ht]; exact hB.1
  have hD1 : va_D (va_A [(h0, .inr (7, [.ref tp, .int (nI (tn + 8)), v2, v3, v4, v5, v6])), (tp, .inl (cB, 4000, .inl (zap4 (zap4 f tn x1) (tn + 4) x2)))] H.size) [(h0, .inr (7, [.ref tp, .int (nI ((tn + 8) + 4)), v2, v3, v4, v5, v6])), (tp, .inl (cB, 4000, .inl (zap4 (zap4 (zap4 f tn x1) (tn + 4) x2) (tn + 8) x3)))] := hB.2.2
  obtain ⟨hP, hD⟩ := va_join (wr := []) (w1 := [(h0, .inr (7, [.ref tp, .int (nI ((tn + 8) + 4)), v2, v3, v4, v5, v6])), (tp, .inl (cB, 4000, .inl (zap4 (zap4 (zap4 f tn x1) (tn + 4) x2) (tn + 8) x3)))]) hP hD [0, 1] [] rfl rfl (by decide) (by decide) hk1 hFc hP1 hD1
  generalize H1 = H at hP hS ⊢
  try dsimp only at hw
  have hP : va_P (dC, dI) vwCl [(h0, .inr (7, [.ref tp, .int (nI ((tn + 8) + 4)), v2, v3, v4, v5, v6])), (tp, .inl (cB, 4000, .inl (zap4 (zap4 (zap4 f tn x1) (tn + 4) x2) (tn + 8) x3)))] H := hP
  have hD : va_D A [(h0, .inr (7, [.ref tp, .int (nI ((tn + 8) + 4)), v2, v3, v4, v5, v6])), (tp, .inl (cB, 4000, .inl (zap4 (zap4 (zap4 f tn x1) (tn + 4) x2) (tn + 8) x3)))] := hD
  have e9 : (tn + 8) + 4 = tn + 12 := by omega
  rw [e9] at hP hD
  have hP : va_P (dC, dI) vwCl [(h0, .inr (7, [.ref tp, .int (nI (tn + 12)), v2, v3, v4, v5, v6])), (tp, .inl (cB, 4000, .inl (zap4 (zap4 (zap4 f tn x1) (tn + 4) x2) (tn + 8) x3)))] H := hP
  have hD : va_D A [(h0, .inr (7, [.ref tp, .int (nI (tn + 12)), v2, v3, v4, v5, v6])), (tp, .inl (cB, 4000, .inl (zap4 (zap4 (zap4 f tn x1) (tn + 4) x2) (tn + 8) x3)))] := hD
  refine W.eq (g2 := F0 m 21 ls []) rfl ?_
  refine lv_aload_n hx hb dX7_feed_21 rfl (lv_at hl 0 rfl) ?_
  refine lv_iload hx hb dX7_feed_22 (lv_at hl 4 rfl) ?_
  have hPc := hP.sub (ws' := [(h0, .inr (7, [.ref tp, .int (nI (tn + 12)), v2, v3, v4, v5, v6])), (tp, .inl (cB, 4000, .inl (zap4 (zap4 (zap4 f tn x1) (tn + 4) x2) (tn + 8) x3)))]) [0, 1] rfl
  have hDc := hD.sub (ws' := [(h0, .inr (7, [.ref tp, .int (nI (tn + 12)), v2, v3, v4, v5, v6])), (tp, .inl (cB, 4000, .inl (zap4 (zap4 (zap4 f tn x1) (tn + 4) x2) (tn + 8) x3)))]) [0, 1] (by decide) rfl
  have hFc := va_free (wc := [(h0, .inr (7, [.ref tp, .int (nI (tn + 12)), v2, v3, v4, v5, v6])), (tp, .inl (cB, 4000, .inl (zap4 (zap4 (zap4 f tn x1) (tn + 4) x2) (tn + 8) x3)))]) hD hS hA [0, 1] rfl
  refine va_callv (va_runV (As := [.int x4]) (rest := []) ⟨hx, hb, hml, hown, hts⟩ (k_X7_appendInt l dC dI cB cI cJ cM h0 tp v2 v3 v4 v5 v6 (zap4 (zap4 (zap4 f tn x1) (tn + 4) x2) (tn + 8) x3) (tn + 12) x4 (by omega) H.size) (cwV 1 hts gX7_feed_X7_appendInt rfl rfl rfl (by decide +kernel) ⟨Nat.le_of_ble_eq_true rfl, Nat.le_of_ble_eq_true rfl⟩) ⟨fun a U g mk q => by obtain ⟨q0, q1, qP, qK, qD⟩ := q; exact ⟨q0, q1, qP, va_K.moved (u := U) (U := U.calling g mk a) (Vm.Alike.refl U.vm) qK, qD⟩, va_recv hK hPc (ci := 7) (q0 := 0) rfl rfl, fun U hU hW => ⟨rfl, by rw [hU], by rw [hU]; exact hPc, va_K.moved hW.alike hK, hDc.weaken (fun _ _ _ _ => trivial)⟩⟩ rfl rfl hl.1 rfl (lv_room (Nat.le_of_ble_eq_true rfl)) dX7_feed_24 ⟨(show 0 + 0 ≤ 1 by omega), (show 0 + 0 ≤ 6 by omega)⟩) hS (fun q _ h => hFc q h) hFc (fun u t H1 locs ht hvm hw hB hz1 hk1 hS => ?_)
  have hP1 : va_P (dC, dI) vwCl [(h0, .inr (7, [.ref tp, .int (nI ((tn + 12) + 4)), v2, v3, v4, v5, v6])), (tp, .inl (cB, 4000, .inl (zap4 (zap4 (zap4 (zap4 f tn x1) (tn + 4) x2) (tn + 8) x3) (tn + 12) x4)))] H1 := by rw [← ht]; exact hB.1
  have hD1 : va_D (va_A [(h0, .inr (7, [.ref tp, .int (nI (tn + 12)), v2, v3, v4, v5, v6])), (tp, .inl (cB, 4000, .inl (zap4 (zap4 (zap4 f tn x1) (tn + 4) x2) (tn + 8) x3)))] H.size) [(h0, .inr (7, [.ref tp, .int (nI ((tn + 12) + 4)), v2, v3, v4, v5, v6])), (tp, .inl (cB, 4000, .inl (zap4 (zap4 (zap4 (zap4 f tn x1) (tn + 4) x2) (tn + 8) x3) (tn + 12) x4)))] := hB.2.2
  obtain ⟨hP, hD⟩ := va_join (wr := []) (w1 := [(h0, .inr (7, [.ref tp, .int (nI ((tn + 12) + 4)), v2, v3, v4, v5, v6])), (tp, .inl (cB, 4000, .inl (zap4 (zap4 (zap4 (zap4 f tn x1) (tn + 4) x2) (tn + 8) x3) (tn + 12) x4)))]) hP hD [0, 1] [] rfl rfl (by decide) (by decide) hk1 hFc hP1 hD1
  generalize H1 = H at hP hS ⊢
  try dsimp only at hw
  have hP : va_P (dC, dI) vwCl [(h0, .inr (7, [.ref tp, .int (nI ((tn + 12) + 4)), v2, v3, v4, v5, v6])), (tp, .inl (cB, 4000, .inl (zap4 (zap4 (zap4 (zap4 f tn x1) (tn + 4) x2) (tn + 8) x3) (tn + 12) x4)))] H := hP
  have hD : va_D A [(h0, .inr (7, [.ref tp, .int (nI ((tn + 12) + 4)), v2, v3, v4, v5, v6])), (tp, .inl (cB, 4000, .inl (zap4 (zap4 (zap4 (zap4 f tn x1) (tn + 4) x2) (tn + 8) x3) (tn + 12) x4)))] := hD
  have e9 : (tn + 12) + 4 = tn + 16 := by omega
  rw [e9] at hP hD
  have hP : va_P (dC, dI) vwCl [(h0, .inr (7, [.ref tp, .int (nI (tn + 16)), v2, v3, v4, v5, v6])), (tp, .inl (cB, 4000, .inl (zap4 (zap4 (zap4 (zap4 f tn x1) (tn + 4) x2) (tn + 8) x3) (tn + 12) x4)))] H := hP
  have hD : va_D A [(h0, .inr (7, [.ref tp, .int (nI (tn + 16)), v2, v3, v4, v5, v6])), (tp, .inl (cB, 4000, .inl (zap4 (zap4 (zap4 (zap4 f tn x1) (tn + 4) x2) (tn + 8) x3) (tn + 12) x4)))] := hD
  refine W.eq (g2 := F0 m 27 ls []) rfl ?_
  refine lv_aload_n hx hb dX7_feed_27 rfl (lv_at hl 0 rfl) ?_
  refine lv_iload hx hb dX7_feed_28 (lv_at hl 5 rfl) ?_
  have hPc := hP.sub (ws' := [(h0, .inr (7, [.ref tp, .int (nI (tn + 16)), v2, v3, v4, v5, v6])), (tp, .inl (cB, 4000, .inl (zap4 (zap4 (zap4 (zap4 f tn x1) (tn + 4) x2) (tn + 8) x3) (tn + 12) x4)))]) [0, 1] rfl
  have hDc := hD.sub (ws' := [(h0, .inr (7, [.ref tp, .int (nI (tn + 16)), v2, v3, v4, v5, v6])), (tp, .inl (cB, 4000, .inl (zap4 (zap4 (zap4 (zap4 f tn x1) (tn + 4) x2) (tn + 8) x3) (tn + 12) x4)))]) [0, 1] (by decide) rfl
  have hFc := va_free (wc := [(h0, .inr (7, [.ref tp, .int (nI (tn + 16)), v2, v3, v4, v5, v6])), (tp, .inl (cB, 4000, .inl (zap4 (zap4 (zap4 (zap4 f tn x1) (tn + 4) x2) (tn + 8) x3) (tn + 12) x4)))]) hD hS hA [0, 1] rfl
  refine va_callv (va_runV (As := [.int x5]) (rest := []) ⟨hx, hb, hml, hown, hts⟩ (k_X7_appendInt l dC dI cB cI cJ cM h0 tp v2 v3 v4 v5 v6 (zap4 (zap4 (zap4 (zap4 f tn x1) (tn + 4) x2) (tn + 8) x3) (tn + 12) x4) (tn + 16) x5 (by omega) H.size) (cwV 1 hts gX7_feed_X7_appendInt rfl rfl rfl (by decide +kernel) ⟨Nat.le_of_ble_eq_true rfl, Nat.le_of_ble_eq_true rfl⟩) ⟨fun a U g mk q => by obtain ⟨q0, q1, qP, qK, qD⟩ := q; exact ⟨q0, q1, qP, va_K.moved (u := U) (U := U.calling g mk a) (Vm.Alike.refl U.vm) qK, qD⟩, va_recv hK hPc (ci := 7) (q0 := 0) rfl rfl, fun U hU hW => ⟨rfl, by rw [hU], by rw [hU]; exact hPc, va_K.moved hW.alike hK, hDc.weaken (fun _ _ _ _ => trivial)⟩⟩ rfl rfl hl.1 rfl (lv_room (Nat.le_of_ble_eq_true rfl)) dX7_feed_30 ⟨(show 0 + 0 ≤ 1 by omega), (show 0 + 0 ≤ 6 by omega)⟩) hS (fun q _ h => hFc q h) hFc (fun u t H1 locs ht hvm hw hB hz1 hk1 hS => ?_)
  have hP1 : va_P (dC, dI) vwCl [(h0, .inr (7, [.ref tp, .int (nI ((tn + 16) + 4)), v2, v3, v4, v5, v6])), (tp, .inl (cB, 4000, .inl (zap4 (zap4 (zap4 (zap4 (zap4 f tn x1) (tn + 4) x2) (tn + 8) x3) (tn + 12) x4) (tn + 16) x5)))] H1 := by rw [← ht]; exact hB.1
  have hD1 : va_D (va_A [(h0, .inr (7, [.ref tp, .int (nI (tn + 16)), v2, v3, v4, v5, v6])), (tp, .inl (cB, 4000, .inl (zap4 (zap4 (zap4 (zap4 f tn x1) (tn + 4) x2) (tn + 8) x3) (tn + 12) x4)))] H.size) [(h0, .inr (7, [.ref tp, .int (nI ((tn + 16) + 4)), v2, v3, v4, v5, v6])), (tp, .inl (cB, 4000, .inl (zap4 (zap4 (zap4 (zap4 (zap4 f tn x1) (tn + 4) x2) (tn + 8) x3) (tn + 12) x4) (tn + 16) x5)))] := hB.2.2
  obtain ⟨hP, hD⟩ := va_join (wr := []) (w1 := [(h0, .inr (7, [.ref tp, .int (nI ((tn + 16) + 4)), v2, v3, v4, v5, v6])), (tp, .inl (cB, 4000, .inl (zap4 (zap4 (zap4 (zap4 (zap4 f tn x1) (tn + 4) x2) (tn + 8) x3) (tn + 12) x4) (tn + 16) x5)))]) hP hD [0, 1] [] rfl rfl (by decide) (by decide) hk1 hFc hP1 hD1
  generalize H1 = H at hP hS ⊢
  try dsimp only at hw
  have hP : va_P (dC, dI) vwCl [(h0, .inr (7, [.ref tp, .int (nI ((tn + 16) + 4)), v2, v3, v4, v5, v6])), (tp, .inl (cB, 4000, .inl (zap4 (zap4 (zap4 (zap4 (zap4 f tn x1) (tn + 4) x2) (tn + 8) x3) (tn + 12) x4) (tn + 16) x5)))] H := hP
  have hD : va_D A [(h0, .inr (7, [.ref tp, .int (nI ((tn + 16) + 4)), v2, v3, v4, v5, v6])), (tp, .inl (cB, 4000, .inl (zap4 (zap4 (zap4 (zap4 (zap4 f tn x1) (tn + 4) x2) (tn + 8) x3) (tn + 12) x4) (tn + 16) x5)))] := hD
  have e9 : (tn + 16) + 4 = tn + 20 := by omega
  rw [e9] at hP hD
  have hP : va_P (dC, dI) vwCl [(h0, .inr (7, [.ref tp, .int (nI (tn + 20)), v2, v3, v4, v5, v6])), (tp, .inl (cB, 4000, .inl (zap4 (zap4 (zap4 (zap4 (zap4 f tn x1) (tn + 4) x2) (tn + 8) x3) (tn + 12) x4) (tn + 16) x5)))] H := hP
  have hD : va_D A [(h0, .inr (7, [.ref tp, .int (nI (tn + 20)), v2, v3, v4, v5, v6])), (tp, .inl (cB, 4000, .inl (zap4 (zap4 (zap4 (zap4 (zap4 f tn x1) (tn + 4) x2) (tn + 8) x3) (tn + 12) x4) (tn + 16) x5)))] := hD
  refine W.eq (g2 := F0 m 33 ls []) rfl ?_
  refine lv_aload_n hx hb dX7_feed_33 rfl (lv_at hl 0 rfl) ?_
  refine va_get (D := (dC, dI)) (ci := 7) (v := .int (nI (tn + 20))) (C := RX7) (T := TX7) (N := 7) hx hb hts (by decide +kernel) hown hK hP 0 rfl rfl 1 (by decide) (hts (.fieldLink RX7 40 "FixedPress" "tapeLength" "I") (by decide +kernel)) (fun _ h9 => h9) rfl dX7_feed_34 ?_
  have hP9 := hP.sub (ws' := [(h0, .inr (7, [.ref tp, .int (nI (tn + 20)), v2, v3, v4, v5, v6])), (tp, .inl (cB, 4000, .inl (zap4 (zap4 (zap4 (zap4 (zap4 f tn x1) (tn + 4) x2) (tn + 8) x3) (tn + 12) x4) (tn + 16) x5)))]) [0, 1] rfl
  have hD9 := hD.sub (ws' := [(h0, .inr (7, [.ref tp, .int (nI (tn + 20)), v2, v3, v4, v5, v6])), (tp, .inl (cB, 4000, .inl (zap4 (zap4 (zap4 (zap4 (zap4 f tn x1) (tn + 4) x2) (tn + 8) x3) (tn + 12) x4) (tn + 16) x5)))]) [0, 1] (by decide) rfl
  exact vx_ret (W.iret (v := (nI (tn + 20))) hx hb hr (fun t ht hW => ⟨⟨(nI (tn + 20)), (), rfl, ⟨by omega, rfl⟩, ⟨by rw [ht]; exact hP9, va_K.moved hW.alike hK, hD9⟩⟩, hS.F ht⟩) hS.2.2 dX7_feed_37)
