abbrev rm_X1_init : Room := { frames := 1, cells := 0, slots := 0, locals := 12 }
abbrev wo_X1_init (dC : Nat → ClassId) (dI : Nat → Nat → Nat) (cB cI cJ cM : ClassId) (h0 : Nat) (v1 v2 v3 v4 : Value) : va_W := [(h0, .inr (1, [v1, v2, v3, v4]))]
abbrev q_X1_init (dC : Nat → ClassId) (dI : Nat → Nat → Nat) (cB cI cJ cM : ClassId) (h0 : Nat) (v1 v2 v3 v4 : Value) (A : Nat → Prop) : Array Value → State → Outcome → State → Prop := va_Qv (fun (u : Unit) => True) (zB dC dI cB cI cJ cM A (fun u : Unit => [(h0, .inr (1, [v1, v2, v3, v4]))])) A
set_option maxHeartbeats 8000000 in
set_option maxRecDepth 100000 in
theorem k_X1_init (l : Launch) (dC : Nat → ClassId) (dI : Nat → Nat → Nat) (cB cI cJ cM : ClassId) (h0 : Nat) (v1 v2 v3 v4 : Value) (sz : Nat) : Met l yX1_init wsX1_init rm_X1_init (va_Pc [.ref h0] (fun U => U.heap.size = sz ∧ va_P (dC, dI) vwCl (wo_X1_init dC dI cB cI cJ cM h0 v1 v2 v3 v4) U.heap ∧ va_K (dC, dI) vwCl (zT cB cI cJ cM) U ∧ va_D (fun _ => True) (wo_X1_init dC dI cB cI cJ cM h0 v1 v2 v3 v4))) (q_X1_init dC dI cB cI cJ cM h0 v1 v2 v3 v4 (va_A (wo_X1_init dC dI cB cI cJ cM h0 v1 v2 v3 v4) sz)) 0 0 (va_A (wo_X1_init dC dI cB cI cJ cM h0 v1 v2 v3 v4) sz) := by
  refine Met.ofW (cc := cX1_init) (maxL := 1) (ret := none) (by decide) rfl ?_
  intro p e s m args below meth c s₁ B hml hv
  obtain ⟨rfl, hsz, hP, hK, hD0⟩ := hv
  have hx := B.exec
  have hb := B.bytes
  have hr := B.returns
  have hts := atoms_spec (ws := wsX1_init) B.pre
  have hown : s.vm.findClass RX1 = some m.cls := findClass_of_methodNamed B.named
  have hlocks := B.notSynchronized
  have hin : meth.name = "<init>" := (name_of_methodNamed B.named B.method).1
  subst hsz
  have hD := hD0.self (sz := s.heap.size)
  generalize hAe : va_A (wo_X1_init dC dI cB cI cJ cM h0 v1 v2 v3 v4) s.heap.size = A at hD ⊢
  have hA : ∀ q : Nat, s.heap.size ≤ q → A q := fun q h => by rw [← hAe]; exact Or.inr h
  have hS : va_S A s.heap s.heap [] := va_S.rf
  have hP : va_P (dC, dI) vwCl [(h0, .inr (1, [v1, v2, v3, v4]))] s.heap := hP
  have hD : va_D A [(h0, .inr (1, [v1, v2, v3, v4]))] := hD
  have hl := lv_entry ([.ref h0]) (n := 1) (Nat.le_of_ble_eq_true rfl)
  rw [lg_entry_eq]
  generalize (lg_sl ([.ref h0]) ++ List.replicate (1 - (lg_sl ([.ref h0])).length) Slot.unset).toArray = ls at hl ⊢
  have hl : lv_has ls 1 [(0, .ref h0)] := hl
  refine lv_aload_n hx hb dX1_init_0 rfl (lv_at hl 0 rfl) ?_
  refine W.objInit hx hb hown (hts (.methodLink RX1 1 objectInit) (by decide +kernel)) (hts (.instanceMethod objectInit) (by decide +kernel)) (hts (.code objectInit ⟨#[0xb1]⟩ 1 none) (by decide +kernel)) rfl (by rw [hml]; exact hl.1) rfl dX1_init_1 (Nat.le_of_ble_eq_true rfl) (Nat.le_of_ble_eq_true rfl) ?_
  refine W.eq (g2 := F0 m 4 ls []) rfl ?_
  have hP9 := hP.sub (ws' := [(h0, .inr (1, [v1, v2, v3, v4]))]) [0] rfl
  have hD9 := hD.sub (ws' := [(h0, .inr (1, [v1, v2, v3, v4]))]) [0] (by decide) rfl
  exact W.vret hx hb hr (fun t ht hW => ⟨⟨(), rfl, trivial, ⟨by rw [ht]; exact hP9, va_K.moved hW.alike hK, hD9⟩⟩, hS.F ht⟩) hS.2.2 dX1_init_4

abbrev rm_X1_begin : Room := { frames := 0, cells := 0, slots := 0, locals := 0 }
abbrev wo_X1_begin (dC : Nat → ClassId) (dI : Nat → Nat → Nat) (cB cI cJ cM : ClassId) (h0 b : Nat) (v1 v2 v3 v4 : Value) : va_W := [(h0, .inr (1, [v1, v2, v3, v4]))]
abbrev q_X1_begin (dC : Nat → ClassId) (dI : Nat → Nat → Nat) (cB cI cJ cM : ClassId) (h0 b : Nat) (v1 v2 v3 v4 : Value) (A : Nat → Prop) : Array Value → State → Outcome → State → Prop := va_Qv (fun (u : Unit) => True) (zB dC dI cB cI cJ cM A (fun u : Unit => [(h0, .inr (1, [.ref b, .int 0, .int 0, .int 0]))])) A
set_option maxHeartbeats 8000000 in
set_option maxRecDepth 100000 in
theorem k_X1_begin (l : Launch) (dC : Nat → ClassId) (dI : Nat → Nat → Nat) (cB cI cJ cM : ClassId) (h0 b : Nat) (v1 v2 v3 v4 : Value) (sz : Nat) : Met l yX1_begin wsX1_begin rm_X1_begin (va_Pc [.ref h0, .ref b] (fun U => U.heap.size = sz ∧ va_P (dC, dI) vwCl (wo_X1_begin dC dI cB cI cJ cM h0 b v1 v2 v3 v4) U.heap ∧ va_K (dC, dI) vwCl (zT cB cI cJ cM) U ∧ va_D (fun _ => True) (wo_X1_begin dC dI cB cI cJ cM h0 b v1 v2 v3 v4))) (q_X1_begin dC dI cB cI cJ cM h0 b v1 v2 v3 v4 (va_A (wo_X1_begin dC dI cB cI cJ cM h0 b v1 v2 v3 v4) sz)) 0 0 (va_A (wo_X1_begin dC dI cB cI cJ cM h0 b v1 v2 v3 v4) sz) := by
  refine Met.ofW (cc := cX1_begin) (maxL := 2) (ret := none) (by decide) rfl ?_
  intro p e s m args below meth c s₁ B hml hv
  obtain ⟨rfl, hsz, hP, hK, hD0⟩ := hv
  have hx := B.exec
  have hb := B.bytes
  have hr := B.returns
  have hts := atoms_spec (ws := wsX1_begin) B.pre
  have hown : s.vm.findClass RX1 = some m.cls := findClass_of_methodNamed B.named
  have hlocks := B.notSynchronized
  subst hsz
  have hD := hD0.self (sz := s.heap.size)
  generalize hAe : va_A (wo_X1_begin dC dI cB cI cJ cM h0 b v1 v2 v3 v4) s.heap.size = A at hD ⊢
  have hA : ∀ q : Nat, s.heap.size ≤ q → A q := fun q h => by rw [← hAe]; exact Or.inr h
  have hS : va_S A s.heap s.heap [] := va_S.rf
  have hP : va_P (dC, dI) vwCl [(h0, .inr (1, [v1, v2, v3, v4]))] s.heap := hP
  have hD : va_D A [(h0, .inr (1, [v1, v2, v3, v4]))] := hD
  have hl := lv_entry ([.ref h0, .ref b]) (n := 2) (Nat.le_of_ble_eq_true rfl)
  rw [lg_entry_eq]
  generalize (lg_sl ([.ref h0, .ref b]) ++ List.replicate (2 - (lg_sl ([.ref h0, .ref b])).length) Slot.unset).toArray = ls at hl ⊢
  have hl : lv_has ls 2 [(0, .ref h0), (1, .ref b)] := hl
  refine lv_aload_n hx hb dX1_begin_0 rfl (lv_at hl 0 rfl) ?_
  refine lv_aload_n hx hb dX1_begin_1 rfl (lv_at hl 1 rfl) ?_
  refine va_put (D := (dC, dI)) (ci := 1) (v := .ref b) (ty := .array .byte) (C := RX1) (T := TX1) (N := 4) hx hb hts (by decide +kernel) tyX1 tyX1_ok nmX1 hown hK hP hD hS 0 rfl rfl 0 (by decide) (hts (.fieldLink RX1 7 "FixedPress$BitWriter" "bytes" "[B") (by decide +kernel)) (fun _ h9 => h9) rfl (by decide +kernel) rfl rfl (Nat.le_of_ble_eq_true rfl) dX1_begin_2 (fun H locs hP hD hS => ?_)
  have hP : va_P (dC, dI) vwCl [(h0, .inr (1, [.ref b, v2, v3, v4]))] H := hP
  have hD : va_D A [(h0, .inr (1, [.ref b, v2, v3, v4]))] := hD
  refine lv_aload_n hx hb dX1_begin_5 rfl (lv_at hl 0 rfl) ?_
  refine lv_iconst (v := 0) hx hb dX1_begin_6 (by decide) ?_
  refine va_put (D := (dC, dI)) (ci := 1) (v := .int 0) (ty := .int) (C := RX1) (T := TX1) (N := 4) hx hb hts (by decide +kernel) tyX1 tyX1_ok nmX1 hown hK hP hD hS 0 rfl rfl 1 (by decide) (hts (.fieldLink RX1 13 "FixedPress$BitWriter" "length" "I") (by decide +kernel)) (fun _ h9 => h9) rfl (by decide +kernel) rfl rfl (Nat.le_of_ble_eq_true rfl) dX1_begin_7 (fun H locs hP hD hS => ?_)
  have hP : va_P (dC, dI) vwCl [(h0, .inr (1, [.ref b, .int 0, v3, v4]))] H := hP
  have hD : va_D A [(h0, .inr (1, [.ref b, .int 0, v3, v4]))] := hD
  refine lv_aload_n hx hb dX1_begin_10 rfl (lv_at hl 0 rfl) ?_
  refine lv_iconst (v := 0) hx hb dX1_begin_11 (by decide) ?_
  refine va_put (D := (dC, dI)) (ci := 1) (v := .int 0) (ty := .int) (C := RX1) (T := TX1) (N := 4) hx hb hts (by decide +kernel) tyX1 tyX1_ok nmX1 hown hK hP hD hS 0 rfl rfl 2 (by decide) (hts (.fieldLink RX1 17 "FixedPress$BitWriter" "held" "I") (by decide +kernel)) (fun _ h9 => h9) rfl (by decide +kernel) rfl rfl (Nat.le_of_ble_eq_true rfl) dX1_begin_12 (fun H locs hP hD hS => ?_)
  have hP : va_P (dC, dI) vwCl [(h0, .inr (1, [.ref b, .int 0, .int 0, v4]))] H := hP
  have hD : va_D A [(h0, .inr (1, [.ref b, .int 0, .int 0, v4]))] := hD
  refine lv_aload_n hx hb dX1_begin_15 rfl (lv_at hl 0 rfl) ?_
  refine lv_iconst (v := 0) hx hb dX1_begin_16 (by decide) ?_
  refine va_put (D := (dC, dI)) (ci := 1) (v := .int 0) (ty := .int) (C := RX1) (T := TX1) (N := 4) hx hb hts (by decide +kernel) tyX1 tyX1_ok nmX1 hown hK hP hD hS 0 rfl rfl 3 (by decide) (hts (.fieldLink RX1 20 "FixedPress$BitWriter" "heldBits" "I") (by decide +kernel)) (fun _ h9 => h9) rfl (by decide +kernel) rfl rfl (Nat.le_of_ble_eq_true rfl) dX1_begin_17 (fun H locs hP hD hS => ?_)
  have hP : va_P (dC, dI) vwCl [(h0, .inr (1, [.ref b, .int 0, .int 0, .int 0]))] H := hP
  have hD : va_D A [(h0, .inr (1, [.ref b, .int 0, .int 0, .int 0]))] := hD
  have hP9 := hP.sub (ws' := [(h0, .inr (1, [.ref b, .int 0, .int 0, .int 0]))]) [0] rfl
  have hD9 := hD.sub (ws' := [(h0, .inr (1, [.ref b, .int 0, .int 0, .int 0]))]) [0] (by decide) rfl
  exact W.vret hx hb hr (fun t ht hW => ⟨⟨(), rfl, trivial, ⟨by rw [ht]; exact hP9, va_K.moved hW.alike hK, hD9⟩⟩, hS.F ht⟩) hS.2.2 dX1_begin_20

abbrev rm_X1_writeBits : Room := { frames := 0, cells := 0, slots := 0, locals := 0 }
abbrev wo_X1_writeBits (dC : Nat → ClassId) (dI : Nat → Nat → Nat) (cB cI cJ cM : ClassId) (h0 b n : Nat) (g : Nat → Int32) (V L : Nat) (v k : Nat) : va_W := [(h0, .inr (1, [.ref b, .int (nI (L / 8)), .int (nI (V / 2 ^ (8 * (L / 8)))), .int (nI (L % 8))])), (b, .inl (cB, n, .inl g))]
abbrev q_X1_writeBits (dC : Nat → ClassId) (dI : Nat → Nat → Nat) (cB cI cJ cM : ClassId) (h0 b n : Nat) (g : Nat → Int32) (V L : Nat) (v k : Nat) (A : Nat → Prop) : Array Value → State → Outcome → State → Prop := va_Qv (fun (u : Nat → Int32) => zOut u (V + v * 2 ^ L) (L + k)) (zB dC dI cB cI cJ cM A (fun u : Nat → Int32 => [(h0, .inr (1, [.ref b, .int (nI ((L + k) / 8)), .int (nI ((V + v * 2 ^ L) / 2 ^ (8 * ((L + k) / 8)))), .int (nI ((L + k) % 8))])), (b, .inl (cB, n, .inl u))])) A
set_option maxHeartbeats 8000000 in
set_option maxRecDepth 100000 in
/-- BitWriter.writeBits: the stream grows by the k bits of v -/
theorem k_X1_writeBits (l : Launch) (dC : Nat → ClassId) (dI : Nat → Nat → Nat) (cB cI cJ cM : ClassId) (h0 b n : Nat) (g : Nat → Int32) (V L : Nat) (v k : Nat) (ho : zOut g V L) (hv : v < 2 ^ k) (hk : k ≤ 13) (hn : (L + k) / 8 ≤ n) (hn2 : n < 100000) (sz : Nat) : Met l yX1_writeBits wsX1_writeBits rm_X1_writeBits (va_Pc [.ref h0, .int (nI v), .int (nI k)] (fun U => U.heap.size = sz ∧ va_P (dC, dI) vwCl (wo_X1_writeBits dC dI cB cI cJ cM h0 b n g V L v k) U.heap ∧ va_K (dC, dI) vwCl (zT cB cI cJ cM) U ∧ va_D (fun _ => True) (wo_X1_writeBits dC dI cB cI cJ cM h0 b n g V L v k))) (q_X1_writeBits dC dI cB cI cJ cM h0 b n g V L v k (va_A (wo_X1_writeBits dC dI cB cI cJ cM h0 b n g V L v k) sz)) 0 0 (va_A (wo_X1_writeBits dC dI cB cI cJ cM h0 b n g V L v k) sz) := by
  refine Met.ofW (cc := cX1_writeBits) (maxL := 3) (ret := none) (by decide) rfl ?_
  intro p e s m args below meth c s₁ B hml hv
  obtain ⟨rfl, hsz, hP, hK, hD0⟩ := hv
  have hx := B.exec
  have hb := B.bytes
  have hr := B.returns
  have hts := atoms_spec (ws := wsX1_writeBits) B.pre
  have hown : s.vm.findClass RX1 = some m.cls := findClass_of_methodNamed B.named
  have hlocks := B.notSynchronized
  subst hsz
  have hD := hD0.self (sz := s.heap.size)
  generalize hAe : va_A (wo_X1_writeBits dC dI cB cI cJ cM h0 b n g V L v k) s.heap.size = A at hD ⊢
  have hA : ∀ q : Nat, s.heap.size ≤ q → A q := fun q h => by rw [← hAe]; exact Or.inr h
  have hS : va_S A s.heap s.heap [] := va_S.rf
  have hP : va_P (dC, dI) vwCl [(h0, .inr (1, [.ref b, .int (nI (L / 8)), .int (nI (V / 2 ^ (8 * (L / 8)))), .int (nI (L % 8))])), (b, .inl (cB, n, .inl g))] s.heap := hP
  have hD : va_D A [(h0, .inr (1, [.ref b, .int (nI (L / 8)), .int (nI (V / 2 ^ (8 * (L / 8)))), .int (nI (L % 8))])), (b, .inl (cB, n, .inl g))] := hD
  have hl := lv_entry ([.ref h0, .int (nI v), .int (nI k)]) (n := 3) (Nat.le_of_ble_eq_true rfl)
  rw [lg_entry_eq]
  generalize (lg_sl ([.ref h0, .int (nI v), .int (nI k)]) ++ List.replicate (3 - (lg_sl ([.ref h0, .int (nI v), .int (nI k)])).length) Slot.unset).toArray = ls at hl ⊢
  have hl : lv_has ls 3 [(0, .ref h0), (1, .int (nI v)), (2, .int (nI k))] := hl
  have hWb := zpush_lt ho.1 hv
  refine lv_aload_n hx hb dX1_writeBits_0 rfl (lv_at hl 0 rfl) ?_
  refine lv_dup hx hb dX1_writeBits_1 rfl ?_
  refine va_get (D := (dC, dI)) (ci := 1) (v := .int (nI (V / 2 ^ (8 * (L / 8))))) (C := RX1) (T := TX1) (N := 4) hx hb hts (by decide +kernel) hown hK hP 0 rfl rfl 2 (by decide) (hts (.fieldLink RX1 17 "FixedPress$BitWriter" "held" "I") (by decide +kernel)) (fun _ h9 => h9) rfl dX1_writeBits_2 ?_
  refine lv_iload_n hx hb dX1_writeBits_5 rfl (lv_at hl 1 rfl) ?_
  refine lv_aload_n hx hb dX1_writeBits_6 rfl (lv_at hl 0 rfl) ?_
  refine va_get (D := (dC, dI)) (ci := 1) (v := .int (nI (L % 8))) (C := RX1) (T := TX1) (N := 4) hx hb hts (by decide +kernel) hown hK hP 0 rfl rfl 3 (by decide) (hts (.fieldLink RX1 20 "FixedPress$BitWriter" "heldBits" "I") (by decide +kernel)) (fun _ h9 => h9) rfl dX1_writeBits_7 ?_
  refine lv_ishl hx hb dX1_writeBits_10 ?_
  refine lv_ior hx hb dX1_writeBits_11 ?_
  refine lv_topi (fun y_1 ey_1 => ?_)
  obtain rfl : y_1 = nI ((V + v * 2 ^ L) / 2 ^ (8 * (L / 8))) := ey_1.trans (z_held ho.1 hv hk)
  refine va_put (D := (dC, dI)) (ci := 1) (v := .int (nI ((V + v * 2 ^ L) / 2 ^ (8 * (L / 8))))) (ty := .int) (C := RX1) (T := TX1) (N := 4) hx hb hts (by decide +kernel) tyX1 tyX1_ok nmX1 hown hK hP hD hS 0 rfl rfl 2 (by decide) (hts (.fieldLink RX1 17 "FixedPress$BitWriter" "held" "I") (by decide +kernel)) (fun _ h9 => h9) rfl (by decide +kernel) rfl rfl (Nat.le_of_ble_eq_true rfl) dX1_writeBits_12 (fun H locs hP hD hS => ?_)
  have hP : va_P (dC, dI) vwCl [(h0, .inr (1, [.ref b, .int (nI (L / 8)), .int (nI ((V + v * 2 ^ L) / 2 ^ (8 * (L / 8)))), .int (nI (L % 8))])), (b, .inl (cB, n, .inl g))] H := hP
  have hD : va_D A [(h0, .inr (1, [.ref b, .int (nI (L / 8)), .int (nI ((V + v * 2 ^ L) / 2 ^ (8 * (L / 8)))), .int (nI (L % 8))])), (b, .inl (cB, n, .inl g))] := hD
  refine lv_aload_n hx hb dX1_writeBits_15 rfl (lv_at hl 0 rfl) ?_
  refine lv_dup hx hb dX1_writeBits_16 rfl ?_
  refine va_get (D := (dC, dI)) (ci := 1) (v := .int (nI (L % 8))) (C := RX1) (T := TX1) (N := 4) hx hb hts (by decide +kernel) hown hK hP 0 rfl rfl 3 (by decide) (hts (.fieldLink RX1 20 "FixedPress$BitWriter" "heldBits" "I") (by decide +kernel)) (fun _ h9 => h9) rfl dX1_writeBits_17 ?_
  refine lv_iload_n hx hb dX1_writeBits_20 rfl (lv_at hl 2 rfl) ?_
  refine lv_iadd hx hb dX1_writeBits_21 ?_
  refine lv_topi (fun y_2 ey_2 => ?_)
  obtain rfl : y_2 = nI (L + k - 8 * (L / 8)) := ey_2.trans ((nI_add _ _).trans (congrArg nI (by omega)))
  refine va_put (D := (dC, dI)) (ci := 1) (v := .int (nI (L + k - 8 * (L / 8)))) (ty := .int) (C := RX1) (T := TX1) (N := 4) hx hb hts (by decide +kernel) tyX1 tyX1_ok nmX1 hown hK hP hD hS 0 rfl rfl 3 (by decide) (hts (.fieldLink RX1 20 "FixedPress$BitWriter" "heldBits" "I") (by decide +kernel)) (fun _ h9 => h9) rfl (by decide +kernel) rfl rfl (Nat.le_of_ble_eq_true rfl) dX1_writeBits_22 (fun H locs hP hD hS => ?_)
  have hP : va_P (dC, dI) vwCl [(h0, .inr (1, [.ref b, .int (nI (L / 8)), .int (nI ((V + v * 2 ^ L) / 2 ^ (8 * (L / 8)))), .int (nI (L + k - 8 * (L / 8)))])), (b, .inl (cB, n, .inl g))] H := hP
  have hD : va_D A [(h0, .inr (1, [.ref b, .int (nI (L / 8)), .int (nI ((V + v * 2 ^ L) / 2 ^ (8 * (L / 8)))), .int (nI (L + k - 8 * (L / 8)))])), (b, .inl (cB, n, .inl g))] := hD
  have cut25 : ∀ (fuel : Nat) (len : Nat) (g1 : Nat → Int32), (8 * len ≤ L + k) → (L + k ≤ 8 * len + 20) → (∀ j, j < len → g1 j = zby ((V + v * 2 ^ L) / 2 ^ (8 * j))) → (L + k - 8 * len < fuel) → ∀ (H : Heap) (locs : List Loc), va_P (dC, dI) vwCl [(h0, .inr (1, [.ref b, .int (nI len), .int (nI ((V + v * 2 ^ L) / 2 ^ (8 * len))), .int (nI (L + k - 8 * len))])), (b, .inl (cB, n, .inl g1))] H → va_D A [(h0, .inr (1, [.ref b, .int (nI len), .int (nI ((V + v * 2 ^ L) / 2 ^ (8 * len))), .int (nI (L + k - 8 * len))])), (b, .inl (cB, n, .inl g1))] → va_S A s.heap H locs → ∀ (ls : Array Slot), lv_has ls 3 [(0, .ref h0)] → W p l e (headSpec wsX1_writeBits rm_X1_writeBits).room s m ([.ref h0, .int (nI v), .int (nI k)] : List Value).toArray below meth c H locs 0 0 (MQ below (q_X1_writeBits dC dI cB cI cJ cM h0 b n g V L v k A) ([.ref h0, .int (nI v), .int (nI k)] : List Value).toArray s 0 0 A) (F0 m 25 ls []) := by
    intro fuel
    induction fuel with
    | zero => intros; omega
    | succ fuel ih =>
      intro len g1 hl1 hl2 hg1 hfuel H locs hP hD hS ls hl
      refine lv_aload_n hx hb dX1_writeBits_25 rfl (lv_at hl 0 rfl) ?_
      refine va_get (D := (dC, dI)) (ci := 1) (v := .int (nI (L + k - 8 * len))) (C := RX1) (T := TX1) (N := 4) hx hb hts (by decide +kernel) hown hK hP 0 rfl rfl 3 (by decide) (hts (.fieldLink RX1 20 "FixedPress$BitWriter" "heldBits" "I") (by decide +kernel)) (fun _ h9 => h9) rfl dX1_writeBits_26 ?_
      refine lv_bipush (v := 8) hx hb dX1_writeBits_29 (by decide) ?_
      refine lv_icmp_lt (tgt := 83) hx hb dX1_writeBits_31 (by decide) (fun c31 => ?_) (fun c31 => ?_)
      · have c31 : (L + k - 8 * len) < 8 := (nI_ltI (a := (L + k - 8 * len)) (b := 8) (by omega) (by omega)).mp c31
        obtain rfl : len = (L + k) / 8 := by omega
        rw [show L + k - 8 * ((L + k) / 8) = (L + k) % 8 from by omega] at hP hD
        have hP9 := hP.sub (ws' := [(h0, .inr (1, [.ref b, .int (nI ((L + k) / 8)), .int (nI ((V + v * 2 ^ L) / 2 ^ (8 * ((L + k) / 8)))), .int (nI ((L + k) % 8))])), (b, .inl (cB, n, .inl g1))]) [0, 1] rfl
        have hD9 := hD.sub (ws' := [(h0, .inr (1, [.ref b, .int (nI ((L + k) / 8)), .int (nI ((V + v * 2 ^ L) / 2 ^ (8 * ((L + k) / 8)))), .int (nI ((L + k) % 8))])), (b, .inl (cB, n, .inl g1))]) [0, 1] (by decide) rfl
        exact W.vret hx hb hr (fun t ht hW => ⟨⟨g1, rfl, ⟨hWb, hg1⟩, ⟨by rw [ht]; exact hP9, va_K.moved hW.alike hK, hD9⟩⟩, hS.F ht⟩) hS.2.2 dX1_writeBits_83
      · have c31 : ¬ ((L + k - 8 * len) < 8) := fun h => c31 ((nI_ltI (a := (L + k - 8 * len)) (b := 8) (by omega) (by omega)).mpr h)
        refine lv_aload_n hx hb dX1_writeBits_34 rfl (lv_at hl 0 rfl) ?_
        refine va_get (D := (dC, dI)) (ci := 1) (v := .ref b) (C := RX1) (T := TX1) (N := 4) hx hb hts (by decide +kernel) hown hK hP 0 rfl rfl 0 (by decide) (hts (.fieldLink RX1 7 "FixedPress$BitWriter" "bytes" "[B") (by decide +kernel)) (fun _ h9 => h9) rfl dX1_writeBits_35 ?_
        refine lv_aload_n hx hb dX1_writeBits_38 rfl (lv_at hl 0 rfl) ?_
        refine va_get (D := (dC, dI)) (ci := 1) (v := .int (nI len)) (C := RX1) (T := TX1) (N := 4) hx hb hts (by decide +kernel) hown hK hP 0 rfl rfl 1 (by decide) (hts (.fieldLink RX1 13 "FixedPress$BitWriter" "length" "I") (by decide +kernel)) (fun _ h9 => h9) rfl dX1_writeBits_39 ?_
        refine lv_aload_n hx hb dX1_writeBits_42 rfl (lv_at hl 0 rfl) ?_
        refine va_get (D := (dC, dI)) (ci := 1) (v := .int (nI ((V + v * 2 ^ L) / 2 ^ (8 * len)))) (C := RX1) (T := TX1) (N := 4) hx hb hts (by decide +kernel) hown hK hP 0 rfl rfl 2 (by decide) (hts (.fieldLink RX1 17 "FixedPress$BitWriter" "held" "I") (by decide +kernel)) (fun _ h9 => h9) rfl dX1_writeBits_43 ?_
        refine lv_i2b hx hb dX1_writeBits_46 rfl ?_
        refine va_bast hx hb hK hP hD hS 1 0 rfl rfl (vp_in_nI (n := len) (by omega) (by omega)) dX1_writeBits_47 (fun H locs hP hD hS => ?_)
        rw [nI_clamp (n := len) (by omega)] at hP hD
        have hP : va_P (dC, dI) vwCl [(h0, .inr (1, [.ref b, .int (nI len), .int (nI ((V + v * 2 ^ L) / 2 ^ (8 * len))), .int (nI (L + k - 8 * len))])), (b, .inl (cB, n, .inl (upd g1 len (vp_nar .byte ((nI ((V + v * 2 ^ L) / 2 ^ (8 * len))).toInt8.toInt32)))))] H := hP
        have hD : va_D A [(h0, .inr (1, [.ref b, .int (nI len), .int (nI ((V + v * 2 ^ L) / 2 ^ (8 * len))), .int (nI (L + k - 8 * len))])), (b, .inl (cB, n, .inl (upd g1 len (vp_nar .byte ((nI ((V + v * 2 ^ L) / 2 ^ (8 * len))).toInt8.toInt32)))))] := hD
        refine lv_aload_n hx hb dX1_writeBits_48 rfl (lv_at hl 0 rfl) ?_
        refine lv_dup hx hb dX1_writeBits_49 rfl ?_
        refine va_get (D := (dC, dI)) (ci := 1) (v := .int (nI len)) (C := RX1) (T := TX1) (N := 4) hx hb hts (by decide +kernel) hown hK hP 0 rfl rfl 1 (by decide) (hts (.fieldLink RX1 13 "FixedPress$BitWriter" "length" "I") (by decide +kernel)) (fun _ h9 => h9) rfl dX1_writeBits_50 ?_
        refine lv_iconst (v := 1) hx hb dX1_writeBits_53 (by decide) ?_
        refine lv_iadd hx hb dX1_writeBits_54 ?_
        refine lv_topi (fun y_3 ey_3 => ?_)
        obtain rfl : y_3 = nI (len + 1) := ey_3.trans (nI_add len 1)
        refine va_put (D := (dC, dI)) (ci := 1) (v := .int (nI (len + 1))) (ty := .int) (C := RX1) (T := TX1) (N := 4) hx hb hts (by decide +kernel) tyX1 tyX1_ok nmX1 hown hK hP hD hS 0 rfl rfl 1 (by decide) (hts (.fieldLink RX1 13 "FixedPress$BitWriter" "length" "I") (by decide +kernel)) (fun _ h9 => h9) rfl (by decide +kernel) rfl rfl (Nat.le_of_ble_eq_true rfl) dX1_writeBits_55 (fun H locs hP hD hS => ?_)
        have hP : va_P (dC, dI) vwCl [(h0, .inr (1, [.ref b, .int (nI (len + 1)), .int (nI ((V + v * 2 ^ L) / 2 ^ (8 * len))), .int (nI (L + k - 8 * len))])), (b, .inl (cB, n, .inl (upd g1 len (vp_nar .byte ((nI ((V + v * 2 ^ L) / 2 ^ (8 * len))).toInt8.toInt32)))))] H := hP
        have hD : va_D A [(h0, .inr (1, [.ref b, .int (nI (len + 1)), .int (nI ((V + v * 2 ^ L) / 2 ^ (8 * len))), .int (nI (L + k - 8 * len))])), (b, .inl (cB, n, .inl (upd g1 len (vp_nar .byte ((nI ((V + v * 2 ^ L) / 2 ^ (8 * len))).toInt8.toInt32)))))] := hD
        refine lv_aload_n hx hb dX1_writeBits_58 rfl (lv_at hl 0 rfl) ?_
        refine lv_dup hx hb dX1_writeBits_59 rfl ?_
        refine va_get (D := (dC, dI)) (ci := 1) (v := .int (nI ((V + v * 2 ^ L) / 2 ^ (8 * len)))) (C := RX1) (T := TX1) (N := 4) hx hb hts (by decide +kernel) hown hK hP 0 rfl rfl 2 (by decide) (hts (.fieldLink RX1 17 "FixedPress$BitWriter" "held" "I") (by decide +kernel)) (fun _ h9 => h9) rfl dX1_writeBits_60 ?_
        refine lv_bipush (v := 8) hx hb dX1_writeBits_63 (by decide) ?_
        refine lv_iushr hx hb dX1_writeBits_65 rfl ?_
        refine lv_topi (fun y_4 ey_4 => ?_)
        obtain rfl : y_4 = nI ((V + v * 2 ^ L) / 2 ^ (8 * (len + 1))) := ey_4.trans ((z_ush (n := (V + v * 2 ^ L) / 2 ^ (8 * len)) (k := 8) (by have := z_hb (a := 8 * len) hWb (by omega); omega) (by decide)).trans (congrArg nI (z_dd _ len)))
        refine va_put (D := (dC, dI)) (ci := 1) (v := .int (nI ((V + v * 2 ^ L) / 2 ^ (8 * (len + 1))))) (ty := .int) (C := RX1) (T := TX1) (N := 4) hx hb hts (by decide +kernel) tyX1 tyX1_ok nmX1 hown hK hP hD hS 0 rfl rfl 2 (by decide) (hts (.fieldLink RX1 17 "FixedPress$BitWriter" "held" "I") (by decide +kernel)) (fun _ h9 => h9) rfl (by decide +kernel) rfl rfl (Nat.le_of_ble_eq_true rfl) dX1_writeBits_66 (fun H locs hP hD hS => ?_)
        have hP : va_P (dC, dI) vwCl [(h0, .inr (1, [.ref b, .int (nI (len + 1)), .int (nI ((V + v * 2 ^ L) / 2 ^ (8 * (len + 1)))), .int (nI (L + k - 8 * len))])), (b, .inl (cB, n, .inl (upd g1 len (vp_nar .byte ((nI ((V + v * 2 ^ L) / 2 ^ (8 * len))).toInt8.toInt32)))))] H := hP
        have hD : va_D A [(h0, .inr (1, [.ref b, .int (nI (len + 1)), .int (nI ((V + v * 2 ^ L) / 2 ^ (8 * (len + 1)))), .int (nI (L + k - 8 * len))])), (b, .inl (cB, n, .inl (upd g1 len (vp_nar .byte ((nI ((V + v * 2 ^ L) / 2 ^ (8 * len))).toInt8.toInt32)))))] := hD
        refine lv_aload_n hx hb dX1_writeBits_69 rfl (lv_at hl 0 rfl) ?_
        refine lv_dup hx hb dX1_writeBits_70 rfl ?_
        refine va_get (D := (dC, dI)) (ci := 1) (v := .int (nI (L + k - 8 * len))) (C := RX1) (T := TX1) (N := 4) hx hb hts (by decide +kernel) hown hK hP 0 rfl rfl 3 (by decide) (hts (.fieldLink RX1 20 "FixedPress$BitWriter" "heldBits" "I") (by decide +kernel)) (fun _ h9 => h9) rfl dX1_writeBits_71 ?_
        refine lv_bipush (v := 8) hx hb dX1_writeBits_74 (by decide) ?_
        refine lv_isub hx hb dX1_writeBits_76 ?_
        refine lv_topi (fun y_5 ey_5 => ?_)
        obtain rfl : y_5 = nI (L + k - 8 * (len + 1)) := ey_5.trans ((pk_sub (a := L + k - 8 * len) (b := 8) (by omega)).trans (congrArg nI (by omega)))
        refine va_put (D := (dC, dI)) (ci := 1) (v := .int (nI (L + k - 8 * (len + 1)))) (ty := .int) (C := RX1) (T := TX1) (N := 4) hx hb hts (by decide +kernel) tyX1 tyX1_ok nmX1 hown hK hP hD hS 0 rfl rfl 3 (by decide) (hts (.fieldLink RX1 20 "FixedPress$BitWriter" "heldBits" "I") (by decide +kernel)) (fun _ h9 => h9) rfl (by decide +kernel) rfl rfl (Nat.le_of_ble_eq_true rfl) dX1_writeBits_77 (fun H locs hP hD hS => ?_)
        have hP : va_P (dC, dI) vwCl [(h0, .inr (1, [.ref b, .int (nI (len + 1)), .int (nI ((V + v * 2 ^ L) / 2 ^ (8 * (len + 1)))), .int (nI (L + k - 8 * (len + 1)))])), (b, .inl (cB, n, .inl (upd g1 len (vp_nar .byte ((nI ((V + v * 2 ^ L) / 2 ^ (8 * len))).toInt8.toInt32)))))] H := hP
        have hD : va_D A [(h0, .inr (1, [.ref b, .int (nI (len + 1)), .int (nI ((V + v * 2 ^ L) / 2 ^ (8 * (len + 1)))), .int (nI (L + k - 8 * (len + 1)))])), (b, .inl (cB, n, .inl (upd g1 len (vp_nar .byte ((nI ((V + v * 2 ^ L) / 2 ^ (8 * len))).toInt8.toInt32)))))] := hD
        refine lv_goto (tgt := 25) hx hb dX1_writeBits_80 (by decide) ?_
        exact ih (len + 1) (upd g1 len (vp_nar .byte ((nI ((V + v * 2 ^ L) / 2 ^ (8 * len))).toInt8.toInt32))) (by omega) (by omega) (z_updby hg1) (by omega) _ _ hP hD hS _ (lv_sub hl [0] rfl)
  exact cut25 (L + k - 8 * (L / 8) + 1) (L / 8) g (by omega) (by omega) (z_pushby ho) (by omega) _ _ hP hD hS _ (lv_sub hl [0] rfl)

abbrev rm_X1_writeCode : Room := { frames := 1, cells := 0, slots := 0, locals := 22 }
abbrev wo_X1_writeCode (dC : Nat → ClassId) (dI : Nat → Nat → Nat) (cB cI cJ cM : ClassId) (h0 b n : Nat) (g : Nat → Int32) (V L : Nat) (cd k : Nat) : va_W := [(h0, .inr (1, [.ref b, .int (nI (L / 8)), .int (nI (V / 2 ^ (8 * (L / 8)))), .int (nI (L % 8))])), (b, .inl (cB, n, .inl g))]
abbrev q_X1_writeCode (dC : Nat → ClassId) (dI : Nat → Nat → Nat) (cB cI cJ cM : ClassId) (h0 b n : Nat) (g : Nat → Int32) (V L : Nat) (cd k : Nat) (A : Nat → Prop) : Array Value → State → Outcome → State → Prop := va_Qv (fun (u : Nat → Int32) => zOut u (zhi V L cd k) (L + k)) (zB dC dI cB cI cJ cM A (fun u : Nat → Int32 => [(h0, .inr (1, [.ref b, .int (nI ((L + k) / 8)), .int (nI (zhi V L cd k / 2 ^ (8 * ((L + k) / 8)))), .int (nI ((L + k) % 8))])), (b, .inl (cB, n, .inl u))])) A
set_option maxHeartbeats 8000000 in
set_option maxRecDepth 100000 in
/-- BitWriter.writeCode -/
theorem k_X1_writeCode (l : Launch) (dC : Nat → ClassId) (dI : Nat → Nat → Nat) (cB cI cJ cM : ClassId) (h0 b n : Nat) (g : Nat → Int32) (V L : Nat) (cd k : Nat) (ho : zOut g V L) (hc : cd < 2 ^ 16) (hk : k ≤ 16) (hn : (L + k) / 8 ≤ n) (hn2 : n < 100000) (sz : Nat) : Met l yX1_writeCode wsX1_writeCode rm_X1_writeCode (va_Pc [.ref h0, .int (nI cd), .int (nI k)] (fun U => U.heap.size = sz ∧ va_P (dC, dI) vwCl (wo_X1_writeCode dC dI cB cI cJ cM h0 b n g V L cd k) U.heap ∧ va_K (dC, dI) vwCl (zT cB cI cJ cM) U ∧ va_D (fun _ => True) (wo_X1_writeCode dC dI cB cI cJ cM h0 b n g V L cd k))) (q_X1_writeCode dC dI cB cI cJ cM h0 b n g V L cd k (va_A (wo_X1_writeCode dC dI cB cI cJ cM h0 b n g V L cd k) sz)) 0 0 (va_A (wo_X1_writeCode dC dI cB cI cJ cM h0 b n g V L cd k) sz) := by
  refine Met.ofW (cc := cX1_writeCode) (maxL := 4) (ret := none) (by decide) rfl ?_
  intro p e s m args below meth c s₁ B hml hv
  obtain ⟨rfl, hsz, hP, hK, hD0⟩ := hv
  have hx := B.exec
  have hb := B.bytes
  have hr := B.returns
  have hts := atoms_spec (ws := wsX1_writeCode) B.pre
  have hown : s.vm.findClass RX1 = some m.cls := findClass_of_methodNamed B.named
  have hlocks := B.notSynchronized
  subst hsz
  have hD := hD0.self (sz := s.heap.size)
  generalize hAe : va_A (wo_X1_writeCode dC dI cB cI cJ cM h0 b n g V L cd k) s.heap.size = A at hD ⊢
  have hA : ∀ q : Nat, s.heap.size ≤ q → A q := fun q h => by rw [← hAe]; exact Or.inr h
  have hS : va_S A s.heap s.heap [] := va_S.rf
  have hP : va_P (dC, dI) vwCl [(h0, .inr (1, [.ref b, .int (nI (L / 8)), .int (nI (V / 2 ^ (8 * (L / 8)))), .int (nI (L % 8))])), (b, .inl (cB, n, .inl g))] s.heap := hP
  have hD : va_D A [(h0, .inr (1, [.ref b, .int (nI (L / 8)), .int (nI (V / 2 ^ (8 * (L / 8)))), .int (nI (L % 8))])), (b, .inl (cB, n, .inl g))] := hD
  have hl := lv_entry ([.ref h0, .int (nI cd), .int (nI k)]) (n := 4) (Nat.le_of_ble_eq_true rfl)
  rw [lg_entry_eq]
  generalize (lg_sl ([.ref h0, .int (nI cd), .int (nI k)]) ++ List.replicate (4 - (lg_sl ([.ref h0, .int (nI cd), .int (nI k)])).length) Slot.unset).toArray = ls at hl ⊢
  have hl : lv_has ls 4 [(0, .ref h0), (1, .int (nI cd)), (2, .int (nI k))] := hl
  refine lv_iload_n hx hb dX1_writeCode_0 rfl (lv_at hl 2 rfl) ?_
  refine lv_iconst (v := 1) hx hb dX1_writeCode_1 (by decide) ?_
  refine lv_isub hx hb dX1_writeCode_2 ?_
  refine lv_istore_n (lv' := [(3, .int ((nI k) - 1)), (0, .ref h0), (1, .int (nI cd)), (2, .int (nI k))]) hx hb dX1_writeCode_3 rfl hl (by decide) rfl (fun ls hl => ?_)
  have cut4 : ∀ (fuel : Nat) (k1 : Nat) (V1 : Nat) (L1 : Nat) (g1 : Nat → Int32) (w : Int32), (w = nI k1 - 1) → (zhi V1 L1 cd k1 = zhi V L cd k) → (L1 + k1 = L + k) → (zOut g1 V1 L1) → (k1 ≤ 16) → (k1 < fuel) → ∀ (H : Heap) (locs : List Loc), va_P (dC, dI) vwCl [(h0, .inr (1, [.ref b, .int (nI (L1 / 8)), .int (nI (V1 / 2 ^ (8 * (L1 / 8)))), .int (nI (L1 % 8))])), (b, .inl (cB, n, .inl g1))] H → va_D A [(h0, .inr (1, [.ref b, .int (nI (L1 / 8)), .int (nI (V1 / 2 ^ (8 * (L1 / 8)))), .int (nI (L1 % 8))])), (b, .inl (cB, n, .inl g1))] → va_S A s.heap H locs → ∀ (ls : Array Slot), lv_has ls 4 [(0, .ref h0), (1, .int (nI cd)), (3, .int w)] → W p l e (headSpec wsX1_writeCode rm_X1_writeCode).room s m ([.ref h0, .int (nI cd), .int (nI k)] : List Value).toArray below meth c H locs 0 0 (MQ below (q_X1_writeCode dC dI cB cI cJ cM h0 b n g V L cd k A) ([.ref h0, .int (nI cd), .int (nI k)] : List Value).toArray s 0 0 A) (F0 m 4 ls []) := by
    intro fuel
    induction fuel with
    | zero => intros; omega
    | succ fuel ih =>
      intro k1 V1 L1 g1 w hw3 hV1 hL1 ho1 hk1 hfuel H locs hP hD hS ls hl
      refine lv_iload_n hx hb dX1_writeCode_4 rfl (lv_at hl 2 rfl) ?_
      refine lv_if_lt (tgt := 24) hx hb dX1_writeCode_5 (by decide) (fun c5 => ?_) (fun c5 => ?_)
      · have hk0 : k1 = 0 := by
          rcases Nat.eq_zero_or_pos k1 with h | h
          · exact h
          · obtain ⟨k2, rfl⟩ : ∃ k2, k1 = k2 + 1 := ⟨k1 - 1, by omega⟩
            rw [hw3, nI_pred] at c5
            exact absurd c5 (nI_pos (by omega))
        have hL0 : L1 = L + k := by omega
        have hV0 : V1 = zhi V L cd k := by rw [hk0] at hV1; exact hV1
        rw [hL0, hV0] at hP hD ho1
        have hP : va_P (dC, dI) vwCl [(h0, .inr (1, [.ref b, .int (nI ((L + k) / 8)), .int (nI (zhi V L cd k / 2 ^ (8 * ((L + k) / 8)))), .int (nI ((L + k) % 8))])), (b, .inl (cB, n, .inl g1))] H := hP
        have hD : va_D A [(h0, .inr (1, [.ref b, .int (nI ((L + k) / 8)), .int (nI (zhi V L cd k / 2 ^ (8 * ((L + k) / 8)))), .int (nI ((L + k) % 8))])), (b, .inl (cB, n, .inl g1))] := hD
        have hP9 := hP.sub (ws' := [(h0, .inr (1, [.ref b, .int (nI ((L + k) / 8)), .int (nI (zhi V L cd k / 2 ^ (8 * ((L + k) / 8)))), .int (nI ((L + k) % 8))])), (b, .inl (cB, n, .inl g1))]) [0, 1] rfl
        have hD9 := hD.sub (ws' := [(h0, .inr (1, [.ref b, .int (nI ((L + k) / 8)), .int (nI (zhi V L cd k / 2 ^ (8 * ((L + k) / 8)))), .int (nI ((L + k) % 8))])), (b, .inl (cB, n, .inl g1))]) [0, 1] (by decide) rfl
        exact W.vret hx hb hr (fun t ht hW => ⟨⟨g1, rfl, ho1, ⟨by rw [ht]; exact hP9, va_K.moved hW.alike hK, hD9⟩⟩, hS.F ht⟩) hS.2.2 dX1_writeCode_24
      · obtain ⟨k2, rfl⟩ : ∃ k2, k1 = k2 + 1 := ⟨k1 - 1, (Nat.eq_zero_or_pos k1).elim (fun h => absurd (by rw [hw3, h]; decide) c5) (fun h => by omega)⟩
        obtain rfl : w = nI k2 := hw3.trans (nI_pred k2)
        refine lv_aload_n hx hb dX1_writeCode_8 rfl (lv_at hl 0 rfl) ?_
        refine lv_iload_n hx hb dX1_writeCode_9 rfl (lv_at hl 1 rfl) ?_
        refine lv_iload_n hx hb dX1_writeCode_10 rfl (lv_at hl 2 rfl) ?_
        refine lv_iushr hx hb dX1_writeCode_11 rfl ?_
        refine lv_topi (fun y_1 ey_1 => ?_)
        obtain rfl : y_1 = nI (cd / 2 ^ k2) := ey_1.trans (z_ush (n := cd) (k := k2) (by omega) (by omega))
        refine lv_iconst (v := 1) hx hb dX1_writeCode_12 (by decide) ?_
        refine lv_iand hx hb dX1_writeCode_13 ?_
        refine lv_topi (fun y_2 ey_2 => ?_)
        obtain rfl : y_2 = nI (cd / 2 ^ k2 % 2 ^ 1) := ey_2.trans (pk_andN (n := cd / 2 ^ k2) (Nat.lt_of_le_of_lt (Nat.div_le_self _ _) (by omega)) 1 (by decide))
        refine lv_iconst (v := 1) hx hb dX1_writeCode_14 (by decide) ?_
        have hPc := hP.sub (ws' := [(h0, .inr (1, [.ref b, .int (nI (L1 / 8)), .int (nI (V1 / 2 ^ (8 * (L1 / 8)))), .int (nI (L1 % 8))])), (b, .inl (cB, n, .inl g1))]) [0, 1] rfl
        have hDc := hD.sub (ws' := [(h0, .inr (1, [.ref b, .int (nI (L1 / 8)), .int (nI (V1 / 2 ^ (8 * (L1 / 8)))), .int (nI (L1 % 8))])), (b, .inl (cB, n, .inl g1))]) [0, 1] (by decide) rfl
        have hFc := va_free (wc := [(h0, .inr (1, [.ref b, .int (nI (L1 / 8)), .int (nI (V1 / 2 ^ (8 * (L1 / 8)))), .int (nI (L1 % 8))])), (b, .inl (cB, n, .inl g1))]) hD hS hA [0, 1] rfl
        refine va_callv (va_runV (As := [.int (nI (cd / 2 ^ k2 % 2 ^ 1)), .int 1]) (rest := []) ⟨hx, hb, hml, hown, hts⟩ (k_X1_writeBits l dC dI cB cI cJ cM h0 b n g1 V1 L1 (cd / 2 ^ k2 % 2 ^ 1) 1 (ho1) (Nat.mod_lt _ (by decide)) (by omega) (by omega) (by omega) H.size) (cwV 2 hts gX1_writeCode_X1_writeBits rfl rfl rfl (by decide +kernel) ⟨Nat.le_of_ble_eq_true rfl, Nat.le_of_ble_eq_true rfl⟩) ⟨fun a U g mk q => by obtain ⟨q0, q1, qP, qK, qD⟩ := q; exact ⟨q0, q1, qP, va_K.moved (u := U) (U := U.calling g mk a) (Vm.Alike.refl U.vm) qK, qD⟩, va_recv hK hPc (ci := 1) (q0 := 0) rfl rfl, fun U hU hW => ⟨rfl, by rw [hU], by rw [hU]; exact hPc, va_K.moved hW.alike hK, hDc.weaken (fun _ _ _ _ => trivial)⟩⟩ rfl rfl hl.1 rfl (lv_room (Nat.le_of_ble_eq_true rfl)) dX1_writeCode_15 ⟨(show 0 + 0 ≤ 0 by omega), (show 0 + 0 ≤ 0 by omega)⟩) hS (fun q _ h => hFc q h) hFc (fun u t H1 locs ht hvm hw hB hz1 hk1 hS => ?_)
        obtain ⟨g2, rfl⟩ : ∃ z, z = u := ⟨_, rfl⟩
        have hP1 : va_P (dC, dI) vwCl [(h0, .inr (1, [.ref b, .int (nI ((L1 + 1) / 8)), .int (nI ((V1 + (cd / 2 ^ k2 % 2 ^ 1) * 2 ^ L1) / 2 ^ (8 * ((L1 + 1) / 8)))), .int (nI ((L1 + 1) % 8))])), (b, .inl (cB, n, .inl g2))] H1 := by rw [← ht]; exact hB.1
        have hD1 : va_D (va_A [(h0, .inr (1, [.ref b, .int (nI (L1 / 8)), .int (nI (V1 / 2 ^ (8 * (L1 / 8)))), .int (nI (L1 % 8))])), (b, .inl (cB, n, .inl g1))] H.size) [(h0, .inr (1, [.ref b, .int (nI ((L1 + 1) / 8)), .int (nI ((V1 + (cd / 2 ^ k2 % 2 ^ 1) * 2 ^ L1) / 2 ^ (8 * ((L1 + 1) / 8)))), .int (nI ((L1 + 1) % 8))])), (b, .inl (cB, n, .inl g2))] := hB.2.2
        obtain ⟨hP, hD⟩ := va_join (wr := []) (w1 := [(h0, .inr (1, [.ref b, .int (nI ((L1 + 1) / 8)), .int (nI ((V1 + (cd / 2 ^ k2 % 2 ^ 1) * 2 ^ L1) / 2 ^ (8 * ((L1 + 1) / 8)))), .int (nI ((L1 + 1) % 8))])), (b, .inl (cB, n, .inl g2))]) hP hD [0, 1] [] rfl rfl (by decide) (by decide) hk1 hFc hP1 hD1
        generalize H1 = H at hP hS ⊢
        try dsimp only at hw
        have hP : va_P (dC, dI) vwCl [(h0, .inr (1, [.ref b, .int (nI ((L1 + 1) / 8)), .int (nI ((V1 + (cd / 2 ^ k2 % 2 ^ 1) * 2 ^ L1) / 2 ^ (8 * ((L1 + 1) / 8)))), .int (nI ((L1 + 1) % 8))])), (b, .inl (cB, n, .inl g2))] H := hP
        have hD : va_D A [(h0, .inr (1, [.ref b, .int (nI ((L1 + 1) / 8)), .int (nI ((V1 + (cd / 2 ^ k2 % 2 ^ 1) * 2 ^ L1) / 2 ^ (8 * ((L1 + 1) / 8)))), .int (nI ((L1 + 1) % 8))])), (b, .inl (cB, n, .inl g2))] := hD
        refine W.eq (g2 := F0 m 18 ls []) rfl ?_
        refine lv_iinc (v := nI k2 - 1) (lv' := [(3, .int (nI k2 - 1)), (0, .ref h0), (1, .int (nI cd))]) hx hb dX1_writeCode_18 hl (k := 2) rfl (by rw [Int32.sub_eq_add_neg]; rfl) (by decide) rfl (fun ls hl => ?_)
        refine lv_goto (tgt := 4) hx hb dX1_writeCode_21 (by decide) ?_
        exact ih k2 (V1 + (cd / 2 ^ k2 % 2) * 2 ^ L1) (L1 + 1) g2 (nI k2 - 1) (rfl) (hV1) (by omega) (hw) (by omega) (by omega) _ _ hP hD hS _ (lv_sub hl [1, 2, 0] rfl)
  exact cut4 (k + 1) k V L g ((nI k) - 1) (rfl) (rfl) (by omega) (ho) (by omega) (by omega) _ _ hP hD hS _ (lv_sub hl [1, 2, 0] rfl)

abbrev rm_X1_endByte : Room := { frames := 1, cells := 0, slots := 0, locals := 22 }
abbrev wo_X1_endByte (dC : Nat → ClassId) (dI : Nat → Nat → Nat) (cB cI cJ cM : ClassId) (h0 b n : Nat) (g : Nat → Int32) (V L : Nat) : va_W := [(h0, .inr (1, [.ref b, .int (nI (L / 8)), .int (nI (V / 2 ^ (8 * (L / 8)))), .int (nI (L % 8))])), (b, .inl (cB, n, .inl g))]
abbrev q_X1_endByte (dC : Nat → ClassId) (dI : Nat → Nat → Nat) (cB cI cJ cM : ClassId) (h0 b n : Nat) (g : Nat → Int32) (V L : Nat) (A : Nat → Prop) : Array Value → State → Outcome → State → Prop := va_Qv (fun (u : Nat → Int32) => zOut u V ((L + 7) / 8 * 8)) (zB dC dI cB cI cJ cM A (fun u : Nat → Int32 => [(h0, .inr (1, [.ref b, .int (nI (((L + 7) / 8 * 8) / 8)), .int (nI (V / 2 ^ (8 * (((L + 7) / 8 * 8) / 8)))), .int (nI (((L + 7) / 8 * 8) % 8))])), (b, .inl (cB, n, .inl u))])) A
set_option maxHeartbeats 8000000 in
set_option maxRecDepth 100000 in
/-- BitWriter.endByte -/
theorem k_X1_endByte (l : Launch) (dC : Nat → ClassId) (dI : Nat → Nat → Nat) (cB cI cJ cM : ClassId) (h0 b n : Nat) (g : Nat → Int32) (V L : Nat) (ho : zOut g V L) (hn : (L + 7) / 8 ≤ n) (hn2 : n < 100000) (sz : Nat) : Met l yX1_endByte wsX1_endByte rm_X1_endByte (va_Pc [.ref h0] (fun U => U.heap.size = sz ∧ va_P (dC, dI) vwCl (wo_X1_endByte dC dI cB cI cJ cM h0 b n g V L) U.heap ∧ va_K (dC, dI) vwCl (zT cB cI cJ cM) U ∧ va_D (fun _ => True) (wo_X1_endByte dC dI cB cI cJ cM h0 b n g V L))) (q_X1_endByte dC dI cB cI cJ cM h0 b n g V L (va_A (wo_X1_endByte dC dI cB cI cJ cM h0 b n g V L) sz)) 0 0 (va_A (wo_X1_endByte dC dI cB cI cJ cM h0 b n g V L) sz) := by
  refine Met.ofW (cc := cX1_endByte) (maxL := 1) (ret := none) (by decide) rfl ?_
  intro p e s m args below meth c s₁ B hml hv
  obtain ⟨rfl, hsz, hP, hK, hD0⟩ := hv
  have hx := B.exec
  have hb := B.bytes
  have hr := B.returns
  have hts := atoms_spec (ws := wsX1_endByte) B.pre
  have hown : s.vm.findClass RX1 = some m.cls := findClass_of_methodNamed B.named
  have hlocks := B.notSynchronized
  subst hsz
  have hD := hD0.self (sz := s.heap.size)
  generalize hAe : va_A (wo_X1_endByte dC dI cB cI cJ cM h0 b n g V L) s.heap.size = A at hD ⊢
  have hA : ∀ q : Nat, s.heap.size ≤ q → A q := fun q h => by rw [← hAe]; exact Or.inr h
  have hS : va_S A s.heap s.heap [] := va_S.rf
  have hP : va_P (dC, dI) vwCl [(h0, .inr (1, [.ref b, .int (nI (L / 8)), .int (nI (V / 2 ^ (8 * (L / 8)))), .int (nI (L % 8))])), (b, .inl (cB, n, .inl g))] s.heap := hP
  have hD : va_D A [(h0, .inr (1, [.ref b, .int (nI (L / 8)), .int (nI (V / 2 ^ (8 * (L / 8)))), .int (nI (L % 8))])), (b, .inl (cB, n, .inl g))] := hD
  have hl := lv_entry ([.ref h0]) (n := 1) (Nat.le_of_ble_eq_true rfl)
  rw [lg_entry_eq]
  generalize (lg_sl ([.ref h0]) ++ List.replicate (1 - (lg_sl ([.ref h0])).length) Slot.unset).toArray = ls at hl ⊢
  have hl : lv_has ls 1 [(0, .ref h0)] := hl
  refine lv_aload_n hx hb dX1_endByte_0 rfl (lv_at hl 0 rfl) ?_
  refine va_get (D := (dC, dI)) (ci := 1) (v := .int (nI (L % 8))) (C := RX1) (T := TX1) (N := 4) hx hb hts (by decide +kernel) hown hK hP 0 rfl rfl 3 (by decide) (hts (.fieldLink RX1 20 "FixedPress$BitWriter" "heldBits" "I") (by decide +kernel)) (fun _ h9 => h9) rfl dX1_endByte_1 ?_
  refine lv_if_le (tgt := 19) hx hb dX1_endByte_4 (by decide) (fun c4 => ?_) (fun c4 => ?_)
  · have c4 : (L % 8) ≤ 0 := (nI_leI (a := (L % 8)) (b := 0) (by omega) (by omega)).mp c4
    have hL8 : L = (L + 7) / 8 * 8 := by omega
    have ho9 := ho
    have ho9 : zOut g V ((L + 7) / 8 * 8) := hL8 ▸ ho9
    have hP : va_P (dC, dI) vwCl [(h0, .inr (1, [.ref b, .int (nI (((L + 7) / 8 * 8) / 8)), .int (nI (V / 2 ^ (8 * (((L + 7) / 8 * 8) / 8)))), .int (nI (((L + 7) / 8 * 8) % 8))])), (b, .inl (cB, n, .inl g))] s.heap := by rw [← hL8]; exact hP
    have hD : va_D A [(h0, .inr (1, [.ref b, .int (nI (((L + 7) / 8 * 8) / 8)), .int (nI (V / 2 ^ (8 * (((L + 7) / 8 * 8) / 8)))), .int (nI (((L + 7) / 8 * 8) % 8))])), (b, .inl (cB, n, .inl g))] := by rw [← hL8]; exact hD
    have hP9 := hP.sub (ws' := [(h0, .inr (1, [.ref b, .int (nI (((L + 7) / 8 * 8) / 8)), .int (nI (V / 2 ^ (8 * (((L + 7) / 8 * 8) / 8)))), .int (nI (((L + 7) / 8 * 8) % 8))])), (b, .inl (cB, n, .inl g))]) [0, 1] rfl
    have hD9 := hD.sub (ws' := [(h0, .inr (1, [.ref b, .int (nI (((L + 7) / 8 * 8) / 8)), .int (nI (V / 2 ^ (8 * (((L + 7) / 8 * 8) / 8)))), .int (nI (((L + 7) / 8 * 8) % 8))])), (b, .inl (cB, n, .inl g))]) [0, 1] (by decide) rfl
    exact W.vret hx hb hr (fun t ht hW => ⟨⟨g, rfl, ho9, ⟨by rw [ht]; exact hP9, va_K.moved hW.alike hK, hD9⟩⟩, hS.F ht⟩) hS.2.2 dX1_endByte_19
  · have c4 : ¬ ((L % 8) ≤ 0) := fun h => c4 ((nI_leI (a := (L % 8)) (b := 0) (by omega) (by omega)).mpr h)
    refine lv_aload_n hx hb dX1_endByte_7 rfl (lv_at hl 0 rfl) ?_
    refine lv_iconst (v := 0) hx hb dX1_endByte_8 (by decide) ?_
    refine lv_bipush (v := 8) hx hb dX1_endByte_9 (by decide) ?_
    refine lv_aload_n hx hb dX1_endByte_11 rfl (lv_at hl 0 rfl) ?_
    refine va_get (D := (dC, dI)) (ci := 1) (v := .int (nI (L % 8))) (C := RX1) (T := TX1) (N := 4) hx hb hts (by decide +kernel) hown hK hP 0 rfl rfl 3 (by decide) (hts (.fieldLink RX1 20 "FixedPress$BitWriter" "heldBits" "I") (by decide +kernel)) (fun _ h9 => h9) rfl dX1_endByte_12 ?_
    refine lv_isub hx hb dX1_endByte_15 ?_
    refine lv_topi (fun y_1 ey_1 => ?_)
    obtain rfl : y_1 = nI (8 - (L % 8)) := ey_1.trans (pk_sub (a := 8) (b := (L % 8)) (by omega))
    have hPc := hP.sub (ws' := [(h0, .inr (1, [.ref b, .int (nI (L / 8)), .int (nI (V / 2 ^ (8 * (L / 8)))), .int (nI (L % 8))])), (b, .inl (cB, n, .inl g))]) [0, 1] rfl
    have hDc := hD.sub (ws' := [(h0, .inr (1, [.ref b, .int (nI (L / 8)), .int (nI (V / 2 ^ (8 * (L / 8)))), .int (nI (L % 8))])), (b, .inl (cB, n, .inl g))]) [0, 1] (by decide) rfl
    have hFc := va_free (wc := [(h0, .inr (1, [.ref b, .int (nI (L / 8)), .int (nI (V / 2 ^ (8 * (L / 8)))), .int (nI (L % 8))])), (b, .inl (cB, n, .inl g))]) hD hS hA [0, 1] rfl
    refine va_callv (va_runV (As := [.int 0, .int (nI (8 - (L % 8)))]) (rest := []) ⟨hx, hb, hml, hown, hts⟩ (k_X1_writeBits l dC dI cB cI cJ cM h0 b n g V L 0 (8 - L % 8) (ho) (Nat.two_pow_pos _) (by omega) (by omega) (by omega) s.heap.size) (cwV 2 hts gX1_endByte_X1_writeBits rfl rfl rfl (by decide +kernel) ⟨Nat.le_of_ble_eq_true rfl, Nat.le_of_ble_eq_true rfl⟩) ⟨fun a U g mk q => by obtain ⟨q0, q1, qP, qK, qD⟩ := q; exact ⟨q0, q1, qP, va_K.moved (u := U) (U := U.calling g mk a) (Vm.Alike.refl U.vm) qK, qD⟩, va_recv hK hPc (ci := 1) (q0 := 0) rfl rfl, fun U hU hW => ⟨rfl, by rw [hU], by rw [hU]; exact hPc, va_K.moved hW.alike hK, hDc.weaken (fun _ _ _ _ => trivial)⟩⟩ rfl rfl hl.1 rfl (lv_room (Nat.le_of_ble_eq_true rfl)) dX1_endByte_16 ⟨(show 0 + 0 ≤ 0 by omega), (show 0 + 0 ≤ 0 by omega)⟩) hS (fun q _ h => hFc q h) hFc (fun u t H1 locs ht hvm hw hB hz1 hk1 hS => ?_)
    obtain ⟨g2, rfl⟩ : ∃ z, z = u := ⟨_, rfl⟩
    have hP1 : va_P (dC, dI) vwCl [(h0, .inr (1, [.ref b, .int (nI ((L + (8 - L % 8)) / 8)), .int (nI ((V + 0 * 2 ^ L) / 2 ^ (8 * ((L + (8 - L % 8)) / 8)))), .int (nI ((L + (8 - L % 8)) % 8))])), (b, .inl (cB, n, .inl g2))] H1 := by rw [← ht]; exact hB.1
    have hD1 : va_D (va_A [(h0, .inr (1, [.ref b, .int (nI (L / 8)), .int (nI (V / 2 ^ (8 * (L / 8)))), .int (nI (L % 8))])), (b, .inl (cB, n, .inl g))] s.heap.size) [(h0, .inr (1, [.ref b, .int (nI ((L + (8 - L % 8)) / 8)), .int (nI ((V + 0 * 2 ^ L) / 2 ^ (8 * ((L + (8 - L % 8)) / 8)))), .int (nI ((L + (8 - L % 8)) % 8))])), (b, .inl (cB, n, .inl g2))] := hB.2.2
    obtain ⟨hP, hD⟩ := va_join (wr := []) (w1 := [(h0, .inr (1, [.ref b, .int (nI ((L + (8 - L % 8)) / 8)), .int (nI ((V + 0 * 2 ^ L) / 2 ^ (8 * ((L + (8 - L % 8)) / 8)))), .int (nI ((L + (8 - L % 8)) % 8))])), (b, .inl (cB, n, .inl g2))]) hP hD [0, 1] [] rfl rfl (by decide) (by decide) hk1 hFc hP1 hD1
    generalize H1 = H at hP hS ⊢
    try dsimp only at hw
    have hP : va_P (dC, dI) vwCl [(h0, .inr (1, [.ref b, .int (nI ((L + (8 - L % 8)) / 8)), .int (nI ((V + 0 * 2 ^ L) / 2 ^ (8 * ((L + (8 - L % 8)) / 8)))), .int (nI ((L + (8 - L % 8)) % 8))])), (b, .inl (cB, n, .inl g2))] H := hP
    have hD : va_D A [(h0, .inr (1, [.ref b, .int (nI ((L + (8 - L % 8)) / 8)), .int (nI ((V + 0 * 2 ^ L) / 2 ^ (8 * ((L + (8 - L % 8)) / 8)))), .int (nI ((L + (8 - L % 8)) % 8))])), (b, .inl (cB, n, .inl g2))] := hD
    have hL8 : L + (8 - L % 8) = (L + 7) / 8 * 8 := by omega
    have ho9 := hw
    rw [hL8, Nat.zero_mul, Nat.add_zero] at ho9 hP hD
    refine W.eq (g2 := F0 m 19 ls []) rfl ?_
    have hP9 := hP.sub (ws' := [(h0, .inr (1, [.ref b, .int (nI (((L + 7) / 8 * 8) / 8)), .int (nI (V / 2 ^ (8 * (((L + 7) / 8 * 8) / 8)))), .int (nI (((L + 7) / 8 * 8) % 8))])), (b, .inl (cB, n, .inl g2))]) [0, 1] rfl
    have hD9 := hD.sub (ws' := [(h0, .inr (1, [.ref b, .int (nI (((L + 7) / 8 * 8) / 8)), .int (nI (V / 2 ^ (8 * (((L + 7) / 8 * 8) / 8)))), .int (nI (((L + 7) / 8 * 8) % 8))])), (b, .inl (cB, n, .inl g2))]) [0, 1] (by decide) rfl
    exact W.vret hx hb hr (fun t ht hW => ⟨⟨g2, rfl, ho9, ⟨by rw [ht]; exact hP9, va_K.moved hW.alike hK, hD9⟩⟩, hS.F ht⟩) hS.2.2 dX1_endByte_19

abbrev rm_X1_written : Room := { frames := 0, cells := 0, slots := 0, locals := 0 }
abbrev wo_X1_written (dC : Nat → ClassId) (dI : Nat → Nat → Nat) (cB cI cJ cM : ClassId) (h0 : Nat) (v1 v3 v4 : Value) (k : Int32) : va_W := [(h0, .inr (1, [v1, .int k, v3, v4]))]
abbrev q_X1_written (dC : Nat → ClassId) (dI : Nat → Nat → Nat) (cB cI cJ cM : ClassId) (h0 : Nat) (v1 v3 v4 : Value) (k : Int32) (A : Nat → Prop) : Array Value → State → Outcome → State → Prop := va_Qi (fun (r : Int32) (u : Unit) => r = k) (zB dC dI cB cI cJ cM A (fun u : Unit => [(h0, .inr (1, [v1, .int k, v3, v4]))])) A
set_option maxHeartbeats 8000000 in
set_option maxRecDepth 100000 in
theorem k_X1_written (l : Launch) (dC : Nat → ClassId) (dI : Nat → Nat → Nat) (cB cI cJ cM : ClassId) (h0 : Nat) (v1 v3 v4 : Value) (k : Int32) (sz : Nat) : Met l yX1_written wsX1_written rm_X1_written (va_Pc [.ref h0] (fun U => U.heap.size = sz ∧ va_P (dC, dI) vwCl (wo_X1_written dC dI cB cI cJ cM h0 v1 v3 v4 k) U.heap ∧ va_K (dC, dI) vwCl (zT cB cI cJ cM) U ∧ va_D (fun _ => True) (wo_X1_written dC dI cB cI cJ cM h0 v1 v3 v4 k))) (q_X1_written dC dI cB cI cJ cM h0 v1 v3 v4 k (va_A (wo_X1_written dC dI cB cI cJ cM h0 v1 v3 v4 k) sz)) 0 0 (va_A (wo_X1_written dC dI cB cI cJ cM h0 v1 v3 v4 k) sz) := by
  refine Met.ofW (cc := cX1_written) (maxL := 1) (ret := (some .int)) (by decide) rfl ?_
  intro p e s m args below meth c s₁ B hml hv
  obtain ⟨rfl, hsz, hP, hK, hD0⟩ := hv
  have hx := B.exec
  have hb := B.bytes
  have hr := B.returns
  have hts := atoms_spec (ws := wsX1_written) B.pre
  have hown : s.vm.findClass RX1 = some m.cls := findClass_of_methodNamed B.named
  have hlocks := B.notSynchronized
  subst hsz
  have hD := hD0.self (sz := s.heap.size)
  generalize hAe : va_A (wo_X1_written dC dI cB cI cJ cM h0 v1 v3 v4 k) s.heap.size = A at hD ⊢
  have hA : ∀ q : Nat, s.heap.size ≤ q → A q := fun q h => by rw [← hAe]; exact Or.inr h
  have hS : va_S A s.heap s.heap [] := va_S.rf
  have hP : va_P (dC, dI) vwCl [(h0, .inr (1, [v1, .int k, v3, v4]))] s.heap := hP
  have hD : va_D A [(h0, .inr (1, [v1, .int k, v3, v4]))] := hD
  have hl := lv_entry ([.ref h0]) (n := 1) (Nat.le_of_ble_eq_true rfl)
  rw [lg_entry_eq]
  generalize (lg_sl ([.ref h0]) ++ List.replicate (1 - (lg_sl ([.ref h0])).length) Slot.unset).toArray = ls at hl ⊢
  have hl : lv_has ls 1 [(0, .ref h0)] := hl
  refine lv_aload_n hx hb dX1_written_0 rfl (lv_at hl 0 rfl) ?_
  refine va_get (D := (dC, dI)) (ci := 1) (v := .int k) (C := RX1) (T := TX1) (N := 4) hx hb hts (by decide +kernel) hown hK hP 0 rfl rfl 1 (by decide) (hts (.fieldLink RX1 13 "FixedPress$BitWriter" "length" "I") (by decide +kernel)) (fun _ h9 => h9) rfl dX1_written_1 ?_
  have hP9 := hP.sub (ws' := [(h0, .inr (1, [v1, .int k, v3, v4]))]) [0] rfl
  have hD9 := hD.sub (ws' := [(h0, .inr (1, [v1, .int k, v3, v4]))]) [0] (by decide) rfl
  exact W.iret (v := k) hx hb hr (fun t ht hW => ⟨⟨k, (), rfl, rfl, ⟨by rw [ht]; exact hP9, va_K.moved hW.alike hK, hD9⟩⟩, hS.F ht⟩) hS.2.2 dX1_written_4
