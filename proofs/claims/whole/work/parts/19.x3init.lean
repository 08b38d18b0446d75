abbrev rm_X3_init : Room := { frames := 1, cells := 2, slots := 8096, locals := 12 }
abbrev wo_X3_init (dC : Nat → ClassId) (dI : Nat → Nat → Nat) (cB cI cJ cM : ClassId) (h0 : Nat) (v2 v3 v4 : Value) : va_W := [(h0, .inr (3, [.null, .null, v2, v3, v4]))]
abbrev q_X3_init (dC : Nat → ClassId) (dI : Nat → Nat → Nat) (cB cI cJ cM : ClassId) (h0 : Nat) (v2 v3 v4 : Value) (A : Nat → Prop) : Array Value → State → Outcome → State → Prop := va_Qv (fun (u : Nat × Nat) => True) (zB dC dI cB cI cJ cM A (fun u : Nat × Nat => [(h0, .inr (3, [.ref u.1, .ref u.2, v2, v3, v4])), (u.1, .inl (cI, 4096, .inl (fun _ => 0))), (u.2, .inl (cI, 4000, .inl (fun _ => 0)))])) A
set_option maxHeartbeats 8000000 in
set_option maxRecDepth 100000 in
/-- CopyFinder() -/
theorem k_X3_init (l : Launch) (dC : Nat → ClassId) (dI : Nat → Nat → Nat) (cB cI cJ cM : ClassId) (h0 : Nat) (v2 v3 v4 : Value) (sz : Nat) : Met l yX3_init wsX3_init rm_X3_init (va_Pc [.ref h0] (fun U => U.heap.size = sz ∧ va_P (dC, dI) vwCl (wo_X3_init dC dI cB cI cJ cM h0 v2 v3 v4) U.heap ∧ va_K (dC, dI) vwCl (zT cB cI cJ cM) U ∧ va_D (fun _ => True) (wo_X3_init dC dI cB cI cJ cM h0 v2 v3 v4))) (q_X3_init dC dI cB cI cJ cM h0 v2 v3 v4 (va_A (wo_X3_init dC dI cB cI cJ cM h0 v2 v3 v4) sz)) 2 8096 (va_A (wo_X3_init dC dI cB cI cJ cM h0 v2 v3 v4) sz) := by
  refine Met.ofW (cc := cX3_init) (maxL := 1) (ret := none) (by decide) rfl ?_
  intro p e s m args below meth c s₁ B hml hv
  obtain ⟨rfl, hsz, hP, hK, hD0⟩ := hv
  have hx := B.exec
  have hb := B.bytes
  have hr := B.returns
  have hts := atoms_spec (ws := wsX3_init) B.pre
  have hown : s.vm.findClass RX3 = some m.cls := findClass_of_methodNamed B.named
  have hlocks := B.notSynchronized
  have hin : meth.name = "<init>" := (name_of_methodNamed B.named B.method).1
  subst hsz
  have hD := hD0.self (sz := s.heap.size)
  generalize hAe : va_A (wo_X3_init dC dI cB cI cJ cM h0 v2 v3 v4) s.heap.size = A at hD ⊢
  have hA : ∀ q : Nat, s.heap.size ≤ q → A q := fun q h => by rw [← hAe]; exact Or.inr h
  have hS : va_S A s.heap s.heap [] := va_S.rf
  have hP : va_P (dC, dI) vwCl [(h0, .inr (3, [.null, .null, v2, v3, v4]))] s.heap := hP
  have hD : va_D A [(h0, .inr (3, [.null, .null, v2, v3, v4]))] := hD
  have hl := lv_entry ([.ref h0]) (n := 1) (Nat.le_of_ble_eq_true rfl)
  rw [lg_entry_eq]
  generalize (lg_sl ([.ref h0]) ++ List.replicate (1 - (lg_sl ([.ref h0])).length) Slot.unset).toArray = ls at hl ⊢
  have hl : lv_has ls 1 [(0, .ref h0)] := hl
  refine lv_aload_n hx hb dX3_init_0 rfl (lv_at hl 0 rfl) ?_
  refine W.objInit hx hb hown (hts (.methodLink RX3 3 objectInit) (by decide +kernel)) (hts (.instanceMethod objectInit) (by decide +kernel)) (hts (.code objectInit ⟨#[0xb1]⟩ 1 none) (by decide +kernel)) rfl (by rw [hml]; exact hl.1) rfl dX3_init_1 (Nat.le_of_ble_eq_true rfl) (Nat.le_of_ble_eq_true rfl) ?_
  refine W.eq (g2 := F0 m 4 ls []) rfl ?_
  refine lv_aload_n hx hb dX3_init_4 rfl (lv_at hl 0 rfl) ?_
  refine lv_sipush (v := 4096) hx hb dX3_init_5 (by decide) ?_
  refine va_newa (ty := .int) (N' := 4096) (a0 := (4096, .inl (fun _ => 0))) hx hb (hts (.arrayClass .int) (by decide +kernel)) rfl hK hP hD hS hA (zva_i 4096) (by decide +kernel) (by decide +kernel) (by decide +kernel) (Nat.le_of_ble_eq_true rfl) (Nat.le_of_ble_eq_true rfl) dX3_init_8 (fun q8 cA9 H hK9 hP hD hS => ?_)
  obtain rfl : cA9 = cI := zUniq hK9 (i := 4) (j := 1) rfl rfl (by decide)
  have hP : va_P (dC, dI) vwCl [(h0, .inr (3, [.null, .null, v2, v3, v4])), (q8, .inl (cI, 4096, .inl (fun _ => 0)))] H := hP
  have hD : va_D A [(h0, .inr (3, [.null, .null, v2, v3, v4])), (q8, .inl (cI, 4096, .inl (fun _ => 0)))] := hD
  refine W.widen (k := 1) (n := 4096) (Nat.le_of_ble_eq_true rfl) (Nat.le_of_ble_eq_true rfl) ?_
  refine va_putF (D := (dC, dI)) (ci := 3) (v := .ref q8) (ty := .array .int) (C := RX3) (T := TX3) (N := 5) hx hb hts (by decide +kernel) tyX3 tyX3_ok nmX3 hown hK hP hD hS 0 rfl rfl 0 (by decide) (hts (.fieldLink RX3 11 "FixedPress$CopyFinder" "nearest" "[I") (by decide +kernel)) (fun _ h9 => h9) rfl hin rfl (by decide +kernel) rfl rfl (Nat.le_of_ble_eq_true rfl) dX3_init_10 (fun H locs hP hD hS => ?_)
  have hP : va_P (dC, dI) vwCl [(h0, .inr (3, [.ref q8, .null, v2, v3, v4])), (q8, .inl (cI, 4096, .inl (fun _ => 0)))] H := hP
  have hD : va_D A [(h0, .inr (3, [.ref q8, .null, v2, v3, v4])), (q8, .inl (cI, 4096, .inl (fun _ => 0)))] := hD
  refine lv_aload_n hx hb dX3_init_13 rfl (lv_at hl 0 rfl) ?_
  refine lv_sipush (v := 4000) hx hb dX3_init_14 (by decide) ?_
  refine va_newa (ty := .int) (N' := 4000) (a0 := (4000, .inl (fun _ => 0))) hx hb (hts (.arrayClass .int) (by decide +kernel)) rfl hK hP hD hS hA (zva_i 4000) (by decide +kernel) (by decide +kernel) (by decide +kernel) (Nat.le_of_ble_eq_true rfl) (Nat.le_of_ble_eq_true rfl) dX3_init_17 (fun q17 cA9 H hK9 hP hD hS => ?_)
  obtain rfl : cA9 = cI := zUniq hK9 (i := 4) (j := 1) rfl rfl (by decide)
  have hP : va_P (dC, dI) vwCl [(h0, .inr (3, [.ref q8, .null, v2, v3, v4])), (q8, .inl (cI, 4096, .inl (fun _ => 0))), (q17, .inl (cI, 4000, .inl (fun _ => 0)))] H := hP
  have hD : va_D A [(h0, .inr (3, [.ref q8, .null, v2, v3, v4])), (q8, .inl (cI, 4096, .inl (fun _ => 0))), (q17, .inl (cI, 4000, .inl (fun _ => 0)))] := hD
  refine W.widen (k := 2) (n := 8096) (Nat.le_of_ble_eq_true rfl) (Nat.le_of_ble_eq_true rfl) ?_
  refine va_putF (D := (dC, dI)) (ci := 3) (v := .ref q17) (ty := .array .int) (C := RX3) (T := TX3) (N := 5) hx hb hts (by decide +kernel) tyX3 tyX3_ok nmX3 hown hK hP hD hS 0 rfl rfl 1 (by decide) (hts (.fieldLink RX3 15 "FixedPress$CopyFinder" "farther" "[I") (by decide +kernel)) (fun _ h9 => h9) rfl hin rfl (by decide +kernel) rfl rfl (Nat.le_of_ble_eq_true rfl) dX3_init_19 (fun H locs hP hD hS => ?_)
  have hP : va_P (dC, dI) vwCl [(h0, .inr (3, [.ref q8, .ref q17, v2, v3, v4])), (q8, .inl (cI, 4096, .inl (fun _ => 0))), (q17, .inl (cI, 4000, .inl (fun _ => 0)))] H := hP
  have hD : va_D A [(h0, .inr (3, [.ref q8, .ref q17, v2, v3, v4])), (q8, .inl (cI, 4096, .inl (fun _ => 0))), (q17, .inl (cI, 4000, .inl (fun _ => 0)))] := hD
  have hP9 := hP.sub (ws' := [(h0, .inr (3, [.ref q8, .ref q17, v2, v3, v4])), (q8, .inl (cI, 4096, .inl (fun _ => 0))), (q17, .inl (cI, 4000, .inl (fun _ => 0)))]) [0, 1, 2] rfl
  have hD9 := hD.sub (ws' := [(h0, .inr (3, [.ref q8, .ref q17, v2, v3, v4])), (q8, .inl (cI, 4096, .inl (fun _ => 0))), (q17, .inl (cI, 4000, .inl (fun _ => 0)))]) [0, 1, 2] (by decide) rfl
  exact W.vret hx hb hr (fun t ht hW => ⟨⟨(q8, q17), rfl, trivial, ⟨by rw [ht]; exact hP9, va_K.moved hW.alike hK, hD9⟩⟩, hS.F ht⟩) hS.2.2 dX3_init_22

