abbrev rm_X0_init : Room := { frames := 1, cells := 0, slots := 0, locals := 12 }
abbrev wo_X0_init (dC : Nat → ClassId) (dI : Nat → Nat → Nat) (cB cI cJ cM : ClassId) (h0 : Nat) (v1 v2 v3 : Value) : va_W := [(h0, .inr (0, [v1, v2, v3]))]
abbrev q_X0_init (dC : Nat → ClassId) (dI : Nat → Nat → Nat) (cB cI cJ cM : ClassId) (h0 : Nat) (v1 v2 v3 : Value) (A : Nat → Prop) : Array Value → State → Outcome → State → Prop := va_Qv (fun (u : Unit) => True) (zB dC dI cB cI cJ cM A (fun u : Unit => [(h0, .inr (0, [v1, v2, v3]))])) A
set_option maxHeartbeats 8000000 in
set_option maxRecDepth 100000 in
/-- BitReader(): nothing -/
theorem k_X0_init (l : Launch) (dC : Nat → ClassId) (dI : Nat → Nat → Nat) (cB cI cJ cM : ClassId) (h0 : Nat) (v1 v2 v3 : Value) (sz : Nat) : Met l yX0_init wsX0_init rm_X0_init (va_Pc [.ref h0] (fun U => U.heap.size = sz ∧ va_P (dC, dI) vwCl (wo_X0_init dC dI cB cI cJ cM h0 v1 v2 v3) U.heap ∧ va_K (dC, dI) vwCl (zT cB cI cJ cM) U ∧ va_D (fun _ => True) (wo_X0_init dC dI cB cI cJ cM h0 v1 v2 v3))) (q_X0_init dC dI cB cI cJ cM h0 v1 v2 v3 (va_A (wo_X0_init dC dI cB cI cJ cM h0 v1 v2 v3) sz)) 0 0 (va_A (wo_X0_init dC dI cB cI cJ cM h0 v1 v2 v3) sz) := by
  refine Met.ofW (cc := cX0_init) (maxL := 1) (ret := none) (by decide) rfl ?_
  intro p e s m args below meth c s₁ B hml hv
  obtain ⟨rfl, hsz, hP, hK, hD0⟩ := hv
  have hx := B.exec
  have hb := B.bytes
  have hr := B.returns
  have hts := atoms_spec (ws := wsX0_init) B.pre
  have hown : s.vm.findClass RX0 = some m.cls := findClass_of_methodNamed B.named
  have hlocks := B.notSynchronized
  have hin : meth.name = "<init>" := (name_of_methodNamed B.named B.method).1
  subst hsz
  have hD := hD0.self (sz := s.heap.size)
  generalize hAe : va_A (wo_X0_init dC dI cB cI cJ cM h0 v1 v2 v3) s.heap.size = A at hD ⊢
  have hA : ∀ q : Nat, s.heap.size ≤ q → A q := fun q h => by rw [← hAe]; exact Or.inr h
  have hS : va_S A s.heap s.heap [] := va_S.rf
  have hP : va_P (dC, dI) vwCl [(h0, .inr (0, [v1, v2, v3]))] s.heap := hP
  have hD : va_D A [(h0, .inr (0, [v1, v2, v3]))] := hD
  have hl := lv_entry ([.ref h0]) (n := 1) (Nat.le_of_ble_eq_true rfl)
  rw [lg_entry_eq]
  generalize (lg_sl ([.ref h0]) ++ List.replicate (1 - (lg_sl ([.ref h0])).length) Slot.unset).toArray = ls at hl ⊢
  have hl : lv_has ls 1 [(0, .ref h0)] := hl
  refine lv_aload_n hx hb dX0_init_0 rfl (lv_at hl 0 rfl) ?_
  refine W.objInit hx hb hown (hts (.methodLink RX0 1 objectInit) (by decide +kernel)) (hts (.instanceMethod objectInit) (by decide +kernel)) (hts (.code objectInit ⟨#[0xb1]⟩ 1 none) (by decide +kernel)) rfl (by rw [hml]; exact hl.1) rfl dX0_init_1 (Nat.le_of_ble_eq_true rfl) (Nat.le_of_ble_eq_true rfl) ?_
  refine W.eq (g2 := F0 m 4 ls []) rfl ?_
  have hP9 := hP.sub (ws' := [(h0, .inr (0, [v1, v2, v3]))]) [0] rfl
  have hD9 := hD.sub (ws' := [(h0, .inr (0, [v1, v2, v3]))]) [0] (by decide) rfl
  exact W.vret hx hb hr (fun t ht hW => ⟨⟨(), rfl, trivial, ⟨by rw [ht]; exact hP9, va_K.moved hW.alike hK, hD9⟩⟩, hS.F ht⟩) hS.2.2 dX0_init_4

abbrev rm_X0_begin : Room := { frames := 0, cells := 0, slots := 0, locals := 0 }
abbrev wo_X0_begin (dC : Nat → ClassId) (dI : Nat → Nat → Nat) (cB cI cJ cM : ClassId) (h0 b : Nat) (v1 v2 v3 : Value) (k : Int32) : va_W := [(h0, .inr (0, [v1, v2, v3]))]
abbrev q_X0_begin (dC : Nat → ClassId) (dI : Nat → Nat → Nat) (cB cI cJ cM : ClassId) (h0 b : Nat) (v1 v2 v3 : Value) (k : Int32) (A : Nat → Prop) : Array Value → State → Outcome → State → Prop := va_Qv (fun (u : Unit) => True) (zB dC dI cB cI cJ cM A (fun u : Unit => [(h0, .inr (0, [.ref b, .int 0, .int (k * 8)]))])) A
set_option maxHeartbeats 8000000 in
set_option maxRecDepth 100000 in
/-- BitReader.begin -/
theorem k_X0_begin (l : Launch) (dC : Nat → ClassId) (dI : Nat → Nat → Nat) (cB cI cJ cM : ClassId) (h0 b : Nat) (v1 v2 v3 : Value) (k : Int32) (sz : Nat) : Met l yX0_begin wsX0_begin rm_X0_begin (va_Pc [.ref h0, .ref b, .int k] (fun U => U.heap.size = sz ∧ va_P (dC, dI) vwCl (wo_X0_begin dC dI cB cI cJ cM h0 b v1 v2 v3 k) U.heap ∧ va_K (dC, dI) vwCl (zT cB cI cJ cM) U ∧ va_D (fun _ => True) (wo_X0_begin dC dI cB cI cJ cM h0 b v1 v2 v3 k))) (q_X0_begin dC dI cB cI cJ cM h0 b v1 v2 v3 k (va_A (wo_X0_begin dC dI cB cI cJ cM h0 b v1 v2 v3 k) sz)) 0 0 (va_A (wo_X0_begin dC dI cB cI cJ cM h0 b v1 v2 v3 k) sz) := by
  refine Met.ofW (cc := cX0_begin) (maxL := 3) (ret := none) (by decide) rfl ?_
  intro p e s m args below meth c s₁ B hml hv
  obtain ⟨rfl, hsz, hP, hK, hD0⟩ := hv
  have hx := B.exec
  have hb := B.bytes
  have hr := B.returns
  have hts := atoms_spec (ws := wsX0_begin) B.pre
  have hown : s.vm.findClass RX0 = some m.cls := findClass_of_methodNamed B.named
  have hlocks := B.notSynchronized
  subst hsz
  have hD := hD0.self (sz := s.heap.size)
  generalize hAe : va_A (wo_X0_begin dC dI cB cI cJ cM h0 b v1 v2 v3 k) s.heap.size = A at hD ⊢
  have hA : ∀ q : Nat, s.heap.size ≤ q → A q := fun q h => by rw [← hAe]; exact Or.inr h
  have hS : va_S A s.heap s.heap [] := va_S.rf
  have hP : va_P (dC, dI) vwCl [(h0, .inr (0, [v1, v2, v3]))] s.heap := hP
  have hD : va_D A [(h0, .inr (0, [v1, v2, v3]))] := hD
  have hl := lv_entry ([.ref h0, .ref b, .int k]) (n := 3) (Nat.le_of_ble_eq_true rfl)
  rw [lg_entry_eq]
  generalize (lg_sl ([.ref h0, .ref b, .int k]) ++ List.replicate (3 - (lg_sl ([.ref h0, .ref b, .int k])).length) Slot.unset).toArray = ls at hl ⊢
  have hl : lv_has ls 3 [(0, .ref h0), (1, .ref b), (2, .int k)] := hl
  refine lv_aload_n hx hb dX0_begin_0 rfl (lv_at hl 0 rfl) ?_
  refine lv_aload_n hx hb dX0_begin_1 rfl (lv_at hl 1 rfl) ?_
  refine va_put (D := (dC, dI)) (ci := 0) (v := .ref b) (ty := .array .byte) (C := RX0) (T := TX0) (N := 3) hx hb hts (by decide +kernel) tyX0 tyX0_ok nmX0 hown hK hP hD hS 0 rfl rfl 0 (by decide) (hts (.fieldLink RX0 7 "FixedPress$BitReader" "bytes" "[B") (by decide +kernel)) (fun _ h9 => h9) rfl (by decide +kernel) rfl rfl (Nat.le_of_ble_eq_true rfl) dX0_begin_2 (fun H locs hP hD hS => ?_)
  have hP : va_P (dC, dI) vwCl [(h0, .inr (0, [.ref b, v2, v3]))] H := hP
  have hD : va_D A [(h0, .inr (0, [.ref b, v2, v3]))] := hD
  refine lv_aload_n hx hb dX0_begin_5 rfl (lv_at hl 0 rfl) ?_
  refine lv_iconst (v := 0) hx hb dX0_begin_6 (by decide) ?_
  refine va_put (D := (dC, dI)) (ci := 0) (v := .int 0) (ty := .int) (C := RX0) (T := TX0) (N := 3) hx hb hts (by decide +kernel) tyX0 tyX0_ok nmX0 hown hK hP hD hS 0 rfl rfl 1 (by decide) (hts (.fieldLink RX0 13 "FixedPress$BitReader" "at" "I") (by decide +kernel)) (fun _ h9 => h9) rfl (by decide +kernel) rfl rfl (Nat.le_of_ble_eq_true rfl) dX0_begin_7 (fun H locs hP hD hS => ?_)
  have hP : va_P (dC, dI) vwCl [(h0, .inr (0, [.ref b, .int 0, v3]))] H := hP
  have hD : va_D A [(h0, .inr (0, [.ref b, .int 0, v3]))] := hD
  refine lv_aload_n hx hb dX0_begin_10 rfl (lv_at hl 0 rfl) ?_
  refine lv_iload_n hx hb dX0_begin_11 rfl (lv_at hl 2 rfl) ?_
  refine lv_bipush (v := 8) hx hb dX0_begin_12 (by decide) ?_
  refine lv_imul hx hb dX0_begin_14 ?_
  refine va_put (D := (dC, dI)) (ci := 0) (v := .int (k * 8)) (ty := .int) (C := RX0) (T := TX0) (N := 3) hx hb hts (by decide +kernel) tyX0 tyX0_ok nmX0 hown hK hP hD hS 0 rfl rfl 2 (by decide) (hts (.fieldLink RX0 17 "FixedPress$BitReader" "limit" "I") (by decide +kernel)) (fun _ h9 => h9) rfl (by decide +kernel) rfl rfl (Nat.le_of_ble_eq_true rfl) dX0_begin_15 (fun H locs hP hD hS => ?_)
  have hP : va_P (dC, dI) vwCl [(h0, .inr (0, [.ref b, .int 0, .int (k * 8)]))] H := hP
  have hD : va_D A [(h0, .inr (0, [.ref b, .int 0, .int (k * 8)]))] := hD
  have hP9 := hP.sub (ws' := [(h0, .inr (0, [.ref b, .int 0, .int (k * 8)]))]) [0] rfl
  have hD9 := hD.sub (ws' := [(h0, .inr (0, [.ref b, .int 0, .int (k * 8)]))]) [0] (by decide) rfl
  exact W.vret hx hb hr (fun t ht hW => ⟨⟨(), rfl, trivial, ⟨by rw [ht]; exact hP9, va_K.moved hW.alike hK, hD9⟩⟩, hS.F ht⟩) hS.2.2 dX0_begin_18

abbrev rm_X0_readBit : Room := { frames := 6, cells := 1, slots := 6, locals := 96 }
abbrev wo_X0_readBit (dC : Nat → ClassId) (dI : Nat → Nat → Nat) (cB cI cJ cM : ClassId) (h0 b n : Nat) (f : Nat → Int32) (at_ : Nat) (lim : Int32) : va_W := [(h0, .inr (0, [.ref b, .int (nI at_), .int lim])), (b, .inl (cB, n, .inl f))]
abbrev q_X0_readBit (dC : Nat → ClassId) (dI : Nat → Nat → Nat) (cB cI cJ cM : ClassId) (h0 b n : Nat) (f : Nat → Int32) (at_ : Nat) (lim : Int32) (A : Nat → Prop) : Array Value → State → Outcome → State → Prop := va_Qi (fun (r : Int32) (u : Unit) => r = nI (zbt f at_) ∧ at_ < lim.toNatClampNeg) (zB dC dI cB cI cJ cM A (fun u : Unit => [(h0, .inr (0, [.ref b, .int (nI (at_ + 1)), .int lim])), (b, .inl (cB, n, .inl f))])) A
abbrev x_X0_readBit (dC : Nat → ClassId) (dI : Nat → Nat → Nat) (cB cI cJ cM : ClassId) (h0 b n : Nat) (f : Nat → Int32) (at_ : Nat) (lim : Int32) (A : Nat → Prop) : String → State → State → Prop := vx_X (fun (u : String × (Unit)) => (u.1 = "java/lang/UnsupportedOperationException") ∧ (lim.toNatClampNeg ≤ at_)) (fun E (u : String × (Unit)) t => E = u.1 ∧ zB dC dI cB cI cJ cM A (fun u : Unit => [(h0, .inr (0, [.ref b, .int (nI at_), .int lim])), (b, .inl (cB, n, .inl f))]) u.2 t) A
set_option maxHeartbeats 8000000 in
set_option maxRecDepth 100000 in
/-- BitReader.readBit: the next bit, or the throw behind the limit -/
theorem k_X0_readBit (l : Launch) (hl9 : l.stackTraces = false) (dC : Nat → ClassId) (dI : Nat → Nat → Nat) (cB cI cJ cM : ClassId) (h0 b n : Nat) (f : Nat → Int32) (at_ : Nat) (lim : Int32) (h1 : lim.toNatClampNeg ≤ 8 * n) (h2 : n < 100000) (h3 : at_ < 1000000) (sz : Nat) : vx_Met l yX0_readBit wsX0_readBit rm_X0_readBit (va_Pc [.ref h0] (fun U => U.heap.size = sz ∧ va_P (dC, dI) vwCl (wo_X0_readBit dC dI cB cI cJ cM h0 b n f at_ lim) U.heap ∧ va_K (dC, dI) vwCl (zT cB cI cJ cM) U ∧ va_D (fun _ => True) (wo_X0_readBit dC dI cB cI cJ cM h0 b n f at_ lim) ∧ zE (va_A (wo_X0_readBit dC dI cB cI cJ cM h0 b n f at_ lim) sz) U)) (q_X0_readBit dC dI cB cI cJ cM h0 b n f at_ lim (va_A (wo_X0_readBit dC dI cB cI cJ cM h0 b n f at_ lim) sz)) (x_X0_readBit dC dI cB cI cJ cM h0 b n f at_ lim (va_A (wo_X0_readBit dC dI cB cI cJ cM h0 b n f at_ lim) sz)) 0 0 1 6 (va_A (wo_X0_readBit dC dI cB cI cJ cM h0 b n f at_ lim) sz) := by
  refine vx_ofW (cc := cX0_readBit) (maxL := 2) (ret := (some .int)) (by decide) rfl ?_
  intro p e s m args below meth c s₁ B hml hEx hv
  obtain ⟨rfl, hsz, hP, hK, hD0, hE⟩ := hv
  have hx := B.exec
  have hb := B.bytes
  have hr := B.returns
  have hts := atoms_spec (ws := wsX0_readBit) B.pre
  have hown : s.vm.findClass RX0 = some m.cls := findClass_of_methodNamed B.named
  have hlocks := B.notSynchronized
  subst hsz
  have hD := hD0.self (sz := s.heap.size)
  generalize hAe : va_A (wo_X0_readBit dC dI cB cI cJ cM h0 b n f at_ lim) s.heap.size = A at hD hE ⊢
  have hA : ∀ q : Nat, s.heap.size ≤ q → A q := fun q h => by rw [← hAe]; exact Or.inr h
  have hS : va_S A s.heap s.heap [] := va_S.rf
  have hP : va_P (dC, dI) vwCl [(h0, .inr (0, [.ref b, .int (nI at_), .int lim])), (b, .inl (cB, n, .inl f))] s.heap := hP
  have hD : va_D A [(h0, .inr (0, [.ref b, .int (nI at_), .int lim])), (b, .inl (cB, n, .inl f))] := hD
  have hl := lv_entry ([.ref h0]) (n := 2) (Nat.le_of_ble_eq_true rfl)
  rw [lg_entry_eq]
  generalize (lg_sl ([.ref h0]) ++ List.replicate (2 - (lg_sl ([.ref h0])).length) Slot.unset).toArray = ls at hl ⊢
  have hl : lv_has ls 2 [(0, .ref h0)] := hl
  refine lv_aload_n hx hb dX0_readBit_0 rfl (lv_at hl 0 rfl) ?_
  refine va_get (D := (dC, dI)) (ci := 0) (v := .int (nI at_)) (C := RX0) (T := TX0) (N := 3) hx hb hts (by decide +kernel) hown hK hP 0 rfl rfl 1 (by decide) (hts (.fieldLink RX0 13 "FixedPress$BitReader" "at" "I") (by decide +kernel)) (fun _ h9 => h9) rfl dX0_readBit_1 ?_
  refine lv_aload_n hx hb dX0_readBit_4 rfl (lv_at hl 0 rfl) ?_
  refine va_get (D := (dC, dI)) (ci := 0) (v := .int lim) (C := RX0) (T := TX0) (N := 3) hx hb hts (by decide +kernel) hown hK hP 0 rfl rfl 2 (by decide) (hts (.fieldLink RX0 17 "FixedPress$BitReader" "limit" "I") (by decide +kernel)) (fun _ h9 => h9) rfl dX0_readBit_5 ?_
  refine lv_icmp_lt (tgt := 21) hx hb dX0_readBit_8 (by decide) (fun c8 => ?_) (fun c8 => ?_)
  · have c8 : at_ < lim.toNatClampNeg := (z_lt (by omega) lim).mp c8
    refine lv_aload_n hx hb dX0_readBit_21 rfl (lv_at hl 0 rfl) ?_
    refine va_get (D := (dC, dI)) (ci := 0) (v := .ref b) (C := RX0) (T := TX0) (N := 3) hx hb hts (by decide +kernel) hown hK hP 0 rfl rfl 0 (by decide) (hts (.fieldLink RX0 7 "FixedPress$BitReader" "bytes" "[B") (by decide +kernel)) (fun _ h9 => h9) rfl dX0_readBit_22 ?_
    refine lv_aload_n hx hb dX0_readBit_25 rfl (lv_at hl 0 rfl) ?_
    refine va_get (D := (dC, dI)) (ci := 0) (v := .int (nI at_)) (C := RX0) (T := TX0) (N := 3) hx hb hts (by decide +kernel) hown hK hP 0 rfl rfl 1 (by decide) (hts (.fieldLink RX0 13 "FixedPress$BitReader" "at" "I") (by decide +kernel)) (fun _ h9 => h9) rfl dX0_readBit_26 ?_
    refine lv_iconst (v := 3) hx hb dX0_readBit_29 (by decide) ?_
    refine lv_iushr hx hb dX0_readBit_30 rfl ?_
    refine lv_topi (fun y_1 ey_1 => ?_)
    obtain rfl : y_1 = nI (at_ / 2 ^ 3) := ey_1.trans (z_ush (n := at_) (k := 3) (by omega) (by decide))
    refine va_bald hx hb hK hP 1 0 rfl rfl (vp_in_nI (n := at_ / 2 ^ 3) (by omega) (by omega)) dX0_readBit_31 ?_
    rw [nI_clamp (n := at_ / 2 ^ 3) (by omega)]
    refine lv_aload_n hx hb dX0_readBit_32 rfl (lv_at hl 0 rfl) ?_
    refine va_get (D := (dC, dI)) (ci := 0) (v := .int (nI at_)) (C := RX0) (T := TX0) (N := 3) hx hb hts (by decide +kernel) hown hK hP 0 rfl rfl 1 (by decide) (hts (.fieldLink RX0 13 "FixedPress$BitReader" "at" "I") (by decide +kernel)) (fun _ h9 => h9) rfl dX0_readBit_33 ?_
    refine lv_bipush (v := 7) hx hb dX0_readBit_36 (by decide) ?_
    refine lv_iand hx hb dX0_readBit_38 ?_
    refine lv_topi (fun y_2 ey_2 => ?_)
    obtain rfl : y_2 = nI (at_ % 2 ^ 3) := ey_2.trans (pk_andN (n := at_) (by omega) 3 (by decide))
    refine lv_iushr hx hb dX0_readBit_39 rfl ?_
    refine lv_iconst (v := 1) hx hb dX0_readBit_40 (by decide) ?_
    refine lv_iand hx hb dX0_readBit_41 ?_
    refine lv_topi (fun y_3 ey_3 => ?_)
    obtain rfl : y_3 = nI (zbt f at_) := ey_3.trans (z_bit (f (at_ / 2 ^ 3)) (k := at_ % 2 ^ 3) (by omega))
    refine lv_istore_n (lv' := [(1, .int (nI (zbt f at_))), (0, .ref h0)]) hx hb dX0_readBit_42 rfl hl (by decide) rfl (fun ls hl => ?_)
    refine lv_aload_n hx hb dX0_readBit_43 rfl (lv_at hl 1 rfl) ?_
    refine lv_dup hx hb dX0_readBit_44 rfl ?_
    refine va_get (D := (dC, dI)) (ci := 0) (v := .int (nI at_)) (C := RX0) (T := TX0) (N := 3) hx hb hts (by decide +kernel) hown hK hP 0 rfl rfl 1 (by decide) (hts (.fieldLink RX0 13 "FixedPress$BitReader" "at" "I") (by decide +kernel)) (fun _ h9 => h9) rfl dX0_readBit_45 ?_
    refine lv_iconst (v := 1) hx hb dX0_readBit_48 (by decide) ?_
    refine lv_iadd hx hb dX0_readBit_49 ?_
    refine lv_topi (fun y_4 ey_4 => ?_)
    obtain rfl : y_4 = nI (at_ + 1) := ey_4.trans (nI_add at_ 1)
    refine va_put (D := (dC, dI)) (ci := 0) (v := .int (nI (at_ + 1))) (ty := .int) (C := RX0) (T := TX0) (N := 3) hx hb hts (by decide +kernel) tyX0 tyX0_ok nmX0 hown hK hP hD hS 0 rfl rfl 1 (by decide) (hts (.fieldLink RX0 13 "FixedPress$BitReader" "at" "I") (by decide +kernel)) (fun _ h9 => h9) rfl (by decide +kernel) rfl rfl (Nat.le_of_ble_eq_true rfl) dX0_readBit_50 (fun H locs hP hD hS => ?_)
    have hP : va_P (dC, dI) vwCl [(h0, .inr (0, [.ref b, .int (nI (at_ + 1)), .int lim])), (b, .inl (cB, n, .inl f))] H := hP
    have hD : va_D A [(h0, .inr (0, [.ref b, .int (nI (at_ + 1)), .int lim])), (b, .inl (cB, n, .inl f))] := hD
    refine lv_iload_n hx hb dX0_readBit_53 rfl (lv_at hl 0 rfl) ?_
    have hP9 := hP.sub (ws' := [(h0, .inr (0, [.ref b, .int (nI (at_ + 1)), .int lim])), (b, .inl (cB, n, .inl f))]) [0, 1] rfl
    have hD9 := hD.sub (ws' := [(h0, .inr (0, [.ref b, .int (nI (at_ + 1)), .int lim])), (b, .inl (cB, n, .inl f))]) [0, 1] (by decide) rfl
    exact vx_ret (W.iret (v := (nI (zbt f at_))) hx hb hr (fun t ht hW => ⟨⟨(nI (zbt f at_)), (), rfl, ⟨rfl, c8⟩, ⟨by rw [ht]; exact hP9, va_K.moved hW.alike hK, hD9⟩⟩, hS.F ht⟩) hS.2.2 dX0_readBit_54)
  · have c8 : ¬ at_ < lim.toNatClampNeg := fun h => c8 ((z_lt (by omega) lim).mpr h)
    have hP9 := hP.sub (ws' := [(h0, .inr (0, [.ref b, .int (nI at_), .int lim])), (b, .inl (cB, n, .inl f))]) [0, 1] rfl
    have hD9 := hD.sub (ws' := [(h0, .inr (0, [.ref b, .int (nI at_), .int lim])), (b, .inl (cB, n, .inl f))]) [0, 1] (by decide) rfl
    obtain ⟨sa9, hstr9⟩ := zX_X0_22 hE
    exact vx_throwS (own := RX0) (cls := "java/lang/UnsupportedOperationException") (names := ["java/lang/RuntimeException", "java/lang/Exception"]) hx hb hl9 hown (by decide +kernel) (by decide +kernel) (hts (.classLink RX0 20 "java/lang/UnsupportedOperationException") (by decide +kernel)) (hts (.initialized "java/lang/UnsupportedOperationException") (by decide +kernel)) hstr9 (vx_hat (L := vx_atS RX0 24 "java/lang/UnsupportedOperationException" ["java/lang/RuntimeException", "java/lang/Exception"]) (B := zBad "java/lang/UnsupportedOperationException") (fun w hw => hts w ((by decide +kernel : ∀ w ∈ (vx_atS RX0 24 "java/lang/UnsupportedOperationException" ["java/lang/RuntimeException", "java/lang/Exception"]).filter goodWord, w ∈ wsX0_readBit) w hw)) (by decide +kernel) (zBad_UnsupportedOperationException hE)) (by decide +kernel) (zE_U hE) (zE_N hE) hS (hl.1.trans hml.symm) dX0_readBit_11 dX0_readBit_14 dX0_readBit_15 dX0_readBit_17 dX0_readBit_20 (fun x hx => (hEx x hx).elim) (Nat.le_of_ble_eq_true rfl) (Nat.le_of_ble_eq_true rfl) (Nat.le_of_ble_eq_true rfl) (Nat.le_of_ble_eq_true rfl) hlocks (fun t ha hsz hk => ⟨("java/lang/UnsupportedOperationException", ()), ⟨rfl, Nat.not_lt.mp c8⟩, ⟨rfl, hP9.kept (fun k q hq => hk q.1 (hP9 k q hq).lt), va_K.moved ha hK, hD9⟩, Nat.le_trans hS.1 hsz, fun q h1 h2 => (hk q (Nat.lt_of_lt_of_le h1 hS.1)).trans (hS.2.1 q h1 h2)⟩) hS.2.2 (Nat.le_of_ble_eq_true rfl) (Nat.le_of_ble_eq_true rfl)

abbrev rm_X0_readBits : Room := { frames := 7, cells := 1, slots := 6, locals := 117 }
abbrev wo_X0_readBits (dC : Nat → ClassId) (dI : Nat → Nat → Nat) (cB cI cJ cM : ClassId) (h0 b n : Nat) (f : Nat → Int32) (at_ : Nat) (lim : Int32) (k : Nat) : va_W := [(h0, .inr (0, [.ref b, .int (nI at_), .int lim])), (b, .inl (cB, n, .inl f))]
abbrev q_X0_readBits (dC : Nat → ClassId) (dI : Nat → Nat → Nat) (cB cI cJ cM : ClassId) (h0 b n : Nat) (f : Nat → Int32) (at_ : Nat) (lim : Int32) (k : Nat) (A : Nat → Prop) : Array Value → State → Outcome → State → Prop := va_Qi (fun (r : Int32) (u : Unit) => r = nI (zbv f at_ k) ∧ at_ + k ≤ lim.toNatClampNeg) (zB dC dI cB cI cJ cM A (fun u : Unit => [(h0, .inr (0, [.ref b, .int (nI (at_ + k)), .int lim])), (b, .inl (cB, n, .inl f))])) A
abbrev x_X0_readBits (dC : Nat → ClassId) (dI : Nat → Nat → Nat) (cB cI cJ cM : ClassId) (h0 b n : Nat) (f : Nat → Int32) (at_ : Nat) (lim : Int32) (k : Nat) (A : Nat → Prop) : String → State → State → Prop := vx_X (fun (u : String × (Int32)) => (u.1 = "java/lang/UnsupportedOperationException") ∧ (lim.toNatClampNeg < at_ + k)) (fun E (u : String × (Int32)) t => E = u.1 ∧ zB dC dI cB cI cJ cM A (fun u : Int32 => [(h0, .inr (0, [.ref b, .int u, .int lim])), (b, .inl (cB, n, .inl f))]) u.2 t) A
set_option maxHeartbeats 8000000 in
set_option maxRecDepth 100000 in
/-- BitReader.readBits: k bits, the lowest first -/
theorem k_X0_readBits (l : Launch) (hl9 : l.stackTraces = false) (dC : Nat → ClassId) (dI : Nat → Nat → Nat) (cB cI cJ cM : ClassId) (h0 b n : Nat) (f : Nat → Int32) (at_ : Nat) (lim : Int32) (k : Nat) (h1 : lim.toNatClampNeg ≤ 8 * n) (h2 : n < 100000) (h3 : at_ ≤ lim.toNatClampNeg) (h4 : k ≤ 16) (sz : Nat) : vx_Met l yX0_readBits wsX0_readBits rm_X0_readBits (va_Pc [.ref h0, .int (nI k)] (fun U => U.heap.size = sz ∧ va_P (dC, dI) vwCl (wo_X0_readBits dC dI cB cI cJ cM h0 b n f at_ lim k) U.heap ∧ va_K (dC, dI) vwCl (zT cB cI cJ cM) U ∧ va_D (fun _ => True) (wo_X0_readBits dC dI cB cI cJ cM h0 b n f at_ lim k) ∧ zE (va_A (wo_X0_readBits dC dI cB cI cJ cM h0 b n f at_ lim k) sz) U)) (q_X0_readBits dC dI cB cI cJ cM h0 b n f at_ lim k (va_A (wo_X0_readBits dC dI cB cI cJ cM h0 b n f at_ lim k) sz)) (x_X0_readBits dC dI cB cI cJ cM h0 b n f at_ lim k (va_A (wo_X0_readBits dC dI cB cI cJ cM h0 b n f at_ lim k) sz)) 0 0 1 6 (va_A (wo_X0_readBits dC dI cB cI cJ cM h0 b n f at_ lim k) sz) := by
  refine vx_ofW (cc := cX0_readBits) (maxL := 4) (ret := (some .int)) (by decide) rfl ?_
  intro p e s m args below meth c s₁ B hml hEx hv
  obtain ⟨rfl, hsz, hP, hK, hD0, hE⟩ := hv
  have hx := B.exec
  have hb := B.bytes
  have hr := B.returns
  have hts := atoms_spec (ws := wsX0_readBits) B.pre
  have hown : s.vm.findClass RX0 = some m.cls := findClass_of_methodNamed B.named
  have hlocks := B.notSynchronized
  subst hsz
  have hD := hD0.self (sz := s.heap.size)
  generalize hAe : va_A (wo_X0_readBits dC dI cB cI cJ cM h0 b n f at_ lim k) s.heap.size = A at hD hE ⊢
  have hA : ∀ q : Nat, s.heap.size ≤ q → A q := fun q h => by rw [← hAe]; exact Or.inr h
  have hS : va_S A s.heap s.heap [] := va_S.rf
  have hP : va_P (dC, dI) vwCl [(h0, .inr (0, [.ref b, .int (nI at_), .int lim])), (b, .inl (cB, n, .inl f))] s.heap := hP
  have hD : va_D A [(h0, .inr (0, [.ref b, .int (nI at_), .int lim])), (b, .inl (cB, n, .inl f))] := hD
  have hl := lv_entry ([.ref h0, .int (nI k)]) (n := 4) (Nat.le_of_ble_eq_true rfl)
  rw [lg_entry_eq]
  generalize (lg_sl ([.ref h0, .int (nI k)]) ++ List.replicate (4 - (lg_sl ([.ref h0, .int (nI k)])).length) Slot.unset).toArray = ls at hl ⊢
  have hl : lv_has ls 4 [(0, .ref h0), (1, .int (nI k))] := hl
  refine lv_iconst (v := 0) hx hb dX0_readBits_0 (by decide) ?_
  refine lv_istore_n (lv' := [(2, .int 0), (0, .ref h0), (1, .int (nI k))]) hx hb dX0_readBits_1 rfl hl (by decide) rfl (fun ls hl => ?_)
  refine lv_iconst (v := 0) hx hb dX0_readBits_2 (by decide) ?_
  refine lv_istore_n (lv' := [(3, .int 0), (2, .int 0), (0, .ref h0), (1, .int (nI k))]) hx hb dX0_readBits_3 rfl hl (by decide) rfl (fun ls hl => ?_)
  have cut4 : ∀ (fuel : Nat) (i : Nat) (w : Int32), (i ≤ k) → (w = nI (zbv f at_ i)) → (at_ + i ≤ lim.toNatClampNeg) → (k - i < fuel) → ∀ (H : Heap) (locs : List Loc), va_P (dC, dI) vwCl [(h0, .inr (0, [.ref b, .int (nI (at_ + i)), .int lim])), (b, .inl (cB, n, .inl f))] H → va_D A [(h0, .inr (0, [.ref b, .int (nI (at_ + i)), .int lim])), (b, .inl (cB, n, .inl f))] → va_S A s.heap H locs → ∀ (ls : Array Slot), lv_has ls 4 [(0, .ref h0), (1, .int (nI k)), (2, .int w), (3, .int (nI i))] → W p l e (headSpec wsX0_readBits rm_X0_readBits).room s m ([.ref h0, .int (nI k)] : List Value).toArray below meth c H locs 0 0 (vx_MQ below (q_X0_readBits dC dI cB cI cJ cM h0 b n f at_ lim k A) (x_X0_readBits dC dI cB cI cJ cM h0 b n f at_ lim k A) ([.ref h0, .int (nI k)] : List Value).toArray s 0 0 1 6 A) (F0 m 4 ls []) := by
    intro fuel
    induction fuel with
    | zero => intros; omega
    | succ fuel ih =>
      intro i w hi hw0 hil hfuel H locs hP hD hS ls hl
      refine lv_iload_n hx hb dX0_readBits_4 rfl (lv_at hl 3 rfl) ?_
      refine lv_iload_n hx hb dX0_readBits_5 rfl (lv_at hl 1 rfl) ?_
      refine lv_icmp_ge (tgt := 24) hx hb dX0_readBits_6 (by decide) (fun c6 => ?_) (fun c6 => ?_)
      · have c6 : k ≤ i := (nI_leI (a := k) (b := i) (by omega) (by omega)).mp c6
        have hik : i = k := by omega
        rw [hik] at hP hD hw0 hil
        have hP : va_P (dC, dI) vwCl [(h0, .inr (0, [.ref b, .int (nI (at_ + k)), .int lim])), (b, .inl (cB, n, .inl f))] H := hP
        have hD : va_D A [(h0, .inr (0, [.ref b, .int (nI (at_ + k)), .int lim])), (b, .inl (cB, n, .inl f))] := hD
        refine lv_iload_n hx hb dX0_readBits_24 rfl (lv_at hl 2 rfl) ?_
        have hP9 := hP.sub (ws' := [(h0, .inr (0, [.ref b, .int (nI (at_ + k)), .int lim])), (b, .inl (cB, n, .inl f))]) [0, 1] rfl
        have hD9 := hD.sub (ws' := [(h0, .inr (0, [.ref b, .int (nI (at_ + k)), .int lim])), (b, .inl (cB, n, .inl f))]) [0, 1] (by decide) rfl
        exact vx_ret (W.iret (v := w) hx hb hr (fun t ht hW => ⟨⟨w, (), rfl, ⟨hw0, hil⟩, ⟨by rw [ht]; exact hP9, va_K.moved hW.alike hK, hD9⟩⟩, hS.F ht⟩) hS.2.2 dX0_readBits_25)
      · have c6 : ¬ (k ≤ i) := fun h => c6 ((nI_leI (a := k) (b := i) (by omega) (by omega)).mpr h)
        refine lv_iload_n hx hb dX0_readBits_9 rfl (lv_at hl 2 rfl) ?_
        refine lv_aload_n hx hb dX0_readBits_10 rfl (lv_at hl 0 rfl) ?_
        have hPc := hP.sub (ws' := [(h0, .inr (0, [.ref b, .int (nI (at_ + i)), .int lim])), (b, .inl (cB, n, .inl f))]) [0, 1] rfl
        have hDc := hD.sub (ws' := [(h0, .inr (0, [.ref b, .int (nI (at_ + i)), .int lim])), (b, .inl (cB, n, .inl f))]) [0, 1] (by decide) rfl
        have hFc := va_free (wc := [(h0, .inr (0, [.ref b, .int (nI (at_ + i)), .int lim])), (b, .inl (cB, n, .inl f))]) hD hS hA [0, 1] rfl
        refine vx_calli (vx_runV (As := []) (rest := [.int w]) ⟨hx, hb, hml, hown, hts⟩ (k_X0_readBit l hl9 dC dI cB cI cJ cM h0 b n f (at_ + i) lim (by omega) (by omega) (by omega) H.size) (cwV 0 hts gX0_readBits_X0_readBit rfl rfl rfl (by decide +kernel) ⟨Nat.le_of_ble_eq_true rfl, Nat.le_of_ble_eq_true rfl⟩) ⟨fun a U g mk q => by obtain ⟨q0, q1, qP, qK, qD, qE⟩ := q; exact ⟨q0, q1, qP, va_K.moved (u := U) (U := U.calling g mk a) (Vm.Alike.refl U.vm) qK, qD, zE.blind qE⟩, va_recv hK hPc (ci := 0) (q0 := 0) rfl rfl, fun U hU hW => ⟨rfl, by rw [hU], by rw [hU]; exact hPc, va_K.moved hW.alike hK, hDc.weaken (fun _ _ _ _ => trivial), zE.call hE hS hU hW hFc⟩⟩ rfl rfl hl.1 rfl (lv_room (Nat.le_of_ble_eq_true rfl)) dX0_readBits_11 ⟨(show 0 + 1 ≤ 1 by omega), (show 0 + 6 ≤ 6 by omega)⟩) hS (fun q _ h => hFc q h) hFc (fun q _ h => hFc q h) (fun E8 ce9 q9 ux t H1 locs ht hvm hw hB hz1 hk1 hS hce9 hcv9 hcl9 => ?_) (fun r11 u t H1 locs ht hvm hw hB hz1 hk1 hS => ?_)
        · obtain ⟨E9, ux9⟩ := ux
          obtain ⟨hEe, hB9⟩ := hB
          have hB : True ∧ zB dC dI cB cI cJ cM (va_A [(h0, .inr (0, [.ref b, .int (nI (at_ + i)), .int lim])), (b, .inl (cB, n, .inl f))] H.size) (fun u : Unit => [(h0, .inr (0, [.ref b, .int (nI (at_ + i)), .int lim])), (b, .inl (cB, n, .inl f))]) ux9 t := ⟨trivial, hB9⟩
          have hP1 : va_P (dC, dI) vwCl [(h0, .inr (0, [.ref b, .int (nI (at_ + i)), .int lim])), (b, .inl (cB, n, .inl f))] H1 := by rw [← ht]; exact hB.2.1
          have hD1 : va_D (va_A [(h0, .inr (0, [.ref b, .int (nI (at_ + i)), .int lim])), (b, .inl (cB, n, .inl f))] H.size) [(h0, .inr (0, [.ref b, .int (nI (at_ + i)), .int lim])), (b, .inl (cB, n, .inl f))] := hB.2.2.2
          obtain ⟨hP, hD⟩ := va_join (wr := []) (w1 := [(h0, .inr (0, [.ref b, .int (nI (at_ + i)), .int lim])), (b, .inl (cB, n, .inl f))]) hP hD [0, 1] [] rfl rfl (by decide) (by decide) hk1 hFc hP1 hD1
          generalize H1 = H at hP hS hce9 ⊢
          try dsimp only at hw hEe
          subst hEe
          have hP : va_P (dC, dI) vwCl [(h0, .inr (0, [.ref b, .int (nI (at_ + i)), .int lim])), (b, .inl (cB, n, .inl f))] H := hP
          have hD : va_D A [(h0, .inr (0, [.ref b, .int (nI (at_ + i)), .int lim])), (b, .inl (cB, n, .inl f))] := hD
          have hP9 := hP.sub (ws' := [(h0, .inr (0, [.ref b, .int (nI (at_ + i)), .int lim])), (b, .inl (cB, n, .inl f))]) [0, 1] rfl
          have hD9 := hD.sub (ws' := [(h0, .inr (0, [.ref b, .int (nI (at_ + i)), .int lim])), (b, .inl (cB, n, .inl f))]) [0, 1] (by decide) rfl
          exact vx_out (fun x hx => (hEx x hx).elim) hlocks hce9 hcv9 hcl9 (fun t ht9 ha => ⟨(_, nI (at_ + i)), ⟨hw.1, by have := hw.2; omega⟩, ⟨rfl, by rw [ht9]; exact hP9, va_K.moved ha hK, hD9⟩, hS.F ht9⟩) hS.2.2 (Nat.le_of_ble_eq_true rfl) (Nat.le_of_ble_eq_true rfl)
        have hP1 : va_P (dC, dI) vwCl [(h0, .inr (0, [.ref b, .int (nI ((at_ + i) + 1)), .int lim])), (b, .inl (cB, n, .inl f))] H1 := by rw [← ht]; exact hB.1
        have hD1 : va_D (va_A [(h0, .inr (0, [.ref b, .int (nI (at_ + i)), .int lim])), (b, .inl (cB, n, .inl f))] H.size) [(h0, .inr (0, [.ref b, .int (nI ((at_ + i) + 1)), .int lim])), (b, .inl (cB, n, .inl f))] := hB.2.2
        obtain ⟨hP, hD⟩ := va_join (wr := []) (w1 := [(h0, .inr (0, [.ref b, .int (nI ((at_ + i) + 1)), .int lim])), (b, .inl (cB, n, .inl f))]) hP hD [0, 1] [] rfl rfl (by decide) (by decide) hk1 hFc hP1 hD1
        generalize H1 = H at hP hS ⊢
        try dsimp only at hw
        have hP : va_P (dC, dI) vwCl [(h0, .inr (0, [.ref b, .int (nI ((at_ + i) + 1)), .int lim])), (b, .inl (cB, n, .inl f))] H := hP
        have hD : va_D A [(h0, .inr (0, [.ref b, .int (nI ((at_ + i) + 1)), .int lim])), (b, .inl (cB, n, .inl f))] := hD
        obtain ⟨hr11, hl11⟩ := hw
        subst hr11
        refine W.eq (g2 := F0 m 14 ls [.int (nI (zbt f (at_ + i))), .int w]) rfl ?_
        refine lv_iload_n hx hb dX0_readBits_14 rfl (lv_at hl 3 rfl) ?_
        refine lv_ishl hx hb dX0_readBits_15 ?_
        refine lv_ior hx hb dX0_readBits_16 ?_
        refine lv_istore_n (lv' := [(2, .int (w ||| ((nI (zbt f (at_ + i))) <<< ((nI i) &&& 31)))), (0, .ref h0), (1, .int (nI k)), (3, .int (nI i))]) hx hb dX0_readBits_17 rfl hl (by decide) rfl (fun ls hl => ?_)
        have h16 := z_p16 (i := i) (by omega)
        have hv16 := zbv_lt f at_ i
        have hb16 := zbt_lt f (at_ + i)
        have hp16 : zbt f (at_ + i) * 2 ^ i ≤ 1 * 32768 := Nat.mul_le_mul (by omega) h16
        have hw1 : w ||| (nI (zbt f (at_ + i)) <<< (nI i &&& 31)) = nI (zbv f at_ (i + 1)) := by rw [hw0, z_orsh (by omega) hv16 (by omega)]; rfl
        refine lv_iinc (v := nI (i + 1)) (lv' := [(3, .int (nI (i + 1))), (2, .int (w ||| ((nI (zbt f (at_ + i))) <<< ((nI i) &&& 31)))), (0, .ref h0), (1, .int (nI k))]) hx hb dX0_readBits_18 hl (k := 3) rfl (show nI i + Int32.ofInt 1 = _ from nI_add i 1) (by decide) rfl (fun ls hl => ?_)
        refine lv_goto (tgt := 4) hx hb dX0_readBits_21 (by decide) ?_
        exact ih (i + 1) (w ||| ((nI (zbt f (at_ + i))) <<< ((nI i) &&& 31))) (by omega) (hw1) (by omega) (by omega) _ _ hP hD hS _ (lv_sub hl [2, 3, 1, 0] rfl)
  exact cut4 (k - 0 + 1) 0 0 (by omega) (rfl) (by omega) (by omega) _ _ hP hD hS _ (lv_sub hl [2, 3, 1, 0] rfl)

abbrev rm_X0_skipToByte : Room := { frames := 0, cells := 0, slots := 0, locals := 0 }
abbrev wo_X0_skipToByte (dC : Nat → ClassId) (dI : Nat → Nat → Nat) (cB cI cJ cM : ClassId) (h0 : Nat) (v1 v3 : Value) (at_ : Nat) : va_W := [(h0, .inr (0, [v1, .int (nI at_), v3]))]
abbrev q_X0_skipToByte (dC : Nat → ClassId) (dI : Nat → Nat → Nat) (cB cI cJ cM : ClassId) (h0 : Nat) (v1 v3 : Value) (at_ : Nat) (A : Nat → Prop) : Array Value → State → Outcome → State → Prop := va_Qv (fun (u : Unit) => True) (zB dC dI cB cI cJ cM A (fun u : Unit => [(h0, .inr (0, [v1, .int (nI ((at_ + 7) / 8 * 8)), v3]))])) A
set_option maxHeartbeats 8000000 in
set_option maxRecDepth 100000 in
theorem k_X0_skipToByte (l : Launch) (dC : Nat → ClassId) (dI : Nat → Nat → Nat) (cB cI cJ cM : ClassId) (h0 : Nat) (v1 v3 : Value) (at_ : Nat) (h3 : at_ < 1000000) (sz : Nat) : Met l yX0_skipToByte wsX0_skipToByte rm_X0_skipToByte (va_Pc [.ref h0] (fun U => U.heap.size = sz ∧ va_P (dC, dI) vwCl (wo_X0_skipToByte dC dI cB cI cJ cM h0 v1 v3 at_) U.heap ∧ va_K (dC, dI) vwCl (zT cB cI cJ cM) U ∧ va_D (fun _ => True) (wo_X0_skipToByte dC dI cB cI cJ cM h0 v1 v3 at_))) (q_X0_skipToByte dC dI cB cI cJ cM h0 v1 v3 at_ (va_A (wo_X0_skipToByte dC dI cB cI cJ cM h0 v1 v3 at_) sz)) 0 0 (va_A (wo_X0_skipToByte dC dI cB cI cJ cM h0 v1 v3 at_) sz) := by
  refine Met.ofW (cc := cX0_skipToByte) (maxL := 1) (ret := none) (by decide) rfl ?_
  intro p e s m args below meth c s₁ B hml hv
  obtain ⟨rfl, hsz, hP, hK, hD0⟩ := hv
  have hx := B.exec
  have hb := B.bytes
  have hr := B.returns
  have hts := atoms_spec (ws := wsX0_skipToByte) B.pre
  have hown : s.vm.findClass RX0 = some m.cls := findClass_of_methodNamed B.named
  have hlocks := B.notSynchronized
  subst hsz
  have hD := hD0.self (sz := s.heap.size)
  generalize hAe : va_A (wo_X0_skipToByte dC dI cB cI cJ cM h0 v1 v3 at_) s.heap.size = A at hD ⊢
  have hA : ∀ q : Nat, s.heap.size ≤ q → A q := fun q h => by rw [← hAe]; exact Or.inr h
  have hS : va_S A s.heap s.heap [] := va_S.rf
  have hP : va_P (dC, dI) vwCl [(h0, .inr (0, [v1, .int (nI at_), v3]))] s.heap := hP
  have hD : va_D A [(h0, .inr (0, [v1, .int (nI at_), v3]))] := hD
  have hl := lv_entry ([.ref h0]) (n := 1) (Nat.le_of_ble_eq_true rfl)
  rw [lg_entry_eq]
  generalize (lg_sl ([.ref h0]) ++ List.replicate (1 - (lg_sl ([.ref h0])).length) Slot.unset).toArray = ls at hl ⊢
  have hl : lv_has ls 1 [(0, .ref h0)] := hl
  refine lv_aload_n hx hb dX0_skipToByte_0 rfl (lv_at hl 0 rfl) ?_
  refine lv_aload_n hx hb dX0_skipToByte_1 rfl (lv_at hl 0 rfl) ?_
  refine va_get (D := (dC, dI)) (ci := 0) (v := .int (nI at_)) (C := RX0) (T := TX0) (N := 3) hx hb hts (by decide +kernel) hown hK hP 0 rfl rfl 1 (by decide) (hts (.fieldLink RX0 13 "FixedPress$BitReader" "at" "I") (by decide +kernel)) (fun _ h9 => h9) rfl dX0_skipToByte_2 ?_
  refine lv_bipush (v := 7) hx hb dX0_skipToByte_5 (by decide) ?_
  refine lv_iadd hx hb dX0_skipToByte_7 ?_
  refine lv_topi (fun y_1 ey_1 => ?_)
  obtain rfl : y_1 = nI (at_ + 7) := ey_1.trans (nI_add at_ 7)
  refine lv_bipush (v := (-8)) hx hb dX0_skipToByte_8 (by decide) ?_
  refine lv_iand hx hb dX0_skipToByte_10 ?_
  refine lv_topi (fun y_2 ey_2 => ?_)
  obtain rfl : y_2 = nI ((at_ + 7) / 8 * 8) := ey_2.trans (z_m8 (by omega))
  refine va_put (D := (dC, dI)) (ci := 0) (v := .int (nI ((at_ + 7) / 8 * 8))) (ty := .int) (C := RX0) (T := TX0) (N := 3) hx hb hts (by decide +kernel) tyX0 tyX0_ok nmX0 hown hK hP hD hS 0 rfl rfl 1 (by decide) (hts (.fieldLink RX0 13 "FixedPress$BitReader" "at" "I") (by decide +kernel)) (fun _ h9 => h9) rfl (by decide +kernel) rfl rfl (Nat.le_of_ble_eq_true rfl) dX0_skipToByte_11 (fun H locs hP hD hS => ?_)
  have hP : va_P (dC, dI) vwCl [(h0, .inr (0, [v1, .int (nI ((at_ + 7) / 8 * 8)), v3]))] H := hP
  have hD : va_D A [(h0, .inr (0, [v1, .int (nI ((at_ + 7) / 8 * 8)), v3]))] := hD
  have hP9 := hP.sub (ws' := [(h0, .inr (0, [v1, .int (nI ((at_ + 7) / 8 * 8)), v3]))]) [0] rfl
  have hD9 := hD.sub (ws' := [(h0, .inr (0, [v1, .int (nI ((at_ + 7) / 8 * 8)), v3]))]) [0] (by decide) rfl
  exact W.vret hx hb hr (fun t ht hW => ⟨⟨(), rfl, trivial, ⟨by rw [ht]; exact hP9, va_K.moved hW.alike hK, hD9⟩⟩, hS.F ht⟩) hS.2.2 dX0_skipToByte_14

abbrev rm_X0_isAtLimit : Room := { frames := 0, cells := 0, slots := 0, locals := 0 }
abbrev wo_X0_isAtLimit (dC : Nat → ClassId) (dI : Nat → Nat → Nat) (cB cI cJ cM : ClassId) (h0 : Nat) (v1 : Value) (x y : Int32) : va_W := [(h0, .inr (0, [v1, .int x, .int y]))]
abbrev q_X0_isAtLimit (dC : Nat → ClassId) (dI : Nat → Nat → Nat) (cB cI cJ cM : ClassId) (h0 : Nat) (v1 : Value) (x y : Int32) (A : Nat → Prop) : Array Value → State → Outcome → State → Prop := va_Qi (fun (r : Int32) (u : Unit) => r = if x = y then 1 else 0) (zB dC dI cB cI cJ cM A (fun u : Unit => [(h0, .inr (0, [v1, .int x, .int y]))])) A
set_option maxHeartbeats 8000000 in
set_option maxRecDepth 100000 in
theorem k_X0_isAtLimit (l : Launch) (dC : Nat → ClassId) (dI : Nat → Nat → Nat) (cB cI cJ cM : ClassId) (h0 : Nat) (v1 : Value) (x y : Int32) (sz : Nat) : Met l yX0_isAtLimit wsX0_isAtLimit rm_X0_isAtLimit (va_Pc [.ref h0] (fun U => U.heap.size = sz ∧ va_P (dC, dI) vwCl (wo_X0_isAtLimit dC dI cB cI cJ cM h0 v1 x y) U.heap ∧ va_K (dC, dI) vwCl (zT cB cI cJ cM) U ∧ va_D (fun _ => True) (wo_X0_isAtLimit dC dI cB cI cJ cM h0 v1 x y))) (q_X0_isAtLimit dC dI cB cI cJ cM h0 v1 x y (va_A (wo_X0_isAtLimit dC dI cB cI cJ cM h0 v1 x y) sz)) 0 0 (va_A (wo_X0_isAtLimit dC dI cB cI cJ cM h0 v1 x y) sz) := by
  refine Met.ofW (cc := cX0_isAtLimit) (maxL := 1) (ret := (some .boolean)) (by decide) rfl ?_
  intro p e s m args below meth c s₁ B hml hv
  obtain ⟨rfl, hsz, hP, hK, hD0⟩ := hv
  have hx := B.exec
  have hb := B.bytes
  have hr := B.returns
  have hts := atoms_spec (ws := wsX0_isAtLimit) B.pre
  have hown : s.vm.findClass RX0 = some m.cls := findClass_of_methodNamed B.named
  have hlocks := B.notSynchronized
  subst hsz
  have hD := hD0.self (sz := s.heap.size)
  generalize hAe : va_A (wo_X0_isAtLimit dC dI cB cI cJ cM h0 v1 x y) s.heap.size = A at hD ⊢
  have hA : ∀ q : Nat, s.heap.size ≤ q → A q := fun q h => by rw [← hAe]; exact Or.inr h
  have hS : va_S A s.heap s.heap [] := va_S.rf
  have hP : va_P (dC, dI) vwCl [(h0, .inr (0, [v1, .int x, .int y]))] s.heap := hP
  have hD : va_D A [(h0, .inr (0, [v1, .int x, .int y]))] := hD
  have hl := lv_entry ([.ref h0]) (n := 1) (Nat.le_of_ble_eq_true rfl)
  rw [lg_entry_eq]
  generalize (lg_sl ([.ref h0]) ++ List.replicate (1 - (lg_sl ([.ref h0])).length) Slot.unset).toArray = ls at hl ⊢
  have hl : lv_has ls 1 [(0, .ref h0)] := hl
  refine lv_aload_n hx hb dX0_isAtLimit_0 rfl (lv_at hl 0 rfl) ?_
  refine va_get (D := (dC, dI)) (ci := 0) (v := .int x) (C := RX0) (T := TX0) (N := 3) hx hb hts (by decide +kernel) hown hK hP 0 rfl rfl 1 (by decide) (hts (.fieldLink RX0 13 "FixedPress$BitReader" "at" "I") (by decide +kernel)) (fun _ h9 => h9) rfl dX0_isAtLimit_1 ?_
  refine lv_aload_n hx hb dX0_isAtLimit_4 rfl (lv_at hl 0 rfl) ?_
  refine va_get (D := (dC, dI)) (ci := 0) (v := .int y) (C := RX0) (T := TX0) (N := 3) hx hb hts (by decide +kernel) hown hK hP 0 rfl rfl 2 (by decide) (hts (.fieldLink RX0 17 "FixedPress$BitReader" "limit" "I") (by decide +kernel)) (fun _ h9 => h9) rfl dX0_isAtLimit_5 ?_
  refine lv_icmp_ne (tgt := 15) hx hb dX0_isAtLimit_8 (by decide) (fun c8 => ?_) (fun c8 => ?_)
  · refine lv_iconst (v := 0) hx hb dX0_isAtLimit_15 (by decide) ?_
    have hP9 := hP.sub (ws' := [(h0, .inr (0, [v1, .int x, .int y]))]) [0] rfl
    have hD9 := hD.sub (ws' := [(h0, .inr (0, [v1, .int x, .int y]))]) [0] (by decide) rfl
    exact W.zret (v := 0) hx hb hr (by decide) (fun t ht hW => ⟨⟨0, (), rfl, by simp [c8], ⟨by rw [ht]; exact hP9, va_K.moved hW.alike hK, hD9⟩⟩, hS.F ht⟩) hS.2.2 dX0_isAtLimit_16
  · refine lv_iconst (v := 1) hx hb dX0_isAtLimit_11 (by decide) ?_
    refine lv_goto (tgt := 16) hx hb dX0_isAtLimit_12 (by decide) ?_
    have hP9 := hP.sub (ws' := [(h0, .inr (0, [v1, .int x, .int y]))]) [0] rfl
    have hD9 := hD.sub (ws' := [(h0, .inr (0, [v1, .int x, .int y]))]) [0] (by decide) rfl
    exact W.zret (v := 1) hx hb hr (by decide) (fun t ht hW => ⟨⟨1, (), rfl, by simp [c8], ⟨by rw [ht]; exact hP9, va_K.moved hW.alike hK, hD9⟩⟩, hS.F ht⟩) hS.2.2 dX0_isAtLimit_16
