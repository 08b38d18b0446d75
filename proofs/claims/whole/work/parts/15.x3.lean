abbrev rm_X3_begin : Room := { frames := 0, cells := 0, slots := 0, locals := 0 }
abbrev wo_X3_begin (dC : Nat → ClassId) (dI : Nat → Nat → Nat) (cB cI cJ cM : ClassId) (h0 ne fa b : Nat) (v2 v3 v4 : Value) (g : Nat → Int32) (k : Int32) : va_W := [(h0, .inr (3, [.ref ne, .ref fa, v2, v3, v4])), (ne, .inl (cI, 4096, .inl g))]
abbrev q_X3_begin (dC : Nat → ClassId) (dI : Nat → Nat → Nat) (cB cI cJ cM : ClassId) (h0 ne fa b : Nat) (v2 v3 v4 : Value) (g : Nat → Int32) (k : Int32) (A : Nat → Prop) : Array Value → State → Outcome → State → Prop := va_Qv (fun (u : Nat → Int32) => ∀ j, j < 4096 → u j = -1) (zB dC dI cB cI cJ cM A (fun u : Nat → Int32 => [(h0, .inr (3, [.ref ne, .ref fa, .ref b, .int k, v4])), (ne, .inl (cI, 4096, .inl u))])) A
set_option maxHeartbeats 8000000 in
set_option maxRecDepth 100000 in
/-- CopyFinder.begin -/
theorem k_X3_begin (l : Launch) (dC : Nat → ClassId) (dI : Nat → Nat → Nat) (cB cI cJ cM : ClassId) (h0 ne fa b : Nat) (v2 v3 v4 : Value) (g : Nat → Int32) (k : Int32) (sz : Nat) : Met l yX3_begin wsX3_begin rm_X3_begin (va_Pc [.ref h0, .ref b, .int k] (fun U => U.heap.size = sz ∧ va_P (dC, dI) vwCl (wo_X3_begin dC dI cB cI cJ cM h0 ne fa b v2 v3 v4 g k) U.heap ∧ va_K (dC, dI) vwCl (zT cB cI cJ cM) U ∧ va_D (fun _ => True) (wo_X3_begin dC dI cB cI cJ cM h0 ne fa b v2 v3 v4 g k))) (q_X3_begin dC dI cB cI cJ cM h0 ne fa b v2 v3 v4 g k (va_A (wo_X3_begin dC dI cB cI cJ cM h0 ne fa b v2 v3 v4 g k) sz)) 0 0 (va_A (wo_X3_begin dC dI cB cI cJ cM h0 ne fa b v2 v3 v4 g k) sz) := by
  refine Met.ofW (cc := cX3_begin) (maxL := 4) (ret := none) (by decide) rfl ?_
  intro p e s m args below meth c s₁ B hml hv
  obtain ⟨rfl, hsz, hP, hK, hD0⟩ := hv
  have hx := B.exec
  have hb := B.bytes
  have hr := B.returns
  have hts := atoms_spec (ws := wsX3_begin) B.pre
  have hown : s.vm.findClass RX3 = some m.cls := findClass_of_methodNamed B.named
  have hlocks := B.notSynchronized
  subst hsz
  have hD := hD0.self (sz := s.heap.size)
  generalize hAe : va_A (wo_X3_begin dC dI cB cI cJ cM h0 ne fa b v2 v3 v4 g k) s.heap.size = A at hD ⊢
  have hA : ∀ q : Nat, s.heap.size ≤ q → A q := fun q h => by rw [← hAe]; exact Or.inr h
  have hS : va_S A s.heap s.heap [] := va_S.rf
  have hP : va_P (dC, dI) vwCl [(h0, .inr (3, [.ref ne, .ref fa, v2, v3, v4])), (ne, .inl (cI, 4096, .inl g))] s.heap := hP
  have hD : va_D A [(h0, .inr (3, [.ref ne, .ref fa, v2, v3, v4])), (ne, .inl (cI, 4096, .inl g))] := hD
  have hl := lv_entry ([.ref h0, .ref b, .int k]) (n := 4) (Nat.le_of_ble_eq_true rfl)
  rw [lg_entry_eq]
  generalize (lg_sl ([.ref h0, .ref b, .int k]) ++ List.replicate (4 - (lg_sl ([.ref h0, .ref b, .int k])).length) Slot.unset).toArray = ls at hl ⊢
  have hl : lv_has ls 4 [(0, .ref h0), (1, .ref b), (2, .int k)] := hl
  refine lv_aload_n hx hb dX3_begin_0 rfl (lv_at hl 0 rfl) ?_
  refine lv_aload_n hx hb dX3_begin_1 rfl (lv_at hl 1 rfl) ?_
  refine va_put (D := (dC, dI)) (ci := 3) (v := .ref b) (ty := .array .byte) (C := RX3) (T := TX3) (N := 5) hx hb hts (by decide +kernel) tyX3 tyX3_ok nmX3 hown hK hP hD hS 0 rfl rfl 2 (by decide) (hts (.fieldLink RX3 18 "FixedPress$CopyFinder" "bytes" "[B") (by decide +kernel)) (fun _ h9 => h9) rfl (by decide +kernel) rfl rfl (Nat.le_of_ble_eq_true rfl) dX3_begin_2 (fun H locs hP hD hS => ?_)
  have hP : va_P (dC, dI) vwCl [(h0, .inr (3, [.ref ne, .ref fa, .ref b, v3, v4])), (ne, .inl (cI, 4096, .inl g))] H := hP
  have hD : va_D A [(h0, .inr (3, [.ref ne, .ref fa, .ref b, v3, v4])), (ne, .inl (cI, 4096, .inl g))] := hD
  refine lv_aload_n hx hb dX3_begin_5 rfl (lv_at hl 0 rfl) ?_
  refine lv_iload_n hx hb dX3_begin_6 rfl (lv_at hl 2 rfl) ?_
  refine va_put (D := (dC, dI)) (ci := 3) (v := .int k) (ty := .int) (C := RX3) (T := TX3) (N := 5) hx hb hts (by decide +kernel) tyX3 tyX3_ok nmX3 hown hK hP hD hS 0 rfl rfl 3 (by decide) (hts (.fieldLink RX3 22 "FixedPress$CopyFinder" "length" "I") (by decide +kernel)) (fun _ h9 => h9) rfl (by decide +kernel) rfl rfl (Nat.le_of_ble_eq_true rfl) dX3_begin_7 (fun H locs hP hD hS => ?_)
  have hP : va_P (dC, dI) vwCl [(h0, .inr (3, [.ref ne, .ref fa, .ref b, .int k, v4])), (ne, .inl (cI, 4096, .inl g))] H := hP
  have hD : va_D A [(h0, .inr (3, [.ref ne, .ref fa, .ref b, .int k, v4])), (ne, .inl (cI, 4096, .inl g))] := hD
  refine lv_iconst (v := 0) hx hb dX3_begin_10 (by decide) ?_
  refine lv_istore_n (lv' := [(3, .int 0), (0, .ref h0), (1, .ref b), (2, .int k)]) hx hb dX3_begin_11 rfl hl (by decide) rfl (fun ls hl => ?_)
  have cut12 : ∀ (fuel : Nat) (i : Nat) (g1 : Nat → Int32), (i ≤ 4096) → (∀ j, j < i → g1 j = -1) → (4096 - i < fuel) → ∀ (H : Heap) (locs : List Loc), va_P (dC, dI) vwCl [(h0, .inr (3, [.ref ne, .ref fa, .ref b, .int k, v4])), (ne, .inl (cI, 4096, .inl g1))] H → va_D A [(h0, .inr (3, [.ref ne, .ref fa, .ref b, .int k, v4])), (ne, .inl (cI, 4096, .inl g1))] → va_S A s.heap H locs → ∀ (ls : Array Slot), lv_has ls 4 [(0, .ref h0), (3, .int (nI i))] → W p l e (headSpec wsX3_begin rm_X3_begin).room s m ([.ref h0, .ref b, .int k] : List Value).toArray below meth c H locs 0 0 (MQ below (q_X3_begin dC dI cB cI cJ cM h0 ne fa b v2 v3 v4 g k A) ([.ref h0, .ref b, .int k] : List Value).toArray s 0 0 A) (F0 m 12 ls []) := by
    intro fuel
    induction fuel with
    | zero => intros; omega
    | succ fuel ih =>
      intro i g1 hi hg hfuel H locs hP hD hS ls hl
      refine lv_iload_n hx hb dX3_begin_12 rfl (lv_at hl 1 rfl) ?_
      refine lv_sipush (v := 4096) hx hb dX3_begin_13 (by decide) ?_
      refine lv_icmp_ge (tgt := 32) hx hb dX3_begin_16 (by decide) (fun c16 => ?_) (fun c16 => ?_)
      · have c16 : 4096 ≤ i := (nI_leI (a := 4096) (b := i) (by omega) (by omega)).mp c16
        have hi9 : i = 4096 := by omega
        rw [hi9] at hg
        have hP9 := hP.sub (ws' := [(h0, .inr (3, [.ref ne, .ref fa, .ref b, .int k, v4])), (ne, .inl (cI, 4096, .inl g1))]) [0, 1] rfl
        have hD9 := hD.sub (ws' := [(h0, .inr (3, [.ref ne, .ref fa, .ref b, .int k, v4])), (ne, .inl (cI, 4096, .inl g1))]) [0, 1] (by decide) rfl
        exact W.vret hx hb hr (fun t ht hW => ⟨⟨g1, rfl, hg, ⟨by rw [ht]; exact hP9, va_K.moved hW.alike hK, hD9⟩⟩, hS.F ht⟩) hS.2.2 dX3_begin_32
      · have c16 : ¬ (4096 ≤ i) := fun h => c16 ((nI_leI (a := 4096) (b := i) (by omega) (by omega)).mpr h)
        refine lv_aload_n hx hb dX3_begin_19 rfl (lv_at hl 0 rfl) ?_
        refine va_get (D := (dC, dI)) (ci := 3) (v := .ref ne) (C := RX3) (T := TX3) (N := 5) hx hb hts (by decide +kernel) hown hK hP 0 rfl rfl 0 (by decide) (hts (.fieldLink RX3 11 "FixedPress$CopyFinder" "nearest" "[I") (by decide +kernel)) (fun _ h9 => h9) rfl dX3_begin_20 ?_
        refine lv_iload_n hx hb dX3_begin_23 rfl (lv_at hl 1 rfl) ?_
        refine lv_iconst (v := (-1)) hx hb dX3_begin_24 (by decide) ?_
        refine va_iast hx hb hK hP hD hS 1 1 rfl rfl (vp_in_nI (n := i) (by omega) (by omega)) dX3_begin_25 (fun H locs hP hD hS => ?_)
        rw [nI_clamp (n := i) (by omega)] at hP hD
        have hP : va_P (dC, dI) vwCl [(h0, .inr (3, [.ref ne, .ref fa, .ref b, .int k, v4])), (ne, .inl (cI, 4096, .inl (upd g1 i (-1))))] H := hP
        have hD : va_D A [(h0, .inr (3, [.ref ne, .ref fa, .ref b, .int k, v4])), (ne, .inl (cI, 4096, .inl (upd g1 i (-1))))] := hD
        refine lv_iinc (v := nI (i + 1)) (lv' := [(3, .int (nI (i + 1))), (0, .ref h0)]) hx hb dX3_begin_26 hl (k := 1) rfl (show nI i + Int32.ofInt 1 = _ from nI_add i 1) (by decide) rfl (fun ls hl => ?_)
        refine lv_goto (tgt := 12) hx hb dX3_begin_29 (by decide) ?_
        exact ih (i + 1) (upd g1 i (-1)) (by omega) (fun j h => if e : j = i then (by subst e; exact pk_us) else (by rw [pk_un e]; exact hg j (by omega))) (by omega) _ _ hP hD hS _ (lv_sub hl [1, 0] rfl)
  exact cut12 (4096 - 0 + 1) 0 g (by omega) (fun j h => absurd h (Nat.not_lt_zero _)) (by omega) _ _ hP hD hS _ (lv_sub hl [1, 0] rfl)

abbrev rm_X3_found : Room := { frames := 0, cells := 0, slots := 0, locals := 0 }
abbrev wo_X3_found (dC : Nat → ClassId) (dI : Nat → Nat → Nat) (cB cI cJ cM : ClassId) (h0 ne fa b n : Nat) (tx : Nat → Int32) (dist : Int32) : va_W := [(h0, .inr (3, [.ref ne, .ref fa, .ref b, .int (nI n), .int dist]))]
abbrev q_X3_found (dC : Nat → ClassId) (dI : Nat → Nat → Nat) (cB cI cJ cM : ClassId) (h0 ne fa b n : Nat) (tx : Nat → Int32) (dist : Int32) (A : Nat → Prop) : Array Value → State → Outcome → State → Prop := va_Qi (fun (r : Int32) (u : Unit) => r = dist) (zB dC dI cB cI cJ cM A (fun u : Unit => [(h0, .inr (3, [.ref ne, .ref fa, .ref b, .int (nI n), .int dist]))])) A
set_option maxHeartbeats 8000000 in
set_option maxRecDepth 100000 in
theorem k_X3_found (l : Launch) (dC : Nat → ClassId) (dI : Nat → Nat → Nat) (cB cI cJ cM : ClassId) (h0 ne fa b n : Nat) (tx : Nat → Int32) (dist : Int32) (sz : Nat) : Met l yX3_found wsX3_found rm_X3_found (va_Pc [.ref h0] (fun U => U.heap.size = sz ∧ va_P (dC, dI) vwCl (wo_X3_found dC dI cB cI cJ cM h0 ne fa b n tx dist) U.heap ∧ va_K (dC, dI) vwCl (zT cB cI cJ cM) U ∧ va_D (fun _ => True) (wo_X3_found dC dI cB cI cJ cM h0 ne fa b n tx dist))) (q_X3_found dC dI cB cI cJ cM h0 ne fa b n tx dist (va_A (wo_X3_found dC dI cB cI cJ cM h0 ne fa b n tx dist) sz)) 0 0 (va_A (wo_X3_found dC dI cB cI cJ cM h0 ne fa b n tx dist) sz) := by
  refine Met.ofW (cc := cX3_found) (maxL := 1) (ret := (some .int)) (by decide) rfl ?_
  intro p e s m args below meth c s₁ B hml hv
  obtain ⟨rfl, hsz, hP, hK, hD0⟩ := hv
  have hx := B.exec
  have hb := B.bytes
  have hr := B.returns
  have hts := atoms_spec (ws := wsX3_found) B.pre
  have hown : s.vm.findClass RX3 = some m.cls := findClass_of_methodNamed B.named
  have hlocks := B.notSynchronized
  subst hsz
  have hD := hD0.self (sz := s.heap.size)
  generalize hAe : va_A (wo_X3_found dC dI cB cI cJ cM h0 ne fa b n tx dist) s.heap.size = A at hD ⊢
  have hA : ∀ q : Nat, s.heap.size ≤ q → A q := fun q h => by rw [← hAe]; exact Or.inr h
  have hS : va_S A s.heap s.heap [] := va_S.rf
  have hP : va_P (dC, dI) vwCl [(h0, .inr (3, [.ref ne, .ref fa, .ref b, .int (nI n), .int dist]))] s.heap := hP
  have hD : va_D A [(h0, .inr (3, [.ref ne, .ref fa, .ref b, .int (nI n), .int dist]))] := hD
  have hl := lv_entry ([.ref h0]) (n := 1) (Nat.le_of_ble_eq_true rfl)
  rw [lg_entry_eq]
  generalize (lg_sl ([.ref h0]) ++ List.replicate (1 - (lg_sl ([.ref h0])).length) Slot.unset).toArray = ls at hl ⊢
  have hl : lv_has ls 1 [(0, .ref h0)] := hl
  refine lv_aload_n hx hb dX3_found_0 rfl (lv_at hl 0 rfl) ?_
  refine va_get (D := (dC, dI)) (ci := 3) (v := .int dist) (C := RX3) (T := TX3) (N := 5) hx hb hts (by decide +kernel) hown hK hP 0 rfl rfl 4 (by decide) (hts (.fieldLink RX3 40 "FixedPress$CopyFinder" "distance" "I") (by decide +kernel)) (fun _ h9 => h9) rfl dX3_found_1 ?_
  have hP9 := hP.sub (ws' := [(h0, .inr (3, [.ref ne, .ref fa, .ref b, .int (nI n), .int dist]))]) [0] rfl
  have hD9 := hD.sub (ws' := [(h0, .inr (3, [.ref ne, .ref fa, .ref b, .int (nI n), .int dist]))]) [0] (by decide) rfl
  exact W.iret (v := dist) hx hb hr (fun t ht hW => ⟨⟨dist, (), rfl, rfl, ⟨by rw [ht]; exact hP9, va_K.moved hW.alike hK, hD9⟩⟩, hS.F ht⟩) hS.2.2 dX3_found_4

abbrev rm_X3_hash : Room := { frames := 0, cells := 0, slots := 0, locals := 0 }
abbrev wo_X3_hash (dC : Nat → ClassId) (dI : Nat → Nat → Nat) (cB cI cJ cM : ClassId) (h0 ne fa b n : Nat) (tx : Nat → Int32) (dist : Int32) (a : Nat) : va_W := [(h0, .inr (3, [.ref ne, .ref fa, .ref b, .int (nI n), .int dist])), (b, .inl (cB, 4000, .inl tx))]
abbrev q_X3_hash (dC : Nat → ClassId) (dI : Nat → Nat → Nat) (cB cI cJ cM : ClassId) (h0 ne fa b n : Nat) (tx : Nat → Int32) (dist : Int32) (a : Nat) (A : Nat → Prop) : Array Value → State → Outcome → State → Prop := va_Qi (fun (r : Int32) (u : Unit) => r = nI (zhs tx a)) (zB dC dI cB cI cJ cM A (fun u : Unit => [(h0, .inr (3, [.ref ne, .ref fa, .ref b, .int (nI n), .int dist])), (b, .inl (cB, 4000, .inl tx))])) A
set_option maxHeartbeats 8000000 in
set_option maxRecDepth 100000 in
/-- hash -/
theorem k_X3_hash (l : Launch) (dC : Nat → ClassId) (dI : Nat → Nat → Nat) (cB cI cJ cM : ClassId) (h0 ne fa b n : Nat) (tx : Nat → Int32) (dist : Int32) (a : Nat) (h1 : a + 3 ≤ 4000) (sz : Nat) : Met l yX3_hash wsX3_hash rm_X3_hash (va_Pc [.ref h0, .int (nI a)] (fun U => U.heap.size = sz ∧ va_P (dC, dI) vwCl (wo_X3_hash dC dI cB cI cJ cM h0 ne fa b n tx dist a) U.heap ∧ va_K (dC, dI) vwCl (zT cB cI cJ cM) U ∧ va_D (fun _ => True) (wo_X3_hash dC dI cB cI cJ cM h0 ne fa b n tx dist a))) (q_X3_hash dC dI cB cI cJ cM h0 ne fa b n tx dist a (va_A (wo_X3_hash dC dI cB cI cJ cM h0 ne fa b n tx dist a) sz)) 0 0 (va_A (wo_X3_hash dC dI cB cI cJ cM h0 ne fa b n tx dist a) sz) := by
  refine Met.ofW (cc := cX3_hash) (maxL := 2) (ret := (some .int)) (by decide) rfl ?_
  intro p e s m args below meth c s₁ B hml hv
  obtain ⟨rfl, hsz, hP, hK, hD0⟩ := hv
  have hx := B.exec
  have hb := B.bytes
  have hr := B.returns
  have hts := atoms_spec (ws := wsX3_hash) B.pre
  have hown : s.vm.findClass RX3 = some m.cls := findClass_of_methodNamed B.named
  have hlocks := B.notSynchronized
  subst hsz
  have hD := hD0.self (sz := s.heap.size)
  generalize hAe : va_A (wo_X3_hash dC dI cB cI cJ cM h0 ne fa b n tx dist a) s.heap.size = A at hD ⊢
  have hA : ∀ q : Nat, s.heap.size ≤ q → A q := fun q h => by rw [← hAe]; exact Or.inr h
  have hS : va_S A s.heap s.heap [] := va_S.rf
  have hP : va_P (dC, dI) vwCl [(h0, .inr (3, [.ref ne, .ref fa, .ref b, .int (nI n), .int dist])), (b, .inl (cB, 4000, .inl tx))] s.heap := hP
  have hD : va_D A [(h0, .inr (3, [.ref ne, .ref fa, .ref b, .int (nI n), .int dist])), (b, .inl (cB, 4000, .inl tx))] := hD
  have hl := lv_entry ([.ref h0, .int (nI a)]) (n := 2) (Nat.le_of_ble_eq_true rfl)
  rw [lg_entry_eq]
  generalize (lg_sl ([.ref h0, .int (nI a)]) ++ List.replicate (2 - (lg_sl ([.ref h0, .int (nI a)])).length) Slot.unset).toArray = ls at hl ⊢
  have hl : lv_has ls 2 [(0, .ref h0), (1, .int (nI a))] := hl
  refine lv_aload_n hx hb dX3_hash_0 rfl (lv_at hl 0 rfl) ?_
  refine va_get (D := (dC, dI)) (ci := 3) (v := .ref b) (C := RX3) (T := TX3) (N := 5) hx hb hts (by decide +kernel) hown hK hP 0 rfl rfl 2 (by decide) (hts (.fieldLink RX3 18 "FixedPress$CopyFinder" "bytes" "[B") (by decide +kernel)) (fun _ h9 => h9) rfl dX3_hash_1 ?_
  refine lv_iload_n hx hb dX3_hash_4 rfl (lv_at hl 1 rfl) ?_
  refine va_bald hx hb hK hP 1 0 rfl rfl (vp_in_nI (n := a) (by omega) (by omega)) dX3_hash_5 ?_
  rw [nI_clamp (n := a) (by omega)]
  refine lv_bipush (v := 8) hx hb dX3_hash_6 (by decide) ?_
  refine lv_ishl hx hb dX3_hash_8 ?_
  refine lv_aload_n hx hb dX3_hash_9 rfl (lv_at hl 0 rfl) ?_
  refine va_get (D := (dC, dI)) (ci := 3) (v := .ref b) (C := RX3) (T := TX3) (N := 5) hx hb hts (by decide +kernel) hown hK hP 0 rfl rfl 2 (by decide) (hts (.fieldLink RX3 18 "FixedPress$CopyFinder" "bytes" "[B") (by decide +kernel)) (fun _ h9 => h9) rfl dX3_hash_10 ?_
  refine lv_iload_n hx hb dX3_hash_13 rfl (lv_at hl 1 rfl) ?_
  refine lv_iconst (v := 1) hx hb dX3_hash_14 (by decide) ?_
  refine lv_iadd hx hb dX3_hash_15 ?_
  refine lv_topi (fun y_1 ey_1 => ?_)
  obtain rfl : y_1 = nI (a + 1) := ey_1.trans (nI_add a 1)
  refine va_bald hx hb hK hP 1 0 rfl rfl (vp_in_nI (n := a + 1) (by omega) (by omega)) dX3_hash_16 ?_
  rw [nI_clamp (n := a + 1) (by omega)]
  refine lv_iconst (v := 4) hx hb dX3_hash_17 (by decide) ?_
  refine lv_ishl hx hb dX3_hash_18 ?_
  refine lv_ixor hx hb dX3_hash_19 ?_
  refine lv_aload_n hx hb dX3_hash_20 rfl (lv_at hl 0 rfl) ?_
  refine va_get (D := (dC, dI)) (ci := 3) (v := .ref b) (C := RX3) (T := TX3) (N := 5) hx hb hts (by decide +kernel) hown hK hP 0 rfl rfl 2 (by decide) (hts (.fieldLink RX3 18 "FixedPress$CopyFinder" "bytes" "[B") (by decide +kernel)) (fun _ h9 => h9) rfl dX3_hash_21 ?_
  refine lv_iload_n hx hb dX3_hash_24 rfl (lv_at hl 1 rfl) ?_
  refine lv_iconst (v := 2) hx hb dX3_hash_25 (by decide) ?_
  refine lv_iadd hx hb dX3_hash_26 ?_
  refine lv_topi (fun y_2 ey_2 => ?_)
  obtain rfl : y_2 = nI (a + 2) := ey_2.trans (nI_add a 2)
  refine va_bald hx hb hK hP 1 0 rfl rfl (vp_in_nI (n := a + 2) (by omega) (by omega)) dX3_hash_27 ?_
  rw [nI_clamp (n := a + 2) (by omega)]
  refine lv_ixor hx hb dX3_hash_28 ?_
  refine lv_sipush (v := 4095) hx hb dX3_hash_29 (by decide) ?_
  refine lv_iand hx hb dX3_hash_32 ?_
  refine lv_topi (fun y_3 ey_3 => ?_)
  obtain rfl : y_3 = nI (zhs tx a) := ey_3.trans (zhs_eq tx a)
  have hP9 := hP.sub (ws' := [(h0, .inr (3, [.ref ne, .ref fa, .ref b, .int (nI n), .int dist])), (b, .inl (cB, 4000, .inl tx))]) [0, 1] rfl
  have hD9 := hD.sub (ws' := [(h0, .inr (3, [.ref ne, .ref fa, .ref b, .int (nI n), .int dist])), (b, .inl (cB, 4000, .inl tx))]) [0, 1] (by decide) rfl
  exact W.iret (v := (nI (zhs tx a))) hx hb hr (fun t ht hW => ⟨⟨(nI (zhs tx a)), (), rfl, rfl, ⟨by rw [ht]; exact hP9, va_K.moved hW.alike hK, hD9⟩⟩, hS.F ht⟩) hS.2.2 dX3_hash_33

abbrev rm_X3_alike : Room := { frames := 0, cells := 0, slots := 0, locals := 0 }
abbrev wo_X3_alike (dC : Nat → ClassId) (dI : Nat → Nat → Nat) (cB cI cJ cM : ClassId) (h0 ne fa b n : Nat) (tx : Nat → Int32) (dist : Int32) (j a best cap : Nat) : va_W := [(h0, .inr (3, [.ref ne, .ref fa, .ref b, .int (nI n), .int dist])), (b, .inl (cB, 4000, .inl tx))]
abbrev q_X3_alike (dC : Nat → ClassId) (dI : Nat → Nat → Nat) (cB cI cJ cM : ClassId) (h0 ne fa b n : Nat) (tx : Nat → Int32) (dist : Int32) (j a best cap : Nat) (A : Nat → Prop) : Array Value → State → Outcome → State → Prop := va_Qi (fun (r : Int32) (u : Nat) => r = nI u ∧ u ≤ cap ∧ ((u = 0 ∧ zml tx a j cap ≤ best) ∨ u = zml tx a j cap)) (zB dC dI cB cI cJ cM A (fun u : Nat => [(h0, .inr (3, [.ref ne, .ref fa, .ref b, .int (nI n), .int dist])), (b, .inl (cB, 4000, .inl tx))])) A
set_option maxHeartbeats 8000000 in
set_option maxRecDepth 100000 in
/-- alike -/
theorem k_X3_alike (l : Launch) (dC : Nat → ClassId) (dI : Nat → Nat → Nat) (cB cI cJ cM : ClassId) (h0 ne fa b n : Nat) (tx : Nat → Int32) (dist : Int32) (j a best cap : Nat) (h1 : a + cap ≤ 4000) (h2 : j < a) (h3 : best < cap) (sz : Nat) : Met l yX3_alike wsX3_alike rm_X3_alike (va_Pc [.ref h0, .int (nI j), .int (nI a), .int (nI best), .int (nI cap)] (fun U => U.heap.size = sz ∧ va_P (dC, dI) vwCl (wo_X3_alike dC dI cB cI cJ cM h0 ne fa b n tx dist j a best cap) U.heap ∧ va_K (dC, dI) vwCl (zT cB cI cJ cM) U ∧ va_D (fun _ => True) (wo_X3_alike dC dI cB cI cJ cM h0 ne fa b n tx dist j a best cap))) (q_X3_alike dC dI cB cI cJ cM h0 ne fa b n tx dist j a best cap (va_A (wo_X3_alike dC dI cB cI cJ cM h0 ne fa b n tx dist j a best cap) sz)) 0 0 (va_A (wo_X3_alike dC dI cB cI cJ cM h0 ne fa b n tx dist j a best cap) sz) := by
  refine Met.ofW (cc := cX3_alike) (maxL := 6) (ret := (some .int)) (by decide) rfl ?_
  intro p e s m args below meth c s₁ B hml hv
  obtain ⟨rfl, hsz, hP, hK, hD0⟩ := hv
  have hx := B.exec
  have hb := B.bytes
  have hr := B.returns
  have hts := atoms_spec (ws := wsX3_alike) B.pre
  have hown : s.vm.findClass RX3 = some m.cls := findClass_of_methodNamed B.named
  have hlocks := B.notSynchronized
  subst hsz
  have hD := hD0.self (sz := s.heap.size)
  generalize hAe : va_A (wo_X3_alike dC dI cB cI cJ cM h0 ne fa b n tx dist j a best cap) s.heap.size = A at hD ⊢
  have hA : ∀ q : Nat, s.heap.size ≤ q → A q := fun q h => by rw [← hAe]; exact Or.inr h
  have hS : va_S A s.heap s.heap [] := va_S.rf
  have hP : va_P (dC, dI) vwCl [(h0, .inr (3, [.ref ne, .ref fa, .ref b, .int (nI n), .int dist])), (b, .inl (cB, 4000, .inl tx))] s.heap := hP
  have hD : va_D A [(h0, .inr (3, [.ref ne, .ref fa, .ref b, .int (nI n), .int dist])), (b, .inl (cB, 4000, .inl tx))] := hD
  have hl := lv_entry ([.ref h0, .int (nI j), .int (nI a), .int (nI best), .int (nI cap)]) (n := 6) (Nat.le_of_ble_eq_true rfl)
  rw [lg_entry_eq]
  generalize (lg_sl ([.ref h0, .int (nI j), .int (nI a), .int (nI best), .int (nI cap)]) ++ List.replicate (6 - (lg_sl ([.ref h0, .int (nI j), .int (nI a), .int (nI best), .int (nI cap)])).length) Slot.unset).toArray = ls at hl ⊢
  have hl : lv_has ls 6 [(0, .ref h0), (1, .int (nI j)), (2, .int (nI a)), (3, .int (nI best)), (4, .int (nI cap))] := hl
  refine lv_aload_n hx hb dX3_alike_0 rfl (lv_at hl 0 rfl) ?_
  refine va_get (D := (dC, dI)) (ci := 3) (v := .ref b) (C := RX3) (T := TX3) (N := 5) hx hb hts (by decide +kernel) hown hK hP 0 rfl rfl 2 (by decide) (hts (.fieldLink RX3 18 "FixedPress$CopyFinder" "bytes" "[B") (by decide +kernel)) (fun _ h9 => h9) rfl dX3_alike_1 ?_
  refine lv_iload_n hx hb dX3_alike_4 rfl (lv_at hl 1 rfl) ?_
  refine lv_iload_n hx hb dX3_alike_5 rfl (lv_at hl 3 rfl) ?_
  refine lv_iadd hx hb dX3_alike_6 ?_
  refine lv_topi (fun y_1 ey_1 => ?_)
  obtain rfl : y_1 = nI (j + best) := ey_1.trans (nI_add j best)
  refine va_bald hx hb hK hP 1 0 rfl rfl (vp_in_nI (n := j + best) (by omega) (by omega)) dX3_alike_7 ?_
  rw [nI_clamp (n := j + best) (by omega)]
  refine lv_aload_n hx hb dX3_alike_8 rfl (lv_at hl 0 rfl) ?_
  refine va_get (D := (dC, dI)) (ci := 3) (v := .ref b) (C := RX3) (T := TX3) (N := 5) hx hb hts (by decide +kernel) hown hK hP 0 rfl rfl 2 (by decide) (hts (.fieldLink RX3 18 "FixedPress$CopyFinder" "bytes" "[B") (by decide +kernel)) (fun _ h9 => h9) rfl dX3_alike_9 ?_
  refine lv_iload_n hx hb dX3_alike_12 rfl (lv_at hl 2 rfl) ?_
  refine lv_iload_n hx hb dX3_alike_13 rfl (lv_at hl 3 rfl) ?_
  refine lv_iadd hx hb dX3_alike_14 ?_
  refine lv_topi (fun y_2 ey_2 => ?_)
  obtain rfl : y_2 = nI (a + best) := ey_2.trans (nI_add a best)
  refine va_bald hx hb hK hP 1 0 rfl rfl (vp_in_nI (n := a + best) (by omega) (by omega)) dX3_alike_15 ?_
  rw [nI_clamp (n := a + best) (by omega)]
  refine lv_icmp_eq (tgt := 21) hx hb dX3_alike_16 (by decide) (fun c16 => ?_) (fun c16 => ?_)
  · refine lv_iconst (v := 0) hx hb dX3_alike_21 (by decide) ?_
    refine lv_istore (lv' := [(5, .int 0), (0, .ref h0), (1, .int (nI j)), (2, .int (nI a)), (3, .int (nI best)), (4, .int (nI cap))]) hx hb dX3_alike_22 hl (by decide) rfl (fun ls hl => ?_)
    have cut24 : ∀ (fuel : Nat) (k : Nat), (k ≤ cap) → (∀ m, m < k → tx (j + m) = tx (a + m)) → (cap - k < fuel) → ∀ (H : Heap) (locs : List Loc), va_P (dC, dI) vwCl [(h0, .inr (3, [.ref ne, .ref fa, .ref b, .int (nI n), .int dist])), (b, .inl (cB, 4000, .inl tx))] H → va_D A [(h0, .inr (3, [.ref ne, .ref fa, .ref b, .int (nI n), .int dist])), (b, .inl (cB, 4000, .inl tx))] → va_S A s.heap H locs → ∀ (ls : Array Slot), lv_has ls 6 [(0, .ref h0), (1, .int (nI j)), (2, .int (nI a)), (4, .int (nI cap)), (5, .int (nI k))] → W p l e (headSpec wsX3_alike rm_X3_alike).room s m ([.ref h0, .int (nI j), .int (nI a), .int (nI best), .int (nI cap)] : List Value).toArray below meth c H locs 0 0 (MQ below (q_X3_alike dC dI cB cI cJ cM h0 ne fa b n tx dist j a best cap A) ([.ref h0, .int (nI j), .int (nI a), .int (nI best), .int (nI cap)] : List Value).toArray s 0 0 A) (F0 m 24 ls []) := by
      intro fuel
      induction fuel with
      | zero => intros; omega
      | succ fuel ih =>
        intro k hk hall hfuel H locs hP hD hS ls hl
        refine lv_iload hx hb dX3_alike_24 (lv_at hl 4 rfl) ?_
        refine lv_iload hx hb dX3_alike_26 (lv_at hl 3 rfl) ?_
        refine lv_icmp_ge (tgt := 58) hx hb dX3_alike_28 (by decide) (fun c28 => ?_) (fun c28 => ?_)
        · have c28 : cap ≤ k := (nI_leI (a := cap) (b := k) (by omega) (by omega)).mp c28
          refine lv_iload hx hb dX3_alike_58 (lv_at hl 4 rfl) ?_
          have hP9 := hP.sub (ws' := [(h0, .inr (3, [.ref ne, .ref fa, .ref b, .int (nI n), .int dist])), (b, .inl (cB, 4000, .inl tx))]) [0, 1] rfl
          have hD9 := hD.sub (ws' := [(h0, .inr (3, [.ref ne, .ref fa, .ref b, .int (nI n), .int dist])), (b, .inl (cB, 4000, .inl tx))]) [0, 1] (by decide) rfl
          exact W.iret (v := (nI k)) hx hb hr (fun t ht hW => ⟨⟨(nI k), k, rfl, ⟨rfl, by omega, Or.inr (zml_of hk hall (Or.inl (by omega))).symm⟩, ⟨by rw [ht]; exact hP9, va_K.moved hW.alike hK, hD9⟩⟩, hS.F ht⟩) hS.2.2 dX3_alike_60
        · have c28 : ¬ (cap ≤ k) := fun h => c28 ((nI_leI (a := cap) (b := k) (by omega) (by omega)).mpr h)
          refine lv_aload_n hx hb dX3_alike_31 rfl (lv_at hl 0 rfl) ?_
          refine va_get (D := (dC, dI)) (ci := 3) (v := .ref b) (C := RX3) (T := TX3) (N := 5) hx hb hts (by decide +kernel) hown hK hP 0 rfl rfl 2 (by decide) (hts (.fieldLink RX3 18 "FixedPress$CopyFinder" "bytes" "[B") (by decide +kernel)) (fun _ h9 => h9) rfl dX3_alike_32 ?_
          refine lv_iload_n hx hb dX3_alike_35 rfl (lv_at hl 1 rfl) ?_
          refine lv_iload hx hb dX3_alike_36 (lv_at hl 4 rfl) ?_
          refine lv_iadd hx hb dX3_alike_38 ?_
          refine lv_topi (fun y_3 ey_3 => ?_)
          obtain rfl : y_3 = nI (j + k) := ey_3.trans (nI_add j k)
          refine va_bald hx hb hK hP 1 0 rfl rfl (vp_in_nI (n := j + k) (by omega) (by omega)) dX3_alike_39 ?_
          rw [nI_clamp (n := j + k) (by omega)]
          refine lv_aload_n hx hb dX3_alike_40 rfl (lv_at hl 0 rfl) ?_
          refine va_get (D := (dC, dI)) (ci := 3) (v := .ref b) (C := RX3) (T := TX3) (N := 5) hx hb hts (by decide +kernel) hown hK hP 0 rfl rfl 2 (by decide) (hts (.fieldLink RX3 18 "FixedPress$CopyFinder" "bytes" "[B") (by decide +kernel)) (fun _ h9 => h9) rfl dX3_alike_41 ?_
          refine lv_iload_n hx hb dX3_alike_44 rfl (lv_at hl 2 rfl) ?_
          refine lv_iload hx hb dX3_alike_45 (lv_at hl 4 rfl) ?_
          refine lv_iadd hx hb dX3_alike_47 ?_
          refine lv_topi (fun y_4 ey_4 => ?_)
          obtain rfl : y_4 = nI (a + k) := ey_4.trans (nI_add a k)
          refine va_bald hx hb hK hP 1 0 rfl rfl (vp_in_nI (n := a + k) (by omega) (by omega)) dX3_alike_48 ?_
          rw [nI_clamp (n := a + k) (by omega)]
          refine lv_icmp_ne (tgt := 58) hx hb dX3_alike_49 (by decide) (fun c49 => ?_) (fun c49 => ?_)
          · refine lv_iload hx hb dX3_alike_58 (lv_at hl 4 rfl) ?_
            have hP9 := hP.sub (ws' := [(h0, .inr (3, [.ref ne, .ref fa, .ref b, .int (nI n), .int dist])), (b, .inl (cB, 4000, .inl tx))]) [0, 1] rfl
            have hD9 := hD.sub (ws' := [(h0, .inr (3, [.ref ne, .ref fa, .ref b, .int (nI n), .int dist])), (b, .inl (cB, 4000, .inl tx))]) [0, 1] (by decide) rfl
            exact W.iret (v := (nI k)) hx hb hr (fun t ht hW => ⟨⟨(nI k), k, rfl, ⟨rfl, by omega, Or.inr (zml_of hk hall (Or.inr c49)).symm⟩, ⟨by rw [ht]; exact hP9, va_K.moved hW.alike hK, hD9⟩⟩, hS.F ht⟩) hS.2.2 dX3_alike_60
          · refine lv_iinc (v := nI (k + 1)) (lv' := [(5, .int (nI (k + 1))), (0, .ref h0), (1, .int (nI j)), (2, .int (nI a)), (4, .int (nI cap))]) hx hb dX3_alike_52 hl (k := 4) rfl (show nI k + Int32.ofInt 1 = _ from nI_add k 1) (by decide) rfl (fun ls hl => ?_)
            refine lv_goto (tgt := 24) hx hb dX3_alike_55 (by decide) ?_
            exact ih (k + 1) (by omega) (fun m h => (Nat.lt_or_ge m k).elim (fun q => hall m q) (fun q => by rw [show m = k from by omega]; exact c49)) (by omega) _ _ hP hD hS _ (lv_sub hl [1, 2, 3, 4, 0] rfl)
    exact cut24 (cap - 0 + 1) 0 (by omega) (fun m h => absurd h (Nat.not_lt_zero _)) (by omega) _ _ hP hD hS _ (lv_sub hl [1, 2, 3, 5, 0] rfl)
  · refine lv_iconst (v := 0) hx hb dX3_alike_19 (by decide) ?_
    have hP9 := hP.sub (ws' := [(h0, .inr (3, [.ref ne, .ref fa, .ref b, .int (nI n), .int dist])), (b, .inl (cB, 4000, .inl tx))]) [0, 1] rfl
    have hD9 := hD.sub (ws' := [(h0, .inr (3, [.ref ne, .ref fa, .ref b, .int (nI n), .int dist])), (b, .inl (cB, 4000, .inl tx))]) [0, 1] (by decide) rfl
    exact W.iret (v := 0) hx hb hr (fun t ht hW => ⟨⟨0, 0, rfl, ⟨rfl, by omega, Or.inl ⟨rfl, (Nat.lt_or_ge best (zml tx a j cap)).elim (fun q => absurd (zml_eq tx a j cap best q) c16) (fun q => q)⟩⟩, ⟨by rw [ht]; exact hP9, va_K.moved hW.alike hK, hD9⟩⟩, hS.F ht⟩) hS.2.2 dX3_alike_20

abbrev rm_X3_enter : Room := { frames := 1, cells := 0, slots := 0, locals := 21 }
abbrev wo_X3_enter (dC : Nat → ClassId) (dI : Nat → Nat → Nat) (cB cI cJ cM : ClassId) (h0 ne fa b n : Nat) (tx : Nat → Int32) (dist : Int32) (g w : Nat → Int32) (a : Nat) : va_W := [(h0, .inr (3, [.ref ne, .ref fa, .ref b, .int (nI n), .int dist])), (b, .inl (cB, 4000, .inl tx)), (ne, .inl (cI, 4096, .inl g)), (fa, .inl (cI, 4000, .inl w))]
abbrev q_X3_enter (dC : Nat → ClassId) (dI : Nat → Nat → Nat) (cB cI cJ cM : ClassId) (h0 ne fa b n : Nat) (tx : Nat → Int32) (dist : Int32) (g w : Nat → Int32) (a : Nat) (A : Nat → Prop) : Array Value → State → Outcome → State → Prop := va_Qv (fun (u : (Nat → Int32) × (Nat → Int32)) => (n < a + 3 → u.1 = g ∧ u.2 = w) ∧ (a + 3 ≤ n → u.1 = upd g (zhs tx a) (nI a) ∧ u.2 = upd w a (g (zhs tx a)))) (zB dC dI cB cI cJ cM A (fun u : (Nat → Int32) × (Nat → Int32) => [(h0, .inr (3, [.ref ne, .ref fa, .ref b, .int (nI n), .int dist])), (b, .inl (cB, 4000, .inl tx)), (ne, .inl (cI, 4096, .inl u.1)), (fa, .inl (cI, 4000, .inl u.2))])) A
set_option maxHeartbeats 8000000 in
set_option maxRecDepth 100000 in
/-- enter -/
theorem k_X3_enter (l : Launch) (dC : Nat → ClassId) (dI : Nat → Nat → Nat) (cB cI cJ cM : ClassId) (h0 ne fa b n : Nat) (tx : Nat → Int32) (dist : Int32) (g w : Nat → Int32) (a : Nat) (h1 : n ≤ 4000) (h2 : a < n) (sz : Nat) : Met l yX3_enter wsX3_enter rm_X3_enter (va_Pc [.ref h0, .int (nI a)] (fun U => U.heap.size = sz ∧ va_P (dC, dI) vwCl (wo_X3_enter dC dI cB cI cJ cM h0 ne fa b n tx dist g w a) U.heap ∧ va_K (dC, dI) vwCl (zT cB cI cJ cM) U ∧ va_D (fun _ => True) (wo_X3_enter dC dI cB cI cJ cM h0 ne fa b n tx dist g w a))) (q_X3_enter dC dI cB cI cJ cM h0 ne fa b n tx dist g w a (va_A (wo_X3_enter dC dI cB cI cJ cM h0 ne fa b n tx dist g w a) sz)) 0 0 (va_A (wo_X3_enter dC dI cB cI cJ cM h0 ne fa b n tx dist g w a) sz) := by
  refine Met.ofW (cc := cX3_enter) (maxL := 3) (ret := none) (by decide) rfl ?_
  intro p e s m args below meth c s₁ B hml hv
  obtain ⟨rfl, hsz, hP, hK, hD0⟩ := hv
  have hx := B.exec
  have hb := B.bytes
  have hr := B.returns
  have hts := atoms_spec (ws := wsX3_enter) B.pre
  have hown : s.vm.findClass RX3 = some m.cls := findClass_of_methodNamed B.named
  have hlocks := B.notSynchronized
  subst hsz
  have hD := hD0.self (sz := s.heap.size)
  generalize hAe : va_A (wo_X3_enter dC dI cB cI cJ cM h0 ne fa b n tx dist g w a) s.heap.size = A at hD ⊢
  have hA : ∀ q : Nat, s.heap.size ≤ q → A q := fun q h => by rw [← hAe]; exact Or.inr h
  have hS : va_S A s.heap s.heap [] := va_S.rf
  have hP : va_P (dC, dI) vwCl [(h0, .inr (3, [.ref ne, .ref fa, .ref b, .int (nI n), .int dist])), (b, .inl (cB, 4000, .inl tx)), (ne, .inl (cI, 4096, .inl g)), (fa, .inl (cI, 4000, .inl w))] s.heap := hP
  have hD : va_D A [(h0, .inr (3, [.ref ne, .ref fa, .ref b, .int (nI n), .int dist])), (b, .inl (cB, 4000, .inl tx)), (ne, .inl (cI, 4096, .inl g)), (fa, .inl (cI, 4000, .inl w))] := hD
  have hl := lv_entry ([.ref h0, .int (nI a)]) (n := 3) (Nat.le_of_ble_eq_true rfl)
  rw [lg_entry_eq]
  generalize (lg_sl ([.ref h0, .int (nI a)]) ++ List.replicate (3 - (lg_sl ([.ref h0, .int (nI a)])).length) Slot.unset).toArray = ls at hl ⊢
  have hl : lv_has ls 3 [(0, .ref h0), (1, .int (nI a))] := hl
  refine lv_aload_n hx hb dX3_enter_0 rfl (lv_at hl 0 rfl) ?_
  refine va_get (D := (dC, dI)) (ci := 3) (v := .int (nI n)) (C := RX3) (T := TX3) (N := 5) hx hb hts (by decide +kernel) hown hK hP 0 rfl rfl 3 (by decide) (hts (.fieldLink RX3 22 "FixedPress$CopyFinder" "length" "I") (by decide +kernel)) (fun _ h9 => h9) rfl dX3_enter_1 ?_
  refine lv_iload_n hx hb dX3_enter_4 rfl (lv_at hl 1 rfl) ?_
  refine lv_isub hx hb dX3_enter_5 ?_
  refine lv_topi (fun y_1 ey_1 => ?_)
  obtain rfl : y_1 = nI (n - a) := ey_1.trans (pk_sub (a := n) (b := a) (by omega))
  refine lv_iconst (v := 3) hx hb dX3_enter_6 (by decide) ?_
  refine lv_icmp_lt (tgt := 35) hx hb dX3_enter_7 (by decide) (fun c7 => ?_) (fun c7 => ?_)
  · have c7 : (n - a) < 3 := (nI_ltI (a := (n - a)) (b := 3) (by omega) (by omega)).mp c7
    have hP9 := hP.sub (ws' := [(h0, .inr (3, [.ref ne, .ref fa, .ref b, .int (nI n), .int dist])), (b, .inl (cB, 4000, .inl tx)), (ne, .inl (cI, 4096, .inl g)), (fa, .inl (cI, 4000, .inl w))]) [0, 1, 2, 3] rfl
    have hD9 := hD.sub (ws' := [(h0, .inr (3, [.ref ne, .ref fa, .ref b, .int (nI n), .int dist])), (b, .inl (cB, 4000, .inl tx)), (ne, .inl (cI, 4096, .inl g)), (fa, .inl (cI, 4000, .inl w))]) [0, 1, 2, 3] (by decide) rfl
    exact W.vret hx hb hr (fun t ht hW => ⟨⟨(g, w), rfl, ⟨fun h => by first | exact ⟨rfl, rfl⟩ | omega, fun h => by first | exact ⟨rfl, rfl⟩ | omega⟩, ⟨by rw [ht]; exact hP9, va_K.moved hW.alike hK, hD9⟩⟩, hS.F ht⟩) hS.2.2 dX3_enter_35
  · have c7 : ¬ ((n - a) < 3) := fun h => c7 ((nI_ltI (a := (n - a)) (b := 3) (by omega) (by omega)).mpr h)
    have hz9 := zhs_lt tx a
    refine lv_aload_n hx hb dX3_enter_10 rfl (lv_at hl 0 rfl) ?_
    refine lv_iload_n hx hb dX3_enter_11 rfl (lv_at hl 1 rfl) ?_
    have hPc := hP.sub (ws' := [(h0, .inr (3, [.ref ne, .ref fa, .ref b, .int (nI n), .int dist])), (b, .inl (cB, 4000, .inl tx))]) [0, 1] rfl
    have hDc := hD.sub (ws' := [(h0, .inr (3, [.ref ne, .ref fa, .ref b, .int (nI n), .int dist])), (b, .inl (cB, 4000, .inl tx))]) [0, 1] (by decide) rfl
    have hFc := va_free (wc := [(h0, .inr (3, [.ref ne, .ref fa, .ref b, .int (nI n), .int dist])), (b, .inl (cB, 4000, .inl tx))]) hD hS hA [0, 1] rfl
    refine va_calli (va_runV (As := [.int (nI a)]) (rest := []) ⟨hx, hb, hml, hown, hts⟩ (k_X3_hash l dC dI cB cI cJ cM h0 ne fa b n tx dist a (by omega) s.heap.size) (cwV 1 hts gX3_enter_X3_hash rfl rfl rfl (by decide +kernel) ⟨Nat.le_of_ble_eq_true rfl, Nat.le_of_ble_eq_true rfl⟩) ⟨fun a U g mk q => by obtain ⟨q0, q1, qP, qK, qD⟩ := q; exact ⟨q0, q1, qP, va_K.moved (u := U) (U := U.calling g mk a) (Vm.Alike.refl U.vm) qK, qD⟩, va_recv hK hPc (ci := 3) (q0 := 0) rfl rfl, fun U hU hW => ⟨rfl, by rw [hU], by rw [hU]; exact hPc, va_K.moved hW.alike hK, hDc.weaken (fun _ _ _ _ => trivial)⟩⟩ rfl rfl hl.1 rfl (lv_room (Nat.le_of_ble_eq_true rfl)) dX3_enter_12 ⟨(show 0 + 0 ≤ 0 by omega), (show 0 + 0 ≤ 0 by omega)⟩) hS (fun q _ h => hFc q h) hFc (fun r12 u t H1 locs ht hvm hw hB hz1 hk1 hS => ?_)
    have hP1 : va_P (dC, dI) vwCl [(h0, .inr (3, [.ref ne, .ref fa, .ref b, .int (nI n), .int dist])), (b, .inl (cB, 4000, .inl tx))] H1 := by rw [← ht]; exact hB.1
    have hD1 : va_D (va_A [(h0, .inr (3, [.ref ne, .ref fa, .ref b, .int (nI n), .int dist])), (b, .inl (cB, 4000, .inl tx))] s.heap.size) [(h0, .inr (3, [.ref ne, .ref fa, .ref b, .int (nI n), .int dist])), (b, .inl (cB, 4000, .inl tx))] := hB.2.2
    obtain ⟨hP, hD⟩ := va_join (wr := [(ne, .inl (cI, 4096, .inl g)), (fa, .inl (cI, 4000, .inl w))]) (w1 := [(h0, .inr (3, [.ref ne, .ref fa, .ref b, .int (nI n), .int dist])), (b, .inl (cB, 4000, .inl tx))]) hP hD [0, 1] [2, 3] rfl rfl (by decide) (by decide) hk1 hFc hP1 hD1
    generalize H1 = H at hP hS ⊢
    try dsimp only at hw
    have hP : va_P (dC, dI) vwCl [(ne, .inl (cI, 4096, .inl g)), (fa, .inl (cI, 4000, .inl w)), (h0, .inr (3, [.ref ne, .ref fa, .ref b, .int (nI n), .int dist])), (b, .inl (cB, 4000, .inl tx))] H := hP
    have hD : va_D A [(ne, .inl (cI, 4096, .inl g)), (fa, .inl (cI, 4000, .inl w)), (h0, .inr (3, [.ref ne, .ref fa, .ref b, .int (nI n), .int dist])), (b, .inl (cB, 4000, .inl tx))] := hD
    obtain rfl : r12 = nI (zhs tx a) := hw
    refine W.eq (g2 := F0 m 15 ls [.int (nI (zhs tx a))]) rfl ?_
    refine lv_istore_n (lv' := [(2, .int (nI (zhs tx a))), (0, .ref h0), (1, .int (nI a))]) hx hb dX3_enter_15 rfl hl (by decide) rfl (fun ls hl => ?_)
    refine lv_aload_n hx hb dX3_enter_16 rfl (lv_at hl 1 rfl) ?_
    refine va_get (D := (dC, dI)) (ci := 3) (v := .ref fa) (C := RX3) (T := TX3) (N := 5) hx hb hts (by decide +kernel) hown hK hP 2 rfl rfl 1 (by decide) (hts (.fieldLink RX3 15 "FixedPress$CopyFinder" "farther" "[I") (by decide +kernel)) (fun _ h9 => h9) rfl dX3_enter_17 ?_
    refine lv_iload_n hx hb dX3_enter_20 rfl (lv_at hl 2 rfl) ?_
    refine lv_aload_n hx hb dX3_enter_21 rfl (lv_at hl 1 rfl) ?_
    refine va_get (D := (dC, dI)) (ci := 3) (v := .ref ne) (C := RX3) (T := TX3) (N := 5) hx hb hts (by decide +kernel) hown hK hP 2 rfl rfl 0 (by decide) (hts (.fieldLink RX3 11 "FixedPress$CopyFinder" "nearest" "[I") (by decide +kernel)) (fun _ h9 => h9) rfl dX3_enter_22 ?_
    refine lv_iload_n hx hb dX3_enter_25 rfl (lv_at hl 0 rfl) ?_
    refine va_iald hx hb hK hP 0 1 rfl rfl (vp_in_nI (n := zhs tx a) (by omega) (by omega)) dX3_enter_26 ?_
    rw [nI_clamp (n := zhs tx a) (by omega)]
    refine va_iast hx hb hK hP hD hS 1 1 rfl rfl (vp_in_nI (n := a) (by omega) (by omega)) dX3_enter_27 (fun H locs hP hD hS => ?_)
    rw [nI_clamp (n := a) (by omega)] at hP hD
    have hP : va_P (dC, dI) vwCl [(ne, .inl (cI, 4096, .inl g)), (fa, .inl (cI, 4000, .inl (upd w a (g (zhs tx a))))), (h0, .inr (3, [.ref ne, .ref fa, .ref b, .int (nI n), .int dist])), (b, .inl (cB, 4000, .inl tx))] H := hP
    have hD : va_D A [(ne, .inl (cI, 4096, .inl g)), (fa, .inl (cI, 4000, .inl (upd w a (g (zhs tx a))))), (h0, .inr (3, [.ref ne, .ref fa, .ref b, .int (nI n), .int dist])), (b, .inl (cB, 4000, .inl tx))] := hD
    refine lv_aload_n hx hb dX3_enter_28 rfl (lv_at hl 1 rfl) ?_
    refine va_get (D := (dC, dI)) (ci := 3) (v := .ref ne) (C := RX3) (T := TX3) (N := 5) hx hb hts (by decide +kernel) hown hK hP 2 rfl rfl 0 (by decide) (hts (.fieldLink RX3 11 "FixedPress$CopyFinder" "nearest" "[I") (by decide +kernel)) (fun _ h9 => h9) rfl dX3_enter_29 ?_
    refine lv_iload_n hx hb dX3_enter_32 rfl (lv_at hl 0 rfl) ?_
    refine lv_iload_n hx hb dX3_enter_33 rfl (lv_at hl 2 rfl) ?_
    refine va_iast hx hb hK hP hD hS 0 1 rfl rfl (vp_in_nI (n := zhs tx a) (by omega) (by omega)) dX3_enter_34 (fun H locs hP hD hS => ?_)
    rw [nI_clamp (n := zhs tx a) (by omega)] at hP hD
    have hP : va_P (dC, dI) vwCl [(ne, .inl (cI, 4096, .inl (upd g (zhs tx a) (nI a)))), (fa, .inl (cI, 4000, .inl (upd w a (g (zhs tx a))))), (h0, .inr (3, [.ref ne, .ref fa, .ref b, .int (nI n), .int dist])), (b, .inl (cB, 4000, .inl tx))] H := hP
    have hD : va_D A [(ne, .inl (cI, 4096, .inl (upd g (zhs tx a) (nI a)))), (fa, .inl (cI, 4000, .inl (upd w a (g (zhs tx a))))), (h0, .inr (3, [.ref ne, .ref fa, .ref b, .int (nI n), .int dist])), (b, .inl (cB, 4000, .inl tx))] := hD
    have hP9 := hP.sub (ws' := [(h0, .inr (3, [.ref ne, .ref fa, .ref b, .int (nI n), .int dist])), (b, .inl (cB, 4000, .inl tx)), (ne, .inl (cI, 4096, .inl (upd g (zhs tx a) (nI a)))), (fa, .inl (cI, 4000, .inl (upd w a (g (zhs tx a)))))]) [2, 3, 0, 1] rfl
    have hD9 := hD.sub (ws' := [(h0, .inr (3, [.ref ne, .ref fa, .ref b, .int (nI n), .int dist])), (b, .inl (cB, 4000, .inl tx)), (ne, .inl (cI, 4096, .inl (upd g (zhs tx a) (nI a)))), (fa, .inl (cI, 4000, .inl (upd w a (g (zhs tx a)))))]) [2, 3, 0, 1] (by decide) rfl
    exact W.vret hx hb hr (fun t ht hW => ⟨⟨(upd g (zhs tx a) (nI a), upd w a (g (zhs tx a))), rfl, ⟨fun h => by first | exact ⟨rfl, rfl⟩ | omega, fun h => by first | exact ⟨rfl, rfl⟩ | omega⟩, ⟨by rw [ht]; exact hP9, va_K.moved hW.alike hK, hD9⟩⟩, hS.F ht⟩) hS.2.2 dX3_enter_35

abbrev rm_X3_longest : Room := { frames := 1, cells := 0, slots := 0, locals := 25 }
abbrev wo_X3_longest (dC : Nat → ClassId) (dI : Nat → Nat → Nat) (cB cI cJ cM : ClassId) (h0 ne fa b n : Nat) (tx : Nat → Int32) (dist : Int32) (g w : Nat → Int32) (a : Nat) : va_W := [(h0, .inr (3, [.ref ne, .ref fa, .ref b, .int (nI n), .int dist])), (b, .inl (cB, 4000, .inl tx)), (ne, .inl (cI, 4096, .inl g)), (fa, .inl (cI, 4000, .inl w))]
abbrev q_X3_longest (dC : Nat → ClassId) (dI : Nat → Nat → Nat) (cB cI cJ cM : ClassId) (h0 ne fa b n : Nat) (tx : Nat → Int32) (dist : Int32) (g w : Nat → Int32) (a : Nat) (A : Nat → Prop) : Array Value → State → Outcome → State → Prop := va_Qi (fun (r : Int32) (u : Int32) => (r = nI (if (zbst tx a (min 258 (n - a)) a).2 = 0 then 0 else (zbst tx a (min 258 (n - a)) a).1)) ∧ ((zbst tx a (min 258 (n - a)) a).2 ≠ 0 → u = nI (zbst tx a (min 258 (n - a)) a).2)) (zB dC dI cB cI cJ cM A (fun u : Int32 => [(h0, .inr (3, [.ref ne, .ref fa, .ref b, .int (nI n), .int u])), (b, .inl (cB, 4000, .inl tx)), (ne, .inl (cI, 4096, .inl g)), (fa, .inl (cI, 4000, .inl w))])) A
set_option maxHeartbeats 8000000 in
set_option maxRecDepth 100000 in
/-- longest -/
theorem k_X3_longest (l : Launch) (dC : Nat → ClassId) (dI : Nat → Nat → Nat) (cB cI cJ cM : ClassId) (h0 ne fa b n : Nat) (tx : Nat → Int32) (dist : Int32) (g w : Nat → Int32) (a : Nat) (h1 : n ≤ 4000) (h2 : a < n) (hg : a + 3 ≤ n → ∀ h, h < 4096 → g h = zprv tx h a) (hwf : a + 3 ≤ n → ∀ j, j < a → w j = zprv tx (zhs tx j) j) (sz : Nat) : Met l yX3_longest wsX3_longest rm_X3_longest (va_Pc [.ref h0, .int (nI a)] (fun U => U.heap.size = sz ∧ va_P (dC, dI) vwCl (wo_X3_longest dC dI cB cI cJ cM h0 ne fa b n tx dist g w a) U.heap ∧ va_K (dC, dI) vwCl (zT cB cI cJ cM) U ∧ va_D (fun _ => True) (wo_X3_longest dC dI cB cI cJ cM h0 ne fa b n tx dist g w a))) (q_X3_longest dC dI cB cI cJ cM h0 ne fa b n tx dist g w a (va_A (wo_X3_longest dC dI cB cI cJ cM h0 ne fa b n tx dist g w a) sz)) 0 0 (va_A (wo_X3_longest dC dI cB cI cJ cM h0 ne fa b n tx dist g w a) sz) := by
  refine Met.ofW (cc := cX3_longest) (maxL := 7) (ret := (some .int)) (by decide) rfl ?_
  intro p e s m args below meth c s₁ B hml hv
  obtain ⟨rfl, hsz, hP, hK, hD0⟩ := hv
  have hx := B.exec
  have hb := B.bytes
  have hr := B.returns
  have hts := atoms_spec (ws := wsX3_longest) B.pre
  have hown : s.vm.findClass RX3 = some m.cls := findClass_of_methodNamed B.named
  have hlocks := B.notSynchronized
  subst hsz
  have hD := hD0.self (sz := s.heap.size)
  generalize hAe : va_A (wo_X3_longest dC dI cB cI cJ cM h0 ne fa b n tx dist g w a) s.heap.size = A at hD ⊢
  have hA : ∀ q : Nat, s.heap.size ≤ q → A q := fun q h => by rw [← hAe]; exact Or.inr h
  have hS : va_S A s.heap s.heap [] := va_S.rf
  have hP : va_P (dC, dI) vwCl [(h0, .inr (3, [.ref ne, .ref fa, .ref b, .int (nI n), .int dist])), (b, .inl (cB, 4000, .inl tx)), (ne, .inl (cI, 4096, .inl g)), (fa, .inl (cI, 4000, .inl w))] s.heap := hP
  have hD : va_D A [(h0, .inr (3, [.ref ne, .ref fa, .ref b, .int (nI n), .int dist])), (b, .inl (cB, 4000, .inl tx)), (ne, .inl (cI, 4096, .inl g)), (fa, .inl (cI, 4000, .inl w))] := hD
  have hl := lv_entry ([.ref h0, .int (nI a)]) (n := 7) (Nat.le_of_ble_eq_true rfl)
  rw [lg_entry_eq]
  generalize (lg_sl ([.ref h0, .int (nI a)]) ++ List.replicate (7 - (lg_sl ([.ref h0, .int (nI a)])).length) Slot.unset).toArray = ls at hl ⊢
  have hl : lv_has ls 7 [(0, .ref h0), (1, .int (nI a))] := hl
  refine lv_sipush (v := 258) hx hb dX3_longest_0 (by decide) ?_
  refine lv_aload_n hx hb dX3_longest_3 rfl (lv_at hl 0 rfl) ?_
  refine va_get (D := (dC, dI)) (ci := 3) (v := .int (nI n)) (C := RX3) (T := TX3) (N := 5) hx hb hts (by decide +kernel) hown hK hP 0 rfl rfl 3 (by decide) (hts (.fieldLink RX3 22 "FixedPress$CopyFinder" "length" "I") (by decide +kernel)) (fun _ h9 => h9) rfl dX3_longest_4 ?_
  refine lv_iload_n hx hb dX3_longest_7 rfl (lv_at hl 1 rfl) ?_
  refine lv_isub hx hb dX3_longest_8 ?_
  refine lv_topi (fun y_1 ey_1 => ?_)
  obtain rfl : y_1 = nI (n - a) := ey_1.trans (pk_sub (a := n) (b := a) (by omega))
  refine va_mmin hx hb (hml.trans hl.1.symm) hown (hts (.methodLink RX3 26 Lib.Math.min.name) (by decide +kernel)) (hts (.static Lib.Math.min.name) (by decide +kernel)) (hts (.initialized "java/lang/Math") (by decide +kernel)) (hts (.code Lib.Math.min.name Lib.Math.min.code 2 (some .int)) (by decide +kernel)) (Nat.le_of_ble_eq_true rfl) (Nat.le_of_ble_eq_true rfl) (Nat.le_of_ble_eq_true rfl) (Nat.le_of_ble_eq_true rfl) dX3_longest_9 ?_
  refine lv_topi (fun y_2 ey_2 => ?_)
  obtain rfl : y_2 = nI (min 258 (n - a)) := ey_2.trans (z_min (k := n - a) (by omega))
  refine lv_istore_n (lv' := [(2, .int (nI (min 258 (n - a)))), (0, .ref h0), (1, .int (nI a))]) hx hb dX3_longest_12 rfl hl (by decide) rfl (fun ls hl => ?_)
  refine lv_iload_n hx hb dX3_longest_13 rfl (lv_at hl 0 rfl) ?_
  refine lv_iconst (v := 3) hx hb dX3_longest_14 (by decide) ?_
  refine lv_icmp_ge (tgt := 20) hx hb dX3_longest_15 (by decide) (fun c15 => ?_) (fun c15 => ?_)
  · have c15 : 3 ≤ (min 258 (n - a)) := (nI_leI (a := 3) (b := (min 258 (n - a))) (by omega) (by omega)).mp c15
    have hz9 := zhs_lt tx a
    refine lv_iconst (v := 0) hx hb dX3_longest_20 (by decide) ?_
    refine lv_istore_n (lv' := [(3, .int 0), (2, .int (nI (min 258 (n - a)))), (0, .ref h0), (1, .int (nI a))]) hx hb dX3_longest_21 rfl hl (by decide) rfl (fun ls hl => ?_)
    refine lv_aload_n hx hb dX3_longest_22 rfl (lv_at hl 2 rfl) ?_
    refine va_get (D := (dC, dI)) (ci := 3) (v := .ref ne) (C := RX3) (T := TX3) (N := 5) hx hb hts (by decide +kernel) hown hK hP 0 rfl rfl 0 (by decide) (hts (.fieldLink RX3 11 "FixedPress$CopyFinder" "nearest" "[I") (by decide +kernel)) (fun _ h9 => h9) rfl dX3_longest_23 ?_
    refine lv_aload_n hx hb dX3_longest_26 rfl (lv_at hl 2 rfl) ?_
    refine lv_iload_n hx hb dX3_longest_27 rfl (lv_at hl 3 rfl) ?_
    have hPc := hP.sub (ws' := [(h0, .inr (3, [.ref ne, .ref fa, .ref b, .int (nI n), .int dist])), (b, .inl (cB, 4000, .inl tx))]) [0, 1] rfl
    have hDc := hD.sub (ws' := [(h0, .inr (3, [.ref ne, .ref fa, .ref b, .int (nI n), .int dist])), (b, .inl (cB, 4000, .inl tx))]) [0, 1] (by decide) rfl
    have hFc := va_free (wc := [(h0, .inr (3, [.ref ne, .ref fa, .ref b, .int (nI n), .int dist])), (b, .inl (cB, 4000, .inl tx))]) hD hS hA [0, 1] rfl
    refine va_calli (va_runV (As := [.int (nI a)]) (rest := [.ref ne]) ⟨hx, hb, hml, hown, hts⟩ (k_X3_hash l dC dI cB cI cJ cM h0 ne fa b n tx dist a (by omega) s.heap.size) (cwV 1 hts gX3_longest_X3_hash rfl rfl rfl (by decide +kernel) ⟨Nat.le_of_ble_eq_true rfl, Nat.le_of_ble_eq_true rfl⟩) ⟨fun a U g mk q => by obtain ⟨q0, q1, qP, qK, qD⟩ := q; exact ⟨q0, q1, qP, va_K.moved (u := U) (U := U.calling g mk a) (Vm.Alike.refl U.vm) qK, qD⟩, va_recv hK hPc (ci := 3) (q0 := 0) rfl rfl, fun U hU hW => ⟨rfl, by rw [hU], by rw [hU]; exact hPc, va_K.moved hW.alike hK, hDc.weaken (fun _ _ _ _ => trivial)⟩⟩ rfl rfl hl.1 rfl (lv_room (Nat.le_of_ble_eq_true rfl)) dX3_longest_28 ⟨(show 0 + 0 ≤ 0 by omega), (show 0 + 0 ≤ 0 by omega)⟩) hS (fun q _ h => hFc q h) hFc (fun r28 u t H1 locs ht hvm hw hB hz1 hk1 hS => ?_)
    have hP1 : va_P (dC, dI) vwCl [(h0, .inr (3, [.ref ne, .ref fa, .ref b, .int (nI n), .int dist])), (b, .inl (cB, 4000, .inl tx))] H1 := by rw [← ht]; exact hB.1
    have hD1 : va_D (va_A [(h0, .inr (3, [.ref ne, .ref fa, .ref b, .int (nI n), .int dist])), (b, .inl (cB, 4000, .inl tx))] s.heap.size) [(h0, .inr (3, [.ref ne, .ref fa, .ref b, .int (nI n), .int dist])), (b, .inl (cB, 4000, .inl tx))] := hB.2.2
    obtain ⟨hP, hD⟩ := va_join (wr := [(ne, .inl (cI, 4096, .inl g)), (fa, .inl (cI, 4000, .inl w))]) (w1 := [(h0, .inr (3, [.ref ne, .ref fa, .ref b, .int (nI n), .int dist])), (b, .inl (cB, 4000, .inl tx))]) hP hD [0, 1] [2, 3] rfl rfl (by decide) (by decide) hk1 hFc hP1 hD1
    generalize H1 = H at hP hS ⊢
    try dsimp only at hw
    have hP : va_P (dC, dI) vwCl [(ne, .inl (cI, 4096, .inl g)), (fa, .inl (cI, 4000, .inl w)), (h0, .inr (3, [.ref ne, .ref fa, .ref b, .int (nI n), .int dist])), (b, .inl (cB, 4000, .inl tx))] H := hP
    have hD : va_D A [(ne, .inl (cI, 4096, .inl g)), (fa, .inl (cI, 4000, .inl w)), (h0, .inr (3, [.ref ne, .ref fa, .ref b, .int (nI n), .int dist])), (b, .inl (cB, 4000, .inl tx))] := hD
    obtain rfl : r28 = nI (zhs tx a) := hw
    refine W.eq (g2 := F0 m 31 ls [.int (nI (zhs tx a)), .ref ne]) rfl ?_
    refine va_iald hx hb hK hP 0 1 rfl rfl (vp_in_nI (n := zhs tx a) (by omega) (by omega)) dX3_longest_31 ?_
    rw [nI_clamp (n := zhs tx a) (by omega)]
    refine lv_istore (lv' := [(4, .int (g (zhs tx a))), (3, .int 0), (2, .int (nI (min 258 (n - a)))), (0, .ref h0), (1, .int (nI a))]) hx hb dX3_longest_32 hl (by decide) rfl (fun ls hl => ?_)
    refine lv_iconst (v := 0) hx hb dX3_longest_34 (by decide) ?_
    refine lv_istore (lv' := [(5, .int 0), (4, .int (g (zhs tx a))), (3, .int 0), (2, .int (nI (min 258 (n - a)))), (0, .ref h0), (1, .int (nI a))]) hx hb dX3_longest_35 hl (by decide) rfl (fun ls hl => ?_)
    have cut37 : ∀ (fuel : Nat) (d : Nat) (best : Nat) (fr : Int32) (tr : Nat) (dist1 : Int32), (d ≤ a) → (tr ≤ d) → (fr = zprv tx (zhs tx a) (a - d)) → (zFd tx a (min 258 (n - a)) d best dist1) → (best ≤ min 258 (n - a)) → (a - d < fuel) → ∀ (H : Heap) (locs : List Loc), va_P (dC, dI) vwCl [(h0, .inr (3, [.ref ne, .ref fa, .ref b, .int (nI n), .int dist1])), (b, .inl (cB, 4000, .inl tx)), (ne, .inl (cI, 4096, .inl g)), (fa, .inl (cI, 4000, .inl w))] H → va_D A [(h0, .inr (3, [.ref ne, .ref fa, .ref b, .int (nI n), .int dist1])), (b, .inl (cB, 4000, .inl tx)), (ne, .inl (cI, 4096, .inl g)), (fa, .inl (cI, 4000, .inl w))] → va_S A s.heap H locs → ∀ (ls : Array Slot), lv_has ls 7 [(0, .ref h0), (1, .int (nI a)), (2, .int (nI (min 258 (n - a)))), (3, .int (nI best)), (4, .int fr), (5, .int (nI tr))] → W p l e (headSpec wsX3_longest rm_X3_longest).room s m ([.ref h0, .int (nI a)] : List Value).toArray below meth c H locs 0 0 (MQ below (q_X3_longest dC dI cB cI cJ cM h0 ne fa b n tx dist g w a A) ([.ref h0, .int (nI a)] : List Value).toArray s 0 0 A) (F0 m 37 ls []) := by
      intro fuel
      induction fuel with
      | zero => intros; omega
      | succ fuel ih =>
        intro d best fr tr dist1 hd htr hfr hFd hbc hfuel H locs hP hD hS ls hl
        refine lv_iload hx hb dX3_longest_37 (lv_at hl 5 rfl) ?_
        refine lv_iload_n hx hb dX3_longest_39 rfl (lv_at hl 1 rfl) ?_
        refine lv_icmp_ge (tgt := 97) hx hb dX3_longest_40 (by decide) (fun c40 => ?_) (fun c40 => ?_)
        · have c40 : a ≤ tr := (nI_leI (a := a) (b := tr) (by omega) (by omega)).mp c40
          have hF : zFd tx a (min 258 (n - a)) a best dist1 := by rw [show d = a from by omega] at hFd; exact hFd
          refine lv_iload_n hx hb dX3_longest_97 rfl (lv_at hl 3 rfl) ?_
          refine lv_iconst (v := 3) hx hb dX3_longest_98 (by decide) ?_
          refine lv_icmp_ge (tgt := 106) hx hb dX3_longest_99 (by decide) (fun c99 => ?_) (fun c99 => ?_)
          · have c99 : 3 ≤ best := (nI_leI (a := 3) (b := best) (by omega) (by omega)).mp c99
            refine lv_iload_n hx hb dX3_longest_106 rfl (lv_at hl 3 rfl) ?_
            have hP9 := hP.sub (ws' := [(h0, .inr (3, [.ref ne, .ref fa, .ref b, .int (nI n), .int dist1])), (b, .inl (cB, 4000, .inl tx)), (ne, .inl (cI, 4096, .inl g)), (fa, .inl (cI, 4000, .inl w))]) [0, 1, 2, 3] rfl
            have hD9 := hD.sub (ws' := [(h0, .inr (3, [.ref ne, .ref fa, .ref b, .int (nI n), .int dist1])), (b, .inl (cB, 4000, .inl tx)), (ne, .inl (cI, 4096, .inl g)), (fa, .inl (cI, 4000, .inl w))]) [0, 1, 2, 3] (by decide) rfl
            exact W.iret (v := (nI best)) hx hb hr (fun t ht hW => ⟨⟨(nI best), dist1, rfl, z_fin hF (Or.inr ⟨by omega, rfl⟩), ⟨by rw [ht]; exact hP9, va_K.moved hW.alike hK, hD9⟩⟩, hS.F ht⟩) hS.2.2 dX3_longest_107
          · have c99 : ¬ (3 ≤ best) := fun h => c99 ((nI_leI (a := 3) (b := best) (by omega) (by omega)).mpr h)
            refine lv_iconst (v := 0) hx hb dX3_longest_102 (by decide) ?_
            refine lv_goto (tgt := 107) hx hb dX3_longest_103 (by decide) ?_
            have hP9 := hP.sub (ws' := [(h0, .inr (3, [.ref ne, .ref fa, .ref b, .int (nI n), .int dist1])), (b, .inl (cB, 4000, .inl tx)), (ne, .inl (cI, 4096, .inl g)), (fa, .inl (cI, 4000, .inl w))]) [0, 1, 2, 3] rfl
            have hD9 := hD.sub (ws' := [(h0, .inr (3, [.ref ne, .ref fa, .ref b, .int (nI n), .int dist1])), (b, .inl (cB, 4000, .inl tx)), (ne, .inl (cI, 4096, .inl g)), (fa, .inl (cI, 4000, .inl w))]) [0, 1, 2, 3] (by decide) rfl
            exact W.iret (v := 0) hx hb hr (fun t ht hW => ⟨⟨0, dist1, rfl, z_fin hF (Or.inl ⟨by omega, rfl⟩), ⟨by rw [ht]; exact hP9, va_K.moved hW.alike hK, hD9⟩⟩, hS.F ht⟩) hS.2.2 dX3_longest_107
        · have c40 : ¬ (a ≤ tr) := fun h => c40 ((nI_leI (a := a) (b := tr) (by omega) (by omega)).mpr h)
          refine lv_iload hx hb dX3_longest_43 (lv_at hl 4 rfl) ?_
          refine lv_iconst (v := (-1)) hx hb dX3_longest_45 (by decide) ?_
          refine lv_icmp_eq (tgt := 97) hx hb dX3_longest_46 (by decide) (fun c46 => ?_) (fun c46 => ?_)
          · have hF : zFd tx a (min 258 (n - a)) a best dist1 := by
              have hno : ∀ j, j < a - d → zhs tx j ≠ zhs tx a := by
                rcases zprv_c tx (zhs tx a) (a - d) with h | ⟨j, hj, hfj, -, -⟩
                · exact h.2
                · exact absurd (hfr.symm.trans c46) (by rw [hfj]; exact z_nm1 (by omega))
              have e := zbst_skips tx a (min 258 (n - a)) d (a - d) (fun m h1 h2 => zml_hash (hno _ (by omega)))
              rw [show d + (a - d) = a from by omega] at e
              unfold zFd at hFd ⊢
              rw [e]
              exact hFd
            refine lv_iload_n hx hb dX3_longest_97 rfl (lv_at hl 3 rfl) ?_
            refine lv_iconst (v := 3) hx hb dX3_longest_98 (by decide) ?_
            refine lv_icmp_ge (tgt := 106) hx hb dX3_longest_99 (by decide) (fun c99 => ?_) (fun c99 => ?_)
            · have c99 : 3 ≤ best := (nI_leI (a := 3) (b := best) (by omega) (by omega)).mp c99
              refine lv_iload_n hx hb dX3_longest_106 rfl (lv_at hl 3 rfl) ?_
              have hP9 := hP.sub (ws' := [(h0, .inr (3, [.ref ne, .ref fa, .ref b, .int (nI n), .int dist1])), (b, .inl (cB, 4000, .inl tx)), (ne, .inl (cI, 4096, .inl g)), (fa, .inl (cI, 4000, .inl w))]) [0, 1, 2, 3] rfl
              have hD9 := hD.sub (ws' := [(h0, .inr (3, [.ref ne, .ref fa, .ref b, .int (nI n), .int dist1])), (b, .inl (cB, 4000, .inl tx)), (ne, .inl (cI, 4096, .inl g)), (fa, .inl (cI, 4000, .inl w))]) [0, 1, 2, 3] (by decide) rfl
              exact W.iret (v := (nI best)) hx hb hr (fun t ht hW => ⟨⟨(nI best), dist1, rfl, z_fin hF (Or.inr ⟨by omega, rfl⟩), ⟨by rw [ht]; exact hP9, va_K.moved hW.alike hK, hD9⟩⟩, hS.F ht⟩) hS.2.2 dX3_longest_107
            · have c99 : ¬ (3 ≤ best) := fun h => c99 ((nI_leI (a := 3) (b := best) (by omega) (by omega)).mpr h)
              refine lv_iconst (v := 0) hx hb dX3_longest_102 (by decide) ?_
              refine lv_goto (tgt := 107) hx hb dX3_longest_103 (by decide) ?_
              have hP9 := hP.sub (ws' := [(h0, .inr (3, [.ref ne, .ref fa, .ref b, .int (nI n), .int dist1])), (b, .inl (cB, 4000, .inl tx)), (ne, .inl (cI, 4096, .inl g)), (fa, .inl (cI, 4000, .inl w))]) [0, 1, 2, 3] rfl
              have hD9 := hD.sub (ws' := [(h0, .inr (3, [.ref ne, .ref fa, .ref b, .int (nI n), .int dist1])), (b, .inl (cB, 4000, .inl tx)), (ne, .inl (cI, 4096, .inl g)), (fa, .inl (cI, 4000, .inl w))]) [0, 1, 2, 3] (by decide) rfl
              exact W.iret (v := 0) hx hb hr (fun t ht hW => ⟨⟨0, dist1, rfl, z_fin hF (Or.inl ⟨by omega, rfl⟩), ⟨by rw [ht]; exact hP9, va_K.moved hW.alike hK, hD9⟩⟩, hS.F ht⟩) hS.2.2 dX3_longest_107
          · obtain ⟨j, hj, hfj, hhj, hbt⟩ : ∃ j, j < a - d ∧ zprv tx (zhs tx a) (a - d) = nI j ∧ zhs tx j = zhs tx a ∧ ∀ i, j < i → i < a - d → zhs tx i ≠ zhs tx a := by
              rcases zprv_c tx (zhs tx a) (a - d) with h | h
              · exact absurd (hfr.trans h.1) c46
              · exact h
            obtain rfl : fr = nI j := hfr.trans hfj
            refine lv_iload_n hx hb dX3_longest_49 rfl (lv_at hl 3 rfl) ?_
            refine lv_iload_n hx hb dX3_longest_50 rfl (lv_at hl 2 rfl) ?_
            refine lv_icmp_ge (tgt := 97) hx hb dX3_longest_51 (by decide) (fun c51 => ?_) (fun c51 => ?_)
            · have c51 : (min 258 (n - a)) ≤ best := (nI_leI (a := (min 258 (n - a))) (b := best) (by omega) (by omega)).mp c51
              have hF : zFd tx a (min 258 (n - a)) a best dist1 := by
                rcases hFd with h | h
                · omega
                · have e := zbst_full tx a (min 258 (n - a)) d (by omega) (by omega) (a - d)
                  rw [show d + (a - d) = a from by omega] at e
                  exact Or.inr (by rw [e]; exact h)
              refine lv_iload_n hx hb dX3_longest_97 rfl (lv_at hl 3 rfl) ?_
              refine lv_iconst (v := 3) hx hb dX3_longest_98 (by decide) ?_
              refine lv_icmp_ge (tgt := 106) hx hb dX3_longest_99 (by decide) (fun c99 => ?_) (fun c99 => ?_)
              · have c99 : 3 ≤ best := (nI_leI (a := 3) (b := best) (by omega) (by omega)).mp c99
                refine lv_iload_n hx hb dX3_longest_106 rfl (lv_at hl 3 rfl) ?_
                have hP9 := hP.sub (ws' := [(h0, .inr (3, [.ref ne, .ref fa, .ref b, .int (nI n), .int dist1])), (b, .inl (cB, 4000, .inl tx)), (ne, .inl (cI, 4096, .inl g)), (fa, .inl (cI, 4000, .inl w))]) [0, 1, 2, 3] rfl
                have hD9 := hD.sub (ws' := [(h0, .inr (3, [.ref ne, .ref fa, .ref b, .int (nI n), .int dist1])), (b, .inl (cB, 4000, .inl tx)), (ne, .inl (cI, 4096, .inl g)), (fa, .inl (cI, 4000, .inl w))]) [0, 1, 2, 3] (by decide) rfl
                exact W.iret (v := (nI best)) hx hb hr (fun t ht hW => ⟨⟨(nI best), dist1, rfl, z_fin hF (Or.inr ⟨by omega, rfl⟩), ⟨by rw [ht]; exact hP9, va_K.moved hW.alike hK, hD9⟩⟩, hS.F ht⟩) hS.2.2 dX3_longest_107
              · have c99 : ¬ (3 ≤ best) := fun h => c99 ((nI_leI (a := 3) (b := best) (by omega) (by omega)).mpr h)
                refine lv_iconst (v := 0) hx hb dX3_longest_102 (by decide) ?_
                refine lv_goto (tgt := 107) hx hb dX3_longest_103 (by decide) ?_
                have hP9 := hP.sub (ws' := [(h0, .inr (3, [.ref ne, .ref fa, .ref b, .int (nI n), .int dist1])), (b, .inl (cB, 4000, .inl tx)), (ne, .inl (cI, 4096, .inl g)), (fa, .inl (cI, 4000, .inl w))]) [0, 1, 2, 3] rfl
                have hD9 := hD.sub (ws' := [(h0, .inr (3, [.ref ne, .ref fa, .ref b, .int (nI n), .int dist1])), (b, .inl (cB, 4000, .inl tx)), (ne, .inl (cI, 4096, .inl g)), (fa, .inl (cI, 4000, .inl w))]) [0, 1, 2, 3] (by decide) rfl
                exact W.iret (v := 0) hx hb hr (fun t ht hW => ⟨⟨0, dist1, rfl, z_fin hF (Or.inl ⟨by omega, rfl⟩), ⟨by rw [ht]; exact hP9, va_K.moved hW.alike hK, hD9⟩⟩, hS.F ht⟩) hS.2.2 dX3_longest_107
            · have c51 : ¬ ((min 258 (n - a)) ≤ best) := fun h => c51 ((nI_leI (a := (min 258 (n - a))) (b := best) (by omega) (by omega)).mpr h)
              refine lv_aload_n hx hb dX3_longest_54 rfl (lv_at hl 0 rfl) ?_
              refine lv_iload hx hb dX3_longest_55 (lv_at hl 4 rfl) ?_
              refine lv_iload_n hx hb dX3_longest_57 rfl (lv_at hl 1 rfl) ?_
              refine lv_iload_n hx hb dX3_longest_58 rfl (lv_at hl 3 rfl) ?_
              refine lv_iload_n hx hb dX3_longest_59 rfl (lv_at hl 2 rfl) ?_
              have hPc := hP.sub (ws' := [(h0, .inr (3, [.ref ne, .ref fa, .ref b, .int (nI n), .int dist1])), (b, .inl (cB, 4000, .inl tx))]) [0, 1] rfl
              have hDc := hD.sub (ws' := [(h0, .inr (3, [.ref ne, .ref fa, .ref b, .int (nI n), .int dist1])), (b, .inl (cB, 4000, .inl tx))]) [0, 1] (by decide) rfl
              have hFc := va_free (wc := [(h0, .inr (3, [.ref ne, .ref fa, .ref b, .int (nI n), .int dist1])), (b, .inl (cB, 4000, .inl tx))]) hD hS hA [0, 1] rfl
              refine va_calli (va_runV (As := [.int (nI j), .int (nI a), .int (nI best), .int (nI (min 258 (n - a)))]) (rest := []) ⟨hx, hb, hml, hown, hts⟩ (k_X3_alike l dC dI cB cI cJ cM h0 ne fa b n tx dist1 j a best (min 258 (n - a)) (by omega) (by omega) (by omega) H.size) (cwV 4 hts gX3_longest_X3_alike rfl rfl rfl (by decide +kernel) ⟨Nat.le_of_ble_eq_true rfl, Nat.le_of_ble_eq_true rfl⟩) ⟨fun a U g mk q => by obtain ⟨q0, q1, qP, qK, qD⟩ := q; exact ⟨q0, q1, qP, va_K.moved (u := U) (U := U.calling g mk a) (Vm.Alike.refl U.vm) qK, qD⟩, va_recv hK hPc (ci := 3) (q0 := 0) rfl rfl, fun U hU hW => ⟨rfl, by rw [hU], by rw [hU]; exact hPc, va_K.moved hW.alike hK, hDc.weaken (fun _ _ _ _ => trivial)⟩⟩ rfl rfl hl.1 rfl (lv_room (Nat.le_of_ble_eq_true rfl)) dX3_longest_60 ⟨(show 0 + 0 ≤ 0 by omega), (show 0 + 0 ≤ 0 by omega)⟩) hS (fun q _ h => hFc q h) hFc (fun r60 u t H1 locs ht hvm hw hB hz1 hk1 hS => ?_)
              obtain ⟨sm, rfl⟩ : ∃ z, z = u := ⟨_, rfl⟩
              have hP1 : va_P (dC, dI) vwCl [(h0, .inr (3, [.ref ne, .ref fa, .ref b, .int (nI n), .int dist1])), (b, .inl (cB, 4000, .inl tx))] H1 := by rw [← ht]; exact hB.1
              have hD1 : va_D (va_A [(h0, .inr (3, [.ref ne, .ref fa, .ref b, .int (nI n), .int dist1])), (b, .inl (cB, 4000, .inl tx))] H.size) [(h0, .inr (3, [.ref ne, .ref fa, .ref b, .int (nI n), .int dist1])), (b, .inl (cB, 4000, .inl tx))] := hB.2.2
              obtain ⟨hP, hD⟩ := va_join (wr := [(ne, .inl (cI, 4096, .inl g)), (fa, .inl (cI, 4000, .inl w))]) (w1 := [(h0, .inr (3, [.ref ne, .ref fa, .ref b, .int (nI n), .int dist1])), (b, .inl (cB, 4000, .inl tx))]) hP hD [0, 1] [2, 3] rfl rfl (by decide) (by decide) hk1 hFc hP1 hD1
              generalize H1 = H at hP hS ⊢
              try dsimp only at hw
              have hP : va_P (dC, dI) vwCl [(ne, .inl (cI, 4096, .inl g)), (fa, .inl (cI, 4000, .inl w)), (h0, .inr (3, [.ref ne, .ref fa, .ref b, .int (nI n), .int dist1])), (b, .inl (cB, 4000, .inl tx))] H := hP
              have hD : va_D A [(ne, .inl (cI, 4096, .inl g)), (fa, .inl (cI, 4000, .inl w)), (h0, .inr (3, [.ref ne, .ref fa, .ref b, .int (nI n), .int dist1])), (b, .inl (cB, 4000, .inl tx))] := hD
              obtain ⟨hr60, hle60, hor60⟩ := hw
              obtain rfl : r60 = nI sm := hr60
              have hsk : zbst tx a (min 258 (n - a)) (d + (a - 1 - j - d)) = zbst tx a (min 258 (n - a)) d := zbst_skips tx a (min 258 (n - a)) d _ (fun m h1 h2 => zml_hash (hbt _ (by omega) (by omega)))
              rw [show d + (a - 1 - j - d) = a - 1 - j from by omega] at hsk
              have hFj : zFd tx a (min 258 (n - a)) (a - 1 - j) best dist1 := by unfold zFd at hFd ⊢; rw [hsk]; exact hFd
              have hst := zFd_step hFj sm (by rw [show a - (a - 1 - j + 1) = j from by omega]; exact hor60)
              rw [show a - 1 - j + 1 = a - j from by omega] at hst
              refine W.eq (g2 := F0 m 63 ls [.int (nI sm)]) rfl ?_
              refine lv_istore (lv' := [(6, .int (nI sm)), (0, .ref h0), (1, .int (nI a)), (2, .int (nI (min 258 (n - a)))), (3, .int (nI best)), (4, .int (nI j)), (5, .int (nI tr))]) hx hb dX3_longest_63 hl (by decide) rfl (fun ls hl => ?_)
              refine lv_iload hx hb dX3_longest_65 (lv_at hl 0 rfl) ?_
              refine lv_iload_n hx hb dX3_longest_67 rfl (lv_at hl 4 rfl) ?_
              refine lv_icmp_le (tgt := 82) hx hb dX3_longest_68 (by decide) (fun c68 => ?_) (fun c68 => ?_)
              · have c68 : sm ≤ best := (nI_leI (a := sm) (b := best) (by omega) (by omega)).mp c68
                refine lv_aload_n hx hb dX3_longest_82 rfl (lv_at hl 1 rfl) ?_
                refine va_get (D := (dC, dI)) (ci := 3) (v := .ref fa) (C := RX3) (T := TX3) (N := 5) hx hb hts (by decide +kernel) hown hK hP 2 rfl rfl 1 (by decide) (hts (.fieldLink RX3 15 "FixedPress$CopyFinder" "farther" "[I") (by decide +kernel)) (fun _ h9 => h9) rfl dX3_longest_83 ?_
                refine lv_iload hx hb dX3_longest_86 (lv_at hl 5 rfl) ?_
                refine va_iald hx hb hK hP 1 1 rfl rfl (vp_in_nI (n := j) (by omega) (by omega)) dX3_longest_88 ?_
                rw [nI_clamp (n := j) (by omega)]
                refine lv_istore (lv' := [(4, .int (w j)), (6, .int (nI sm)), (0, .ref h0), (1, .int (nI a)), (2, .int (nI (min 258 (n - a)))), (3, .int (nI best)), (5, .int (nI tr))]) hx hb dX3_longest_89 hl (by decide) rfl (fun ls hl => ?_)
                refine lv_iinc (v := nI (tr + 1)) (lv' := [(5, .int (nI (tr + 1))), (4, .int (w j)), (6, .int (nI sm)), (0, .ref h0), (1, .int (nI a)), (2, .int (nI (min 258 (n - a)))), (3, .int (nI best))]) hx hb dX3_longest_91 hl (k := 6) rfl (show nI tr + Int32.ofInt 1 = _ from nI_add tr 1) (by decide) rfl (fun ls hl => ?_)
                refine lv_goto (tgt := 37) hx hb dX3_longest_94 (by decide) ?_
                exact ih (a - j) best (w j) (tr + 1) dist1 (by omega) (by omega) (by rw [hwf (by omega) j (by omega), hhj, show a - (a - j) = j from by omega]) (hst.2 (by omega)) (by omega) (by omega) _ _ (hP.sub [2, 3, 0, 1] rfl) (hD.sub [2, 3, 0, 1] (by decide) rfl) hS _ (lv_sub hl [3, 4, 5, 6, 1, 0] rfl)
              · have c68 : ¬ (sm ≤ best) := fun h => c68 ((nI_leI (a := sm) (b := best) (by omega) (by omega)).mpr h)
                refine lv_iload hx hb dX3_longest_71 (lv_at hl 0 rfl) ?_
                refine lv_istore_n (lv' := [(3, .int (nI sm)), (6, .int (nI sm)), (0, .ref h0), (1, .int (nI a)), (2, .int (nI (min 258 (n - a)))), (4, .int (nI j)), (5, .int (nI tr))]) hx hb dX3_longest_73 rfl hl (by decide) rfl (fun ls hl => ?_)
                refine lv_aload_n hx hb dX3_longest_74 rfl (lv_at hl 2 rfl) ?_
                refine lv_iload_n hx hb dX3_longest_75 rfl (lv_at hl 3 rfl) ?_
                refine lv_iload hx hb dX3_longest_76 (lv_at hl 5 rfl) ?_
                refine lv_isub hx hb dX3_longest_78 ?_
                refine lv_topi (fun y_3 ey_3 => ?_)
                obtain rfl : y_3 = nI (a - j) := ey_3.trans (pk_sub (a := a) (b := j) (by omega))
                refine va_put (D := (dC, dI)) (ci := 3) (v := .int (nI (a - j))) (ty := .int) (C := RX3) (T := TX3) (N := 5) hx hb hts (by decide +kernel) tyX3 tyX3_ok nmX3 hown hK hP hD hS 2 rfl rfl 4 (by decide) (hts (.fieldLink RX3 40 "FixedPress$CopyFinder" "distance" "I") (by decide +kernel)) (fun _ h9 => h9) rfl (by decide +kernel) rfl rfl (Nat.le_of_ble_eq_true rfl) dX3_longest_79 (fun H locs hP hD hS => ?_)
                have hP : va_P (dC, dI) vwCl [(ne, .inl (cI, 4096, .inl g)), (fa, .inl (cI, 4000, .inl w)), (h0, .inr (3, [.ref ne, .ref fa, .ref b, .int (nI n), .int (nI (a - j))])), (b, .inl (cB, 4000, .inl tx))] H := hP
                have hD : va_D A [(ne, .inl (cI, 4096, .inl g)), (fa, .inl (cI, 4000, .inl w)), (h0, .inr (3, [.ref ne, .ref fa, .ref b, .int (nI n), .int (nI (a - j))])), (b, .inl (cB, 4000, .inl tx))] := hD
                refine lv_aload_n hx hb dX3_longest_82 rfl (lv_at hl 2 rfl) ?_
                refine va_get (D := (dC, dI)) (ci := 3) (v := .ref fa) (C := RX3) (T := TX3) (N := 5) hx hb hts (by decide +kernel) hown hK hP 2 rfl rfl 1 (by decide) (hts (.fieldLink RX3 15 "FixedPress$CopyFinder" "farther" "[I") (by decide +kernel)) (fun _ h9 => h9) rfl dX3_longest_83 ?_
                refine lv_iload hx hb dX3_longest_86 (lv_at hl 5 rfl) ?_
                refine va_iald hx hb hK hP 1 1 rfl rfl (vp_in_nI (n := j) (by omega) (by omega)) dX3_longest_88 ?_
                rw [nI_clamp (n := j) (by omega)]
                refine lv_istore (lv' := [(4, .int (w j)), (3, .int (nI sm)), (6, .int (nI sm)), (0, .ref h0), (1, .int (nI a)), (2, .int (nI (min 258 (n - a)))), (5, .int (nI tr))]) hx hb dX3_longest_89 hl (by decide) rfl (fun ls hl => ?_)
                refine lv_iinc (v := nI (tr + 1)) (lv' := [(5, .int (nI (tr + 1))), (4, .int (w j)), (3, .int (nI sm)), (6, .int (nI sm)), (0, .ref h0), (1, .int (nI a)), (2, .int (nI (min 258 (n - a))))]) hx hb dX3_longest_91 hl (k := 6) rfl (show nI tr + Int32.ofInt 1 = _ from nI_add tr 1) (by decide) rfl (fun ls hl => ?_)
                refine lv_goto (tgt := 37) hx hb dX3_longest_94 (by decide) ?_
                exact ih (a - j) sm (w j) (tr + 1) (nI (a - j)) (by omega) (by omega) (by rw [hwf (by omega) j (by omega), hhj, show a - (a - j) = j from by omega]) (hst.1 (by omega)) (by omega) (by omega) _ _ (hP.sub [2, 3, 0, 1] rfl) (hD.sub [2, 3, 0, 1] (by decide) rfl) hS _ (lv_sub hl [4, 5, 6, 2, 1, 0] rfl)
    exact cut37 (a - 0 + 1) 0 0 (g (zhs tx a)) 0 dist (by omega) (by omega) (hg (by omega) _ hz9) (Or.inl ⟨rfl, by omega⟩) (by omega) (by omega) _ _ (hP.sub [2, 3, 0, 1] rfl) (hD.sub [2, 3, 0, 1] (by decide) rfl) hS _ (lv_sub hl [4, 5, 3, 2, 1, 0] rfl)
  · have c15 : ¬ (3 ≤ (min 258 (n - a))) := fun h => c15 ((nI_leI (a := 3) (b := (min 258 (n - a))) (by omega) (by omega)).mpr h)
    refine lv_iconst (v := 0) hx hb dX3_longest_18 (by decide) ?_
    have hP9 := hP.sub (ws' := [(h0, .inr (3, [.ref ne, .ref fa, .ref b, .int (nI n), .int dist])), (b, .inl (cB, 4000, .inl tx)), (ne, .inl (cI, 4096, .inl g)), (fa, .inl (cI, 4000, .inl w))]) [0, 1, 2, 3] rfl
    have hD9 := hD.sub (ws' := [(h0, .inr (3, [.ref ne, .ref fa, .ref b, .int (nI n), .int dist])), (b, .inl (cB, 4000, .inl tx)), (ne, .inl (cI, 4096, .inl g)), (fa, .inl (cI, 4000, .inl w))]) [0, 1, 2, 3] (by decide) rfl
    exact W.iret (v := 0) hx hb hr (fun t ht hW => ⟨⟨0, dist, rfl, ⟨by rw [zbst_no (by omega)]; rfl, fun h => absurd (zbst_no (by omega)) h⟩, ⟨by rw [ht]; exact hP9, va_K.moved hW.alike hK, hD9⟩⟩, hS.F ht⟩) hS.2.2 dX3_longest_19
