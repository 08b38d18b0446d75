abbrev rm_X7_end : Room := { frames := 7, cells := 1, slots := 6, locals := 118 }
abbrev wo_X7_end (dC : Nat → ClassId) (dI : Nat → Nat → Nat) (cB cI cJ cM : ClassId) (h0 tp : Nat) (v2 v3 v4 v5 v6 : Value) (tn : Nat) (k : Int32) : va_W := [(h0, .inr (7, [.ref tp, .int (nI tn), v2, v3, v4, v5, v6]))]
abbrev q_X7_end (dC : Nat → ClassId) (dI : Nat → Nat → Nat) (cB cI cJ cM : ClassId) (h0 tp : Nat) (v2 v3 v4 v5 v6 : Value) (tn : Nat) (k : Int32) (A : Nat → Prop) : Array Value → State → Outcome → State → Prop := va_Qi (fun (r : Int32) (u : Unit) => r = k ∧ 0 ≤ k ∧ k ≤ nI tn) (zB dC dI cB cI cJ cM A (fun u : Unit => [(h0, .inr (7, [.ref tp, .int k, v2, v3, v4, v5, v6]))])) A
abbrev x_X7_end (dC : Nat → ClassId) (dI : Nat → Nat → Nat) (cB cI cJ cM : ClassId) (h0 tp : Nat) (v2 v3 v4 v5 v6 : Value) (tn : Nat) (k : Int32) (A : Nat → Prop) : String → State → State → Prop := vx_X (fun (u : String × (Unit)) => (u.1 = "java/lang/IllegalArgumentException") ∧ (k < 0 ∨ nI tn < k)) (fun E (u : String × (Unit)) t => E = u.1 ∧ zB dC dI cB cI cJ cM A (fun u : Unit => [(h0, .inr (7, [.ref tp, .int (nI tn), v2, v3, v4, v5, v6]))]) u.2 t) A
set_option maxHeartbeats 8000000 in
set_option maxRecDepth 100000 in
/-- end -/
theorem k_X7_end (l : Launch) (hl9 : l.stackTraces = false) (dC : Nat → ClassId) (dI : Nat → Nat → Nat) (cB cI cJ cM : ClassId) (h0 tp : Nat) (v2 v3 v4 v5 v6 : Value) (tn : Nat) (k : Int32) (sz : Nat) : vx_Met l yX7_end wsX7_end rm_X7_end (va_Pc [.ref h0, .int k] (fun U => U.heap.size = sz ∧ va_P (dC, dI) vwCl (wo_X7_end dC dI cB cI cJ cM h0 tp v2 v3 v4 v5 v6 tn k) U.heap ∧ va_K (dC, dI) vwCl (zT cB cI cJ cM) U ∧ va_D (fun _ => True) (wo_X7_end dC dI cB cI cJ cM h0 tp v2 v3 v4 v5 v6 tn k) ∧ zE (va_A (wo_X7_end dC dI cB cI cJ cM h0 tp v2 v3 v4 v5 v6 tn k) sz) U)) (q_X7_end dC dI cB cI cJ cM h0 tp v2 v3 v4 v5 v6 tn k (va_A (wo_X7_end dC dI cB cI cJ cM h0 tp v2 v3 v4 v5 v6 tn k) sz)) (x_X7_end dC dI cB cI cJ cM h0 tp v2 v3 v4 v5 v6 tn k (va_A (wo_X7_end dC dI cB cI cJ cM h0 tp v2 v3 v4 v5 v6 tn k) sz)) 0 0 1 6 (va_A (wo_X7_end dC dI cB cI cJ cM h0 tp v2 v3 v4 v5 v6 tn k) sz) := by
  refine vx_ofW (cc := cX7_end) (maxL := 2) (ret := (some .int)) (by decide) rfl ?_
  intro p e s m args below meth c s₁ B hml hEx hv
  obtain ⟨rfl, hsz, hP, hK, hD0, hE⟩ := hv
  have hx := B.exec
  have hb := B.bytes
  have hr := B.returns
  have hts := atoms_spec (ws := wsX7_end) B.pre
  have hown : s.vm.findClass RX7 = some m.cls := findClass_of_methodNamed B.named
  have hlocks := B.notSynchronized
  subst hsz
  have hD := hD0.self (sz := s.heap.size)
  generalize hAe : va_A (wo_X7_end dC dI cB cI cJ cM h0 tp v2 v3 v4 v5 v6 tn k) s.heap.size = A at hD hE ⊢
  have hA : ∀ q : Nat, s.heap.size ≤ q → A q := fun q h => by rw [← hAe]; exact Or.inr h
  have hS : va_S A s.heap s.heap [] := va_S.rf
  have hP : va_P (dC, dI) vwCl [(h0, .inr (7, [.ref tp, .int (nI tn), v2, v3, v4, v5, v6]))] s.heap := hP
  have hD : va_D A [(h0, .inr (7, [.ref tp, .int (nI tn), v2, v3, v4, v5, v6]))] := hD
  have hl := lv_entry ([.ref h0, .int k]) (n := 2) (Nat.le_of_ble_eq_true rfl)
  rw [lg_entry_eq]
  generalize (lg_sl ([.ref h0, .int k]) ++ List.replicate (2 - (lg_sl ([.ref h0, .int k])).length) Slot.unset).toArray = ls at hl ⊢
  have hl : lv_has ls 2 [(0, .ref h0), (1, .int k)] := hl
  refine lv_iload_n hx hb dX7_end_0 rfl (lv_at hl 1 rfl) ?_
  refine lv_iconst (v := 0) hx hb dX7_end_1 (by decide) ?_
  refine lv_aload_n hx hb dX7_end_2 rfl (lv_at hl 0 rfl) ?_
  refine va_get (D := (dC, dI)) (ci := 7) (v := .int (nI tn)) (C := RX7) (T := TX7) (N := 7) hx hb hts (by decide +kernel) hown hK hP 0 rfl rfl 1 (by decide) (hts (.fieldLink RX7 40 "FixedPress" "tapeLength" "I") (by decide +kernel)) (fun _ h9 => h9) rfl dX7_end_3 ?_
  have hPc := hP.sub (ws' := []) [] rfl
  have hDc := hD.sub (ws' := []) [] (by decide) rfl
  have hFc := va_free (wc := []) hD hS hA [] rfl
  refine vx_callv (vx_runS (As := [.int k, .int 0, .int (nI tn)]) (rest := []) ⟨hx, hb, hml, hown, hts⟩ (k_X7_needRange l hl9 dC dI cB cI cJ cM k 0 (nI tn)  s.heap.size) (va_cwS 3 hts gX7_end_X7_needRange rfl rfl rfl (by decide +kernel) ⟨Nat.le_of_ble_eq_true rfl, Nat.le_of_ble_eq_true rfl⟩) ⟨fun a U g mk q => by obtain ⟨q0, q1, qP, qK, qD, qE⟩ := q; exact ⟨q0, q1, qP, va_K.moved (u := U) (U := U.calling g mk a) (Vm.Alike.refl U.vm) qK, qD, zE.blind qE⟩, fun U hU hW => ⟨rfl, by rw [hU], by rw [hU]; exact hPc, va_K.moved hW.alike hK, hDc.weaken (fun _ _ _ _ => trivial), zE.call hE hS hU hW hFc⟩⟩ rfl rfl hl.1 rfl (lv_room (Nat.le_of_ble_eq_true rfl)) dX7_end_6 ⟨(show 0 + 1 ≤ 1 by omega), (show 0 + 6 ≤ 6 by omega)⟩) hS (fun q _ h => hFc q h) hFc (fun q _ h => hFc q h) (fun E8 ce9 q9 ux t H1 locs ht hvm hw hB hz1 hk1 hS hce9 hcv9 hcl9 => ?_) (fun u t H1 locs ht hvm hw hB hz1 hk1 hS => ?_)
  · obtain ⟨E9, ux9⟩ := ux
    obtain ⟨hEe, hB9⟩ := hB
    have hB : True ∧ zB dC dI cB cI cJ cM (va_A [] s.heap.size) (fun u : Unit => []) ux9 t := ⟨trivial, hB9⟩
    have hP1 : va_P (dC, dI) vwCl [] H1 := by rw [← ht]; exact hB.2.1
    have hD1 : va_D (va_A [] s.heap.size) [] := hB.2.2.2
    obtain ⟨hP, hD⟩ := va_join (wr := [(h0, .inr (7, [.ref tp, .int (nI tn), v2, v3, v4, v5, v6]))]) (w1 := []) hP hD [] [0] rfl rfl (by decide) (by decide) hk1 hFc hP1 hD1
    generalize H1 = H at hP hS hce9 ⊢
    try dsimp only at hw hEe
    subst hEe
    have hP : va_P (dC, dI) vwCl [(h0, .inr (7, [.ref tp, .int (nI tn), v2, v3, v4, v5, v6]))] H := hP
    have hD : va_D A [(h0, .inr (7, [.ref tp, .int (nI tn), v2, v3, v4, v5, v6]))] := hD
    have hP9 := hP.sub (ws' := [(h0, .inr (7, [.ref tp, .int (nI tn), v2, v3, v4, v5, v6]))]) [0] rfl
    have hD9 := hD.sub (ws' := [(h0, .inr (7, [.ref tp, .int (nI tn), v2, v3, v4, v5, v6]))]) [0] (by decide) rfl
    exact vx_out (fun x hx => (hEx x hx).elim) hlocks hce9 hcv9 hcl9 (fun t ht9 ha => ⟨(_, ()), ⟨hw.1, hw.2⟩, ⟨rfl, by rw [ht9]; exact hP9, va_K.moved ha hK, hD9⟩, hS.F ht9⟩) hS.2.2 (Nat.le_of_ble_eq_true rfl) (Nat.le_of_ble_eq_true rfl)
  have hP1 : va_P (dC, dI) vwCl [] H1 := by rw [← ht]; exact hB.1
  have hD1 : va_D (va_A [] s.heap.size) [] := hB.2.2
  obtain ⟨hP, hD⟩ := va_join (wr := [(h0, .inr (7, [.ref tp, .int (nI tn), v2, v3, v4, v5, v6]))]) (w1 := []) hP hD [] [0] rfl rfl (by decide) (by decide) hk1 hFc hP1 hD1
  generalize H1 = H at hP hS ⊢
  try dsimp only at hw
  have hP : va_P (dC, dI) vwCl [(h0, .inr (7, [.ref tp, .int (nI tn), v2, v3, v4, v5, v6]))] H := hP
  have hD : va_D A [(h0, .inr (7, [.ref tp, .int (nI tn), v2, v3, v4, v5, v6]))] := hD
  have hw6 := hw
  refine W.eq (g2 := F0 m 9 ls []) rfl ?_
  refine lv_aload_n hx hb dX7_end_9 rfl (lv_at hl 0 rfl) ?_
  refine lv_iload_n hx hb dX7_end_10 rfl (lv_at hl 1 rfl) ?_
  refine va_put (D := (dC, dI)) (ci := 7) (v := .int k) (ty := .int) (C := RX7) (T := TX7) (N := 7) hx hb hts (by decide +kernel) tyX7 tyX7_ok nmX7 hown hK hP hD hS 0 rfl rfl 1 (by decide) (hts (.fieldLink RX7 40 "FixedPress" "tapeLength" "I") (by decide +kernel)) (fun _ h9 => h9) rfl (by decide +kernel) rfl rfl (Nat.le_of_ble_eq_true rfl) dX7_end_11 (fun H locs hP hD hS => ?_)
  have hP : va_P (dC, dI) vwCl [(h0, .inr (7, [.ref tp, .int k, v2, v3, v4, v5, v6]))] H := hP
  have hD : va_D A [(h0, .inr (7, [.ref tp, .int k, v2, v3, v4, v5, v6]))] := hD
  refine lv_iload_n hx hb dX7_end_14 rfl (lv_at hl 1 rfl) ?_
  have hP9 := hP.sub (ws' := [(h0, .inr (7, [.ref tp, .int k, v2, v3, v4, v5, v6]))]) [0] rfl
  have hD9 := hD.sub (ws' := [(h0, .inr (7, [.ref tp, .int k, v2, v3, v4, v5, v6]))]) [0] (by decide) rfl
  exact vx_ret (W.iret (v := k) hx hb hr (fun t ht hW => ⟨⟨k, (), rfl, ⟨rfl, hw6⟩, ⟨by rw [ht]; exact hP9, va_K.moved hW.alike hK, hD9⟩⟩, hS.F ht⟩) hS.2.2 dX7_end_15)

abbrev rm_X7_count : Room := { frames := 7, cells := 1, slots := 6, locals := 118 }
abbrev wo_X7_count (dC : Nat → ClassId) (dI : Nat → Nat → Nat) (cB cI cJ cM : ClassId) (h0 tp : Nat) (v2 v3 v4 v5 v6 : Value) (tn : Int32) (rn k : Int32) : va_W := [(h0, .inr (7, [.ref tp, .int tn, v2, .int rn, v4, v5, v6]))]
abbrev q_X7_count (dC : Nat → ClassId) (dI : Nat → Nat → Nat) (cB cI cJ cM : ClassId) (h0 tp : Nat) (v2 v3 v4 v5 v6 : Value) (tn : Int32) (rn k : Int32) (A : Nat → Prop) : Array Value → State → Outcome → State → Prop := va_Qi (fun (r : Int32) (u : Unit) => (0 ≤ k ∧ k ≤ 1) ∧ r = if k = 0 then tn else rn) (zB dC dI cB cI cJ cM A (fun u : Unit => [(h0, .inr (7, [.ref tp, .int tn, v2, .int rn, v4, v5, v6]))])) A
abbrev x_X7_count (dC : Nat → ClassId) (dI : Nat → Nat → Nat) (cB cI cJ cM : ClassId) (h0 tp : Nat) (v2 v3 v4 v5 v6 : Value) (tn : Int32) (rn k : Int32) (A : Nat → Prop) : String → State → State → Prop := vx_X (fun (u : String × (Unit)) => (u.1 = "java/lang/IllegalArgumentException") ∧ (k < 0 ∨ 1 < k)) (fun E (u : String × (Unit)) t => E = u.1 ∧ zB dC dI cB cI cJ cM A (fun u : Unit => [(h0, .inr (7, [.ref tp, .int tn, v2, .int rn, v4, v5, v6]))]) u.2 t) A
set_option maxHeartbeats 8000000 in
set_option maxRecDepth 100000 in
/-- count -/
theorem k_X7_count (l : Launch) (hl9 : l.stackTraces = false) (dC : Nat → ClassId) (dI : Nat → Nat → Nat) (cB cI cJ cM : ClassId) (h0 tp : Nat) (v2 v3 v4 v5 v6 : Value) (tn : Int32) (rn k : Int32) (sz : Nat) : vx_Met l yX7_count wsX7_count rm_X7_count (va_Pc [.ref h0, .int k] (fun U => U.heap.size = sz ∧ va_P (dC, dI) vwCl (wo_X7_count dC dI cB cI cJ cM h0 tp v2 v3 v4 v5 v6 tn rn k) U.heap ∧ va_K (dC, dI) vwCl (zT cB cI cJ cM) U ∧ va_D (fun _ => True) (wo_X7_count dC dI cB cI cJ cM h0 tp v2 v3 v4 v5 v6 tn rn k) ∧ zE (va_A (wo_X7_count dC dI cB cI cJ cM h0 tp v2 v3 v4 v5 v6 tn rn k) sz) U)) (q_X7_count dC dI cB cI cJ cM h0 tp v2 v3 v4 v5 v6 tn rn k (va_A (wo_X7_count dC dI cB cI cJ cM h0 tp v2 v3 v4 v5 v6 tn rn k) sz)) (x_X7_count dC dI cB cI cJ cM h0 tp v2 v3 v4 v5 v6 tn rn k (va_A (wo_X7_count dC dI cB cI cJ cM h0 tp v2 v3 v4 v5 v6 tn rn k) sz)) 0 0 1 6 (va_A (wo_X7_count dC dI cB cI cJ cM h0 tp v2 v3 v4 v5 v6 tn rn k) sz) := by
  refine vx_ofW (cc := cX7_count) (maxL := 2) (ret := (some .int)) (by decide) rfl ?_
  intro p e s m args below meth c s₁ B hml hEx hv
  obtain ⟨rfl, hsz, hP, hK, hD0, hE⟩ := hv
  have hx := B.exec
  have hb := B.bytes
  have hr := B.returns
  have hts := atoms_spec (ws := wsX7_count) B.pre
  have hown : s.vm.findClass RX7 = some m.cls := findClass_of_methodNamed B.named
  have hlocks := B.notSynchronized
  subst hsz
  have hD := hD0.self (sz := s.heap.size)
  generalize hAe : va_A (wo_X7_count dC dI cB cI cJ cM h0 tp v2 v3 v4 v5 v6 tn rn k) s.heap.size = A at hD hE ⊢
  have hA : ∀ q : Nat, s.heap.size ≤ q → A q := fun q h => by rw [← hAe]; exact Or.inr h
  have hS : va_S A s.heap s.heap [] := va_S.rf
  have hP : va_P (dC, dI) vwCl [(h0, .inr (7, [.ref tp, .int tn, v2, .int rn, v4, v5, v6]))] s.heap := hP
  have hD : va_D A [(h0, .inr (7, [.ref tp, .int tn, v2, .int rn, v4, v5, v6]))] := hD
  have hl := lv_entry ([.ref h0, .int k]) (n := 2) (Nat.le_of_ble_eq_true rfl)
  rw [lg_entry_eq]
  generalize (lg_sl ([.ref h0, .int k]) ++ List.replicate (2 - (lg_sl ([.ref h0, .int k])).length) Slot.unset).toArray = ls at hl ⊢
  have hl : lv_has ls 2 [(0, .ref h0), (1, .int k)] := hl
  refine lv_iload_n hx hb dX7_count_0 rfl (lv_at hl 1 rfl) ?_
  refine lv_iconst (v := 0) hx hb dX7_count_1 (by decide) ?_
  refine lv_iconst (v := 1) hx hb dX7_count_2 (by decide) ?_
  have hPc := hP.sub (ws' := []) [] rfl
  have hDc := hD.sub (ws' := []) [] (by decide) rfl
  have hFc := va_free (wc := []) hD hS hA [] rfl
  refine vx_callv (vx_runS (As := [.int k, .int 0, .int 1]) (rest := []) ⟨hx, hb, hml, hown, hts⟩ (k_X7_needRange l hl9 dC dI cB cI cJ cM k 0 1  s.heap.size) (va_cwS 3 hts gX7_count_X7_needRange rfl rfl rfl (by decide +kernel) ⟨Nat.le_of_ble_eq_true rfl, Nat.le_of_ble_eq_true rfl⟩) ⟨fun a U g mk q => by obtain ⟨q0, q1, qP, qK, qD, qE⟩ := q; exact ⟨q0, q1, qP, va_K.moved (u := U) (U := U.calling g mk a) (Vm.Alike.refl U.vm) qK, qD, zE.blind qE⟩, fun U hU hW => ⟨rfl, by rw [hU], by rw [hU]; exact hPc, va_K.moved hW.alike hK, hDc.weaken (fun _ _ _ _ => trivial), zE.call hE hS hU hW hFc⟩⟩ rfl rfl hl.1 rfl (lv_room (Nat.le_of_ble_eq_true rfl)) dX7_count_3 ⟨(show 0 + 1 ≤ 1 by omega), (show 0 + 6 ≤ 6 by omega)⟩) hS (fun q _ h => hFc q h) hFc (fun q _ h => hFc q h) (fun E8 ce9 q9 ux t H1 locs ht hvm hw hB hz1 hk1 hS hce9 hcv9 hcl9 => ?_) (fun u t H1 locs ht hvm hw hB hz1 hk1 hS => ?_)
  · obtain ⟨E9, ux9⟩ := ux
    obtain ⟨hEe, hB9⟩ := hB
    have hB : True ∧ zB dC dI cB cI cJ cM (va_A [] s.heap.size) (fun u : Unit => []) ux9 t := ⟨trivial, hB9⟩
    have hP1 : va_P (dC, dI) vwCl [] H1 := by rw [← ht]; exact hB.2.1
    have hD1 : va_D (va_A [] s.heap.size) [] := hB.2.2.2
    obtain ⟨hP, hD⟩ := va_join (wr := [(h0, .inr (7, [.ref tp, .int tn, v2, .int rn, v4, v5, v6]))]) (w1 := []) hP hD [] [0] rfl rfl (by decide) (by decide) hk1 hFc hP1 hD1
    generalize H1 = H at hP hS hce9 ⊢
    try dsimp only at hw hEe
    subst hEe
    have hP : va_P (dC, dI) vwCl [(h0, .inr (7, [.ref tp, .int tn, v2, .int rn, v4, v5, v6]))] H := hP
    have hD : va_D A [(h0, .inr (7, [.ref tp, .int tn, v2, .int rn, v4, v5, v6]))] := hD
    have hP9 := hP.sub (ws' := [(h0, .inr (7, [.ref tp, .int tn, v2, .int rn, v4, v5, v6]))]) [0] rfl
    have hD9 := hD.sub (ws' := [(h0, .inr (7, [.ref tp, .int tn, v2, .int rn, v4, v5, v6]))]) [0] (by decide) rfl
    exact vx_out (fun x hx => (hEx x hx).elim) hlocks hce9 hcv9 hcl9 (fun t ht9 ha => ⟨(_, ()), ⟨hw.1, hw.2⟩, ⟨rfl, by rw [ht9]; exact hP9, va_K.moved ha hK, hD9⟩, hS.F ht9⟩) hS.2.2 (Nat.le_of_ble_eq_true rfl) (Nat.le_of_ble_eq_true rfl)
  have hP1 : va_P (dC, dI) vwCl [] H1 := by rw [← ht]; exact hB.1
  have hD1 : va_D (va_A [] s.heap.size) [] := hB.2.2
  obtain ⟨hP, hD⟩ := va_join (wr := [(h0, .inr (7, [.ref tp, .int tn, v2, .int rn, v4, v5, v6]))]) (w1 := []) hP hD [] [0] rfl rfl (by decide) (by decide) hk1 hFc hP1 hD1
  generalize H1 = H at hP hS ⊢
  try dsimp only at hw
  have hP : va_P (dC, dI) vwCl [(h0, .inr (7, [.ref tp, .int tn, v2, .int rn, v4, v5, v6]))] H := hP
  have hD : va_D A [(h0, .inr (7, [.ref tp, .int tn, v2, .int rn, v4, v5, v6]))] := hD
  have hw3 := hw
  refine W.eq (g2 := F0 m 6 ls []) rfl ?_
  refine lv_iload_n hx hb dX7_count_6 rfl (lv_at hl 1 rfl) ?_
  refine lv_if_ne (tgt := 17) hx hb dX7_count_7 (by decide) (fun c7 => ?_) (fun c7 => ?_)
  · refine lv_aload_n hx hb dX7_count_17 rfl (lv_at hl 0 rfl) ?_
    refine va_get (D := (dC, dI)) (ci := 7) (v := .int rn) (C := RX7) (T := TX7) (N := 7) hx hb hts (by decide +kernel) hown hK hP 0 rfl rfl 3 (by decide) (hts (.fieldLink RX7 56 "FixedPress" "resultLength" "I") (by decide +kernel)) (fun _ h9 => h9) rfl dX7_count_18 ?_
    have hP9 := hP.sub (ws' := [(h0, .inr (7, [.ref tp, .int tn, v2, .int rn, v4, v5, v6]))]) [0] rfl
    have hD9 := hD.sub (ws' := [(h0, .inr (7, [.ref tp, .int tn, v2, .int rn, v4, v5, v6]))]) [0] (by decide) rfl
    exact vx_ret (W.iret (v := rn) hx hb hr (fun t ht hW => ⟨⟨rn, (), rfl, ⟨hw3, by simp [c7]⟩, ⟨by rw [ht]; exact hP9, va_K.moved hW.alike hK, hD9⟩⟩, hS.F ht⟩) hS.2.2 dX7_count_21)
  · refine lv_aload_n hx hb dX7_count_10 rfl (lv_at hl 0 rfl) ?_
    refine va_get (D := (dC, dI)) (ci := 7) (v := .int tn) (C := RX7) (T := TX7) (N := 7) hx hb hts (by decide +kernel) hown hK hP 0 rfl rfl 1 (by decide) (hts (.fieldLink RX7 40 "FixedPress" "tapeLength" "I") (by decide +kernel)) (fun _ h9 => h9) rfl dX7_count_11 ?_
    refine lv_goto (tgt := 21) hx hb dX7_count_14 (by decide) ?_
    have hP9 := hP.sub (ws' := [(h0, .inr (7, [.ref tp, .int tn, v2, .int rn, v4, v5, v6]))]) [0] rfl
    have hD9 := hD.sub (ws' := [(h0, .inr (7, [.ref tp, .int tn, v2, .int rn, v4, v5, v6]))]) [0] (by decide) rfl
    exact vx_ret (W.iret (v := tn) hx hb hr (fun t ht hW => ⟨⟨tn, (), rfl, ⟨hw3, by simp [c7]⟩, ⟨by rw [ht]; exact hP9, va_K.moved hW.alike hK, hD9⟩⟩, hS.F ht⟩) hS.2.2 dX7_count_21)

abbrev rm_X7_patch : Room := { frames := 7, cells := 1, slots := 6, locals := 118 }
abbrev wo_X7_patch (dC : Nat → ClassId) (dI : Nat → Nat → Nat) (cB cI cJ cM : ClassId) (h0 tp : Nat) (v2 v3 v4 v5 v6 : Value) (f : Nat → Int32) (tn : Nat) (i v : Int32) : va_W := [(h0, .inr (7, [.ref tp, .int (nI tn), v2, v3, v4, v5, v6])), (tp, .inl (cB, 4000, .inl f))]
abbrev q_X7_patch (dC : Nat → ClassId) (dI : Nat → Nat → Nat) (cB cI cJ cM : ClassId) (h0 tp : Nat) (v2 v3 v4 v5 v6 : Value) (f : Nat → Int32) (tn : Nat) (i v : Int32) (A : Nat → Prop) : Array Value → State → Outcome → State → Prop := va_Qi (fun (r : Int32) (u : Nat) => u < tn ∧ i = nI u ∧ r = f u &&& 255) (zB dC dI cB cI cJ cM A (fun u : Nat => [(h0, .inr (7, [.ref tp, .int (nI tn), v2, v3, v4, v5, v6])), (tp, .inl (cB, 4000, .inl (upd f u v.toInt8.toInt32)))])) A
abbrev x_X7_patch (dC : Nat → ClassId) (dI : Nat → Nat → Nat) (cB cI cJ cM : ClassId) (h0 tp : Nat) (v2 v3 v4 v5 v6 : Value) (f : Nat → Int32) (tn : Nat) (i v : Int32) (A : Nat → Prop) : String → State → State → Prop := vx_X (fun (u : String × (Unit)) => (u.1 = "java/lang/IllegalArgumentException") ∧ (i < 0 ∨ nI tn - 1 < i)) (fun E (u : String × (Unit)) t => E = u.1 ∧ zB dC dI cB cI cJ cM A (fun u : Unit => [(h0, .inr (7, [.ref tp, .int (nI tn), v2, v3, v4, v5, v6])), (tp, .inl (cB, 4000, .inl f))]) u.2 t) A
set_option maxHeartbeats 8000000 in
set_option maxRecDepth 100000 in
/-- patch -/
theorem k_X7_patch (l : Launch) (hl9 : l.stackTraces = false) (dC : Nat → ClassId) (dI : Nat → Nat → Nat) (cB cI cJ cM : ClassId) (h0 tp : Nat) (v2 v3 v4 v5 v6 : Value) (f : Nat → Int32) (tn : Nat) (i v : Int32) (h1 : tn ≤ 4000) (sz : Nat) : vx_Met l yX7_patch wsX7_patch rm_X7_patch (va_Pc [.ref h0, .int i, .int v] (fun U => U.heap.size = sz ∧ va_P (dC, dI) vwCl (wo_X7_patch dC dI cB cI cJ cM h0 tp v2 v3 v4 v5 v6 f tn i v) U.heap ∧ va_K (dC, dI) vwCl (zT cB cI cJ cM) U ∧ va_D (fun _ => True) (wo_X7_patch dC dI cB cI cJ cM h0 tp v2 v3 v4 v5 v6 f tn i v) ∧ zE (va_A (wo_X7_patch dC dI cB cI cJ cM h0 tp v2 v3 v4 v5 v6 f tn i v) sz) U)) (q_X7_patch dC dI cB cI cJ cM h0 tp v2 v3 v4 v5 v6 f tn i v (va_A (wo_X7_patch dC dI cB cI cJ cM h0 tp v2 v3 v4 v5 v6 f tn i v) sz)) (x_X7_patch dC dI cB cI cJ cM h0 tp v2 v3 v4 v5 v6 f tn i v (va_A (wo_X7_patch dC dI cB cI cJ cM h0 tp v2 v3 v4 v5 v6 f tn i v) sz)) 0 0 1 6 (va_A (wo_X7_patch dC dI cB cI cJ cM h0 tp v2 v3 v4 v5 v6 f tn i v) sz) := by
  refine vx_ofW (cc := cX7_patch) (maxL := 4) (ret := (some .int)) (by decide) rfl ?_
  intro p e s m args below meth c s₁ B hml hEx hv
  obtain ⟨rfl, hsz, hP, hK, hD0, hE⟩ := hv
  have hx := B.exec
  have hb := B.bytes
  have hr := B.returns
  have hts := atoms_spec (ws := wsX7_patch) B.pre
  have hown : s.vm.findClass RX7 = some m.cls := findClass_of_methodNamed B.named
  have hlocks := B.notSynchronized
  subst hsz
  have hD := hD0.self (sz := s.heap.size)
  generalize hAe : va_A (wo_X7_patch dC dI cB cI cJ cM h0 tp v2 v3 v4 v5 v6 f tn i v) s.heap.size = A at hD hE ⊢
  have hA : ∀ q : Nat, s.heap.size ≤ q → A q := fun q h => by rw [← hAe]; exact Or.inr h
  have hS : va_S A s.heap s.heap [] := va_S.rf
  have hP : va_P (dC, dI) vwCl [(h0, .inr (7, [.ref tp, .int (nI tn), v2, v3, v4, v5, v6])), (tp, .inl (cB, 4000, .inl f))] s.heap := hP
  have hD : va_D A [(h0, .inr (7, [.ref tp, .int (nI tn), v2, v3, v4, v5, v6])), (tp, .inl (cB, 4000, .inl f))] := hD
  have hl := lv_entry ([.ref h0, .int i, .int v]) (n := 4) (Nat.le_of_ble_eq_true rfl)
  rw [lg_entry_eq]
  generalize (lg_sl ([.ref h0, .int i, .int v]) ++ List.replicate (4 - (lg_sl ([.ref h0, .int i, .int v])).length) Slot.unset).toArray = ls at hl ⊢
  have hl : lv_has ls 4 [(0, .ref h0), (1, .int i), (2, .int v)] := hl
  refine lv_iload_n hx hb dX7_patch_0 rfl (lv_at hl 1 rfl) ?_
  refine lv_iconst (v := 0) hx hb dX7_patch_1 (by decide) ?_
  refine lv_aload_n hx hb dX7_patch_2 rfl (lv_at hl 0 rfl) ?_
  refine va_get (D := (dC, dI)) (ci := 7) (v := .int (nI tn)) (C := RX7) (T := TX7) (N := 7) hx hb hts (by decide +kernel) hown hK hP 0 rfl rfl 1 (by decide) (hts (.fieldLink RX7 40 "FixedPress" "tapeLength" "I") (by decide +kernel)) (fun _ h9 => h9) rfl dX7_patch_3 ?_
  refine lv_iconst (v := 1) hx hb dX7_patch_6 (by decide) ?_
  refine lv_isub hx hb dX7_patch_7 ?_
  have hPc := hP.sub (ws' := []) [] rfl
  have hDc := hD.sub (ws' := []) [] (by decide) rfl
  have hFc := va_free (wc := []) hD hS hA [] rfl
  refine vx_callv (vx_runS (As := [.int i, .int 0, .int ((nI tn) - 1)]) (rest := []) ⟨hx, hb, hml, hown, hts⟩ (k_X7_needRange l hl9 dC dI cB cI cJ cM i 0 (nI tn - 1)  s.heap.size) (va_cwS 3 hts gX7_patch_X7_needRange rfl rfl rfl (by decide +kernel) ⟨Nat.le_of_ble_eq_true rfl, Nat.le_of_ble_eq_true rfl⟩) ⟨fun a U g mk q => by obtain ⟨q0, q1, qP, qK, qD, qE⟩ := q; exact ⟨q0, q1, qP, va_K.moved (u := U) (U := U.calling g mk a) (Vm.Alike.refl U.vm) qK, qD, zE.blind qE⟩, fun U hU hW => ⟨rfl, by rw [hU], by rw [hU]; exact hPc, va_K.moved hW.alike hK, hDc.weaken (fun _ _ _ _ => trivial), zE.call hE hS hU hW hFc⟩⟩ rfl rfl hl.1 rfl (lv_room (Nat.le_of_ble_eq_true rfl)) dX7_patch_8 ⟨(show 0 + 1 ≤ 1 by omega), (show 0 + 6 ≤ 6 by omega)⟩) hS (fun q _ h => hFc q h) hFc (fun q _ h => hFc q h) (fun E8 ce9 q9 ux t H1 locs ht hvm hw hB hz1 hk1 hS hce9 hcv9 hcl9 => ?_) (fun u t H1 locs ht hvm hw hB hz1 hk1 hS => ?_)
  · obtain ⟨E9, ux9⟩ := ux
    obtain ⟨hEe, hB9⟩ := hB
    have hB : True ∧ zB dC dI cB cI cJ cM (va_A [] s.heap.size) (fun u : Unit => []) ux9 t := ⟨trivial, hB9⟩
    have hP1 : va_P (dC, dI) vwCl [] H1 := by rw [← ht]; exact hB.2.1
    have hD1 : va_D (va_A [] s.heap.size) [] := hB.2.2.2
    obtain ⟨hP, hD⟩ := va_join (wr := [(h0, .inr (7, [.ref tp, .int (nI tn), v2, v3, v4, v5, v6])), (tp, .inl (cB, 4000, .inl f))]) (w1 := []) hP hD [] [0, 1] rfl rfl (by decide) (by decide) hk1 hFc hP1 hD1
    generalize H1 = H at hP hS hce9 ⊢
    try dsimp only at hw hEe
    subst hEe
    have hP : va_P (dC, dI) vwCl [(h0, .inr (7, [.ref tp, .int (nI tn), v2, v3, v4, v5, v6])), (tp, .inl (cB, 4000, .inl f))] H := hP
    have hD : va_D A [(h0, .inr (7, [.ref tp, .int (nI tn), v2, v3, v4, v5, v6])), (tp, .inl (cB, 4000, .inl f))] := hD
    have hP9 := hP.sub (ws' := [(h0, .inr (7, [.ref tp, .int (nI tn), v2, v3, v4, v5, v6])), (tp, .inl (cB, 4000, .inl f))]) [0, 1] rfl
    have hD9 := hD.sub (ws' := [(h0, .inr (7, [.ref tp, .int (nI tn), v2, v3, v4, v5, v6])), (tp, .inl (cB, 4000, .inl f))]) [0, 1] (by decide) rfl
    exact vx_out (fun x hx => (hEx x hx).elim) hlocks hce9 hcv9 hcl9 (fun t ht9 ha => ⟨(_, ()), ⟨hw.1, hw.2⟩, ⟨rfl, by rw [ht9]; exact hP9, va_K.moved ha hK, hD9⟩, hS.F ht9⟩) hS.2.2 (Nat.le_of_ble_eq_true rfl) (Nat.le_of_ble_eq_true rfl)
  have hP1 : va_P (dC, dI) vwCl [] H1 := by rw [← ht]; exact hB.1
  have hD1 : va_D (va_A [] s.heap.size) [] := hB.2.2
  obtain ⟨hP, hD⟩ := va_join (wr := [(h0, .inr (7, [.ref tp, .int (nI tn), v2, v3, v4, v5, v6])), (tp, .inl (cB, 4000, .inl f))]) (w1 := []) hP hD [] [0, 1] rfl rfl (by decide) (by decide) hk1 hFc hP1 hD1
  generalize H1 = H at hP hS ⊢
  try dsimp only at hw
  have hP : va_P (dC, dI) vwCl [(h0, .inr (7, [.ref tp, .int (nI tn), v2, v3, v4, v5, v6])), (tp, .inl (cB, 4000, .inl f))] H := hP
  have hD : va_D A [(h0, .inr (7, [.ref tp, .int (nI tn), v2, v3, v4, v5, v6])), (tp, .inl (cB, 4000, .inl f))] := hD
  obtain ⟨j, hj, hij⟩ := z_patch h1 hw.1 hw.2
  rw [hij] at hl
  refine W.eq (g2 := F0 m 11 ls []) rfl ?_
  refine lv_aload_n hx hb dX7_patch_11 rfl (lv_at hl 0 rfl) ?_
  refine va_get (D := (dC, dI)) (ci := 7) (v := .ref tp) (C := RX7) (T := TX7) (N := 7) hx hb hts (by decide +kernel) hown hK hP 0 rfl rfl 0 (by decide) (hts (.fieldLink RX7 9 "FixedPress" "tape" "[B") (by decide +kernel)) (fun _ h9 => h9) rfl dX7_patch_12 ?_
  refine lv_iload_n hx hb dX7_patch_15 rfl (lv_at hl 1 rfl) ?_
  refine va_bald hx hb hK hP 1 0 rfl rfl (vp_in_nI (n := j) (by omega) (by omega)) dX7_patch_16 ?_
  rw [nI_clamp (n := j) (by omega)]
  refine lv_sipush (v := 255) hx hb dX7_patch_17 (by decide) ?_
  refine lv_iand hx hb dX7_patch_20 ?_
  refine lv_istore_n (lv' := [(3, .int ((f j) &&& 255)), (0, .ref h0), (1, .int (nI j)), (2, .int v)]) hx hb dX7_patch_21 rfl hl (by decide) rfl (fun ls hl => ?_)
  refine lv_aload_n hx hb dX7_patch_22 rfl (lv_at hl 1 rfl) ?_
  refine va_get (D := (dC, dI)) (ci := 7) (v := .ref tp) (C := RX7) (T := TX7) (N := 7) hx hb hts (by decide +kernel) hown hK hP 0 rfl rfl 0 (by decide) (hts (.fieldLink RX7 9 "FixedPress" "tape" "[B") (by decide +kernel)) (fun _ h9 => h9) rfl dX7_patch_23 ?_
  refine lv_iload_n hx hb dX7_patch_26 rfl (lv_at hl 2 rfl) ?_
  refine lv_iload_n hx hb dX7_patch_27 rfl (lv_at hl 3 rfl) ?_
  refine lv_i2b hx hb dX7_patch_28 rfl ?_
  refine va_bast hx hb hK hP hD hS 1 0 rfl rfl (vp_in_nI (n := j) (by omega) (by omega)) dX7_patch_29 (fun H locs hP hD hS => ?_)
  rw [nI_clamp (n := j) (by omega)] at hP hD
  have hP : va_P (dC, dI) vwCl [(h0, .inr (7, [.ref tp, .int (nI tn), v2, v3, v4, v5, v6])), (tp, .inl (cB, 4000, .inl (upd f j (vp_nar .byte v.toInt8.toInt32))))] H := hP
  have hD : va_D A [(h0, .inr (7, [.ref tp, .int (nI tn), v2, v3, v4, v5, v6])), (tp, .inl (cB, 4000, .inl (upd f j (vp_nar .byte v.toInt8.toInt32))))] := hD
  rw [pk_vb] at hP hD
  have hP : va_P (dC, dI) vwCl [(h0, .inr (7, [.ref tp, .int (nI tn), v2, v3, v4, v5, v6])), (tp, .inl (cB, 4000, .inl (upd f j v.toInt8.toInt32)))] H := hP
  have hD : va_D A [(h0, .inr (7, [.ref tp, .int (nI tn), v2, v3, v4, v5, v6])), (tp, .inl (cB, 4000, .inl (upd f j v.toInt8.toInt32)))] := hD
  refine lv_iload_n hx hb dX7_patch_30 rfl (lv_at hl 0 rfl) ?_
  have hP9 := hP.sub (ws' := [(h0, .inr (7, [.ref tp, .int (nI tn), v2, v3, v4, v5, v6])), (tp, .inl (cB, 4000, .inl (upd f j v.toInt8.toInt32)))]) [0, 1] rfl
  have hD9 := hD.sub (ws' := [(h0, .inr (7, [.ref tp, .int (nI tn), v2, v3, v4, v5, v6])), (tp, .inl (cB, 4000, .inl (upd f j v.toInt8.toInt32)))]) [0, 1] (by decide) rfl
  exact vx_ret (W.iret (v := ((f j) &&& 255)) hx hb hr (fun t ht hW => ⟨⟨((f j) &&& 255), j, rfl, ⟨hj, hij, rfl⟩, ⟨by rw [ht]; exact hP9, va_K.moved hW.alike hK, hD9⟩⟩, hS.F ht⟩) hS.2.2 dX7_patch_31)

abbrev rm_X7_sum : Room := { frames := 1, cells := 0, slots := 0, locals := 24 }
abbrev wo_X7_sum (dC : Nat → ClassId) (dI : Nat → Nat → Nat) (cB cI cJ cM : ClassId) (h0 tp rp : Nat) (v1 v4 v5 v6 : Value) (f : Nat → Int32) (rn : Nat) : va_W := [(h0, .inr (7, [.ref tp, v1, .ref rp, .int (nI rn), v4, v5, v6])), (rp, .inl (cB, 8192, .inl f))]
abbrev q_X7_sum (dC : Nat → ClassId) (dI : Nat → Nat → Nat) (cB cI cJ cM : ClassId) (h0 tp rp : Nat) (v1 v4 v5 v6 : Value) (f : Nat → Int32) (rn : Nat) (A : Nat → Prop) : Array Value → State → Outcome → State → Prop := va_Qi (fun (r : Int32) (u : Unit) => r = zadler f rn) (zB dC dI cB cI cJ cM A (fun u : Unit => [(h0, .inr (7, [.ref tp, v1, .ref rp, .int (nI rn), v4, v5, v6])), (rp, .inl (cB, 8192, .inl f))])) A
set_option maxHeartbeats 8000000 in
set_option maxRecDepth 100000 in
/-- sum -/
theorem k_X7_sum (l : Launch) (dC : Nat → ClassId) (dI : Nat → Nat → Nat) (cB cI cJ cM : ClassId) (h0 tp rp : Nat) (v1 v4 v5 v6 : Value) (f : Nat → Int32) (rn : Nat) (h1 : rn ≤ 8192) (sz : Nat) : Met l yX7_sum wsX7_sum rm_X7_sum (va_Pc [.ref h0] (fun U => U.heap.size = sz ∧ va_P (dC, dI) vwCl (wo_X7_sum dC dI cB cI cJ cM h0 tp rp v1 v4 v5 v6 f rn) U.heap ∧ va_K (dC, dI) vwCl (zT cB cI cJ cM) U ∧ va_D (fun _ => True) (wo_X7_sum dC dI cB cI cJ cM h0 tp rp v1 v4 v5 v6 f rn))) (q_X7_sum dC dI cB cI cJ cM h0 tp rp v1 v4 v5 v6 f rn (va_A (wo_X7_sum dC dI cB cI cJ cM h0 tp rp v1 v4 v5 v6 f rn) sz)) 0 0 (va_A (wo_X7_sum dC dI cB cI cJ cM h0 tp rp v1 v4 v5 v6 f rn) sz) := by
  refine Met.ofW (cc := cX7_sum) (maxL := 1) (ret := (some .int)) (by decide) rfl ?_
  intro p e s m args below meth c s₁ B hml hv
  obtain ⟨rfl, hsz, hP, hK, hD0⟩ := hv
  have hx := B.exec
  have hb := B.bytes
  have hr := B.returns
  have hts := atoms_spec (ws := wsX7_sum) B.pre
  have hown : s.vm.findClass RX7 = some m.cls := findClass_of_methodNamed B.named
  have hlocks := B.notSynchronized
  subst hsz
  have hD := hD0.self (sz := s.heap.size)
  generalize hAe : va_A (wo_X7_sum dC dI cB cI cJ cM h0 tp rp v1 v4 v5 v6 f rn) s.heap.size = A at hD ⊢
  have hA : ∀ q : Nat, s.heap.size ≤ q → A q := fun q h => by rw [← hAe]; exact Or.inr h
  have hS : va_S A s.heap s.heap [] := va_S.rf
  have hP : va_P (dC, dI) vwCl [(h0, .inr (7, [.ref tp, v1, .ref rp, .int (nI rn), v4, v5, v6])), (rp, .inl (cB, 8192, .inl f))] s.heap := hP
  have hD : va_D A [(h0, .inr (7, [.ref tp, v1, .ref rp, .int (nI rn), v4, v5, v6])), (rp, .inl (cB, 8192, .inl f))] := hD
  have hl := lv_entry ([.ref h0]) (n := 1) (Nat.le_of_ble_eq_true rfl)
  rw [lg_entry_eq]
  generalize (lg_sl ([.ref h0]) ++ List.replicate (1 - (lg_sl ([.ref h0])).length) Slot.unset).toArray = ls at hl ⊢
  have hl : lv_has ls 1 [(0, .ref h0)] := hl
  refine lv_aload_n hx hb dX7_sum_0 rfl (lv_at hl 0 rfl) ?_
  refine va_get (D := (dC, dI)) (ci := 7) (v := .ref rp) (C := RX7) (T := TX7) (N := 7) hx hb hts (by decide +kernel) hown hK hP 0 rfl rfl 2 (by decide) (hts (.fieldLink RX7 13 "FixedPress" "result" "[B") (by decide +kernel)) (fun _ h9 => h9) rfl dX7_sum_1 ?_
  refine lv_aload_n hx hb dX7_sum_4 rfl (lv_at hl 0 rfl) ?_
  refine va_get (D := (dC, dI)) (ci := 7) (v := .int (nI rn)) (C := RX7) (T := TX7) (N := 7) hx hb hts (by decide +kernel) hown hK hP 0 rfl rfl 3 (by decide) (hts (.fieldLink RX7 56 "FixedPress" "resultLength" "I") (by decide +kernel)) (fun _ h9 => h9) rfl dX7_sum_5 ?_
  have hPc := hP.sub (ws' := [(rp, .inl (cB, 8192, .inl f))]) [1] rfl
  have hDc := hD.sub (ws' := [(rp, .inl (cB, 8192, .inl f))]) [1] (by decide) rfl
  have hFc := va_free (wc := [(rp, .inl (cB, 8192, .inl f))]) hD hS hA [1] rfl
  refine va_calli (va_runS (As := [.ref rp, .int (nI rn)]) (rest := []) ⟨hx, hb, hml, hown, hts⟩ (k_X7_adler l dC dI cB cI cJ cM rp 8192 f rn (by omega) (by omega) s.heap.size) (va_cwS 2 hts gX7_sum_X7_adler rfl rfl rfl (by decide +kernel) ⟨Nat.le_of_ble_eq_true rfl, Nat.le_of_ble_eq_true rfl⟩) ⟨fun a U g mk q => by obtain ⟨q0, q1, qP, qK, qD⟩ := q; exact ⟨q0, q1, qP, va_K.moved (u := U) (U := U.calling g mk a) (Vm.Alike.refl U.vm) qK, qD⟩, fun U hU hW => ⟨rfl, by rw [hU], by rw [hU]; exact hPc, va_K.moved hW.alike hK, hDc.weaken (fun _ _ _ _ => trivial)⟩⟩ rfl rfl hl.1 rfl (lv_room (Nat.le_of_ble_eq_true rfl)) dX7_sum_8 ⟨(show 0 + 0 ≤ 0 by omega), (show 0 + 0 ≤ 0 by omega)⟩) hS (fun q _ h => hFc q h) hFc (fun r8 u t H1 locs ht hvm hw hB hz1 hk1 hS => ?_)
  have hP1 : va_P (dC, dI) vwCl [(rp, .inl (cB, 8192, .inl f))] H1 := by rw [← ht]; exact hB.1
  have hD1 : va_D (va_A [(rp, .inl (cB, 8192, .inl f))] s.heap.size) [(rp, .inl (cB, 8192, .inl f))] := hB.2.2
  obtain ⟨hP, hD⟩ := va_join (wr := [(h0, .inr (7, [.ref tp, v1, .ref rp, .int (nI rn), v4, v5, v6]))]) (w1 := [(rp, .inl (cB, 8192, .inl f))]) hP hD [1] [0] rfl rfl (by decide) (by decide) hk1 hFc hP1 hD1
  generalize H1 = H at hP hS ⊢
  try dsimp only at hw
  have hP : va_P (dC, dI) vwCl [(h0, .inr (7, [.ref tp, v1, .ref rp, .int (nI rn), v4, v5, v6])), (rp, .inl (cB, 8192, .inl f))] H := hP
  have hD : va_D A [(h0, .inr (7, [.ref tp, v1, .ref rp, .int (nI rn), v4, v5, v6])), (rp, .inl (cB, 8192, .inl f))] := hD
  have hw8 := hw
  refine W.eq (g2 := F0 m 11 ls [.int r8]) rfl ?_
  have hP9 := hP.sub (ws' := [(h0, .inr (7, [.ref tp, v1, .ref rp, .int (nI rn), v4, v5, v6])), (rp, .inl (cB, 8192, .inl f))]) [0, 1] rfl
  have hD9 := hD.sub (ws' := [(h0, .inr (7, [.ref tp, v1, .ref rp, .int (nI rn), v4, v5, v6])), (rp, .inl (cB, 8192, .inl f))]) [0, 1] (by decide) rfl
  exact W.iret (v := r8) hx hb hr (fun t ht hW => ⟨⟨r8, (), rfl, hw8, ⟨by rw [ht]; exact hP9, va_K.moved hW.alike hK, hD9⟩⟩, hS.F ht⟩) hS.2.2 dX7_sum_11

abbrev rm_X7_word : Room := { frames := 6, cells := 1, slots := 6, locals := 96 }
abbrev wo_X7_word (dC : Nat → ClassId) (dI : Nat → Nat → Nat) (cB cI cJ cM : ClassId) (h0 tp rp : Nat) (v1 v4 v5 v6 : Value) (f : Nat → Int32) (rn : Nat) (i : Int32) : va_W := [(h0, .inr (7, [.ref tp, v1, .ref rp, .int (nI rn), v4, v5, v6])), (rp, .inl (cB, 8192, .inl f))]
abbrev q_X7_word (dC : Nat → ClassId) (dI : Nat → Nat → Nat) (cB cI cJ cM : ClassId) (h0 tp rp : Nat) (v1 v4 v5 v6 : Value) (f : Nat → Int32) (rn : Nat) (i : Int32) (A : Nat → Prop) : Array Value → State → Outcome → State → Prop := va_Ql (fun (r : Int64) (u : Unit) => ∃ j, j < rn ∧ i = nI j ∧ r = zwd f rn j 8) (zB dC dI cB cI cJ cM A (fun u : Unit => [(h0, .inr (7, [.ref tp, v1, .ref rp, .int (nI rn), v4, v5, v6])), (rp, .inl (cB, 8192, .inl f))])) A
abbrev x_X7_word (dC : Nat → ClassId) (dI : Nat → Nat → Nat) (cB cI cJ cM : ClassId) (h0 tp rp : Nat) (v1 v4 v5 v6 : Value) (f : Nat → Int32) (rn : Nat) (i : Int32) (A : Nat → Prop) : String → State → State → Prop := vx_X (fun (u : String × (Unit)) => (u.1 = "java/lang/IndexOutOfBoundsException") ∧ (i < 0 ∨ nI rn ≤ i)) (fun E (u : String × (Unit)) t => E = u.1 ∧ zB dC dI cB cI cJ cM A (fun u : Unit => [(h0, .inr (7, [.ref tp, v1, .ref rp, .int (nI rn), v4, v5, v6])), (rp, .inl (cB, 8192, .inl f))]) u.2 t) A
set_option maxHeartbeats 8000000 in
set_option maxRecDepth 100000 in
/-- word -/
theorem k_X7_word (l : Launch) (hl9 : l.stackTraces = false) (dC : Nat → ClassId) (dI : Nat → Nat → Nat) (cB cI cJ cM : ClassId) (h0 tp rp : Nat) (v1 v4 v5 v6 : Value) (f : Nat → Int32) (rn : Nat) (i : Int32) (h1 : rn ≤ 8192) (sz : Nat) : vx_Met l yX7_word wsX7_word rm_X7_word (va_Pc [.ref h0, .int i] (fun U => U.heap.size = sz ∧ va_P (dC, dI) vwCl (wo_X7_word dC dI cB cI cJ cM h0 tp rp v1 v4 v5 v6 f rn i) U.heap ∧ va_K (dC, dI) vwCl (zT cB cI cJ cM) U ∧ va_D (fun _ => True) (wo_X7_word dC dI cB cI cJ cM h0 tp rp v1 v4 v5 v6 f rn i) ∧ zE (va_A (wo_X7_word dC dI cB cI cJ cM h0 tp rp v1 v4 v5 v6 f rn i) sz) U)) (q_X7_word dC dI cB cI cJ cM h0 tp rp v1 v4 v5 v6 f rn i (va_A (wo_X7_word dC dI cB cI cJ cM h0 tp rp v1 v4 v5 v6 f rn i) sz)) (x_X7_word dC dI cB cI cJ cM h0 tp rp v1 v4 v5 v6 f rn i (va_A (wo_X7_word dC dI cB cI cJ cM h0 tp rp v1 v4 v5 v6 f rn i) sz)) 0 0 1 6 (va_A (wo_X7_word dC dI cB cI cJ cM h0 tp rp v1 v4 v5 v6 f rn i) sz) := by
  refine vx_ofW (cc := cX7_word) (maxL := 5) (ret := (some .long)) (by decide) rfl ?_
  intro p e s m args below meth c s₁ B hml hEx hv
  obtain ⟨rfl, hsz, hP, hK, hD0, hE⟩ := hv
  have hx := B.exec
  have hb := B.bytes
  have hr := B.returns
  have hts := atoms_spec (ws := wsX7_word) B.pre
  have hown : s.vm.findClass RX7 = some m.cls := findClass_of_methodNamed B.named
  have hlocks := B.notSynchronized
  subst hsz
  have hD := hD0.self (sz := s.heap.size)
  generalize hAe : va_A (wo_X7_word dC dI cB cI cJ cM h0 tp rp v1 v4 v5 v6 f rn i) s.heap.size = A at hD hE ⊢
  have hA : ∀ q : Nat, s.heap.size ≤ q → A q := fun q h => by rw [← hAe]; exact Or.inr h
  have hS : va_S A s.heap s.heap [] := va_S.rf
  have hP : va_P (dC, dI) vwCl [(h0, .inr (7, [.ref tp, v1, .ref rp, .int (nI rn), v4, v5, v6])), (rp, .inl (cB, 8192, .inl f))] s.heap := hP
  have hD : va_D A [(h0, .inr (7, [.ref tp, v1, .ref rp, .int (nI rn), v4, v5, v6])), (rp, .inl (cB, 8192, .inl f))] := hD
  have hl := lv_entry ([.ref h0, .int i]) (n := 5) (Nat.le_of_ble_eq_true rfl)
  rw [lg_entry_eq]
  generalize (lg_sl ([.ref h0, .int i]) ++ List.replicate (5 - (lg_sl ([.ref h0, .int i])).length) Slot.unset).toArray = ls at hl ⊢
  have hl : lv_has ls 5 [(0, .ref h0), (1, .int i)] := hl
  refine lv_iload_n hx hb dX7_word_0 rfl (lv_at hl 1 rfl) ?_
  refine lv_if_lt (tgt := 12) hx hb dX7_word_1 (by decide) (fun c1 => ?_) (fun c1 => ?_)
  · have hP9 := hP.sub (ws' := [(h0, .inr (7, [.ref tp, v1, .ref rp, .int (nI rn), v4, v5, v6])), (rp, .inl (cB, 8192, .inl f))]) [0, 1] rfl
    have hD9 := hD.sub (ws' := [(h0, .inr (7, [.ref tp, v1, .ref rp, .int (nI rn), v4, v5, v6])), (rp, .inl (cB, 8192, .inl f))]) [0, 1] (by decide) rfl
    obtain ⟨sa9, hstr9⟩ := zX_X7_80 hE
    exact vx_throwS (own := RX7) (cls := "java/lang/IndexOutOfBoundsException") (names := ["java/lang/RuntimeException", "java/lang/Exception"]) hx hb hl9 hown (by decide +kernel) (by decide +kernel) (hts (.classLink RX7 63 "java/lang/IndexOutOfBoundsException") (by decide +kernel)) (hts (.initialized "java/lang/IndexOutOfBoundsException") (by decide +kernel)) hstr9 (vx_hat (L := vx_atS RX7 67 "java/lang/IndexOutOfBoundsException" ["java/lang/RuntimeException", "java/lang/Exception"]) (B := zBad "java/lang/IndexOutOfBoundsException") (fun w hw => hts w ((by decide +kernel : ∀ w ∈ (vx_atS RX7 67 "java/lang/IndexOutOfBoundsException" ["java/lang/RuntimeException", "java/lang/Exception"]).filter goodWord, w ∈ wsX7_word) w hw)) (by decide +kernel) (zBad_IndexOutOfBoundsException hE)) (by decide +kernel) (zE_U hE) (zE_N hE) hS (hl.1.trans hml.symm) dX7_word_12 dX7_word_15 dX7_word_16 dX7_word_18 dX7_word_21 (fun x hx => (hEx x hx).elim) (Nat.le_of_ble_eq_true rfl) (Nat.le_of_ble_eq_true rfl) (Nat.le_of_ble_eq_true rfl) (Nat.le_of_ble_eq_true rfl) hlocks (fun t ha hsz hk => ⟨("java/lang/IndexOutOfBoundsException", ()), ⟨rfl, Or.inl c1⟩, ⟨rfl, hP9.kept (fun k q hq => hk q.1 (hP9 k q hq).lt), va_K.moved ha hK, hD9⟩, Nat.le_trans hS.1 hsz, fun q h1 h2 => (hk q (Nat.lt_of_lt_of_le h1 hS.1)).trans (hS.2.1 q h1 h2)⟩) hS.2.2 (Nat.le_of_ble_eq_true rfl) (Nat.le_of_ble_eq_true rfl)
  · refine lv_iload_n hx hb dX7_word_4 rfl (lv_at hl 1 rfl) ?_
    refine lv_aload_n hx hb dX7_word_5 rfl (lv_at hl 0 rfl) ?_
    refine va_get (D := (dC, dI)) (ci := 7) (v := .int (nI rn)) (C := RX7) (T := TX7) (N := 7) hx hb hts (by decide +kernel) hown hK hP 0 rfl rfl 3 (by decide) (hts (.fieldLink RX7 56 "FixedPress" "resultLength" "I") (by decide +kernel)) (fun _ h9 => h9) rfl dX7_word_6 ?_
    refine lv_icmp_lt (tgt := 22) hx hb dX7_word_9 (by decide) (fun c9 => ?_) (fun c9 => ?_)
    · obtain ⟨j, hj, hij⟩ := z_word h1 c1 c9
      rw [hij] at hl
      refine lv_lconst (v := 0) hx hb dX7_word_22 (by decide) ?_
      refine lv_lstore_n (lv' := [(2, .long 0), (0, .ref h0), (1, .int (nI j))]) hx hb dX7_word_23 rfl hl (by decide) rfl (fun ls hl => ?_)
      refine lv_iload_n hx hb dX7_word_24 rfl (lv_at hl 2 rfl) ?_
      refine lv_istore (lv' := [(4, .int (nI j)), (2, .long 0), (0, .ref h0), (1, .int (nI j))]) hx hb dX7_word_25 hl (by decide) rfl (fun ls hl => ?_)
      have cut27 : ∀ (fuel : Nat) (k : Nat) (w : Int64), (k ≤ 8) → (w = zwd f rn j k) → (8 - k < fuel) → ∀ (H : Heap) (locs : List Loc), va_P (dC, dI) vwCl [(h0, .inr (7, [.ref tp, v1, .ref rp, .int (nI rn), v4, v5, v6])), (rp, .inl (cB, 8192, .inl f))] H → va_D A [(h0, .inr (7, [.ref tp, v1, .ref rp, .int (nI rn), v4, v5, v6])), (rp, .inl (cB, 8192, .inl f))] → va_S A s.heap H locs → ∀ (ls : Array Slot), lv_has ls 5 [(0, .ref h0), (1, .int (nI j)), (2, .long w), (4, .int (nI (j + k)))] → W p l e (headSpec wsX7_word rm_X7_word).room s m ([.ref h0, .int i] : List Value).toArray below meth c H locs 0 0 (vx_MQ below (q_X7_word dC dI cB cI cJ cM h0 tp rp v1 v4 v5 v6 f rn i A) (x_X7_word dC dI cB cI cJ cM h0 tp rp v1 v4 v5 v6 f rn i A) ([.ref h0, .int i] : List Value).toArray s 0 0 1 6 A) (F0 m 27 ls []) := by
        intro fuel
        induction fuel with
        | zero => intros; omega
        | succ fuel ih =>
          intro k w hk hw2 hfuel H locs hP hD hS ls hl
          refine lv_iload hx hb dX7_word_27 (lv_at hl 3 rfl) ?_
          refine lv_iload_n hx hb dX7_word_29 rfl (lv_at hl 1 rfl) ?_
          refine lv_bipush (v := 8) hx hb dX7_word_30 (by decide) ?_
          refine lv_iadd hx hb dX7_word_32 ?_
          refine lv_topi (fun y_1 ey_1 => ?_)
          obtain rfl : y_1 = nI (j + 8) := ey_1.trans (nI_add j 8)
          refine lv_icmp_ge (tgt := 73) hx hb dX7_word_33 (by decide) (fun c33 => ?_) (fun c33 => ?_)
          · have c33 : (j + 8) ≤ (j + k) := (nI_leI (a := (j + 8)) (b := (j + k)) (by omega) (by omega)).mp c33
            have hk8 : k = 8 := by omega
            rw [hk8] at hw2
            refine lv_lload_n hx hb dX7_word_73 rfl (lv_at hl 2 rfl) ?_
            have hP9 := hP.sub (ws' := [(h0, .inr (7, [.ref tp, v1, .ref rp, .int (nI rn), v4, v5, v6])), (rp, .inl (cB, 8192, .inl f))]) [0, 1] rfl
            have hD9 := hD.sub (ws' := [(h0, .inr (7, [.ref tp, v1, .ref rp, .int (nI rn), v4, v5, v6])), (rp, .inl (cB, 8192, .inl f))]) [0, 1] (by decide) rfl
            exact vx_ret (W.lret (v := w) hx hb hr (fun t ht hW => ⟨⟨w, (), rfl, ⟨j, hj, hij, hw2⟩, ⟨by rw [ht]; exact hP9, va_K.moved hW.alike hK, hD9⟩⟩, hS.F ht⟩) hS.2.2 dX7_word_74)
          · have c33 : ¬ ((j + 8) ≤ (j + k)) := fun h => c33 ((nI_leI (a := (j + 8)) (b := (j + k)) (by omega) (by omega)).mpr h)
            refine lv_lload_n hx hb dX7_word_36 rfl (lv_at hl 2 rfl) ?_
            refine lv_bipush (v := 8) hx hb dX7_word_37 (by decide) ?_
            refine lv_lshl hx hb dX7_word_39 rfl ?_
            refine lv_iload hx hb dX7_word_40 (lv_at hl 3 rfl) ?_
            refine lv_aload_n hx hb dX7_word_42 rfl (lv_at hl 0 rfl) ?_
            refine va_get (D := (dC, dI)) (ci := 7) (v := .int (nI rn)) (C := RX7) (T := TX7) (N := 7) hx hb hts (by decide +kernel) hown hK hP 0 rfl rfl 3 (by decide) (hts (.fieldLink RX7 56 "FixedPress" "resultLength" "I") (by decide +kernel)) (fun _ h9 => h9) rfl dX7_word_43 ?_
            refine lv_icmp_ge (tgt := 63) hx hb dX7_word_46 (by decide) (fun c46 => ?_) (fun c46 => ?_)
            · have c46 : rn ≤ (j + k) := (nI_leI (a := rn) (b := (j + k)) (by omega) (by omega)).mp c46
              refine lv_iconst (v := 0) hx hb dX7_word_63 (by decide) ?_
              refine lv_i2l hx hb dX7_word_64 rfl ?_
              refine lv_lor hx hb dX7_word_65 ?_
              refine lv_lstore_n (lv' := [(2, .long ((w <<< ((8 : Int32).toInt64 &&& 63)) ||| ((0 : Int32).toInt64))), (0, .ref h0), (1, .int (nI j)), (4, .int (nI (j + k)))]) hx hb dX7_word_66 rfl hl (by decide) rfl (fun ls hl => ?_)
              refine lv_iinc (v := nI (j + k + 1)) (lv' := [(4, .int (nI (j + k + 1))), (2, .long ((w <<< ((8 : Int32).toInt64 &&& 63)) ||| ((0 : Int32).toInt64))), (0, .ref h0), (1, .int (nI j))]) hx hb dX7_word_67 hl (k := 3) rfl (show nI (j + k) + Int32.ofInt 1 = _ from nI_add (j + k) 1) (by decide) rfl (fun ls hl => ?_)
              refine lv_goto (tgt := 27) hx hb dX7_word_70 (by decide) ?_
              exact ih (k + 1) ((w <<< ((8 : Int32).toInt64 &&& 63)) ||| ((0 : Int32).toInt64)) (by omega) (by rw [hw2, zwd_0 (by omega)]) (by omega) _ _ hP hD hS _ (lv_sub hl [2, 3, 1, 0] rfl)
            · have c46 : ¬ (rn ≤ (j + k)) := fun h => c46 ((nI_leI (a := rn) (b := (j + k)) (by omega) (by omega)).mpr h)
              refine lv_aload_n hx hb dX7_word_49 rfl (lv_at hl 0 rfl) ?_
              refine va_get (D := (dC, dI)) (ci := 7) (v := .ref rp) (C := RX7) (T := TX7) (N := 7) hx hb hts (by decide +kernel) hown hK hP 0 rfl rfl 2 (by decide) (hts (.fieldLink RX7 13 "FixedPress" "result" "[B") (by decide +kernel)) (fun _ h9 => h9) rfl dX7_word_50 ?_
              refine lv_iload hx hb dX7_word_53 (lv_at hl 3 rfl) ?_
              refine va_bald hx hb hK hP 1 0 rfl rfl (vp_in_nI (n := j + k) (by omega) (by omega)) dX7_word_55 ?_
              rw [nI_clamp (n := j + k) (by omega)]
              refine lv_sipush (v := 255) hx hb dX7_word_56 (by decide) ?_
              refine lv_iand hx hb dX7_word_59 ?_
              refine lv_goto (tgt := 64) hx hb dX7_word_60 (by decide) ?_
              refine lv_i2l hx hb dX7_word_64 rfl ?_
              refine lv_lor hx hb dX7_word_65 ?_
              refine lv_lstore_n (lv' := [(2, .long ((w <<< ((8 : Int32).toInt64 &&& 63)) ||| (((f (j + k)) &&& 255).toInt64))), (0, .ref h0), (1, .int (nI j)), (4, .int (nI (j + k)))]) hx hb dX7_word_66 rfl hl (by decide) rfl (fun ls hl => ?_)
              refine lv_iinc (v := nI (j + k + 1)) (lv' := [(4, .int (nI (j + k + 1))), (2, .long ((w <<< ((8 : Int32).toInt64 &&& 63)) ||| (((f (j + k)) &&& 255).toInt64))), (0, .ref h0), (1, .int (nI j))]) hx hb dX7_word_67 hl (k := 3) rfl (show nI (j + k) + Int32.ofInt 1 = _ from nI_add (j + k) 1) (by decide) rfl (fun ls hl => ?_)
              refine lv_goto (tgt := 27) hx hb dX7_word_70 (by decide) ?_
              exact ih (k + 1) ((w <<< ((8 : Int32).toInt64 &&& 63)) ||| (((f (j + k)) &&& 255).toInt64)) (by omega) (by rw [hw2, zwd_1 (by omega)]) (by omega) _ _ hP hD hS _ (lv_sub hl [2, 3, 1, 0] rfl)
      exact cut27 (8 - 0 + 1) 0 0 (by omega) (rfl) (by omega) _ _ hP hD hS _ (lv_sub hl [2, 3, 1, 0] rfl)
    · have hP9 := hP.sub (ws' := [(h0, .inr (7, [.ref tp, v1, .ref rp, .int (nI rn), v4, v5, v6])), (rp, .inl (cB, 8192, .inl f))]) [0, 1] rfl
      have hD9 := hD.sub (ws' := [(h0, .inr (7, [.ref tp, v1, .ref rp, .int (nI rn), v4, v5, v6])), (rp, .inl (cB, 8192, .inl f))]) [0, 1] (by decide) rfl
      obtain ⟨sa9, hstr9⟩ := zX_X7_80 hE
      exact vx_throwS (own := RX7) (cls := "java/lang/IndexOutOfBoundsException") (names := ["java/lang/RuntimeException", "java/lang/Exception"]) hx hb hl9 hown (by decide +kernel) (by decide +kernel) (hts (.classLink RX7 63 "java/lang/IndexOutOfBoundsException") (by decide +kernel)) (hts (.initialized "java/lang/IndexOutOfBoundsException") (by decide +kernel)) hstr9 (vx_hat (L := vx_atS RX7 67 "java/lang/IndexOutOfBoundsException" ["java/lang/RuntimeException", "java/lang/Exception"]) (B := zBad "java/lang/IndexOutOfBoundsException") (fun w hw => hts w ((by decide +kernel : ∀ w ∈ (vx_atS RX7 67 "java/lang/IndexOutOfBoundsException" ["java/lang/RuntimeException", "java/lang/Exception"]).filter goodWord, w ∈ wsX7_word) w hw)) (by decide +kernel) (zBad_IndexOutOfBoundsException hE)) (by decide +kernel) (zE_U hE) (zE_N hE) hS (hl.1.trans hml.symm) dX7_word_12 dX7_word_15 dX7_word_16 dX7_word_18 dX7_word_21 (fun x hx => (hEx x hx).elim) (Nat.le_of_ble_eq_true rfl) (Nat.le_of_ble_eq_true rfl) (Nat.le_of_ble_eq_true rfl) (Nat.le_of_ble_eq_true rfl) hlocks (fun t ha hsz hk => ⟨("java/lang/IndexOutOfBoundsException", ()), ⟨rfl, Or.inr (Int32.not_lt.mp c9)⟩, ⟨rfl, hP9.kept (fun k q hq => hk q.1 (hP9 k q hq).lt), va_K.moved ha hK, hD9⟩, Nat.le_trans hS.1 hsz, fun q h1 h2 => (hk q (Nat.lt_of_lt_of_le h1 hS.1)).trans (hS.2.1 q h1 h2)⟩) hS.2.2 (Nat.le_of_ble_eq_true rfl) (Nat.le_of_ble_eq_true rfl)

abbrev rm_X7_fill : Room := { frames := 7, cells := 1, slots := 6, locals := 118 }
abbrev wo_X7_fill (dC : Nat → ClassId) (dI : Nat → Nat → Nat) (cB cI cJ cM : ClassId) (h0 tp : Nat) (v2 v3 v4 v5 v6 : Value) (f : Nat → Int32) (tn : Nat) (sd bd k : Int32) : va_W := [(h0, .inr (7, [.ref tp, .int (nI tn), v2, v3, v4, v5, v6])), (tp, .inl (cB, 4000, .inl f))]
abbrev q_X7_fill (dC : Nat → ClassId) (dI : Nat → Nat → Nat) (cB cI cJ cM : ClassId) (h0 tp : Nat) (v2 v3 v4 v5 v6 : Value) (f : Nat → Int32) (tn : Nat) (sd bd k : Int32) (A : Nat → Prop) : Array Value → State → Outcome → State → Prop := va_Qi (fun (r : Int32) (u : Nat) => 1 ≤ bd ∧ bd ≤ 256 ∧ k = nI u ∧ tn + u ≤ 4000 ∧ r = nI (tn + u)) (zB dC dI cB cI cJ cM A (fun u : Nat => [(h0, .inr (7, [.ref tp, .int (nI (tn + u)), v2, v3, v4, v5, v6])), (tp, .inl (cB, 4000, .inl (zfil f tn sd bd u)))])) A
abbrev x_X7_fill (dC : Nat → ClassId) (dI : Nat → Nat → Nat) (cB cI cJ cM : ClassId) (h0 tp : Nat) (v2 v3 v4 v5 v6 : Value) (f : Nat → Int32) (tn : Nat) (sd bd k : Int32) (A : Nat → Prop) : String → State → State → Prop := vx_X (fun (u : String × (Unit)) => (u.1 = "java/lang/IllegalArgumentException" ∨ u.1 = "java/lang/IndexOutOfBoundsException") ∧ ((u.1 = "java/lang/IllegalArgumentException" → (bd < 1 ∨ 256 < bd ∨ k < 0 ∨ 4000 < k)) ∧ (u.1 = "java/lang/IndexOutOfBoundsException" → ((1 ≤ bd ∧ bd ≤ 256) ∧ (0 ≤ k ∧ k ≤ 4000) ∧ nI (4000 - tn) < k)))) (fun E (u : String × (Unit)) t => E = u.1 ∧ zB dC dI cB cI cJ cM A (fun u : Unit => [(h0, .inr (7, [.ref tp, .int (nI tn), v2, v3, v4, v5, v6])), (tp, .inl (cB, 4000, .inl f))]) u.2 t) A
set_option maxHeartbeats 8000000 in
set_option maxRecDepth 100000 in
/-- fill -/
theorem k_X7_fill (l : Launch) (hl9 : l.stackTraces = false) (dC : Nat → ClassId) (dI : Nat → Nat → Nat) (cB cI cJ cM : ClassId) (h0 tp : Nat) (v2 v3 v4 v5 v6 : Value) (f : Nat → Int32) (tn : Nat) (sd bd k : Int32) (h1 : tn ≤ 4000) (sz : Nat) : vx_Met l yX7_fill wsX7_fill rm_X7_fill (va_Pc [.ref h0, .int sd, .int bd, .int k] (fun U => U.heap.size = sz ∧ va_P (dC, dI) vwCl (wo_X7_fill dC dI cB cI cJ cM h0 tp v2 v3 v4 v5 v6 f tn sd bd k) U.heap ∧ va_K (dC, dI) vwCl (zT cB cI cJ cM) U ∧ va_D (fun _ => True) (wo_X7_fill dC dI cB cI cJ cM h0 tp v2 v3 v4 v5 v6 f tn sd bd k) ∧ zE (va_A (wo_X7_fill dC dI cB cI cJ cM h0 tp v2 v3 v4 v5 v6 f tn sd bd k) sz) U)) (q_X7_fill dC dI cB cI cJ cM h0 tp v2 v3 v4 v5 v6 f tn sd bd k (va_A (wo_X7_fill dC dI cB cI cJ cM h0 tp v2 v3 v4 v5 v6 f tn sd bd k) sz)) (x_X7_fill dC dI cB cI cJ cM h0 tp v2 v3 v4 v5 v6 f tn sd bd k (va_A (wo_X7_fill dC dI cB cI cJ cM h0 tp v2 v3 v4 v5 v6 f tn sd bd k) sz)) 0 0 1 6 (va_A (wo_X7_fill dC dI cB cI cJ cM h0 tp v2 v3 v4 v5 v6 f tn sd bd k) sz) := by
  refine vx_ofW (cc := cX7_fill) (maxL := 6) (ret := (some .int)) (by decide) rfl ?_
  intro p e s m args below meth c s₁ B hml hEx hv
  obtain ⟨rfl, hsz, hP, hK, hD0, hE⟩ := hv
  have hx := B.exec
  have hb := B.bytes
  have hr := B.returns
  have hts := atoms_spec (ws := wsX7_fill) B.pre
  have hown : s.vm.findClass RX7 = some m.cls := findClass_of_methodNamed B.named
  have hlocks := B.notSynchronized
  subst hsz
  have hD := hD0.self (sz := s.heap.size)
  generalize hAe : va_A (wo_X7_fill dC dI cB cI cJ cM h0 tp v2 v3 v4 v5 v6 f tn sd bd k) s.heap.size = A at hD hE ⊢
  have hA : ∀ q : Nat, s.heap.size ≤ q → A q := fun q h => by rw [← hAe]; exact Or.inr h
  have hS : va_S A s.heap s.heap [] := va_S.rf
  have hP : va_P (dC, dI) vwCl [(h0, .inr (7, [.ref tp, .int (nI tn), v2, v3, v4, v5, v6])), (tp, .inl (cB, 4000, .inl f))] s.heap := hP
  have hD : va_D A [(h0, .inr (7, [.ref tp, .int (nI tn), v2, v3, v4, v5, v6])), (tp, .inl (cB, 4000, .inl f))] := hD
  have hl := lv_entry ([.ref h0, .int sd, .int bd, .int k]) (n := 6) (Nat.le_of_ble_eq_true rfl)
  rw [lg_entry_eq]
  generalize (lg_sl ([.ref h0, .int sd, .int bd, .int k]) ++ List.replicate (6 - (lg_sl ([.ref h0, .int sd, .int bd, .int k])).length) Slot.unset).toArray = ls at hl ⊢
  have hl : lv_has ls 6 [(0, .ref h0), (1, .int sd), (2, .int bd), (3, .int k)] := hl
  refine lv_iload_n hx hb dX7_fill_0 rfl (lv_at hl 2 rfl) ?_
  refine lv_iconst (v := 1) hx hb dX7_fill_1 (by decide) ?_
  refine lv_sipush (v := 256) hx hb dX7_fill_2 (by decide) ?_
  have hPc := hP.sub (ws' := []) [] rfl
  have hDc := hD.sub (ws' := []) [] (by decide) rfl
  have hFc := va_free (wc := []) hD hS hA [] rfl
  refine vx_callv (vx_runS (As := [.int bd, .int 1, .int 256]) (rest := []) ⟨hx, hb, hml, hown, hts⟩ (k_X7_needRange l hl9 dC dI cB cI cJ cM bd 1 256  s.heap.size) (va_cwS 3 hts gX7_fill_X7_needRange rfl rfl rfl (by decide +kernel) ⟨Nat.le_of_ble_eq_true rfl, Nat.le_of_ble_eq_true rfl⟩) ⟨fun a U g mk q => by obtain ⟨q0, q1, qP, qK, qD, qE⟩ := q; exact ⟨q0, q1, qP, va_K.moved (u := U) (U := U.calling g mk a) (Vm.Alike.refl U.vm) qK, qD, zE.blind qE⟩, fun U hU hW => ⟨rfl, by rw [hU], by rw [hU]; exact hPc, va_K.moved hW.alike hK, hDc.weaken (fun _ _ _ _ => trivial), zE.call hE hS hU hW hFc⟩⟩ rfl rfl hl.1 rfl (lv_room (Nat.le_of_ble_eq_true rfl)) dX7_fill_5 ⟨(show 0 + 1 ≤ 1 by omega), (show 0 + 6 ≤ 6 by omega)⟩) hS (fun q _ h => hFc q h) hFc (fun q _ h => hFc q h) (fun E8 ce9 q9 ux t H1 locs ht hvm hw hB hz1 hk1 hS hce9 hcv9 hcl9 => ?_) (fun u t H1 locs ht hvm hw hB hz1 hk1 hS => ?_)
  · obtain ⟨E9, ux9⟩ := ux
    obtain ⟨hEe, hB9⟩ := hB
    have hB : True ∧ zB dC dI cB cI cJ cM (va_A [] s.heap.size) (fun u : Unit => []) ux9 t := ⟨trivial, hB9⟩
    have hP1 : va_P (dC, dI) vwCl [] H1 := by rw [← ht]; exact hB.2.1
    have hD1 : va_D (va_A [] s.heap.size) [] := hB.2.2.2
    obtain ⟨hP, hD⟩ := va_join (wr := [(h0, .inr (7, [.ref tp, .int (nI tn), v2, v3, v4, v5, v6])), (tp, .inl (cB, 4000, .inl f))]) (w1 := []) hP hD [] [0, 1] rfl rfl (by decide) (by decide) hk1 hFc hP1 hD1
    generalize H1 = H at hP hS hce9 ⊢
    try dsimp only at hw hEe
    subst hEe
    have hP : va_P (dC, dI) vwCl [(h0, .inr (7, [.ref tp, .int (nI tn), v2, v3, v4, v5, v6])), (tp, .inl (cB, 4000, .inl f))] H := hP
    have hD : va_D A [(h0, .inr (7, [.ref tp, .int (nI tn), v2, v3, v4, v5, v6])), (tp, .inl (cB, 4000, .inl f))] := hD
    have hP9 := hP.sub (ws' := [(h0, .inr (7, [.ref tp, .int (nI tn), v2, v3, v4, v5, v6])), (tp, .inl (cB, 4000, .inl f))]) [0, 1] rfl
    have hD9 := hD.sub (ws' := [(h0, .inr (7, [.ref tp, .int (nI tn), v2, v3, v4, v5, v6])), (tp, .inl (cB, 4000, .inl f))]) [0, 1] (by decide) rfl
    exact vx_out (fun x hx => (hEx x hx).elim) hlocks hce9 hcv9 hcl9 (fun t ht9 ha => ⟨(_, ()), ⟨by simp [hw.1], ⟨fun _ => by rcases hw.2 with h | h; exact Or.inl h; exact Or.inr (Or.inl h), fun h => absurd (hw.1.symm.trans h) (by decide)⟩⟩, ⟨rfl, by rw [ht9]; exact hP9, va_K.moved ha hK, hD9⟩, hS.F ht9⟩) hS.2.2 (Nat.le_of_ble_eq_true rfl) (Nat.le_of_ble_eq_true rfl)
  have hP1 : va_P (dC, dI) vwCl [] H1 := by rw [← ht]; exact hB.1
  have hD1 : va_D (va_A [] s.heap.size) [] := hB.2.2
  obtain ⟨hP, hD⟩ := va_join (wr := [(h0, .inr (7, [.ref tp, .int (nI tn), v2, v3, v4, v5, v6])), (tp, .inl (cB, 4000, .inl f))]) (w1 := []) hP hD [] [0, 1] rfl rfl (by decide) (by decide) hk1 hFc hP1 hD1
  generalize H1 = H at hP hS ⊢
  try dsimp only at hw
  have hP : va_P (dC, dI) vwCl [(h0, .inr (7, [.ref tp, .int (nI tn), v2, v3, v4, v5, v6])), (tp, .inl (cB, 4000, .inl f))] H := hP
  have hD : va_D A [(h0, .inr (7, [.ref tp, .int (nI tn), v2, v3, v4, v5, v6])), (tp, .inl (cB, 4000, .inl f))] := hD
  have hb9 := hw
  refine W.eq (g2 := F0 m 8 ls []) rfl ?_
  refine lv_iload_n hx hb dX7_fill_8 rfl (lv_at hl 3 rfl) ?_
  refine lv_iconst (v := 0) hx hb dX7_fill_9 (by decide) ?_
  refine lv_sipush (v := 4000) hx hb dX7_fill_10 (by decide) ?_
  have hPc := hP.sub (ws' := []) [] rfl
  have hDc := hD.sub (ws' := []) [] (by decide) rfl
  have hFc := va_free (wc := []) hD hS hA [] rfl
  refine vx_callv (vx_runS (As := [.int k, .int 0, .int 4000]) (rest := []) ⟨hx, hb, hml, hown, hts⟩ (k_X7_needRange l hl9 dC dI cB cI cJ cM k 0 4000  H.size) (va_cwS 3 hts gX7_fill_X7_needRange rfl rfl rfl (by decide +kernel) ⟨Nat.le_of_ble_eq_true rfl, Nat.le_of_ble_eq_true rfl⟩) ⟨fun a U g mk q => by obtain ⟨q0, q1, qP, qK, qD, qE⟩ := q; exact ⟨q0, q1, qP, va_K.moved (u := U) (U := U.calling g mk a) (Vm.Alike.refl U.vm) qK, qD, zE.blind qE⟩, fun U hU hW => ⟨rfl, by rw [hU], by rw [hU]; exact hPc, va_K.moved hW.alike hK, hDc.weaken (fun _ _ _ _ => trivial), zE.call hE hS hU hW hFc⟩⟩ rfl rfl hl.1 rfl (lv_room (Nat.le_of_ble_eq_true rfl)) dX7_fill_13 ⟨(show 0 + 1 ≤ 1 by omega), (show 0 + 6 ≤ 6 by omega)⟩) hS (fun q _ h => hFc q h) hFc (fun q _ h => hFc q h) (fun E8 ce9 q9 ux t H1 locs ht hvm hw hB hz1 hk1 hS hce9 hcv9 hcl9 => ?_) (fun u t H1 locs ht hvm hw hB hz1 hk1 hS => ?_)
  · obtain ⟨E9, ux9⟩ := ux
    obtain ⟨hEe, hB9⟩ := hB
    have hB : True ∧ zB dC dI cB cI cJ cM (va_A [] H.size) (fun u : Unit => []) ux9 t := ⟨trivial, hB9⟩
    have hP1 : va_P (dC, dI) vwCl [] H1 := by rw [← ht]; exact hB.2.1
    have hD1 : va_D (va_A [] H.size) [] := hB.2.2.2
    obtain ⟨hP, hD⟩ := va_join (wr := [(h0, .inr (7, [.ref tp, .int (nI tn), v2, v3, v4, v5, v6])), (tp, .inl (cB, 4000, .inl f))]) (w1 := []) hP hD [] [0, 1] rfl rfl (by decide) (by decide) hk1 hFc hP1 hD1
    generalize H1 = H at hP hS hce9 ⊢
    try dsimp only at hw hEe
    subst hEe
    have hP : va_P (dC, dI) vwCl [(h0, .inr (7, [.ref tp, .int (nI tn), v2, v3, v4, v5, v6])), (tp, .inl (cB, 4000, .inl f))] H := hP
    have hD : va_D A [(h0, .inr (7, [.ref tp, .int (nI tn), v2, v3, v4, v5, v6])), (tp, .inl (cB, 4000, .inl f))] := hD
    have hP9 := hP.sub (ws' := [(h0, .inr (7, [.ref tp, .int (nI tn), v2, v3, v4, v5, v6])), (tp, .inl (cB, 4000, .inl f))]) [0, 1] rfl
    have hD9 := hD.sub (ws' := [(h0, .inr (7, [.ref tp, .int (nI tn), v2, v3, v4, v5, v6])), (tp, .inl (cB, 4000, .inl f))]) [0, 1] (by decide) rfl
    exact vx_out (fun x hx => (hEx x hx).elim) hlocks hce9 hcv9 hcl9 (fun t ht9 ha => ⟨(_, ()), ⟨by simp [hw.1], ⟨fun _ => by rcases hw.2 with h | h; exact Or.inr (Or.inr (Or.inl h)); exact Or.inr (Or.inr (Or.inr h)), fun h => absurd (hw.1.symm.trans h) (by decide)⟩⟩, ⟨rfl, by rw [ht9]; exact hP9, va_K.moved ha hK, hD9⟩, hS.F ht9⟩) hS.2.2 (Nat.le_of_ble_eq_true rfl) (Nat.le_of_ble_eq_true rfl)
  have hP1 : va_P (dC, dI) vwCl [] H1 := by rw [← ht]; exact hB.1
  have hD1 : va_D (va_A [] H.size) [] := hB.2.2
  obtain ⟨hP, hD⟩ := va_join (wr := [(h0, .inr (7, [.ref tp, .int (nI tn), v2, v3, v4, v5, v6])), (tp, .inl (cB, 4000, .inl f))]) (w1 := []) hP hD [] [0, 1] rfl rfl (by decide) (by decide) hk1 hFc hP1 hD1
  generalize H1 = H at hP hS ⊢
  try dsimp only at hw
  have hP : va_P (dC, dI) vwCl [(h0, .inr (7, [.ref tp, .int (nI tn), v2, v3, v4, v5, v6])), (tp, .inl (cB, 4000, .inl f))] H := hP
  have hD : va_D A [(h0, .inr (7, [.ref tp, .int (nI tn), v2, v3, v4, v5, v6])), (tp, .inl (cB, 4000, .inl f))] := hD
  have hk9 := hw
  refine W.eq (g2 := F0 m 16 ls []) rfl ?_
  refine lv_aload_n hx hb dX7_fill_16 rfl (lv_at hl 0 rfl) ?_
  refine lv_iload_n hx hb dX7_fill_17 rfl (lv_at hl 3 rfl) ?_
  have hPc := hP.sub (ws' := [(h0, .inr (7, [.ref tp, .int (nI tn), v2, v3, v4, v5, v6]))]) [0] rfl
  have hDc := hD.sub (ws' := [(h0, .inr (7, [.ref tp, .int (nI tn), v2, v3, v4, v5, v6]))]) [0] (by decide) rfl
  have hFc := va_free (wc := [(h0, .inr (7, [.ref tp, .int (nI tn), v2, v3, v4, v5, v6]))]) hD hS hA [0] rfl
  refine vx_callv (vx_runV (As := [.int k]) (rest := []) ⟨hx, hb, hml, hown, hts⟩ (k_X7_needRoom l hl9 dC dI cB cI cJ cM h0 tp v2 v3 v4 v5 v6 tn k (by omega) H.size) (cwV 1 hts gX7_fill_X7_needRoom rfl rfl rfl (by decide +kernel) ⟨Nat.le_of_ble_eq_true rfl, Nat.le_of_ble_eq_true rfl⟩) ⟨fun a U g mk q => by obtain ⟨q0, q1, qP, qK, qD, qE⟩ := q; exact ⟨q0, q1, qP, va_K.moved (u := U) (U := U.calling g mk a) (Vm.Alike.refl U.vm) qK, qD, zE.blind qE⟩, va_recv hK hPc (ci := 7) (q0 := 0) rfl rfl, fun U hU hW => ⟨rfl, by rw [hU], by rw [hU]; exact hPc, va_K.moved hW.alike hK, hDc.weaken (fun _ _ _ _ => trivial), zE.call hE hS hU hW hFc⟩⟩ rfl rfl hl.1 rfl (lv_room (Nat.le_of_ble_eq_true rfl)) dX7_fill_18 ⟨(show 0 + 1 ≤ 1 by omega), (show 0 + 6 ≤ 6 by omega)⟩) hS (fun q _ h => hFc q h) hFc (fun q _ h => hFc q h) (fun E8 ce9 q9 ux t H1 locs ht hvm hw hB hz1 hk1 hS hce9 hcv9 hcl9 => ?_) (fun u t H1 locs ht hvm hw hB hz1 hk1 hS => ?_)
  · obtain ⟨E9, ux9⟩ := ux
    obtain ⟨hEe, hB9⟩ := hB
    have hB : True ∧ zB dC dI cB cI cJ cM (va_A [(h0, .inr (7, [.ref tp, .int (nI tn), v2, v3, v4, v5, v6]))] H.size) (fun u : Unit => [(h0, .inr (7, [.ref tp, .int (nI tn), v2, v3, v4, v5, v6]))]) ux9 t := ⟨trivial, hB9⟩
    have hP1 : va_P (dC, dI) vwCl [(h0, .inr (7, [.ref tp, .int (nI tn), v2, v3, v4, v5, v6]))] H1 := by rw [← ht]; exact hB.2.1
    have hD1 : va_D (va_A [(h0, .inr (7, [.ref tp, .int (nI tn), v2, v3, v4, v5, v6]))] H.size) [(h0, .inr (7, [.ref tp, .int (nI tn), v2, v3, v4, v5, v6]))] := hB.2.2.2
    obtain ⟨hP, hD⟩ := va_join (wr := [(tp, .inl (cB, 4000, .inl f))]) (w1 := [(h0, .inr (7, [.ref tp, .int (nI tn), v2, v3, v4, v5, v6]))]) hP hD [0] [1] rfl rfl (by decide) (by decide) hk1 hFc hP1 hD1
    generalize H1 = H at hP hS hce9 ⊢
    try dsimp only at hw hEe
    subst hEe
    have hP : va_P (dC, dI) vwCl [(tp, .inl (cB, 4000, .inl f)), (h0, .inr (7, [.ref tp, .int (nI tn), v2, v3, v4, v5, v6]))] H := hP
    have hD : va_D A [(tp, .inl (cB, 4000, .inl f)), (h0, .inr (7, [.ref tp, .int (nI tn), v2, v3, v4, v5, v6]))] := hD
    have hP9 := hP.sub (ws' := [(h0, .inr (7, [.ref tp, .int (nI tn), v2, v3, v4, v5, v6])), (tp, .inl (cB, 4000, .inl f))]) [1, 0] rfl
    have hD9 := hD.sub (ws' := [(h0, .inr (7, [.ref tp, .int (nI tn), v2, v3, v4, v5, v6])), (tp, .inl (cB, 4000, .inl f))]) [1, 0] (by decide) rfl
    exact vx_out (fun x hx => (hEx x hx).elim) hlocks hce9 hcv9 hcl9 (fun t ht9 ha => ⟨(_, ()), ⟨by simp [hw.1], ⟨fun h => absurd (hw.1.symm.trans h) (by decide), fun _ => ⟨hb9, hk9, hw.2⟩⟩⟩, ⟨rfl, by rw [ht9]; exact hP9, va_K.moved ha hK, hD9⟩, hS.F ht9⟩) hS.2.2 (Nat.le_of_ble_eq_true rfl) (Nat.le_of_ble_eq_true rfl)
  have hP1 : va_P (dC, dI) vwCl [(h0, .inr (7, [.ref tp, .int (nI tn), v2, v3, v4, v5, v6]))] H1 := by rw [← ht]; exact hB.1
  have hD1 : va_D (va_A [(h0, .inr (7, [.ref tp, .int (nI tn), v2, v3, v4, v5, v6]))] H.size) [(h0, .inr (7, [.ref tp, .int (nI tn), v2, v3, v4, v5, v6]))] := hB.2.2
  obtain ⟨hP, hD⟩ := va_join (wr := [(tp, .inl (cB, 4000, .inl f))]) (w1 := [(h0, .inr (7, [.ref tp, .int (nI tn), v2, v3, v4, v5, v6]))]) hP hD [0] [1] rfl rfl (by decide) (by decide) hk1 hFc hP1 hD1
  generalize H1 = H at hP hS ⊢
  try dsimp only at hw
  have hP : va_P (dC, dI) vwCl [(tp, .inl (cB, 4000, .inl f)), (h0, .inr (7, [.ref tp, .int (nI tn), v2, v3, v4, v5, v6]))] H := hP
  have hD : va_D A [(tp, .inl (cB, 4000, .inl f)), (h0, .inr (7, [.ref tp, .int (nI tn), v2, v3, v4, v5, v6]))] := hD
  obtain ⟨kn, hkn, hke⟩ := z_fill h1 hk9.1 hw
  rw [hke] at hl
  refine W.eq (g2 := F0 m 21 ls []) rfl ?_
  refine lv_iload_n hx hb dX7_fill_21 rfl (lv_at hl 1 rfl) ?_
  refine lv_istore (lv' := [(4, .int sd), (0, .ref h0), (1, .int sd), (2, .int bd), (3, .int (nI kn))]) hx hb dX7_fill_22 hl (by decide) rfl (fun ls hl => ?_)
  refine lv_iconst (v := 0) hx hb dX7_fill_24 (by decide) ?_
  refine lv_istore (lv' := [(5, .int 0), (4, .int sd), (0, .ref h0), (1, .int sd), (2, .int bd), (3, .int (nI kn))]) hx hb dX7_fill_25 hl (by decide) rfl (fun ls hl => ?_)
  have cut27 : ∀ (fuel : Nat) (i : Nat) (w : Int32) (f1 : Nat → Int32), (i ≤ kn) → (w = zlcg sd i) → (f1 = zfil f tn sd bd i) → (kn - i < fuel) → ∀ (H : Heap) (locs : List Loc), va_P (dC, dI) vwCl [(h0, .inr (7, [.ref tp, .int (nI (tn + i)), v2, v3, v4, v5, v6])), (tp, .inl (cB, 4000, .inl f1))] H → va_D A [(h0, .inr (7, [.ref tp, .int (nI (tn + i)), v2, v3, v4, v5, v6])), (tp, .inl (cB, 4000, .inl f1))] → va_S A s.heap H locs → ∀ (ls : Array Slot), lv_has ls 6 [(0, .ref h0), (2, .int bd), (3, .int (nI kn)), (4, .int w), (5, .int (nI i))] → W p l e (headSpec wsX7_fill rm_X7_fill).room s m ([.ref h0, .int sd, .int bd, .int k] : List Value).toArray below meth c H locs 0 0 (vx_MQ below (q_X7_fill dC dI cB cI cJ cM h0 tp v2 v3 v4 v5 v6 f tn sd bd k A) (x_X7_fill dC dI cB cI cJ cM h0 tp v2 v3 v4 v5 v6 f tn sd bd k A) ([.ref h0, .int sd, .int bd, .int k] : List Value).toArray s 0 0 1 6 A) (F0 m 27 ls []) := by
    intro fuel
    induction fuel with
    | zero => intros; omega
    | succ fuel ih =>
      intro i w f1 hi hw4 hf1 hfuel H locs hP hD hS ls hl
      refine lv_iload hx hb dX7_fill_27 (lv_at hl 4 rfl) ?_
      refine lv_iload_n hx hb dX7_fill_29 rfl (lv_at hl 2 rfl) ?_
      refine lv_icmp_ge (tgt := 61) hx hb dX7_fill_30 (by decide) (fun c30 => ?_) (fun c30 => ?_)
      · have c30 : kn ≤ i := (nI_leI (a := kn) (b := i) (by omega) (by omega)).mp c30
        have hik : i = kn := by omega
        rw [hf1, hik] at hP hD
        have hP : va_P (dC, dI) vwCl [(h0, .inr (7, [.ref tp, .int (nI (tn + kn)), v2, v3, v4, v5, v6])), (tp, .inl (cB, 4000, .inl (zfil f tn sd bd kn)))] H := hP
        have hD : va_D A [(h0, .inr (7, [.ref tp, .int (nI (tn + kn)), v2, v3, v4, v5, v6])), (tp, .inl (cB, 4000, .inl (zfil f tn sd bd kn)))] := hD
        refine lv_aload_n hx hb dX7_fill_61 rfl (lv_at hl 0 rfl) ?_
        refine va_get (D := (dC, dI)) (ci := 7) (v := .int (nI (tn + kn))) (C := RX7) (T := TX7) (N := 7) hx hb hts (by decide +kernel) hown hK hP 0 rfl rfl 1 (by decide) (hts (.fieldLink RX7 40 "FixedPress" "tapeLength" "I") (by decide +kernel)) (fun _ h9 => h9) rfl dX7_fill_62 ?_
        have hP9 := hP.sub (ws' := [(h0, .inr (7, [.ref tp, .int (nI (tn + kn)), v2, v3, v4, v5, v6])), (tp, .inl (cB, 4000, .inl (zfil f tn sd bd kn)))]) [0, 1] rfl
        have hD9 := hD.sub (ws' := [(h0, .inr (7, [.ref tp, .int (nI (tn + kn)), v2, v3, v4, v5, v6])), (tp, .inl (cB, 4000, .inl (zfil f tn sd bd kn)))]) [0, 1] (by decide) rfl
        exact vx_ret (W.iret (v := (nI (tn + kn))) hx hb hr (fun t ht hW => ⟨⟨(nI (tn + kn)), kn, rfl, ⟨hb9.1, hb9.2, hke, by omega, rfl⟩, ⟨by rw [ht]; exact hP9, va_K.moved hW.alike hK, hD9⟩⟩, hS.F ht⟩) hS.2.2 dX7_fill_65)
      · have c30 : ¬ (kn ≤ i) := fun h => c30 ((nI_leI (a := kn) (b := i) (by omega) (by omega)).mpr h)
        refine lv_iload hx hb dX7_fill_33 (lv_at hl 3 rfl) ?_
        refine lv_ldc hx hb hown (hts (.constant RX7 48 (1103515245)) (by decide +kernel)) dX7_fill_35 ?_
        refine lv_imul hx hb dX7_fill_37 ?_
        refine lv_sipush (v := 12345) hx hb dX7_fill_38 (by decide) ?_
        refine lv_iadd hx hb dX7_fill_41 ?_
        refine lv_istore (lv' := [(4, .int ((w * 1103515245) + 12345)), (0, .ref h0), (2, .int bd), (3, .int (nI kn)), (5, .int (nI i))]) hx hb dX7_fill_42 hl (by decide) rfl (fun ls hl => ?_)
        refine lv_aload_n hx hb dX7_fill_44 rfl (lv_at hl 1 rfl) ?_
        refine lv_iload hx hb dX7_fill_45 (lv_at hl 0 rfl) ?_
        refine lv_bipush (v := 16) hx hb dX7_fill_47 (by decide) ?_
        refine lv_iushr hx hb dX7_fill_49 rfl ?_
        refine lv_iload_n hx hb dX7_fill_50 rfl (lv_at hl 2 rfl) ?_
        refine lv_irem hx hb dX7_fill_51 (by intro h; subst h; exact absurd hb9.1 (by decide)) ?_
        have hPc := hP.sub (ws' := [(h0, .inr (7, [.ref tp, .int (nI (tn + i)), v2, v3, v4, v5, v6])), (tp, .inl (cB, 4000, .inl f1))]) [0, 1] rfl
        have hDc := hD.sub (ws' := [(h0, .inr (7, [.ref tp, .int (nI (tn + i)), v2, v3, v4, v5, v6])), (tp, .inl (cB, 4000, .inl f1))]) [0, 1] (by decide) rfl
        have hFc := va_free (wc := [(h0, .inr (7, [.ref tp, .int (nI (tn + i)), v2, v3, v4, v5, v6])), (tp, .inl (cB, 4000, .inl f1))]) hD hS hA [0, 1] rfl
        refine va_callv (va_runV (As := [.int (((((w * 1103515245) + 12345).toUInt32 >>> ((16 : Int32).toUInt32 &&& Int32.toUInt32 31)).toInt32) - ((((w * 1103515245) + 12345).toUInt32 >>> ((16 : Int32).toUInt32 &&& Int32.toUInt32 31)).toInt32) / bd * bd)]) (rest := []) ⟨hx, hb, hml, hown, hts⟩ (k_X7_appendByte l dC dI cB cI cJ cM h0 tp v2 v3 v4 v5 v6 f1 (tn + i) (((((w * 1103515245) + 12345).toUInt32 >>> ((16 : Int32).toUInt32 &&& Int32.toUInt32 31)).toInt32) - ((((w * 1103515245) + 12345).toUInt32 >>> ((16 : Int32).toUInt32 &&& Int32.toUInt32 31)).toInt32) / bd * bd) (by omega) H.size) (cwV 1 hts gX7_fill_X7_appendByte rfl rfl rfl (by decide +kernel) ⟨Nat.le_of_ble_eq_true rfl, Nat.le_of_ble_eq_true rfl⟩) ⟨fun a U g mk q => by obtain ⟨q0, q1, qP, qK, qD⟩ := q; exact ⟨q0, q1, qP, va_K.moved (u := U) (U := U.calling g mk a) (Vm.Alike.refl U.vm) qK, qD⟩, va_recv hK hPc (ci := 7) (q0 := 0) rfl rfl, fun U hU hW => ⟨rfl, by rw [hU], by rw [hU]; exact hPc, va_K.moved hW.alike hK, hDc.weaken (fun _ _ _ _ => trivial)⟩⟩ rfl rfl hl.1 rfl (lv_room (Nat.le_of_ble_eq_true rfl)) dX7_fill_52 ⟨(show 0 + 0 ≤ 1 by omega), (show 0 + 0 ≤ 6 by omega)⟩) hS (fun q _ h => hFc q h) hFc (fun u t H1 locs ht hvm hw hB hz1 hk1 hS => ?_)
        have hP1 : va_P (dC, dI) vwCl [(h0, .inr (7, [.ref tp, .int (nI ((tn + i) + 1)), v2, v3, v4, v5, v6])), (tp, .inl (cB, 4000, .inl (upd f1 (tn + i) (((((w * 1103515245) + 12345).toUInt32 >>> ((16 : Int32).toUInt32 &&& Int32.toUInt32 31)).toInt32) - ((((w * 1103515245) + 12345).toUInt32 >>> ((16 : Int32).toUInt32 &&& Int32.toUInt32 31)).toInt32) / bd * bd).toInt8.toInt32)))] H1 := by rw [← ht]; exact hB.1
        have hD1 : va_D (va_A [(h0, .inr (7, [.ref tp, .int (nI (tn + i)), v2, v3, v4, v5, v6])), (tp, .inl (cB, 4000, .inl f1))] H.size) [(h0, .inr (7, [.ref tp, .int (nI ((tn + i) + 1)), v2, v3, v4, v5, v6])), (tp, .inl (cB, 4000, .inl (upd f1 (tn + i) (((((w * 1103515245) + 12345).toUInt32 >>> ((16 : Int32).toUInt32 &&& Int32.toUInt32 31)).toInt32) - ((((w * 1103515245) + 12345).toUInt32 >>> ((16 : Int32).toUInt32 &&& Int32.toUInt32 31)).toInt32) / bd * bd).toInt8.toInt32)))] := hB.2.2
        obtain ⟨hP, hD⟩ := va_join (wr := []) (w1 := [(h0, .inr (7, [.ref tp, .int (nI ((tn + i) + 1)), v2, v3, v4, v5, v6])), (tp, .inl (cB, 4000, .inl (upd f1 (tn + i) (((((w * 1103515245) + 12345).toUInt32 >>> ((16 : Int32).toUInt32 &&& Int32.toUInt32 31)).toInt32) - ((((w * 1103515245) + 12345).toUInt32 >>> ((16 : Int32).toUInt32 &&& Int32.toUInt32 31)).toInt32) / bd * bd).toInt8.toInt32)))]) hP hD [0, 1] [] rfl rfl (by decide) (by decide) hk1 hFc hP1 hD1
        generalize H1 = H at hP hS ⊢
        try dsimp only at hw
        have hP : va_P (dC, dI) vwCl [(h0, .inr (7, [.ref tp, .int (nI ((tn + i) + 1)), v2, v3, v4, v5, v6])), (tp, .inl (cB, 4000, .inl (upd f1 (tn + i) (((((w * 1103515245) + 12345).toUInt32 >>> ((16 : Int32).toUInt32 &&& Int32.toUInt32 31)).toInt32) - ((((w * 1103515245) + 12345).toUInt32 >>> ((16 : Int32).toUInt32 &&& Int32.toUInt32 31)).toInt32) / bd * bd).toInt8.toInt32)))] H := hP
        have hD : va_D A [(h0, .inr (7, [.ref tp, .int (nI ((tn + i) + 1)), v2, v3, v4, v5, v6])), (tp, .inl (cB, 4000, .inl (upd f1 (tn + i) (((((w * 1103515245) + 12345).toUInt32 >>> ((16 : Int32).toUInt32 &&& Int32.toUInt32 31)).toInt32) - ((((w * 1103515245) + 12345).toUInt32 >>> ((16 : Int32).toUInt32 &&& Int32.toUInt32 31)).toInt32) / bd * bd).toInt8.toInt32)))] := hD
        have e9 : (tn + i) + 1 = tn + (i + 1) := by omega
        rw [e9] at hP hD
        have hP : va_P (dC, dI) vwCl [(h0, .inr (7, [.ref tp, .int (nI (tn + (i + 1))), v2, v3, v4, v5, v6])), (tp, .inl (cB, 4000, .inl (upd f1 (tn + i) (((((w * 1103515245) + 12345).toUInt32 >>> ((16 : Int32).toUInt32 &&& Int32.toUInt32 31)).toInt32) - ((((w * 1103515245) + 12345).toUInt32 >>> ((16 : Int32).toUInt32 &&& Int32.toUInt32 31)).toInt32) / bd * bd).toInt8.toInt32)))] H := hP
        have hD : va_D A [(h0, .inr (7, [.ref tp, .int (nI (tn + (i + 1))), v2, v3, v4, v5, v6])), (tp, .inl (cB, 4000, .inl (upd f1 (tn + i) (((((w * 1103515245) + 12345).toUInt32 >>> ((16 : Int32).toUInt32 &&& Int32.toUInt32 31)).toInt32) - ((((w * 1103515245) + 12345).toUInt32 >>> ((16 : Int32).toUInt32 &&& Int32.toUInt32 31)).toInt32) / bd * bd).toInt8.toInt32)))] := hD
        refine W.eq (g2 := F0 m 55 ls []) rfl ?_
        refine lv_iinc (v := nI (i + 1)) (lv' := [(5, .int (nI (i + 1))), (4, .int ((w * 1103515245) + 12345)), (0, .ref h0), (2, .int bd), (3, .int (nI kn))]) hx hb dX7_fill_55 hl (k := 4) rfl (show nI i + Int32.ofInt 1 = _ from nI_add i 1) (by decide) rfl (fun ls hl => ?_)
        refine lv_goto (tgt := 27) hx hb dX7_fill_58 (by decide) ?_
        exact ih (i + 1) ((w * 1103515245) + 12345) (upd f1 (tn + i) (((((w * 1103515245) + 12345).toUInt32 >>> ((16 : Int32).toUInt32 &&& Int32.toUInt32 31)).toInt32) - ((((w * 1103515245) + 12345).toUInt32 >>> ((16 : Int32).toUInt32 &&& Int32.toUInt32 31)).toInt32) / bd * bd).toInt8.toInt32) (by omega) (by subst hw4; rfl) (by subst hw4; subst hf1; rfl) (by omega) _ _ hP hD hS _ (lv_sub hl [2, 3, 4, 1, 0] rfl)
  exact cut27 (kn - 0 + 1) 0 sd f (by omega) (rfl) (rfl) (by omega) _ _ (hP.sub [1, 0] rfl) (hD.sub [1, 0] (by decide) rfl) hS _ (lv_sub hl [2, 4, 5, 1, 0] rfl)
