abbrev rm_X9_end : Room := { frames := 1, cells := 0, slots := 0, locals := 22 }
abbrev wo_X9_end (dC : Nat → ClassId) (dI : Nat → Nat → Nat) (cB cI cJ cM : ClassId) (h0 : Nat) (tn kd k : Int32) (m0 m1 m2 m3 m4 m5 m6 m7 m8 m9 m10 m11 m12 m13 m14 m15 m16 m17 m18 m19 m21 m22 : Value) : va_W := [(h0, .inr (9, [m0, m1, m2, m3, m4, m5, m6, m7, m8, m9, m10, m11, m12, m13, m14, m15, m16, m17, m18, m19, .int tn, m21, m22, .int kd]))]
abbrev q_X9_end (dC : Nat → ClassId) (dI : Nat → Nat → Nat) (cB cI cJ cM : ClassId) (h0 : Nat) (tn kd k : Int32) (m0 m1 m2 m3 m4 m5 m6 m7 m8 m9 m10 m11 m12 m13 m14 m15 m16 m17 m18 m19 m21 m22 : Value) (A : Nat → Prop) : Array Value → State → Outcome → State → Prop := va_Qi (fun (r : Int32) (u : Int32 × Int32) => (0 ≤ k ∧ k ≤ tn ∧ r = k ∧ u = (k, 0)) ∨ ((k < 0 ∨ tn < k) ∧ u = (tn, 1))) (zB dC dI cB cI cJ cM A (fun u : Int32 × Int32 => [(h0, .inr (9, [m0, m1, m2, m3, m4, m5, m6, m7, m8, m9, m10, m11, m12, m13, m14, m15, m16, m17, m18, m19, .int u.1, m21, m22, .int u.2]))])) A
set_option maxHeartbeats 8000000 in
set_option maxRecDepth 100000 in
/-- end of the reference -/
theorem k_X9_end (l : Launch) (dC : Nat → ClassId) (dI : Nat → Nat → Nat) (cB cI cJ cM : ClassId) (h0 : Nat) (tn kd k : Int32) (m0 m1 m2 m3 m4 m5 m6 m7 m8 m9 m10 m11 m12 m13 m14 m15 m16 m17 m18 m19 m21 m22 : Value) (sz : Nat) : Met l yX9_end wsX9_end rm_X9_end (va_Pc [.ref h0, .int k] (fun U => U.heap.size = sz ∧ va_P (dC, dI) vwCl (wo_X9_end dC dI cB cI cJ cM h0 tn kd k m0 m1 m2 m3 m4 m5 m6 m7 m8 m9 m10 m11 m12 m13 m14 m15 m16 m17 m18 m19 m21 m22) U.heap ∧ va_K (dC, dI) vwCl (zT cB cI cJ cM) U ∧ va_D (fun _ => True) (wo_X9_end dC dI cB cI cJ cM h0 tn kd k m0 m1 m2 m3 m4 m5 m6 m7 m8 m9 m10 m11 m12 m13 m14 m15 m16 m17 m18 m19 m21 m22))) (q_X9_end dC dI cB cI cJ cM h0 tn kd k m0 m1 m2 m3 m4 m5 m6 m7 m8 m9 m10 m11 m12 m13 m14 m15 m16 m17 m18 m19 m21 m22 (va_A (wo_X9_end dC dI cB cI cJ cM h0 tn kd k m0 m1 m2 m3 m4 m5 m6 m7 m8 m9 m10 m11 m12 m13 m14 m15 m16 m17 m18 m19 m21 m22) sz)) 0 0 (va_A (wo_X9_end dC dI cB cI cJ cM h0 tn kd k m0 m1 m2 m3 m4 m5 m6 m7 m8 m9 m10 m11 m12 m13 m14 m15 m16 m17 m18 m19 m21 m22) sz) := by
  refine Met.ofW (cc := cX9_end) (maxL := 2) (ret := (some .int)) (by decide) rfl ?_
  intro p e s m args below meth c s₁ B hml hv
  obtain ⟨rfl, hsz, hP, hK, hD0⟩ := hv
  have hx := B.exec
  have hb := B.bytes
  have hr := B.returns
  have hts := atoms_spec (ws := wsX9_end) B.pre
  have hown : s.vm.findClass RX9 = some m.cls := findClass_of_methodNamed B.named
  have hlocks := B.notSynchronized
  subst hsz
  have hD := hD0.self (sz := s.heap.size)
  generalize hAe : va_A (wo_X9_end dC dI cB cI cJ cM h0 tn kd k m0 m1 m2 m3 m4 m5 m6 m7 m8 m9 m10 m11 m12 m13 m14 m15 m16 m17 m18 m19 m21 m22) s.heap.size = A at hD ⊢
  have hA : ∀ q : Nat, s.heap.size ≤ q → A q := fun q h => by rw [← hAe]; exact Or.inr h
  have hS : va_S A s.heap s.heap [] := va_S.rf
  have hP : va_P (dC, dI) vwCl [(h0, .inr (9, [m0, m1, m2, m3, m4, m5, m6, m7, m8, m9, m10, m11, m12, m13, m14, m15, m16, m17, m18, m19, .int tn, m21, m22, .int kd]))] s.heap := hP
  have hD : va_D A [(h0, .inr (9, [m0, m1, m2, m3, m4, m5, m6, m7, m8, m9, m10, m11, m12, m13, m14, m15, m16, m17, m18, m19, .int tn, m21, m22, .int kd]))] := hD
  have hl := lv_entry ([.ref h0, .int k]) (n := 2) (Nat.le_of_ble_eq_true rfl)
  rw [lg_entry_eq]
  generalize (lg_sl ([.ref h0, .int k]) ++ List.replicate (2 - (lg_sl ([.ref h0, .int k])).length) Slot.unset).toArray = ls at hl ⊢
  have hl : lv_has ls 2 [(0, .ref h0), (1, .int k)] := hl
  refine lv_aload_n hx hb dX9_end_0 rfl (lv_at hl 0 rfl) ?_
  refine lv_iload_n hx hb dX9_end_1 rfl (lv_at hl 1 rfl) ?_
  refine lv_if_lt (tgt := 17) hx hb dX9_end_2 (by decide) (fun c2 => ?_) (fun c2 => ?_)
  · refine lv_iconst (v := 0) hx hb dX9_end_17 (by decide) ?_
    refine lv_iconst (v := 1) hx hb dX9_end_18 (by decide) ?_
    have hPc := hP.sub (ws' := [(h0, .inr (9, [m0, m1, m2, m3, m4, m5, m6, m7, m8, m9, m10, m11, m12, m13, m14, m15, m16, m17, m18, m19, .int tn, m21, m22, .int kd]))]) [0] rfl
    have hDc := hD.sub (ws' := [(h0, .inr (9, [m0, m1, m2, m3, m4, m5, m6, m7, m8, m9, m10, m11, m12, m13, m14, m15, m16, m17, m18, m19, .int tn, m21, m22, .int kd]))]) [0] (by decide) rfl
    have hFc := va_free (wc := [(h0, .inr (9, [m0, m1, m2, m3, m4, m5, m6, m7, m8, m9, m10, m11, m12, m13, m14, m15, m16, m17, m18, m19, .int tn, m21, m22, .int kd]))]) hD hS hA [0] rfl
    refine va_calli (va_runV (As := [.int 0, .int 1]) (rest := []) ⟨hx, hb, hml, hown, hts⟩ (k_X9_good_f l dC dI cB cI cJ cM h0 kd 1 m0 m1 m2 m3 m4 m5 m6 m7 m8 m9 m10 m11 m12 m13 m14 m15 m16 m17 m18 m19 (.int tn) m21 m22  s.heap.size) (cwV 2 hts gX9_end_X9_good rfl rfl rfl (by decide +kernel) ⟨Nat.le_of_ble_eq_true rfl, Nat.le_of_ble_eq_true rfl⟩) ⟨fun a U g mk q => by obtain ⟨q0, q1, qP, qK, qD⟩ := q; exact ⟨q0, q1, qP, va_K.moved (u := U) (U := U.calling g mk a) (Vm.Alike.refl U.vm) qK, qD⟩, va_recv hK hPc (ci := 9) (q0 := 0) rfl rfl, fun U hU hW => ⟨rfl, by rw [hU], by rw [hU]; exact hPc, va_K.moved hW.alike hK, hDc.weaken (fun _ _ _ _ => trivial)⟩⟩ rfl rfl hl.1 rfl (lv_room (Nat.le_of_ble_eq_true rfl)) dX9_end_19 ⟨(show 0 + 0 ≤ 0 by omega), (show 0 + 0 ≤ 0 by omega)⟩) hS (fun q _ h => hFc q h) hFc (fun r19 u t H1 locs ht hvm hw hB hz1 hk1 hS => ?_)
    have hP1 : va_P (dC, dI) vwCl [(h0, .inr (9, [m0, m1, m2, m3, m4, m5, m6, m7, m8, m9, m10, m11, m12, m13, m14, m15, m16, m17, m18, m19, .int tn, m21, m22, .int 1]))] H1 := by rw [← ht]; exact hB.1
    have hD1 : va_D (va_A [(h0, .inr (9, [m0, m1, m2, m3, m4, m5, m6, m7, m8, m9, m10, m11, m12, m13, m14, m15, m16, m17, m18, m19, .int tn, m21, m22, .int kd]))] s.heap.size) [(h0, .inr (9, [m0, m1, m2, m3, m4, m5, m6, m7, m8, m9, m10, m11, m12, m13, m14, m15, m16, m17, m18, m19, .int tn, m21, m22, .int 1]))] := hB.2.2
    obtain ⟨hP, hD⟩ := va_join (wr := []) (w1 := [(h0, .inr (9, [m0, m1, m2, m3, m4, m5, m6, m7, m8, m9, m10, m11, m12, m13, m14, m15, m16, m17, m18, m19, .int tn, m21, m22, .int 1]))]) hP hD [0] [] rfl rfl (by decide) (by decide) hk1 hFc hP1 hD1
    generalize H1 = H at hP hS ⊢
    try dsimp only at hw
    have hP : va_P (dC, dI) vwCl [(h0, .inr (9, [m0, m1, m2, m3, m4, m5, m6, m7, m8, m9, m10, m11, m12, m13, m14, m15, m16, m17, m18, m19, .int tn, m21, m22, .int 1]))] H := hP
    have hD : va_D A [(h0, .inr (9, [m0, m1, m2, m3, m4, m5, m6, m7, m8, m9, m10, m11, m12, m13, m14, m15, m16, m17, m18, m19, .int tn, m21, m22, .int 1]))] := hD
    obtain rfl : r19 = 0 := hw
    refine W.eq (g2 := F0 m 22 ls [.int 0]) rfl ?_
    refine lv_if_ne (tgt := 27) hx hb dX9_end_22 (by decide) (fun c22 => ?_) (fun c22 => ?_)
    · have c22 : ¬ (0 = 0) := fun h => c22 ((nI_eq (a := 0) (b := 0) (by omega) (by omega)).mpr h)
      exfalso; omega
    · have c22 : 0 = 0 := (nI_eq (a := 0) (b := 0) (by omega) (by omega)).mp c22
      refine lv_iconst (v := 0) hx hb dX9_end_25 (by decide) ?_
      have hP9 := hP.sub (ws' := [(h0, .inr (9, [m0, m1, m2, m3, m4, m5, m6, m7, m8, m9, m10, m11, m12, m13, m14, m15, m16, m17, m18, m19, .int tn, m21, m22, .int 1]))]) [0] rfl
      have hD9 := hD.sub (ws' := [(h0, .inr (9, [m0, m1, m2, m3, m4, m5, m6, m7, m8, m9, m10, m11, m12, m13, m14, m15, m16, m17, m18, m19, .int tn, m21, m22, .int 1]))]) [0] (by decide) rfl
      exact W.iret (v := 0) hx hb hr (fun t ht hW => ⟨⟨0, (tn, 1), rfl, Or.inr ⟨Or.inl c2, rfl⟩, ⟨by rw [ht]; exact hP9, va_K.moved hW.alike hK, hD9⟩⟩, hS.F ht⟩) hS.2.2 dX9_end_26
  · refine lv_iload_n hx hb dX9_end_5 rfl (lv_at hl 1 rfl) ?_
    refine lv_aload_n hx hb dX9_end_6 rfl (lv_at hl 0 rfl) ?_
    refine va_get (D := (dC, dI)) (ci := 9) (v := .int tn) (C := RX9) (T := TX9) (N := 24) hx hb hts (by decide +kernel) hown hK hP 0 rfl rfl 20 (by decide) (hts (.fieldLink RX9 153 "FixedPressModel" "taped" "I") (by decide +kernel)) (fun _ h9 => h9) rfl dX9_end_7 ?_
    refine lv_icmp_gt (tgt := 17) hx hb dX9_end_10 (by decide) (fun c10 => ?_) (fun c10 => ?_)
    · refine lv_iconst (v := 0) hx hb dX9_end_17 (by decide) ?_
      refine lv_iconst (v := 1) hx hb dX9_end_18 (by decide) ?_
      have hPc := hP.sub (ws' := [(h0, .inr (9, [m0, m1, m2, m3, m4, m5, m6, m7, m8, m9, m10, m11, m12, m13, m14, m15, m16, m17, m18, m19, .int tn, m21, m22, .int kd]))]) [0] rfl
      have hDc := hD.sub (ws' := [(h0, .inr (9, [m0, m1, m2, m3, m4, m5, m6, m7, m8, m9, m10, m11, m12, m13, m14, m15, m16, m17, m18, m19, .int tn, m21, m22, .int kd]))]) [0] (by decide) rfl
      have hFc := va_free (wc := [(h0, .inr (9, [m0, m1, m2, m3, m4, m5, m6, m7, m8, m9, m10, m11, m12, m13, m14, m15, m16, m17, m18, m19, .int tn, m21, m22, .int kd]))]) hD hS hA [0] rfl
      refine va_calli (va_runV (As := [.int 0, .int 1]) (rest := []) ⟨hx, hb, hml, hown, hts⟩ (k_X9_good_f l dC dI cB cI cJ cM h0 kd 1 m0 m1 m2 m3 m4 m5 m6 m7 m8 m9 m10 m11 m12 m13 m14 m15 m16 m17 m18 m19 (.int tn) m21 m22  s.heap.size) (cwV 2 hts gX9_end_X9_good rfl rfl rfl (by decide +kernel) ⟨Nat.le_of_ble_eq_true rfl, Nat.le_of_ble_eq_true rfl⟩) ⟨fun a U g mk q => by obtain ⟨q0, q1, qP, qK, qD⟩ := q; exact ⟨q0, q1, qP, va_K.moved (u := U) (U := U.calling g mk a) (Vm.Alike.refl U.vm) qK, qD⟩, va_recv hK hPc (ci := 9) (q0 := 0) rfl rfl, fun U hU hW => ⟨rfl, by rw [hU], by rw [hU]; exact hPc, va_K.moved hW.alike hK, hDc.weaken (fun _ _ _ _ => trivial)⟩⟩ rfl rfl hl.1 rfl (lv_room (Nat.le_of_ble_eq_true rfl)) dX9_end_19 ⟨(show 0 + 0 ≤ 0 by omega), (show 0 + 0 ≤ 0 by omega)⟩) hS (fun q _ h => hFc q h) hFc (fun r19 u t H1 locs ht hvm hw hB hz1 hk1 hS => ?_)
      have hP1 : va_P (dC, dI) vwCl [(h0, .inr (9, [m0, m1, m2, m3, m4, m5, m6, m7, m8, m9, m10, m11, m12, m13, m14, m15, m16, m17, m18, m19, .int tn, m21, m22, .int 1]))] H1 := by rw [← ht]; exact hB.1
      have hD1 : va_D (va_A [(h0, .inr (9, [m0, m1, m2, m3, m4, m5, m6, m7, m8, m9, m10, m11, m12, m13, m14, m15, m16, m17, m18, m19, .int tn, m21, m22, .int kd]))] s.heap.size) [(h0, .inr (9, [m0, m1, m2, m3, m4, m5, m6, m7, m8, m9, m10, m11, m12, m13, m14, m15, m16, m17, m18, m19, .int tn, m21, m22, .int 1]))] := hB.2.2
      obtain ⟨hP, hD⟩ := va_join (wr := []) (w1 := [(h0, .inr (9, [m0, m1, m2, m3, m4, m5, m6, m7, m8, m9, m10, m11, m12, m13, m14, m15, m16, m17, m18, m19, .int tn, m21, m22, .int 1]))]) hP hD [0] [] rfl rfl (by decide) (by decide) hk1 hFc hP1 hD1
      generalize H1 = H at hP hS ⊢
      try dsimp only at hw
      have hP : va_P (dC, dI) vwCl [(h0, .inr (9, [m0, m1, m2, m3, m4, m5, m6, m7, m8, m9, m10, m11, m12, m13, m14, m15, m16, m17, m18, m19, .int tn, m21, m22, .int 1]))] H := hP
      have hD : va_D A [(h0, .inr (9, [m0, m1, m2, m3, m4, m5, m6, m7, m8, m9, m10, m11, m12, m13, m14, m15, m16, m17, m18, m19, .int tn, m21, m22, .int 1]))] := hD
      obtain rfl : r19 = 0 := hw
      refine W.eq (g2 := F0 m 22 ls [.int 0]) rfl ?_
      refine lv_if_ne (tgt := 27) hx hb dX9_end_22 (by decide) (fun c22 => ?_) (fun c22 => ?_)
      · have c22 : ¬ (0 = 0) := fun h => c22 ((nI_eq (a := 0) (b := 0) (by omega) (by omega)).mpr h)
        exfalso; omega
      · have c22 : 0 = 0 := (nI_eq (a := 0) (b := 0) (by omega) (by omega)).mp c22
        refine lv_iconst (v := 0) hx hb dX9_end_25 (by decide) ?_
        have hP9 := hP.sub (ws' := [(h0, .inr (9, [m0, m1, m2, m3, m4, m5, m6, m7, m8, m9, m10, m11, m12, m13, m14, m15, m16, m17, m18, m19, .int tn, m21, m22, .int 1]))]) [0] rfl
        have hD9 := hD.sub (ws' := [(h0, .inr (9, [m0, m1, m2, m3, m4, m5, m6, m7, m8, m9, m10, m11, m12, m13, m14, m15, m16, m17, m18, m19, .int tn, m21, m22, .int 1]))]) [0] (by decide) rfl
        exact W.iret (v := 0) hx hb hr (fun t ht hW => ⟨⟨0, (tn, 1), rfl, Or.inr ⟨Or.inr c10, rfl⟩, ⟨by rw [ht]; exact hP9, va_K.moved hW.alike hK, hD9⟩⟩, hS.F ht⟩) hS.2.2 dX9_end_26
    · refine lv_iconst (v := 1) hx hb dX9_end_13 (by decide) ?_
      refine lv_goto (tgt := 18) hx hb dX9_end_14 (by decide) ?_
      refine lv_iconst (v := 1) hx hb dX9_end_18 (by decide) ?_
      have hPc := hP.sub (ws' := [(h0, .inr (9, [m0, m1, m2, m3, m4, m5, m6, m7, m8, m9, m10, m11, m12, m13, m14, m15, m16, m17, m18, m19, .int tn, m21, m22, .int kd]))]) [0] rfl
      have hDc := hD.sub (ws' := [(h0, .inr (9, [m0, m1, m2, m3, m4, m5, m6, m7, m8, m9, m10, m11, m12, m13, m14, m15, m16, m17, m18, m19, .int tn, m21, m22, .int kd]))]) [0] (by decide) rfl
      have hFc := va_free (wc := [(h0, .inr (9, [m0, m1, m2, m3, m4, m5, m6, m7, m8, m9, m10, m11, m12, m13, m14, m15, m16, m17, m18, m19, .int tn, m21, m22, .int kd]))]) hD hS hA [0] rfl
      refine va_calli (va_runV (As := [.int 1, .int 1]) (rest := []) ⟨hx, hb, hml, hown, hts⟩ (k_X9_good_t l dC dI cB cI cJ cM h0 kd 1 m0 m1 m2 m3 m4 m5 m6 m7 m8 m9 m10 m11 m12 m13 m14 m15 m16 m17 m18 m19 (.int tn) m21 m22  s.heap.size) (cwV 2 hts gX9_end_X9_good rfl rfl rfl (by decide +kernel) ⟨Nat.le_of_ble_eq_true rfl, Nat.le_of_ble_eq_true rfl⟩) ⟨fun a U g mk q => by obtain ⟨q0, q1, qP, qK, qD⟩ := q; exact ⟨q0, q1, qP, va_K.moved (u := U) (U := U.calling g mk a) (Vm.Alike.refl U.vm) qK, qD⟩, va_recv hK hPc (ci := 9) (q0 := 0) rfl rfl, fun U hU hW => ⟨rfl, by rw [hU], by rw [hU]; exact hPc, va_K.moved hW.alike hK, hDc.weaken (fun _ _ _ _ => trivial)⟩⟩ rfl rfl hl.1 rfl (lv_room (Nat.le_of_ble_eq_true rfl)) dX9_end_19 ⟨(show 0 + 0 ≤ 0 by omega), (show 0 + 0 ≤ 0 by omega)⟩) hS (fun q _ h => hFc q h) hFc (fun r19 u t H1 locs ht hvm hw hB hz1 hk1 hS => ?_)
      have hP1 : va_P (dC, dI) vwCl [(h0, .inr (9, [m0, m1, m2, m3, m4, m5, m6, m7, m8, m9, m10, m11, m12, m13, m14, m15, m16, m17, m18, m19, .int tn, m21, m22, .int 0]))] H1 := by rw [← ht]; exact hB.1
      have hD1 : va_D (va_A [(h0, .inr (9, [m0, m1, m2, m3, m4, m5, m6, m7, m8, m9, m10, m11, m12, m13, m14, m15, m16, m17, m18, m19, .int tn, m21, m22, .int kd]))] s.heap.size) [(h0, .inr (9, [m0, m1, m2, m3, m4, m5, m6, m7, m8, m9, m10, m11, m12, m13, m14, m15, m16, m17, m18, m19, .int tn, m21, m22, .int 0]))] := hB.2.2
      obtain ⟨hP, hD⟩ := va_join (wr := []) (w1 := [(h0, .inr (9, [m0, m1, m2, m3, m4, m5, m6, m7, m8, m9, m10, m11, m12, m13, m14, m15, m16, m17, m18, m19, .int tn, m21, m22, .int 0]))]) hP hD [0] [] rfl rfl (by decide) (by decide) hk1 hFc hP1 hD1
      generalize H1 = H at hP hS ⊢
      try dsimp only at hw
      have hP : va_P (dC, dI) vwCl [(h0, .inr (9, [m0, m1, m2, m3, m4, m5, m6, m7, m8, m9, m10, m11, m12, m13, m14, m15, m16, m17, m18, m19, .int tn, m21, m22, .int 0]))] H := hP
      have hD : va_D A [(h0, .inr (9, [m0, m1, m2, m3, m4, m5, m6, m7, m8, m9, m10, m11, m12, m13, m14, m15, m16, m17, m18, m19, .int tn, m21, m22, .int 0]))] := hD
      obtain rfl : r19 = 1 := hw
      refine W.eq (g2 := F0 m 22 ls [.int 1]) rfl ?_
      refine lv_if_ne (tgt := 27) hx hb dX9_end_22 (by decide) (fun c22 => ?_) (fun c22 => ?_)
      · have c22 : ¬ (1 = 0) := fun h => c22 ((nI_eq (a := 1) (b := 0) (by omega) (by omega)).mpr h)
        refine lv_aload_n hx hb dX9_end_27 rfl (lv_at hl 0 rfl) ?_
        refine lv_iload_n hx hb dX9_end_28 rfl (lv_at hl 1 rfl) ?_
        refine va_put (D := (dC, dI)) (ci := 9) (v := .int k) (ty := .int) (C := RX9) (T := TX9) (N := 24) hx hb hts (by decide +kernel) tyX9 tyX9_ok nmX9 hown hK hP hD hS 0 rfl rfl 20 (by decide) (hts (.fieldLink RX9 153 "FixedPressModel" "taped" "I") (by decide +kernel)) (fun _ h9 => h9) rfl (by decide +kernel) rfl rfl (Nat.le_of_ble_eq_true rfl) dX9_end_29 (fun H locs hP hD hS => ?_)
        have hP : va_P (dC, dI) vwCl [(h0, .inr (9, [m0, m1, m2, m3, m4, m5, m6, m7, m8, m9, m10, m11, m12, m13, m14, m15, m16, m17, m18, m19, .int k, m21, m22, .int 0]))] H := hP
        have hD : va_D A [(h0, .inr (9, [m0, m1, m2, m3, m4, m5, m6, m7, m8, m9, m10, m11, m12, m13, m14, m15, m16, m17, m18, m19, .int k, m21, m22, .int 0]))] := hD
        refine lv_iload_n hx hb dX9_end_32 rfl (lv_at hl 1 rfl) ?_
        have hP9 := hP.sub (ws' := [(h0, .inr (9, [m0, m1, m2, m3, m4, m5, m6, m7, m8, m9, m10, m11, m12, m13, m14, m15, m16, m17, m18, m19, .int k, m21, m22, .int 0]))]) [0] rfl
        have hD9 := hD.sub (ws' := [(h0, .inr (9, [m0, m1, m2, m3, m4, m5, m6, m7, m8, m9, m10, m11, m12, m13, m14, m15, m16, m17, m18, m19, .int k, m21, m22, .int 0]))]) [0] (by decide) rfl
        exact W.iret (v := k) hx hb hr (fun t ht hW => ⟨⟨k, (k, 0), rfl, Or.inl ⟨Int32.not_lt.mp c2, Int32.not_lt.mp c10, rfl, rfl⟩, ⟨by rw [ht]; exact hP9, va_K.moved hW.alike hK, hD9⟩⟩, hS.F ht⟩) hS.2.2 dX9_end_33
      · have c22 : 1 = 0 := (nI_eq (a := 1) (b := 0) (by omega) (by omega)).mp c22
        exfalso; omega

abbrev rm_X9_count : Room := { frames := 1, cells := 0, slots := 0, locals := 22 }
abbrev wo_X9_count (dC : Nat → ClassId) (dI : Nat → Nat → Nat) (cB cI cJ cM : ClassId) (h0 : Nat) (tn rn kd k : Int32) (m0 m1 m2 m3 m4 m5 m6 m7 m8 m9 m10 m11 m12 m13 m14 m15 m16 m17 m18 m19 m21 : Value) : va_W := [(h0, .inr (9, [m0, m1, m2, m3, m4, m5, m6, m7, m8, m9, m10, m11, m12, m13, m14, m15, m16, m17, m18, m19, .int tn, m21, .int rn, .int kd]))]
abbrev q_X9_count (dC : Nat → ClassId) (dI : Nat → Nat → Nat) (cB cI cJ cM : ClassId) (h0 : Nat) (tn rn kd k : Int32) (m0 m1 m2 m3 m4 m5 m6 m7 m8 m9 m10 m11 m12 m13 m14 m15 m16 m17 m18 m19 m21 : Value) (A : Nat → Prop) : Array Value → State → Outcome → State → Prop := va_Qi (fun (r : Int32) (u : Int32) => (0 ≤ k ∧ k ≤ 1 ∧ r = (if k = 0 then tn else rn) ∧ u = 0) ∨ ((k < 0 ∨ 1 < k) ∧ u = 1)) (zB dC dI cB cI cJ cM A (fun u : Int32 => [(h0, .inr (9, [m0, m1, m2, m3, m4, m5, m6, m7, m8, m9, m10, m11, m12, m13, m14, m15, m16, m17, m18, m19, .int tn, m21, .int rn, .int u]))])) A
set_option maxHeartbeats 8000000 in
set_option maxRecDepth 100000 in
/-- count of the reference -/
theorem k_X9_count (l : Launch) (dC : Nat → ClassId) (dI : Nat → Nat → Nat) (cB cI cJ cM : ClassId) (h0 : Nat) (tn rn kd k : Int32) (m0 m1 m2 m3 m4 m5 m6 m7 m8 m9 m10 m11 m12 m13 m14 m15 m16 m17 m18 m19 m21 : Value) (sz : Nat) : Met l yX9_count wsX9_count rm_X9_count (va_Pc [.ref h0, .int k] (fun U => U.heap.size = sz ∧ va_P (dC, dI) vwCl (wo_X9_count dC dI cB cI cJ cM h0 tn rn kd k m0 m1 m2 m3 m4 m5 m6 m7 m8 m9 m10 m11 m12 m13 m14 m15 m16 m17 m18 m19 m21) U.heap ∧ va_K (dC, dI) vwCl (zT cB cI cJ cM) U ∧ va_D (fun _ => True) (wo_X9_count dC dI cB cI cJ cM h0 tn rn kd k m0 m1 m2 m3 m4 m5 m6 m7 m8 m9 m10 m11 m12 m13 m14 m15 m16 m17 m18 m19 m21))) (q_X9_count dC dI cB cI cJ cM h0 tn rn kd k m0 m1 m2 m3 m4 m5 m6 m7 m8 m9 m10 m11 m12 m13 m14 m15 m16 m17 m18 m19 m21 (va_A (wo_X9_count dC dI cB cI cJ cM h0 tn rn kd k m0 m1 m2 m3 m4 m5 m6 m7 m8 m9 m10 m11 m12 m13 m14 m15 m16 m17 m18 m19 m21) sz)) 0 0 (va_A (wo_X9_count dC dI cB cI cJ cM h0 tn rn kd k m0 m1 m2 m3 m4 m5 m6 m7 m8 m9 m10 m11 m12 m13 m14 m15 m16 m17 m18 m19 m21) sz) := by
  refine Met.ofW (cc := cX9_count) (maxL := 2) (ret := (some .int)) (by decide) rfl ?_
  intro p e s m args below meth c s₁ B hml hv
  obtain ⟨rfl, hsz, hP, hK, hD0⟩ := hv
  have hx := B.exec
  have hb := B.bytes
  have hr := B.returns
  have hts := atoms_spec (ws := wsX9_count) B.pre
  have hown : s.vm.findClass RX9 = some m.cls := findClass_of_methodNamed B.named
  have hlocks := B.notSynchronized
  subst hsz
  have hD := hD0.self (sz := s.heap.size)
  generalize hAe : va_A (wo_X9_count dC dI cB cI cJ cM h0 tn rn kd k m0 m1 m2 m3 m4 m5 m6 m7 m8 m9 m10 m11 m12 m13 m14 m15 m16 m17 m18 m19 m21) s.heap.size = A at hD ⊢
  have hA : ∀ q : Nat, s.heap.size ≤ q → A q := fun q h => by rw [← hAe]; exact Or.inr h
  have hS : va_S A s.heap s.heap [] := va_S.rf
  have hP : va_P (dC, dI) vwCl [(h0, .inr (9, [m0, m1, m2, m3, m4, m5, m6, m7, m8, m9, m10, m11, m12, m13, m14, m15, m16, m17, m18, m19, .int tn, m21, .int rn, .int kd]))] s.heap := hP
  have hD : va_D A [(h0, .inr (9, [m0, m1, m2, m3, m4, m5, m6, m7, m8, m9, m10, m11, m12, m13, m14, m15, m16, m17, m18, m19, .int tn, m21, .int rn, .int kd]))] := hD
  have hl := lv_entry ([.ref h0, .int k]) (n := 2) (Nat.le_of_ble_eq_true rfl)
  rw [lg_entry_eq]
  generalize (lg_sl ([.ref h0, .int k]) ++ List.replicate (2 - (lg_sl ([.ref h0, .int k])).length) Slot.unset).toArray = ls at hl ⊢
  have hl : lv_has ls 2 [(0, .ref h0), (1, .int k)] := hl
  refine lv_aload_n hx hb dX9_count_0 rfl (lv_at hl 0 rfl) ?_
  refine lv_iload_n hx hb dX9_count_1 rfl (lv_at hl 1 rfl) ?_
  refine lv_if_lt (tgt := 14) hx hb dX9_count_2 (by decide) (fun c2 => ?_) (fun c2 => ?_)
  · refine lv_iconst (v := 0) hx hb dX9_count_14 (by decide) ?_
    refine lv_iconst (v := 1) hx hb dX9_count_15 (by decide) ?_
    have hPc := hP.sub (ws' := [(h0, .inr (9, [m0, m1, m2, m3, m4, m5, m6, m7, m8, m9, m10, m11, m12, m13, m14, m15, m16, m17, m18, m19, .int tn, m21, .int rn, .int kd]))]) [0] rfl
    have hDc := hD.sub (ws' := [(h0, .inr (9, [m0, m1, m2, m3, m4, m5, m6, m7, m8, m9, m10, m11, m12, m13, m14, m15, m16, m17, m18, m19, .int tn, m21, .int rn, .int kd]))]) [0] (by decide) rfl
    have hFc := va_free (wc := [(h0, .inr (9, [m0, m1, m2, m3, m4, m5, m6, m7, m8, m9, m10, m11, m12, m13, m14, m15, m16, m17, m18, m19, .int tn, m21, .int rn, .int kd]))]) hD hS hA [0] rfl
    refine va_calli (va_runV (As := [.int 0, .int 1]) (rest := []) ⟨hx, hb, hml, hown, hts⟩ (k_X9_good_f l dC dI cB cI cJ cM h0 kd 1 m0 m1 m2 m3 m4 m5 m6 m7 m8 m9 m10 m11 m12 m13 m14 m15 m16 m17 m18 m19 (.int tn) m21 (.int rn)  s.heap.size) (cwV 2 hts gX9_count_X9_good rfl rfl rfl (by decide +kernel) ⟨Nat.le_of_ble_eq_true rfl, Nat.le_of_ble_eq_true rfl⟩) ⟨fun a U g mk q => by obtain ⟨q0, q1, qP, qK, qD⟩ := q; exact ⟨q0, q1, qP, va_K.moved (u := U) (U := U.calling g mk a) (Vm.Alike.refl U.vm) qK, qD⟩, va_recv hK hPc (ci := 9) (q0 := 0) rfl rfl, fun U hU hW => ⟨rfl, by rw [hU], by rw [hU]; exact hPc, va_K.moved hW.alike hK, hDc.weaken (fun _ _ _ _ => trivial)⟩⟩ rfl rfl hl.1 rfl (lv_room (Nat.le_of_ble_eq_true rfl)) dX9_count_16 ⟨(show 0 + 0 ≤ 0 by omega), (show 0 + 0 ≤ 0 by omega)⟩) hS (fun q _ h => hFc q h) hFc (fun r16 u t H1 locs ht hvm hw hB hz1 hk1 hS => ?_)
    have hP1 : va_P (dC, dI) vwCl [(h0, .inr (9, [m0, m1, m2, m3, m4, m5, m6, m7, m8, m9, m10, m11, m12, m13, m14, m15, m16, m17, m18, m19, .int tn, m21, .int rn, .int 1]))] H1 := by rw [← ht]; exact hB.1
    have hD1 : va_D (va_A [(h0, .inr (9, [m0, m1, m2, m3, m4, m5, m6, m7, m8, m9, m10, m11, m12, m13, m14, m15, m16, m17, m18, m19, .int tn, m21, .int rn, .int kd]))] s.heap.size) [(h0, .inr (9, [m0, m1, m2, m3, m4, m5, m6, m7, m8, m9, m10, m11, m12, m13, m14, m15, m16, m17, m18, m19, .int tn, m21, .int rn, .int 1]))] := hB.2.2
    obtain ⟨hP, hD⟩ := va_join (wr := []) (w1 := [(h0, .inr (9, [m0, m1, m2, m3, m4, m5, m6, m7, m8, m9, m10, m11, m12, m13, m14, m15, m16, m17, m18, m19, .int tn, m21, .int rn, .int 1]))]) hP hD [0] [] rfl rfl (by decide) (by decide) hk1 hFc hP1 hD1
    generalize H1 = H at hP hS ⊢
    try dsimp only at hw
    have hP : va_P (dC, dI) vwCl [(h0, .inr (9, [m0, m1, m2, m3, m4, m5, m6, m7, m8, m9, m10, m11, m12, m13, m14, m15, m16, m17, m18, m19, .int tn, m21, .int rn, .int 1]))] H := hP
    have hD : va_D A [(h0, .inr (9, [m0, m1, m2, m3, m4, m5, m6, m7, m8, m9, m10, m11, m12, m13, m14, m15, m16, m17, m18, m19, .int tn, m21, .int rn, .int 1]))] := hD
    obtain rfl : r16 = 0 := hw
    refine W.eq (g2 := F0 m 19 ls [.int 0]) rfl ?_
    refine lv_if_ne (tgt := 24) hx hb dX9_count_19 (by decide) (fun c19 => ?_) (fun c19 => ?_)
    · have c19 : ¬ (0 = 0) := fun h => c19 ((nI_eq (a := 0) (b := 0) (by omega) (by omega)).mpr h)
      exfalso; omega
    · have c19 : 0 = 0 := (nI_eq (a := 0) (b := 0) (by omega) (by omega)).mp c19
      refine lv_iconst (v := 0) hx hb dX9_count_22 (by decide) ?_
      have hP9 := hP.sub (ws' := [(h0, .inr (9, [m0, m1, m2, m3, m4, m5, m6, m7, m8, m9, m10, m11, m12, m13, m14, m15, m16, m17, m18, m19, .int tn, m21, .int rn, .int 1]))]) [0] rfl
      have hD9 := hD.sub (ws' := [(h0, .inr (9, [m0, m1, m2, m3, m4, m5, m6, m7, m8, m9, m10, m11, m12, m13, m14, m15, m16, m17, m18, m19, .int tn, m21, .int rn, .int 1]))]) [0] (by decide) rfl
      exact W.iret (v := 0) hx hb hr (fun t ht hW => ⟨⟨0, 1, rfl, Or.inr ⟨Or.inl c2, rfl⟩, ⟨by rw [ht]; exact hP9, va_K.moved hW.alike hK, hD9⟩⟩, hS.F ht⟩) hS.2.2 dX9_count_23
  · refine lv_iload_n hx hb dX9_count_5 rfl (lv_at hl 1 rfl) ?_
    refine lv_iconst (v := 1) hx hb dX9_count_6 (by decide) ?_
    refine lv_icmp_gt (tgt := 14) hx hb dX9_count_7 (by decide) (fun c7 => ?_) (fun c7 => ?_)
    · refine lv_iconst (v := 0) hx hb dX9_count_14 (by decide) ?_
      refine lv_iconst (v := 1) hx hb dX9_count_15 (by decide) ?_
      have hPc := hP.sub (ws' := [(h0, .inr (9, [m0, m1, m2, m3, m4, m5, m6, m7, m8, m9, m10, m11, m12, m13, m14, m15, m16, m17, m18, m19, .int tn, m21, .int rn, .int kd]))]) [0] rfl
      have hDc := hD.sub (ws' := [(h0, .inr (9, [m0, m1, m2, m3, m4, m5, m6, m7, m8, m9, m10, m11, m12, m13, m14, m15, m16, m17, m18, m19, .int tn, m21, .int rn, .int kd]))]) [0] (by decide) rfl
      have hFc := va_free (wc := [(h0, .inr (9, [m0, m1, m2, m3, m4, m5, m6, m7, m8, m9, m10, m11, m12, m13, m14, m15, m16, m17, m18, m19, .int tn, m21, .int rn, .int kd]))]) hD hS hA [0] rfl
      refine va_calli (va_runV (As := [.int 0, .int 1]) (rest := []) ⟨hx, hb, hml, hown, hts⟩ (k_X9_good_f l dC dI cB cI cJ cM h0 kd 1 m0 m1 m2 m3 m4 m5 m6 m7 m8 m9 m10 m11 m12 m13 m14 m15 m16 m17 m18 m19 (.int tn) m21 (.int rn)  s.heap.size) (cwV 2 hts gX9_count_X9_good rfl rfl rfl (by decide +kernel) ⟨Nat.le_of_ble_eq_true rfl, Nat.le_of_ble_eq_true rfl⟩) ⟨fun a U g mk q => by obtain ⟨q0, q1, qP, qK, qD⟩ := q; exact ⟨q0, q1, qP, va_K.moved (u := U) (U := U.calling g mk a) (Vm.Alike.refl U.vm) qK, qD⟩, va_recv hK hPc (ci := 9) (q0 := 0) rfl rfl, fun U hU hW => ⟨rfl, by rw [hU], by rw [hU]; exact hPc, va_K.moved hW.alike hK, hDc.weaken (fun _ _ _ _ => trivial)⟩⟩ rfl rfl hl.1 rfl (lv_room (Nat.le_of_ble_eq_true rfl)) dX9_count_16 ⟨(show 0 + 0 ≤ 0 by omega), (show 0 + 0 ≤ 0 by omega)⟩) hS (fun q _ h => hFc q h) hFc (fun r16 u t H1 locs ht hvm hw hB hz1 hk1 hS => ?_)
      have hP1 : va_P (dC, dI) vwCl [(h0, .inr (9, [m0, m1, m2, m3, m4, m5, m6, m7, m8, m9, m10, m11, m12, m13, m14, m15, m16, m17, m18, m19, .int tn, m21, .int rn, .int 1]))] H1 := by rw [← ht]; exact hB.1
      have hD1 : va_D (va_A [(h0, .inr (9, [m0, m1, m2, m3, m4, m5, m6, m7, m8, m9, m10, m11, m12, m13, m14, m15, m16, m17, m18, m19, .int tn, m21, .int rn, .int kd]))] s.heap.size) [(h0, .inr (9, [m0, m1, m2, m3, m4, m5, m6, m7, m8, m9, m10, m11, m12, m13, m14, m15, m16, m17, m18, m19, .int tn, m21, .int rn, .int 1]))] := hB.2.2
      obtain ⟨hP, hD⟩ := va_join (wr := []) (w1 := [(h0, .inr (9, [m0, m1, m2, m3, m4, m5, m6, m7, m8, m9, m10, m11, m12, m13, m14, m15, m16, m17, m18, m19, .int tn, m21, .int rn, .int 1]))]) hP hD [0] [] rfl rfl (by decide) (by decide) hk1 hFc hP1 hD1
      generalize H1 = H at hP hS ⊢
      try dsimp only at hw
      have hP : va_P (dC, dI) vwCl [(h0, .inr (9, [m0, m1, m2, m3, m4, m5, m6, m7, m8, m9, m10, m11, m12, m13, m14, m15, m16, m17, m18, m19, .int tn, m21, .int rn, .int 1]))] H := hP
      have hD : va_D A [(h0, .inr (9, [m0, m1, m2, m3, m4, m5, m6, m7, m8, m9, m10, m11, m12, m13, m14, m15, m16, m17, m18, m19, .int tn, m21, .int rn, .int 1]))] := hD
      obtain rfl : r16 = 0 := hw
      refine W.eq (g2 := F0 m 19 ls [.int 0]) rfl ?_
      refine lv_if_ne (tgt := 24) hx hb dX9_count_19 (by decide) (fun c19 => ?_) (fun c19 => ?_)
      · have c19 : ¬ (0 = 0) := fun h => c19 ((nI_eq (a := 0) (b := 0) (by omega) (by omega)).mpr h)
        exfalso; omega
      · have c19 : 0 = 0 := (nI_eq (a := 0) (b := 0) (by omega) (by omega)).mp c19
        refine lv_iconst (v := 0) hx hb dX9_count_22 (by decide) ?_
        have hP9 := hP.sub (ws' := [(h0, .inr (9, [m0, m1, m2, m3, m4, m5, m6, m7, m8, m9, m10, m11, m12, m13, m14, m15, m16, m17, m18, m19, .int tn, m21, .int rn, .int 1]))]) [0] rfl
        have hD9 := hD.sub (ws' := [(h0, .inr (9, [m0, m1, m2, m3, m4, m5, m6, m7, m8, m9, m10, m11, m12, m13, m14, m15, m16, m17, m18, m19, .int tn, m21, .int rn, .int 1]))]) [0] (by decide) rfl
        exact W.iret (v := 0) hx hb hr (fun t ht hW => ⟨⟨0, 1, rfl, Or.inr ⟨Or.inr c7, rfl⟩, ⟨by rw [ht]; exact hP9, va_K.moved hW.alike hK, hD9⟩⟩, hS.F ht⟩) hS.2.2 dX9_count_23
    · refine lv_iconst (v := 1) hx hb dX9_count_10 (by decide) ?_
      refine lv_goto (tgt := 15) hx hb dX9_count_11 (by decide) ?_
      refine lv_iconst (v := 1) hx hb dX9_count_15 (by decide) ?_
      have hPc := hP.sub (ws' := [(h0, .inr (9, [m0, m1, m2, m3, m4, m5, m6, m7, m8, m9, m10, m11, m12, m13, m14, m15, m16, m17, m18, m19, .int tn, m21, .int rn, .int kd]))]) [0] rfl
      have hDc := hD.sub (ws' := [(h0, .inr (9, [m0, m1, m2, m3, m4, m5, m6, m7, m8, m9, m10, m11, m12, m13, m14, m15, m16, m17, m18, m19, .int tn, m21, .int rn, .int kd]))]) [0] (by decide) rfl
      have hFc := va_free (wc := [(h0, .inr (9, [m0, m1, m2, m3, m4, m5, m6, m7, m8, m9, m10, m11, m12, m13, m14, m15, m16, m17, m18, m19, .int tn, m21, .int rn, .int kd]))]) hD hS hA [0] rfl
      refine va_calli (va_runV (As := [.int 1, .int 1]) (rest := []) ⟨hx, hb, hml, hown, hts⟩ (k_X9_good_t l dC dI cB cI cJ cM h0 kd 1 m0 m1 m2 m3 m4 m5 m6 m7 m8 m9 m10 m11 m12 m13 m14 m15 m16 m17 m18 m19 (.int tn) m21 (.int rn)  s.heap.size) (cwV 2 hts gX9_count_X9_good rfl rfl rfl (by decide +kernel) ⟨Nat.le_of_ble_eq_true rfl, Nat.le_of_ble_eq_true rfl⟩) ⟨fun a U g mk q => by obtain ⟨q0, q1, qP, qK, qD⟩ := q; exact ⟨q0, q1, qP, va_K.moved (u := U) (U := U.calling g mk a) (Vm.Alike.refl U.vm) qK, qD⟩, va_recv hK hPc (ci := 9) (q0 := 0) rfl rfl, fun U hU hW => ⟨rfl, by rw [hU], by rw [hU]; exact hPc, va_K.moved hW.alike hK, hDc.weaken (fun _ _ _ _ => trivial)⟩⟩ rfl rfl hl.1 rfl (lv_room (Nat.le_of_ble_eq_true rfl)) dX9_count_16 ⟨(show 0 + 0 ≤ 0 by omega), (show 0 + 0 ≤ 0 by omega)⟩) hS (fun q _ h => hFc q h) hFc (fun r16 u t H1 locs ht hvm hw hB hz1 hk1 hS => ?_)
      have hP1 : va_P (dC, dI) vwCl [(h0, .inr (9, [m0, m1, m2, m3, m4, m5, m6, m7, m8, m9, m10, m11, m12, m13, m14, m15, m16, m17, m18, m19, .int tn, m21, .int rn, .int 0]))] H1 := by rw [← ht]; exact hB.1
      have hD1 : va_D (va_A [(h0, .inr (9, [m0, m1, m2, m3, m4, m5, m6, m7, m8, m9, m10, m11, m12, m13, m14, m15, m16, m17, m18, m19, .int tn, m21, .int rn, .int kd]))] s.heap.size) [(h0, .inr (9, [m0, m1, m2, m3, m4, m5, m6, m7, m8, m9, m10, m11, m12, m13, m14, m15, m16, m17, m18, m19, .int tn, m21, .int rn, .int 0]))] := hB.2.2
      obtain ⟨hP, hD⟩ := va_join (wr := []) (w1 := [(h0, .inr (9, [m0, m1, m2, m3, m4, m5, m6, m7, m8, m9, m10, m11, m12, m13, m14, m15, m16, m17, m18, m19, .int tn, m21, .int rn, .int 0]))]) hP hD [0] [] rfl rfl (by decide) (by decide) hk1 hFc hP1 hD1
      generalize H1 = H at hP hS ⊢
      try dsimp only at hw
      have hP : va_P (dC, dI) vwCl [(h0, .inr (9, [m0, m1, m2, m3, m4, m5, m6, m7, m8, m9, m10, m11, m12, m13, m14, m15, m16, m17, m18, m19, .int tn, m21, .int rn, .int 0]))] H := hP
      have hD : va_D A [(h0, .inr (9, [m0, m1, m2, m3, m4, m5, m6, m7, m8, m9, m10, m11, m12, m13, m14, m15, m16, m17, m18, m19, .int tn, m21, .int rn, .int 0]))] := hD
      obtain rfl : r16 = 1 := hw
      refine W.eq (g2 := F0 m 19 ls [.int 1]) rfl ?_
      refine lv_if_ne (tgt := 24) hx hb dX9_count_19 (by decide) (fun c19 => ?_) (fun c19 => ?_)
      · have c19 : ¬ (1 = 0) := fun h => c19 ((nI_eq (a := 1) (b := 0) (by omega) (by omega)).mpr h)
        refine lv_iload_n hx hb dX9_count_24 rfl (lv_at hl 1 rfl) ?_
        refine lv_if_ne (tgt := 35) hx hb dX9_count_25 (by decide) (fun c25 => ?_) (fun c25 => ?_)
        · refine lv_aload_n hx hb dX9_count_35 rfl (lv_at hl 0 rfl) ?_
          refine va_get (D := (dC, dI)) (ci := 9) (v := .int rn) (C := RX9) (T := TX9) (N := 24) hx hb hts (by decide +kernel) hown hK hP 0 rfl rfl 22 (by decide) (hts (.fieldLink RX9 168 "FixedPressModel" "resultLength" "I") (by decide +kernel)) (fun _ h9 => h9) rfl dX9_count_36 ?_
          have hP9 := hP.sub (ws' := [(h0, .inr (9, [m0, m1, m2, m3, m4, m5, m6, m7, m8, m9, m10, m11, m12, m13, m14, m15, m16, m17, m18, m19, .int tn, m21, .int rn, .int 0]))]) [0] rfl
          have hD9 := hD.sub (ws' := [(h0, .inr (9, [m0, m1, m2, m3, m4, m5, m6, m7, m8, m9, m10, m11, m12, m13, m14, m15, m16, m17, m18, m19, .int tn, m21, .int rn, .int 0]))]) [0] (by decide) rfl
          exact W.iret (v := rn) hx hb hr (fun t ht hW => ⟨⟨rn, 0, rfl, Or.inl ⟨Int32.not_lt.mp c2, Int32.not_lt.mp c7, by simp [c25], rfl⟩, ⟨by rw [ht]; exact hP9, va_K.moved hW.alike hK, hD9⟩⟩, hS.F ht⟩) hS.2.2 dX9_count_39
        · refine lv_aload_n hx hb dX9_count_28 rfl (lv_at hl 0 rfl) ?_
          refine va_get (D := (dC, dI)) (ci := 9) (v := .int tn) (C := RX9) (T := TX9) (N := 24) hx hb hts (by decide +kernel) hown hK hP 0 rfl rfl 20 (by decide) (hts (.fieldLink RX9 153 "FixedPressModel" "taped" "I") (by decide +kernel)) (fun _ h9 => h9) rfl dX9_count_29 ?_
          refine lv_goto (tgt := 39) hx hb dX9_count_32 (by decide) ?_
          have hP9 := hP.sub (ws' := [(h0, .inr (9, [m0, m1, m2, m3, m4, m5, m6, m7, m8, m9, m10, m11, m12, m13, m14, m15, m16, m17, m18, m19, .int tn, m21, .int rn, .int 0]))]) [0] rfl
          have hD9 := hD.sub (ws' := [(h0, .inr (9, [m0, m1, m2, m3, m4, m5, m6, m7, m8, m9, m10, m11, m12, m13, m14, m15, m16, m17, m18, m19, .int tn, m21, .int rn, .int 0]))]) [0] (by decide) rfl
          exact W.iret (v := tn) hx hb hr (fun t ht hW => ⟨⟨tn, 0, rfl, Or.inl ⟨Int32.not_lt.mp c2, Int32.not_lt.mp c7, by simp [c25], rfl⟩, ⟨by rw [ht]; exact hP9, va_K.moved hW.alike hK, hD9⟩⟩, hS.F ht⟩) hS.2.2 dX9_count_39
      · have c19 : 1 = 0 := (nI_eq (a := 1) (b := 0) (by omega) (by omega)).mp c19
        exfalso; omega

abbrev rm_X9_patch : Room := { frames := 1, cells := 0, slots := 0, locals := 22 }
abbrev wo_X9_patch (dC : Nat → ClassId) (dI : Nat → Nat → Nat) (cB cI cJ cM : ClassId) (h0 tp : Nat) (f : Nat → Int32) (tn : Nat) (kd i v : Int32) (m0 m1 m2 m3 m4 m5 m6 m7 m8 m9 m10 m11 m12 m13 m14 m15 m16 m17 m18 m21 m22 : Value) : va_W := [(h0, .inr (9, [m0, m1, m2, m3, m4, m5, m6, m7, m8, m9, m10, m11, m12, m13, m14, m15, m16, m17, m18, .ref tp, .int (nI tn), m21, m22, .int kd])), (tp, .inl (cB, 4000, .inl f))]
abbrev q_X9_patch (dC : Nat → ClassId) (dI : Nat → Nat → Nat) (cB cI cJ cM : ClassId) (h0 tp : Nat) (f : Nat → Int32) (tn : Nat) (kd i v : Int32) (m0 m1 m2 m3 m4 m5 m6 m7 m8 m9 m10 m11 m12 m13 m14 m15 m16 m17 m18 m21 m22 : Value) (A : Nat → Prop) : Array Value → State → Outcome → State → Prop := va_Qi (fun (r : Int32) (u : (Nat → Int32) × Int32) => (∃ j, j < tn ∧ i = nI j ∧ r = f j &&& 255 ∧ u = (upd f j v.toInt8.toInt32, 0)) ∨ ((i < 0 ∨ nI tn ≤ i) ∧ u = (f, 1))) (zB dC dI cB cI cJ cM A (fun u : (Nat → Int32) × Int32 => [(h0, .inr (9, [m0, m1, m2, m3, m4, m5, m6, m7, m8, m9, m10, m11, m12, m13, m14, m15, m16, m17, m18, .ref tp, .int (nI tn), m21, m22, .int u.2])), (tp, .inl (cB, 4000, .inl u.1))])) A
set_option maxHeartbeats 8000000 in
set_option maxRecDepth 100000 in
/-- patch of the reference -/
theorem k_X9_patch (l : Launch) (dC : Nat → ClassId) (dI : Nat → Nat → Nat) (cB cI cJ cM : ClassId) (h0 tp : Nat) (f : Nat → Int32) (tn : Nat) (kd i v : Int32) (m0 m1 m2 m3 m4 m5 m6 m7 m8 m9 m10 m11 m12 m13 m14 m15 m16 m17 m18 m21 m22 : Value) (h1 : tn ≤ 4000) (sz : Nat) : Met l yX9_patch wsX9_patch rm_X9_patch (va_Pc [.ref h0, .int i, .int v] (fun U => U.heap.size = sz ∧ va_P (dC, dI) vwCl (wo_X9_patch dC dI cB cI cJ cM h0 tp f tn kd i v m0 m1 m2 m3 m4 m5 m6 m7 m8 m9 m10 m11 m12 m13 m14 m15 m16 m17 m18 m21 m22) U.heap ∧ va_K (dC, dI) vwCl (zT cB cI cJ cM) U ∧ va_D (fun _ => True) (wo_X9_patch dC dI cB cI cJ cM h0 tp f tn kd i v m0 m1 m2 m3 m4 m5 m6 m7 m8 m9 m10 m11 m12 m13 m14 m15 m16 m17 m18 m21 m22))) (q_X9_patch dC dI cB cI cJ cM h0 tp f tn kd i v m0 m1 m2 m3 m4 m5 m6 m7 m8 m9 m10 m11 m12 m13 m14 m15 m16 m17 m18 m21 m22 (va_A (wo_X9_patch dC dI cB cI cJ cM h0 tp f tn kd i v m0 m1 m2 m3 m4 m5 m6 m7 m8 m9 m10 m11 m12 m13 m14 m15 m16 m17 m18 m21 m22) sz)) 0 0 (va_A (wo_X9_patch dC dI cB cI cJ cM h0 tp f tn kd i v m0 m1 m2 m3 m4 m5 m6 m7 m8 m9 m10 m11 m12 m13 m14 m15 m16 m17 m18 m21 m22) sz) := by
  refine Met.ofW (cc := cX9_patch) (maxL := 4) (ret := (some .int)) (by decide) rfl ?_
  intro p e s m args below meth c s₁ B hml hv
  obtain ⟨rfl, hsz, hP, hK, hD0⟩ := hv
  have hx := B.exec
  have hb := B.bytes
  have hr := B.returns
  have hts := atoms_spec (ws := wsX9_patch) B.pre
  have hown : s.vm.findClass RX9 = some m.cls := findClass_of_methodNamed B.named
  have hlocks := B.notSynchronized
  subst hsz
  have hD := hD0.self (sz := s.heap.size)
  generalize hAe : va_A (wo_X9_patch dC dI cB cI cJ cM h0 tp f tn kd i v m0 m1 m2 m3 m4 m5 m6 m7 m8 m9 m10 m11 m12 m13 m14 m15 m16 m17 m18 m21 m22) s.heap.size = A at hD ⊢
  have hA : ∀ q : Nat, s.heap.size ≤ q → A q := fun q h => by rw [← hAe]; exact Or.inr h
  have hS : va_S A s.heap s.heap [] := va_S.rf
  have hP : va_P (dC, dI) vwCl [(h0, .inr (9, [m0, m1, m2, m3, m4, m5, m6, m7, m8, m9, m10, m11, m12, m13, m14, m15, m16, m17, m18, .ref tp, .int (nI tn), m21, m22, .int kd])), (tp, .inl (cB, 4000, .inl f))] s.heap := hP
  have hD : va_D A [(h0, .inr (9, [m0, m1, m2, m3, m4, m5, m6, m7, m8, m9, m10, m11, m12, m13, m14, m15, m16, m17, m18, .ref tp, .int (nI tn), m21, m22, .int kd])), (tp, .inl (cB, 4000, .inl f))] := hD
  have hl := lv_entry ([.ref h0, .int i, .int v]) (n := 4) (Nat.le_of_ble_eq_true rfl)
  rw [lg_entry_eq]
  generalize (lg_sl ([.ref h0, .int i, .int v]) ++ List.replicate (4 - (lg_sl ([.ref h0, .int i, .int v])).length) Slot.unset).toArray = ls at hl ⊢
  have hl : lv_has ls 4 [(0, .ref h0), (1, .int i), (2, .int v)] := hl
  refine lv_aload_n hx hb dX9_patch_0 rfl (lv_at hl 0 rfl) ?_
  refine lv_iload_n hx hb dX9_patch_1 rfl (lv_at hl 1 rfl) ?_
  refine lv_if_lt (tgt := 17) hx hb dX9_patch_2 (by decide) (fun c2 => ?_) (fun c2 => ?_)
  · refine lv_iconst (v := 0) hx hb dX9_patch_17 (by decide) ?_
    refine lv_iconst (v := 1) hx hb dX9_patch_18 (by decide) ?_
    have hPc := hP.sub (ws' := [(h0, .inr (9, [m0, m1, m2, m3, m4, m5, m6, m7, m8, m9, m10, m11, m12, m13, m14, m15, m16, m17, m18, .ref tp, .int (nI tn), m21, m22, .int kd]))]) [0] rfl
    have hDc := hD.sub (ws' := [(h0, .inr (9, [m0, m1, m2, m3, m4, m5, m6, m7, m8, m9, m10, m11, m12, m13, m14, m15, m16, m17, m18, .ref tp, .int (nI tn), m21, m22, .int kd]))]) [0] (by decide) rfl
    have hFc := va_free (wc := [(h0, .inr (9, [m0, m1, m2, m3, m4, m5, m6, m7, m8, m9, m10, m11, m12, m13, m14, m15, m16, m17, m18, .ref tp, .int (nI tn), m21, m22, .int kd]))]) hD hS hA [0] rfl
    refine va_calli (va_runV (As := [.int 0, .int 1]) (rest := []) ⟨hx, hb, hml, hown, hts⟩ (k_X9_good_f l dC dI cB cI cJ cM h0 kd 1 m0 m1 m2 m3 m4 m5 m6 m7 m8 m9 m10 m11 m12 m13 m14 m15 m16 m17 m18 (.ref tp) (.int (nI tn)) m21 m22  s.heap.size) (cwV 2 hts gX9_patch_X9_good rfl rfl rfl (by decide +kernel) ⟨Nat.le_of_ble_eq_true rfl, Nat.le_of_ble_eq_true rfl⟩) ⟨fun a U g mk q => by obtain ⟨q0, q1, qP, qK, qD⟩ := q; exact ⟨q0, q1, qP, va_K.moved (u := U) (U := U.calling g mk a) (Vm.Alike.refl U.vm) qK, qD⟩, va_recv hK hPc (ci := 9) (q0 := 0) rfl rfl, fun U hU hW => ⟨rfl, by rw [hU], by rw [hU]; exact hPc, va_K.moved hW.alike hK, hDc.weaken (fun _ _ _ _ => trivial)⟩⟩ rfl rfl hl.1 rfl (lv_room (Nat.le_of_ble_eq_true rfl)) dX9_patch_19 ⟨(show 0 + 0 ≤ 0 by omega), (show 0 + 0 ≤ 0 by omega)⟩) hS (fun q _ h => hFc q h) hFc (fun r19 u t H1 locs ht hvm hw hB hz1 hk1 hS => ?_)
    have hP1 : va_P (dC, dI) vwCl [(h0, .inr (9, [m0, m1, m2, m3, m4, m5, m6, m7, m8, m9, m10, m11, m12, m13, m14, m15, m16, m17, m18, .ref tp, .int (nI tn), m21, m22, .int 1]))] H1 := by rw [← ht]; exact hB.1
    have hD1 : va_D (va_A [(h0, .inr (9, [m0, m1, m2, m3, m4, m5, m6, m7, m8, m9, m10, m11, m12, m13, m14, m15, m16, m17, m18, .ref tp, .int (nI tn), m21, m22, .int kd]))] s.heap.size) [(h0, .inr (9, [m0, m1, m2, m3, m4, m5, m6, m7, m8, m9, m10, m11, m12, m13, m14, m15, m16, m17, m18, .ref tp, .int (nI tn), m21, m22, .int 1]))] := hB.2.2
    obtain ⟨hP, hD⟩ := va_join (wr := [(tp, .inl (cB, 4000, .inl f))]) (w1 := [(h0, .inr (9, [m0, m1, m2, m3, m4, m5, m6, m7, m8, m9, m10, m11, m12, m13, m14, m15, m16, m17, m18, .ref tp, .int (nI tn), m21, m22, .int 1]))]) hP hD [0] [1] rfl rfl (by decide) (by decide) hk1 hFc hP1 hD1
    generalize H1 = H at hP hS ⊢
    try dsimp only at hw
    have hP : va_P (dC, dI) vwCl [(tp, .inl (cB, 4000, .inl f)), (h0, .inr (9, [m0, m1, m2, m3, m4, m5, m6, m7, m8, m9, m10, m11, m12, m13, m14, m15, m16, m17, m18, .ref tp, .int (nI tn), m21, m22, .int 1]))] H := hP
    have hD : va_D A [(tp, .inl (cB, 4000, .inl f)), (h0, .inr (9, [m0, m1, m2, m3, m4, m5, m6, m7, m8, m9, m10, m11, m12, m13, m14, m15, m16, m17, m18, .ref tp, .int (nI tn), m21, m22, .int 1]))] := hD
    obtain rfl : r19 = 0 := hw
    refine W.eq (g2 := F0 m 22 ls [.int 0]) rfl ?_
    refine lv_if_ne (tgt := 27) hx hb dX9_patch_22 (by decide) (fun c22 => ?_) (fun c22 => ?_)
    · have c22 : ¬ (0 = 0) := fun h => c22 ((nI_eq (a := 0) (b := 0) (by omega) (by omega)).mpr h)
      exfalso; omega
    · have c22 : 0 = 0 := (nI_eq (a := 0) (b := 0) (by omega) (by omega)).mp c22
      refine lv_iconst (v := 0) hx hb dX9_patch_25 (by decide) ?_
      have hP9 := hP.sub (ws' := [(h0, .inr (9, [m0, m1, m2, m3, m4, m5, m6, m7, m8, m9, m10, m11, m12, m13, m14, m15, m16, m17, m18, .ref tp, .int (nI tn), m21, m22, .int 1])), (tp, .inl (cB, 4000, .inl f))]) [1, 0] rfl
      have hD9 := hD.sub (ws' := [(h0, .inr (9, [m0, m1, m2, m3, m4, m5, m6, m7, m8, m9, m10, m11, m12, m13, m14, m15, m16, m17, m18, .ref tp, .int (nI tn), m21, m22, .int 1])), (tp, .inl (cB, 4000, .inl f))]) [1, 0] (by decide) rfl
      exact W.iret (v := 0) hx hb hr (fun t ht hW => ⟨⟨0, (f, 1), rfl, Or.inr ⟨Or.inl c2, rfl⟩, ⟨by rw [ht]; exact hP9, va_K.moved hW.alike hK, hD9⟩⟩, hS.F ht⟩) hS.2.2 dX9_patch_26
  · refine lv_iload_n hx hb dX9_patch_5 rfl (lv_at hl 1 rfl) ?_
    refine lv_aload_n hx hb dX9_patch_6 rfl (lv_at hl 0 rfl) ?_
    refine va_get (D := (dC, dI)) (ci := 9) (v := .int (nI tn)) (C := RX9) (T := TX9) (N := 24) hx hb hts (by decide +kernel) hown hK hP 0 rfl rfl 20 (by decide) (hts (.fieldLink RX9 153 "FixedPressModel" "taped" "I") (by decide +kernel)) (fun _ h9 => h9) rfl dX9_patch_7 ?_
    refine lv_icmp_ge (tgt := 17) hx hb dX9_patch_10 (by decide) (fun c10 => ?_) (fun c10 => ?_)
    · refine lv_iconst (v := 0) hx hb dX9_patch_17 (by decide) ?_
      refine lv_iconst (v := 1) hx hb dX9_patch_18 (by decide) ?_
      have hPc := hP.sub (ws' := [(h0, .inr (9, [m0, m1, m2, m3, m4, m5, m6, m7, m8, m9, m10, m11, m12, m13, m14, m15, m16, m17, m18, .ref tp, .int (nI tn), m21, m22, .int kd]))]) [0] rfl
      have hDc := hD.sub (ws' := [(h0, .inr (9, [m0, m1, m2, m3, m4, m5, m6, m7, m8, m9, m10, m11, m12, m13, m14, m15, m16, m17, m18, .ref tp, .int (nI tn), m21, m22, .int kd]))]) [0] (by decide) rfl
      have hFc := va_free (wc := [(h0, .inr (9, [m0, m1, m2, m3, m4, m5, m6, m7, m8, m9, m10, m11, m12, m13, m14, m15, m16, m17, m18, .ref tp, .int (nI tn), m21, m22, .int kd]))]) hD hS hA [0] rfl
      refine va_calli (va_runV (As := [.int 0, .int 1]) (rest := []) ⟨hx, hb, hml, hown, hts⟩ (k_X9_good_f l dC dI cB cI cJ cM h0 kd 1 m0 m1 m2 m3 m4 m5 m6 m7 m8 m9 m10 m11 m12 m13 m14 m15 m16 m17 m18 (.ref tp) (.int (nI tn)) m21 m22  s.heap.size) (cwV 2 hts gX9_patch_X9_good rfl rfl rfl (by decide +kernel) ⟨Nat.le_of_ble_eq_true rfl, Nat.le_of_ble_eq_true rfl⟩) ⟨fun a U g mk q => by obtain ⟨q0, q1, qP, qK, qD⟩ := q; exact ⟨q0, q1, qP, va_K.moved (u := U) (U := U.calling g mk a) (Vm.Alike.refl U.vm) qK, qD⟩, va_recv hK hPc (ci := 9) (q0 := 0) rfl rfl, fun U hU hW => ⟨rfl, by rw [hU], by rw [hU]; exact hPc, va_K.moved hW.alike hK, hDc.weaken (fun _ _ _ _ => trivial)⟩⟩ rfl rfl hl.1 rfl (lv_room (Nat.le_of_ble_eq_true rfl)) dX9_patch_19 ⟨(show 0 + 0 ≤ 0 by omega), (show 0 + 0 ≤ 0 by omega)⟩) hS (fun q _ h => hFc q h) hFc (fun r19 u t H1 locs ht hvm hw hB hz1 hk1 hS => ?_)
      have hP1 : va_P (dC, dI) vwCl [(h0, .inr (9, [m0, m1, m2, m3, m4, m5, m6, m7, m8, m9, m10, m11, m12, m13, m14, m15, m16, m17, m18, .ref tp, .int (nI tn), m21, m22, .int 1]))] H1 := by rw [← ht]; exact hB.1
      have hD1 : va_D (va_A [(h0, .inr (9, [m0, m1, m2, m3, m4, m5, m6, m7, m8, m9, m10, m11, m12, m13, m14, m15, m16, m17, m18, .ref tp, .int (nI tn), m21, m22, .int kd]))] s.heap.size) [(h0, .inr (9, [m0, m1, m2, m3, m4, m5, m6, m7, m8, m9, m10, m11, m12, m13, m14, m15, m16, m17, m18, .ref tp, .int (nI tn), m21, m22, .int 1]))] := hB.2.2
      obtain ⟨hP, hD⟩ := va_join (wr := [(tp, .inl (cB, 4000, .inl f))]) (w1 := [(h0, .inr (9, [m0, m1, m2, m3, m4, m5, m6, m7, m8, m9, m10, m11, m12, m13, m14, m15, m16, m17, m18, .ref tp, .int (nI tn), m21, m22, .int 1]))]) hP hD [0] [1] rfl rfl (by decide) (by decide) hk1 hFc hP1 hD1
      generalize H1 = H at hP hS ⊢
      try dsimp only at hw
      have hP : va_P (dC, dI) vwCl [(tp, .inl (cB, 4000, .inl f)), (h0, .inr (9, [m0, m1, m2, m3, m4, m5, m6, m7, m8, m9, m10, m11, m12, m13, m14, m15, m16, m17, m18, .ref tp, .int (nI tn), m21, m22, .int 1]))] H := hP
      have hD : va_D A [(tp, .inl (cB, 4000, .inl f)), (h0, .inr (9, [m0, m1, m2, m3, m4, m5, m6, m7, m8, m9, m10, m11, m12, m13, m14, m15, m16, m17, m18, .ref tp, .int (nI tn), m21, m22, .int 1]))] := hD
      obtain rfl : r19 = 0 := hw
      refine W.eq (g2 := F0 m 22 ls [.int 0]) rfl ?_
      refine lv_if_ne (tgt := 27) hx hb dX9_patch_22 (by decide) (fun c22 => ?_) (fun c22 => ?_)
      · have c22 : ¬ (0 = 0) := fun h => c22 ((nI_eq (a := 0) (b := 0) (by omega) (by omega)).mpr h)
        exfalso; omega
      · have c22 : 0 = 0 := (nI_eq (a := 0) (b := 0) (by omega) (by omega)).mp c22
        refine lv_iconst (v := 0) hx hb dX9_patch_25 (by decide) ?_
        have hP9 := hP.sub (ws' := [(h0, .inr (9, [m0, m1, m2, m3, m4, m5, m6, m7, m8, m9, m10, m11, m12, m13, m14, m15, m16, m17, m18, .ref tp, .int (nI tn), m21, m22, .int 1])), (tp, .inl (cB, 4000, .inl f))]) [1, 0] rfl
        have hD9 := hD.sub (ws' := [(h0, .inr (9, [m0, m1, m2, m3, m4, m5, m6, m7, m8, m9, m10, m11, m12, m13, m14, m15, m16, m17, m18, .ref tp, .int (nI tn), m21, m22, .int 1])), (tp, .inl (cB, 4000, .inl f))]) [1, 0] (by decide) rfl
        exact W.iret (v := 0) hx hb hr (fun t ht hW => ⟨⟨0, (f, 1), rfl, Or.inr ⟨Or.inr c10, rfl⟩, ⟨by rw [ht]; exact hP9, va_K.moved hW.alike hK, hD9⟩⟩, hS.F ht⟩) hS.2.2 dX9_patch_26
    · obtain ⟨j, hj, hij⟩ := z_word (rn := tn) (by omega) c2 (Int32.not_le.mp c10)
      rw [hij] at hl
      refine lv_iconst (v := 1) hx hb dX9_patch_13 (by decide) ?_
      refine lv_goto (tgt := 18) hx hb dX9_patch_14 (by decide) ?_
      refine lv_iconst (v := 1) hx hb dX9_patch_18 (by decide) ?_
      have hPc := hP.sub (ws' := [(h0, .inr (9, [m0, m1, m2, m3, m4, m5, m6, m7, m8, m9, m10, m11, m12, m13, m14, m15, m16, m17, m18, .ref tp, .int (nI tn), m21, m22, .int kd]))]) [0] rfl
      have hDc := hD.sub (ws' := [(h0, .inr (9, [m0, m1, m2, m3, m4, m5, m6, m7, m8, m9, m10, m11, m12, m13, m14, m15, m16, m17, m18, .ref tp, .int (nI tn), m21, m22, .int kd]))]) [0] (by decide) rfl
      have hFc := va_free (wc := [(h0, .inr (9, [m0, m1, m2, m3, m4, m5, m6, m7, m8, m9, m10, m11, m12, m13, m14, m15, m16, m17, m18, .ref tp, .int (nI tn), m21, m22, .int kd]))]) hD hS hA [0] rfl
      refine va_calli (va_runV (As := [.int 1, .int 1]) (rest := []) ⟨hx, hb, hml, hown, hts⟩ (k_X9_good_t l dC dI cB cI cJ cM h0 kd 1 m0 m1 m2 m3 m4 m5 m6 m7 m8 m9 m10 m11 m12 m13 m14 m15 m16 m17 m18 (.ref tp) (.int (nI tn)) m21 m22  s.heap.size) (cwV 2 hts gX9_patch_X9_good rfl rfl rfl (by decide +kernel) ⟨Nat.le_of_ble_eq_true rfl, Nat.le_of_ble_eq_true rfl⟩) ⟨fun a U g mk q => by obtain ⟨q0, q1, qP, qK, qD⟩ := q; exact ⟨q0, q1, qP, va_K.moved (u := U) (U := U.calling g mk a) (Vm.Alike.refl U.vm) qK, qD⟩, va_recv hK hPc (ci := 9) (q0 := 0) rfl rfl, fun U hU hW => ⟨rfl, by rw [hU], by rw [hU]; exact hPc, va_K.moved hW.alike hK, hDc.weaken (fun _ _ _ _ => trivial)⟩⟩ rfl rfl hl.1 rfl (lv_room (Nat.le_of_ble_eq_true rfl)) dX9_patch_19 ⟨(show 0 + 0 ≤ 0 by omega), (show 0 + 0 ≤ 0 by omega)⟩) hS (fun q _ h => hFc q h) hFc (fun r19 u t H1 locs ht hvm hw hB hz1 hk1 hS => ?_)
      have hP1 : va_P (dC, dI) vwCl [(h0, .inr (9, [m0, m1, m2, m3, m4, m5, m6, m7, m8, m9, m10, m11, m12, m13, m14, m15, m16, m17, m18, .ref tp, .int (nI tn), m21, m22, .int 0]))] H1 := by rw [← ht]; exact hB.1
      have hD1 : va_D (va_A [(h0, .inr (9, [m0, m1, m2, m3, m4, m5, m6, m7, m8, m9, m10, m11, m12, m13, m14, m15, m16, m17, m18, .ref tp, .int (nI tn), m21, m22, .int kd]))] s.heap.size) [(h0, .inr (9, [m0, m1, m2, m3, m4, m5, m6, m7, m8, m9, m10, m11, m12, m13, m14, m15, m16, m17, m18, .ref tp, .int (nI tn), m21, m22, .int 0]))] := hB.2.2
      obtain ⟨hP, hD⟩ := va_join (wr := [(tp, .inl (cB, 4000, .inl f))]) (w1 := [(h0, .inr (9, [m0, m1, m2, m3, m4, m5, m6, m7, m8, m9, m10, m11, m12, m13, m14, m15, m16, m17, m18, .ref tp, .int (nI tn), m21, m22, .int 0]))]) hP hD [0] [1] rfl rfl (by decide) (by decide) hk1 hFc hP1 hD1
      generalize H1 = H at hP hS ⊢
      try dsimp only at hw
      have hP : va_P (dC, dI) vwCl [(tp, .inl (cB, 4000, .inl f)), (h0, .inr (9, [m0, m1, m2, m3, m4, m5, m6, m7, m8, m9, m10, m11, m12, m13, m14, m15, m16, m17, m18, .ref tp, .int (nI tn), m21, m22, .int 0]))] H := hP
      have hD : va_D A [(tp, .inl (cB, 4000, .inl f)), (h0, .inr (9, [m0, m1, m2, m3, m4, m5, m6, m7, m8, m9, m10, m11, m12, m13, m14, m15, m16, m17, m18, .ref tp, .int (nI tn), m21, m22, .int 0]))] := hD
      obtain rfl : r19 = 1 := hw
      refine W.eq (g2 := F0 m 22 ls [.int 1]) rfl ?_
      refine lv_if_ne (tgt := 27) hx hb dX9_patch_22 (by decide) (fun c22 => ?_) (fun c22 => ?_)
      · have c22 : ¬ (1 = 0) := fun h => c22 ((nI_eq (a := 1) (b := 0) (by omega) (by omega)).mpr h)
        refine lv_aload_n hx hb dX9_patch_27 rfl (lv_at hl 0 rfl) ?_
        refine va_get (D := (dC, dI)) (ci := 9) (v := .ref tp) (C := RX9) (T := TX9) (N := 24) hx hb hts (by decide +kernel) hown hK hP 1 rfl rfl 19 (by decide) (hts (.fieldLink RX9 144 "FixedPressModel" "tape" "[B") (by decide +kernel)) (fun _ h9 => h9) rfl dX9_patch_28 ?_
        refine lv_iload_n hx hb dX9_patch_31 rfl (lv_at hl 1 rfl) ?_
        refine va_bald hx hb hK hP 0 0 rfl rfl (vp_in_nI (n := j) (by omega) (by omega)) dX9_patch_32 ?_
        rw [nI_clamp (n := j) (by omega)]
        refine lv_sipush (v := 255) hx hb dX9_patch_33 (by decide) ?_
        refine lv_iand hx hb dX9_patch_36 ?_
        refine lv_istore_n (lv' := [(3, .int ((f j) &&& 255)), (0, .ref h0), (1, .int (nI j)), (2, .int v)]) hx hb dX9_patch_37 rfl hl (by decide) rfl (fun ls hl => ?_)
        refine lv_aload_n hx hb dX9_patch_38 rfl (lv_at hl 1 rfl) ?_
        refine va_get (D := (dC, dI)) (ci := 9) (v := .ref tp) (C := RX9) (T := TX9) (N := 24) hx hb hts (by decide +kernel) hown hK hP 1 rfl rfl 19 (by decide) (hts (.fieldLink RX9 144 "FixedPressModel" "tape" "[B") (by decide +kernel)) (fun _ h9 => h9) rfl dX9_patch_39 ?_
        refine lv_iload_n hx hb dX9_patch_42 rfl (lv_at hl 2 rfl) ?_
        refine lv_iload_n hx hb dX9_patch_43 rfl (lv_at hl 3 rfl) ?_
        refine lv_i2b hx hb dX9_patch_44 rfl ?_
        refine va_bast hx hb hK hP hD hS 0 0 rfl rfl (vp_in_nI (n := j) (by omega) (by omega)) dX9_patch_45 (fun H locs hP hD hS => ?_)
        rw [nI_clamp (n := j) (by omega)] at hP hD
        have hP : va_P (dC, dI) vwCl [(tp, .inl (cB, 4000, .inl (upd f j (vp_nar .byte v.toInt8.toInt32)))), (h0, .inr (9, [m0, m1, m2, m3, m4, m5, m6, m7, m8, m9, m10, m11, m12, m13, m14, m15, m16, m17, m18, .ref tp, .int (nI tn), m21, m22, .int 0]))] H := hP
        have hD : va_D A [(tp, .inl (cB, 4000, .inl (upd f j (vp_nar .byte v.toInt8.toInt32)))), (h0, .inr (9, [m0, m1, m2, m3, m4, m5, m6, m7, m8, m9, m10, m11, m12, m13, m14, m15, m16, m17, m18, .ref tp, .int (nI tn), m21, m22, .int 0]))] := hD
        rw [pk_vb] at hP hD
        have hP : va_P (dC, dI) vwCl [(tp, .inl (cB, 4000, .inl (upd f j v.toInt8.toInt32))), (h0, .inr (9, [m0, m1, m2, m3, m4, m5, m6, m7, m8, m9, m10, m11, m12, m13, m14, m15, m16, m17, m18, .ref tp, .int (nI tn), m21, m22, .int 0]))] H := hP
        have hD : va_D A [(tp, .inl (cB, 4000, .inl (upd f j v.toInt8.toInt32))), (h0, .inr (9, [m0, m1, m2, m3, m4, m5, m6, m7, m8, m9, m10, m11, m12, m13, m14, m15, m16, m17, m18, .ref tp, .int (nI tn), m21, m22, .int 0]))] := hD
        refine lv_iload_n hx hb dX9_patch_46 rfl (lv_at hl 0 rfl) ?_
        have hP9 := hP.sub (ws' := [(h0, .inr (9, [m0, m1, m2, m3, m4, m5, m6, m7, m8, m9, m10, m11, m12, m13, m14, m15, m16, m17, m18, .ref tp, .int (nI tn), m21, m22, .int 0])), (tp, .inl (cB, 4000, .inl (upd f j v.toInt8.toInt32)))]) [1, 0] rfl
        have hD9 := hD.sub (ws' := [(h0, .inr (9, [m0, m1, m2, m3, m4, m5, m6, m7, m8, m9, m10, m11, m12, m13, m14, m15, m16, m17, m18, .ref tp, .int (nI tn), m21, m22, .int 0])), (tp, .inl (cB, 4000, .inl (upd f j v.toInt8.toInt32)))]) [1, 0] (by decide) rfl
        exact W.iret (v := ((f j) &&& 255)) hx hb hr (fun t ht hW => ⟨⟨((f j) &&& 255), (upd f j v.toInt8.toInt32, 0), rfl, Or.inl ⟨j, hj, hij, rfl, rfl⟩, ⟨by rw [ht]; exact hP9, va_K.moved hW.alike hK, hD9⟩⟩, hS.F ht⟩) hS.2.2 dX9_patch_47
      · have c22 : 1 = 0 := (nI_eq (a := 1) (b := 0) (by omega) (by omega)).mp c22
        exfalso; omega

abbrev rm_X9_sum : Room := { frames := 1, cells := 0, slots := 0, locals := 25 }
abbrev wo_X9_sum (dC : Nat → ClassId) (dI : Nat → Nat → Nat) (cB cI cJ cM : ClassId) (h0 rp : Nat) (f : Nat → Int32) (rn : Nat) (kd : Int32) (m0 m1 m2 m3 m4 m5 m6 m7 m8 m9 m10 m11 m12 m13 m14 m15 m16 m17 m18 m19 m20 : Value) : va_W := [(h0, .inr (9, [m0, m1, m2, m3, m4, m5, m6, m7, m8, m9, m10, m11, m12, m13, m14, m15, m16, m17, m18, m19, m20, .ref rp, .int (nI rn), .int kd])), (rp, .inl (cB, 8192, .inl f))]
abbrev q_X9_sum (dC : Nat → ClassId) (dI : Nat → Nat → Nat) (cB cI cJ cM : ClassId) (h0 rp : Nat) (f : Nat → Int32) (rn : Nat) (kd : Int32) (m0 m1 m2 m3 m4 m5 m6 m7 m8 m9 m10 m11 m12 m13 m14 m15 m16 m17 m18 m19 m20 : Value) (A : Nat → Prop) : Array Value → State → Outcome → State → Prop := va_Qi (fun (r : Int32) (u : Unit) => r = zadler f rn) (zB dC dI cB cI cJ cM A (fun u : Unit => [(h0, .inr (9, [m0, m1, m2, m3, m4, m5, m6, m7, m8, m9, m10, m11, m12, m13, m14, m15, m16, m17, m18, m19, m20, .ref rp, .int (nI rn), .int 0])), (rp, .inl (cB, 8192, .inl f))])) A
set_option maxHeartbeats 8000000 in
set_option maxRecDepth 100000 in
/-- sum of the reference -/
theorem k_X9_sum (l : Launch) (dC : Nat → ClassId) (dI : Nat → Nat → Nat) (cB cI cJ cM : ClassId) (h0 rp : Nat) (f : Nat → Int32) (rn : Nat) (kd : Int32) (m0 m1 m2 m3 m4 m5 m6 m7 m8 m9 m10 m11 m12 m13 m14 m15 m16 m17 m18 m19 m20 : Value) (h1 : rn ≤ 8192) (sz : Nat) : Met l yX9_sum wsX9_sum rm_X9_sum (va_Pc [.ref h0] (fun U => U.heap.size = sz ∧ va_P (dC, dI) vwCl (wo_X9_sum dC dI cB cI cJ cM h0 rp f rn kd m0 m1 m2 m3 m4 m5 m6 m7 m8 m9 m10 m11 m12 m13 m14 m15 m16 m17 m18 m19 m20) U.heap ∧ va_K (dC, dI) vwCl (zT cB cI cJ cM) U ∧ va_D (fun _ => True) (wo_X9_sum dC dI cB cI cJ cM h0 rp f rn kd m0 m1 m2 m3 m4 m5 m6 m7 m8 m9 m10 m11 m12 m13 m14 m15 m16 m17 m18 m19 m20))) (q_X9_sum dC dI cB cI cJ cM h0 rp f rn kd m0 m1 m2 m3 m4 m5 m6 m7 m8 m9 m10 m11 m12 m13 m14 m15 m16 m17 m18 m19 m20 (va_A (wo_X9_sum dC dI cB cI cJ cM h0 rp f rn kd m0 m1 m2 m3 m4 m5 m6 m7 m8 m9 m10 m11 m12 m13 m14 m15 m16 m17 m18 m19 m20) sz)) 0 0 (va_A (wo_X9_sum dC dI cB cI cJ cM h0 rp f rn kd m0 m1 m2 m3 m4 m5 m6 m7 m8 m9 m10 m11 m12 m13 m14 m15 m16 m17 m18 m19 m20) sz) := by
  refine Met.ofW (cc := cX9_sum) (maxL := 1) (ret := (some .int)) (by decide) rfl ?_
  intro p e s m args below meth c s₁ B hml hv
  obtain ⟨rfl, hsz, hP, hK, hD0⟩ := hv
  have hx := B.exec
  have hb := B.bytes
  have hr := B.returns
  have hts := atoms_spec (ws := wsX9_sum) B.pre
  have hown : s.vm.findClass RX9 = some m.cls := findClass_of_methodNamed B.named
  have hlocks := B.notSynchronized
  subst hsz
  have hD := hD0.self (sz := s.heap.size)
  generalize hAe : va_A (wo_X9_sum dC dI cB cI cJ cM h0 rp f rn kd m0 m1 m2 m3 m4 m5 m6 m7 m8 m9 m10 m11 m12 m13 m14 m15 m16 m17 m18 m19 m20) s.heap.size = A at hD ⊢
  have hA : ∀ q : Nat, s.heap.size ≤ q → A q := fun q h => by rw [← hAe]; exact Or.inr h
  have hS : va_S A s.heap s.heap [] := va_S.rf
  have hP : va_P (dC, dI) vwCl [(h0, .inr (9, [m0, m1, m2, m3, m4, m5, m6, m7, m8, m9, m10, m11, m12, m13, m14, m15, m16, m17, m18, m19, m20, .ref rp, .int (nI rn), .int kd])), (rp, .inl (cB, 8192, .inl f))] s.heap := hP
  have hD : va_D A [(h0, .inr (9, [m0, m1, m2, m3, m4, m5, m6, m7, m8, m9, m10, m11, m12, m13, m14, m15, m16, m17, m18, m19, m20, .ref rp, .int (nI rn), .int kd])), (rp, .inl (cB, 8192, .inl f))] := hD
  have hl := lv_entry ([.ref h0]) (n := 1) (Nat.le_of_ble_eq_true rfl)
  rw [lg_entry_eq]
  generalize (lg_sl ([.ref h0]) ++ List.replicate (1 - (lg_sl ([.ref h0])).length) Slot.unset).toArray = ls at hl ⊢
  have hl : lv_has ls 1 [(0, .ref h0)] := hl
  refine lv_aload_n hx hb dX9_sum_0 rfl (lv_at hl 0 rfl) ?_
  refine lv_iconst (v := 0) hx hb dX9_sum_1 (by decide) ?_
  refine va_put (D := (dC, dI)) (ci := 9) (v := .int 0) (ty := .int) (C := RX9) (T := TX9) (N := 24) hx hb hts (by decide +kernel) tyX9 tyX9_ok nmX9 hown hK hP hD hS 0 rfl rfl 23 (by decide) (hts (.fieldLink RX9 150 "FixedPressModel" "code" "I") (by decide +kernel)) (fun _ h9 => h9) rfl (by decide +kernel) rfl rfl (Nat.le_of_ble_eq_true rfl) dX9_sum_2 (fun H locs hP hD hS => ?_)
  have hP : va_P (dC, dI) vwCl [(h0, .inr (9, [m0, m1, m2, m3, m4, m5, m6, m7, m8, m9, m10, m11, m12, m13, m14, m15, m16, m17, m18, m19, m20, .ref rp, .int (nI rn), .int 0])), (rp, .inl (cB, 8192, .inl f))] H := hP
  have hD : va_D A [(h0, .inr (9, [m0, m1, m2, m3, m4, m5, m6, m7, m8, m9, m10, m11, m12, m13, m14, m15, m16, m17, m18, m19, m20, .ref rp, .int (nI rn), .int 0])), (rp, .inl (cB, 8192, .inl f))] := hD
  refine lv_aload_n hx hb dX9_sum_5 rfl (lv_at hl 0 rfl) ?_
  refine va_get (D := (dC, dI)) (ci := 9) (v := .ref rp) (C := RX9) (T := TX9) (N := 24) hx hb hts (by decide +kernel) hown hK hP 0 rfl rfl 21 (by decide) (hts (.fieldLink RX9 147 "FixedPressModel" "result" "[B") (by decide +kernel)) (fun _ h9 => h9) rfl dX9_sum_6 ?_
  refine lv_iconst (v := 0) hx hb dX9_sum_9 (by decide) ?_
  refine lv_aload_n hx hb dX9_sum_10 rfl (lv_at hl 0 rfl) ?_
  refine va_get (D := (dC, dI)) (ci := 9) (v := .int (nI rn)) (C := RX9) (T := TX9) (N := 24) hx hb hts (by decide +kernel) hown hK hP 0 rfl rfl 22 (by decide) (hts (.fieldLink RX9 168 "FixedPressModel" "resultLength" "I") (by decide +kernel)) (fun _ h9 => h9) rfl dX9_sum_11 ?_
  have hPc := hP.sub (ws' := [(rp, .inl (cB, 8192, .inl f))]) [1] rfl
  have hDc := hD.sub (ws' := [(rp, .inl (cB, 8192, .inl f))]) [1] (by decide) rfl
  have hFc := va_free (wc := [(rp, .inl (cB, 8192, .inl f))]) hD hS hA [1] rfl
  refine va_calli (va_runS (As := [.ref rp, .int 0, .int (nI rn)]) (rest := []) ⟨hx, hb, hml, hown, hts⟩ (k_X9_adler l dC dI cB cI cJ cM rp 8192 f rn (by omega) (by omega) H.size) (va_cwS 3 hts gX9_sum_X9_adler rfl rfl rfl (by decide +kernel) ⟨Nat.le_of_ble_eq_true rfl, Nat.le_of_ble_eq_true rfl⟩) ⟨fun a U g mk q => by obtain ⟨q0, q1, qP, qK, qD⟩ := q; exact ⟨q0, q1, qP, va_K.moved (u := U) (U := U.calling g mk a) (Vm.Alike.refl U.vm) qK, qD⟩, fun U hU hW => ⟨rfl, by rw [hU], by rw [hU]; exact hPc, va_K.moved hW.alike hK, hDc.weaken (fun _ _ _ _ => trivial)⟩⟩ rfl rfl hl.1 rfl (lv_room (Nat.le_of_ble_eq_true rfl)) dX9_sum_14 ⟨(show 0 + 0 ≤ 0 by omega), (show 0 + 0 ≤ 0 by omega)⟩) hS (fun q _ h => hFc q h) hFc (fun r14 u t H1 locs ht hvm hw hB hz1 hk1 hS => ?_)
  have hP1 : va_P (dC, dI) vwCl [(rp, .inl (cB, 8192, .inl f))] H1 := by rw [← ht]; exact hB.1
  have hD1 : va_D (va_A [(rp, .inl (cB, 8192, .inl f))] H.size) [(rp, .inl (cB, 8192, .inl f))] := hB.2.2
  obtain ⟨hP, hD⟩ := va_join (wr := [(h0, .inr (9, [m0, m1, m2, m3, m4, m5, m6, m7, m8, m9, m10, m11, m12, m13, m14, m15, m16, m17, m18, m19, m20, .ref rp, .int (nI rn), .int 0]))]) (w1 := [(rp, .inl (cB, 8192, .inl f))]) hP hD [1] [0] rfl rfl (by decide) (by decide) hk1 hFc hP1 hD1
  generalize H1 = H at hP hS ⊢
  try dsimp only at hw
  have hP : va_P (dC, dI) vwCl [(h0, .inr (9, [m0, m1, m2, m3, m4, m5, m6, m7, m8, m9, m10, m11, m12, m13, m14, m15, m16, m17, m18, m19, m20, .ref rp, .int (nI rn), .int 0])), (rp, .inl (cB, 8192, .inl f))] H := hP
  have hD : va_D A [(h0, .inr (9, [m0, m1, m2, m3, m4, m5, m6, m7, m8, m9, m10, m11, m12, m13, m14, m15, m16, m17, m18, m19, m20, .ref rp, .int (nI rn), .int 0])), (rp, .inl (cB, 8192, .inl f))] := hD
  have hw14 := hw
  refine W.eq (g2 := F0 m 17 ls [.int r14]) rfl ?_
  have hP9 := hP.sub (ws' := [(h0, .inr (9, [m0, m1, m2, m3, m4, m5, m6, m7, m8, m9, m10, m11, m12, m13, m14, m15, m16, m17, m18, m19, m20, .ref rp, .int (nI rn), .int 0])), (rp, .inl (cB, 8192, .inl f))]) [0, 1] rfl
  have hD9 := hD.sub (ws' := [(h0, .inr (9, [m0, m1, m2, m3, m4, m5, m6, m7, m8, m9, m10, m11, m12, m13, m14, m15, m16, m17, m18, m19, m20, .ref rp, .int (nI rn), .int 0])), (rp, .inl (cB, 8192, .inl f))]) [0, 1] (by decide) rfl
  exact W.iret (v := r14) hx hb hr (fun t ht hW => ⟨⟨r14, (), rfl, hw14, ⟨by rw [ht]; exact hP9, va_K.moved hW.alike hK, hD9⟩⟩, hS.F ht⟩) hS.2.2 dX9_sum_17

abbrev rm_X9_word : Room := { frames := 1, cells := 0, slots := 0, locals := 22 }
abbrev wo_X9_word (dC : Nat → ClassId) (dI : Nat → Nat → Nat) (cB cI cJ cM : ClassId) (h0 rp : Nat) (f : Nat → Int32) (rn : Nat) (kd i : Int32) (m0 m1 m2 m3 m4 m5 m6 m7 m8 m9 m10 m11 m12 m13 m14 m15 m16 m17 m18 m19 m20 : Value) : va_W := [(h0, .inr (9, [m0, m1, m2, m3, m4, m5, m6, m7, m8, m9, m10, m11, m12, m13, m14, m15, m16, m17, m18, m19, m20, .ref rp, .int (nI rn), .int kd])), (rp, .inl (cB, 8192, .inl f))]
abbrev q_X9_word (dC : Nat → ClassId) (dI : Nat → Nat → Nat) (cB cI cJ cM : ClassId) (h0 rp : Nat) (f : Nat → Int32) (rn : Nat) (kd i : Int32) (m0 m1 m2 m3 m4 m5 m6 m7 m8 m9 m10 m11 m12 m13 m14 m15 m16 m17 m18 m19 m20 : Value) (A : Nat → Prop) : Array Value → State → Outcome → State → Prop := va_Ql (fun (r : Int64) (u : Int32) => (∃ j, j < rn ∧ i = nI j ∧ r = zwd f rn j 8 ∧ u = 0) ∨ ((i < 0 ∨ nI rn ≤ i) ∧ u = 1)) (zB dC dI cB cI cJ cM A (fun u : Int32 => [(h0, .inr (9, [m0, m1, m2, m3, m4, m5, m6, m7, m8, m9, m10, m11, m12, m13, m14, m15, m16, m17, m18, m19, m20, .ref rp, .int (nI rn), .int u])), (rp, .inl (cB, 8192, .inl f))])) A
set_option maxHeartbeats 8000000 in
set_option maxRecDepth 100000 in
/-- word of the reference -/
theorem k_X9_word (l : Launch) (dC : Nat → ClassId) (dI : Nat → Nat → Nat) (cB cI cJ cM : ClassId) (h0 rp : Nat) (f : Nat → Int32) (rn : Nat) (kd i : Int32) (m0 m1 m2 m3 m4 m5 m6 m7 m8 m9 m10 m11 m12 m13 m14 m15 m16 m17 m18 m19 m20 : Value) (h1 : rn ≤ 8192) (sz : Nat) : Met l yX9_word wsX9_word rm_X9_word (va_Pc [.ref h0, .int i] (fun U => U.heap.size = sz ∧ va_P (dC, dI) vwCl (wo_X9_word dC dI cB cI cJ cM h0 rp f rn kd i m0 m1 m2 m3 m4 m5 m6 m7 m8 m9 m10 m11 m12 m13 m14 m15 m16 m17 m18 m19 m20) U.heap ∧ va_K (dC, dI) vwCl (zT cB cI cJ cM) U ∧ va_D (fun _ => True) (wo_X9_word dC dI cB cI cJ cM h0 rp f rn kd i m0 m1 m2 m3 m4 m5 m6 m7 m8 m9 m10 m11 m12 m13 m14 m15 m16 m17 m18 m19 m20))) (q_X9_word dC dI cB cI cJ cM h0 rp f rn kd i m0 m1 m2 m3 m4 m5 m6 m7 m8 m9 m10 m11 m12 m13 m14 m15 m16 m17 m18 m19 m20 (va_A (wo_X9_word dC dI cB cI cJ cM h0 rp f rn kd i m0 m1 m2 m3 m4 m5 m6 m7 m8 m9 m10 m11 m12 m13 m14 m15 m16 m17 m18 m19 m20) sz)) 0 0 (va_A (wo_X9_word dC dI cB cI cJ cM h0 rp f rn kd i m0 m1 m2 m3 m4 m5 m6 m7 m8 m9 m10 m11 m12 m13 m14 m15 m16 m17 m18 m19 m20) sz) := by
  refine Met.ofW (cc := cX9_word) (maxL := 5) (ret := (some .long)) (by decide) rfl ?_
  intro p e s m args below meth c s₁ B hml hv
  obtain ⟨rfl, hsz, hP, hK, hD0⟩ := hv
  have hx := B.exec
  have hb := B.bytes
  have hr := B.returns
  have hts := atoms_spec (ws := wsX9_word) B.pre
  have hown : s.vm.findClass RX9 = some m.cls := findClass_of_methodNamed B.named
  have hlocks := B.notSynchronized
  subst hsz
  have hD := hD0.self (sz := s.heap.size)
  generalize hAe : va_A (wo_X9_word dC dI cB cI cJ cM h0 rp f rn kd i m0 m1 m2 m3 m4 m5 m6 m7 m8 m9 m10 m11 m12 m13 m14 m15 m16 m17 m18 m19 m20) s.heap.size = A at hD ⊢
  have hA : ∀ q : Nat, s.heap.size ≤ q → A q := fun q h => by rw [← hAe]; exact Or.inr h
  have hS : va_S A s.heap s.heap [] := va_S.rf
  have hP : va_P (dC, dI) vwCl [(h0, .inr (9, [m0, m1, m2, m3, m4, m5, m6, m7, m8, m9, m10, m11, m12, m13, m14, m15, m16, m17, m18, m19, m20, .ref rp, .int (nI rn), .int kd])), (rp, .inl (cB, 8192, .inl f))] s.heap := hP
  have hD : va_D A [(h0, .inr (9, [m0, m1, m2, m3, m4, m5, m6, m7, m8, m9, m10, m11, m12, m13, m14, m15, m16, m17, m18, m19, m20, .ref rp, .int (nI rn), .int kd])), (rp, .inl (cB, 8192, .inl f))] := hD
  have hl := lv_entry ([.ref h0, .int i]) (n := 5) (Nat.le_of_ble_eq_true rfl)
  rw [lg_entry_eq]
  generalize (lg_sl ([.ref h0, .int i]) ++ List.replicate (5 - (lg_sl ([.ref h0, .int i])).length) Slot.unset).toArray = ls at hl ⊢
  have hl : lv_has ls 5 [(0, .ref h0), (1, .int i)] := hl
  refine lv_aload_n hx hb dX9_word_0 rfl (lv_at hl 0 rfl) ?_
  refine lv_iload_n hx hb dX9_word_1 rfl (lv_at hl 1 rfl) ?_
  refine lv_if_lt (tgt := 17) hx hb dX9_word_2 (by decide) (fun c2 => ?_) (fun c2 => ?_)
  · refine lv_iconst (v := 0) hx hb dX9_word_17 (by decide) ?_
    refine lv_iconst (v := 1) hx hb dX9_word_18 (by decide) ?_
    have hPc := hP.sub (ws' := [(h0, .inr (9, [m0, m1, m2, m3, m4, m5, m6, m7, m8, m9, m10, m11, m12, m13, m14, m15, m16, m17, m18, m19, m20, .ref rp, .int (nI rn), .int kd]))]) [0] rfl
    have hDc := hD.sub (ws' := [(h0, .inr (9, [m0, m1, m2, m3, m4, m5, m6, m7, m8, m9, m10, m11, m12, m13, m14, m15, m16, m17, m18, m19, m20, .ref rp, .int (nI rn), .int kd]))]) [0] (by decide) rfl
    have hFc := va_free (wc := [(h0, .inr (9, [m0, m1, m2, m3, m4, m5, m6, m7, m8, m9, m10, m11, m12, m13, m14, m15, m16, m17, m18, m19, m20, .ref rp, .int (nI rn), .int kd]))]) hD hS hA [0] rfl
    refine va_calli (va_runV (As := [.int 0, .int 1]) (rest := []) ⟨hx, hb, hml, hown, hts⟩ (k_X9_good_f l dC dI cB cI cJ cM h0 kd 1 m0 m1 m2 m3 m4 m5 m6 m7 m8 m9 m10 m11 m12 m13 m14 m15 m16 m17 m18 m19 m20 (.ref rp) (.int (nI rn))  s.heap.size) (cwV 2 hts gX9_word_X9_good rfl rfl rfl (by decide +kernel) ⟨Nat.le_of_ble_eq_true rfl, Nat.le_of_ble_eq_true rfl⟩) ⟨fun a U g mk q => by obtain ⟨q0, q1, qP, qK, qD⟩ := q; exact ⟨q0, q1, qP, va_K.moved (u := U) (U := U.calling g mk a) (Vm.Alike.refl U.vm) qK, qD⟩, va_recv hK hPc (ci := 9) (q0 := 0) rfl rfl, fun U hU hW => ⟨rfl, by rw [hU], by rw [hU]; exact hPc, va_K.moved hW.alike hK, hDc.weaken (fun _ _ _ _ => trivial)⟩⟩ rfl rfl hl.1 rfl (lv_room (Nat.le_of_ble_eq_true rfl)) dX9_word_19 ⟨(show 0 + 0 ≤ 0 by omega), (show 0 + 0 ≤ 0 by omega)⟩) hS (fun q _ h => hFc q h) hFc (fun r19 u t H1 locs ht hvm hw hB hz1 hk1 hS => ?_)
    have hP1 : va_P (dC, dI) vwCl [(h0, .inr (9, [m0, m1, m2, m3, m4, m5, m6, m7, m8, m9, m10, m11, m12, m13, m14, m15, m16, m17, m18, m19, m20, .ref rp, .int (nI rn), .int 1]))] H1 := by rw [← ht]; exact hB.1
    have hD1 : va_D (va_A [(h0, .inr (9, [m0, m1, m2, m3, m4, m5, m6, m7, m8, m9, m10, m11, m12, m13, m14, m15, m16, m17, m18, m19, m20, .ref rp, .int (nI rn), .int kd]))] s.heap.size) [(h0, .inr (9, [m0, m1, m2, m3, m4, m5, m6, m7, m8, m9, m10, m11, m12, m13, m14, m15, m16, m17, m18, m19, m20, .ref rp, .int (nI rn), .int 1]))] := hB.2.2
    obtain ⟨hP, hD⟩ := va_join (wr := [(rp, .inl (cB, 8192, .inl f))]) (w1 := [(h0, .inr (9, [m0, m1, m2, m3, m4, m5, m6, m7, m8, m9, m10, m11, m12, m13, m14, m15, m16, m17, m18, m19, m20, .ref rp, .int (nI rn), .int 1]))]) hP hD [0] [1] rfl rfl (by decide) (by decide) hk1 hFc hP1 hD1
    generalize H1 = H at hP hS ⊢
    try dsimp only at hw
    have hP : va_P (dC, dI) vwCl [(rp, .inl (cB, 8192, .inl f)), (h0, .inr (9, [m0, m1, m2, m3, m4, m5, m6, m7, m8, m9, m10, m11, m12, m13, m14, m15, m16, m17, m18, m19, m20, .ref rp, .int (nI rn), .int 1]))] H := hP
    have hD : va_D A [(rp, .inl (cB, 8192, .inl f)), (h0, .inr (9, [m0, m1, m2, m3, m4, m5, m6, m7, m8, m9, m10, m11, m12, m13, m14, m15, m16, m17, m18, m19, m20, .ref rp, .int (nI rn), .int 1]))] := hD
    obtain rfl : r19 = 0 := hw
    refine W.eq (g2 := F0 m 22 ls [.int 0]) rfl ?_
    refine lv_if_ne (tgt := 27) hx hb dX9_word_22 (by decide) (fun c22 => ?_) (fun c22 => ?_)
    · have c22 : ¬ (0 = 0) := fun h => c22 ((nI_eq (a := 0) (b := 0) (by omega) (by omega)).mpr h)
      exfalso; omega
    · have c22 : 0 = 0 := (nI_eq (a := 0) (b := 0) (by omega) (by omega)).mp c22
      refine lv_lconst (v := 0) hx hb dX9_word_25 (by decide) ?_
      have hP9 := hP.sub (ws' := [(h0, .inr (9, [m0, m1, m2, m3, m4, m5, m6, m7, m8, m9, m10, m11, m12, m13, m14, m15, m16, m17, m18, m19, m20, .ref rp, .int (nI rn), .int 1])), (rp, .inl (cB, 8192, .inl f))]) [1, 0] rfl
      have hD9 := hD.sub (ws' := [(h0, .inr (9, [m0, m1, m2, m3, m4, m5, m6, m7, m8, m9, m10, m11, m12, m13, m14, m15, m16, m17, m18, m19, m20, .ref rp, .int (nI rn), .int 1])), (rp, .inl (cB, 8192, .inl f))]) [1, 0] (by decide) rfl
      exact W.lret (v := 0) hx hb hr (fun t ht hW => ⟨⟨0, 1, rfl, Or.inr ⟨Or.inl c2, rfl⟩, ⟨by rw [ht]; exact hP9, va_K.moved hW.alike hK, hD9⟩⟩, hS.F ht⟩) hS.2.2 dX9_word_26
  · refine lv_iload_n hx hb dX9_word_5 rfl (lv_at hl 1 rfl) ?_
    refine lv_aload_n hx hb dX9_word_6 rfl (lv_at hl 0 rfl) ?_
    refine va_get (D := (dC, dI)) (ci := 9) (v := .int (nI rn)) (C := RX9) (T := TX9) (N := 24) hx hb hts (by decide +kernel) hown hK hP 0 rfl rfl 22 (by decide) (hts (.fieldLink RX9 168 "FixedPressModel" "resultLength" "I") (by decide +kernel)) (fun _ h9 => h9) rfl dX9_word_7 ?_
    refine lv_icmp_ge (tgt := 17) hx hb dX9_word_10 (by decide) (fun c10 => ?_) (fun c10 => ?_)
    · refine lv_iconst (v := 0) hx hb dX9_word_17 (by decide) ?_
      refine lv_iconst (v := 1) hx hb dX9_word_18 (by decide) ?_
      have hPc := hP.sub (ws' := [(h0, .inr (9, [m0, m1, m2, m3, m4, m5, m6, m7, m8, m9, m10, m11, m12, m13, m14, m15, m16, m17, m18, m19, m20, .ref rp, .int (nI rn), .int kd]))]) [0] rfl
      have hDc := hD.sub (ws' := [(h0, .inr (9, [m0, m1, m2, m3, m4, m5, m6, m7, m8, m9, m10, m11, m12, m13, m14, m15, m16, m17, m18, m19, m20, .ref rp, .int (nI rn), .int kd]))]) [0] (by decide) rfl
      have hFc := va_free (wc := [(h0, .inr (9, [m0, m1, m2, m3, m4, m5, m6, m7, m8, m9, m10, m11, m12, m13, m14, m15, m16, m17, m18, m19, m20, .ref rp, .int (nI rn), .int kd]))]) hD hS hA [0] rfl
      refine va_calli (va_runV (As := [.int 0, .int 1]) (rest := []) ⟨hx, hb, hml, hown, hts⟩ (k_X9_good_f l dC dI cB cI cJ cM h0 kd 1 m0 m1 m2 m3 m4 m5 m6 m7 m8 m9 m10 m11 m12 m13 m14 m15 m16 m17 m18 m19 m20 (.ref rp) (.int (nI rn))  s.heap.size) (cwV 2 hts gX9_word_X9_good rfl rfl rfl (by decide +kernel) ⟨Nat.le_of_ble_eq_true rfl, Nat.le_of_ble_eq_true rfl⟩) ⟨fun a U g mk q => by obtain ⟨q0, q1, qP, qK, qD⟩ := q; exact ⟨q0, q1, qP, va_K.moved (u := U) (U := U.calling g mk a) (Vm.Alike.refl U.vm) qK, qD⟩, va_recv hK hPc (ci := 9) (q0 := 0) rfl rfl, fun U hU hW => ⟨rfl, by rw [hU], by rw [hU]; exact hPc, va_K.moved hW.alike hK, hDc.weaken (fun _ _ _ _ => trivial)⟩⟩ rfl rfl hl.1 rfl (lv_room (Nat.le_of_ble_eq_true rfl)) dX9_word_19 ⟨(show 0 + 0 ≤ 0 by omega), (show 0 + 0 ≤ 0 by omega)⟩) hS (fun q _ h => hFc q h) hFc (fun r19 u t H1 locs ht hvm hw hB hz1 hk1 hS => ?_)
      have hP1 : va_P (dC, dI) vwCl [(h0, .inr (9, [m0, m1, m2, m3, m4, m5, m6, m7, m8, m9, m10, m11, m12, m13, m14, m15, m16, m17, m18, m19, m20, .ref rp, .int (nI rn), .int 1]))] H1 := by rw [← ht]; exact hB.1
      have hD1 : va_D (va_A [(h0, .inr (9, [m0, m1, m2, m3, m4, m5, m6, m7, m8, m9, m10, m11, m12, m13, m14, m15, m16, m17, m18, m19, m20, .ref rp, .int (nI rn), .int kd]))] s.heap.size) [(h0, .inr (9, [m0, m1, m2, m3, m4, m5, m6, m7, m8, m9, m10, m11, m12, m13, m14, m15, m16, m17, m18, m19, m20, .ref rp, .int (nI rn), .int 1]))] := hB.2.2
      obtain ⟨hP, hD⟩ := va_join (wr := [(rp, .inl (cB, 8192, .inl f))]) (w1 := [(h0, .inr (9, [m0, m1, m2, m3, m4, m5, m6, m7, m8, m9, m10, m11, m12, m13, m14, m15, m16, m17, m18, m19, m20, .ref rp, .int (nI rn), .int 1]))]) hP hD [0] [1] rfl rfl (by decide) (by decide) hk1 hFc hP1 hD1
      generalize H1 = H at hP hS ⊢
      try dsimp only at hw
      have hP : va_P (dC, dI) vwCl [(rp, .inl (cB, 8192, .inl f)), (h0, .inr (9, [m0, m1, m2, m3, m4, m5, m6, m7, m8, m9, m10, m11, m12, m13, m14, m15, m16, m17, m18, m19, m20, .ref rp, .int (nI rn), .int 1]))] H := hP
      have hD : va_D A [(rp, .inl (cB, 8192, .inl f)), (h0, .inr (9, [m0, m1, m2, m3, m4, m5, m6, m7, m8, m9, m10, m11, m12, m13, m14, m15, m16, m17, m18, m19, m20, .ref rp, .int (nI rn), .int 1]))] := hD
      obtain rfl : r19 = 0 := hw
      refine W.eq (g2 := F0 m 22 ls [.int 0]) rfl ?_
      refine lv_if_ne (tgt := 27) hx hb dX9_word_22 (by decide) (fun c22 => ?_) (fun c22 => ?_)
      · have c22 : ¬ (0 = 0) := fun h => c22 ((nI_eq (a := 0) (b := 0) (by omega) (by omega)).mpr h)
        exfalso; omega
      · have c22 : 0 = 0 := (nI_eq (a := 0) (b := 0) (by omega) (by omega)).mp c22
        refine lv_lconst (v := 0) hx hb dX9_word_25 (by decide) ?_
        have hP9 := hP.sub (ws' := [(h0, .inr (9, [m0, m1, m2, m3, m4, m5, m6, m7, m8, m9, m10, m11, m12, m13, m14, m15, m16, m17, m18, m19, m20, .ref rp, .int (nI rn), .int 1])), (rp, .inl (cB, 8192, .inl f))]) [1, 0] rfl
        have hD9 := hD.sub (ws' := [(h0, .inr (9, [m0, m1, m2, m3, m4, m5, m6, m7, m8, m9, m10, m11, m12, m13, m14, m15, m16, m17, m18, m19, m20, .ref rp, .int (nI rn), .int 1])), (rp, .inl (cB, 8192, .inl f))]) [1, 0] (by decide) rfl
        exact W.lret (v := 0) hx hb hr (fun t ht hW => ⟨⟨0, 1, rfl, Or.inr ⟨Or.inr c10, rfl⟩, ⟨by rw [ht]; exact hP9, va_K.moved hW.alike hK, hD9⟩⟩, hS.F ht⟩) hS.2.2 dX9_word_26
    · obtain ⟨j, hj, hij⟩ := z_word (rn := rn) (by omega) c2 (Int32.not_le.mp c10)
      rw [hij] at hl
      refine lv_iconst (v := 1) hx hb dX9_word_13 (by decide) ?_
      refine lv_goto (tgt := 18) hx hb dX9_word_14 (by decide) ?_
      refine lv_iconst (v := 1) hx hb dX9_word_18 (by decide) ?_
      have hPc := hP.sub (ws' := [(h0, .inr (9, [m0, m1, m2, m3, m4, m5, m6, m7, m8, m9, m10, m11, m12, m13, m14, m15, m16, m17, m18, m19, m20, .ref rp, .int (nI rn), .int kd]))]) [0] rfl
      have hDc := hD.sub (ws' := [(h0, .inr (9, [m0, m1, m2, m3, m4, m5, m6, m7, m8, m9, m10, m11, m12, m13, m14, m15, m16, m17, m18, m19, m20, .ref rp, .int (nI rn), .int kd]))]) [0] (by decide) rfl
      have hFc := va_free (wc := [(h0, .inr (9, [m0, m1, m2, m3, m4, m5, m6, m7, m8, m9, m10, m11, m12, m13, m14, m15, m16, m17, m18, m19, m20, .ref rp, .int (nI rn), .int kd]))]) hD hS hA [0] rfl
      refine va_calli (va_runV (As := [.int 1, .int 1]) (rest := []) ⟨hx, hb, hml, hown, hts⟩ (k_X9_good_t l dC dI cB cI cJ cM h0 kd 1 m0 m1 m2 m3 m4 m5 m6 m7 m8 m9 m10 m11 m12 m13 m14 m15 m16 m17 m18 m19 m20 (.ref rp) (.int (nI rn))  s.heap.size) (cwV 2 hts gX9_word_X9_good rfl rfl rfl (by decide +kernel) ⟨Nat.le_of_ble_eq_true rfl, Nat.le_of_ble_eq_true rfl⟩) ⟨fun a U g mk q => by obtain ⟨q0, q1, qP, qK, qD⟩ := q; exact ⟨q0, q1, qP, va_K.moved (u := U) (U := U.calling g mk a) (Vm.Alike.refl U.vm) qK, qD⟩, va_recv hK hPc (ci := 9) (q0 := 0) rfl rfl, fun U hU hW => ⟨rfl, by rw [hU], by rw [hU]; exact hPc, va_K.moved hW.alike hK, hDc.weaken (fun _ _ _ _ => trivial)⟩⟩ rfl rfl hl.1 rfl (lv_room (Nat.le_of_ble_eq_true rfl)) dX9_word_19 ⟨(show 0 + 0 ≤ 0 by omega), (show 0 + 0 ≤ 0 by omega)⟩) hS (fun q _ h => hFc q h) hFc (fun r19 u t H1 locs ht hvm hw hB hz1 hk1 hS => ?_)
      have hP1 : va_P (dC, dI) vwCl [(h0, .inr (9, [m0, m1, m2, m3, m4, m5, m6, m7, m8, m9, m10, m11, m12, m13, m14, m15, m16, m17, m18, m19, m20, .ref rp, .int (nI rn), .int 0]))] H1 := by rw [← ht]; exact hB.1
      have hD1 : va_D (va_A [(h0, .inr (9, [m0, m1, m2, m3, m4, m5, m6, m7, m8, m9, m10, m11, m12, m13, m14, m15, m16, m17, m18, m19, m20, .ref rp, .int (nI rn), .int kd]))] s.heap.size) [(h0, .inr (9, [m0, m1, m2, m3, m4, m5, m6, m7, m8, m9, m10, m11, m12, m13, m14, m15, m16, m17, m18, m19, m20, .ref rp, .int (nI rn), .int 0]))] := hB.2.2
      obtain ⟨hP, hD⟩ := va_join (wr := [(rp, .inl (cB, 8192, .inl f))]) (w1 := [(h0, .inr (9, [m0, m1, m2, m3, m4, m5, m6, m7, m8, m9, m10, m11, m12, m13, m14, m15, m16, m17, m18, m19, m20, .ref rp, .int (nI rn), .int 0]))]) hP hD [0] [1] rfl rfl (by decide) (by decide) hk1 hFc hP1 hD1
      generalize H1 = H at hP hS ⊢
      try dsimp only at hw
      have hP : va_P (dC, dI) vwCl [(rp, .inl (cB, 8192, .inl f)), (h0, .inr (9, [m0, m1, m2, m3, m4, m5, m6, m7, m8, m9, m10, m11, m12, m13, m14, m15, m16, m17, m18, m19, m20, .ref rp, .int (nI rn), .int 0]))] H := hP
      have hD : va_D A [(rp, .inl (cB, 8192, .inl f)), (h0, .inr (9, [m0, m1, m2, m3, m4, m5, m6, m7, m8, m9, m10, m11, m12, m13, m14, m15, m16, m17, m18, m19, m20, .ref rp, .int (nI rn), .int 0]))] := hD
      obtain rfl : r19 = 1 := hw
      refine W.eq (g2 := F0 m 22 ls [.int 1]) rfl ?_
      refine lv_if_ne (tgt := 27) hx hb dX9_word_22 (by decide) (fun c22 => ?_) (fun c22 => ?_)
      · have c22 : ¬ (1 = 0) := fun h => c22 ((nI_eq (a := 1) (b := 0) (by omega) (by omega)).mpr h)
        refine lv_lconst (v := 0) hx hb dX9_word_27 (by decide) ?_
        refine lv_lstore_n (lv' := [(2, .long 0), (0, .ref h0), (1, .int (nI j))]) hx hb dX9_word_28 rfl hl (by decide) rfl (fun ls hl => ?_)
        refine lv_iload_n hx hb dX9_word_29 rfl (lv_at hl 2 rfl) ?_
        refine lv_istore (lv' := [(4, .int (nI j)), (2, .long 0), (0, .ref h0), (1, .int (nI j))]) hx hb dX9_word_30 hl (by decide) rfl (fun ls hl => ?_)
        have cut32 : ∀ (fuel : Nat) (k : Nat) (w : Int64), (k ≤ 8) → (w = zwd f rn j k) → (8 - k < fuel) → ∀ (H : Heap) (locs : List Loc), va_P (dC, dI) vwCl [(h0, .inr (9, [m0, m1, m2, m3, m4, m5, m6, m7, m8, m9, m10, m11, m12, m13, m14, m15, m16, m17, m18, m19, m20, .ref rp, .int (nI rn), .int 0])), (rp, .inl (cB, 8192, .inl f))] H → va_D A [(h0, .inr (9, [m0, m1, m2, m3, m4, m5, m6, m7, m8, m9, m10, m11, m12, m13, m14, m15, m16, m17, m18, m19, m20, .ref rp, .int (nI rn), .int 0])), (rp, .inl (cB, 8192, .inl f))] → va_S A s.heap H locs → ∀ (ls : Array Slot), lv_has ls 5 [(0, .ref h0), (1, .int (nI j)), (2, .long w), (4, .int (nI (j + k)))] → W p l e (headSpec wsX9_word rm_X9_word).room s m ([.ref h0, .int i] : List Value).toArray below meth c H locs 0 0 (MQ below (q_X9_word dC dI cB cI cJ cM h0 rp f rn kd i m0 m1 m2 m3 m4 m5 m6 m7 m8 m9 m10 m11 m12 m13 m14 m15 m16 m17 m18 m19 m20 A) ([.ref h0, .int i] : List Value).toArray s 0 0 A) (F0 m 32 ls []) := by
          intro fuel
          induction fuel with
          | zero => intros; omega
          | succ fuel ih =>
            intro k w hk hw2 hfuel H locs hP hD hS ls hl
            refine lv_iload hx hb dX9_word_32 (lv_at hl 3 rfl) ?_
            refine lv_iload_n hx hb dX9_word_34 rfl (lv_at hl 1 rfl) ?_
            refine lv_bipush (v := 8) hx hb dX9_word_35 (by decide) ?_
            refine lv_iadd hx hb dX9_word_37 ?_
            refine lv_topi (fun y_1 ey_1 => ?_)
            obtain rfl : y_1 = nI (j + 8) := ey_1.trans (nI_add j 8)
            refine lv_icmp_ge (tgt := 78) hx hb dX9_word_38 (by decide) (fun c38 => ?_) (fun c38 => ?_)
            · have c38 : (j + 8) ≤ (j + k) := (nI_leI (a := (j + 8)) (b := (j + k)) (by omega) (by omega)).mp c38
              have hk8 : k = 8 := by omega
              rw [hk8] at hw2
              refine lv_lload_n hx hb dX9_word_78 rfl (lv_at hl 2 rfl) ?_
              have hP9 := hP.sub (ws' := [(h0, .inr (9, [m0, m1, m2, m3, m4, m5, m6, m7, m8, m9, m10, m11, m12, m13, m14, m15, m16, m17, m18, m19, m20, .ref rp, .int (nI rn), .int 0])), (rp, .inl (cB, 8192, .inl f))]) [0, 1] rfl
              have hD9 := hD.sub (ws' := [(h0, .inr (9, [m0, m1, m2, m3, m4, m5, m6, m7, m8, m9, m10, m11, m12, m13, m14, m15, m16, m17, m18, m19, m20, .ref rp, .int (nI rn), .int 0])), (rp, .inl (cB, 8192, .inl f))]) [0, 1] (by decide) rfl
              exact W.lret (v := w) hx hb hr (fun t ht hW => ⟨⟨w, 0, rfl, Or.inl ⟨j, hj, hij, hw2, rfl⟩, ⟨by rw [ht]; exact hP9, va_K.moved hW.alike hK, hD9⟩⟩, hS.F ht⟩) hS.2.2 dX9_word_79
            · have c38 : ¬ ((j + 8) ≤ (j + k)) := fun h => c38 ((nI_leI (a := (j + 8)) (b := (j + k)) (by omega) (by omega)).mpr h)
              refine lv_lload_n hx hb dX9_word_41 rfl (lv_at hl 2 rfl) ?_
              refine lv_bipush (v := 8) hx hb dX9_word_42 (by decide) ?_
              refine lv_lshl hx hb dX9_word_44 rfl ?_
              refine lv_iload hx hb dX9_word_45 (lv_at hl 3 rfl) ?_
              refine lv_aload_n hx hb dX9_word_47 rfl (lv_at hl 0 rfl) ?_
              refine va_get (D := (dC, dI)) (ci := 9) (v := .int (nI rn)) (C := RX9) (T := TX9) (N := 24) hx hb hts (by decide +kernel) hown hK hP 0 rfl rfl 22 (by decide) (hts (.fieldLink RX9 168 "FixedPressModel" "resultLength" "I") (by decide +kernel)) (fun _ h9 => h9) rfl dX9_word_48 ?_
              refine lv_icmp_ge (tgt := 69) hx hb dX9_word_51 (by decide) (fun c51 => ?_) (fun c51 => ?_)
              · have c51 : rn ≤ (j + k) := (nI_leI (a := rn) (b := (j + k)) (by omega) (by omega)).mp c51
                refine lv_lconst (v := 0) hx hb dX9_word_69 (by decide) ?_
                refine lv_lor hx hb dX9_word_70 ?_
                refine lv_lstore_n (lv' := [(2, .long ((w <<< ((8 : Int32).toInt64 &&& 63)) ||| 0)), (0, .ref h0), (1, .int (nI j)), (4, .int (nI (j + k)))]) hx hb dX9_word_71 rfl hl (by decide) rfl (fun ls hl => ?_)
                refine lv_iinc (v := nI (j + k + 1)) (lv' := [(4, .int (nI (j + k + 1))), (2, .long ((w <<< ((8 : Int32).toInt64 &&& 63)) ||| 0)), (0, .ref h0), (1, .int (nI j))]) hx hb dX9_word_72 hl (k := 3) rfl (show nI (j + k) + Int32.ofInt 1 = _ from nI_add (j + k) 1) (by decide) rfl (fun ls hl => ?_)
                refine lv_goto (tgt := 32) hx hb dX9_word_75 (by decide) ?_
                exact ih (k + 1) ((w <<< ((8 : Int32).toInt64 &&& 63)) ||| 0) (by omega) (by rw [hw2, zwd_0 (by omega)]; rfl) (by omega) _ _ hP hD hS _ (lv_sub hl [2, 3, 1, 0] rfl)
              · have c51 : ¬ (rn ≤ (j + k)) := fun h => c51 ((nI_leI (a := rn) (b := (j + k)) (by omega) (by omega)).mpr h)
                refine lv_aload_n hx hb dX9_word_54 rfl (lv_at hl 0 rfl) ?_
                refine va_get (D := (dC, dI)) (ci := 9) (v := .ref rp) (C := RX9) (T := TX9) (N := 24) hx hb hts (by decide +kernel) hown hK hP 0 rfl rfl 21 (by decide) (hts (.fieldLink RX9 147 "FixedPressModel" "result" "[B") (by decide +kernel)) (fun _ h9 => h9) rfl dX9_word_55 ?_
                refine lv_iload hx hb dX9_word_58 (lv_at hl 3 rfl) ?_
                refine va_bald hx hb hK hP 1 0 rfl rfl (vp_in_nI (n := j + k) (by omega) (by omega)) dX9_word_60 ?_
                rw [nI_clamp (n := j + k) (by omega)]
                refine lv_i2l hx hb dX9_word_61 rfl ?_
                refine lv_ldc2 hx hb hown (hts (.constantLong RX9 175 255) (by decide +kernel)) dX9_word_62 ?_
                refine lv_land hx hb dX9_word_65 ?_
                refine lv_goto (tgt := 70) hx hb dX9_word_66 (by decide) ?_
                refine lv_lor hx hb dX9_word_70 ?_
                refine lv_lstore_n (lv' := [(2, .long ((w <<< ((8 : Int32).toInt64 &&& 63)) ||| (((f (j + k)).toInt64) &&& 255))), (0, .ref h0), (1, .int (nI j)), (4, .int (nI (j + k)))]) hx hb dX9_word_71 rfl hl (by decide) rfl (fun ls hl => ?_)
                refine lv_iinc (v := nI (j + k + 1)) (lv' := [(4, .int (nI (j + k + 1))), (2, .long ((w <<< ((8 : Int32).toInt64 &&& 63)) ||| (((f (j + k)).toInt64) &&& 255))), (0, .ref h0), (1, .int (nI j))]) hx hb dX9_word_72 hl (k := 3) rfl (show nI (j + k) + Int32.ofInt 1 = _ from nI_add (j + k) 1) (by decide) rfl (fun ls hl => ?_)
                refine lv_goto (tgt := 32) hx hb dX9_word_75 (by decide) ?_
                exact ih (k + 1) ((w <<< ((8 : Int32).toInt64 &&& 63)) ||| (((f (j + k)).toInt64) &&& 255)) (by omega) (by rw [hw2, zwd_1 (by omega), z_and64]) (by omega) _ _ hP hD hS _ (lv_sub hl [2, 3, 1, 0] rfl)
        exact cut32 (8 - 0 + 1) 0 0 (by omega) (rfl) (by omega) _ _ (hP.sub [1, 0] rfl) (hD.sub [1, 0] (by decide) rfl) hS _ (lv_sub hl [2, 3, 1, 0] rfl)
      · have c22 : 1 = 0 := (nI_eq (a := 1) (b := 0) (by omega) (by omega)).mp c22
        exfalso; omega

abbrev rm_X9_back : Room := { frames := 1, cells := 0, slots := 0, locals := 22 }
abbrev wo_X9_back (dC : Nat → ClassId) (dI : Nat → Nat → Nat) (cB cI cJ cM : ClassId) (h0 tp rp : Nat) (f g : Nat → Int32) (rn : Nat) (tn kd : Int32) (m0 m1 m2 m3 m4 m5 m6 m7 m8 m9 m10 m11 m12 m13 m14 m15 m16 m17 m18 : Value) : va_W := [(h0, .inr (9, [m0, m1, m2, m3, m4, m5, m6, m7, m8, m9, m10, m11, m12, m13, m14, m15, m16, m17, m18, .ref tp, .int tn, .ref rp, .int (nI rn), .int kd])), (tp, .inl (cB, 4000, .inl f)), (rp, .inl (cB, 8192, .inl g))]
abbrev q_X9_back (dC : Nat → ClassId) (dI : Nat → Nat → Nat) (cB cI cJ cM : ClassId) (h0 tp rp : Nat) (f g : Nat → Int32) (rn : Nat) (tn kd : Int32) (m0 m1 m2 m3 m4 m5 m6 m7 m8 m9 m10 m11 m12 m13 m14 m15 m16 m17 m18 : Value) (A : Nat → Prop) : Array Value → State → Outcome → State → Prop := va_Qi (fun (r : Int32) (u : (Nat → Int32) × Int32 × Int32) => (rn ≤ 4000 ∧ r = nI rn ∧ u.2 = (nI rn, 0) ∧ ∀ j, u.1 j = if j < rn then g j else f j) ∨ (4000 < rn ∧ u = (f, tn, 1))) (zB dC dI cB cI cJ cM A (fun u : (Nat → Int32) × Int32 × Int32 => [(h0, .inr (9, [m0, m1, m2, m3, m4, m5, m6, m7, m8, m9, m10, m11, m12, m13, m14, m15, m16, m17, m18, .ref tp, .int u.2.1, .ref rp, .int (nI rn), .int u.2.2])), (tp, .inl (cB, 4000, .inl u.1)), (rp, .inl (cB, 8192, .inl g))])) A
set_option maxHeartbeats 8000000 in
set_option maxRecDepth 100000 in
/-- back of the reference -/
theorem k_X9_back (l : Launch) (dC : Nat → ClassId) (dI : Nat → Nat → Nat) (cB cI cJ cM : ClassId) (h0 tp rp : Nat) (f g : Nat → Int32) (rn : Nat) (tn kd : Int32) (m0 m1 m2 m3 m4 m5 m6 m7 m8 m9 m10 m11 m12 m13 m14 m15 m16 m17 m18 : Value) (h1 : rn ≤ 8192) (hb8 : ∀ j, j < rn → vp_nar .byte (g j) = g j) (sz : Nat) : Met l yX9_back wsX9_back rm_X9_back (va_Pc [.ref h0] (fun U => U.heap.size = sz ∧ va_P (dC, dI) vwCl (wo_X9_back dC dI cB cI cJ cM h0 tp rp f g rn tn kd m0 m1 m2 m3 m4 m5 m6 m7 m8 m9 m10 m11 m12 m13 m14 m15 m16 m17 m18) U.heap ∧ va_K (dC, dI) vwCl (zT cB cI cJ cM) U ∧ va_D (fun _ => True) (wo_X9_back dC dI cB cI cJ cM h0 tp rp f g rn tn kd m0 m1 m2 m3 m4 m5 m6 m7 m8 m9 m10 m11 m12 m13 m14 m15 m16 m17 m18))) (q_X9_back dC dI cB cI cJ cM h0 tp rp f g rn tn kd m0 m1 m2 m3 m4 m5 m6 m7 m8 m9 m10 m11 m12 m13 m14 m15 m16 m17 m18 (va_A (wo_X9_back dC dI cB cI cJ cM h0 tp rp f g rn tn kd m0 m1 m2 m3 m4 m5 m6 m7 m8 m9 m10 m11 m12 m13 m14 m15 m16 m17 m18) sz)) 0 0 (va_A (wo_X9_back dC dI cB cI cJ cM h0 tp rp f g rn tn kd m0 m1 m2 m3 m4 m5 m6 m7 m8 m9 m10 m11 m12 m13 m14 m15 m16 m17 m18) sz) := by
  refine Met.ofW (cc := cX9_back) (maxL := 2) (ret := (some .int)) (by decide) rfl ?_
  intro p e s m args below meth c s₁ B hml hv
  obtain ⟨rfl, hsz, hP, hK, hD0⟩ := hv
  have hx := B.exec
  have hb := B.bytes
  have hr := B.returns
  have hts := atoms_spec (ws := wsX9_back) B.pre
  have hown : s.vm.findClass RX9 = some m.cls := findClass_of_methodNamed B.named
  have hlocks := B.notSynchronized
  subst hsz
  have hD := hD0.self (sz := s.heap.size)
  generalize hAe : va_A (wo_X9_back dC dI cB cI cJ cM h0 tp rp f g rn tn kd m0 m1 m2 m3 m4 m5 m6 m7 m8 m9 m10 m11 m12 m13 m14 m15 m16 m17 m18) s.heap.size = A at hD ⊢
  have hA : ∀ q : Nat, s.heap.size ≤ q → A q := fun q h => by rw [← hAe]; exact Or.inr h
  have hS : va_S A s.heap s.heap [] := va_S.rf
  have hP : va_P (dC, dI) vwCl [(h0, .inr (9, [m0, m1, m2, m3, m4, m5, m6, m7, m8, m9, m10, m11, m12, m13, m14, m15, m16, m17, m18, .ref tp, .int tn, .ref rp, .int (nI rn), .int kd])), (tp, .inl (cB, 4000, .inl f)), (rp, .inl (cB, 8192, .inl g))] s.heap := hP
  have hD : va_D A [(h0, .inr (9, [m0, m1, m2, m3, m4, m5, m6, m7, m8, m9, m10, m11, m12, m13, m14, m15, m16, m17, m18, .ref tp, .int tn, .ref rp, .int (nI rn), .int kd])), (tp, .inl (cB, 4000, .inl f)), (rp, .inl (cB, 8192, .inl g))] := hD
  have hl := lv_entry ([.ref h0]) (n := 2) (Nat.le_of_ble_eq_true rfl)
  rw [lg_entry_eq]
  generalize (lg_sl ([.ref h0]) ++ List.replicate (2 - (lg_sl ([.ref h0])).length) Slot.unset).toArray = ls at hl ⊢
  have hl : lv_has ls 2 [(0, .ref h0)] := hl
  refine lv_aload_n hx hb dX9_back_0 rfl (lv_at hl 0 rfl) ?_
  refine lv_aload_n hx hb dX9_back_1 rfl (lv_at hl 0 rfl) ?_
  refine va_get (D := (dC, dI)) (ci := 9) (v := .int (nI rn)) (C := RX9) (T := TX9) (N := 24) hx hb hts (by decide +kernel) hown hK hP 0 rfl rfl 22 (by decide) (hts (.fieldLink RX9 168 "FixedPressModel" "resultLength" "I") (by decide +kernel)) (fun _ h9 => h9) rfl dX9_back_2 ?_
  refine lv_sipush (v := 4000) hx hb dX9_back_5 (by decide) ?_
  refine lv_icmp_gt (tgt := 15) hx hb dX9_back_8 (by decide) (fun c8 => ?_) (fun c8 => ?_)
  · have c8 : 4000 < rn := (nI_ltI (a := 4000) (b := rn) (by omega) (by omega)).mp c8
    refine lv_iconst (v := 0) hx hb dX9_back_15 (by decide) ?_
    refine lv_iconst (v := 1) hx hb dX9_back_16 (by decide) ?_
    have hPc := hP.sub (ws' := [(h0, .inr (9, [m0, m1, m2, m3, m4, m5, m6, m7, m8, m9, m10, m11, m12, m13, m14, m15, m16, m17, m18, .ref tp, .int tn, .ref rp, .int (nI rn), .int kd]))]) [0] rfl
    have hDc := hD.sub (ws' := [(h0, .inr (9, [m0, m1, m2, m3, m4, m5, m6, m7, m8, m9, m10, m11, m12, m13, m14, m15, m16, m17, m18, .ref tp, .int tn, .ref rp, .int (nI rn), .int kd]))]) [0] (by decide) rfl
    have hFc := va_free (wc := [(h0, .inr (9, [m0, m1, m2, m3, m4, m5, m6, m7, m8, m9, m10, m11, m12, m13, m14, m15, m16, m17, m18, .ref tp, .int tn, .ref rp, .int (nI rn), .int kd]))]) hD hS hA [0] rfl
    refine va_calli (va_runV (As := [.int 0, .int 1]) (rest := []) ⟨hx, hb, hml, hown, hts⟩ (k_X9_good_f l dC dI cB cI cJ cM h0 kd 1 m0 m1 m2 m3 m4 m5 m6 m7 m8 m9 m10 m11 m12 m13 m14 m15 m16 m17 m18 (.ref tp) (.int tn) (.ref rp) (.int (nI rn))  s.heap.size) (cwV 2 hts gX9_back_X9_good rfl rfl rfl (by decide +kernel) ⟨Nat.le_of_ble_eq_true rfl, Nat.le_of_ble_eq_true rfl⟩) ⟨fun a U g mk q => by obtain ⟨q0, q1, qP, qK, qD⟩ := q; exact ⟨q0, q1, qP, va_K.moved (u := U) (U := U.calling g mk a) (Vm.Alike.refl U.vm) qK, qD⟩, va_recv hK hPc (ci := 9) (q0 := 0) rfl rfl, fun U hU hW => ⟨rfl, by rw [hU], by rw [hU]; exact hPc, va_K.moved hW.alike hK, hDc.weaken (fun _ _ _ _ => trivial)⟩⟩ rfl rfl hl.1 rfl (lv_room (Nat.le_of_ble_eq_true rfl)) dX9_back_17 ⟨(show 0 + 0 ≤ 0 by omega), (show 0 + 0 ≤ 0 by omega)⟩) hS (fun q _ h => hFc q h) hFc (fun r17 u t H1 locs ht hvm hw hB hz1 hk1 hS => ?_)
    have hP1 : va_P (dC, dI) vwCl [(h0, .inr (9, [m0, m1, m2, m3, m4, m5, m6, m7, m8, m9, m10, m11, m12, m13, m14, m15, m16, m17, m18, .ref tp, .int tn, .ref rp, .int (nI rn), .int 1]))] H1 := by rw [← ht]; exact hB.1
    have hD1 : va_D (va_A [(h0, .inr (9, [m0, m1, m2, m3, m4, m5, m6, m7, m8, m9, m10, m11, m12, m13, m14, m15, m16, m17, m18, .ref tp, .int tn, .ref rp, .int (nI rn), .int kd]))] s.heap.size) [(h0, .inr (9, [m0, m1, m2, m3, m4, m5, m6, m7, m8, m9, m10, m11, m12, m13, m14, m15, m16, m17, m18, .ref tp, .int tn, .ref rp, .int (nI rn), .int 1]))] := hB.2.2
    obtain ⟨hP, hD⟩ := va_join (wr := [(tp, .inl (cB, 4000, .inl f)), (rp, .inl (cB, 8192, .inl g))]) (w1 := [(h0, .inr (9, [m0, m1, m2, m3, m4, m5, m6, m7, m8, m9, m10, m11, m12, m13, m14, m15, m16, m17, m18, .ref tp, .int tn, .ref rp, .int (nI rn), .int 1]))]) hP hD [0] [1, 2] rfl rfl (by decide) (by decide) hk1 hFc hP1 hD1
    generalize H1 = H at hP hS ⊢
    try dsimp only at hw
    have hP : va_P (dC, dI) vwCl [(tp, .inl (cB, 4000, .inl f)), (rp, .inl (cB, 8192, .inl g)), (h0, .inr (9, [m0, m1, m2, m3, m4, m5, m6, m7, m8, m9, m10, m11, m12, m13, m14, m15, m16, m17, m18, .ref tp, .int tn, .ref rp, .int (nI rn), .int 1]))] H := hP
    have hD : va_D A [(tp, .inl (cB, 4000, .inl f)), (rp, .inl (cB, 8192, .inl g)), (h0, .inr (9, [m0, m1, m2, m3, m4, m5, m6, m7, m8, m9, m10, m11, m12, m13, m14, m15, m16, m17, m18, .ref tp, .int tn, .ref rp, .int (nI rn), .int 1]))] := hD
    obtain rfl : r17 = 0 := hw
    refine W.eq (g2 := F0 m 20 ls [.int 0]) rfl ?_
    refine lv_if_ne (tgt := 25) hx hb dX9_back_20 (by decide) (fun c20 => ?_) (fun c20 => ?_)
    · have c20 : ¬ (0 = 0) := fun h => c20 ((nI_eq (a := 0) (b := 0) (by omega) (by omega)).mpr h)
      exfalso; omega
    · have c20 : 0 = 0 := (nI_eq (a := 0) (b := 0) (by omega) (by omega)).mp c20
      refine lv_iconst (v := 0) hx hb dX9_back_23 (by decide) ?_
      have hP9 := hP.sub (ws' := [(h0, .inr (9, [m0, m1, m2, m3, m4, m5, m6, m7, m8, m9, m10, m11, m12, m13, m14, m15, m16, m17, m18, .ref tp, .int tn, .ref rp, .int (nI rn), .int 1])), (tp, .inl (cB, 4000, .inl f)), (rp, .inl (cB, 8192, .inl g))]) [2, 0, 1] rfl
      have hD9 := hD.sub (ws' := [(h0, .inr (9, [m0, m1, m2, m3, m4, m5, m6, m7, m8, m9, m10, m11, m12, m13, m14, m15, m16, m17, m18, .ref tp, .int tn, .ref rp, .int (nI rn), .int 1])), (tp, .inl (cB, 4000, .inl f)), (rp, .inl (cB, 8192, .inl g))]) [2, 0, 1] (by decide) rfl
      exact W.iret (v := 0) hx hb hr (fun t ht hW => ⟨⟨0, (f, tn, 1), rfl, Or.inr ⟨by omega, rfl⟩, ⟨by rw [ht]; exact hP9, va_K.moved hW.alike hK, hD9⟩⟩, hS.F ht⟩) hS.2.2 dX9_back_24
  · have c8 : ¬ (4000 < rn) := fun h => c8 ((nI_ltI (a := 4000) (b := rn) (by omega) (by omega)).mpr h)
    refine lv_iconst (v := 1) hx hb dX9_back_11 (by decide) ?_
    refine lv_goto (tgt := 16) hx hb dX9_back_12 (by decide) ?_
    refine lv_iconst (v := 1) hx hb dX9_back_16 (by decide) ?_
    have hPc := hP.sub (ws' := [(h0, .inr (9, [m0, m1, m2, m3, m4, m5, m6, m7, m8, m9, m10, m11, m12, m13, m14, m15, m16, m17, m18, .ref tp, .int tn, .ref rp, .int (nI rn), .int kd]))]) [0] rfl
    have hDc := hD.sub (ws' := [(h0, .inr (9, [m0, m1, m2, m3, m4, m5, m6, m7, m8, m9, m10, m11, m12, m13, m14, m15, m16, m17, m18, .ref tp, .int tn, .ref rp, .int (nI rn), .int kd]))]) [0] (by decide) rfl
    have hFc := va_free (wc := [(h0, .inr (9, [m0, m1, m2, m3, m4, m5, m6, m7, m8, m9, m10, m11, m12, m13, m14, m15, m16, m17, m18, .ref tp, .int tn, .ref rp, .int (nI rn), .int kd]))]) hD hS hA [0] rfl
    refine va_calli (va_runV (As := [.int 1, .int 1]) (rest := []) ⟨hx, hb, hml, hown, hts⟩ (k_X9_good_t l dC dI cB cI cJ cM h0 kd 1 m0 m1 m2 m3 m4 m5 m6 m7 m8 m9 m10 m11 m12 m13 m14 m15 m16 m17 m18 (.ref tp) (.int tn) (.ref rp) (.int (nI rn))  s.heap.size) (cwV 2 hts gX9_back_X9_good rfl rfl rfl (by decide +kernel) ⟨Nat.le_of_ble_eq_true rfl, Nat.le_of_ble_eq_true rfl⟩) ⟨fun a U g mk q => by obtain ⟨q0, q1, qP, qK, qD⟩ := q; exact ⟨q0, q1, qP, va_K.moved (u := U) (U := U.calling g mk a) (Vm.Alike.refl U.vm) qK, qD⟩, va_recv hK hPc (ci := 9) (q0 := 0) rfl rfl, fun U hU hW => ⟨rfl, by rw [hU], by rw [hU]; exact hPc, va_K.moved hW.alike hK, hDc.weaken (fun _ _ _ _ => trivial)⟩⟩ rfl rfl hl.1 rfl (lv_room (Nat.le_of_ble_eq_true rfl)) dX9_back_17 ⟨(show 0 + 0 ≤ 0 by omega), (show 0 + 0 ≤ 0 by omega)⟩) hS (fun q _ h => hFc q h) hFc (fun r17 u t H1 locs ht hvm hw hB hz1 hk1 hS => ?_)
    have hP1 : va_P (dC, dI) vwCl [(h0, .inr (9, [m0, m1, m2, m3, m4, m5, m6, m7, m8, m9, m10, m11, m12, m13, m14, m15, m16, m17, m18, .ref tp, .int tn, .ref rp, .int (nI rn), .int 0]))] H1 := by rw [← ht]; exact hB.1
    have hD1 : va_D (va_A [(h0, .inr (9, [m0, m1, m2, m3, m4, m5, m6, m7, m8, m9, m10, m11, m12, m13, m14, m15, m16, m17, m18, .ref tp, .int tn, .ref rp, .int (nI rn), .int kd]))] s.heap.size) [(h0, .inr (9, [m0, m1, m2, m3, m4, m5, m6, m7, m8, m9, m10, m11, m12, m13, m14, m15, m16, m17, m18, .ref tp, .int tn, .ref rp, .int (nI rn), .int 0]))] := hB.2.2
    obtain ⟨hP, hD⟩ := va_join (wr := [(tp, .inl (cB, 4000, .inl f)), (rp, .inl (cB, 8192, .inl g))]) (w1 := [(h0, .inr (9, [m0, m1, m2, m3, m4, m5, m6, m7, m8, m9, m10, m11, m12, m13, m14, m15, m16, m17, m18, .ref tp, .int tn, .ref rp, .int (nI rn), .int 0]))]) hP hD [0] [1, 2] rfl rfl (by decide) (by decide) hk1 hFc hP1 hD1
    generalize H1 = H at hP hS ⊢
    try dsimp only at hw
    have hP : va_P (dC, dI) vwCl [(tp, .inl (cB, 4000, .inl f)), (rp, .inl (cB, 8192, .inl g)), (h0, .inr (9, [m0, m1, m2, m3, m4, m5, m6, m7, m8, m9, m10, m11, m12, m13, m14, m15, m16, m17, m18, .ref tp, .int tn, .ref rp, .int (nI rn), .int 0]))] H := hP
    have hD : va_D A [(tp, .inl (cB, 4000, .inl f)), (rp, .inl (cB, 8192, .inl g)), (h0, .inr (9, [m0, m1, m2, m3, m4, m5, m6, m7, m8, m9, m10, m11, m12, m13, m14, m15, m16, m17, m18, .ref tp, .int tn, .ref rp, .int (nI rn), .int 0]))] := hD
    obtain rfl : r17 = 1 := hw
    refine W.eq (g2 := F0 m 20 ls [.int 1]) rfl ?_
    refine lv_if_ne (tgt := 25) hx hb dX9_back_20 (by decide) (fun c20 => ?_) (fun c20 => ?_)
    · have c20 : ¬ (1 = 0) := fun h => c20 ((nI_eq (a := 1) (b := 0) (by omega) (by omega)).mpr h)
      refine lv_aload_n hx hb dX9_back_25 rfl (lv_at hl 0 rfl) ?_
      refine lv_aload_n hx hb dX9_back_26 rfl (lv_at hl 0 rfl) ?_
      refine va_get (D := (dC, dI)) (ci := 9) (v := .int (nI rn)) (C := RX9) (T := TX9) (N := 24) hx hb hts (by decide +kernel) hown hK hP 2 rfl rfl 22 (by decide) (hts (.fieldLink RX9 168 "FixedPressModel" "resultLength" "I") (by decide +kernel)) (fun _ h9 => h9) rfl dX9_back_27 ?_
      refine va_put (D := (dC, dI)) (ci := 9) (v := .int (nI rn)) (ty := .int) (C := RX9) (T := TX9) (N := 24) hx hb hts (by decide +kernel) tyX9 tyX9_ok nmX9 hown hK hP hD hS 2 rfl rfl 20 (by decide) (hts (.fieldLink RX9 153 "FixedPressModel" "taped" "I") (by decide +kernel)) (fun _ h9 => h9) rfl (by decide +kernel) rfl rfl (Nat.le_of_ble_eq_true rfl) dX9_back_30 (fun H locs hP hD hS => ?_)
      have hP : va_P (dC, dI) vwCl [(tp, .inl (cB, 4000, .inl f)), (rp, .inl (cB, 8192, .inl g)), (h0, .inr (9, [m0, m1, m2, m3, m4, m5, m6, m7, m8, m9, m10, m11, m12, m13, m14, m15, m16, m17, m18, .ref tp, .int (nI rn), .ref rp, .int (nI rn), .int 0]))] H := hP
      have hD : va_D A [(tp, .inl (cB, 4000, .inl f)), (rp, .inl (cB, 8192, .inl g)), (h0, .inr (9, [m0, m1, m2, m3, m4, m5, m6, m7, m8, m9, m10, m11, m12, m13, m14, m15, m16, m17, m18, .ref tp, .int (nI rn), .ref rp, .int (nI rn), .int 0]))] := hD
      refine lv_iconst (v := 0) hx hb dX9_back_33 (by decide) ?_
      refine lv_istore_n (lv' := [(1, .int 0), (0, .ref h0)]) hx hb dX9_back_34 rfl hl (by decide) rfl (fun ls hl => ?_)
      have cut35 : ∀ (fuel : Nat) (i : Nat) (f1 : Nat → Int32), (i ≤ rn) → (∀ j, f1 j = if j < i then g j else f j) → (rn - i < fuel) → ∀ (H : Heap) (locs : List Loc), va_P (dC, dI) vwCl [(h0, .inr (9, [m0, m1, m2, m3, m4, m5, m6, m7, m8, m9, m10, m11, m12, m13, m14, m15, m16, m17, m18, .ref tp, .int (nI rn), .ref rp, .int (nI rn), .int 0])), (tp, .inl (cB, 4000, .inl f1)), (rp, .inl (cB, 8192, .inl g))] H → va_D A [(h0, .inr (9, [m0, m1, m2, m3, m4, m5, m6, m7, m8, m9, m10, m11, m12, m13, m14, m15, m16, m17, m18, .ref tp, .int (nI rn), .ref rp, .int (nI rn), .int 0])), (tp, .inl (cB, 4000, .inl f1)), (rp, .inl (cB, 8192, .inl g))] → va_S A s.heap H locs → ∀ (ls : Array Slot), lv_has ls 2 [(0, .ref h0), (1, .int (nI i))] → W p l e (headSpec wsX9_back rm_X9_back).room s m ([.ref h0] : List Value).toArray below meth c H locs 0 0 (MQ below (q_X9_back dC dI cB cI cJ cM h0 tp rp f g rn tn kd m0 m1 m2 m3 m4 m5 m6 m7 m8 m9 m10 m11 m12 m13 m14 m15 m16 m17 m18 A) ([.ref h0] : List Value).toArray s 0 0 A) (F0 m 35 ls []) := by
        intro fuel
        induction fuel with
        | zero => intros; omega
        | succ fuel ih =>
          intro i f1 hi hf1 hfuel H locs hP hD hS ls hl
          refine lv_iload_n hx hb dX9_back_35 rfl (lv_at hl 1 rfl) ?_
          refine lv_aload_n hx hb dX9_back_36 rfl (lv_at hl 0 rfl) ?_
          refine va_get (D := (dC, dI)) (ci := 9) (v := .int (nI rn)) (C := RX9) (T := TX9) (N := 24) hx hb hts (by decide +kernel) hown hK hP 0 rfl rfl 20 (by decide) (hts (.fieldLink RX9 153 "FixedPressModel" "taped" "I") (by decide +kernel)) (fun _ h9 => h9) rfl dX9_back_37 ?_
          refine lv_icmp_ge (tgt := 61) hx hb dX9_back_40 (by decide) (fun c40 => ?_) (fun c40 => ?_)
          · have c40 : rn ≤ i := (nI_leI (a := rn) (b := i) (by omega) (by omega)).mp c40
            have hin : i = rn := by omega
            rw [hin] at hf1
            refine lv_aload_n hx hb dX9_back_61 rfl (lv_at hl 0 rfl) ?_
            refine va_get (D := (dC, dI)) (ci := 9) (v := .int (nI rn)) (C := RX9) (T := TX9) (N := 24) hx hb hts (by decide +kernel) hown hK hP 0 rfl rfl 20 (by decide) (hts (.fieldLink RX9 153 "FixedPressModel" "taped" "I") (by decide +kernel)) (fun _ h9 => h9) rfl dX9_back_62 ?_
            have hP9 := hP.sub (ws' := [(h0, .inr (9, [m0, m1, m2, m3, m4, m5, m6, m7, m8, m9, m10, m11, m12, m13, m14, m15, m16, m17, m18, .ref tp, .int (nI rn), .ref rp, .int (nI rn), .int 0])), (tp, .inl (cB, 4000, .inl f1)), (rp, .inl (cB, 8192, .inl g))]) [0, 1, 2] rfl
            have hD9 := hD.sub (ws' := [(h0, .inr (9, [m0, m1, m2, m3, m4, m5, m6, m7, m8, m9, m10, m11, m12, m13, m14, m15, m16, m17, m18, .ref tp, .int (nI rn), .ref rp, .int (nI rn), .int 0])), (tp, .inl (cB, 4000, .inl f1)), (rp, .inl (cB, 8192, .inl g))]) [0, 1, 2] (by decide) rfl
            exact W.iret (v := (nI rn)) hx hb hr (fun t ht hW => ⟨⟨(nI rn), (f1, nI rn, 0), rfl, Or.inl ⟨by omega, rfl, rfl, hf1⟩, ⟨by rw [ht]; exact hP9, va_K.moved hW.alike hK, hD9⟩⟩, hS.F ht⟩) hS.2.2 dX9_back_65
          · have c40 : ¬ (rn ≤ i) := fun h => c40 ((nI_leI (a := rn) (b := i) (by omega) (by omega)).mpr h)
            refine lv_aload_n hx hb dX9_back_43 rfl (lv_at hl 0 rfl) ?_
            refine va_get (D := (dC, dI)) (ci := 9) (v := .ref tp) (C := RX9) (T := TX9) (N := 24) hx hb hts (by decide +kernel) hown hK hP 0 rfl rfl 19 (by decide) (hts (.fieldLink RX9 144 "FixedPressModel" "tape" "[B") (by decide +kernel)) (fun _ h9 => h9) rfl dX9_back_44 ?_
            refine lv_iload_n hx hb dX9_back_47 rfl (lv_at hl 1 rfl) ?_
            refine lv_aload_n hx hb dX9_back_48 rfl (lv_at hl 0 rfl) ?_
            refine va_get (D := (dC, dI)) (ci := 9) (v := .ref rp) (C := RX9) (T := TX9) (N := 24) hx hb hts (by decide +kernel) hown hK hP 0 rfl rfl 21 (by decide) (hts (.fieldLink RX9 147 "FixedPressModel" "result" "[B") (by decide +kernel)) (fun _ h9 => h9) rfl dX9_back_49 ?_
            refine lv_iload_n hx hb dX9_back_52 rfl (lv_at hl 1 rfl) ?_
            refine va_bald hx hb hK hP 2 0 rfl rfl (vp_in_nI (n := i) (by omega) (by omega)) dX9_back_53 ?_
            rw [nI_clamp (n := i) (by omega)]
            refine va_bast hx hb hK hP hD hS 1 0 rfl rfl (vp_in_nI (n := i) (by omega) (by omega)) dX9_back_54 (fun H locs hP hD hS => ?_)
            rw [nI_clamp (n := i) (by omega)] at hP hD
            have hP : va_P (dC, dI) vwCl [(h0, .inr (9, [m0, m1, m2, m3, m4, m5, m6, m7, m8, m9, m10, m11, m12, m13, m14, m15, m16, m17, m18, .ref tp, .int (nI rn), .ref rp, .int (nI rn), .int 0])), (tp, .inl (cB, 4000, .inl (upd f1 i (vp_nar .byte (g i))))), (rp, .inl (cB, 8192, .inl g))] H := hP
            have hD : va_D A [(h0, .inr (9, [m0, m1, m2, m3, m4, m5, m6, m7, m8, m9, m10, m11, m12, m13, m14, m15, m16, m17, m18, .ref tp, .int (nI rn), .ref rp, .int (nI rn), .int 0])), (tp, .inl (cB, 4000, .inl (upd f1 i (vp_nar .byte (g i))))), (rp, .inl (cB, 8192, .inl g))] := hD
            refine lv_iinc (v := nI (i + 1)) (lv' := [(1, .int (nI (i + 1))), (0, .ref h0)]) hx hb dX9_back_55 hl (k := 1) rfl (show nI i + Int32.ofInt 1 = _ from nI_add i 1) (by decide) rfl (fun ls hl => ?_)
            refine lv_goto (tgt := 35) hx hb dX9_back_58 (by decide) ?_
            exact ih (i + 1) (upd f1 i (vp_nar .byte (g i))) (by omega) (fun j => if e : j = i then (by subst e; rw [pk_us, if_pos (by omega)]; exact hb8 _ (by omega)) else (by rw [pk_un e, hf1 j]; exact ite_congr (propext ⟨fun q => by omega, fun q => by omega⟩) (fun _ => rfl) (fun _ => rfl))) (by omega) _ _ hP hD hS _ (lv_sub hl [1, 0] rfl)
      exact cut35 (rn - 0 + 1) 0 f (by omega) (fun j => (if_neg (Nat.not_lt_zero _)).symm) (by omega) _ _ (hP.sub [2, 0, 1] rfl) (hD.sub [2, 0, 1] (by decide) rfl) hS _ (lv_sub hl [1, 0] rfl)
    · have c20 : 1 = 0 := (nI_eq (a := 1) (b := 0) (by omega) (by omega)).mp c20
      exfalso; omega

abbrev rm_X9_fill : Room := { frames := 1, cells := 0, slots := 0, locals := 22 }
abbrev wo_X9_fill (dC : Nat → ClassId) (dI : Nat → Nat → Nat) (cB cI cJ cM : ClassId) (h0 tp : Nat) (f : Nat → Int32) (tn : Nat) (kd sd bd k : Int32) (m0 m1 m2 m3 m4 m5 m6 m7 m8 m9 m10 m11 m12 m13 m14 m15 m16 m17 m18 m21 m22 : Value) : va_W := [(h0, .inr (9, [m0, m1, m2, m3, m4, m5, m6, m7, m8, m9, m10, m11, m12, m13, m14, m15, m16, m17, m18, .ref tp, .int (nI tn), m21, m22, .int kd])), (tp, .inl (cB, 4000, .inl f))]
abbrev q_X9_fill (dC : Nat → ClassId) (dI : Nat → Nat → Nat) (cB cI cJ cM : ClassId) (h0 tp : Nat) (f : Nat → Int32) (tn : Nat) (kd sd bd k : Int32) (m0 m1 m2 m3 m4 m5 m6 m7 m8 m9 m10 m11 m12 m13 m14 m15 m16 m17 m18 m21 m22 : Value) (A : Nat → Prop) : Array Value → State → Outcome → State → Prop := va_Qi (fun (r : Int32) (u : (Nat → Int32) × Nat × Int32) => (∃ kn, 1 ≤ bd ∧ bd ≤ 256 ∧ k = nI kn ∧ tn + kn ≤ 4000 ∧ r = nI (tn + kn) ∧ u = (zfil f tn sd bd kn, tn + kn, 0)) ∨ ((bd < 1 ∨ 256 < bd ∨ k < 0 ∨ 4000 < k) ∧ u = (f, tn, 1)) ∨ ((1 ≤ bd ∧ bd ≤ 256) ∧ (0 ≤ k ∧ k ≤ 4000) ∧ nI (4000 - tn) < k ∧ u = (f, tn, 2))) (zB dC dI cB cI cJ cM A (fun u : (Nat → Int32) × Nat × Int32 => [(h0, .inr (9, [m0, m1, m2, m3, m4, m5, m6, m7, m8, m9, m10, m11, m12, m13, m14, m15, m16, m17, m18, .ref tp, .int (nI u.2.1), m21, m22, .int u.2.2])), (tp, .inl (cB, 4000, .inl u.1))])) A
set_option maxHeartbeats 8000000 in
set_option maxRecDepth 100000 in
/-- fill of the reference -/
theorem k_X9_fill (l : Launch) (dC : Nat → ClassId) (dI : Nat → Nat → Nat) (cB cI cJ cM : ClassId) (h0 tp : Nat) (f : Nat → Int32) (tn : Nat) (kd sd bd k : Int32) (m0 m1 m2 m3 m4 m5 m6 m7 m8 m9 m10 m11 m12 m13 m14 m15 m16 m17 m18 m21 m22 : Value) (h1 : tn ≤ 4000) (sz : Nat) : Met l yX9_fill wsX9_fill rm_X9_fill (va_Pc [.ref h0, .int sd, .int bd, .int k] (fun U => U.heap.size = sz ∧ va_P (dC, dI) vwCl (wo_X9_fill dC dI cB cI cJ cM h0 tp f tn kd sd bd k m0 m1 m2 m3 m4 m5 m6 m7 m8 m9 m10 m11 m12 m13 m14 m15 m16 m17 m18 m21 m22) U.heap ∧ va_K (dC, dI) vwCl (zT cB cI cJ cM) U ∧ va_D (fun _ => True) (wo_X9_fill dC dI cB cI cJ cM h0 tp f tn kd sd bd k m0 m1 m2 m3 m4 m5 m6 m7 m8 m9 m10 m11 m12 m13 m14 m15 m16 m17 m18 m21 m22))) (q_X9_fill dC dI cB cI cJ cM h0 tp f tn kd sd bd k m0 m1 m2 m3 m4 m5 m6 m7 m8 m9 m10 m11 m12 m13 m14 m15 m16 m17 m18 m21 m22 (va_A (wo_X9_fill dC dI cB cI cJ cM h0 tp f tn kd sd bd k m0 m1 m2 m3 m4 m5 m6 m7 m8 m9 m10 m11 m12 m13 m14 m15 m16 m17 m18 m21 m22) sz)) 0 0 (va_A (wo_X9_fill dC dI cB cI cJ cM h0 tp f tn kd sd bd k m0 m1 m2 m3 m4 m5 m6 m7 m8 m9 m10 m11 m12 m13 m14 m15 m16 m17 m18 m21 m22) sz) := by
  refine Met.ofW (cc := cX9_fill) (maxL := 6) (ret := (some .int)) (by decide) rfl ?_
  intro p e s m args below meth c s₁ B hml hv
  obtain ⟨rfl, hsz, hP, hK, hD0⟩ := hv
  have hx := B.exec
  have hb := B.bytes
  have hr := B.returns
  have hts := atoms_spec (ws := wsX9_fill) B.pre
  have hown : s.vm.findClass RX9 = some m.cls := findClass_of_methodNamed B.named
  have hlocks := B.notSynchronized
  subst hsz
  have hD := hD0.self (sz := s.heap.size)
  generalize hAe : va_A (wo_X9_fill dC dI cB cI cJ cM h0 tp f tn kd sd bd k m0 m1 m2 m3 m4 m5 m6 m7 m8 m9 m10 m11 m12 m13 m14 m15 m16 m17 m18 m21 m22) s.heap.size = A at hD ⊢
  have hA : ∀ q : Nat, s.heap.size ≤ q → A q := fun q h => by rw [← hAe]; exact Or.inr h
  have hS : va_S A s.heap s.heap [] := va_S.rf
  have hP : va_P (dC, dI) vwCl [(h0, .inr (9, [m0, m1, m2, m3, m4, m5, m6, m7, m8, m9, m10, m11, m12, m13, m14, m15, m16, m17, m18, .ref tp, .int (nI tn), m21, m22, .int kd])), (tp, .inl (cB, 4000, .inl f))] s.heap := hP
  have hD : va_D A [(h0, .inr (9, [m0, m1, m2, m3, m4, m5, m6, m7, m8, m9, m10, m11, m12, m13, m14, m15, m16, m17, m18, .ref tp, .int (nI tn), m21, m22, .int kd])), (tp, .inl (cB, 4000, .inl f))] := hD
  have hl := lv_entry ([.ref h0, .int sd, .int bd, .int k]) (n := 6) (Nat.le_of_ble_eq_true rfl)
  rw [lg_entry_eq]
  generalize (lg_sl ([.ref h0, .int sd, .int bd, .int k]) ++ List.replicate (6 - (lg_sl ([.ref h0, .int sd, .int bd, .int k])).length) Slot.unset).toArray = ls at hl ⊢
  have hl : lv_has ls 6 [(0, .ref h0), (1, .int sd), (2, .int bd), (3, .int k)] := hl
  refine lv_aload_n hx hb dX9_fill_0 rfl (lv_at hl 0 rfl) ?_
  refine lv_iload_n hx hb dX9_fill_1 rfl (lv_at hl 2 rfl) ?_
  refine lv_iconst (v := 1) hx hb dX9_fill_2 (by decide) ?_
  refine lv_icmp_lt (tgt := 28) hx hb dX9_fill_3 (by decide) (fun c3 => ?_) (fun c3 => ?_)
  · refine lv_iconst (v := 0) hx hb dX9_fill_28 (by decide) ?_
    refine lv_iconst (v := 1) hx hb dX9_fill_29 (by decide) ?_
    have hPc := hP.sub (ws' := [(h0, .inr (9, [m0, m1, m2, m3, m4, m5, m6, m7, m8, m9, m10, m11, m12, m13, m14, m15, m16, m17, m18, .ref tp, .int (nI tn), m21, m22, .int kd]))]) [0] rfl
    have hDc := hD.sub (ws' := [(h0, .inr (9, [m0, m1, m2, m3, m4, m5, m6, m7, m8, m9, m10, m11, m12, m13, m14, m15, m16, m17, m18, .ref tp, .int (nI tn), m21, m22, .int kd]))]) [0] (by decide) rfl
    have hFc := va_free (wc := [(h0, .inr (9, [m0, m1, m2, m3, m4, m5, m6, m7, m8, m9, m10, m11, m12, m13, m14, m15, m16, m17, m18, .ref tp, .int (nI tn), m21, m22, .int kd]))]) hD hS hA [0] rfl
    refine va_calli (va_runV (As := [.int 0, .int 1]) (rest := []) ⟨hx, hb, hml, hown, hts⟩ (k_X9_good_f l dC dI cB cI cJ cM h0 kd 1 m0 m1 m2 m3 m4 m5 m6 m7 m8 m9 m10 m11 m12 m13 m14 m15 m16 m17 m18 (.ref tp) (.int (nI tn)) m21 m22  s.heap.size) (cwV 2 hts gX9_fill_X9_good rfl rfl rfl (by decide +kernel) ⟨Nat.le_of_ble_eq_true rfl, Nat.le_of_ble_eq_true rfl⟩) ⟨fun a U g mk q => by obtain ⟨q0, q1, qP, qK, qD⟩ := q; exact ⟨q0, q1, qP, va_K.moved (u := U) (U := U.calling g mk a) (Vm.Alike.refl U.vm) qK, qD⟩, va_recv hK hPc (ci := 9) (q0 := 0) rfl rfl, fun U hU hW => ⟨rfl, by rw [hU], by rw [hU]; exact hPc, va_K.moved hW.alike hK, hDc.weaken (fun _ _ _ _ => trivial)⟩⟩ rfl rfl hl.1 rfl (lv_room (Nat.le_of_ble_eq_true rfl)) dX9_fill_30 ⟨(show 0 + 0 ≤ 0 by omega), (show 0 + 0 ≤ 0 by omega)⟩) hS (fun q _ h => hFc q h) hFc (fun r30 u t H1 locs ht hvm hw hB hz1 hk1 hS => ?_)
    have hP1 : va_P (dC, dI) vwCl [(h0, .inr (9, [m0, m1, m2, m3, m4, m5, m6, m7, m8, m9, m10, m11, m12, m13, m14, m15, m16, m17, m18, .ref tp, .int (nI tn), m21, m22, .int 1]))] H1 := by rw [← ht]; exact hB.1
    have hD1 : va_D (va_A [(h0, .inr (9, [m0, m1, m2, m3, m4, m5, m6, m7, m8, m9, m10, m11, m12, m13, m14, m15, m16, m17, m18, .ref tp, .int (nI tn), m21, m22, .int kd]))] s.heap.size) [(h0, .inr (9, [m0, m1, m2, m3, m4, m5, m6, m7, m8, m9, m10, m11, m12, m13, m14, m15, m16, m17, m18, .ref tp, .int (nI tn), m21, m22, .int 1]))] := hB.2.2
    obtain ⟨hP, hD⟩ := va_join (wr := [(tp, .inl (cB, 4000, .inl f))]) (w1 := [(h0, .inr (9, [m0, m1, m2, m3, m4, m5, m6, m7, m8, m9, m10, m11, m12, m13, m14, m15, m16, m17, m18, .ref tp, .int (nI tn), m21, m22, .int 1]))]) hP hD [0] [1] rfl rfl (by decide) (by decide) hk1 hFc hP1 hD1
    generalize H1 = H at hP hS ⊢
    try dsimp only at hw
    have hP : va_P (dC, dI) vwCl [(tp, .inl (cB, 4000, .inl f)), (h0, .inr (9, [m0, m1, m2, m3, m4, m5, m6, m7, m8, m9, m10, m11, m12, m13, m14, m15, m16, m17, m18, .ref tp, .int (nI tn), m21, m22, .int 1]))] H := hP
    have hD : va_D A [(tp, .inl (cB, 4000, .inl f)), (h0, .inr (9, [m0, m1, m2, m3, m4, m5, m6, m7, m8, m9, m10, m11, m12, m13, m14, m15, m16, m17, m18, .ref tp, .int (nI tn), m21, m22, .int 1]))] := hD
    obtain rfl : r30 = 0 := hw
    refine W.eq (g2 := F0 m 33 ls [.int 0]) rfl ?_
    refine lv_if_eq (tgt := 61) hx hb dX9_fill_33 (by decide) (fun c33 => ?_) (fun c33 => ?_)
    · have c33 : 0 = 0 := (nI_eq (a := 0) (b := 0) (by omega) (by omega)).mp c33
      refine lv_iconst (v := 0) hx hb dX9_fill_61 (by decide) ?_
      have hP9 := hP.sub (ws' := [(h0, .inr (9, [m0, m1, m2, m3, m4, m5, m6, m7, m8, m9, m10, m11, m12, m13, m14, m15, m16, m17, m18, .ref tp, .int (nI tn), m21, m22, .int 1])), (tp, .inl (cB, 4000, .inl f))]) [1, 0] rfl
      have hD9 := hD.sub (ws' := [(h0, .inr (9, [m0, m1, m2, m3, m4, m5, m6, m7, m8, m9, m10, m11, m12, m13, m14, m15, m16, m17, m18, .ref tp, .int (nI tn), m21, m22, .int 1])), (tp, .inl (cB, 4000, .inl f))]) [1, 0] (by decide) rfl
      exact W.iret (v := 0) hx hb hr (fun t ht hW => ⟨⟨0, (f, tn, 1), rfl, Or.inr (Or.inl ⟨Or.inl c3, rfl⟩), ⟨by rw [ht]; exact hP9, va_K.moved hW.alike hK, hD9⟩⟩, hS.F ht⟩) hS.2.2 dX9_fill_62
    · have c33 : ¬ (0 = 0) := fun h => c33 ((nI_eq (a := 0) (b := 0) (by omega) (by omega)).mpr h)
      exfalso; omega
  · refine lv_iload_n hx hb dX9_fill_6 rfl (lv_at hl 2 rfl) ?_
    refine lv_sipush (v := 256) hx hb dX9_fill_7 (by decide) ?_
    refine lv_icmp_gt (tgt := 28) hx hb dX9_fill_10 (by decide) (fun c10 => ?_) (fun c10 => ?_)
    · refine lv_iconst (v := 0) hx hb dX9_fill_28 (by decide) ?_
      refine lv_iconst (v := 1) hx hb dX9_fill_29 (by decide) ?_
      have hPc := hP.sub (ws' := [(h0, .inr (9, [m0, m1, m2, m3, m4, m5, m6, m7, m8, m9, m10, m11, m12, m13, m14, m15, m16, m17, m18, .ref tp, .int (nI tn), m21, m22, .int kd]))]) [0] rfl
      have hDc := hD.sub (ws' := [(h0, .inr (9, [m0, m1, m2, m3, m4, m5, m6, m7, m8, m9, m10, m11, m12, m13, m14, m15, m16, m17, m18, .ref tp, .int (nI tn), m21, m22, .int kd]))]) [0] (by decide) rfl
      have hFc := va_free (wc := [(h0, .inr (9, [m0, m1, m2, m3, m4, m5, m6, m7, m8, m9, m10, m11, m12, m13, m14, m15, m16, m17, m18, .ref tp, .int (nI tn), m21, m22, .int kd]))]) hD hS hA [0] rfl
      refine va_calli (va_runV (As := [.int 0, .int 1]) (rest := []) ⟨hx, hb, hml, hown, hts⟩ (k_X9_good_f l dC dI cB cI cJ cM h0 kd 1 m0 m1 m2 m3 m4 m5 m6 m7 m8 m9 m10 m11 m12 m13 m14 m15 m16 m17 m18 (.ref tp) (.int (nI tn)) m21 m22  s.heap.size) (cwV 2 hts gX9_fill_X9_good rfl rfl rfl (by decide +kernel) ⟨Nat.le_of_ble_eq_true rfl, Nat.le_of_ble_eq_true rfl⟩) ⟨fun a U g mk q => by obtain ⟨q0, q1, qP, qK, qD⟩ := q; exact ⟨q0, q1, qP, va_K.moved (u := U) (U := U.calling g mk a) (Vm.Alike.refl U.vm) qK, qD⟩, va_recv hK hPc (ci := 9) (q0 := 0) rfl rfl, fun U hU hW => ⟨rfl, by rw [hU], by rw [hU]; exact hPc, va_K.moved hW.alike hK, hDc.weaken (fun _ _ _ _ => trivial)⟩⟩ rfl rfl hl.1 rfl (lv_room (Nat.le_of_ble_eq_true rfl)) dX9_fill_30 ⟨(show 0 + 0 ≤ 0 by omega), (show 0 + 0 ≤ 0 by omega)⟩) hS (fun q _ h => hFc q h) hFc (fun r30 u t H1 locs ht hvm hw hB hz1 hk1 hS => ?_)
      have hP1 : va_P (dC, dI) vwCl [(h0, .inr (9, [m0, m1, m2, m3, m4, m5, m6, m7, m8, m9, m10, m11, m12, m13, m14, m15, m16, m17, m18, .ref tp, .int (nI tn), m21, m22, .int 1]))] H1 := by rw [← ht]; exact hB.1
      have hD1 : va_D (va_A [(h0, .inr (9, [m0, m1, m2, m3, m4, m5, m6, m7, m8, m9, m10, m11, m12, m13, m14, m15, m16, m17, m18, .ref tp, .int (nI tn), m21, m22, .int kd]))] s.heap.size) [(h0, .inr (9, [m0, m1, m2, m3, m4, m5, m6, m7, m8, m9, m10, m11, m12, m13, m14, m15, m16, m17, m18, .ref tp, .int (nI tn), m21, m22, .int 1]))] := hB.2.2
      obtain ⟨hP, hD⟩ := va_join (wr := [(tp, .inl (cB, 4000, .inl f))]) (w1 := [(h0, .inr (9, [m0, m1, m2, m3, m4, m5, m6, m7, m8, m9, m10, m11, m12, m13, m14, m15, m16, m17, m18, .ref tp, .int (nI tn), m21, m22, .int 1]))]) hP hD [0] [1] rfl rfl (by decide) (by decide) hk1 hFc hP1 hD1
      generalize H1 = H at hP hS ⊢
      try dsimp only at hw
      have hP : va_P (dC, dI) vwCl [(tp, .inl (cB, 4000, .inl f)), (h0, .inr (9, [m0, m1, m2, m3, m4, m5, m6, m7, m8, m9, m10, m11, m12, m13, m14, m15, m16, m17, m18, .ref tp, .int (nI tn), m21, m22, .int 1]))] H := hP
      have hD : va_D A [(tp, .inl (cB, 4000, .inl f)), (h0, .inr (9, [m0, m1, m2, m3, m4, m5, m6, m7, m8, m9, m10, m11, m12, m13, m14, m15, m16, m17, m18, .ref tp, .int (nI tn), m21, m22, .int 1]))] := hD
      obtain rfl : r30 = 0 := hw
      refine W.eq (g2 := F0 m 33 ls [.int 0]) rfl ?_
      refine lv_if_eq (tgt := 61) hx hb dX9_fill_33 (by decide) (fun c33 => ?_) (fun c33 => ?_)
      · have c33 : 0 = 0 := (nI_eq (a := 0) (b := 0) (by omega) (by omega)).mp c33
        refine lv_iconst (v := 0) hx hb dX9_fill_61 (by decide) ?_
        have hP9 := hP.sub (ws' := [(h0, .inr (9, [m0, m1, m2, m3, m4, m5, m6, m7, m8, m9, m10, m11, m12, m13, m14, m15, m16, m17, m18, .ref tp, .int (nI tn), m21, m22, .int 1])), (tp, .inl (cB, 4000, .inl f))]) [1, 0] rfl
        have hD9 := hD.sub (ws' := [(h0, .inr (9, [m0, m1, m2, m3, m4, m5, m6, m7, m8, m9, m10, m11, m12, m13, m14, m15, m16, m17, m18, .ref tp, .int (nI tn), m21, m22, .int 1])), (tp, .inl (cB, 4000, .inl f))]) [1, 0] (by decide) rfl
        exact W.iret (v := 0) hx hb hr (fun t ht hW => ⟨⟨0, (f, tn, 1), rfl, Or.inr (Or.inl ⟨Or.inr (Or.inl c10), rfl⟩), ⟨by rw [ht]; exact hP9, va_K.moved hW.alike hK, hD9⟩⟩, hS.F ht⟩) hS.2.2 dX9_fill_62
      · have c33 : ¬ (0 = 0) := fun h => c33 ((nI_eq (a := 0) (b := 0) (by omega) (by omega)).mpr h)
        exfalso; omega
    · refine lv_iload_n hx hb dX9_fill_13 rfl (lv_at hl 3 rfl) ?_
      refine lv_if_lt (tgt := 28) hx hb dX9_fill_14 (by decide) (fun c14 => ?_) (fun c14 => ?_)
      · refine lv_iconst (v := 0) hx hb dX9_fill_28 (by decide) ?_
        refine lv_iconst (v := 1) hx hb dX9_fill_29 (by decide) ?_
        have hPc := hP.sub (ws' := [(h0, .inr (9, [m0, m1, m2, m3, m4, m5, m6, m7, m8, m9, m10, m11, m12, m13, m14, m15, m16, m17, m18, .ref tp, .int (nI tn), m21, m22, .int kd]))]) [0] rfl
        have hDc := hD.sub (ws' := [(h0, .inr (9, [m0, m1, m2, m3, m4, m5, m6, m7, m8, m9, m10, m11, m12, m13, m14, m15, m16, m17, m18, .ref tp, .int (nI tn), m21, m22, .int kd]))]) [0] (by decide) rfl
        have hFc := va_free (wc := [(h0, .inr (9, [m0, m1, m2, m3, m4, m5, m6, m7, m8, m9, m10, m11, m12, m13, m14, m15, m16, m17, m18, .ref tp, .int (nI tn), m21, m22, .int kd]))]) hD hS hA [0] rfl
        refine va_calli (va_runV (As := [.int 0, .int 1]) (rest := []) ⟨hx, hb, hml, hown, hts⟩ (k_X9_good_f l dC dI cB cI cJ cM h0 kd 1 m0 m1 m2 m3 m4 m5 m6 m7 m8 m9 m10 m11 m12 m13 m14 m15 m16 m17 m18 (.ref tp) (.int (nI tn)) m21 m22  s.heap.size) (cwV 2 hts gX9_fill_X9_good rfl rfl rfl (by decide +kernel) ⟨Nat.le_of_ble_eq_true rfl, Nat.le_of_ble_eq_true rfl⟩) ⟨fun a U g mk q => by obtain ⟨q0, q1, qP, qK, qD⟩ := q; exact ⟨q0, q1, qP, va_K.moved (u := U) (U := U.calling g mk a) (Vm.Alike.refl U.vm) qK, qD⟩, va_recv hK hPc (ci := 9) (q0 := 0) rfl rfl, fun U hU hW => ⟨rfl, by rw [hU], by rw [hU]; exact hPc, va_K.moved hW.alike hK, hDc.weaken (fun _ _ _ _ => trivial)⟩⟩ rfl rfl hl.1 rfl (lv_room (Nat.le_of_ble_eq_true rfl)) dX9_fill_30 ⟨(show 0 + 0 ≤ 0 by omega), (show 0 + 0 ≤ 0 by omega)⟩) hS (fun q _ h => hFc q h) hFc (fun r30 u t H1 locs ht hvm hw hB hz1 hk1 hS => ?_)
        have hP1 : va_P (dC, dI) vwCl [(h0, .inr (9, [m0, m1, m2, m3, m4, m5, m6, m7, m8, m9, m10, m11, m12, m13, m14, m15, m16, m17, m18, .ref tp, .int (nI tn), m21, m22, .int 1]))] H1 := by rw [← ht]; exact hB.1
        have hD1 : va_D (va_A [(h0, .inr (9, [m0, m1, m2, m3, m4, m5, m6, m7, m8, m9, m10, m11, m12, m13, m14, m15, m16, m17, m18, .ref tp, .int (nI tn), m21, m22, .int kd]))] s.heap.size) [(h0, .inr (9, [m0, m1, m2, m3, m4, m5, m6, m7, m8, m9, m10, m11, m12, m13, m14, m15, m16, m17, m18, .ref tp, .int (nI tn), m21, m22, .int 1]))] := hB.2.2
        obtain ⟨hP, hD⟩ := va_join (wr := [(tp, .inl (cB, 4000, .inl f))]) (w1 := [(h0, .inr (9, [m0, m1, m2, m3, m4, m5, m6, m7, m8, m9, m10, m11, m12, m13, m14, m15, m16, m17, m18, .ref tp, .int (nI tn), m21, m22, .int 1]))]) hP hD [0] [1] rfl rfl (by decide) (by decide) hk1 hFc hP1 hD1
        generalize H1 = H at hP hS ⊢
        try dsimp only at hw
        have hP : va_P (dC, dI) vwCl [(tp, .inl (cB, 4000, .inl f)), (h0, .inr (9, [m0, m1, m2, m3, m4, m5, m6, m7, m8, m9, m10, m11, m12, m13, m14, m15, m16, m17, m18, .ref tp, .int (nI tn), m21, m22, .int 1]))] H := hP
        have hD : va_D A [(tp, .inl (cB, 4000, .inl f)), (h0, .inr (9, [m0, m1, m2, m3, m4, m5, m6, m7, m8, m9, m10, m11, m12, m13, m14, m15, m16, m17, m18, .ref tp, .int (nI tn), m21, m22, .int 1]))] := hD
        obtain rfl : r30 = 0 := hw
        refine W.eq (g2 := F0 m 33 ls [.int 0]) rfl ?_
        refine lv_if_eq (tgt := 61) hx hb dX9_fill_33 (by decide) (fun c33 => ?_) (fun c33 => ?_)
        · have c33 : 0 = 0 := (nI_eq (a := 0) (b := 0) (by omega) (by omega)).mp c33
          refine lv_iconst (v := 0) hx hb dX9_fill_61 (by decide) ?_
          have hP9 := hP.sub (ws' := [(h0, .inr (9, [m0, m1, m2, m3, m4, m5, m6, m7, m8, m9, m10, m11, m12, m13, m14, m15, m16, m17, m18, .ref tp, .int (nI tn), m21, m22, .int 1])), (tp, .inl (cB, 4000, .inl f))]) [1, 0] rfl
          have hD9 := hD.sub (ws' := [(h0, .inr (9, [m0, m1, m2, m3, m4, m5, m6, m7, m8, m9, m10, m11, m12, m13, m14, m15, m16, m17, m18, .ref tp, .int (nI tn), m21, m22, .int 1])), (tp, .inl (cB, 4000, .inl f))]) [1, 0] (by decide) rfl
          exact W.iret (v := 0) hx hb hr (fun t ht hW => ⟨⟨0, (f, tn, 1), rfl, Or.inr (Or.inl ⟨Or.inr (Or.inr (Or.inl c14)), rfl⟩), ⟨by rw [ht]; exact hP9, va_K.moved hW.alike hK, hD9⟩⟩, hS.F ht⟩) hS.2.2 dX9_fill_62
        · have c33 : ¬ (0 = 0) := fun h => c33 ((nI_eq (a := 0) (b := 0) (by omega) (by omega)).mpr h)
          exfalso; omega
      · refine lv_iload_n hx hb dX9_fill_17 rfl (lv_at hl 3 rfl) ?_
        refine lv_sipush (v := 4000) hx hb dX9_fill_18 (by decide) ?_
        refine lv_icmp_gt (tgt := 28) hx hb dX9_fill_21 (by decide) (fun c21 => ?_) (fun c21 => ?_)
        · refine lv_iconst (v := 0) hx hb dX9_fill_28 (by decide) ?_
          refine lv_iconst (v := 1) hx hb dX9_fill_29 (by decide) ?_
          have hPc := hP.sub (ws' := [(h0, .inr (9, [m0, m1, m2, m3, m4, m5, m6, m7, m8, m9, m10, m11, m12, m13, m14, m15, m16, m17, m18, .ref tp, .int (nI tn), m21, m22, .int kd]))]) [0] rfl
          have hDc := hD.sub (ws' := [(h0, .inr (9, [m0, m1, m2, m3, m4, m5, m6, m7, m8, m9, m10, m11, m12, m13, m14, m15, m16, m17, m18, .ref tp, .int (nI tn), m21, m22, .int kd]))]) [0] (by decide) rfl
          have hFc := va_free (wc := [(h0, .inr (9, [m0, m1, m2, m3, m4, m5, m6, m7, m8, m9, m10, m11, m12, m13, m14, m15, m16, m17, m18, .ref tp, .int (nI tn), m21, m22, .int kd]))]) hD hS hA [0] rfl
          refine va_calli (va_runV (As := [.int 0, .int 1]) (rest := []) ⟨hx, hb, hml, hown, hts⟩ (k_X9_good_f l dC dI cB cI cJ cM h0 kd 1 m0 m1 m2 m3 m4 m5 m6 m7 m8 m9 m10 m11 m12 m13 m14 m15 m16 m17 m18 (.ref tp) (.int (nI tn)) m21 m22  s.heap.size) (cwV 2 hts gX9_fill_X9_good rfl rfl rfl (by decide +kernel) ⟨Nat.le_of_ble_eq_true rfl, Nat.le_of_ble_eq_true rfl⟩) ⟨fun a U g mk q => by obtain ⟨q0, q1, qP, qK, qD⟩ := q; exact ⟨q0, q1, qP, va_K.moved (u := U) (U := U.calling g mk a) (Vm.Alike.refl U.vm) qK, qD⟩, va_recv hK hPc (ci := 9) (q0 := 0) rfl rfl, fun U hU hW => ⟨rfl, by rw [hU], by rw [hU]; exact hPc, va_K.moved hW.alike hK, hDc.weaken (fun _ _ _ _ => trivial)⟩⟩ rfl rfl hl.1 rfl (lv_room (Nat.le_of_ble_eq_true rfl)) dX9_fill_30 ⟨(show 0 + 0 ≤ 0 by omega), (show 0 + 0 ≤ 0 by omega)⟩) hS (fun q _ h => hFc q h) hFc (fun r30 u t H1 locs ht hvm hw hB hz1 hk1 hS => ?_)
          have hP1 : va_P (dC, dI) vwCl [(h0, .inr (9, [m0, m1, m2, m3, m4, m5, m6, m7, m8, m9, m10, m11, m12, m13, m14, m15, m16, m17, m18, .ref tp, .int (nI tn), m21, m22, .int 1]))] H1 := by rw [← ht]; exact hB.1
          have hD1 : va_D (va_A [(h0, .inr (9, [m0, m1, m2, m3, m4, m5, m6, m7, m8, m9, m10, m11, m12, m13, m14, m15, m16, m17, m18, .ref tp, .int (nI tn), m21, m22, .int kd]))] s.heap.size) [(h0, .inr (9, [m0, m1, m2, m3, m4, m5, m6, m7, m8, m9, m10, m11, m12, m13, m14, m15, m16, m17, m18, .ref tp, .int (nI tn), m21, m22, .int 1]))] := hB.2.2
          obtain ⟨hP, hD⟩ := va_join (wr := [(tp, .inl (cB, 4000, .inl f))]) (w1 := [(h0, .inr (9, [m0, m1, m2, m3, m4, m5, m6, m7, m8, m9, m10, m11, m12, m13, m14, m15, m16, m17, m18, .ref tp, .int (nI tn), m21, m22, .int 1]))]) hP hD [0] [1] rfl rfl (by decide) (by decide) hk1 hFc hP1 hD1
          generalize H1 = H at hP hS ⊢
          try dsimp only at hw
          have hP : va_P (dC, dI) vwCl [(tp, .inl (cB, 4000, .inl f)), (h0, .inr (9, [m0, m1, m2, m3, m4, m5, m6, m7, m8, m9, m10, m11, m12, m13, m14, m15, m16, m17, m18, .ref tp, .int (nI tn), m21, m22, .int 1]))] H := hP
          have hD : va_D A [(tp, .inl (cB, 4000, .inl f)), (h0, .inr (9, [m0, m1, m2, m3, m4, m5, m6, m7, m8, m9, m10, m11, m12, m13, m14, m15, m16, m17, m18, .ref tp, .int (nI tn), m21, m22, .int 1]))] := hD
          obtain rfl : r30 = 0 := hw
          refine W.eq (g2 := F0 m 33 ls [.int 0]) rfl ?_
          refine lv_if_eq (tgt := 61) hx hb dX9_fill_33 (by decide) (fun c33 => ?_) (fun c33 => ?_)
          · have c33 : 0 = 0 := (nI_eq (a := 0) (b := 0) (by omega) (by omega)).mp c33
            refine lv_iconst (v := 0) hx hb dX9_fill_61 (by decide) ?_
            have hP9 := hP.sub (ws' := [(h0, .inr (9, [m0, m1, m2, m3, m4, m5, m6, m7, m8, m9, m10, m11, m12, m13, m14, m15, m16, m17, m18, .ref tp, .int (nI tn), m21, m22, .int 1])), (tp, .inl (cB, 4000, .inl f))]) [1, 0] rfl
            have hD9 := hD.sub (ws' := [(h0, .inr (9, [m0, m1, m2, m3, m4, m5, m6, m7, m8, m9, m10, m11, m12, m13, m14, m15, m16, m17, m18, .ref tp, .int (nI tn), m21, m22, .int 1])), (tp, .inl (cB, 4000, .inl f))]) [1, 0] (by decide) rfl
            exact W.iret (v := 0) hx hb hr (fun t ht hW => ⟨⟨0, (f, tn, 1), rfl, Or.inr (Or.inl ⟨Or.inr (Or.inr (Or.inr c21)), rfl⟩), ⟨by rw [ht]; exact hP9, va_K.moved hW.alike hK, hD9⟩⟩, hS.F ht⟩) hS.2.2 dX9_fill_62
          · have c33 : ¬ (0 = 0) := fun h => c33 ((nI_eq (a := 0) (b := 0) (by omega) (by omega)).mpr h)
            exfalso; omega
        · obtain ⟨kn, hkn, hke⟩ : ∃ j, j ≤ 4000 ∧ k = nI j := by obtain ⟨j, hj, he⟩ := nI_of2 (nI_toInt (n := 4000) (by omega)) c14 (Int32.not_lt.mp c21); exact ⟨j, hj, he⟩
          rw [hke] at hl
          refine lv_iconst (v := 1) hx hb dX9_fill_24 (by decide) ?_
          refine lv_goto (tgt := 29) hx hb dX9_fill_25 (by decide) ?_
          refine lv_iconst (v := 1) hx hb dX9_fill_29 (by decide) ?_
          have hPc := hP.sub (ws' := [(h0, .inr (9, [m0, m1, m2, m3, m4, m5, m6, m7, m8, m9, m10, m11, m12, m13, m14, m15, m16, m17, m18, .ref tp, .int (nI tn), m21, m22, .int kd]))]) [0] rfl
          have hDc := hD.sub (ws' := [(h0, .inr (9, [m0, m1, m2, m3, m4, m5, m6, m7, m8, m9, m10, m11, m12, m13, m14, m15, m16, m17, m18, .ref tp, .int (nI tn), m21, m22, .int kd]))]) [0] (by decide) rfl
          have hFc := va_free (wc := [(h0, .inr (9, [m0, m1, m2, m3, m4, m5, m6, m7, m8, m9, m10, m11, m12, m13, m14, m15, m16, m17, m18, .ref tp, .int (nI tn), m21, m22, .int kd]))]) hD hS hA [0] rfl
          refine va_calli (va_runV (As := [.int 1, .int 1]) (rest := []) ⟨hx, hb, hml, hown, hts⟩ (k_X9_good_t l dC dI cB cI cJ cM h0 kd 1 m0 m1 m2 m3 m4 m5 m6 m7 m8 m9 m10 m11 m12 m13 m14 m15 m16 m17 m18 (.ref tp) (.int (nI tn)) m21 m22  s.heap.size) (cwV 2 hts gX9_fill_X9_good rfl rfl rfl (by decide +kernel) ⟨Nat.le_of_ble_eq_true rfl, Nat.le_of_ble_eq_true rfl⟩) ⟨fun a U g mk q => by obtain ⟨q0, q1, qP, qK, qD⟩ := q; exact ⟨q0, q1, qP, va_K.moved (u := U) (U := U.calling g mk a) (Vm.Alike.refl U.vm) qK, qD⟩, va_recv hK hPc (ci := 9) (q0 := 0) rfl rfl, fun U hU hW => ⟨rfl, by rw [hU], by rw [hU]; exact hPc, va_K.moved hW.alike hK, hDc.weaken (fun _ _ _ _ => trivial)⟩⟩ rfl rfl hl.1 rfl (lv_room (Nat.le_of_ble_eq_true rfl)) dX9_fill_30 ⟨(show 0 + 0 ≤ 0 by omega), (show 0 + 0 ≤ 0 by omega)⟩) hS (fun q _ h => hFc q h) hFc (fun r30 u t H1 locs ht hvm hw hB hz1 hk1 hS => ?_)
          have hP1 : va_P (dC, dI) vwCl [(h0, .inr (9, [m0, m1, m2, m3, m4, m5, m6, m7, m8, m9, m10, m11, m12, m13, m14, m15, m16, m17, m18, .ref tp, .int (nI tn), m21, m22, .int 0]))] H1 := by rw [← ht]; exact hB.1
          have hD1 : va_D (va_A [(h0, .inr (9, [m0, m1, m2, m3, m4, m5, m6, m7, m8, m9, m10, m11, m12, m13, m14, m15, m16, m17, m18, .ref tp, .int (nI tn), m21, m22, .int kd]))] s.heap.size) [(h0, .inr (9, [m0, m1, m2, m3, m4, m5, m6, m7, m8, m9, m10, m11, m12, m13, m14, m15, m16, m17, m18, .ref tp, .int (nI tn), m21, m22, .int 0]))] := hB.2.2
          obtain ⟨hP, hD⟩ := va_join (wr := [(tp, .inl (cB, 4000, .inl f))]) (w1 := [(h0, .inr (9, [m0, m1, m2, m3, m4, m5, m6, m7, m8, m9, m10, m11, m12, m13, m14, m15, m16, m17, m18, .ref tp, .int (nI tn), m21, m22, .int 0]))]) hP hD [0] [1] rfl rfl (by decide) (by decide) hk1 hFc hP1 hD1
          generalize H1 = H at hP hS ⊢
          try dsimp only at hw
          have hP : va_P (dC, dI) vwCl [(tp, .inl (cB, 4000, .inl f)), (h0, .inr (9, [m0, m1, m2, m3, m4, m5, m6, m7, m8, m9, m10, m11, m12, m13, m14, m15, m16, m17, m18, .ref tp, .int (nI tn), m21, m22, .int 0]))] H := hP
          have hD : va_D A [(tp, .inl (cB, 4000, .inl f)), (h0, .inr (9, [m0, m1, m2, m3, m4, m5, m6, m7, m8, m9, m10, m11, m12, m13, m14, m15, m16, m17, m18, .ref tp, .int (nI tn), m21, m22, .int 0]))] := hD
          obtain rfl : r30 = 1 := hw
          refine W.eq (g2 := F0 m 33 ls [.int 1]) rfl ?_
          refine lv_if_eq (tgt := 61) hx hb dX9_fill_33 (by decide) (fun c33 => ?_) (fun c33 => ?_)
          · have c33 : 1 = 0 := (nI_eq (a := 1) (b := 0) (by omega) (by omega)).mp c33
            exfalso; omega
          · have c33 : ¬ (1 = 0) := fun h => c33 ((nI_eq (a := 1) (b := 0) (by omega) (by omega)).mpr h)
            refine lv_aload_n hx hb dX9_fill_36 rfl (lv_at hl 0 rfl) ?_
            refine lv_aload_n hx hb dX9_fill_37 rfl (lv_at hl 0 rfl) ?_
            refine va_get (D := (dC, dI)) (ci := 9) (v := .int (nI tn)) (C := RX9) (T := TX9) (N := 24) hx hb hts (by decide +kernel) hown hK hP 1 rfl rfl 20 (by decide) (hts (.fieldLink RX9 153 "FixedPressModel" "taped" "I") (by decide +kernel)) (fun _ h9 => h9) rfl dX9_fill_38 ?_
            refine lv_iload_n hx hb dX9_fill_41 rfl (lv_at hl 3 rfl) ?_
            refine lv_iadd hx hb dX9_fill_42 ?_
            refine lv_topi (fun y_1 ey_1 => ?_)
            obtain rfl : y_1 = nI (tn + kn) := ey_1.trans (nI_add tn kn)
            refine lv_sipush (v := 4000) hx hb dX9_fill_43 (by decide) ?_
            refine lv_icmp_gt (tgt := 53) hx hb dX9_fill_46 (by decide) (fun c46 => ?_) (fun c46 => ?_)
            · have c46 : 4000 < (tn + kn) := (nI_ltI (a := 4000) (b := (tn + kn)) (by omega) (by omega)).mp c46
              refine lv_iconst (v := 0) hx hb dX9_fill_53 (by decide) ?_
              refine lv_iconst (v := 2) hx hb dX9_fill_54 (by decide) ?_
              have hPc := hP.sub (ws' := [(h0, .inr (9, [m0, m1, m2, m3, m4, m5, m6, m7, m8, m9, m10, m11, m12, m13, m14, m15, m16, m17, m18, .ref tp, .int (nI tn), m21, m22, .int 0]))]) [1] rfl
              have hDc := hD.sub (ws' := [(h0, .inr (9, [m0, m1, m2, m3, m4, m5, m6, m7, m8, m9, m10, m11, m12, m13, m14, m15, m16, m17, m18, .ref tp, .int (nI tn), m21, m22, .int 0]))]) [1] (by decide) rfl
              have hFc := va_free (wc := [(h0, .inr (9, [m0, m1, m2, m3, m4, m5, m6, m7, m8, m9, m10, m11, m12, m13, m14, m15, m16, m17, m18, .ref tp, .int (nI tn), m21, m22, .int 0]))]) hD hS hA [1] rfl
              refine va_calli (va_runV (As := [.int 0, .int 2]) (rest := []) ⟨hx, hb, hml, hown, hts⟩ (k_X9_good_f l dC dI cB cI cJ cM h0 0 2 m0 m1 m2 m3 m4 m5 m6 m7 m8 m9 m10 m11 m12 m13 m14 m15 m16 m17 m18 (.ref tp) (.int (nI tn)) m21 m22  H.size) (cwV 2 hts gX9_fill_X9_good rfl rfl rfl (by decide +kernel) ⟨Nat.le_of_ble_eq_true rfl, Nat.le_of_ble_eq_true rfl⟩) ⟨fun a U g mk q => by obtain ⟨q0, q1, qP, qK, qD⟩ := q; exact ⟨q0, q1, qP, va_K.moved (u := U) (U := U.calling g mk a) (Vm.Alike.refl U.vm) qK, qD⟩, va_recv hK hPc (ci := 9) (q0 := 0) rfl rfl, fun U hU hW => ⟨rfl, by rw [hU], by rw [hU]; exact hPc, va_K.moved hW.alike hK, hDc.weaken (fun _ _ _ _ => trivial)⟩⟩ rfl rfl hl.1 rfl (lv_room (Nat.le_of_ble_eq_true rfl)) dX9_fill_55 ⟨(show 0 + 0 ≤ 0 by omega), (show 0 + 0 ≤ 0 by omega)⟩) hS (fun q _ h => hFc q h) hFc (fun r55 u t H1 locs ht hvm hw hB hz1 hk1 hS => ?_)
              have hP1 : va_P (dC, dI) vwCl [(h0, .inr (9, [m0, m1, m2, m3, m4, m5, m6, m7, m8, m9, m10, m11, m12, m13, m14, m15, m16, m17, m18, .ref tp, .int (nI tn), m21, m22, .int 2]))] H1 := by rw [← ht]; exact hB.1
              have hD1 : va_D (va_A [(h0, .inr (9, [m0, m1, m2, m3, m4, m5, m6, m7, m8, m9, m10, m11, m12, m13, m14, m15, m16, m17, m18, .ref tp, .int (nI tn), m21, m22, .int 0]))] H.size) [(h0, .inr (9, [m0, m1, m2, m3, m4, m5, m6, m7, m8, m9, m10, m11, m12, m13, m14, m15, m16, m17, m18, .ref tp, .int (nI tn), m21, m22, .int 2]))] := hB.2.2
              obtain ⟨hP, hD⟩ := va_join (wr := [(tp, .inl (cB, 4000, .inl f))]) (w1 := [(h0, .inr (9, [m0, m1, m2, m3, m4, m5, m6, m7, m8, m9, m10, m11, m12, m13, m14, m15, m16, m17, m18, .ref tp, .int (nI tn), m21, m22, .int 2]))]) hP hD [1] [0] rfl rfl (by decide) (by decide) hk1 hFc hP1 hD1
              generalize H1 = H at hP hS ⊢
              try dsimp only at hw
              have hP : va_P (dC, dI) vwCl [(tp, .inl (cB, 4000, .inl f)), (h0, .inr (9, [m0, m1, m2, m3, m4, m5, m6, m7, m8, m9, m10, m11, m12, m13, m14, m15, m16, m17, m18, .ref tp, .int (nI tn), m21, m22, .int 2]))] H := hP
              have hD : va_D A [(tp, .inl (cB, 4000, .inl f)), (h0, .inr (9, [m0, m1, m2, m3, m4, m5, m6, m7, m8, m9, m10, m11, m12, m13, m14, m15, m16, m17, m18, .ref tp, .int (nI tn), m21, m22, .int 2]))] := hD
              obtain rfl : r55 = 0 := hw
              refine W.eq (g2 := F0 m 58 ls [.int 0]) rfl ?_
              refine lv_if_ne (tgt := 63) hx hb dX9_fill_58 (by decide) (fun c58 => ?_) (fun c58 => ?_)
              · have c58 : ¬ (0 = 0) := fun h => c58 ((nI_eq (a := 0) (b := 0) (by omega) (by omega)).mpr h)
                exfalso; omega
              · have c58 : 0 = 0 := (nI_eq (a := 0) (b := 0) (by omega) (by omega)).mp c58
                refine lv_iconst (v := 0) hx hb dX9_fill_61 (by decide) ?_
                have hP9 := hP.sub (ws' := [(h0, .inr (9, [m0, m1, m2, m3, m4, m5, m6, m7, m8, m9, m10, m11, m12, m13, m14, m15, m16, m17, m18, .ref tp, .int (nI tn), m21, m22, .int 2])), (tp, .inl (cB, 4000, .inl f))]) [1, 0] rfl
                have hD9 := hD.sub (ws' := [(h0, .inr (9, [m0, m1, m2, m3, m4, m5, m6, m7, m8, m9, m10, m11, m12, m13, m14, m15, m16, m17, m18, .ref tp, .int (nI tn), m21, m22, .int 2])), (tp, .inl (cB, 4000, .inl f))]) [1, 0] (by decide) rfl
                exact W.iret (v := 0) hx hb hr (fun t ht hW => ⟨⟨0, (f, tn, 2), rfl, Or.inr (Or.inr ⟨⟨Int32.not_lt.mp c3, Int32.not_lt.mp c10⟩, ⟨Int32.not_lt.mp c14, Int32.not_lt.mp c21⟩, by rw [hke]; exact (nI_ltI (by omega) (by omega)).mpr (by omega), rfl⟩), ⟨by rw [ht]; exact hP9, va_K.moved hW.alike hK, hD9⟩⟩, hS.F ht⟩) hS.2.2 dX9_fill_62
            · have c46 : ¬ (4000 < (tn + kn)) := fun h => c46 ((nI_ltI (a := 4000) (b := (tn + kn)) (by omega) (by omega)).mpr h)
              refine lv_iconst (v := 1) hx hb dX9_fill_49 (by decide) ?_
              refine lv_goto (tgt := 54) hx hb dX9_fill_50 (by decide) ?_
              refine lv_iconst (v := 2) hx hb dX9_fill_54 (by decide) ?_
              have hPc := hP.sub (ws' := [(h0, .inr (9, [m0, m1, m2, m3, m4, m5, m6, m7, m8, m9, m10, m11, m12, m13, m14, m15, m16, m17, m18, .ref tp, .int (nI tn), m21, m22, .int 0]))]) [1] rfl
              have hDc := hD.sub (ws' := [(h0, .inr (9, [m0, m1, m2, m3, m4, m5, m6, m7, m8, m9, m10, m11, m12, m13, m14, m15, m16, m17, m18, .ref tp, .int (nI tn), m21, m22, .int 0]))]) [1] (by decide) rfl
              have hFc := va_free (wc := [(h0, .inr (9, [m0, m1, m2, m3, m4, m5, m6, m7, m8, m9, m10, m11, m12, m13, m14, m15, m16, m17, m18, .ref tp, .int (nI tn), m21, m22, .int 0]))]) hD hS hA [1] rfl
              refine va_calli (va_runV (As := [.int 1, .int 2]) (rest := []) ⟨hx, hb, hml, hown, hts⟩ (k_X9_good_t l dC dI cB cI cJ cM h0 0 2 m0 m1 m2 m3 m4 m5 m6 m7 m8 m9 m10 m11 m12 m13 m14 m15 m16 m17 m18 (.ref tp) (.int (nI tn)) m21 m22  H.size) (cwV 2 hts gX9_fill_X9_good rfl rfl rfl (by decide +kernel) ⟨Nat.le_of_ble_eq_true rfl, Nat.le_of_ble_eq_true rfl⟩) ⟨fun a U g mk q => by obtain ⟨q0, q1, qP, qK, qD⟩ := q; exact ⟨q0, q1, qP, va_K.moved (u := U) (U := U.calling g mk a) (Vm.Alike.refl U.vm) qK, qD⟩, va_recv hK hPc (ci := 9) (q0 := 0) rfl rfl, fun U hU hW => ⟨rfl, by rw [hU], by rw [hU]; exact hPc, va_K.moved hW.alike hK, hDc.weaken (fun _ _ _ _ => trivial)⟩⟩ rfl rfl hl.1 rfl (lv_room (Nat.le_of_ble_eq_true rfl)) dX9_fill_55 ⟨(show 0 + 0 ≤ 0 by omega), (show 0 + 0 ≤ 0 by omega)⟩) hS (fun q _ h => hFc q h) hFc (fun r55 u t H1 locs ht hvm hw hB hz1 hk1 hS => ?_)
              have hP1 : va_P (dC, dI) vwCl [(h0, .inr (9, [m0, m1, m2, m3, m4, m5, m6, m7, m8, m9, m10, m11, m12, m13, m14, m15, m16, m17, m18, .ref tp, .int (nI tn), m21, m22, .int 0]))] H1 := by rw [← ht]; exact hB.1
              have hD1 : va_D (va_A [(h0, .inr (9, [m0, m1, m2, m3, m4, m5, m6, m7, m8, m9, m10, m11, m12, m13, m14, m15, m16, m17, m18, .ref tp, .int (nI tn), m21, m22, .int 0]))] H.size) [(h0, .inr (9, [m0, m1, m2, m3, m4, m5, m6, m7, m8, m9, m10, m11, m12, m13, m14, m15, m16, m17, m18, .ref tp, .int (nI tn), m21, m22, .int 0]))] := hB.2.2
              obtain ⟨hP, hD⟩ := va_join (wr := [(tp, .inl (cB, 4000, .inl f))]) (w1 := [(h0, .inr (9, [m0, m1, m2, m3, m4, m5, m6, m7, m8, m9, m10, m11, m12, m13, m14, m15, m16, m17, m18, .ref tp, .int (nI tn), m21, m22, .int 0]))]) hP hD [1] [0] rfl rfl (by decide) (by decide) hk1 hFc hP1 hD1
              generalize H1 = H at hP hS ⊢
              try dsimp only at hw
              have hP : va_P (dC, dI) vwCl [(tp, .inl (cB, 4000, .inl f)), (h0, .inr (9, [m0, m1, m2, m3, m4, m5, m6, m7, m8, m9, m10, m11, m12, m13, m14, m15, m16, m17, m18, .ref tp, .int (nI tn), m21, m22, .int 0]))] H := hP
              have hD : va_D A [(tp, .inl (cB, 4000, .inl f)), (h0, .inr (9, [m0, m1, m2, m3, m4, m5, m6, m7, m8, m9, m10, m11, m12, m13, m14, m15, m16, m17, m18, .ref tp, .int (nI tn), m21, m22, .int 0]))] := hD
              obtain rfl : r55 = 1 := hw
              refine W.eq (g2 := F0 m 58 ls [.int 1]) rfl ?_
              refine lv_if_ne (tgt := 63) hx hb dX9_fill_58 (by decide) (fun c58 => ?_) (fun c58 => ?_)
              · have c58 : ¬ (1 = 0) := fun h => c58 ((nI_eq (a := 1) (b := 0) (by omega) (by omega)).mpr h)
                refine lv_iload_n hx hb dX9_fill_63 rfl (lv_at hl 1 rfl) ?_
                refine lv_istore (lv' := [(4, .int sd), (0, .ref h0), (1, .int sd), (2, .int bd), (3, .int (nI kn))]) hx hb dX9_fill_64 hl (by decide) rfl (fun ls hl => ?_)
                refine lv_iconst (v := 0) hx hb dX9_fill_66 (by decide) ?_
                refine lv_istore (lv' := [(5, .int 0), (4, .int sd), (0, .ref h0), (1, .int sd), (2, .int bd), (3, .int (nI kn))]) hx hb dX9_fill_67 hl (by decide) rfl (fun ls hl => ?_)
                have cut69 : ∀ (fuel : Nat) (i : Nat) (w : Int32) (f1 : Nat → Int32), (i ≤ kn) → (w = zlcg sd i) → (f1 = zfil f tn sd bd i) → (kn - i < fuel) → ∀ (H : Heap) (locs : List Loc), va_P (dC, dI) vwCl [(h0, .inr (9, [m0, m1, m2, m3, m4, m5, m6, m7, m8, m9, m10, m11, m12, m13, m14, m15, m16, m17, m18, .ref tp, .int (nI (tn + i)), m21, m22, .int 0])), (tp, .inl (cB, 4000, .inl f1))] H → va_D A [(h0, .inr (9, [m0, m1, m2, m3, m4, m5, m6, m7, m8, m9, m10, m11, m12, m13, m14, m15, m16, m17, m18, .ref tp, .int (nI (tn + i)), m21, m22, .int 0])), (tp, .inl (cB, 4000, .inl f1))] → va_S A s.heap H locs → ∀ (ls : Array Slot), lv_has ls 6 [(0, .ref h0), (2, .int bd), (3, .int (nI kn)), (4, .int w), (5, .int (nI i))] → W p l e (headSpec wsX9_fill rm_X9_fill).room s m ([.ref h0, .int sd, .int bd, .int k] : List Value).toArray below meth c H locs 0 0 (MQ below (q_X9_fill dC dI cB cI cJ cM h0 tp f tn kd sd bd k m0 m1 m2 m3 m4 m5 m6 m7 m8 m9 m10 m11 m12 m13 m14 m15 m16 m17 m18 m21 m22 A) ([.ref h0, .int sd, .int bd, .int k] : List Value).toArray s 0 0 A) (F0 m 69 ls []) := by
                  intro fuel
                  induction fuel with
                  | zero => intros; omega
                  | succ fuel ih =>
                    intro i w f1 hi hw4 hf1 hfuel H locs hP hD hS ls hl
                    refine lv_iload hx hb dX9_fill_69 (lv_at hl 4 rfl) ?_
                    refine lv_iload_n hx hb dX9_fill_71 rfl (lv_at hl 2 rfl) ?_
                    refine lv_icmp_ge (tgt := 119) hx hb dX9_fill_72 (by decide) (fun c72 => ?_) (fun c72 => ?_)
                    · have c72 : kn ≤ i := (nI_leI (a := kn) (b := i) (by omega) (by omega)).mp c72
                      have hik : i = kn := by omega
                      rw [hf1, hik] at hP hD
                      have hP : va_P (dC, dI) vwCl [(h0, .inr (9, [m0, m1, m2, m3, m4, m5, m6, m7, m8, m9, m10, m11, m12, m13, m14, m15, m16, m17, m18, .ref tp, .int (nI (tn + kn)), m21, m22, .int 0])), (tp, .inl (cB, 4000, .inl (zfil f tn sd bd kn)))] H := hP
                      have hD : va_D A [(h0, .inr (9, [m0, m1, m2, m3, m4, m5, m6, m7, m8, m9, m10, m11, m12, m13, m14, m15, m16, m17, m18, .ref tp, .int (nI (tn + kn)), m21, m22, .int 0])), (tp, .inl (cB, 4000, .inl (zfil f tn sd bd kn)))] := hD
                      refine lv_aload_n hx hb dX9_fill_119 rfl (lv_at hl 0 rfl) ?_
                      refine va_get (D := (dC, dI)) (ci := 9) (v := .int (nI (tn + kn))) (C := RX9) (T := TX9) (N := 24) hx hb hts (by decide +kernel) hown hK hP 0 rfl rfl 20 (by decide) (hts (.fieldLink RX9 153 "FixedPressModel" "taped" "I") (by decide +kernel)) (fun _ h9 => h9) rfl dX9_fill_120 ?_
                      have hP9 := hP.sub (ws' := [(h0, .inr (9, [m0, m1, m2, m3, m4, m5, m6, m7, m8, m9, m10, m11, m12, m13, m14, m15, m16, m17, m18, .ref tp, .int (nI (tn + kn)), m21, m22, .int 0])), (tp, .inl (cB, 4000, .inl (zfil f tn sd bd kn)))]) [0, 1] rfl
                      have hD9 := hD.sub (ws' := [(h0, .inr (9, [m0, m1, m2, m3, m4, m5, m6, m7, m8, m9, m10, m11, m12, m13, m14, m15, m16, m17, m18, .ref tp, .int (nI (tn + kn)), m21, m22, .int 0])), (tp, .inl (cB, 4000, .inl (zfil f tn sd bd kn)))]) [0, 1] (by decide) rfl
                      exact W.iret (v := (nI (tn + kn))) hx hb hr (fun t ht hW => ⟨⟨(nI (tn + kn)), (zfil f tn sd bd kn, tn + kn, 0), rfl, Or.inl ⟨kn, Int32.not_lt.mp c3, Int32.not_lt.mp c10, hke, by omega, rfl, rfl⟩, ⟨by rw [ht]; exact hP9, va_K.moved hW.alike hK, hD9⟩⟩, hS.F ht⟩) hS.2.2 dX9_fill_123
                    · have c72 : ¬ (kn ≤ i) := fun h => c72 ((nI_leI (a := kn) (b := i) (by omega) (by omega)).mpr h)
                      refine lv_iload hx hb dX9_fill_75 (lv_at hl 3 rfl) ?_
                      refine lv_ldc hx hb hown (hts (.constant RX9 163 (1103515245)) (by decide +kernel)) dX9_fill_77 ?_
                      refine lv_imul hx hb dX9_fill_79 ?_
                      refine lv_sipush (v := 12345) hx hb dX9_fill_80 (by decide) ?_
                      refine lv_iadd hx hb dX9_fill_83 ?_
                      refine lv_istore (lv' := [(4, .int ((w * 1103515245) + 12345)), (0, .ref h0), (2, .int bd), (3, .int (nI kn)), (5, .int (nI i))]) hx hb dX9_fill_84 hl (by decide) rfl (fun ls hl => ?_)
                      refine lv_aload_n hx hb dX9_fill_86 rfl (lv_at hl 1 rfl) ?_
                      refine va_get (D := (dC, dI)) (ci := 9) (v := .ref tp) (C := RX9) (T := TX9) (N := 24) hx hb hts (by decide +kernel) hown hK hP 0 rfl rfl 19 (by decide) (hts (.fieldLink RX9 144 "FixedPressModel" "tape" "[B") (by decide +kernel)) (fun _ h9 => h9) rfl dX9_fill_87 ?_
                      refine lv_aload_n hx hb dX9_fill_90 rfl (lv_at hl 1 rfl) ?_
                      refine va_get (D := (dC, dI)) (ci := 9) (v := .int (nI (tn + i))) (C := RX9) (T := TX9) (N := 24) hx hb hts (by decide +kernel) hown hK hP 0 rfl rfl 20 (by decide) (hts (.fieldLink RX9 153 "FixedPressModel" "taped" "I") (by decide +kernel)) (fun _ h9 => h9) rfl dX9_fill_91 ?_
                      refine lv_iload hx hb dX9_fill_94 (lv_at hl 0 rfl) ?_
                      refine lv_bipush (v := 16) hx hb dX9_fill_96 (by decide) ?_
                      refine lv_iushr hx hb dX9_fill_98 rfl ?_
                      refine lv_iload_n hx hb dX9_fill_99 rfl (lv_at hl 2 rfl) ?_
                      refine lv_irem hx hb dX9_fill_100 (by intro h; subst h; exact absurd (Int32.not_lt.mp c3) (by decide)) ?_
                      refine lv_i2b hx hb dX9_fill_101 rfl ?_
                      refine va_bast hx hb hK hP hD hS 1 0 rfl rfl (vp_in_nI (n := tn + i) (by omega) (by omega)) dX9_fill_102 (fun H locs hP hD hS => ?_)
                      rw [nI_clamp (n := tn + i) (by omega)] at hP hD
                      have hP : va_P (dC, dI) vwCl [(h0, .inr (9, [m0, m1, m2, m3, m4, m5, m6, m7, m8, m9, m10, m11, m12, m13, m14, m15, m16, m17, m18, .ref tp, .int (nI (tn + i)), m21, m22, .int 0])), (tp, .inl (cB, 4000, .inl (upd f1 (tn + i) (vp_nar .byte ((((((w * 1103515245) + 12345).toUInt32 >>> ((16 : Int32).toUInt32 &&& Int32.toUInt32 31)).toInt32) - ((((w * 1103515245) + 12345).toUInt32 >>> ((16 : Int32).toUInt32 &&& Int32.toUInt32 31)).toInt32) / bd * bd).toInt8.toInt32)))))] H := hP
                      have hD : va_D A [(h0, .inr (9, [m0, m1, m2, m3, m4, m5, m6, m7, m8, m9, m10, m11, m12, m13, m14, m15, m16, m17, m18, .ref tp, .int (nI (tn + i)), m21, m22, .int 0])), (tp, .inl (cB, 4000, .inl (upd f1 (tn + i) (vp_nar .byte ((((((w * 1103515245) + 12345).toUInt32 >>> ((16 : Int32).toUInt32 &&& Int32.toUInt32 31)).toInt32) - ((((w * 1103515245) + 12345).toUInt32 >>> ((16 : Int32).toUInt32 &&& Int32.toUInt32 31)).toInt32) / bd * bd).toInt8.toInt32)))))] := hD
                      rw [pk_vb] at hP hD
                      have hP : va_P (dC, dI) vwCl [(h0, .inr (9, [m0, m1, m2, m3, m4, m5, m6, m7, m8, m9, m10, m11, m12, m13, m14, m15, m16, m17, m18, .ref tp, .int (nI (tn + i)), m21, m22, .int 0])), (tp, .inl (cB, 4000, .inl (upd f1 (tn + i) ((((((w * 1103515245) + 12345).toUInt32 >>> ((16 : Int32).toUInt32 &&& Int32.toUInt32 31)).toInt32) - ((((w * 1103515245) + 12345).toUInt32 >>> ((16 : Int32).toUInt32 &&& Int32.toUInt32 31)).toInt32) / bd * bd).toInt8.toInt32))))] H := hP
                      have hD : va_D A [(h0, .inr (9, [m0, m1, m2, m3, m4, m5, m6, m7, m8, m9, m10, m11, m12, m13, m14, m15, m16, m17, m18, .ref tp, .int (nI (tn + i)), m21, m22, .int 0])), (tp, .inl (cB, 4000, .inl (upd f1 (tn + i) ((((((w * 1103515245) + 12345).toUInt32 >>> ((16 : Int32).toUInt32 &&& Int32.toUInt32 31)).toInt32) - ((((w * 1103515245) + 12345).toUInt32 >>> ((16 : Int32).toUInt32 &&& Int32.toUInt32 31)).toInt32) / bd * bd).toInt8.toInt32))))] := hD
                      refine lv_aload_n hx hb dX9_fill_103 rfl (lv_at hl 1 rfl) ?_
                      refine lv_dup hx hb dX9_fill_104 rfl ?_
                      refine va_get (D := (dC, dI)) (ci := 9) (v := .int (nI (tn + i))) (C := RX9) (T := TX9) (N := 24) hx hb hts (by decide +kernel) hown hK hP 0 rfl rfl 20 (by decide) (hts (.fieldLink RX9 153 "FixedPressModel" "taped" "I") (by decide +kernel)) (fun _ h9 => h9) rfl dX9_fill_105 ?_
                      refine lv_iconst (v := 1) hx hb dX9_fill_108 (by decide) ?_
                      refine lv_iadd hx hb dX9_fill_109 ?_
                      refine lv_topi (fun y_2 ey_2 => ?_)
                      obtain rfl : y_2 = nI (tn + (i + 1)) := ey_2.trans (nI_add (tn + i) 1)
                      refine va_put (D := (dC, dI)) (ci := 9) (v := .int (nI (tn + (i + 1)))) (ty := .int) (C := RX9) (T := TX9) (N := 24) hx hb hts (by decide +kernel) tyX9 tyX9_ok nmX9 hown hK hP hD hS 0 rfl rfl 20 (by decide) (hts (.fieldLink RX9 153 "FixedPressModel" "taped" "I") (by decide +kernel)) (fun _ h9 => h9) rfl (by decide +kernel) rfl rfl (Nat.le_of_ble_eq_true rfl) dX9_fill_110 (fun H locs hP hD hS => ?_)
                      have hP : va_P (dC, dI) vwCl [(h0, .inr (9, [m0, m1, m2, m3, m4, m5, m6, m7, m8, m9, m10, m11, m12, m13, m14, m15, m16, m17, m18, .ref tp, .int (nI (tn + (i + 1))), m21, m22, .int 0])), (tp, .inl (cB, 4000, .inl (upd f1 (tn + i) ((((((w * 1103515245) + 12345).toUInt32 >>> ((16 : Int32).toUInt32 &&& Int32.toUInt32 31)).toInt32) - ((((w * 1103515245) + 12345).toUInt32 >>> ((16 : Int32).toUInt32 &&& Int32.toUInt32 31)).toInt32) / bd * bd).toInt8.toInt32))))] H := hP
                      have hD : va_D A [(h0, .inr (9, [m0, m1, m2, m3, m4, m5, m6, m7, m8, m9, m10, m11, m12, m13, m14, m15, m16, m17, m18, .ref tp, .int (nI (tn + (i + 1))), m21, m22, .int 0])), (tp, .inl (cB, 4000, .inl (upd f1 (tn + i) ((((((w * 1103515245) + 12345).toUInt32 >>> ((16 : Int32).toUInt32 &&& Int32.toUInt32 31)).toInt32) - ((((w * 1103515245) + 12345).toUInt32 >>> ((16 : Int32).toUInt32 &&& Int32.toUInt32 31)).toInt32) / bd * bd).toInt8.toInt32))))] := hD
                      refine lv_iinc (v := nI (i + 1)) (lv' := [(5, .int (nI (i + 1))), (4, .int ((w * 1103515245) + 12345)), (0, .ref h0), (2, .int bd), (3, .int (nI kn))]) hx hb dX9_fill_113 hl (k := 4) rfl (show nI i + Int32.ofInt 1 = _ from nI_add i 1) (by decide) rfl (fun ls hl => ?_)
                      refine lv_goto (tgt := 69) hx hb dX9_fill_116 (by decide) ?_
                      exact ih (i + 1) ((w * 1103515245) + 12345) (upd f1 (tn + i) ((((((w * 1103515245) + 12345).toUInt32 >>> ((16 : Int32).toUInt32 &&& Int32.toUInt32 31)).toInt32) - ((((w * 1103515245) + 12345).toUInt32 >>> ((16 : Int32).toUInt32 &&& Int32.toUInt32 31)).toInt32) / bd * bd).toInt8.toInt32)) (by omega) (by subst hw4; rfl) (by subst hw4; subst hf1; rfl) (by omega) _ _ hP hD hS _ (lv_sub hl [2, 3, 4, 1, 0] rfl)
                exact cut69 (kn - 0 + 1) 0 sd f (by omega) (rfl) (rfl) (by omega) _ _ (hP.sub [1, 0] rfl) (hD.sub [1, 0] (by decide) rfl) hS _ (lv_sub hl [2, 4, 5, 1, 0] rfl)
              · have c58 : 1 = 0 := (nI_eq (a := 1) (b := 0) (by omega) (by omega)).mp c58
                exfalso; omega
