abbrev rm_X9_bit : Room := { frames := 0, cells := 0, slots := 0, locals := 0 }
abbrev wo_X9_bit (dC : Nat → ClassId) (dI : Nat → Nat → Nat) (cB cI cJ cM : ClassId) (h0 pp : Nat) (g : Nat → Int32) (V L : Nat) (x : Int32) (m0 m4 m5 m6 m7 m8 m9 m10 m11 m12 m13 m14 m15 m16 m17 m18 m19 m20 m21 m22 m23 : Value) : va_W := [(h0, .inr (9, [m0, .ref pp, .int (nI ((L + 7) / 8)), .int (nI (L % 8)), m4, m5, m6, m7, m8, m9, m10, m11, m12, m13, m14, m15, m16, m17, m18, m19, m20, m21, m22, m23])), (pp, .inl (cB, 16384, .inl g))]
abbrev q_X9_bit (dC : Nat → ClassId) (dI : Nat → Nat → Nat) (cB cI cJ cM : ClassId) (h0 pp : Nat) (g : Nat → Int32) (V L : Nat) (x : Int32) (m0 m4 m5 m6 m7 m8 m9 m10 m11 m12 m13 m14 m15 m16 m17 m18 m19 m20 m21 m22 m23 : Value) (A : Nat → Prop) : Array Value → State → Outcome → State → Prop := va_Qv (fun (u : Nat → Int32) => zRo u (V + x.toBitVec.toNat % 2 ^ 1 * 2 ^ L) (L + 1)) (zB dC dI cB cI cJ cM A (fun u : Nat → Int32 => [(h0, .inr (9, [m0, .ref pp, .int (nI ((L + 1 + 7) / 8)), .int (nI ((L + 1) % 8)), m4, m5, m6, m7, m8, m9, m10, m11, m12, m13, m14, m15, m16, m17, m18, m19, m20, m21, m22, m23])), (pp, .inl (cB, 16384, .inl u))])) A
set_option maxHeartbeats 8000000 in
set_option maxRecDepth 100000 in
/-- bit -/
theorem k_X9_bit (l : Launch) (dC : Nat → ClassId) (dI : Nat → Nat → Nat) (cB cI cJ cM : ClassId) (h0 pp : Nat) (g : Nat → Int32) (V L : Nat) (x : Int32) (m0 m4 m5 m6 m7 m8 m9 m10 m11 m12 m13 m14 m15 m16 m17 m18 m19 m20 m21 m22 m23 : Value) (ho : zRo g V L) (hn : L < 130000) (sz : Nat) : Met l yX9_bit wsX9_bit rm_X9_bit (va_Pc [.ref h0, .int x] (fun U => U.heap.size = sz ∧ va_P (dC, dI) vwCl (wo_X9_bit dC dI cB cI cJ cM h0 pp g V L x m0 m4 m5 m6 m7 m8 m9 m10 m11 m12 m13 m14 m15 m16 m17 m18 m19 m20 m21 m22 m23) U.heap ∧ va_K (dC, dI) vwCl (zT cB cI cJ cM) U ∧ va_D (fun _ => True) (wo_X9_bit dC dI cB cI cJ cM h0 pp g V L x m0 m4 m5 m6 m7 m8 m9 m10 m11 m12 m13 m14 m15 m16 m17 m18 m19 m20 m21 m22 m23))) (q_X9_bit dC dI cB cI cJ cM h0 pp g V L x m0 m4 m5 m6 m7 m8 m9 m10 m11 m12 m13 m14 m15 m16 m17 m18 m19 m20 m21 m22 m23 (va_A (wo_X9_bit dC dI cB cI cJ cM h0 pp g V L x m0 m4 m5 m6 m7 m8 m9 m10 m11 m12 m13 m14 m15 m16 m17 m18 m19 m20 m21 m22 m23) sz)) 0 0 (va_A (wo_X9_bit dC dI cB cI cJ cM h0 pp g V L x m0 m4 m5 m6 m7 m8 m9 m10 m11 m12 m13 m14 m15 m16 m17 m18 m19 m20 m21 m22 m23) sz) := by
  refine Met.ofW (cc := cX9_bit) (maxL := 2) (ret := none) (by decide) rfl ?_
  intro p e s m args below meth c s₁ B hml hv
  obtain ⟨rfl, hsz, hP, hK, hD0⟩ := hv
  have hx := B.exec
  have hb := B.bytes
  have hr := B.returns
  have hts := atoms_spec (ws := wsX9_bit) B.pre
  have hown : s.vm.findClass RX9 = some m.cls := findClass_of_methodNamed B.named
  have hlocks := B.notSynchronized
  subst hsz
  have hD := hD0.self (sz := s.heap.size)
  generalize hAe : va_A (wo_X9_bit dC dI cB cI cJ cM h0 pp g V L x m0 m4 m5 m6 m7 m8 m9 m10 m11 m12 m13 m14 m15 m16 m17 m18 m19 m20 m21 m22 m23) s.heap.size = A at hD ⊢
  have hA : ∀ q : Nat, s.heap.size ≤ q → A q := fun q h => by rw [← hAe]; exact Or.inr h
  have hS : va_S A s.heap s.heap [] := va_S.rf
  have hP : va_P (dC, dI) vwCl [(h0, .inr (9, [m0, .ref pp, .int (nI ((L + 7) / 8)), .int (nI (L % 8)), m4, m5, m6, m7, m8, m9, m10, m11, m12, m13, m14, m15, m16, m17, m18, m19, m20, m21, m22, m23])), (pp, .inl (cB, 16384, .inl g))] s.heap := hP
  have hD : va_D A [(h0, .inr (9, [m0, .ref pp, .int (nI ((L + 7) / 8)), .int (nI (L % 8)), m4, m5, m6, m7, m8, m9, m10, m11, m12, m13, m14, m15, m16, m17, m18, m19, m20, m21, m22, m23])), (pp, .inl (cB, 16384, .inl g))] := hD
  have hl := lv_entry ([.ref h0, .int x]) (n := 2) (Nat.le_of_ble_eq_true rfl)
  rw [lg_entry_eq]
  generalize (lg_sl ([.ref h0, .int x]) ++ List.replicate (2 - (lg_sl ([.ref h0, .int x])).length) Slot.unset).toArray = ls at hl ⊢
  have hl : lv_has ls 2 [(0, .ref h0), (1, .int x)] := hl
  refine lv_aload_n hx hb dX9_bit_0 rfl (lv_at hl 0 rfl) ?_
  refine va_get (D := (dC, dI)) (ci := 9) (v := .int (nI (L % 8))) (C := RX9) (T := TX9) (N := 24) hx hb hts (by decide +kernel) hown hK hP 0 rfl rfl 3 (by decide) (hts (.fieldLink RX9 8 "FixedPressModel" "bitAt" "I") (by decide +kernel)) (fun _ h9 => h9) rfl dX9_bit_1 ?_
  refine lv_if_ne (tgt := 27) hx hb dX9_bit_4 (by decide) (fun c4 => ?_) (fun c4 => ?_)
  · have c4 : ¬ ((L % 8) = 0) := fun h => c4 ((nI_eq (a := (L % 8)) (b := 0) (by omega) (by omega)).mpr h)
    refine lv_aload_n hx hb dX9_bit_27 rfl (lv_at hl 0 rfl) ?_
    refine va_get (D := (dC, dI)) (ci := 9) (v := .ref pp) (C := RX9) (T := TX9) (N := 24) hx hb hts (by decide +kernel) hown hK hP 0 rfl rfl 1 (by decide) (hts (.fieldLink RX9 12 "FixedPressModel" "packed" "[B") (by decide +kernel)) (fun _ h9 => h9) rfl dX9_bit_28 ?_
    refine lv_aload_n hx hb dX9_bit_31 rfl (lv_at hl 0 rfl) ?_
    refine va_get (D := (dC, dI)) (ci := 9) (v := .int (nI ((L + 7) / 8))) (C := RX9) (T := TX9) (N := 24) hx hb hts (by decide +kernel) hown hK hP 0 rfl rfl 2 (by decide) (hts (.fieldLink RX9 16 "FixedPressModel" "packedLength" "I") (by decide +kernel)) (fun _ h9 => h9) rfl dX9_bit_32 ?_
    refine lv_iconst (v := 1) hx hb dX9_bit_35 (by decide) ?_
    refine lv_isub hx hb dX9_bit_36 ?_
    refine lv_topi (fun y_1 ey_1 => ?_)
    obtain rfl : y_1 = nI (((L + 7) / 8) - 1) := ey_1.trans (pk_sub (a := ((L + 7) / 8)) (b := 1) (by omega))
    refine lv_dup2_11 hx hb dX9_bit_37 rfl rfl ?_
    refine va_bald hx hb hK hP 1 0 rfl rfl (vp_in_nI (n := ((L + 7) / 8) - 1) (by omega) (by omega)) dX9_bit_38 ?_
    rw [nI_clamp (n := ((L + 7) / 8) - 1) (by omega)]
    refine lv_iload_n hx hb dX9_bit_39 rfl (lv_at hl 1 rfl) ?_
    refine lv_iconst (v := 1) hx hb dX9_bit_40 (by decide) ?_
    refine lv_iand hx hb dX9_bit_41 ?_
    refine lv_topi (fun y_2 ey_2 => ?_)
    obtain rfl : y_2 = nI (x.toBitVec.toNat % 2 ^ 1) := ey_2.trans (pk_and x (m := 1) 1 (by decide))
    refine lv_aload_n hx hb dX9_bit_42 rfl (lv_at hl 0 rfl) ?_
    refine va_get (D := (dC, dI)) (ci := 9) (v := .int (nI (L % 8))) (C := RX9) (T := TX9) (N := 24) hx hb hts (by decide +kernel) hown hK hP 0 rfl rfl 3 (by decide) (hts (.fieldLink RX9 8 "FixedPressModel" "bitAt" "I") (by decide +kernel)) (fun _ h9 => h9) rfl dX9_bit_43 ?_
    refine lv_ishl hx hb dX9_bit_46 ?_
    refine lv_i2b hx hb dX9_bit_47 rfl ?_
    refine lv_ior hx hb dX9_bit_48 ?_
    refine lv_i2b hx hb dX9_bit_49 rfl ?_
    refine va_bast hx hb hK hP hD hS 1 0 rfl rfl (vp_in_nI (n := ((L + 7) / 8) - 1) (by omega) (by omega)) dX9_bit_50 (fun H locs hP hD hS => ?_)
    rw [nI_clamp (n := ((L + 7) / 8) - 1) (by omega)] at hP hD
    have hP : va_P (dC, dI) vwCl [(h0, .inr (9, [m0, .ref pp, .int (nI ((L + 7) / 8)), .int (nI (L % 8)), m4, m5, m6, m7, m8, m9, m10, m11, m12, m13, m14, m15, m16, m17, m18, m19, m20, m21, m22, m23])), (pp, .inl (cB, 16384, .inl (upd g (((L + 7) / 8) - 1) (vp_nar .byte (((g (((L + 7) / 8) - 1)) ||| (((nI (x.toBitVec.toNat % 2 ^ 1)) <<< ((nI (L % 8)) &&& 31)).toInt8.toInt32)).toInt8.toInt32)))))] H := hP
    have hD : va_D A [(h0, .inr (9, [m0, .ref pp, .int (nI ((L + 7) / 8)), .int (nI (L % 8)), m4, m5, m6, m7, m8, m9, m10, m11, m12, m13, m14, m15, m16, m17, m18, m19, m20, m21, m22, m23])), (pp, .inl (cB, 16384, .inl (upd g (((L + 7) / 8) - 1) (vp_nar .byte (((g (((L + 7) / 8) - 1)) ||| (((nI (x.toBitVec.toNat % 2 ^ 1)) <<< ((nI (L % 8)) &&& 31)).toInt8.toInt32)).toInt8.toInt32)))))] := hD
    refine lv_aload_n hx hb dX9_bit_51 rfl (lv_at hl 0 rfl) ?_
    refine lv_aload_n hx hb dX9_bit_52 rfl (lv_at hl 0 rfl) ?_
    refine va_get (D := (dC, dI)) (ci := 9) (v := .int (nI (L % 8))) (C := RX9) (T := TX9) (N := 24) hx hb hts (by decide +kernel) hown hK hP 0 rfl rfl 3 (by decide) (hts (.fieldLink RX9 8 "FixedPressModel" "bitAt" "I") (by decide +kernel)) (fun _ h9 => h9) rfl dX9_bit_53 ?_
    refine lv_iconst (v := 1) hx hb dX9_bit_56 (by decide) ?_
    refine lv_iadd hx hb dX9_bit_57 ?_
    refine lv_topi (fun y_3 ey_3 => ?_)
    obtain rfl : y_3 = nI ((L % 8) + 1) := ey_3.trans (nI_add (L % 8) 1)
    refine lv_bipush (v := 7) hx hb dX9_bit_58 (by decide) ?_
    refine lv_iand hx hb dX9_bit_60 ?_
    refine lv_topi (fun y_4 ey_4 => ?_)
    obtain rfl : y_4 = nI ((L % 8 + 1) % 2 ^ 3) := ey_4.trans (pk_andN (n := L % 8 + 1) (by omega) 3 (by decide))
    refine va_put (D := (dC, dI)) (ci := 9) (v := .int (nI ((L % 8 + 1) % 2 ^ 3))) (ty := .int) (C := RX9) (T := TX9) (N := 24) hx hb hts (by decide +kernel) tyX9 tyX9_ok nmX9 hown hK hP hD hS 0 rfl rfl 3 (by decide) (hts (.fieldLink RX9 8 "FixedPressModel" "bitAt" "I") (by decide +kernel)) (fun _ h9 => h9) rfl (by decide +kernel) rfl rfl (Nat.le_of_ble_eq_true rfl) dX9_bit_61 (fun H locs hP hD hS => ?_)
    have hP : va_P (dC, dI) vwCl [(h0, .inr (9, [m0, .ref pp, .int (nI ((L + 7) / 8)), .int (nI ((L % 8 + 1) % 2 ^ 3)), m4, m5, m6, m7, m8, m9, m10, m11, m12, m13, m14, m15, m16, m17, m18, m19, m20, m21, m22, m23])), (pp, .inl (cB, 16384, .inl (upd g (((L + 7) / 8) - 1) (vp_nar .byte (((g (((L + 7) / 8) - 1)) ||| (((nI (x.toBitVec.toNat % 2 ^ 1)) <<< ((nI (L % 8)) &&& 31)).toInt8.toInt32)).toInt8.toInt32)))))] H := hP
    have hD : va_D A [(h0, .inr (9, [m0, .ref pp, .int (nI ((L + 7) / 8)), .int (nI ((L % 8 + 1) % 2 ^ 3)), m4, m5, m6, m7, m8, m9, m10, m11, m12, m13, m14, m15, m16, m17, m18, m19, m20, m21, m22, m23])), (pp, .inl (cB, 16384, .inl (upd g (((L + 7) / 8) - 1) (vp_nar .byte (((g (((L + 7) / 8) - 1)) ||| (((nI (x.toBitVec.toNat % 2 ^ 1)) <<< ((nI (L % 8)) &&& 31)).toInt8.toInt32)).toInt8.toInt32)))))] := hD
    have hoN : zRo (upd g (((L + 7) / 8) - 1) (vp_nar .byte (((g (((L + 7) / 8) - 1)) ||| (((nI (x.toBitVec.toNat % 2 ^ 1)) <<< ((nI (L % 8)) &&& 31)).toInt8.toInt32)).toInt8.toInt32))) (V + x.toBitVec.toNat % 2 ^ 1 * 2 ^ L) (L + 1) := by
      have hv := z_vlt ho.1
      refine zRo_s ho (Nat.mod_lt _ (by decide)) (fun j hj => ?_) ?_
      · rw [pk_un (by omega)]
      · rw [show (L + 7) / 8 - 1 = L / 8 from by omega, pk_us, pk_vb, ho.2 (L / 8) (by omega), z_or8 (by omega) hv (Nat.mod_lt _ (by decide))]
    generalize upd g (((L + 7) / 8) - 1) (vp_nar .byte (((g (((L + 7) / 8) - 1)) ||| (((nI (x.toBitVec.toNat % 2 ^ 1)) <<< ((nI (L % 8)) &&& 31)).toInt8.toInt32)).toInt8.toInt32)) = q9 at hoN hP hD
    have e1 : (L + 7) / 8 = (L + 1 + 7) / 8 := by omega
    have e2 : (L % 8 + 1) % 2 ^ 3 = (L + 1) % 8 := by omega
    have hP : va_P (dC, dI) vwCl [(h0, .inr (9, [m0, .ref pp, .int (nI ((L + 1 + 7) / 8)), .int (nI ((L + 1) % 8)), m4, m5, m6, m7, m8, m9, m10, m11, m12, m13, m14, m15, m16, m17, m18, m19, m20, m21, m22, m23])), (pp, .inl (cB, 16384, .inl q9))] H := by rw [← e1, ← e2]; exact hP.sub [0, 1] rfl
    have hD : va_D A [(h0, .inr (9, [m0, .ref pp, .int (nI ((L + 1 + 7) / 8)), .int (nI ((L + 1) % 8)), m4, m5, m6, m7, m8, m9, m10, m11, m12, m13, m14, m15, m16, m17, m18, m19, m20, m21, m22, m23])), (pp, .inl (cB, 16384, .inl q9))] := by rw [← e1, ← e2]; exact hD.sub [0, 1] (by decide) rfl
    have hP9 := hP.sub (ws' := [(h0, .inr (9, [m0, .ref pp, .int (nI ((L + 1 + 7) / 8)), .int (nI ((L + 1) % 8)), m4, m5, m6, m7, m8, m9, m10, m11, m12, m13, m14, m15, m16, m17, m18, m19, m20, m21, m22, m23])), (pp, .inl (cB, 16384, .inl q9))]) [0, 1] rfl
    have hD9 := hD.sub (ws' := [(h0, .inr (9, [m0, .ref pp, .int (nI ((L + 1 + 7) / 8)), .int (nI ((L + 1) % 8)), m4, m5, m6, m7, m8, m9, m10, m11, m12, m13, m14, m15, m16, m17, m18, m19, m20, m21, m22, m23])), (pp, .inl (cB, 16384, .inl q9))]) [0, 1] (by decide) rfl
    exact W.vret hx hb hr (fun t ht hW => ⟨⟨q9, rfl, hoN, ⟨by rw [ht]; exact hP9, va_K.moved hW.alike hK, hD9⟩⟩, hS.F ht⟩) hS.2.2 dX9_bit_64
  · have c4 : (L % 8) = 0 := (nI_eq (a := (L % 8)) (b := 0) (by omega) (by omega)).mp c4
    have hL0 : L % 8 = 0 := by omega
    refine lv_aload_n hx hb dX9_bit_7 rfl (lv_at hl 0 rfl) ?_
    refine va_get (D := (dC, dI)) (ci := 9) (v := .ref pp) (C := RX9) (T := TX9) (N := 24) hx hb hts (by decide +kernel) hown hK hP 0 rfl rfl 1 (by decide) (hts (.fieldLink RX9 12 "FixedPressModel" "packed" "[B") (by decide +kernel)) (fun _ h9 => h9) rfl dX9_bit_8 ?_
    refine lv_aload_n hx hb dX9_bit_11 rfl (lv_at hl 0 rfl) ?_
    refine va_get (D := (dC, dI)) (ci := 9) (v := .int (nI ((L + 7) / 8))) (C := RX9) (T := TX9) (N := 24) hx hb hts (by decide +kernel) hown hK hP 0 rfl rfl 2 (by decide) (hts (.fieldLink RX9 16 "FixedPressModel" "packedLength" "I") (by decide +kernel)) (fun _ h9 => h9) rfl dX9_bit_12 ?_
    refine lv_iconst (v := 0) hx hb dX9_bit_15 (by decide) ?_
    refine va_bast hx hb hK hP hD hS 1 0 rfl rfl (vp_in_nI (n := (L + 7) / 8) (by omega) (by omega)) dX9_bit_16 (fun H locs hP hD hS => ?_)
    rw [nI_clamp (n := (L + 7) / 8) (by omega)] at hP hD
    have hP : va_P (dC, dI) vwCl [(h0, .inr (9, [m0, .ref pp, .int (nI ((L + 7) / 8)), .int (nI (L % 8)), m4, m5, m6, m7, m8, m9, m10, m11, m12, m13, m14, m15, m16, m17, m18, m19, m20, m21, m22, m23])), (pp, .inl (cB, 16384, .inl (upd g ((L + 7) / 8) (vp_nar .byte 0))))] H := hP
    have hD : va_D A [(h0, .inr (9, [m0, .ref pp, .int (nI ((L + 7) / 8)), .int (nI (L % 8)), m4, m5, m6, m7, m8, m9, m10, m11, m12, m13, m14, m15, m16, m17, m18, m19, m20, m21, m22, m23])), (pp, .inl (cB, 16384, .inl (upd g ((L + 7) / 8) (vp_nar .byte 0))))] := hD
    refine lv_aload_n hx hb dX9_bit_17 rfl (lv_at hl 0 rfl) ?_
    refine lv_dup hx hb dX9_bit_18 rfl ?_
    refine va_get (D := (dC, dI)) (ci := 9) (v := .int (nI ((L + 7) / 8))) (C := RX9) (T := TX9) (N := 24) hx hb hts (by decide +kernel) hown hK hP 0 rfl rfl 2 (by decide) (hts (.fieldLink RX9 16 "FixedPressModel" "packedLength" "I") (by decide +kernel)) (fun _ h9 => h9) rfl dX9_bit_19 ?_
    refine lv_iconst (v := 1) hx hb dX9_bit_22 (by decide) ?_
    refine lv_iadd hx hb dX9_bit_23 ?_
    refine lv_topi (fun y_5 ey_5 => ?_)
    obtain rfl : y_5 = nI (((L + 7) / 8) + 1) := ey_5.trans (nI_add ((L + 7) / 8) 1)
    refine va_put (D := (dC, dI)) (ci := 9) (v := .int (nI (((L + 7) / 8) + 1))) (ty := .int) (C := RX9) (T := TX9) (N := 24) hx hb hts (by decide +kernel) tyX9 tyX9_ok nmX9 hown hK hP hD hS 0 rfl rfl 2 (by decide) (hts (.fieldLink RX9 16 "FixedPressModel" "packedLength" "I") (by decide +kernel)) (fun _ h9 => h9) rfl (by decide +kernel) rfl rfl (Nat.le_of_ble_eq_true rfl) dX9_bit_24 (fun H locs hP hD hS => ?_)
    have hP : va_P (dC, dI) vwCl [(h0, .inr (9, [m0, .ref pp, .int (nI (((L + 7) / 8) + 1)), .int (nI (L % 8)), m4, m5, m6, m7, m8, m9, m10, m11, m12, m13, m14, m15, m16, m17, m18, m19, m20, m21, m22, m23])), (pp, .inl (cB, 16384, .inl (upd g ((L + 7) / 8) (vp_nar .byte 0))))] H := hP
    have hD : va_D A [(h0, .inr (9, [m0, .ref pp, .int (nI (((L + 7) / 8) + 1)), .int (nI (L % 8)), m4, m5, m6, m7, m8, m9, m10, m11, m12, m13, m14, m15, m16, m17, m18, m19, m20, m21, m22, m23])), (pp, .inl (cB, 16384, .inl (upd g ((L + 7) / 8) (vp_nar .byte 0))))] := hD
    refine lv_aload_n hx hb dX9_bit_27 rfl (lv_at hl 0 rfl) ?_
    refine va_get (D := (dC, dI)) (ci := 9) (v := .ref pp) (C := RX9) (T := TX9) (N := 24) hx hb hts (by decide +kernel) hown hK hP 0 rfl rfl 1 (by decide) (hts (.fieldLink RX9 12 "FixedPressModel" "packed" "[B") (by decide +kernel)) (fun _ h9 => h9) rfl dX9_bit_28 ?_
    refine lv_aload_n hx hb dX9_bit_31 rfl (lv_at hl 0 rfl) ?_
    refine va_get (D := (dC, dI)) (ci := 9) (v := .int (nI (((L + 7) / 8) + 1))) (C := RX9) (T := TX9) (N := 24) hx hb hts (by decide +kernel) hown hK hP 0 rfl rfl 2 (by decide) (hts (.fieldLink RX9 16 "FixedPressModel" "packedLength" "I") (by decide +kernel)) (fun _ h9 => h9) rfl dX9_bit_32 ?_
    refine lv_iconst (v := 1) hx hb dX9_bit_35 (by decide) ?_
    refine lv_isub hx hb dX9_bit_36 ?_
    refine lv_topi (fun y_6 ey_6 => ?_)
    obtain rfl : y_6 = nI ((((L + 7) / 8) + 1) - 1) := ey_6.trans (pk_sub (a := (((L + 7) / 8) + 1)) (b := 1) (by omega))
    refine lv_dup2_11 hx hb dX9_bit_37 rfl rfl ?_
    refine va_bald hx hb hK hP 1 0 rfl rfl (vp_in_nI (n := (((L + 7) / 8) + 1) - 1) (by omega) (by omega)) dX9_bit_38 ?_
    rw [nI_clamp (n := (((L + 7) / 8) + 1) - 1) (by omega)]
    refine lv_iload_n hx hb dX9_bit_39 rfl (lv_at hl 1 rfl) ?_
    refine lv_iconst (v := 1) hx hb dX9_bit_40 (by decide) ?_
    refine lv_iand hx hb dX9_bit_41 ?_
    refine lv_topi (fun y_7 ey_7 => ?_)
    obtain rfl : y_7 = nI (x.toBitVec.toNat % 2 ^ 1) := ey_7.trans (pk_and x (m := 1) 1 (by decide))
    refine lv_aload_n hx hb dX9_bit_42 rfl (lv_at hl 0 rfl) ?_
    refine va_get (D := (dC, dI)) (ci := 9) (v := .int (nI (L % 8))) (C := RX9) (T := TX9) (N := 24) hx hb hts (by decide +kernel) hown hK hP 0 rfl rfl 3 (by decide) (hts (.fieldLink RX9 8 "FixedPressModel" "bitAt" "I") (by decide +kernel)) (fun _ h9 => h9) rfl dX9_bit_43 ?_
    refine lv_ishl hx hb dX9_bit_46 ?_
    refine lv_i2b hx hb dX9_bit_47 rfl ?_
    refine lv_ior hx hb dX9_bit_48 ?_
    refine lv_i2b hx hb dX9_bit_49 rfl ?_
    refine va_bast hx hb hK hP hD hS 1 0 rfl rfl (vp_in_nI (n := (((L + 7) / 8) + 1) - 1) (by omega) (by omega)) dX9_bit_50 (fun H locs hP hD hS => ?_)
    rw [nI_clamp (n := (((L + 7) / 8) + 1) - 1) (by omega)] at hP hD
    have hP : va_P (dC, dI) vwCl [(h0, .inr (9, [m0, .ref pp, .int (nI (((L + 7) / 8) + 1)), .int (nI (L % 8)), m4, m5, m6, m7, m8, m9, m10, m11, m12, m13, m14, m15, m16, m17, m18, m19, m20, m21, m22, m23])), (pp, .inl (cB, 16384, .inl (upd (upd g ((L + 7) / 8) (vp_nar .byte 0)) ((((L + 7) / 8) + 1) - 1) (vp_nar .byte ((((upd g ((L + 7) / 8) (vp_nar .byte 0)) ((((L + 7) / 8) + 1) - 1)) ||| (((nI (x.toBitVec.toNat % 2 ^ 1)) <<< ((nI (L % 8)) &&& 31)).toInt8.toInt32)).toInt8.toInt32)))))] H := hP
    have hD : va_D A [(h0, .inr (9, [m0, .ref pp, .int (nI (((L + 7) / 8) + 1)), .int (nI (L % 8)), m4, m5, m6, m7, m8, m9, m10, m11, m12, m13, m14, m15, m16, m17, m18, m19, m20, m21, m22, m23])), (pp, .inl (cB, 16384, .inl (upd (upd g ((L + 7) / 8) (vp_nar .byte 0)) ((((L + 7) / 8) + 1) - 1) (vp_nar .byte ((((upd g ((L + 7) / 8) (vp_nar .byte 0)) ((((L + 7) / 8) + 1) - 1)) ||| (((nI (x.toBitVec.toNat % 2 ^ 1)) <<< ((nI (L % 8)) &&& 31)).toInt8.toInt32)).toInt8.toInt32)))))] := hD
    refine lv_aload_n hx hb dX9_bit_51 rfl (lv_at hl 0 rfl) ?_
    refine lv_aload_n hx hb dX9_bit_52 rfl (lv_at hl 0 rfl) ?_
    refine va_get (D := (dC, dI)) (ci := 9) (v := .int (nI (L % 8))) (C := RX9) (T := TX9) (N := 24) hx hb hts (by decide +kernel) hown hK hP 0 rfl rfl 3 (by decide) (hts (.fieldLink RX9 8 "FixedPressModel" "bitAt" "I") (by decide +kernel)) (fun _ h9 => h9) rfl dX9_bit_53 ?_
    refine lv_iconst (v := 1) hx hb dX9_bit_56 (by decide) ?_
    refine lv_iadd hx hb dX9_bit_57 ?_
    refine lv_topi (fun y_8 ey_8 => ?_)
    obtain rfl : y_8 = nI ((L % 8) + 1) := ey_8.trans (nI_add (L % 8) 1)
    refine lv_bipush (v := 7) hx hb dX9_bit_58 (by decide) ?_
    refine lv_iand hx hb dX9_bit_60 ?_
    refine lv_topi (fun y_9 ey_9 => ?_)
    obtain rfl : y_9 = nI ((L % 8 + 1) % 2 ^ 3) := ey_9.trans (pk_andN (n := L % 8 + 1) (by omega) 3 (by decide))
    refine va_put (D := (dC, dI)) (ci := 9) (v := .int (nI ((L % 8 + 1) % 2 ^ 3))) (ty := .int) (C := RX9) (T := TX9) (N := 24) hx hb hts (by decide +kernel) tyX9 tyX9_ok nmX9 hown hK hP hD hS 0 rfl rfl 3 (by decide) (hts (.fieldLink RX9 8 "FixedPressModel" "bitAt" "I") (by decide +kernel)) (fun _ h9 => h9) rfl (by decide +kernel) rfl rfl (Nat.le_of_ble_eq_true rfl) dX9_bit_61 (fun H locs hP hD hS => ?_)
    have hP : va_P (dC, dI) vwCl [(h0, .inr (9, [m0, .ref pp, .int (nI (((L + 7) / 8) + 1)), .int (nI ((L % 8 + 1) % 2 ^ 3)), m4, m5, m6, m7, m8, m9, m10, m11, m12, m13, m14, m15, m16, m17, m18, m19, m20, m21, m22, m23])), (pp, .inl (cB, 16384, .inl (upd (upd g ((L + 7) / 8) (vp_nar .byte 0)) ((((L + 7) / 8) + 1) - 1) (vp_nar .byte ((((upd g ((L + 7) / 8) (vp_nar .byte 0)) ((((L + 7) / 8) + 1) - 1)) ||| (((nI (x.toBitVec.toNat % 2 ^ 1)) <<< ((nI (L % 8)) &&& 31)).toInt8.toInt32)).toInt8.toInt32)))))] H := hP
    have hD : va_D A [(h0, .inr (9, [m0, .ref pp, .int (nI (((L + 7) / 8) + 1)), .int (nI ((L % 8 + 1) % 2 ^ 3)), m4, m5, m6, m7, m8, m9, m10, m11, m12, m13, m14, m15, m16, m17, m18, m19, m20, m21, m22, m23])), (pp, .inl (cB, 16384, .inl (upd (upd g ((L + 7) / 8) (vp_nar .byte 0)) ((((L + 7) / 8) + 1) - 1) (vp_nar .byte ((((upd g ((L + 7) / 8) (vp_nar .byte 0)) ((((L + 7) / 8) + 1) - 1)) ||| (((nI (x.toBitVec.toNat % 2 ^ 1)) <<< ((nI (L % 8)) &&& 31)).toInt8.toInt32)).toInt8.toInt32)))))] := hD
    have hoN : zRo (upd (upd g ((L + 7) / 8) (vp_nar .byte 0)) ((((L + 7) / 8) + 1) - 1) (vp_nar .byte ((((upd g ((L + 7) / 8) (vp_nar .byte 0)) ((((L + 7) / 8) + 1) - 1)) ||| (((nI (x.toBitVec.toNat % 2 ^ 1)) <<< ((nI (L % 8)) &&& 31)).toInt8.toInt32)).toInt8.toInt32))) (V + x.toBitVec.toNat % 2 ^ 1 * 2 ^ L) (L + 1) := by
      have hv := z_vlt ho.1
      have hV0 : V / 2 ^ (8 * (L / 8)) = 0 := Nat.lt_one_iff.mp (by rw [hL0] at hv; exact hv)
      refine zRo_s ho (Nat.mod_lt _ (by decide)) (fun j hj => ?_) ?_
      · rw [pk_un (by omega), pk_un (by omega)]
      · rw [show (L + 7) / 8 + 1 - 1 = L / 8 from by omega, pk_us, show (L + 7) / 8 = L / 8 from by omega, pk_us, pk_vb, show vp_nar .byte (0 : Int32) = zby 0 from by decide, hV0, z_or8 (by omega) (Nat.two_pow_pos _) (Nat.mod_lt _ (by decide))]
    generalize upd (upd g ((L + 7) / 8) (vp_nar .byte 0)) ((((L + 7) / 8) + 1) - 1) (vp_nar .byte ((((upd g ((L + 7) / 8) (vp_nar .byte 0)) ((((L + 7) / 8) + 1) - 1)) ||| (((nI (x.toBitVec.toNat % 2 ^ 1)) <<< ((nI (L % 8)) &&& 31)).toInt8.toInt32)).toInt8.toInt32)) = q9 at hoN hP hD
    have e1 : ((L + 7) / 8) + 1 = (L + 1 + 7) / 8 := by omega
    have e2 : (L % 8 + 1) % 2 ^ 3 = (L + 1) % 8 := by omega
    have hP : va_P (dC, dI) vwCl [(h0, .inr (9, [m0, .ref pp, .int (nI ((L + 1 + 7) / 8)), .int (nI ((L + 1) % 8)), m4, m5, m6, m7, m8, m9, m10, m11, m12, m13, m14, m15, m16, m17, m18, m19, m20, m21, m22, m23])), (pp, .inl (cB, 16384, .inl q9))] H := by rw [← e1, ← e2]; exact hP.sub [0, 1] rfl
    have hD : va_D A [(h0, .inr (9, [m0, .ref pp, .int (nI ((L + 1 + 7) / 8)), .int (nI ((L + 1) % 8)), m4, m5, m6, m7, m8, m9, m10, m11, m12, m13, m14, m15, m16, m17, m18, m19, m20, m21, m22, m23])), (pp, .inl (cB, 16384, .inl q9))] := by rw [← e1, ← e2]; exact hD.sub [0, 1] (by decide) rfl
    have hP9 := hP.sub (ws' := [(h0, .inr (9, [m0, .ref pp, .int (nI ((L + 1 + 7) / 8)), .int (nI ((L + 1) % 8)), m4, m5, m6, m7, m8, m9, m10, m11, m12, m13, m14, m15, m16, m17, m18, m19, m20, m21, m22, m23])), (pp, .inl (cB, 16384, .inl q9))]) [0, 1] rfl
    have hD9 := hD.sub (ws' := [(h0, .inr (9, [m0, .ref pp, .int (nI ((L + 1 + 7) / 8)), .int (nI ((L + 1) % 8)), m4, m5, m6, m7, m8, m9, m10, m11, m12, m13, m14, m15, m16, m17, m18, m19, m20, m21, m22, m23])), (pp, .inl (cB, 16384, .inl q9))]) [0, 1] (by decide) rfl
    exact W.vret hx hb hr (fun t ht hW => ⟨⟨q9, rfl, hoN, ⟨by rw [ht]; exact hP9, va_K.moved hW.alike hK, hD9⟩⟩, hS.F ht⟩) hS.2.2 dX9_bit_64

abbrev rm_X9_low : Room := { frames := 1, cells := 0, slots := 0, locals := 21 }
abbrev wo_X9_low (dC : Nat → ClassId) (dI : Nat → Nat → Nat) (cB cI cJ cM : ClassId) (h0 pp : Nat) (g : Nat → Int32) (V L : Nat) (v k : Nat) (m0 m4 m5 m6 m7 m8 m9 m10 m11 m12 m13 m14 m15 m16 m17 m18 m19 m20 m21 m22 m23 : Value) : va_W := [(h0, .inr (9, [m0, .ref pp, .int (nI ((L + 7) / 8)), .int (nI (L % 8)), m4, m5, m6, m7, m8, m9, m10, m11, m12, m13, m14, m15, m16, m17, m18, m19, m20, m21, m22, m23])), (pp, .inl (cB, 16384, .inl g))]
abbrev q_X9_low (dC : Nat → ClassId) (dI : Nat → Nat → Nat) (cB cI cJ cM : ClassId) (h0 pp : Nat) (g : Nat → Int32) (V L : Nat) (v k : Nat) (m0 m4 m5 m6 m7 m8 m9 m10 m11 m12 m13 m14 m15 m16 m17 m18 m19 m20 m21 m22 m23 : Value) (A : Nat → Prop) : Array Value → State → Outcome → State → Prop := va_Qv (fun (u : Nat → Int32) => zRo u (V + v * 2 ^ L) (L + k)) (zB dC dI cB cI cJ cM A (fun u : Nat → Int32 => [(h0, .inr (9, [m0, .ref pp, .int (nI (((L + k) + 7) / 8)), .int (nI ((L + k) % 8)), m4, m5, m6, m7, m8, m9, m10, m11, m12, m13, m14, m15, m16, m17, m18, m19, m20, m21, m22, m23])), (pp, .inl (cB, 16384, .inl u))])) A
set_option maxHeartbeats 8000000 in
set_option maxRecDepth 100000 in
/-- low -/
theorem k_X9_low (l : Launch) (dC : Nat → ClassId) (dI : Nat → Nat → Nat) (cB cI cJ cM : ClassId) (h0 pp : Nat) (g : Nat → Int32) (V L : Nat) (v k : Nat) (m0 m4 m5 m6 m7 m8 m9 m10 m11 m12 m13 m14 m15 m16 m17 m18 m19 m20 m21 m22 m23 : Value) (ho : zRo g V L) (hn : L + k < 130000) (hv : v < 2 ^ k) (hk : k ≤ 13) (sz : Nat) : Met l yX9_low wsX9_low rm_X9_low (va_Pc [.ref h0, .int (nI v), .int (nI k)] (fun U => U.heap.size = sz ∧ va_P (dC, dI) vwCl (wo_X9_low dC dI cB cI cJ cM h0 pp g V L v k m0 m4 m5 m6 m7 m8 m9 m10 m11 m12 m13 m14 m15 m16 m17 m18 m19 m20 m21 m22 m23) U.heap ∧ va_K (dC, dI) vwCl (zT cB cI cJ cM) U ∧ va_D (fun _ => True) (wo_X9_low dC dI cB cI cJ cM h0 pp g V L v k m0 m4 m5 m6 m7 m8 m9 m10 m11 m12 m13 m14 m15 m16 m17 m18 m19 m20 m21 m22 m23))) (q_X9_low dC dI cB cI cJ cM h0 pp g V L v k m0 m4 m5 m6 m7 m8 m9 m10 m11 m12 m13 m14 m15 m16 m17 m18 m19 m20 m21 m22 m23 (va_A (wo_X9_low dC dI cB cI cJ cM h0 pp g V L v k m0 m4 m5 m6 m7 m8 m9 m10 m11 m12 m13 m14 m15 m16 m17 m18 m19 m20 m21 m22 m23) sz)) 0 0 (va_A (wo_X9_low dC dI cB cI cJ cM h0 pp g V L v k m0 m4 m5 m6 m7 m8 m9 m10 m11 m12 m13 m14 m15 m16 m17 m18 m19 m20 m21 m22 m23) sz) := by
  refine Met.ofW (cc := cX9_low) (maxL := 4) (ret := none) (by decide) rfl ?_
  intro p e s m args below meth c s₁ B hml hv
  obtain ⟨rfl, hsz, hP, hK, hD0⟩ := hv
  have hx := B.exec
  have hb := B.bytes
  have hr := B.returns
  have hts := atoms_spec (ws := wsX9_low) B.pre
  have hown : s.vm.findClass RX9 = some m.cls := findClass_of_methodNamed B.named
  have hlocks := B.notSynchronized
  subst hsz
  have hD := hD0.self (sz := s.heap.size)
  generalize hAe : va_A (wo_X9_low dC dI cB cI cJ cM h0 pp g V L v k m0 m4 m5 m6 m7 m8 m9 m10 m11 m12 m13 m14 m15 m16 m17 m18 m19 m20 m21 m22 m23) s.heap.size = A at hD ⊢
  have hA : ∀ q : Nat, s.heap.size ≤ q → A q := fun q h => by rw [← hAe]; exact Or.inr h
  have hS : va_S A s.heap s.heap [] := va_S.rf
  have hP : va_P (dC, dI) vwCl [(h0, .inr (9, [m0, .ref pp, .int (nI ((L + 7) / 8)), .int (nI (L % 8)), m4, m5, m6, m7, m8, m9, m10, m11, m12, m13, m14, m15, m16, m17, m18, m19, m20, m21, m22, m23])), (pp, .inl (cB, 16384, .inl g))] s.heap := hP
  have hD : va_D A [(h0, .inr (9, [m0, .ref pp, .int (nI ((L + 7) / 8)), .int (nI (L % 8)), m4, m5, m6, m7, m8, m9, m10, m11, m12, m13, m14, m15, m16, m17, m18, m19, m20, m21, m22, m23])), (pp, .inl (cB, 16384, .inl g))] := hD
  have hl := lv_entry ([.ref h0, .int (nI v), .int (nI k)]) (n := 4) (Nat.le_of_ble_eq_true rfl)
  rw [lg_entry_eq]
  generalize (lg_sl ([.ref h0, .int (nI v), .int (nI k)]) ++ List.replicate (4 - (lg_sl ([.ref h0, .int (nI v), .int (nI k)])).length) Slot.unset).toArray = ls at hl ⊢
  have hl : lv_has ls 4 [(0, .ref h0), (1, .int (nI v)), (2, .int (nI k))] := hl
  have hv31 : v < 8192 := Nat.lt_of_lt_of_le hv (Nat.pow_le_pow_right (by decide) hk)
  refine lv_iconst (v := 0) hx hb dX9_low_0 (by decide) ?_
  refine lv_istore_n (lv' := [(3, .int 0), (0, .ref h0), (1, .int (nI v)), (2, .int (nI k))]) hx hb dX9_low_1 rfl hl (by decide) rfl (fun ls hl => ?_)
  have cut2 : ∀ (fuel : Nat) (i : Nat) (g1 : Nat → Int32), (i ≤ k) → (zRo g1 (zlo V L v i) (L + i)) → (k - i < fuel) → ∀ (H : Heap) (locs : List Loc), va_P (dC, dI) vwCl [(h0, .inr (9, [m0, .ref pp, .int (nI (((L + i) + 7) / 8)), .int (nI ((L + i) % 8)), m4, m5, m6, m7, m8, m9, m10, m11, m12, m13, m14, m15, m16, m17, m18, m19, m20, m21, m22, m23])), (pp, .inl (cB, 16384, .inl g1))] H → va_D A [(h0, .inr (9, [m0, .ref pp, .int (nI (((L + i) + 7) / 8)), .int (nI ((L + i) % 8)), m4, m5, m6, m7, m8, m9, m10, m11, m12, m13, m14, m15, m16, m17, m18, m19, m20, m21, m22, m23])), (pp, .inl (cB, 16384, .inl g1))] → va_S A s.heap H locs → ∀ (ls : Array Slot), lv_has ls 4 [(0, .ref h0), (1, .int (nI v)), (2, .int (nI k)), (3, .int (nI i))] → W p l e (headSpec wsX9_low rm_X9_low).room s m ([.ref h0, .int (nI v), .int (nI k)] : List Value).toArray below meth c H locs 0 0 (MQ below (q_X9_low dC dI cB cI cJ cM h0 pp g V L v k m0 m4 m5 m6 m7 m8 m9 m10 m11 m12 m13 m14 m15 m16 m17 m18 m19 m20 m21 m22 m23 A) ([.ref h0, .int (nI v), .int (nI k)] : List Value).toArray s 0 0 A) (F0 m 2 ls []) := by
    intro fuel
    induction fuel with
    | zero => intros; omega
    | succ fuel ih =>
      intro i g1 hi ho1 hfuel H locs hP hD hS ls hl
      refine lv_iload_n hx hb dX9_low_2 rfl (lv_at hl 3 rfl) ?_
      refine lv_iload_n hx hb dX9_low_3 rfl (lv_at hl 2 rfl) ?_
      refine lv_icmp_ge (tgt := 20) hx hb dX9_low_4 (by decide) (fun c4 => ?_) (fun c4 => ?_)
      · have c4 : k ≤ i := (nI_leI (a := k) (b := i) (by omega) (by omega)).mp c4
        have hik : i = k := by omega
        rw [hik, zlo_all hv] at ho1
        rw [hik] at hP hD
        have hP : va_P (dC, dI) vwCl [(h0, .inr (9, [m0, .ref pp, .int (nI (((L + k) + 7) / 8)), .int (nI ((L + k) % 8)), m4, m5, m6, m7, m8, m9, m10, m11, m12, m13, m14, m15, m16, m17, m18, m19, m20, m21, m22, m23])), (pp, .inl (cB, 16384, .inl g1))] H := hP
        have hD : va_D A [(h0, .inr (9, [m0, .ref pp, .int (nI (((L + k) + 7) / 8)), .int (nI ((L + k) % 8)), m4, m5, m6, m7, m8, m9, m10, m11, m12, m13, m14, m15, m16, m17, m18, m19, m20, m21, m22, m23])), (pp, .inl (cB, 16384, .inl g1))] := hD
        have hP9 := hP.sub (ws' := [(h0, .inr (9, [m0, .ref pp, .int (nI (((L + k) + 7) / 8)), .int (nI ((L + k) % 8)), m4, m5, m6, m7, m8, m9, m10, m11, m12, m13, m14, m15, m16, m17, m18, m19, m20, m21, m22, m23])), (pp, .inl (cB, 16384, .inl g1))]) [0, 1] rfl
        have hD9 := hD.sub (ws' := [(h0, .inr (9, [m0, .ref pp, .int (nI (((L + k) + 7) / 8)), .int (nI ((L + k) % 8)), m4, m5, m6, m7, m8, m9, m10, m11, m12, m13, m14, m15, m16, m17, m18, m19, m20, m21, m22, m23])), (pp, .inl (cB, 16384, .inl g1))]) [0, 1] (by decide) rfl
        exact W.vret hx hb hr (fun t ht hW => ⟨⟨g1, rfl, ho1, ⟨by rw [ht]; exact hP9, va_K.moved hW.alike hK, hD9⟩⟩, hS.F ht⟩) hS.2.2 dX9_low_20
      · have c4 : ¬ (k ≤ i) := fun h => c4 ((nI_leI (a := k) (b := i) (by omega) (by omega)).mpr h)
        refine lv_aload_n hx hb dX9_low_7 rfl (lv_at hl 0 rfl) ?_
        refine lv_iload_n hx hb dX9_low_8 rfl (lv_at hl 1 rfl) ?_
        refine lv_iload_n hx hb dX9_low_9 rfl (lv_at hl 3 rfl) ?_
        refine lv_ishr hx hb dX9_low_10 ?_
        refine lv_topi (fun y_1 ey_1 => ?_)
        obtain rfl : y_1 = nI (v / 2 ^ i) := ey_1.trans (z_shr (n := v) (k := i) (by omega) (by omega))
        have hPc := hP.sub (ws' := [(h0, .inr (9, [m0, .ref pp, .int (nI (((L + i) + 7) / 8)), .int (nI ((L + i) % 8)), m4, m5, m6, m7, m8, m9, m10, m11, m12, m13, m14, m15, m16, m17, m18, m19, m20, m21, m22, m23])), (pp, .inl (cB, 16384, .inl g1))]) [0, 1] rfl
        have hDc := hD.sub (ws' := [(h0, .inr (9, [m0, .ref pp, .int (nI (((L + i) + 7) / 8)), .int (nI ((L + i) % 8)), m4, m5, m6, m7, m8, m9, m10, m11, m12, m13, m14, m15, m16, m17, m18, m19, m20, m21, m22, m23])), (pp, .inl (cB, 16384, .inl g1))]) [0, 1] (by decide) rfl
        have hFc := va_free (wc := [(h0, .inr (9, [m0, .ref pp, .int (nI (((L + i) + 7) / 8)), .int (nI ((L + i) % 8)), m4, m5, m6, m7, m8, m9, m10, m11, m12, m13, m14, m15, m16, m17, m18, m19, m20, m21, m22, m23])), (pp, .inl (cB, 16384, .inl g1))]) hD hS hA [0, 1] rfl
        refine va_callv (va_runV (As := [.int (nI (v / 2 ^ i))]) (rest := []) ⟨hx, hb, hml, hown, hts⟩ (k_X9_bit l dC dI cB cI cJ cM h0 pp g1 (zlo V L v i) (L + i) (nI (v / 2 ^ i)) m0 m4 m5 m6 m7 m8 m9 m10 m11 m12 m13 m14 m15 m16 m17 m18 m19 m20 m21 m22 m23 (ho1) (by omega) H.size) (cwV 1 hts gX9_low_X9_bit rfl rfl rfl (by decide +kernel) ⟨Nat.le_of_ble_eq_true rfl, Nat.le_of_ble_eq_true rfl⟩) ⟨fun a U g mk q => by obtain ⟨q0, q1, qP, qK, qD⟩ := q; exact ⟨q0, q1, qP, va_K.moved (u := U) (U := U.calling g mk a) (Vm.Alike.refl U.vm) qK, qD⟩, va_recv hK hPc (ci := 9) (q0 := 0) rfl rfl, fun U hU hW => ⟨rfl, by rw [hU], by rw [hU]; exact hPc, va_K.moved hW.alike hK, hDc.weaken (fun _ _ _ _ => trivial)⟩⟩ rfl rfl hl.1 rfl (lv_room (Nat.le_of_ble_eq_true rfl)) dX9_low_11 ⟨(show 0 + 0 ≤ 0 by omega), (show 0 + 0 ≤ 0 by omega)⟩) hS (fun q _ h => hFc q h) hFc (fun u t H1 locs ht hvm hw hB hz1 hk1 hS => ?_)
        obtain ⟨g2, rfl⟩ : ∃ z, z = u := ⟨_, rfl⟩
        have hP1 : va_P (dC, dI) vwCl [(h0, .inr (9, [m0, .ref pp, .int (nI (((L + i) + 1 + 7) / 8)), .int (nI (((L + i) + 1) % 8)), m4, m5, m6, m7, m8, m9, m10, m11, m12, m13, m14, m15, m16, m17, m18, m19, m20, m21, m22, m23])), (pp, .inl (cB, 16384, .inl g2))] H1 := by rw [← ht]; exact hB.1
        have hD1 : va_D (va_A [(h0, .inr (9, [m0, .ref pp, .int (nI (((L + i) + 7) / 8)), .int (nI ((L + i) % 8)), m4, m5, m6, m7, m8, m9, m10, m11, m12, m13, m14, m15, m16, m17, m18, m19, m20, m21, m22, m23])), (pp, .inl (cB, 16384, .inl g1))] H.size) [(h0, .inr (9, [m0, .ref pp, .int (nI (((L + i) + 1 + 7) / 8)), .int (nI (((L + i) + 1) % 8)), m4, m5, m6, m7, m8, m9, m10, m11, m12, m13, m14, m15, m16, m17, m18, m19, m20, m21, m22, m23])), (pp, .inl (cB, 16384, .inl g2))] := hB.2.2
        obtain ⟨hP, hD⟩ := va_join (wr := []) (w1 := [(h0, .inr (9, [m0, .ref pp, .int (nI (((L + i) + 1 + 7) / 8)), .int (nI (((L + i) + 1) % 8)), m4, m5, m6, m7, m8, m9, m10, m11, m12, m13, m14, m15, m16, m17, m18, m19, m20, m21, m22, m23])), (pp, .inl (cB, 16384, .inl g2))]) hP hD [0, 1] [] rfl rfl (by decide) (by decide) hk1 hFc hP1 hD1
        generalize H1 = H at hP hS ⊢
        try dsimp only at hw
        have hP : va_P (dC, dI) vwCl [(h0, .inr (9, [m0, .ref pp, .int (nI (((L + i) + 1 + 7) / 8)), .int (nI (((L + i) + 1) % 8)), m4, m5, m6, m7, m8, m9, m10, m11, m12, m13, m14, m15, m16, m17, m18, m19, m20, m21, m22, m23])), (pp, .inl (cB, 16384, .inl g2))] H := hP
        have hD : va_D A [(h0, .inr (9, [m0, .ref pp, .int (nI (((L + i) + 1 + 7) / 8)), .int (nI (((L + i) + 1) % 8)), m4, m5, m6, m7, m8, m9, m10, m11, m12, m13, m14, m15, m16, m17, m18, m19, m20, m21, m22, m23])), (pp, .inl (cB, 16384, .inl g2))] := hD
        rw [pk_tn (n := v / 2 ^ i) (Nat.lt_of_le_of_lt (Nat.div_le_self _ _) (by omega))] at hw
        have hP : va_P (dC, dI) vwCl [(h0, .inr (9, [m0, .ref pp, .int (nI (((L + (i + 1)) + 7) / 8)), .int (nI ((L + (i + 1)) % 8)), m4, m5, m6, m7, m8, m9, m10, m11, m12, m13, m14, m15, m16, m17, m18, m19, m20, m21, m22, m23])), (pp, .inl (cB, 16384, .inl g2))] H := hP
        have hD : va_D A [(h0, .inr (9, [m0, .ref pp, .int (nI (((L + (i + 1)) + 7) / 8)), .int (nI ((L + (i + 1)) % 8)), m4, m5, m6, m7, m8, m9, m10, m11, m12, m13, m14, m15, m16, m17, m18, m19, m20, m21, m22, m23])), (pp, .inl (cB, 16384, .inl g2))] := hD
        refine W.eq (g2 := F0 m 14 ls []) rfl ?_
        refine lv_iinc (v := nI (i + 1)) (lv' := [(3, .int (nI (i + 1))), (0, .ref h0), (1, .int (nI v)), (2, .int (nI k))]) hx hb dX9_low_14 hl (k := 3) rfl (show nI i + Int32.ofInt 1 = _ from nI_add i 1) (by decide) rfl (fun ls hl => ?_)
        refine lv_goto (tgt := 2) hx hb dX9_low_17 (by decide) ?_
        exact ih (i + 1) g2 (by omega) (hw) (by omega) _ _ hP hD hS _ (lv_sub hl [1, 2, 3, 0] rfl)
  exact cut2 (k - 0 + 1) 0 g (by omega) (ho) (by omega) _ _ hP hD hS _ (lv_sub hl [1, 2, 3, 0] rfl)

abbrev rm_X9_high : Room := { frames := 1, cells := 0, slots := 0, locals := 21 }
abbrev wo_X9_high (dC : Nat → ClassId) (dI : Nat → Nat → Nat) (cB cI cJ cM : ClassId) (h0 pp : Nat) (g : Nat → Int32) (V L : Nat) (cd k : Nat) (m0 m4 m5 m6 m7 m8 m9 m10 m11 m12 m13 m14 m15 m16 m17 m18 m19 m20 m21 m22 m23 : Value) : va_W := [(h0, .inr (9, [m0, .ref pp, .int (nI ((L + 7) / 8)), .int (nI (L % 8)), m4, m5, m6, m7, m8, m9, m10, m11, m12, m13, m14, m15, m16, m17, m18, m19, m20, m21, m22, m23])), (pp, .inl (cB, 16384, .inl g))]
abbrev q_X9_high (dC : Nat → ClassId) (dI : Nat → Nat → Nat) (cB cI cJ cM : ClassId) (h0 pp : Nat) (g : Nat → Int32) (V L : Nat) (cd k : Nat) (m0 m4 m5 m6 m7 m8 m9 m10 m11 m12 m13 m14 m15 m16 m17 m18 m19 m20 m21 m22 m23 : Value) (A : Nat → Prop) : Array Value → State → Outcome → State → Prop := va_Qv (fun (u : Nat → Int32) => zRo u (zhi V L cd k) (L + k)) (zB dC dI cB cI cJ cM A (fun u : Nat → Int32 => [(h0, .inr (9, [m0, .ref pp, .int (nI (((L + k) + 7) / 8)), .int (nI ((L + k) % 8)), m4, m5, m6, m7, m8, m9, m10, m11, m12, m13, m14, m15, m16, m17, m18, m19, m20, m21, m22, m23])), (pp, .inl (cB, 16384, .inl u))])) A
set_option maxHeartbeats 8000000 in
set_option maxRecDepth 100000 in
/-- high -/
theorem k_X9_high (l : Launch) (dC : Nat → ClassId) (dI : Nat → Nat → Nat) (cB cI cJ cM : ClassId) (h0 pp : Nat) (g : Nat → Int32) (V L : Nat) (cd k : Nat) (m0 m4 m5 m6 m7 m8 m9 m10 m11 m12 m13 m14 m15 m16 m17 m18 m19 m20 m21 m22 m23 : Value) (ho : zRo g V L) (hn : L + k < 130000) (hcd : cd < 65536) (hk : k ≤ 16) (sz : Nat) : Met l yX9_high wsX9_high rm_X9_high (va_Pc [.ref h0, .int (nI cd), .int (nI k)] (fun U => U.heap.size = sz ∧ va_P (dC, dI) vwCl (wo_X9_high dC dI cB cI cJ cM h0 pp g V L cd k m0 m4 m5 m6 m7 m8 m9 m10 m11 m12 m13 m14 m15 m16 m17 m18 m19 m20 m21 m22 m23) U.heap ∧ va_K (dC, dI) vwCl (zT cB cI cJ cM) U ∧ va_D (fun _ => True) (wo_X9_high dC dI cB cI cJ cM h0 pp g V L cd k m0 m4 m5 m6 m7 m8 m9 m10 m11 m12 m13 m14 m15 m16 m17 m18 m19 m20 m21 m22 m23))) (q_X9_high dC dI cB cI cJ cM h0 pp g V L cd k m0 m4 m5 m6 m7 m8 m9 m10 m11 m12 m13 m14 m15 m16 m17 m18 m19 m20 m21 m22 m23 (va_A (wo_X9_high dC dI cB cI cJ cM h0 pp g V L cd k m0 m4 m5 m6 m7 m8 m9 m10 m11 m12 m13 m14 m15 m16 m17 m18 m19 m20 m21 m22 m23) sz)) 0 0 (va_A (wo_X9_high dC dI cB cI cJ cM h0 pp g V L cd k m0 m4 m5 m6 m7 m8 m9 m10 m11 m12 m13 m14 m15 m16 m17 m18 m19 m20 m21 m22 m23) sz) := by
  refine Met.ofW (cc := cX9_high) (maxL := 4) (ret := none) (by decide) rfl ?_
  intro p e s m args below meth c s₁ B hml hv
  obtain ⟨rfl, hsz, hP, hK, hD0⟩ := hv
  have hx := B.exec
  have hb := B.bytes
  have hr := B.returns
  have hts := atoms_spec (ws := wsX9_high) B.pre
  have hown : s.vm.findClass RX9 = some m.cls := findClass_of_methodNamed B.named
  have hlocks := B.notSynchronized
  subst hsz
  have hD := hD0.self (sz := s.heap.size)
  generalize hAe : va_A (wo_X9_high dC dI cB cI cJ cM h0 pp g V L cd k m0 m4 m5 m6 m7 m8 m9 m10 m11 m12 m13 m14 m15 m16 m17 m18 m19 m20 m21 m22 m23) s.heap.size = A at hD ⊢
  have hA : ∀ q : Nat, s.heap.size ≤ q → A q := fun q h => by rw [← hAe]; exact Or.inr h
  have hS : va_S A s.heap s.heap [] := va_S.rf
  have hP : va_P (dC, dI) vwCl [(h0, .inr (9, [m0, .ref pp, .int (nI ((L + 7) / 8)), .int (nI (L % 8)), m4, m5, m6, m7, m8, m9, m10, m11, m12, m13, m14, m15, m16, m17, m18, m19, m20, m21, m22, m23])), (pp, .inl (cB, 16384, .inl g))] s.heap := hP
  have hD : va_D A [(h0, .inr (9, [m0, .ref pp, .int (nI ((L + 7) / 8)), .int (nI (L % 8)), m4, m5, m6, m7, m8, m9, m10, m11, m12, m13, m14, m15, m16, m17, m18, m19, m20, m21, m22, m23])), (pp, .inl (cB, 16384, .inl g))] := hD
  have hl := lv_entry ([.ref h0, .int (nI cd), .int (nI k)]) (n := 4) (Nat.le_of_ble_eq_true rfl)
  rw [lg_entry_eq]
  generalize (lg_sl ([.ref h0, .int (nI cd), .int (nI k)]) ++ List.replicate (4 - (lg_sl ([.ref h0, .int (nI cd), .int (nI k)])).length) Slot.unset).toArray = ls at hl ⊢
  have hl : lv_has ls 4 [(0, .ref h0), (1, .int (nI cd)), (2, .int (nI k))] := hl
  refine lv_iload_n hx hb dX9_high_0 rfl (lv_at hl 2 rfl) ?_
  refine lv_iconst (v := 1) hx hb dX9_high_1 (by decide) ?_
  refine lv_isub hx hb dX9_high_2 ?_
  refine lv_istore_n (lv' := [(3, .int ((nI k) - 1)), (0, .ref h0), (1, .int (nI cd)), (2, .int (nI k))]) hx hb dX9_high_3 rfl hl (by decide) rfl (fun ls hl => ?_)
  have cut4 : ∀ (fuel : Nat) (k1 : Nat) (V1 : Nat) (L1 : Nat) (g1 : Nat → Int32) (w : Int32), (w = nI k1 - 1) → (zhi V1 L1 cd k1 = zhi V L cd k) → (L1 + k1 = L + k) → (zRo g1 V1 L1) → (k1 ≤ 16) → (k1 < fuel) → ∀ (H : Heap) (locs : List Loc), va_P (dC, dI) vwCl [(h0, .inr (9, [m0, .ref pp, .int (nI ((L1 + 7) / 8)), .int (nI (L1 % 8)), m4, m5, m6, m7, m8, m9, m10, m11, m12, m13, m14, m15, m16, m17, m18, m19, m20, m21, m22, m23])), (pp, .inl (cB, 16384, .inl g1))] H → va_D A [(h0, .inr (9, [m0, .ref pp, .int (nI ((L1 + 7) / 8)), .int (nI (L1 % 8)), m4, m5, m6, m7, m8, m9, m10, m11, m12, m13, m14, m15, m16, m17, m18, m19, m20, m21, m22, m23])), (pp, .inl (cB, 16384, .inl g1))] → va_S A s.heap H locs → ∀ (ls : Array Slot), lv_has ls 4 [(0, .ref h0), (1, .int (nI cd)), (3, .int w)] → W p l e (headSpec wsX9_high rm_X9_high).room s m ([.ref h0, .int (nI cd), .int (nI k)] : List Value).toArray below meth c H locs 0 0 (MQ below (q_X9_high dC dI cB cI cJ cM h0 pp g V L cd k m0 m4 m5 m6 m7 m8 m9 m10 m11 m12 m13 m14 m15 m16 m17 m18 m19 m20 m21 m22 m23 A) ([.ref h0, .int (nI cd), .int (nI k)] : List Value).toArray s 0 0 A) (F0 m 4 ls []) := by
    intro fuel
    induction fuel with
    | zero => intros; omega
    | succ fuel ih =>
      intro k1 V1 L1 g1 w hw3 hV1 hL1 ho1 hk1 hfuel H locs hP hD hS ls hl
      refine lv_iload_n hx hb dX9_high_4 rfl (lv_at hl 2 rfl) ?_
      refine lv_if_lt (tgt := 21) hx hb dX9_high_5 (by decide) (fun c5 => ?_) (fun c5 => ?_)
      · have hk0 : k1 = 0 := by
          rcases Nat.eq_zero_or_pos k1 with h | h
          · exact h
          · obtain ⟨k2, rfl⟩ : ∃ k2, k1 = k2 + 1 := ⟨k1 - 1, by omega⟩
            rw [hw3, nI_pred] at c5
            exact absurd c5 (nI_pos (by omega))
        have hL0 : L1 = L + k := by omega
        have hV0 : V1 = zhi V L cd k := by rw [hk0] at hV1; exact hV1
        rw [hL0, hV0] at ho1
        rw [hL0] at hP hD
        have hP : va_P (dC, dI) vwCl [(h0, .inr (9, [m0, .ref pp, .int (nI (((L + k) + 7) / 8)), .int (nI ((L + k) % 8)), m4, m5, m6, m7, m8, m9, m10, m11, m12, m13, m14, m15, m16, m17, m18, m19, m20, m21, m22, m23])), (pp, .inl (cB, 16384, .inl g1))] H := hP
        have hD : va_D A [(h0, .inr (9, [m0, .ref pp, .int (nI (((L + k) + 7) / 8)), .int (nI ((L + k) % 8)), m4, m5, m6, m7, m8, m9, m10, m11, m12, m13, m14, m15, m16, m17, m18, m19, m20, m21, m22, m23])), (pp, .inl (cB, 16384, .inl g1))] := hD
        have hP9 := hP.sub (ws' := [(h0, .inr (9, [m0, .ref pp, .int (nI (((L + k) + 7) / 8)), .int (nI ((L + k) % 8)), m4, m5, m6, m7, m8, m9, m10, m11, m12, m13, m14, m15, m16, m17, m18, m19, m20, m21, m22, m23])), (pp, .inl (cB, 16384, .inl g1))]) [0, 1] rfl
        have hD9 := hD.sub (ws' := [(h0, .inr (9, [m0, .ref pp, .int (nI (((L + k) + 7) / 8)), .int (nI ((L + k) % 8)), m4, m5, m6, m7, m8, m9, m10, m11, m12, m13, m14, m15, m16, m17, m18, m19, m20, m21, m22, m23])), (pp, .inl (cB, 16384, .inl g1))]) [0, 1] (by decide) rfl
        exact W.vret hx hb hr (fun t ht hW => ⟨⟨g1, rfl, ho1, ⟨by rw [ht]; exact hP9, va_K.moved hW.alike hK, hD9⟩⟩, hS.F ht⟩) hS.2.2 dX9_high_21
      · obtain ⟨k2, rfl⟩ : ∃ k2, k1 = k2 + 1 := ⟨k1 - 1, (Nat.eq_zero_or_pos k1).elim (fun h => absurd (by rw [hw3, h]; decide) c5) (fun h => by omega)⟩
        obtain rfl : w = nI k2 := hw3.trans (nI_pred k2)
        refine lv_aload_n hx hb dX9_high_8 rfl (lv_at hl 0 rfl) ?_
        refine lv_iload_n hx hb dX9_high_9 rfl (lv_at hl 1 rfl) ?_
        refine lv_iload_n hx hb dX9_high_10 rfl (lv_at hl 2 rfl) ?_
        refine lv_ishr hx hb dX9_high_11 ?_
        refine lv_topi (fun y_1 ey_1 => ?_)
        obtain rfl : y_1 = nI (cd / 2 ^ k2) := ey_1.trans (z_shr (n := cd) (k := k2) (by omega) (by omega))
        have hPc := hP.sub (ws' := [(h0, .inr (9, [m0, .ref pp, .int (nI ((L1 + 7) / 8)), .int (nI (L1 % 8)), m4, m5, m6, m7, m8, m9, m10, m11, m12, m13, m14, m15, m16, m17, m18, m19, m20, m21, m22, m23])), (pp, .inl (cB, 16384, .inl g1))]) [0, 1] rfl
        have hDc := hD.sub (ws' := [(h0, .inr (9, [m0, .ref pp, .int (nI ((L1 + 7) / 8)), .int (nI (L1 % 8)), m4, m5, m6, m7, m8, m9, m10, m11, m12, m13, m14, m15, m16, m17, m18, m19, m20, m21, m22, m23])), (pp, .inl (cB, 16384, .inl g1))]) [0, 1] (by decide) rfl
        have hFc := va_free (wc := [(h0, .inr (9, [m0, .ref pp, .int (nI ((L1 + 7) / 8)), .int (nI (L1 % 8)), m4, m5, m6, m7, m8, m9, m10, m11, m12, m13, m14, m15, m16, m17, m18, m19, m20, m21, m22, m23])), (pp, .inl (cB, 16384, .inl g1))]) hD hS hA [0, 1] rfl
        refine va_callv (va_runV (As := [.int (nI (cd / 2 ^ k2))]) (rest := []) ⟨hx, hb, hml, hown, hts⟩ (k_X9_bit l dC dI cB cI cJ cM h0 pp g1 V1 L1 (nI (cd / 2 ^ k2)) m0 m4 m5 m6 m7 m8 m9 m10 m11 m12 m13 m14 m15 m16 m17 m18 m19 m20 m21 m22 m23 (ho1) (by omega) H.size) (cwV 1 hts gX9_high_X9_bit rfl rfl rfl (by decide +kernel) ⟨Nat.le_of_ble_eq_true rfl, Nat.le_of_ble_eq_true rfl⟩) ⟨fun a U g mk q => by obtain ⟨q0, q1, qP, qK, qD⟩ := q; exact ⟨q0, q1, qP, va_K.moved (u := U) (U := U.calling g mk a) (Vm.Alike.refl U.vm) qK, qD⟩, va_recv hK hPc (ci := 9) (q0 := 0) rfl rfl, fun U hU hW => ⟨rfl, by rw [hU], by rw [hU]; exact hPc, va_K.moved hW.alike hK, hDc.weaken (fun _ _ _ _ => trivial)⟩⟩ rfl rfl hl.1 rfl (lv_room (Nat.le_of_ble_eq_true rfl)) dX9_high_12 ⟨(show 0 + 0 ≤ 0 by omega), (show 0 + 0 ≤ 0 by omega)⟩) hS (fun q _ h => hFc q h) hFc (fun u t H1 locs ht hvm hw hB hz1 hk1 hS => ?_)
        obtain ⟨g2, rfl⟩ : ∃ z, z = u := ⟨_, rfl⟩
        have hP1 : va_P (dC, dI) vwCl [(h0, .inr (9, [m0, .ref pp, .int (nI ((L1 + 1 + 7) / 8)), .int (nI ((L1 + 1) % 8)), m4, m5, m6, m7, m8, m9, m10, m11, m12, m13, m14, m15, m16, m17, m18, m19, m20, m21, m22, m23])), (pp, .inl (cB, 16384, .inl g2))] H1 := by rw [← ht]; exact hB.1
        have hD1 : va_D (va_A [(h0, .inr (9, [m0, .ref pp, .int (nI ((L1 + 7) / 8)), .int (nI (L1 % 8)), m4, m5, m6, m7, m8, m9, m10, m11, m12, m13, m14, m15, m16, m17, m18, m19, m20, m21, m22, m23])), (pp, .inl (cB, 16384, .inl g1))] H.size) [(h0, .inr (9, [m0, .ref pp, .int (nI ((L1 + 1 + 7) / 8)), .int (nI ((L1 + 1) % 8)), m4, m5, m6, m7, m8, m9, m10, m11, m12, m13, m14, m15, m16, m17, m18, m19, m20, m21, m22, m23])), (pp, .inl (cB, 16384, .inl g2))] := hB.2.2
        obtain ⟨hP, hD⟩ := va_join (wr := []) (w1 := [(h0, .inr (9, [m0, .ref pp, .int (nI ((L1 + 1 + 7) / 8)), .int (nI ((L1 + 1) % 8)), m4, m5, m6, m7, m8, m9, m10, m11, m12, m13, m14, m15, m16, m17, m18, m19, m20, m21, m22, m23])), (pp, .inl (cB, 16384, .inl g2))]) hP hD [0, 1] [] rfl rfl (by decide) (by decide) hk1 hFc hP1 hD1
        generalize H1 = H at hP hS ⊢
        try dsimp only at hw
        have hP : va_P (dC, dI) vwCl [(h0, .inr (9, [m0, .ref pp, .int (nI ((L1 + 1 + 7) / 8)), .int (nI ((L1 + 1) % 8)), m4, m5, m6, m7, m8, m9, m10, m11, m12, m13, m14, m15, m16, m17, m18, m19, m20, m21, m22, m23])), (pp, .inl (cB, 16384, .inl g2))] H := hP
        have hD : va_D A [(h0, .inr (9, [m0, .ref pp, .int (nI ((L1 + 1 + 7) / 8)), .int (nI ((L1 + 1) % 8)), m4, m5, m6, m7, m8, m9, m10, m11, m12, m13, m14, m15, m16, m17, m18, m19, m20, m21, m22, m23])), (pp, .inl (cB, 16384, .inl g2))] := hD
        rw [pk_tn (n := cd / 2 ^ k2) (Nat.lt_of_le_of_lt (Nat.div_le_self _ _) (by omega))] at hw
        refine W.eq (g2 := F0 m 15 ls []) rfl ?_
        refine lv_iinc (v := nI k2 - 1) (lv' := [(3, .int (nI k2 - 1)), (0, .ref h0), (1, .int (nI cd))]) hx hb dX9_high_15 hl (k := 2) rfl (by rw [Int32.sub_eq_add_neg]; rfl) (by decide) rfl (fun ls hl => ?_)
        refine lv_goto (tgt := 4) hx hb dX9_high_18 (by decide) ?_
        exact ih k2 (V1 + (cd / 2 ^ k2 % 2) * 2 ^ L1) (L1 + 1) g2 (nI k2 - 1) (rfl) (hV1) (by omega) (hw) (by omega) (by omega) _ _ hP hD hS _ (lv_sub hl [1, 2, 0] rfl)
  exact cut4 (k + 1) k V L g ((nI k) - 1) (rfl) (rfl) (by omega) (ho) (by omega) (by omega) _ _ hP hD hS _ (lv_sub hl [1, 2, 0] rfl)

abbrev rm_X9_symbol : Room := { frames := 2, cells := 0, slots := 0, locals := 44 }
abbrev wo_X9_symbol (dC : Nat → ClassId) (dI : Nat → Nat → Nat) (cB cI cJ cM : ClassId) (h0 pp : Nat) (g : Nat → Int32) (V L : Nat) (sy : Nat) (m0 m4 m5 m6 m7 m8 m9 m10 m11 m12 m13 m14 m15 m16 m17 m18 m19 m20 m21 m22 m23 : Value) : va_W := [(h0, .inr (9, [m0, .ref pp, .int (nI ((L + 7) / 8)), .int (nI (L % 8)), m4, m5, m6, m7, m8, m9, m10, m11, m12, m13, m14, m15, m16, m17, m18, m19, m20, m21, m22, m23])), (pp, .inl (cB, 16384, .inl g))]
abbrev q_X9_symbol (dC : Nat → ClassId) (dI : Nat → Nat → Nat) (cB cI cJ cM : ClassId) (h0 pp : Nat) (g : Nat → Int32) (V L : Nat) (sy : Nat) (m0 m4 m5 m6 m7 m8 m9 m10 m11 m12 m13 m14 m15 m16 m17 m18 m19 m20 m21 m22 m23 : Value) (A : Nat → Prop) : Array Value → State → Outcome → State → Prop := va_Qv (fun (u : Nat → Int32) => zRo u (zsv V L sy) (L + zsl sy)) (zB dC dI cB cI cJ cM A (fun u : Nat → Int32 => [(h0, .inr (9, [m0, .ref pp, .int (nI (((L + zsl sy) + 7) / 8)), .int (nI ((L + zsl sy) % 8)), m4, m5, m6, m7, m8, m9, m10, m11, m12, m13, m14, m15, m16, m17, m18, m19, m20, m21, m22, m23])), (pp, .inl (cB, 16384, .inl u))])) A
set_option maxHeartbeats 8000000 in
set_option maxRecDepth 100000 in
/-- symbol -/
theorem k_X9_symbol (l : Launch) (dC : Nat → ClassId) (dI : Nat → Nat → Nat) (cB cI cJ cM : ClassId) (h0 pp : Nat) (g : Nat → Int32) (V L : Nat) (sy : Nat) (m0 m4 m5 m6 m7 m8 m9 m10 m11 m12 m13 m14 m15 m16 m17 m18 m19 m20 m21 m22 m23 : Value) (ho : zRo g V L) (hs : sy < 288) (hn : L + 9 < 130000) (sz : Nat) : Met l yX9_symbol wsX9_symbol rm_X9_symbol (va_Pc [.ref h0, .int (nI sy)] (fun U => U.heap.size = sz ∧ va_P (dC, dI) vwCl (wo_X9_symbol dC dI cB cI cJ cM h0 pp g V L sy m0 m4 m5 m6 m7 m8 m9 m10 m11 m12 m13 m14 m15 m16 m17 m18 m19 m20 m21 m22 m23) U.heap ∧ va_K (dC, dI) vwCl (zT cB cI cJ cM) U ∧ va_D (fun _ => True) (wo_X9_symbol dC dI cB cI cJ cM h0 pp g V L sy m0 m4 m5 m6 m7 m8 m9 m10 m11 m12 m13 m14 m15 m16 m17 m18 m19 m20 m21 m22 m23))) (q_X9_symbol dC dI cB cI cJ cM h0 pp g V L sy m0 m4 m5 m6 m7 m8 m9 m10 m11 m12 m13 m14 m15 m16 m17 m18 m19 m20 m21 m22 m23 (va_A (wo_X9_symbol dC dI cB cI cJ cM h0 pp g V L sy m0 m4 m5 m6 m7 m8 m9 m10 m11 m12 m13 m14 m15 m16 m17 m18 m19 m20 m21 m22 m23) sz)) 0 0 (va_A (wo_X9_symbol dC dI cB cI cJ cM h0 pp g V L sy m0 m4 m5 m6 m7 m8 m9 m10 m11 m12 m13 m14 m15 m16 m17 m18 m19 m20 m21 m22 m23) sz) := by
  refine Met.ofW (cc := cX9_symbol) (maxL := 2) (ret := none) (by decide) rfl ?_
  intro p e s m args below meth c s₁ B hml hv
  obtain ⟨rfl, hsz, hP, hK, hD0⟩ := hv
  have hx := B.exec
  have hb := B.bytes
  have hr := B.returns
  have hts := atoms_spec (ws := wsX9_symbol) B.pre
  have hown : s.vm.findClass RX9 = some m.cls := findClass_of_methodNamed B.named
  have hlocks := B.notSynchronized
  subst hsz
  have hD := hD0.self (sz := s.heap.size)
  generalize hAe : va_A (wo_X9_symbol dC dI cB cI cJ cM h0 pp g V L sy m0 m4 m5 m6 m7 m8 m9 m10 m11 m12 m13 m14 m15 m16 m17 m18 m19 m20 m21 m22 m23) s.heap.size = A at hD ⊢
  have hA : ∀ q : Nat, s.heap.size ≤ q → A q := fun q h => by rw [← hAe]; exact Or.inr h
  have hS : va_S A s.heap s.heap [] := va_S.rf
  have hP : va_P (dC, dI) vwCl [(h0, .inr (9, [m0, .ref pp, .int (nI ((L + 7) / 8)), .int (nI (L % 8)), m4, m5, m6, m7, m8, m9, m10, m11, m12, m13, m14, m15, m16, m17, m18, m19, m20, m21, m22, m23])), (pp, .inl (cB, 16384, .inl g))] s.heap := hP
  have hD : va_D A [(h0, .inr (9, [m0, .ref pp, .int (nI ((L + 7) / 8)), .int (nI (L % 8)), m4, m5, m6, m7, m8, m9, m10, m11, m12, m13, m14, m15, m16, m17, m18, m19, m20, m21, m22, m23])), (pp, .inl (cB, 16384, .inl g))] := hD
  have hl := lv_entry ([.ref h0, .int (nI sy)]) (n := 2) (Nat.le_of_ble_eq_true rfl)
  rw [lg_entry_eq]
  generalize (lg_sl ([.ref h0, .int (nI sy)]) ++ List.replicate (2 - (lg_sl ([.ref h0, .int (nI sy)])).length) Slot.unset).toArray = ls at hl ⊢
  have hl : lv_has ls 2 [(0, .ref h0), (1, .int (nI sy))] := hl
  refine lv_iload_n hx hb dX9_symbol_0 rfl (lv_at hl 1 rfl) ?_
  refine lv_sipush (v := 144) hx hb dX9_symbol_1 (by decide) ?_
  refine lv_icmp_ge (tgt := 20) hx hb dX9_symbol_4 (by decide) (fun c4 => ?_) (fun c4 => ?_)
  · have c4 : 144 ≤ sy := (nI_leI (a := 144) (b := sy) (by omega) (by omega)).mp c4
    refine lv_iload_n hx hb dX9_symbol_20 rfl (lv_at hl 1 rfl) ?_
    refine lv_sipush (v := 256) hx hb dX9_symbol_21 (by decide) ?_
    refine lv_icmp_ge (tgt := 45) hx hb dX9_symbol_24 (by decide) (fun c24 => ?_) (fun c24 => ?_)
    · have c24 : 256 ≤ sy := (nI_leI (a := 256) (b := sy) (by omega) (by omega)).mp c24
      refine lv_iload_n hx hb dX9_symbol_45 rfl (lv_at hl 1 rfl) ?_
      refine lv_sipush (v := 280) hx hb dX9_symbol_46 (by decide) ?_
      refine lv_icmp_ge (tgt := 66) hx hb dX9_symbol_49 (by decide) (fun c49 => ?_) (fun c49 => ?_)
      · have c49 : 280 ≤ sy := (nI_leI (a := 280) (b := sy) (by omega) (by omega)).mp c49
        refine lv_aload_n hx hb dX9_symbol_66 rfl (lv_at hl 0 rfl) ?_
        refine lv_sipush (v := 192) hx hb dX9_symbol_67 (by decide) ?_
        refine lv_iload_n hx hb dX9_symbol_70 rfl (lv_at hl 1 rfl) ?_
        refine lv_iadd hx hb dX9_symbol_71 ?_
        refine lv_topi (fun y_1 ey_1 => ?_)
        obtain rfl : y_1 = nI (192 + sy) := ey_1.trans (nI_add 192 sy)
        refine lv_sipush (v := 280) hx hb dX9_symbol_72 (by decide) ?_
        refine lv_isub hx hb dX9_symbol_75 ?_
        refine lv_topi (fun y_2 ey_2 => ?_)
        obtain rfl : y_2 = nI ((192 + sy) - 280) := ey_2.trans (pk_sub (a := (192 + sy)) (b := 280) (by omega))
        refine lv_bipush (v := 8) hx hb dX9_symbol_76 (by decide) ?_
        have hPc := hP.sub (ws' := [(h0, .inr (9, [m0, .ref pp, .int (nI ((L + 7) / 8)), .int (nI (L % 8)), m4, m5, m6, m7, m8, m9, m10, m11, m12, m13, m14, m15, m16, m17, m18, m19, m20, m21, m22, m23])), (pp, .inl (cB, 16384, .inl g))]) [0, 1] rfl
        have hDc := hD.sub (ws' := [(h0, .inr (9, [m0, .ref pp, .int (nI ((L + 7) / 8)), .int (nI (L % 8)), m4, m5, m6, m7, m8, m9, m10, m11, m12, m13, m14, m15, m16, m17, m18, m19, m20, m21, m22, m23])), (pp, .inl (cB, 16384, .inl g))]) [0, 1] (by decide) rfl
        have hFc := va_free (wc := [(h0, .inr (9, [m0, .ref pp, .int (nI ((L + 7) / 8)), .int (nI (L % 8)), m4, m5, m6, m7, m8, m9, m10, m11, m12, m13, m14, m15, m16, m17, m18, m19, m20, m21, m22, m23])), (pp, .inl (cB, 16384, .inl g))]) hD hS hA [0, 1] rfl
        refine va_callv (va_runV (As := [.int (nI ((192 + sy) - 280)), .int 8]) (rest := []) ⟨hx, hb, hml, hown, hts⟩ (k_X9_high l dC dI cB cI cJ cM h0 pp g V L (192 + sy - 280) 8 m0 m4 m5 m6 m7 m8 m9 m10 m11 m12 m13 m14 m15 m16 m17 m18 m19 m20 m21 m22 m23 (ho) (by omega) (by omega) (by omega) s.heap.size) (cwV 2 hts gX9_symbol_X9_high rfl rfl rfl (by decide +kernel) ⟨Nat.le_of_ble_eq_true rfl, Nat.le_of_ble_eq_true rfl⟩) ⟨fun a U g mk q => by obtain ⟨q0, q1, qP, qK, qD⟩ := q; exact ⟨q0, q1, qP, va_K.moved (u := U) (U := U.calling g mk a) (Vm.Alike.refl U.vm) qK, qD⟩, va_recv hK hPc (ci := 9) (q0 := 0) rfl rfl, fun U hU hW => ⟨rfl, by rw [hU], by rw [hU]; exact hPc, va_K.moved hW.alike hK, hDc.weaken (fun _ _ _ _ => trivial)⟩⟩ rfl rfl hl.1 rfl (lv_room (Nat.le_of_ble_eq_true rfl)) dX9_symbol_78 ⟨(show 0 + 0 ≤ 0 by omega), (show 0 + 0 ≤ 0 by omega)⟩) hS (fun q _ h => hFc q h) hFc (fun u t H1 locs ht hvm hw hB hz1 hk1 hS => ?_)
        obtain ⟨g9, rfl⟩ : ∃ z, z = u := ⟨_, rfl⟩
        have hP1 : va_P (dC, dI) vwCl [(h0, .inr (9, [m0, .ref pp, .int (nI (((L + 8) + 7) / 8)), .int (nI ((L + 8) % 8)), m4, m5, m6, m7, m8, m9, m10, m11, m12, m13, m14, m15, m16, m17, m18, m19, m20, m21, m22, m23])), (pp, .inl (cB, 16384, .inl g9))] H1 := by rw [← ht]; exact hB.1
        have hD1 : va_D (va_A [(h0, .inr (9, [m0, .ref pp, .int (nI ((L + 7) / 8)), .int (nI (L % 8)), m4, m5, m6, m7, m8, m9, m10, m11, m12, m13, m14, m15, m16, m17, m18, m19, m20, m21, m22, m23])), (pp, .inl (cB, 16384, .inl g))] s.heap.size) [(h0, .inr (9, [m0, .ref pp, .int (nI (((L + 8) + 7) / 8)), .int (nI ((L + 8) % 8)), m4, m5, m6, m7, m8, m9, m10, m11, m12, m13, m14, m15, m16, m17, m18, m19, m20, m21, m22, m23])), (pp, .inl (cB, 16384, .inl g9))] := hB.2.2
        obtain ⟨hP, hD⟩ := va_join (wr := []) (w1 := [(h0, .inr (9, [m0, .ref pp, .int (nI (((L + 8) + 7) / 8)), .int (nI ((L + 8) % 8)), m4, m5, m6, m7, m8, m9, m10, m11, m12, m13, m14, m15, m16, m17, m18, m19, m20, m21, m22, m23])), (pp, .inl (cB, 16384, .inl g9))]) hP hD [0, 1] [] rfl rfl (by decide) (by decide) hk1 hFc hP1 hD1
        generalize H1 = H at hP hS ⊢
        try dsimp only at hw
        have hP : va_P (dC, dI) vwCl [(h0, .inr (9, [m0, .ref pp, .int (nI (((L + 8) + 7) / 8)), .int (nI ((L + 8) % 8)), m4, m5, m6, m7, m8, m9, m10, m11, m12, m13, m14, m15, m16, m17, m18, m19, m20, m21, m22, m23])), (pp, .inl (cB, 16384, .inl g9))] H := hP
        have hD : va_D A [(h0, .inr (9, [m0, .ref pp, .int (nI (((L + 8) + 7) / 8)), .int (nI ((L + 8) % 8)), m4, m5, m6, m7, m8, m9, m10, m11, m12, m13, m14, m15, m16, m17, m18, m19, m20, m21, m22, m23])), (pp, .inl (cB, 16384, .inl g9))] := hD
        have hzs := zs_d (V := V) (L := L) (s := sy) (by omega) (by omega) (by omega)
        have hw9 : zRo g9 (zsv V L sy) (L + zsl sy) := by rw [hzs.1, hzs.2]; exact hw
        have hP : va_P (dC, dI) vwCl [(h0, .inr (9, [m0, .ref pp, .int (nI (((L + zsl sy) + 7) / 8)), .int (nI ((L + zsl sy) % 8)), m4, m5, m6, m7, m8, m9, m10, m11, m12, m13, m14, m15, m16, m17, m18, m19, m20, m21, m22, m23])), (pp, .inl (cB, 16384, .inl g9))] H := by rw [hzs.2]; exact hP
        have hD : va_D A [(h0, .inr (9, [m0, .ref pp, .int (nI (((L + zsl sy) + 7) / 8)), .int (nI ((L + zsl sy) % 8)), m4, m5, m6, m7, m8, m9, m10, m11, m12, m13, m14, m15, m16, m17, m18, m19, m20, m21, m22, m23])), (pp, .inl (cB, 16384, .inl g9))] := by rw [hzs.2]; exact hD
        refine W.eq (g2 := F0 m 81 ls []) rfl ?_
        have hP9 := hP.sub (ws' := [(h0, .inr (9, [m0, .ref pp, .int (nI (((L + zsl sy) + 7) / 8)), .int (nI ((L + zsl sy) % 8)), m4, m5, m6, m7, m8, m9, m10, m11, m12, m13, m14, m15, m16, m17, m18, m19, m20, m21, m22, m23])), (pp, .inl (cB, 16384, .inl g9))]) [0, 1] rfl
        have hD9 := hD.sub (ws' := [(h0, .inr (9, [m0, .ref pp, .int (nI (((L + zsl sy) + 7) / 8)), .int (nI ((L + zsl sy) % 8)), m4, m5, m6, m7, m8, m9, m10, m11, m12, m13, m14, m15, m16, m17, m18, m19, m20, m21, m22, m23])), (pp, .inl (cB, 16384, .inl g9))]) [0, 1] (by decide) rfl
        exact W.vret hx hb hr (fun t ht hW => ⟨⟨g9, rfl, hw9, ⟨by rw [ht]; exact hP9, va_K.moved hW.alike hK, hD9⟩⟩, hS.F ht⟩) hS.2.2 dX9_symbol_81
      · have c49 : ¬ (280 ≤ sy) := fun h => c49 ((nI_leI (a := 280) (b := sy) (by omega) (by omega)).mpr h)
        refine lv_aload_n hx hb dX9_symbol_52 rfl (lv_at hl 0 rfl) ?_
        refine lv_iload_n hx hb dX9_symbol_53 rfl (lv_at hl 1 rfl) ?_
        refine lv_sipush (v := 256) hx hb dX9_symbol_54 (by decide) ?_
        refine lv_isub hx hb dX9_symbol_57 ?_
        refine lv_topi (fun y_3 ey_3 => ?_)
        obtain rfl : y_3 = nI (sy - 256) := ey_3.trans (pk_sub (a := sy) (b := 256) (by omega))
        refine lv_bipush (v := 7) hx hb dX9_symbol_58 (by decide) ?_
        have hPc := hP.sub (ws' := [(h0, .inr (9, [m0, .ref pp, .int (nI ((L + 7) / 8)), .int (nI (L % 8)), m4, m5, m6, m7, m8, m9, m10, m11, m12, m13, m14, m15, m16, m17, m18, m19, m20, m21, m22, m23])), (pp, .inl (cB, 16384, .inl g))]) [0, 1] rfl
        have hDc := hD.sub (ws' := [(h0, .inr (9, [m0, .ref pp, .int (nI ((L + 7) / 8)), .int (nI (L % 8)), m4, m5, m6, m7, m8, m9, m10, m11, m12, m13, m14, m15, m16, m17, m18, m19, m20, m21, m22, m23])), (pp, .inl (cB, 16384, .inl g))]) [0, 1] (by decide) rfl
        have hFc := va_free (wc := [(h0, .inr (9, [m0, .ref pp, .int (nI ((L + 7) / 8)), .int (nI (L % 8)), m4, m5, m6, m7, m8, m9, m10, m11, m12, m13, m14, m15, m16, m17, m18, m19, m20, m21, m22, m23])), (pp, .inl (cB, 16384, .inl g))]) hD hS hA [0, 1] rfl
        refine va_callv (va_runV (As := [.int (nI (sy - 256)), .int 7]) (rest := []) ⟨hx, hb, hml, hown, hts⟩ (k_X9_high l dC dI cB cI cJ cM h0 pp g V L (sy - 256) 7 m0 m4 m5 m6 m7 m8 m9 m10 m11 m12 m13 m14 m15 m16 m17 m18 m19 m20 m21 m22 m23 (ho) (by omega) (by omega) (by omega) s.heap.size) (cwV 2 hts gX9_symbol_X9_high rfl rfl rfl (by decide +kernel) ⟨Nat.le_of_ble_eq_true rfl, Nat.le_of_ble_eq_true rfl⟩) ⟨fun a U g mk q => by obtain ⟨q0, q1, qP, qK, qD⟩ := q; exact ⟨q0, q1, qP, va_K.moved (u := U) (U := U.calling g mk a) (Vm.Alike.refl U.vm) qK, qD⟩, va_recv hK hPc (ci := 9) (q0 := 0) rfl rfl, fun U hU hW => ⟨rfl, by rw [hU], by rw [hU]; exact hPc, va_K.moved hW.alike hK, hDc.weaken (fun _ _ _ _ => trivial)⟩⟩ rfl rfl hl.1 rfl (lv_room (Nat.le_of_ble_eq_true rfl)) dX9_symbol_60 ⟨(show 0 + 0 ≤ 0 by omega), (show 0 + 0 ≤ 0 by omega)⟩) hS (fun q _ h => hFc q h) hFc (fun u t H1 locs ht hvm hw hB hz1 hk1 hS => ?_)
        obtain ⟨g9, rfl⟩ : ∃ z, z = u := ⟨_, rfl⟩
        have hP1 : va_P (dC, dI) vwCl [(h0, .inr (9, [m0, .ref pp, .int (nI (((L + 7) + 7) / 8)), .int (nI ((L + 7) % 8)), m4, m5, m6, m7, m8, m9, m10, m11, m12, m13, m14, m15, m16, m17, m18, m19, m20, m21, m22, m23])), (pp, .inl (cB, 16384, .inl g9))] H1 := by rw [← ht]; exact hB.1
        have hD1 : va_D (va_A [(h0, .inr (9, [m0, .ref pp, .int (nI ((L + 7) / 8)), .int (nI (L % 8)), m4, m5, m6, m7, m8, m9, m10, m11, m12, m13, m14, m15, m16, m17, m18, m19, m20, m21, m22, m23])), (pp, .inl (cB, 16384, .inl g))] s.heap.size) [(h0, .inr (9, [m0, .ref pp, .int (nI (((L + 7) + 7) / 8)), .int (nI ((L + 7) % 8)), m4, m5, m6, m7, m8, m9, m10, m11, m12, m13, m14, m15, m16, m17, m18, m19, m20, m21, m22, m23])), (pp, .inl (cB, 16384, .inl g9))] := hB.2.2
        obtain ⟨hP, hD⟩ := va_join (wr := []) (w1 := [(h0, .inr (9, [m0, .ref pp, .int (nI (((L + 7) + 7) / 8)), .int (nI ((L + 7) % 8)), m4, m5, m6, m7, m8, m9, m10, m11, m12, m13, m14, m15, m16, m17, m18, m19, m20, m21, m22, m23])), (pp, .inl (cB, 16384, .inl g9))]) hP hD [0, 1] [] rfl rfl (by decide) (by decide) hk1 hFc hP1 hD1
        generalize H1 = H at hP hS ⊢
        try dsimp only at hw
        have hP : va_P (dC, dI) vwCl [(h0, .inr (9, [m0, .ref pp, .int (nI (((L + 7) + 7) / 8)), .int (nI ((L + 7) % 8)), m4, m5, m6, m7, m8, m9, m10, m11, m12, m13, m14, m15, m16, m17, m18, m19, m20, m21, m22, m23])), (pp, .inl (cB, 16384, .inl g9))] H := hP
        have hD : va_D A [(h0, .inr (9, [m0, .ref pp, .int (nI (((L + 7) + 7) / 8)), .int (nI ((L + 7) % 8)), m4, m5, m6, m7, m8, m9, m10, m11, m12, m13, m14, m15, m16, m17, m18, m19, m20, m21, m22, m23])), (pp, .inl (cB, 16384, .inl g9))] := hD
        have hzs := zs_c (V := V) (L := L) (s := sy) (by omega) (by omega) (by omega)
        have hw9 : zRo g9 (zsv V L sy) (L + zsl sy) := by rw [hzs.1, hzs.2]; exact hw
        have hP : va_P (dC, dI) vwCl [(h0, .inr (9, [m0, .ref pp, .int (nI (((L + zsl sy) + 7) / 8)), .int (nI ((L + zsl sy) % 8)), m4, m5, m6, m7, m8, m9, m10, m11, m12, m13, m14, m15, m16, m17, m18, m19, m20, m21, m22, m23])), (pp, .inl (cB, 16384, .inl g9))] H := by rw [hzs.2]; exact hP
        have hD : va_D A [(h0, .inr (9, [m0, .ref pp, .int (nI (((L + zsl sy) + 7) / 8)), .int (nI ((L + zsl sy) % 8)), m4, m5, m6, m7, m8, m9, m10, m11, m12, m13, m14, m15, m16, m17, m18, m19, m20, m21, m22, m23])), (pp, .inl (cB, 16384, .inl g9))] := by rw [hzs.2]; exact hD
        refine W.eq (g2 := F0 m 63 ls []) rfl ?_
        refine lv_goto (tgt := 81) hx hb dX9_symbol_63 (by decide) ?_
        have hP9 := hP.sub (ws' := [(h0, .inr (9, [m0, .ref pp, .int (nI (((L + zsl sy) + 7) / 8)), .int (nI ((L + zsl sy) % 8)), m4, m5, m6, m7, m8, m9, m10, m11, m12, m13, m14, m15, m16, m17, m18, m19, m20, m21, m22, m23])), (pp, .inl (cB, 16384, .inl g9))]) [0, 1] rfl
        have hD9 := hD.sub (ws' := [(h0, .inr (9, [m0, .ref pp, .int (nI (((L + zsl sy) + 7) / 8)), .int (nI ((L + zsl sy) % 8)), m4, m5, m6, m7, m8, m9, m10, m11, m12, m13, m14, m15, m16, m17, m18, m19, m20, m21, m22, m23])), (pp, .inl (cB, 16384, .inl g9))]) [0, 1] (by decide) rfl
        exact W.vret hx hb hr (fun t ht hW => ⟨⟨g9, rfl, hw9, ⟨by rw [ht]; exact hP9, va_K.moved hW.alike hK, hD9⟩⟩, hS.F ht⟩) hS.2.2 dX9_symbol_81
    · have c24 : ¬ (256 ≤ sy) := fun h => c24 ((nI_leI (a := 256) (b := sy) (by omega) (by omega)).mpr h)
      refine lv_aload_n hx hb dX9_symbol_27 rfl (lv_at hl 0 rfl) ?_
      refine lv_sipush (v := 400) hx hb dX9_symbol_28 (by decide) ?_
      refine lv_iload_n hx hb dX9_symbol_31 rfl (lv_at hl 1 rfl) ?_
      refine lv_iadd hx hb dX9_symbol_32 ?_
      refine lv_topi (fun y_4 ey_4 => ?_)
      obtain rfl : y_4 = nI (400 + sy) := ey_4.trans (nI_add 400 sy)
      refine lv_sipush (v := 144) hx hb dX9_symbol_33 (by decide) ?_
      refine lv_isub hx hb dX9_symbol_36 ?_
      refine lv_topi (fun y_5 ey_5 => ?_)
      obtain rfl : y_5 = nI ((400 + sy) - 144) := ey_5.trans (pk_sub (a := (400 + sy)) (b := 144) (by omega))
      refine lv_bipush (v := 9) hx hb dX9_symbol_37 (by decide) ?_
      have hPc := hP.sub (ws' := [(h0, .inr (9, [m0, .ref pp, .int (nI ((L + 7) / 8)), .int (nI (L % 8)), m4, m5, m6, m7, m8, m9, m10, m11, m12, m13, m14, m15, m16, m17, m18, m19, m20, m21, m22, m23])), (pp, .inl (cB, 16384, .inl g))]) [0, 1] rfl
      have hDc := hD.sub (ws' := [(h0, .inr (9, [m0, .ref pp, .int (nI ((L + 7) / 8)), .int (nI (L % 8)), m4, m5, m6, m7, m8, m9, m10, m11, m12, m13, m14, m15, m16, m17, m18, m19, m20, m21, m22, m23])), (pp, .inl (cB, 16384, .inl g))]) [0, 1] (by decide) rfl
      have hFc := va_free (wc := [(h0, .inr (9, [m0, .ref pp, .int (nI ((L + 7) / 8)), .int (nI (L % 8)), m4, m5, m6, m7, m8, m9, m10, m11, m12, m13, m14, m15, m16, m17, m18, m19, m20, m21, m22, m23])), (pp, .inl (cB, 16384, .inl g))]) hD hS hA [0, 1] rfl
      refine va_callv (va_runV (As := [.int (nI ((400 + sy) - 144)), .int 9]) (rest := []) ⟨hx, hb, hml, hown, hts⟩ (k_X9_high l dC dI cB cI cJ cM h0 pp g V L (400 + sy - 144) 9 m0 m4 m5 m6 m7 m8 m9 m10 m11 m12 m13 m14 m15 m16 m17 m18 m19 m20 m21 m22 m23 (ho) (by omega) (by omega) (by omega) s.heap.size) (cwV 2 hts gX9_symbol_X9_high rfl rfl rfl (by decide +kernel) ⟨Nat.le_of_ble_eq_true rfl, Nat.le_of_ble_eq_true rfl⟩) ⟨fun a U g mk q => by obtain ⟨q0, q1, qP, qK, qD⟩ := q; exact ⟨q0, q1, qP, va_K.moved (u := U) (U := U.calling g mk a) (Vm.Alike.refl U.vm) qK, qD⟩, va_recv hK hPc (ci := 9) (q0 := 0) rfl rfl, fun U hU hW => ⟨rfl, by rw [hU], by rw [hU]; exact hPc, va_K.moved hW.alike hK, hDc.weaken (fun _ _ _ _ => trivial)⟩⟩ rfl rfl hl.1 rfl (lv_room (Nat.le_of_ble_eq_true rfl)) dX9_symbol_39 ⟨(show 0 + 0 ≤ 0 by omega), (show 0 + 0 ≤ 0 by omega)⟩) hS (fun q _ h => hFc q h) hFc (fun u t H1 locs ht hvm hw hB hz1 hk1 hS => ?_)
      obtain ⟨g9, rfl⟩ : ∃ z, z = u := ⟨_, rfl⟩
      have hP1 : va_P (dC, dI) vwCl [(h0, .inr (9, [m0, .ref pp, .int (nI (((L + 9) + 7) / 8)), .int (nI ((L + 9) % 8)), m4, m5, m6, m7, m8, m9, m10, m11, m12, m13, m14, m15, m16, m17, m18, m19, m20, m21, m22, m23])), (pp, .inl (cB, 16384, .inl g9))] H1 := by rw [← ht]; exact hB.1
      have hD1 : va_D (va_A [(h0, .inr (9, [m0, .ref pp, .int (nI ((L + 7) / 8)), .int (nI (L % 8)), m4, m5, m6, m7, m8, m9, m10, m11, m12, m13, m14, m15, m16, m17, m18, m19, m20, m21, m22, m23])), (pp, .inl (cB, 16384, .inl g))] s.heap.size) [(h0, .inr (9, [m0, .ref pp, .int (nI (((L + 9) + 7) / 8)), .int (nI ((L + 9) % 8)), m4, m5, m6, m7, m8, m9, m10, m11, m12, m13, m14, m15, m16, m17, m18, m19, m20, m21, m22, m23])), (pp, .inl (cB, 16384, .inl g9))] := hB.2.2
      obtain ⟨hP, hD⟩ := va_join (wr := []) (w1 := [(h0, .inr (9, [m0, .ref pp, .int (nI (((L + 9) + 7) / 8)), .int (nI ((L + 9) % 8)), m4, m5, m6, m7, m8, m9, m10, m11, m12, m13, m14, m15, m16, m17, m18, m19, m20, m21, m22, m23])), (pp, .inl (cB, 16384, .inl g9))]) hP hD [0, 1] [] rfl rfl (by decide) (by decide) hk1 hFc hP1 hD1
      generalize H1 = H at hP hS ⊢
      try dsimp only at hw
      have hP : va_P (dC, dI) vwCl [(h0, .inr (9, [m0, .ref pp, .int (nI (((L + 9) + 7) / 8)), .int (nI ((L + 9) % 8)), m4, m5, m6, m7, m8, m9, m10, m11, m12, m13, m14, m15, m16, m17, m18, m19, m20, m21, m22, m23])), (pp, .inl (cB, 16384, .inl g9))] H := hP
      have hD : va_D A [(h0, .inr (9, [m0, .ref pp, .int (nI (((L + 9) + 7) / 8)), .int (nI ((L + 9) % 8)), m4, m5, m6, m7, m8, m9, m10, m11, m12, m13, m14, m15, m16, m17, m18, m19, m20, m21, m22, m23])), (pp, .inl (cB, 16384, .inl g9))] := hD
      have hzs := zs_b (V := V) (L := L) (s := sy) (by omega) (by omega)
      have hw9 : zRo g9 (zsv V L sy) (L + zsl sy) := by rw [hzs.1, hzs.2]; exact hw
      have hP : va_P (dC, dI) vwCl [(h0, .inr (9, [m0, .ref pp, .int (nI (((L + zsl sy) + 7) / 8)), .int (nI ((L + zsl sy) % 8)), m4, m5, m6, m7, m8, m9, m10, m11, m12, m13, m14, m15, m16, m17, m18, m19, m20, m21, m22, m23])), (pp, .inl (cB, 16384, .inl g9))] H := by rw [hzs.2]; exact hP
      have hD : va_D A [(h0, .inr (9, [m0, .ref pp, .int (nI (((L + zsl sy) + 7) / 8)), .int (nI ((L + zsl sy) % 8)), m4, m5, m6, m7, m8, m9, m10, m11, m12, m13, m14, m15, m16, m17, m18, m19, m20, m21, m22, m23])), (pp, .inl (cB, 16384, .inl g9))] := by rw [hzs.2]; exact hD
      refine W.eq (g2 := F0 m 42 ls []) rfl ?_
      refine lv_goto (tgt := 81) hx hb dX9_symbol_42 (by decide) ?_
      have hP9 := hP.sub (ws' := [(h0, .inr (9, [m0, .ref pp, .int (nI (((L + zsl sy) + 7) / 8)), .int (nI ((L + zsl sy) % 8)), m4, m5, m6, m7, m8, m9, m10, m11, m12, m13, m14, m15, m16, m17, m18, m19, m20, m21, m22, m23])), (pp, .inl (cB, 16384, .inl g9))]) [0, 1] rfl
      have hD9 := hD.sub (ws' := [(h0, .inr (9, [m0, .ref pp, .int (nI (((L + zsl sy) + 7) / 8)), .int (nI ((L + zsl sy) % 8)), m4, m5, m6, m7, m8, m9, m10, m11, m12, m13, m14, m15, m16, m17, m18, m19, m20, m21, m22, m23])), (pp, .inl (cB, 16384, .inl g9))]) [0, 1] (by decide) rfl
      exact W.vret hx hb hr (fun t ht hW => ⟨⟨g9, rfl, hw9, ⟨by rw [ht]; exact hP9, va_K.moved hW.alike hK, hD9⟩⟩, hS.F ht⟩) hS.2.2 dX9_symbol_81
  · have c4 : ¬ (144 ≤ sy) := fun h => c4 ((nI_leI (a := 144) (b := sy) (by omega) (by omega)).mpr h)
    refine lv_aload_n hx hb dX9_symbol_7 rfl (lv_at hl 0 rfl) ?_
    refine lv_bipush (v := 48) hx hb dX9_symbol_8 (by decide) ?_
    refine lv_iload_n hx hb dX9_symbol_10 rfl (lv_at hl 1 rfl) ?_
    refine lv_iadd hx hb dX9_symbol_11 ?_
    refine lv_topi (fun y_6 ey_6 => ?_)
    obtain rfl : y_6 = nI (48 + sy) := ey_6.trans (nI_add 48 sy)
    refine lv_bipush (v := 8) hx hb dX9_symbol_12 (by decide) ?_
    have hPc := hP.sub (ws' := [(h0, .inr (9, [m0, .ref pp, .int (nI ((L + 7) / 8)), .int (nI (L % 8)), m4, m5, m6, m7, m8, m9, m10, m11, m12, m13, m14, m15, m16, m17, m18, m19, m20, m21, m22, m23])), (pp, .inl (cB, 16384, .inl g))]) [0, 1] rfl
    have hDc := hD.sub (ws' := [(h0, .inr (9, [m0, .ref pp, .int (nI ((L + 7) / 8)), .int (nI (L % 8)), m4, m5, m6, m7, m8, m9, m10, m11, m12, m13, m14, m15, m16, m17, m18, m19, m20, m21, m22, m23])), (pp, .inl (cB, 16384, .inl g))]) [0, 1] (by decide) rfl
    have hFc := va_free (wc := [(h0, .inr (9, [m0, .ref pp, .int (nI ((L + 7) / 8)), .int (nI (L % 8)), m4, m5, m6, m7, m8, m9, m10, m11, m12, m13, m14, m15, m16, m17, m18, m19, m20, m21, m22, m23])), (pp, .inl (cB, 16384, .inl g))]) hD hS hA [0, 1] rfl
    refine va_callv (va_runV (As := [.int (nI (48 + sy)), .int 8]) (rest := []) ⟨hx, hb, hml, hown, hts⟩ (k_X9_high l dC dI cB cI cJ cM h0 pp g V L (48 + sy) 8 m0 m4 m5 m6 m7 m8 m9 m10 m11 m12 m13 m14 m15 m16 m17 m18 m19 m20 m21 m22 m23 (ho) (by omega) (by omega) (by omega) s.heap.size) (cwV 2 hts gX9_symbol_X9_high rfl rfl rfl (by decide +kernel) ⟨Nat.le_of_ble_eq_true rfl, Nat.le_of_ble_eq_true rfl⟩) ⟨fun a U g mk q => by obtain ⟨q0, q1, qP, qK, qD⟩ := q; exact ⟨q0, q1, qP, va_K.moved (u := U) (U := U.calling g mk a) (Vm.Alike.refl U.vm) qK, qD⟩, va_recv hK hPc (ci := 9) (q0 := 0) rfl rfl, fun U hU hW => ⟨rfl, by rw [hU], by rw [hU]; exact hPc, va_K.moved hW.alike hK, hDc.weaken (fun _ _ _ _ => trivial)⟩⟩ rfl rfl hl.1 rfl (lv_room (Nat.le_of_ble_eq_true rfl)) dX9_symbol_14 ⟨(show 0 + 0 ≤ 0 by omega), (show 0 + 0 ≤ 0 by omega)⟩) hS (fun q _ h => hFc q h) hFc (fun u t H1 locs ht hvm hw hB hz1 hk1 hS => ?_)
    obtain ⟨g9, rfl⟩ : ∃ z, z = u := ⟨_, rfl⟩
    have hP1 : va_P (dC, dI) vwCl [(h0, .inr (9, [m0, .ref pp, .int (nI (((L + 8) + 7) / 8)), .int (nI ((L + 8) % 8)), m4, m5, m6, m7, m8, m9, m10, m11, m12, m13, m14, m15, m16, m17, m18, m19, m20, m21, m22, m23])), (pp, .inl (cB, 16384, .inl g9))] H1 := by rw [← ht]; exact hB.1
    have hD1 : va_D (va_A [(h0, .inr (9, [m0, .ref pp, .int (nI ((L + 7) / 8)), .int (nI (L % 8)), m4, m5, m6, m7, m8, m9, m10, m11, m12, m13, m14, m15, m16, m17, m18, m19, m20, m21, m22, m23])), (pp, .inl (cB, 16384, .inl g))] s.heap.size) [(h0, .inr (9, [m0, .ref pp, .int (nI (((L + 8) + 7) / 8)), .int (nI ((L + 8) % 8)), m4, m5, m6, m7, m8, m9, m10, m11, m12, m13, m14, m15, m16, m17, m18, m19, m20, m21, m22, m23])), (pp, .inl (cB, 16384, .inl g9))] := hB.2.2
    obtain ⟨hP, hD⟩ := va_join (wr := []) (w1 := [(h0, .inr (9, [m0, .ref pp, .int (nI (((L + 8) + 7) / 8)), .int (nI ((L + 8) % 8)), m4, m5, m6, m7, m8, m9, m10, m11, m12, m13, m14, m15, m16, m17, m18, m19, m20, m21, m22, m23])), (pp, .inl (cB, 16384, .inl g9))]) hP hD [0, 1] [] rfl rfl (by decide) (by decide) hk1 hFc hP1 hD1
    generalize H1 = H at hP hS ⊢
    try dsimp only at hw
    have hP : va_P (dC, dI) vwCl [(h0, .inr (9, [m0, .ref pp, .int (nI (((L + 8) + 7) / 8)), .int (nI ((L + 8) % 8)), m4, m5, m6, m7, m8, m9, m10, m11, m12, m13, m14, m15, m16, m17, m18, m19, m20, m21, m22, m23])), (pp, .inl (cB, 16384, .inl g9))] H := hP
    have hD : va_D A [(h0, .inr (9, [m0, .ref pp, .int (nI (((L + 8) + 7) / 8)), .int (nI ((L + 8) % 8)), m4, m5, m6, m7, m8, m9, m10, m11, m12, m13, m14, m15, m16, m17, m18, m19, m20, m21, m22, m23])), (pp, .inl (cB, 16384, .inl g9))] := hD
    have hzs := zs_a (V := V) (L := L) (s := sy) (by omega)
    have hw9 : zRo g9 (zsv V L sy) (L + zsl sy) := by rw [hzs.1, hzs.2]; exact hw
    have hP : va_P (dC, dI) vwCl [(h0, .inr (9, [m0, .ref pp, .int (nI (((L + zsl sy) + 7) / 8)), .int (nI ((L + zsl sy) % 8)), m4, m5, m6, m7, m8, m9, m10, m11, m12, m13, m14, m15, m16, m17, m18, m19, m20, m21, m22, m23])), (pp, .inl (cB, 16384, .inl g9))] H := by rw [hzs.2]; exact hP
    have hD : va_D A [(h0, .inr (9, [m0, .ref pp, .int (nI (((L + zsl sy) + 7) / 8)), .int (nI ((L + zsl sy) % 8)), m4, m5, m6, m7, m8, m9, m10, m11, m12, m13, m14, m15, m16, m17, m18, m19, m20, m21, m22, m23])), (pp, .inl (cB, 16384, .inl g9))] := by rw [hzs.2]; exact hD
    refine W.eq (g2 := F0 m 17 ls []) rfl ?_
    refine lv_goto (tgt := 81) hx hb dX9_symbol_17 (by decide) ?_
    have hP9 := hP.sub (ws' := [(h0, .inr (9, [m0, .ref pp, .int (nI (((L + zsl sy) + 7) / 8)), .int (nI ((L + zsl sy) % 8)), m4, m5, m6, m7, m8, m9, m10, m11, m12, m13, m14, m15, m16, m17, m18, m19, m20, m21, m22, m23])), (pp, .inl (cB, 16384, .inl g9))]) [0, 1] rfl
    have hD9 := hD.sub (ws' := [(h0, .inr (9, [m0, .ref pp, .int (nI (((L + zsl sy) + 7) / 8)), .int (nI ((L + zsl sy) % 8)), m4, m5, m6, m7, m8, m9, m10, m11, m12, m13, m14, m15, m16, m17, m18, m19, m20, m21, m22, m23])), (pp, .inl (cB, 16384, .inl g9))]) [0, 1] (by decide) rfl
    exact W.vret hx hb hr (fun t ht hW => ⟨⟨g9, rfl, hw9, ⟨by rw [ht]; exact hP9, va_K.moved hW.alike hK, hD9⟩⟩, hS.F ht⟩) hS.2.2 dX9_symbol_81

abbrev rm_X9_lengthBits : Room := { frames := 0, cells := 0, slots := 0, locals := 0 }
abbrev wo_X9_lengthBits (dC : Nat → ClassId) (dI : Nat → Nat → Nat) (cB cI cJ cM : ClassId) (k : Nat) : va_W := []
abbrev q_X9_lengthBits (dC : Nat → ClassId) (dI : Nat → Nat → Nat) (cB cI cJ cM : ClassId) (k : Nat) (A : Nat → Prop) : Array Value → State → Outcome → State → Prop := va_Qi (fun (r : Int32) (u : Unit) => r = nI (tn_LENGTH_EXTRA k)) (zB dC dI cB cI cJ cM A (fun u : Unit => [])) A
set_option maxHeartbeats 8000000 in
set_option maxRecDepth 100000 in
theorem k_X9_lengthBits (l : Launch) (dC : Nat → ClassId) (dI : Nat → Nat → Nat) (cB cI cJ cM : ClassId) (k : Nat) (h1 : k < 29) (sz : Nat) : Met l yX9_lengthBits wsX9_lengthBits rm_X9_lengthBits (va_Pc [.int (nI k)] (fun U => U.heap.size = sz ∧ va_P (dC, dI) vwCl (wo_X9_lengthBits dC dI cB cI cJ cM k) U.heap ∧ va_K (dC, dI) vwCl (zT cB cI cJ cM) U ∧ va_D (fun _ => True) (wo_X9_lengthBits dC dI cB cI cJ cM k))) (q_X9_lengthBits dC dI cB cI cJ cM k (va_A (wo_X9_lengthBits dC dI cB cI cJ cM k) sz)) 0 0 (va_A (wo_X9_lengthBits dC dI cB cI cJ cM k) sz) := by
  refine Met.ofW (cc := cX9_lengthBits) (maxL := 1) (ret := (some .int)) (by decide) rfl ?_
  intro p e s m args below meth c s₁ B hml hv
  obtain ⟨rfl, hsz, hP, hK, hD0⟩ := hv
  have hx := B.exec
  have hb := B.bytes
  have hr := B.returns
  have hts := atoms_spec (ws := wsX9_lengthBits) B.pre
  have hown : s.vm.findClass RX9 = some m.cls := findClass_of_methodNamed B.named
  have hlocks := B.notSynchronized
  subst hsz
  have hD := hD0.self (sz := s.heap.size)
  generalize hAe : va_A (wo_X9_lengthBits dC dI cB cI cJ cM k) s.heap.size = A at hD ⊢
  have hA : ∀ q : Nat, s.heap.size ≤ q → A q := fun q h => by rw [← hAe]; exact Or.inr h
  have hS : va_S A s.heap s.heap [] := va_S.rf
  have hP : va_P (dC, dI) vwCl [] s.heap := hP
  have hD : va_D A [] := hD
  have hl := lv_entry ([.int (nI k)]) (n := 1) (Nat.le_of_ble_eq_true rfl)
  rw [lg_entry_eq]
  generalize (lg_sl ([.int (nI k)]) ++ List.replicate (1 - (lg_sl ([.int (nI k)])).length) Slot.unset).toArray = ls at hl ⊢
  have hl : lv_has ls 1 [(0, .int (nI k))] := hl
  refine lv_iload_n hx hb dX9_lengthBits_0 rfl (lv_at hl 0 rfl) ?_
  refine lv_bipush (v := 8) hx hb dX9_lengthBits_1 (by decide) ?_
  refine lv_icmp_lt (tgt := 12) hx hb dX9_lengthBits_3 (by decide) (fun c3 => ?_) (fun c3 => ?_)
  · have c3 : k < 8 := (nI_ltI (a := k) (b := 8) (by omega) (by omega)).mp c3
    refine lv_iconst (v := 0) hx hb dX9_lengthBits_12 (by decide) ?_
    refine lv_goto (tgt := 21) hx hb dX9_lengthBits_13 (by decide) ?_
    have hP9 := hP.sub (ws' := []) [] rfl
    have hD9 := hD.sub (ws' := []) [] (by decide) rfl
    exact W.iret (v := 0) hx hb hr (fun t ht hW => ⟨⟨0, (), rfl, by rw [z_q1 k h1 (by omega)]; rfl, ⟨by rw [ht]; exact hP9, va_K.moved hW.alike hK, hD9⟩⟩, hS.F ht⟩) hS.2.2 dX9_lengthBits_21
  · have c3 : ¬ (k < 8) := fun h => c3 ((nI_ltI (a := k) (b := 8) (by omega) (by omega)).mpr h)
    refine lv_iload_n hx hb dX9_lengthBits_6 rfl (lv_at hl 0 rfl) ?_
    refine lv_bipush (v := 28) hx hb dX9_lengthBits_7 (by decide) ?_
    refine lv_icmp_ne (tgt := 16) hx hb dX9_lengthBits_9 (by decide) (fun c9 => ?_) (fun c9 => ?_)
    · have c9 : ¬ (k = 28) := fun h => c9 ((nI_eq (a := k) (b := 28) (by omega) (by omega)).mpr h)
      refine lv_iload_n hx hb dX9_lengthBits_16 rfl (lv_at hl 0 rfl) ?_
      refine lv_iconst (v := 4) hx hb dX9_lengthBits_17 (by decide) ?_
      refine lv_idiv hx hb dX9_lengthBits_18 (by decide) ?_
      refine lv_topi (fun y_1 ey_1 => ?_)
      obtain rfl : y_1 = nI (k / 4) := ey_1.trans (pk_div (a := k) (d := 4) (by omega) (by omega) (by omega))
      refine lv_iconst (v := 1) hx hb dX9_lengthBits_19 (by decide) ?_
      refine lv_isub hx hb dX9_lengthBits_20 ?_
      refine lv_topi (fun y_2 ey_2 => ?_)
      obtain rfl : y_2 = nI ((k / 4) - 1) := ey_2.trans (pk_sub (a := (k / 4)) (b := 1) (by omega))
      have hP9 := hP.sub (ws' := []) [] rfl
      have hD9 := hD.sub (ws' := []) [] (by decide) rfl
      exact W.iret (v := (nI ((k / 4) - 1))) hx hb hr (fun t ht hW => ⟨⟨(nI ((k / 4) - 1)), (), rfl, by rw [z_q2 k h1 (by omega) (by omega)], ⟨by rw [ht]; exact hP9, va_K.moved hW.alike hK, hD9⟩⟩, hS.F ht⟩) hS.2.2 dX9_lengthBits_21
    · have c9 : k = 28 := (nI_eq (a := k) (b := 28) (by omega) (by omega)).mp c9
      refine lv_iconst (v := 0) hx hb dX9_lengthBits_12 (by decide) ?_
      refine lv_goto (tgt := 21) hx hb dX9_lengthBits_13 (by decide) ?_
      have hP9 := hP.sub (ws' := []) [] rfl
      have hD9 := hD.sub (ws' := []) [] (by decide) rfl
      exact W.iret (v := 0) hx hb hr (fun t ht hW => ⟨⟨0, (), rfl, by rw [z_q1 k h1 (by omega)]; rfl, ⟨by rw [ht]; exact hP9, va_K.moved hW.alike hK, hD9⟩⟩, hS.F ht⟩) hS.2.2 dX9_lengthBits_21

abbrev rm_X9_lengthOf : Room := { frames := 0, cells := 0, slots := 0, locals := 0 }
abbrev wo_X9_lengthOf (dC : Nat → ClassId) (dI : Nat → Nat → Nat) (cB cI cJ cM : ClassId) (k : Nat) : va_W := []
abbrev q_X9_lengthOf (dC : Nat → ClassId) (dI : Nat → Nat → Nat) (cB cI cJ cM : ClassId) (k : Nat) (A : Nat → Prop) : Array Value → State → Outcome → State → Prop := va_Qi (fun (r : Int32) (u : Unit) => r = nI (tn_LENGTH_BASE k)) (zB dC dI cB cI cJ cM A (fun u : Unit => [])) A
set_option maxHeartbeats 8000000 in
set_option maxRecDepth 100000 in
theorem k_X9_lengthOf (l : Launch) (dC : Nat → ClassId) (dI : Nat → Nat → Nat) (cB cI cJ cM : ClassId) (k : Nat) (h1 : k < 29) (sz : Nat) : Met l yX9_lengthOf wsX9_lengthOf rm_X9_lengthOf (va_Pc [.int (nI k)] (fun U => U.heap.size = sz ∧ va_P (dC, dI) vwCl (wo_X9_lengthOf dC dI cB cI cJ cM k) U.heap ∧ va_K (dC, dI) vwCl (zT cB cI cJ cM) U ∧ va_D (fun _ => True) (wo_X9_lengthOf dC dI cB cI cJ cM k))) (q_X9_lengthOf dC dI cB cI cJ cM k (va_A (wo_X9_lengthOf dC dI cB cI cJ cM k) sz)) 0 0 (va_A (wo_X9_lengthOf dC dI cB cI cJ cM k) sz) := by
  refine Met.ofW (cc := cX9_lengthOf) (maxL := 1) (ret := (some .int)) (by decide) rfl ?_
  intro p e s m args below meth c s₁ B hml hv
  obtain ⟨rfl, hsz, hP, hK, hD0⟩ := hv
  have hx := B.exec
  have hb := B.bytes
  have hr := B.returns
  have hts := atoms_spec (ws := wsX9_lengthOf) B.pre
  have hown : s.vm.findClass RX9 = some m.cls := findClass_of_methodNamed B.named
  have hlocks := B.notSynchronized
  subst hsz
  have hD := hD0.self (sz := s.heap.size)
  generalize hAe : va_A (wo_X9_lengthOf dC dI cB cI cJ cM k) s.heap.size = A at hD ⊢
  have hA : ∀ q : Nat, s.heap.size ≤ q → A q := fun q h => by rw [← hAe]; exact Or.inr h
  have hS : va_S A s.heap s.heap [] := va_S.rf
  have hP : va_P (dC, dI) vwCl [] s.heap := hP
  have hD : va_D A [] := hD
  have hl := lv_entry ([.int (nI k)]) (n := 1) (Nat.le_of_ble_eq_true rfl)
  rw [lg_entry_eq]
  generalize (lg_sl ([.int (nI k)]) ++ List.replicate (1 - (lg_sl ([.int (nI k)])).length) Slot.unset).toArray = ls at hl ⊢
  have hl : lv_has ls 1 [(0, .int (nI k))] := hl
  refine lv_iload_n hx hb dX9_lengthOf_0 rfl (lv_at hl 0 rfl) ?_
  refine lv_bipush (v := 8) hx hb dX9_lengthOf_1 (by decide) ?_
  refine lv_icmp_ge (tgt := 12) hx hb dX9_lengthOf_3 (by decide) (fun c3 => ?_) (fun c3 => ?_)
  · have c3 : 8 ≤ k := (nI_leI (a := 8) (b := k) (by omega) (by omega)).mp c3
    refine lv_iload_n hx hb dX9_lengthOf_12 rfl (lv_at hl 0 rfl) ?_
    refine lv_bipush (v := 28) hx hb dX9_lengthOf_13 (by decide) ?_
    refine lv_icmp_ne (tgt := 24) hx hb dX9_lengthOf_15 (by decide) (fun c15 => ?_) (fun c15 => ?_)
    · have c15 : ¬ (k = 28) := fun h => c15 ((nI_eq (a := k) (b := 28) (by omega) (by omega)).mpr h)
      refine lv_iconst (v := 3) hx hb dX9_lengthOf_24 (by decide) ?_
      refine lv_iconst (v := 4) hx hb dX9_lengthOf_25 (by decide) ?_
      refine lv_iload_n hx hb dX9_lengthOf_26 rfl (lv_at hl 0 rfl) ?_
      refine lv_iconst (v := 4) hx hb dX9_lengthOf_27 (by decide) ?_
      refine lv_irem hx hb dX9_lengthOf_28 (by decide) ?_
      refine lv_topi (fun y_1 ey_1 => ?_)
      obtain rfl : y_1 = nI (k % 4) := ey_1.trans (pk_rem (a := k) (d := 4) (by omega) (by omega) (by omega))
      refine lv_iadd hx hb dX9_lengthOf_29 ?_
      refine lv_topi (fun y_2 ey_2 => ?_)
      obtain rfl : y_2 = nI (4 + (k % 4)) := ey_2.trans (nI_add 4 (k % 4))
      refine lv_iload_n hx hb dX9_lengthOf_30 rfl (lv_at hl 0 rfl) ?_
      refine lv_iconst (v := 4) hx hb dX9_lengthOf_31 (by decide) ?_
      refine lv_idiv hx hb dX9_lengthOf_32 (by decide) ?_
      refine lv_topi (fun y_3 ey_3 => ?_)
      obtain rfl : y_3 = nI (k / 4) := ey_3.trans (pk_div (a := k) (d := 4) (by omega) (by omega) (by omega))
      refine lv_iconst (v := 1) hx hb dX9_lengthOf_33 (by decide) ?_
      refine lv_isub hx hb dX9_lengthOf_34 ?_
      refine lv_topi (fun y_4 ey_4 => ?_)
      obtain rfl : y_4 = nI ((k / 4) - 1) := ey_4.trans (pk_sub (a := (k / 4)) (b := 1) (by omega))
      refine lv_ishl hx hb dX9_lengthOf_35 ?_
      have hq4 := z_q4 k h1 (by omega) (by omega)
      refine lv_topi (fun y_5 ey_5 => ?_)
      obtain rfl : y_5 = nI ((4 + k % 4) * 2 ^ (k / 4 - 1)) := ey_5.trans (z_shl (b := 4 + k % 4) (i := k / 4 - 1) (by omega) (by omega))
      refine lv_iadd hx hb dX9_lengthOf_36 ?_
      refine lv_topi (fun y_6 ey_6 => ?_)
      obtain rfl : y_6 = nI (3 + ((4 + k % 4) * 2 ^ (k / 4 - 1))) := ey_6.trans (nI_add 3 ((4 + k % 4) * 2 ^ (k / 4 - 1)))
      have hP9 := hP.sub (ws' := []) [] rfl
      have hD9 := hD.sub (ws' := []) [] (by decide) rfl
      exact W.iret (v := (nI (3 + ((4 + k % 4) * 2 ^ (k / 4 - 1))))) hx hb hr (fun t ht hW => ⟨⟨(nI (3 + ((4 + k % 4) * 2 ^ (k / 4 - 1)))), (), rfl, by rw [hq4.1], ⟨by rw [ht]; exact hP9, va_K.moved hW.alike hK, hD9⟩⟩, hS.F ht⟩) hS.2.2 dX9_lengthOf_37
    · have c15 : k = 28 := (nI_eq (a := k) (b := 28) (by omega) (by omega)).mp c15
      refine lv_sipush (v := 258) hx hb dX9_lengthOf_18 (by decide) ?_
      refine lv_goto (tgt := 37) hx hb dX9_lengthOf_21 (by decide) ?_
      have hP9 := hP.sub (ws' := []) [] rfl
      have hD9 := hD.sub (ws' := []) [] (by decide) rfl
      exact W.iret (v := 258) hx hb hr (fun t ht hW => ⟨⟨258, (), rfl, by rw [show k = 28 from by omega]; decide, ⟨by rw [ht]; exact hP9, va_K.moved hW.alike hK, hD9⟩⟩, hS.F ht⟩) hS.2.2 dX9_lengthOf_37
  · have c3 : ¬ (8 ≤ k) := fun h => c3 ((nI_leI (a := 8) (b := k) (by omega) (by omega)).mpr h)
    refine lv_iconst (v := 3) hx hb dX9_lengthOf_6 (by decide) ?_
    refine lv_iload_n hx hb dX9_lengthOf_7 rfl (lv_at hl 0 rfl) ?_
    refine lv_iadd hx hb dX9_lengthOf_8 ?_
    refine lv_topi (fun y_7 ey_7 => ?_)
    obtain rfl : y_7 = nI (3 + k) := ey_7.trans (nI_add 3 k)
    refine lv_goto (tgt := 37) hx hb dX9_lengthOf_9 (by decide) ?_
    have hP9 := hP.sub (ws' := []) [] rfl
    have hD9 := hD.sub (ws' := []) [] (by decide) rfl
    exact W.iret (v := (nI (3 + k))) hx hb hr (fun t ht hW => ⟨⟨(nI (3 + k)), (), rfl, by rw [z_q3 k (by omega)], ⟨by rw [ht]; exact hP9, va_K.moved hW.alike hK, hD9⟩⟩, hS.F ht⟩) hS.2.2 dX9_lengthOf_37

abbrev rm_X9_wayBits : Room := { frames := 0, cells := 0, slots := 0, locals := 0 }
abbrev wo_X9_wayBits (dC : Nat → ClassId) (dI : Nat → Nat → Nat) (cB cI cJ cM : ClassId) (k : Nat) : va_W := []
abbrev q_X9_wayBits (dC : Nat → ClassId) (dI : Nat → Nat → Nat) (cB cI cJ cM : ClassId) (k : Nat) (A : Nat → Prop) : Array Value → State → Outcome → State → Prop := va_Qi (fun (r : Int32) (u : Unit) => r = nI (tn_DISTANCE_EXTRA k)) (zB dC dI cB cI cJ cM A (fun u : Unit => [])) A
set_option maxHeartbeats 8000000 in
set_option maxRecDepth 100000 in
theorem k_X9_wayBits (l : Launch) (dC : Nat → ClassId) (dI : Nat → Nat → Nat) (cB cI cJ cM : ClassId) (k : Nat) (h1 : k < 30) (sz : Nat) : Met l yX9_wayBits wsX9_wayBits rm_X9_wayBits (va_Pc [.int (nI k)] (fun U => U.heap.size = sz ∧ va_P (dC, dI) vwCl (wo_X9_wayBits dC dI cB cI cJ cM k) U.heap ∧ va_K (dC, dI) vwCl (zT cB cI cJ cM) U ∧ va_D (fun _ => True) (wo_X9_wayBits dC dI cB cI cJ cM k))) (q_X9_wayBits dC dI cB cI cJ cM k (va_A (wo_X9_wayBits dC dI cB cI cJ cM k) sz)) 0 0 (va_A (wo_X9_wayBits dC dI cB cI cJ cM k) sz) := by
  refine Met.ofW (cc := cX9_wayBits) (maxL := 1) (ret := (some .int)) (by decide) rfl ?_
  intro p e s m args below meth c s₁ B hml hv
  obtain ⟨rfl, hsz, hP, hK, hD0⟩ := hv
  have hx := B.exec
  have hb := B.bytes
  have hr := B.returns
  have hts := atoms_spec (ws := wsX9_wayBits) B.pre
  have hown : s.vm.findClass RX9 = some m.cls := findClass_of_methodNamed B.named
  have hlocks := B.notSynchronized
  subst hsz
  have hD := hD0.self (sz := s.heap.size)
  generalize hAe : va_A (wo_X9_wayBits dC dI cB cI cJ cM k) s.heap.size = A at hD ⊢
  have hA : ∀ q : Nat, s.heap.size ≤ q → A q := fun q h => by rw [← hAe]; exact Or.inr h
  have hS : va_S A s.heap s.heap [] := va_S.rf
  have hP : va_P (dC, dI) vwCl [] s.heap := hP
  have hD : va_D A [] := hD
  have hl := lv_entry ([.int (nI k)]) (n := 1) (Nat.le_of_ble_eq_true rfl)
  rw [lg_entry_eq]
  generalize (lg_sl ([.int (nI k)]) ++ List.replicate (1 - (lg_sl ([.int (nI k)])).length) Slot.unset).toArray = ls at hl ⊢
  have hl : lv_has ls 1 [(0, .int (nI k))] := hl
  refine lv_iload_n hx hb dX9_wayBits_0 rfl (lv_at hl 0 rfl) ?_
  refine lv_iconst (v := 4) hx hb dX9_wayBits_1 (by decide) ?_
  refine lv_icmp_ge (tgt := 9) hx hb dX9_wayBits_2 (by decide) (fun c2 => ?_) (fun c2 => ?_)
  · have c2 : 4 ≤ k := (nI_leI (a := 4) (b := k) (by omega) (by omega)).mp c2
    refine lv_iload_n hx hb dX9_wayBits_9 rfl (lv_at hl 0 rfl) ?_
    refine lv_iconst (v := 2) hx hb dX9_wayBits_10 (by decide) ?_
    refine lv_idiv hx hb dX9_wayBits_11 (by decide) ?_
    refine lv_topi (fun y_1 ey_1 => ?_)
    obtain rfl : y_1 = nI (k / 2) := ey_1.trans (pk_div (a := k) (d := 2) (by omega) (by omega) (by omega))
    refine lv_iconst (v := 1) hx hb dX9_wayBits_12 (by decide) ?_
    refine lv_isub hx hb dX9_wayBits_13 ?_
    refine lv_topi (fun y_2 ey_2 => ?_)
    obtain rfl : y_2 = nI ((k / 2) - 1) := ey_2.trans (pk_sub (a := (k / 2)) (b := 1) (by omega))
    have hP9 := hP.sub (ws' := []) [] rfl
    have hD9 := hD.sub (ws' := []) [] (by decide) rfl
    exact W.iret (v := (nI ((k / 2) - 1))) hx hb hr (fun t ht hW => ⟨⟨(nI ((k / 2) - 1)), (), rfl, by rw [z_q6 k h1 (by omega)], ⟨by rw [ht]; exact hP9, va_K.moved hW.alike hK, hD9⟩⟩, hS.F ht⟩) hS.2.2 dX9_wayBits_14
  · have c2 : ¬ (4 ≤ k) := fun h => c2 ((nI_leI (a := 4) (b := k) (by omega) (by omega)).mpr h)
    refine lv_iconst (v := 0) hx hb dX9_wayBits_5 (by decide) ?_
    refine lv_goto (tgt := 14) hx hb dX9_wayBits_6 (by decide) ?_
    have hP9 := hP.sub (ws' := []) [] rfl
    have hD9 := hD.sub (ws' := []) [] (by decide) rfl
    exact W.iret (v := 0) hx hb hr (fun t ht hW => ⟨⟨0, (), rfl, by rw [z_q5 k (by omega)]; rfl, ⟨by rw [ht]; exact hP9, va_K.moved hW.alike hK, hD9⟩⟩, hS.F ht⟩) hS.2.2 dX9_wayBits_14

abbrev rm_X9_wayOf : Room := { frames := 0, cells := 0, slots := 0, locals := 0 }
abbrev wo_X9_wayOf (dC : Nat → ClassId) (dI : Nat → Nat → Nat) (cB cI cJ cM : ClassId) (k : Nat) : va_W := []
abbrev q_X9_wayOf (dC : Nat → ClassId) (dI : Nat → Nat → Nat) (cB cI cJ cM : ClassId) (k : Nat) (A : Nat → Prop) : Array Value → State → Outcome → State → Prop := va_Qi (fun (r : Int32) (u : Unit) => r = nI (tn_DISTANCE_BASE k)) (zB dC dI cB cI cJ cM A (fun u : Unit => [])) A
set_option maxHeartbeats 8000000 in
set_option maxRecDepth 100000 in
theorem k_X9_wayOf (l : Launch) (dC : Nat → ClassId) (dI : Nat → Nat → Nat) (cB cI cJ cM : ClassId) (k : Nat) (h1 : k < 30) (sz : Nat) : Met l yX9_wayOf wsX9_wayOf rm_X9_wayOf (va_Pc [.int (nI k)] (fun U => U.heap.size = sz ∧ va_P (dC, dI) vwCl (wo_X9_wayOf dC dI cB cI cJ cM k) U.heap ∧ va_K (dC, dI) vwCl (zT cB cI cJ cM) U ∧ va_D (fun _ => True) (wo_X9_wayOf dC dI cB cI cJ cM k))) (q_X9_wayOf dC dI cB cI cJ cM k (va_A (wo_X9_wayOf dC dI cB cI cJ cM k) sz)) 0 0 (va_A (wo_X9_wayOf dC dI cB cI cJ cM k) sz) := by
  refine Met.ofW (cc := cX9_wayOf) (maxL := 1) (ret := (some .int)) (by decide) rfl ?_
  intro p e s m args below meth c s₁ B hml hv
  obtain ⟨rfl, hsz, hP, hK, hD0⟩ := hv
  have hx := B.exec
  have hb := B.bytes
  have hr := B.returns
  have hts := atoms_spec (ws := wsX9_wayOf) B.pre
  have hown : s.vm.findClass RX9 = some m.cls := findClass_of_methodNamed B.named
  have hlocks := B.notSynchronized
  subst hsz
  have hD := hD0.self (sz := s.heap.size)
  generalize hAe : va_A (wo_X9_wayOf dC dI cB cI cJ cM k) s.heap.size = A at hD ⊢
  have hA : ∀ q : Nat, s.heap.size ≤ q → A q := fun q h => by rw [← hAe]; exact Or.inr h
  have hS : va_S A s.heap s.heap [] := va_S.rf
  have hP : va_P (dC, dI) vwCl [] s.heap := hP
  have hD : va_D A [] := hD
  have hl := lv_entry ([.int (nI k)]) (n := 1) (Nat.le_of_ble_eq_true rfl)
  rw [lg_entry_eq]
  generalize (lg_sl ([.int (nI k)]) ++ List.replicate (1 - (lg_sl ([.int (nI k)])).length) Slot.unset).toArray = ls at hl ⊢
  have hl : lv_has ls 1 [(0, .int (nI k))] := hl
  refine lv_iload_n hx hb dX9_wayOf_0 rfl (lv_at hl 0 rfl) ?_
  refine lv_iconst (v := 4) hx hb dX9_wayOf_1 (by decide) ?_
  refine lv_icmp_ge (tgt := 11) hx hb dX9_wayOf_2 (by decide) (fun c2 => ?_) (fun c2 => ?_)
  · have c2 : 4 ≤ k := (nI_leI (a := 4) (b := k) (by omega) (by omega)).mp c2
    refine lv_iconst (v := 1) hx hb dX9_wayOf_11 (by decide) ?_
    refine lv_iconst (v := 2) hx hb dX9_wayOf_12 (by decide) ?_
    refine lv_iload_n hx hb dX9_wayOf_13 rfl (lv_at hl 0 rfl) ?_
    refine lv_iconst (v := 2) hx hb dX9_wayOf_14 (by decide) ?_
    refine lv_irem hx hb dX9_wayOf_15 (by decide) ?_
    refine lv_topi (fun y_1 ey_1 => ?_)
    obtain rfl : y_1 = nI (k % 2) := ey_1.trans (pk_rem (a := k) (d := 2) (by omega) (by omega) (by omega))
    refine lv_iadd hx hb dX9_wayOf_16 ?_
    refine lv_topi (fun y_2 ey_2 => ?_)
    obtain rfl : y_2 = nI (2 + (k % 2)) := ey_2.trans (nI_add 2 (k % 2))
    refine lv_iload_n hx hb dX9_wayOf_17 rfl (lv_at hl 0 rfl) ?_
    refine lv_iconst (v := 2) hx hb dX9_wayOf_18 (by decide) ?_
    refine lv_idiv hx hb dX9_wayOf_19 (by decide) ?_
    refine lv_topi (fun y_3 ey_3 => ?_)
    obtain rfl : y_3 = nI (k / 2) := ey_3.trans (pk_div (a := k) (d := 2) (by omega) (by omega) (by omega))
    refine lv_iconst (v := 1) hx hb dX9_wayOf_20 (by decide) ?_
    refine lv_isub hx hb dX9_wayOf_21 ?_
    refine lv_topi (fun y_4 ey_4 => ?_)
    obtain rfl : y_4 = nI ((k / 2) - 1) := ey_4.trans (pk_sub (a := (k / 2)) (b := 1) (by omega))
    refine lv_ishl hx hb dX9_wayOf_22 ?_
    have hq8 := z_q8 k h1 (by omega)
    refine lv_topi (fun y_5 ey_5 => ?_)
    obtain rfl : y_5 = nI ((2 + k % 2) * 2 ^ (k / 2 - 1)) := ey_5.trans (z_shl (b := 2 + k % 2) (i := k / 2 - 1) (by omega) (by omega))
    refine lv_iadd hx hb dX9_wayOf_23 ?_
    refine lv_topi (fun y_6 ey_6 => ?_)
    obtain rfl : y_6 = nI (1 + ((2 + k % 2) * 2 ^ (k / 2 - 1))) := ey_6.trans (nI_add 1 ((2 + k % 2) * 2 ^ (k / 2 - 1)))
    have hP9 := hP.sub (ws' := []) [] rfl
    have hD9 := hD.sub (ws' := []) [] (by decide) rfl
    exact W.iret (v := (nI (1 + ((2 + k % 2) * 2 ^ (k / 2 - 1))))) hx hb hr (fun t ht hW => ⟨⟨(nI (1 + ((2 + k % 2) * 2 ^ (k / 2 - 1)))), (), rfl, by rw [hq8.1], ⟨by rw [ht]; exact hP9, va_K.moved hW.alike hK, hD9⟩⟩, hS.F ht⟩) hS.2.2 dX9_wayOf_24
  · have c2 : ¬ (4 ≤ k) := fun h => c2 ((nI_leI (a := 4) (b := k) (by omega) (by omega)).mpr h)
    refine lv_iconst (v := 1) hx hb dX9_wayOf_5 (by decide) ?_
    refine lv_iload_n hx hb dX9_wayOf_6 rfl (lv_at hl 0 rfl) ?_
    refine lv_iadd hx hb dX9_wayOf_7 ?_
    refine lv_topi (fun y_7 ey_7 => ?_)
    obtain rfl : y_7 = nI (1 + k) := ey_7.trans (nI_add 1 k)
    refine lv_goto (tgt := 24) hx hb dX9_wayOf_8 (by decide) ?_
    have hP9 := hP.sub (ws' := []) [] rfl
    have hD9 := hD.sub (ws' := []) [] (by decide) rfl
    exact W.iret (v := (nI (1 + k))) hx hb hr (fun t ht hW => ⟨⟨(nI (1 + k)), (), rfl, by rw [z_q7 k (by omega)], ⟨by rw [ht]; exact hP9, va_K.moved hW.alike hK, hD9⟩⟩, hS.F ht⟩) hS.2.2 dX9_wayOf_24
