abbrev rm_X9_pack : Room := { frames := 4, cells := 0, slots := 0, locals := 89 }
abbrev wo_X9_pack (dC : Nat → ClassId) (dI : Nat → Nat → Nat) (cB cI cJ cM : ClassId) (h0 pp tp : Nat) (g tx : Nat → Int32) (n : Nat) (x2 x3 : Int32) (m0 m4 m5 m6 m7 m8 m9 m10 m11 m12 m13 m14 m15 m16 m17 m18 m19 m20 m21 m22 m23 : Value) : va_W := [(h0, .inr (9, [m0, .ref pp, .int x2, .int x3, m4, m5, m6, m7, m8, m9, m10, m11, m12, m13, m14, m15, m16, m17, m18, m19, m20, m21, m22, m23])), (pp, .inl (cB, 16384, .inl g)), (tp, .inl (cB, 4000, .inl tx))]
abbrev q_X9_pack (dC : Nat → ClassId) (dI : Nat → Nat → Nat) (cB cI cJ cM : ClassId) (h0 pp tp : Nat) (g tx : Nat → Int32) (n : Nat) (x2 x3 : Int32) (m0 m4 m5 m6 m7 m8 m9 m10 m11 m12 m13 m14 m15 m16 m17 m18 m19 m20 m21 m22 m23 : Value) (A : Nat → Prop) : Array Value → State → Outcome → State → Prop := va_Qv (fun (u : Nat → Int32) => zOut u (zPV tx n) (zPL tx n) ∧ zPL tx n ≤ 36100) (zB dC dI cB cI cJ cM A (fun u : Nat → Int32 => [(h0, .inr (9, [m0, .ref pp, .int (nI (zPL tx n / 8)), .int 0, m4, m5, m6, m7, m8, m9, m10, m11, m12, m13, m14, m15, m16, m17, m18, m19, m20, m21, m22, m23])), (pp, .inl (cB, 16384, .inl u)), (tp, .inl (cB, 4000, .inl tx))])) A
set_option maxHeartbeats 8000000 in
set_option maxRecDepth 100000 in
/-- pack of the reference -/
theorem k_X9_pack (l : Launch) (dC : Nat → ClassId) (dI : Nat → Nat → Nat) (cB cI cJ cM : ClassId) (h0 pp tp : Nat) (g tx : Nat → Int32) (n : Nat) (x2 x3 : Int32) (m0 m4 m5 m6 m7 m8 m9 m10 m11 m12 m13 m14 m15 m16 m17 m18 m19 m20 m21 m22 m23 : Value) (h1 : n ≤ 4000) (sz : Nat) : Met l yX9_pack wsX9_pack rm_X9_pack (va_Pc [.ref h0, .ref tp, .int 0, .int (nI n)] (fun U => U.heap.size = sz ∧ va_P (dC, dI) vwCl (wo_X9_pack dC dI cB cI cJ cM h0 pp tp g tx n x2 x3 m0 m4 m5 m6 m7 m8 m9 m10 m11 m12 m13 m14 m15 m16 m17 m18 m19 m20 m21 m22 m23) U.heap ∧ va_K (dC, dI) vwCl (zT cB cI cJ cM) U ∧ va_D (fun _ => True) (wo_X9_pack dC dI cB cI cJ cM h0 pp tp g tx n x2 x3 m0 m4 m5 m6 m7 m8 m9 m10 m11 m12 m13 m14 m15 m16 m17 m18 m19 m20 m21 m22 m23))) (q_X9_pack dC dI cB cI cJ cM h0 pp tp g tx n x2 x3 m0 m4 m5 m6 m7 m8 m9 m10 m11 m12 m13 m14 m15 m16 m17 m18 m19 m20 m21 m22 m23 (va_A (wo_X9_pack dC dI cB cI cJ cM h0 pp tp g tx n x2 x3 m0 m4 m5 m6 m7 m8 m9 m10 m11 m12 m13 m14 m15 m16 m17 m18 m19 m20 m21 m22 m23) sz)) 0 0 (va_A (wo_X9_pack dC dI cB cI cJ cM h0 pp tp g tx n x2 x3 m0 m4 m5 m6 m7 m8 m9 m10 m11 m12 m13 m14 m15 m16 m17 m18 m19 m20 m21 m22 m23) sz) := by
  refine Met.ofW (cc := cX9_pack) (maxL := 9) (ret := none) (by decide) rfl ?_
  intro p e s m args below meth c s₁ B hml hv
  obtain ⟨rfl, hsz, hP, hK, hD0⟩ := hv
  have hx := B.exec
  have hb := B.bytes
  have hr := B.returns
  have hts := atoms_spec (ws := wsX9_pack) B.pre
  have hown : s.vm.findClass RX9 = some m.cls := findClass_of_methodNamed B.named
  have hlocks := B.notSynchronized
  subst hsz
  have hD := hD0.self (sz := s.heap.size)
  generalize hAe : va_A (wo_X9_pack dC dI cB cI cJ cM h0 pp tp g tx n x2 x3 m0 m4 m5 m6 m7 m8 m9 m10 m11 m12 m13 m14 m15 m16 m17 m18 m19 m20 m21 m22 m23) s.heap.size = A at hD ⊢
  have hA : ∀ q : Nat, s.heap.size ≤ q → A q := fun q h => by rw [← hAe]; exact Or.inr h
  have hS : va_S A s.heap s.heap [] := va_S.rf
  have hP : va_P (dC, dI) vwCl [(h0, .inr (9, [m0, .ref pp, .int x2, .int x3, m4, m5, m6, m7, m8, m9, m10, m11, m12, m13, m14, m15, m16, m17, m18, m19, m20, m21, m22, m23])), (pp, .inl (cB, 16384, .inl g)), (tp, .inl (cB, 4000, .inl tx))] s.heap := hP
  have hD : va_D A [(h0, .inr (9, [m0, .ref pp, .int x2, .int x3, m4, m5, m6, m7, m8, m9, m10, m11, m12, m13, m14, m15, m16, m17, m18, m19, m20, m21, m22, m23])), (pp, .inl (cB, 16384, .inl g)), (tp, .inl (cB, 4000, .inl tx))] := hD
  have hl := lv_entry ([.ref h0, .ref tp, .int 0, .int (nI n)]) (n := 9) (Nat.le_of_ble_eq_true rfl)
  rw [lg_entry_eq]
  generalize (lg_sl ([.ref h0, .ref tp, .int 0, .int (nI n)]) ++ List.replicate (9 - (lg_sl ([.ref h0, .ref tp, .int 0, .int (nI n)])).length) Slot.unset).toArray = ls at hl ⊢
  have hl : lv_has ls 9 [(0, .ref h0), (1, .ref tp), (2, .int 0), (3, .int (nI n))] := hl
  refine lv_aload_n hx hb dX9_pack_0 rfl (lv_at hl 0 rfl) ?_
  refine lv_iconst (v := 0) hx hb dX9_pack_1 (by decide) ?_
  refine va_put (D := (dC, dI)) (ci := 9) (v := .int 0) (ty := .int) (C := RX9) (T := TX9) (N := 24) hx hb hts (by decide +kernel) tyX9 tyX9_ok nmX9 hown hK hP hD hS 0 rfl rfl 2 (by decide) (hts (.fieldLink RX9 16 "FixedPressModel" "packedLength" "I") (by decide +kernel)) (fun _ h9 => h9) rfl (by decide +kernel) rfl rfl (Nat.le_of_ble_eq_true rfl) dX9_pack_2 (fun H locs hP hD hS => ?_)
  have hP : va_P (dC, dI) vwCl [(h0, .inr (9, [m0, .ref pp, .int 0, .int x3, m4, m5, m6, m7, m8, m9, m10, m11, m12, m13, m14, m15, m16, m17, m18, m19, m20, m21, m22, m23])), (pp, .inl (cB, 16384, .inl g)), (tp, .inl (cB, 4000, .inl tx))] H := hP
  have hD : va_D A [(h0, .inr (9, [m0, .ref pp, .int 0, .int x3, m4, m5, m6, m7, m8, m9, m10, m11, m12, m13, m14, m15, m16, m17, m18, m19, m20, m21, m22, m23])), (pp, .inl (cB, 16384, .inl g)), (tp, .inl (cB, 4000, .inl tx))] := hD
  refine lv_aload_n hx hb dX9_pack_5 rfl (lv_at hl 0 rfl) ?_
  refine lv_iconst (v := 0) hx hb dX9_pack_6 (by decide) ?_
  refine va_put (D := (dC, dI)) (ci := 9) (v := .int 0) (ty := .int) (C := RX9) (T := TX9) (N := 24) hx hb hts (by decide +kernel) tyX9 tyX9_ok nmX9 hown hK hP hD hS 0 rfl rfl 3 (by decide) (hts (.fieldLink RX9 8 "FixedPressModel" "bitAt" "I") (by decide +kernel)) (fun _ h9 => h9) rfl (by decide +kernel) rfl rfl (Nat.le_of_ble_eq_true rfl) dX9_pack_7 (fun H locs hP hD hS => ?_)
  have hP : va_P (dC, dI) vwCl [(h0, .inr (9, [m0, .ref pp, .int 0, .int 0, m4, m5, m6, m7, m8, m9, m10, m11, m12, m13, m14, m15, m16, m17, m18, m19, m20, m21, m22, m23])), (pp, .inl (cB, 16384, .inl g)), (tp, .inl (cB, 4000, .inl tx))] H := hP
  have hD : va_D A [(h0, .inr (9, [m0, .ref pp, .int 0, .int 0, m4, m5, m6, m7, m8, m9, m10, m11, m12, m13, m14, m15, m16, m17, m18, m19, m20, m21, m22, m23])), (pp, .inl (cB, 16384, .inl g)), (tp, .inl (cB, 4000, .inl tx))] := hD
  refine lv_aload_n hx hb dX9_pack_10 rfl (lv_at hl 0 rfl) ?_
  refine va_get (D := (dC, dI)) (ci := 9) (v := .ref pp) (C := RX9) (T := TX9) (N := 24) hx hb hts (by decide +kernel) hown hK hP 0 rfl rfl 1 (by decide) (hts (.fieldLink RX9 12 "FixedPressModel" "packed" "[B") (by decide +kernel)) (fun _ h9 => h9) rfl dX9_pack_11 ?_
  refine lv_iconst (v := 0) hx hb dX9_pack_14 (by decide) ?_
  refine lv_bipush (v := 120) hx hb dX9_pack_15 (by decide) ?_
  refine va_bast hx hb hK hP hD hS 1 0 rfl rfl (vp_in_nI (n := 0) (by omega) (by omega)) dX9_pack_17 (fun H locs hP hD hS => ?_)
  have hP : va_P (dC, dI) vwCl [(h0, .inr (9, [m0, .ref pp, .int 0, .int 0, m4, m5, m6, m7, m8, m9, m10, m11, m12, m13, m14, m15, m16, m17, m18, m19, m20, m21, m22, m23])), (pp, .inl (cB, 16384, .inl (upd g 0 (vp_nar .byte 120)))), (tp, .inl (cB, 4000, .inl tx))] H := hP
  have hD : va_D A [(h0, .inr (9, [m0, .ref pp, .int 0, .int 0, m4, m5, m6, m7, m8, m9, m10, m11, m12, m13, m14, m15, m16, m17, m18, m19, m20, m21, m22, m23])), (pp, .inl (cB, 16384, .inl (upd g 0 (vp_nar .byte 120)))), (tp, .inl (cB, 4000, .inl tx))] := hD
  refine lv_aload_n hx hb dX9_pack_18 rfl (lv_at hl 0 rfl) ?_
  refine va_get (D := (dC, dI)) (ci := 9) (v := .ref pp) (C := RX9) (T := TX9) (N := 24) hx hb hts (by decide +kernel) hown hK hP 0 rfl rfl 1 (by decide) (hts (.fieldLink RX9 12 "FixedPressModel" "packed" "[B") (by decide +kernel)) (fun _ h9 => h9) rfl dX9_pack_19 ?_
  refine lv_iconst (v := 1) hx hb dX9_pack_22 (by decide) ?_
  refine lv_bipush (v := (-100)) hx hb dX9_pack_23 (by decide) ?_
  refine va_bast hx hb hK hP hD hS 1 0 rfl rfl (vp_in_nI (n := 1) (by omega) (by omega)) dX9_pack_25 (fun H locs hP hD hS => ?_)
  have hP : va_P (dC, dI) vwCl [(h0, .inr (9, [m0, .ref pp, .int 0, .int 0, m4, m5, m6, m7, m8, m9, m10, m11, m12, m13, m14, m15, m16, m17, m18, m19, m20, m21, m22, m23])), (pp, .inl (cB, 16384, .inl (upd (upd g 0 (vp_nar .byte 120)) 1 (vp_nar .byte (-100))))), (tp, .inl (cB, 4000, .inl tx))] H := hP
  have hD : va_D A [(h0, .inr (9, [m0, .ref pp, .int 0, .int 0, m4, m5, m6, m7, m8, m9, m10, m11, m12, m13, m14, m15, m16, m17, m18, m19, m20, m21, m22, m23])), (pp, .inl (cB, 16384, .inl (upd (upd g 0 (vp_nar .byte 120)) 1 (vp_nar .byte (-100))))), (tp, .inl (cB, 4000, .inl tx))] := hD
  refine lv_aload_n hx hb dX9_pack_26 rfl (lv_at hl 0 rfl) ?_
  refine lv_iconst (v := 2) hx hb dX9_pack_27 (by decide) ?_
  refine va_put (D := (dC, dI)) (ci := 9) (v := .int 2) (ty := .int) (C := RX9) (T := TX9) (N := 24) hx hb hts (by decide +kernel) tyX9 tyX9_ok nmX9 hown hK hP hD hS 0 rfl rfl 2 (by decide) (hts (.fieldLink RX9 16 "FixedPressModel" "packedLength" "I") (by decide +kernel)) (fun _ h9 => h9) rfl (by decide +kernel) rfl rfl (Nat.le_of_ble_eq_true rfl) dX9_pack_28 (fun H locs hP hD hS => ?_)
  have hP : va_P (dC, dI) vwCl [(h0, .inr (9, [m0, .ref pp, .int 2, .int 0, m4, m5, m6, m7, m8, m9, m10, m11, m12, m13, m14, m15, m16, m17, m18, m19, m20, m21, m22, m23])), (pp, .inl (cB, 16384, .inl (upd (upd g 0 (vp_nar .byte 120)) 1 (vp_nar .byte (-100))))), (tp, .inl (cB, 4000, .inl tx))] H := hP
  have hD : va_D A [(h0, .inr (9, [m0, .ref pp, .int 2, .int 0, m4, m5, m6, m7, m8, m9, m10, m11, m12, m13, m14, m15, m16, m17, m18, m19, m20, m21, m22, m23])), (pp, .inl (cB, 16384, .inl (upd (upd g 0 (vp_nar .byte 120)) 1 (vp_nar .byte (-100))))), (tp, .inl (cB, 4000, .inl tx))] := hD
  have hP : va_P (dC, dI) vwCl [(h0, .inr (9, [m0, .ref pp, .int (nI ((16 + 7) / 8)), .int (nI (16 % 8)), m4, m5, m6, m7, m8, m9, m10, m11, m12, m13, m14, m15, m16, m17, m18, m19, m20, m21, m22, m23])), (pp, .inl (cB, 16384, .inl (upd (upd g 0 (vp_nar .byte 120)) 1 (vp_nar .byte (-100))))), (tp, .inl (cB, 4000, .inl tx))] H := hP
  have hD : va_D A [(h0, .inr (9, [m0, .ref pp, .int (nI ((16 + 7) / 8)), .int (nI (16 % 8)), m4, m5, m6, m7, m8, m9, m10, m11, m12, m13, m14, m15, m16, m17, m18, m19, m20, m21, m22, m23])), (pp, .inl (cB, 16384, .inl (upd (upd g 0 (vp_nar .byte 120)) 1 (vp_nar .byte (-100))))), (tp, .inl (cB, 4000, .inl tx))] := hD
  have ho0 : zRo (upd (upd g 0 (vp_nar .byte 120)) 1 (vp_nar .byte (-100))) 40056 16 := zRo_head
  refine lv_aload_n hx hb dX9_pack_31 rfl (lv_at hl 0 rfl) ?_
  refine lv_iconst (v := 1) hx hb dX9_pack_32 (by decide) ?_
  have hPc := hP.sub (ws' := [(h0, .inr (9, [m0, .ref pp, .int (nI ((16 + 7) / 8)), .int (nI (16 % 8)), m4, m5, m6, m7, m8, m9, m10, m11, m12, m13, m14, m15, m16, m17, m18, m19, m20, m21, m22, m23])), (pp, .inl (cB, 16384, .inl (upd (upd g 0 (vp_nar .byte 120)) 1 (vp_nar .byte (-100)))))]) [0, 1] rfl
  have hDc := hD.sub (ws' := [(h0, .inr (9, [m0, .ref pp, .int (nI ((16 + 7) / 8)), .int (nI (16 % 8)), m4, m5, m6, m7, m8, m9, m10, m11, m12, m13, m14, m15, m16, m17, m18, m19, m20, m21, m22, m23])), (pp, .inl (cB, 16384, .inl (upd (upd g 0 (vp_nar .byte 120)) 1 (vp_nar .byte (-100)))))]) [0, 1] (by decide) rfl
  have hFc := va_free (wc := [(h0, .inr (9, [m0, .ref pp, .int (nI ((16 + 7) / 8)), .int (nI (16 % 8)), m4, m5, m6, m7, m8, m9, m10, m11, m12, m13, m14, m15, m16, m17, m18, m19, m20, m21, m22, m23])), (pp, .inl (cB, 16384, .inl (upd (upd g 0 (vp_nar .byte 120)) 1 (vp_nar .byte (-100)))))]) hD hS hA [0, 1] rfl
  refine va_callv (va_runV (As := [.int 1]) (rest := []) ⟨hx, hb, hml, hown, hts⟩ (k_X9_bit l dC dI cB cI cJ cM h0 pp (upd (upd g 0 (vp_nar .byte 120)) 1 (vp_nar .byte (-100))) 40056 16 1 m0 m4 m5 m6 m7 m8 m9 m10 m11 m12 m13 m14 m15 m16 m17 m18 m19 m20 m21 m22 m23 (ho0) (by omega) H.size) (cwV 1 hts gX9_pack_X9_bit rfl rfl rfl (by decide +kernel) ⟨Nat.le_of_ble_eq_true rfl, Nat.le_of_ble_eq_true rfl⟩) ⟨fun a U g mk q => by obtain ⟨q0, q1, qP, qK, qD⟩ := q; exact ⟨q0, q1, qP, va_K.moved (u := U) (U := U.calling g mk a) (Vm.Alike.refl U.vm) qK, qD⟩, va_recv hK hPc (ci := 9) (q0 := 0) rfl rfl, fun U hU hW => ⟨rfl, by rw [hU], by rw [hU]; exact hPc, va_K.moved hW.alike hK, hDc.weaken (fun _ _ _ _ => trivial)⟩⟩ rfl rfl hl.1 rfl (lv_room (Nat.le_of_ble_eq_true rfl)) dX9_pack_33 ⟨(show 0 + 0 ≤ 0 by omega), (show 0 + 0 ≤ 0 by omega)⟩) hS (fun q _ h => hFc q h) hFc (fun u t H1 locs ht hvm hw hB hz1 hk1 hS => ?_)
  obtain ⟨g1, rfl⟩ : ∃ z, z = u := ⟨_, rfl⟩
  have hP1 : va_P (dC, dI) vwCl [(h0, .inr (9, [m0, .ref pp, .int (nI ((16 + 1 + 7) / 8)), .int (nI ((16 + 1) % 8)), m4, m5, m6, m7, m8, m9, m10, m11, m12, m13, m14, m15, m16, m17, m18, m19, m20, m21, m22, m23])), (pp, .inl (cB, 16384, .inl g1))] H1 := by rw [← ht]; exact hB.1
  have hD1 : va_D (va_A [(h0, .inr (9, [m0, .ref pp, .int (nI ((16 + 7) / 8)), .int (nI (16 % 8)), m4, m5, m6, m7, m8, m9, m10, m11, m12, m13, m14, m15, m16, m17, m18, m19, m20, m21, m22, m23])), (pp, .inl (cB, 16384, .inl (upd (upd g 0 (vp_nar .byte 120)) 1 (vp_nar .byte (-100)))))] H.size) [(h0, .inr (9, [m0, .ref pp, .int (nI ((16 + 1 + 7) / 8)), .int (nI ((16 + 1) % 8)), m4, m5, m6, m7, m8, m9, m10, m11, m12, m13, m14, m15, m16, m17, m18, m19, m20, m21, m22, m23])), (pp, .inl (cB, 16384, .inl g1))] := hB.2.2
  obtain ⟨hP, hD⟩ := va_join (wr := [(tp, .inl (cB, 4000, .inl tx))]) (w1 := [(h0, .inr (9, [m0, .ref pp, .int (nI ((16 + 1 + 7) / 8)), .int (nI ((16 + 1) % 8)), m4, m5, m6, m7, m8, m9, m10, m11, m12, m13, m14, m15, m16, m17, m18, m19, m20, m21, m22, m23])), (pp, .inl (cB, 16384, .inl g1))]) hP hD [0, 1] [2] rfl rfl (by decide) (by decide) hk1 hFc hP1 hD1
  generalize H1 = H at hP hS ⊢
  try dsimp only at hw
  have hP : va_P (dC, dI) vwCl [(tp, .inl (cB, 4000, .inl tx)), (h0, .inr (9, [m0, .ref pp, .int (nI ((16 + 1 + 7) / 8)), .int (nI ((16 + 1) % 8)), m4, m5, m6, m7, m8, m9, m10, m11, m12, m13, m14, m15, m16, m17, m18, m19, m20, m21, m22, m23])), (pp, .inl (cB, 16384, .inl g1))] H := hP
  have hD : va_D A [(tp, .inl (cB, 4000, .inl tx)), (h0, .inr (9, [m0, .ref pp, .int (nI ((16 + 1 + 7) / 8)), .int (nI ((16 + 1) % 8)), m4, m5, m6, m7, m8, m9, m10, m11, m12, m13, m14, m15, m16, m17, m18, m19, m20, m21, m22, m23])), (pp, .inl (cB, 16384, .inl g1))] := hD
  have ho1 : zRo g1 (40056 + (1 : Int32).toBitVec.toNat % 2 ^ 1 * 2 ^ 16) ((16 + 1)) := hw
  have hP : va_P (dC, dI) vwCl [(h0, .inr (9, [m0, .ref pp, .int (nI (((16 + 1) + 7) / 8)), .int (nI ((16 + 1) % 8)), m4, m5, m6, m7, m8, m9, m10, m11, m12, m13, m14, m15, m16, m17, m18, m19, m20, m21, m22, m23])), (pp, .inl (cB, 16384, .inl g1)), (tp, .inl (cB, 4000, .inl tx))] H := hP.sub [1, 2, 0] rfl
  have hD : va_D A [(h0, .inr (9, [m0, .ref pp, .int (nI (((16 + 1) + 7) / 8)), .int (nI ((16 + 1) % 8)), m4, m5, m6, m7, m8, m9, m10, m11, m12, m13, m14, m15, m16, m17, m18, m19, m20, m21, m22, m23])), (pp, .inl (cB, 16384, .inl g1)), (tp, .inl (cB, 4000, .inl tx))] := hD.sub [1, 2, 0] (by decide) rfl
  refine W.eq (g2 := F0 m 36 ls []) rfl ?_
  refine lv_aload_n hx hb dX9_pack_36 rfl (lv_at hl 0 rfl) ?_
  refine lv_iconst (v := 1) hx hb dX9_pack_37 (by decide) ?_
  refine lv_iconst (v := 2) hx hb dX9_pack_38 (by decide) ?_
  have hPc := hP.sub (ws' := [(h0, .inr (9, [m0, .ref pp, .int (nI (((16 + 1) + 7) / 8)), .int (nI ((16 + 1) % 8)), m4, m5, m6, m7, m8, m9, m10, m11, m12, m13, m14, m15, m16, m17, m18, m19, m20, m21, m22, m23])), (pp, .inl (cB, 16384, .inl g1))]) [0, 1] rfl
  have hDc := hD.sub (ws' := [(h0, .inr (9, [m0, .ref pp, .int (nI (((16 + 1) + 7) / 8)), .int (nI ((16 + 1) % 8)), m4, m5, m6, m7, m8, m9, m10, m11, m12, m13, m14, m15, m16, m17, m18, m19, m20, m21, m22, m23])), (pp, .inl (cB, 16384, .inl g1))]) [0, 1] (by decide) rfl
  have hFc := va_free (wc := [(h0, .inr (9, [m0, .ref pp, .int (nI (((16 + 1) + 7) / 8)), .int (nI ((16 + 1) % 8)), m4, m5, m6, m7, m8, m9, m10, m11, m12, m13, m14, m15, m16, m17, m18, m19, m20, m21, m22, m23])), (pp, .inl (cB, 16384, .inl g1))]) hD hS hA [0, 1] rfl
  refine va_callv (va_runV (As := [.int 1, .int 2]) (rest := []) ⟨hx, hb, hml, hown, hts⟩ (k_X9_low l dC dI cB cI cJ cM h0 pp g1 (40056 + (1 : Int32).toBitVec.toNat % 2 ^ 1 * 2 ^ 16) (16 + 1) 1 2 m0 m4 m5 m6 m7 m8 m9 m10 m11 m12 m13 m14 m15 m16 m17 m18 m19 m20 m21 m22 m23 (ho1) (by omega) (by decide) (by omega) H.size) (cwV 2 hts gX9_pack_X9_low rfl rfl rfl (by decide +kernel) ⟨Nat.le_of_ble_eq_true rfl, Nat.le_of_ble_eq_true rfl⟩) ⟨fun a U g mk q => by obtain ⟨q0, q1, qP, qK, qD⟩ := q; exact ⟨q0, q1, qP, va_K.moved (u := U) (U := U.calling g mk a) (Vm.Alike.refl U.vm) qK, qD⟩, va_recv hK hPc (ci := 9) (q0 := 0) rfl rfl, fun U hU hW => ⟨rfl, by rw [hU], by rw [hU]; exact hPc, va_K.moved hW.alike hK, hDc.weaken (fun _ _ _ _ => trivial)⟩⟩ rfl rfl hl.1 rfl (lv_room (Nat.le_of_ble_eq_true rfl)) dX9_pack_39 ⟨(show 0 + 0 ≤ 0 by omega), (show 0 + 0 ≤ 0 by omega)⟩) hS (fun q _ h => hFc q h) hFc (fun u t H1 locs ht hvm hw hB hz1 hk1 hS => ?_)
  obtain ⟨g3, rfl⟩ : ∃ z, z = u := ⟨_, rfl⟩
  have hP1 : va_P (dC, dI) vwCl [(h0, .inr (9, [m0, .ref pp, .int (nI ((((16 + 1) + 2) + 7) / 8)), .int (nI (((16 + 1) + 2) % 8)), m4, m5, m6, m7, m8, m9, m10, m11, m12, m13, m14, m15, m16, m17, m18, m19, m20, m21, m22, m23])), (pp, .inl (cB, 16384, .inl g3))] H1 := by rw [← ht]; exact hB.1
  have hD1 : va_D (va_A [(h0, .inr (9, [m0, .ref pp, .int (nI (((16 + 1) + 7) / 8)), .int (nI ((16 + 1) % 8)), m4, m5, m6, m7, m8, m9, m10, m11, m12, m13, m14, m15, m16, m17, m18, m19, m20, m21, m22, m23])), (pp, .inl (cB, 16384, .inl g1))] H.size) [(h0, .inr (9, [m0, .ref pp, .int (nI ((((16 + 1) + 2) + 7) / 8)), .int (nI (((16 + 1) + 2) % 8)), m4, m5, m6, m7, m8, m9, m10, m11, m12, m13, m14, m15, m16, m17, m18, m19, m20, m21, m22, m23])), (pp, .inl (cB, 16384, .inl g3))] := hB.2.2
  obtain ⟨hP, hD⟩ := va_join (wr := [(tp, .inl (cB, 4000, .inl tx))]) (w1 := [(h0, .inr (9, [m0, .ref pp, .int (nI ((((16 + 1) + 2) + 7) / 8)), .int (nI (((16 + 1) + 2) % 8)), m4, m5, m6, m7, m8, m9, m10, m11, m12, m13, m14, m15, m16, m17, m18, m19, m20, m21, m22, m23])), (pp, .inl (cB, 16384, .inl g3))]) hP hD [0, 1] [2] rfl rfl (by decide) (by decide) hk1 hFc hP1 hD1
  generalize H1 = H at hP hS ⊢
  try dsimp only at hw
  have hP : va_P (dC, dI) vwCl [(tp, .inl (cB, 4000, .inl tx)), (h0, .inr (9, [m0, .ref pp, .int (nI ((((16 + 1) + 2) + 7) / 8)), .int (nI (((16 + 1) + 2) % 8)), m4, m5, m6, m7, m8, m9, m10, m11, m12, m13, m14, m15, m16, m17, m18, m19, m20, m21, m22, m23])), (pp, .inl (cB, 16384, .inl g3))] H := hP
  have hD : va_D A [(tp, .inl (cB, 4000, .inl tx)), (h0, .inr (9, [m0, .ref pp, .int (nI ((((16 + 1) + 2) + 7) / 8)), .int (nI (((16 + 1) + 2) % 8)), m4, m5, m6, m7, m8, m9, m10, m11, m12, m13, m14, m15, m16, m17, m18, m19, m20, m21, m22, m23])), (pp, .inl (cB, 16384, .inl g3))] := hD
  have ho3 : zRo g3 (236664) (19) := by rw [← z_head2]; exact hw
  have hP : va_P (dC, dI) vwCl [(h0, .inr (9, [m0, .ref pp, .int (nI ((19 + 7) / 8)), .int (nI (19 % 8)), m4, m5, m6, m7, m8, m9, m10, m11, m12, m13, m14, m15, m16, m17, m18, m19, m20, m21, m22, m23])), (pp, .inl (cB, 16384, .inl g3)), (tp, .inl (cB, 4000, .inl tx))] H := hP.sub [1, 2, 0] rfl
  have hD : va_D A [(h0, .inr (9, [m0, .ref pp, .int (nI ((19 + 7) / 8)), .int (nI (19 % 8)), m4, m5, m6, m7, m8, m9, m10, m11, m12, m13, m14, m15, m16, m17, m18, m19, m20, m21, m22, m23])), (pp, .inl (cB, 16384, .inl g3)), (tp, .inl (cB, 4000, .inl tx))] := hD.sub [1, 2, 0] (by decide) rfl
  refine W.eq (g2 := F0 m 42 ls []) rfl ?_
  refine lv_iconst (v := 0) hx hb dX9_pack_42 (by decide) ?_
  refine lv_istore (lv' := [(4, .int 0), (0, .ref h0), (1, .ref tp), (2, .int 0), (3, .int (nI n))]) hx hb dX9_pack_43 hl (by decide) rfl (fun ls hl => ?_)
  have cut45 : ∀ (fuel : Nat) (i : Nat) (V1 : Nat) (L1 : Nat) (g1 : Nat → Int32), (i ≤ n) → (zpk tx n (n - i) i V1 L1 = zPR tx n) → (zRo g1 V1 L1) → (L1 ≤ 19 + 9 * i) → (n - i < fuel) → ∀ (H : Heap) (locs : List Loc), va_P (dC, dI) vwCl [(h0, .inr (9, [m0, .ref pp, .int (nI ((L1 + 7) / 8)), .int (nI (L1 % 8)), m4, m5, m6, m7, m8, m9, m10, m11, m12, m13, m14, m15, m16, m17, m18, m19, m20, m21, m22, m23])), (pp, .inl (cB, 16384, .inl g1)), (tp, .inl (cB, 4000, .inl tx))] H → va_D A [(h0, .inr (9, [m0, .ref pp, .int (nI ((L1 + 7) / 8)), .int (nI (L1 % 8)), m4, m5, m6, m7, m8, m9, m10, m11, m12, m13, m14, m15, m16, m17, m18, m19, m20, m21, m22, m23])), (pp, .inl (cB, 16384, .inl g1)), (tp, .inl (cB, 4000, .inl tx))] → va_S A s.heap H locs → ∀ (ls : Array Slot), lv_has ls 9 [(0, .ref h0), (1, .ref tp), (2, .int 0), (3, .int (nI n)), (4, .int (nI i))] → W p l e (headSpec wsX9_pack rm_X9_pack).room s m ([.ref h0, .ref tp, .int 0, .int (nI n)] : List Value).toArray below meth c H locs 0 0 (MQ below (q_X9_pack dC dI cB cI cJ cM h0 pp tp g tx n x2 x3 m0 m4 m5 m6 m7 m8 m9 m10 m11 m12 m13 m14 m15 m16 m17 m18 m19 m20 m21 m22 m23 A) ([.ref h0, .ref tp, .int 0, .int (nI n)] : List Value).toArray s 0 0 A) (F0 m 45 ls []) := by
    intro fuel
    induction fuel with
    | zero => intros; omega
    | succ fuel iha =>
      intro i V1 L1 g1 hin hpk ho1 hLb hfuel H locs hP hD hS ls hl
      refine lv_iload hx hb dX9_pack_45 (lv_at hl 4 rfl) ?_
      refine lv_iload_n hx hb dX9_pack_47 rfl (lv_at hl 3 rfl) ?_
      refine lv_icmp_ge (tgt := 189) hx hb dX9_pack_48 (by decide) (fun c48 => ?_) (fun c48 => ?_)
      · have c48 : n ≤ i := (nI_leI (a := n) (b := i) (by omega) (by omega)).mp c48
        have hend : zPR tx n = (V1, L1) := by rw [← hpk]; exact zpk_end (by omega)
        have hs256 := z_sl256
        have hPM : zPM tx n = ((zPR tx n).2 + zsl 256 + 7) / 8 * 8 := rfl
        have hPLe : zPL tx n = zPM tx n + 8 * 4 := rfl
        have hR2 : (zPR tx n).2 = L1 := by rw [hend]
        refine lv_aload_n hx hb dX9_pack_189 rfl (lv_at hl 0 rfl) ?_
        refine lv_sipush (v := 256) hx hb dX9_pack_190 (by decide) ?_
        have hPc := hP.sub (ws' := [(h0, .inr (9, [m0, .ref pp, .int (nI ((L1 + 7) / 8)), .int (nI (L1 % 8)), m4, m5, m6, m7, m8, m9, m10, m11, m12, m13, m14, m15, m16, m17, m18, m19, m20, m21, m22, m23])), (pp, .inl (cB, 16384, .inl g1))]) [0, 1] rfl
        have hDc := hD.sub (ws' := [(h0, .inr (9, [m0, .ref pp, .int (nI ((L1 + 7) / 8)), .int (nI (L1 % 8)), m4, m5, m6, m7, m8, m9, m10, m11, m12, m13, m14, m15, m16, m17, m18, m19, m20, m21, m22, m23])), (pp, .inl (cB, 16384, .inl g1))]) [0, 1] (by decide) rfl
        have hFc := va_free (wc := [(h0, .inr (9, [m0, .ref pp, .int (nI ((L1 + 7) / 8)), .int (nI (L1 % 8)), m4, m5, m6, m7, m8, m9, m10, m11, m12, m13, m14, m15, m16, m17, m18, m19, m20, m21, m22, m23])), (pp, .inl (cB, 16384, .inl g1))]) hD hS hA [0, 1] rfl
        refine va_callv (va_runV (As := [.int 256]) (rest := []) ⟨hx, hb, hml, hown, hts⟩ (k_X9_symbol l dC dI cB cI cJ cM h0 pp g1 V1 L1 256 m0 m4 m5 m6 m7 m8 m9 m10 m11 m12 m13 m14 m15 m16 m17 m18 m19 m20 m21 m22 m23 (ho1) (by omega) (by omega) H.size) (cwV 1 hts gX9_pack_X9_symbol rfl rfl rfl (by decide +kernel) ⟨Nat.le_of_ble_eq_true rfl, Nat.le_of_ble_eq_true rfl⟩) ⟨fun a U g mk q => by obtain ⟨q0, q1, qP, qK, qD⟩ := q; exact ⟨q0, q1, qP, va_K.moved (u := U) (U := U.calling g mk a) (Vm.Alike.refl U.vm) qK, qD⟩, va_recv hK hPc (ci := 9) (q0 := 0) rfl rfl, fun U hU hW => ⟨rfl, by rw [hU], by rw [hU]; exact hPc, va_K.moved hW.alike hK, hDc.weaken (fun _ _ _ _ => trivial)⟩⟩ rfl rfl hl.1 rfl (lv_room (Nat.le_of_ble_eq_true rfl)) dX9_pack_193 ⟨(show 0 + 0 ≤ 0 by omega), (show 0 + 0 ≤ 0 by omega)⟩) hS (fun q _ h => hFc q h) hFc (fun u t H1 locs ht hvm hw hB hz1 hk1 hS => ?_)
        obtain ⟨g5, rfl⟩ : ∃ z, z = u := ⟨_, rfl⟩
        have hP1 : va_P (dC, dI) vwCl [(h0, .inr (9, [m0, .ref pp, .int (nI (((L1 + zsl 256) + 7) / 8)), .int (nI ((L1 + zsl 256) % 8)), m4, m5, m6, m7, m8, m9, m10, m11, m12, m13, m14, m15, m16, m17, m18, m19, m20, m21, m22, m23])), (pp, .inl (cB, 16384, .inl g5))] H1 := by rw [← ht]; exact hB.1
        have hD1 : va_D (va_A [(h0, .inr (9, [m0, .ref pp, .int (nI ((L1 + 7) / 8)), .int (nI (L1 % 8)), m4, m5, m6, m7, m8, m9, m10, m11, m12, m13, m14, m15, m16, m17, m18, m19, m20, m21, m22, m23])), (pp, .inl (cB, 16384, .inl g1))] H.size) [(h0, .inr (9, [m0, .ref pp, .int (nI (((L1 + zsl 256) + 7) / 8)), .int (nI ((L1 + zsl 256) % 8)), m4, m5, m6, m7, m8, m9, m10, m11, m12, m13, m14, m15, m16, m17, m18, m19, m20, m21, m22, m23])), (pp, .inl (cB, 16384, .inl g5))] := hB.2.2
        obtain ⟨hP, hD⟩ := va_join (wr := [(tp, .inl (cB, 4000, .inl tx))]) (w1 := [(h0, .inr (9, [m0, .ref pp, .int (nI (((L1 + zsl 256) + 7) / 8)), .int (nI ((L1 + zsl 256) % 8)), m4, m5, m6, m7, m8, m9, m10, m11, m12, m13, m14, m15, m16, m17, m18, m19, m20, m21, m22, m23])), (pp, .inl (cB, 16384, .inl g5))]) hP hD [0, 1] [2] rfl rfl (by decide) (by decide) hk1 hFc hP1 hD1
        generalize H1 = H at hP hS ⊢
        try dsimp only at hw
        have hP : va_P (dC, dI) vwCl [(tp, .inl (cB, 4000, .inl tx)), (h0, .inr (9, [m0, .ref pp, .int (nI (((L1 + zsl 256) + 7) / 8)), .int (nI ((L1 + zsl 256) % 8)), m4, m5, m6, m7, m8, m9, m10, m11, m12, m13, m14, m15, m16, m17, m18, m19, m20, m21, m22, m23])), (pp, .inl (cB, 16384, .inl g5))] H := hP
        have hD : va_D A [(tp, .inl (cB, 4000, .inl tx)), (h0, .inr (9, [m0, .ref pp, .int (nI (((L1 + zsl 256) + 7) / 8)), .int (nI ((L1 + zsl 256) % 8)), m4, m5, m6, m7, m8, m9, m10, m11, m12, m13, m14, m15, m16, m17, m18, m19, m20, m21, m22, m23])), (pp, .inl (cB, 16384, .inl g5))] := hD
        have ho5 : zRo g5 (zsv V1 L1 256) ((L1 + zsl 256)) := hw
        have hP : va_P (dC, dI) vwCl [(h0, .inr (9, [m0, .ref pp, .int (nI (((L1 + zsl 256) + 7) / 8)), .int (nI ((L1 + zsl 256) % 8)), m4, m5, m6, m7, m8, m9, m10, m11, m12, m13, m14, m15, m16, m17, m18, m19, m20, m21, m22, m23])), (pp, .inl (cB, 16384, .inl g5)), (tp, .inl (cB, 4000, .inl tx))] H := hP.sub [1, 2, 0] rfl
        have hD : va_D A [(h0, .inr (9, [m0, .ref pp, .int (nI (((L1 + zsl 256) + 7) / 8)), .int (nI ((L1 + zsl 256) % 8)), m4, m5, m6, m7, m8, m9, m10, m11, m12, m13, m14, m15, m16, m17, m18, m19, m20, m21, m22, m23])), (pp, .inl (cB, 16384, .inl g5)), (tp, .inl (cB, 4000, .inl tx))] := hD.sub [1, 2, 0] (by decide) rfl
        have ho6 : zOut g5 (zsv (zPR tx n).1 (zPR tx n).2 256) (zPM tx n) := by have := zRo_pad ho5; rw [hPM, hend]; exact this
        refine W.eq (g2 := F0 m 196 ls []) rfl ?_
        refine lv_aload_n hx hb dX9_pack_196 rfl (lv_at hl 0 rfl) ?_
        refine lv_iconst (v := 0) hx hb dX9_pack_197 (by decide) ?_
        refine va_put (D := (dC, dI)) (ci := 9) (v := .int 0) (ty := .int) (C := RX9) (T := TX9) (N := 24) hx hb hts (by decide +kernel) tyX9 tyX9_ok nmX9 hown hK hP hD hS 0 rfl rfl 3 (by decide) (hts (.fieldLink RX9 8 "FixedPressModel" "bitAt" "I") (by decide +kernel)) (fun _ h9 => h9) rfl (by decide +kernel) rfl rfl (Nat.le_of_ble_eq_true rfl) dX9_pack_198 (fun H locs hP hD hS => ?_)
        have hP : va_P (dC, dI) vwCl [(h0, .inr (9, [m0, .ref pp, .int (nI (((L1 + zsl 256) + 7) / 8)), .int 0, m4, m5, m6, m7, m8, m9, m10, m11, m12, m13, m14, m15, m16, m17, m18, m19, m20, m21, m22, m23])), (pp, .inl (cB, 16384, .inl g5)), (tp, .inl (cB, 4000, .inl tx))] H := hP
        have hD : va_D A [(h0, .inr (9, [m0, .ref pp, .int (nI (((L1 + zsl 256) + 7) / 8)), .int 0, m4, m5, m6, m7, m8, m9, m10, m11, m12, m13, m14, m15, m16, m17, m18, m19, m20, m21, m22, m23])), (pp, .inl (cB, 16384, .inl g5)), (tp, .inl (cB, 4000, .inl tx))] := hD
        refine lv_aload_n hx hb dX9_pack_201 rfl (lv_at hl 1 rfl) ?_
        refine lv_iload_n hx hb dX9_pack_202 rfl (lv_at hl 2 rfl) ?_
        refine lv_iload_n hx hb dX9_pack_203 rfl (lv_at hl 3 rfl) ?_
        have hPc := hP.sub (ws' := [(tp, .inl (cB, 4000, .inl tx))]) [2] rfl
        have hDc := hD.sub (ws' := [(tp, .inl (cB, 4000, .inl tx))]) [2] (by decide) rfl
        have hFc := va_free (wc := [(tp, .inl (cB, 4000, .inl tx))]) hD hS hA [2] rfl
        refine va_calli (va_runS (As := [.ref tp, .int 0, .int (nI n)]) (rest := []) ⟨hx, hb, hml, hown, hts⟩ (k_X9_adler l dC dI cB cI cJ cM tp 4000 tx n (by omega) (by omega) H.size) (va_cwS 3 hts gX9_pack_X9_adler rfl rfl rfl (by decide +kernel) ⟨Nat.le_of_ble_eq_true rfl, Nat.le_of_ble_eq_true rfl⟩) ⟨fun a U g mk q => by obtain ⟨q0, q1, qP, qK, qD⟩ := q; exact ⟨q0, q1, qP, va_K.moved (u := U) (U := U.calling g mk a) (Vm.Alike.refl U.vm) qK, qD⟩, fun U hU hW => ⟨rfl, by rw [hU], by rw [hU]; exact hPc, va_K.moved hW.alike hK, hDc.weaken (fun _ _ _ _ => trivial)⟩⟩ rfl rfl hl.1 rfl (lv_room (Nat.le_of_ble_eq_true rfl)) dX9_pack_204 ⟨(show 0 + 0 ≤ 0 by omega), (show 0 + 0 ≤ 0 by omega)⟩) hS (fun q _ h => hFc q h) hFc (fun r204 u t H1 locs ht hvm hw hB hz1 hk1 hS => ?_)
        have hP1 : va_P (dC, dI) vwCl [(tp, .inl (cB, 4000, .inl tx))] H1 := by rw [← ht]; exact hB.1
        have hD1 : va_D (va_A [(tp, .inl (cB, 4000, .inl tx))] H.size) [(tp, .inl (cB, 4000, .inl tx))] := hB.2.2
        obtain ⟨hP, hD⟩ := va_join (wr := [(h0, .inr (9, [m0, .ref pp, .int (nI (((L1 + zsl 256) + 7) / 8)), .int 0, m4, m5, m6, m7, m8, m9, m10, m11, m12, m13, m14, m15, m16, m17, m18, m19, m20, m21, m22, m23])), (pp, .inl (cB, 16384, .inl g5))]) (w1 := [(tp, .inl (cB, 4000, .inl tx))]) hP hD [2] [0, 1] rfl rfl (by decide) (by decide) hk1 hFc hP1 hD1
        generalize H1 = H at hP hS ⊢
        try dsimp only at hw
        have hP : va_P (dC, dI) vwCl [(h0, .inr (9, [m0, .ref pp, .int (nI (((L1 + zsl 256) + 7) / 8)), .int 0, m4, m5, m6, m7, m8, m9, m10, m11, m12, m13, m14, m15, m16, m17, m18, m19, m20, m21, m22, m23])), (pp, .inl (cB, 16384, .inl g5)), (tp, .inl (cB, 4000, .inl tx))] H := hP
        have hD : va_D A [(h0, .inr (9, [m0, .ref pp, .int (nI (((L1 + zsl 256) + 7) / 8)), .int 0, m4, m5, m6, m7, m8, m9, m10, m11, m12, m13, m14, m15, m16, m17, m18, m19, m20, m21, m22, m23])), (pp, .inl (cB, 16384, .inl g5)), (tp, .inl (cB, 4000, .inl tx))] := hD
        obtain rfl : r204 = zadler tx n := hw
        have e9 : ((L1 + zsl 256) + 7) / 8 = zPM tx n / 8 := by omega
        rw [e9] at hP hD
        have hP : va_P (dC, dI) vwCl [(h0, .inr (9, [m0, .ref pp, .int (nI (zPM tx n / 8)), .int 0, m4, m5, m6, m7, m8, m9, m10, m11, m12, m13, m14, m15, m16, m17, m18, m19, m20, m21, m22, m23])), (pp, .inl (cB, 16384, .inl g5)), (tp, .inl (cB, 4000, .inl tx))] H := hP
        have hD : va_D A [(h0, .inr (9, [m0, .ref pp, .int (nI (zPM tx n / 8)), .int 0, m4, m5, m6, m7, m8, m9, m10, m11, m12, m13, m14, m15, m16, m17, m18, m19, m20, m21, m22, m23])), (pp, .inl (cB, 16384, .inl g5)), (tp, .inl (cB, 4000, .inl tx))] := hD
        refine W.eq (g2 := F0 m 207 ls [.int (zadler tx n)]) rfl ?_
        refine lv_istore (lv' := [(5, .int (zadler tx n)), (0, .ref h0), (1, .ref tp), (2, .int 0), (3, .int (nI n)), (4, .int (nI i))]) hx hb dX9_pack_207 hl (by decide) rfl (fun ls hl => ?_)
        refine lv_bipush (v := 24) hx hb dX9_pack_209 (by decide) ?_
        refine lv_istore (lv' := [(6, .int 24), (5, .int (zadler tx n)), (0, .ref h0), (1, .ref tp), (2, .int 0), (3, .int (nI n)), (4, .int (nI i))]) hx hb dX9_pack_211 hl (by decide) rfl (fun ls hl => ?_)
        have cut213 : ∀ (fuel : Nat) (k1 : Nat) (V2 : Nat) (L2 : Nat) (g2 : Nat → Int32) (w : Int32), (w = nI (8 * k1) - 8) → (zhf V2 L2 (zadler tx n) k1 = zPV tx n) → (L2 + 8 * k1 = zPL tx n) → (zOut g2 V2 L2) → (k1 ≤ 4) → (L2 % 8 = 0) → (k1 < fuel) → ∀ (H : Heap) (locs : List Loc), va_P (dC, dI) vwCl [(h0, .inr (9, [m0, .ref pp, .int (nI (L2 / 8)), .int 0, m4, m5, m6, m7, m8, m9, m10, m11, m12, m13, m14, m15, m16, m17, m18, m19, m20, m21, m22, m23])), (pp, .inl (cB, 16384, .inl g2)), (tp, .inl (cB, 4000, .inl tx))] H → va_D A [(h0, .inr (9, [m0, .ref pp, .int (nI (L2 / 8)), .int 0, m4, m5, m6, m7, m8, m9, m10, m11, m12, m13, m14, m15, m16, m17, m18, m19, m20, m21, m22, m23])), (pp, .inl (cB, 16384, .inl g2)), (tp, .inl (cB, 4000, .inl tx))] → va_S A s.heap H locs → ∀ (ls : Array Slot), lv_has ls 9 [(0, .ref h0), (5, .int (zadler tx n)), (6, .int w)] → W p l e (headSpec wsX9_pack rm_X9_pack).room s m ([.ref h0, .ref tp, .int 0, .int (nI n)] : List Value).toArray below meth c H locs 0 0 (MQ below (q_X9_pack dC dI cB cI cJ cM h0 pp tp g tx n x2 x3 m0 m4 m5 m6 m7 m8 m9 m10 m11 m12 m13 m14 m15 m16 m17 m18 m19 m20 m21 m22 m23 A) ([.ref h0, .ref tp, .int 0, .int (nI n)] : List Value).toArray s 0 0 A) (F0 m 213 ls []) := by
          intro fuel
          induction fuel with
          | zero => intros; omega
          | succ fuel ihd =>
            intro k1 V2 L2 g2 w hw3 hV2 hL2 ho2 hk1 hL8 hfuel H locs hP hD hS ls hl
            refine lv_iload hx hb dX9_pack_213 (lv_at hl 2 rfl) ?_
            refine lv_if_lt (tgt := 249) hx hb dX9_pack_215 (by decide) (fun c215 => ?_) (fun c215 => ?_)
            · have hk0 := (z_shw (k := k1) hk1 hw3).1 c215
              have hL0 : L2 = zPL tx n := by omega
              have hV0 : V2 = zPV tx n := by rw [hk0] at hV2; exact hV2
              rw [hL0] at hP hD
              rw [hL0, hV0] at ho2
              have hP : va_P (dC, dI) vwCl [(h0, .inr (9, [m0, .ref pp, .int (nI (zPL tx n / 8)), .int 0, m4, m5, m6, m7, m8, m9, m10, m11, m12, m13, m14, m15, m16, m17, m18, m19, m20, m21, m22, m23])), (pp, .inl (cB, 16384, .inl g2)), (tp, .inl (cB, 4000, .inl tx))] H := hP
              have hD : va_D A [(h0, .inr (9, [m0, .ref pp, .int (nI (zPL tx n / 8)), .int 0, m4, m5, m6, m7, m8, m9, m10, m11, m12, m13, m14, m15, m16, m17, m18, m19, m20, m21, m22, m23])), (pp, .inl (cB, 16384, .inl g2)), (tp, .inl (cB, 4000, .inl tx))] := hD
              have hP9 := hP.sub (ws' := [(h0, .inr (9, [m0, .ref pp, .int (nI (zPL tx n / 8)), .int 0, m4, m5, m6, m7, m8, m9, m10, m11, m12, m13, m14, m15, m16, m17, m18, m19, m20, m21, m22, m23])), (pp, .inl (cB, 16384, .inl g2)), (tp, .inl (cB, 4000, .inl tx))]) [0, 1, 2] rfl
              have hD9 := hD.sub (ws' := [(h0, .inr (9, [m0, .ref pp, .int (nI (zPL tx n / 8)), .int 0, m4, m5, m6, m7, m8, m9, m10, m11, m12, m13, m14, m15, m16, m17, m18, m19, m20, m21, m22, m23])), (pp, .inl (cB, 16384, .inl g2)), (tp, .inl (cB, 4000, .inl tx))]) [0, 1, 2] (by decide) rfl
              exact W.vret hx hb hr (fun t ht hW => ⟨⟨g2, rfl, ⟨ho2, by omega⟩, ⟨by rw [ht]; exact hP9, va_K.moved hW.alike hK, hD9⟩⟩, hS.F ht⟩) hS.2.2 dX9_pack_249
            · obtain ⟨k2, hk2, hwk⟩ := (z_shw (k := k1) hk1 hw3).2 c215
              rw [hwk] at hl
              rw [hk2] at hV2
              refine lv_aload_n hx hb dX9_pack_218 rfl (lv_at hl 0 rfl) ?_
              refine va_get (D := (dC, dI)) (ci := 9) (v := .ref pp) (C := RX9) (T := TX9) (N := 24) hx hb hts (by decide +kernel) hown hK hP 0 rfl rfl 1 (by decide) (hts (.fieldLink RX9 12 "FixedPressModel" "packed" "[B") (by decide +kernel)) (fun _ h9 => h9) rfl dX9_pack_219 ?_
              refine lv_aload_n hx hb dX9_pack_222 rfl (lv_at hl 0 rfl) ?_
              refine va_get (D := (dC, dI)) (ci := 9) (v := .int (nI (L2 / 8))) (C := RX9) (T := TX9) (N := 24) hx hb hts (by decide +kernel) hown hK hP 0 rfl rfl 2 (by decide) (hts (.fieldLink RX9 16 "FixedPressModel" "packedLength" "I") (by decide +kernel)) (fun _ h9 => h9) rfl dX9_pack_223 ?_
              refine lv_iload hx hb dX9_pack_226 (lv_at hl 1 rfl) ?_
              refine lv_iload hx hb dX9_pack_228 (lv_at hl 2 rfl) ?_
              refine lv_iushr hx hb dX9_pack_230 rfl ?_
              refine lv_i2b hx hb dX9_pack_231 rfl ?_
              refine va_bast hx hb hK hP hD hS 1 0 rfl rfl (vp_in_nI (n := L2 / 8) (by omega) (by omega)) dX9_pack_232 (fun H locs hP hD hS => ?_)
              rw [nI_clamp (n := L2 / 8) (by omega)] at hP hD
              have hP : va_P (dC, dI) vwCl [(h0, .inr (9, [m0, .ref pp, .int (nI (L2 / 8)), .int 0, m4, m5, m6, m7, m8, m9, m10, m11, m12, m13, m14, m15, m16, m17, m18, m19, m20, m21, m22, m23])), (pp, .inl (cB, 16384, .inl (upd g2 (L2 / 8) (vp_nar .byte ((((zadler tx n).toUInt32 >>> ((nI (8 * k2)).toUInt32 &&& Int32.toUInt32 31)).toInt32).toInt8.toInt32))))), (tp, .inl (cB, 4000, .inl tx))] H := hP
              have hD : va_D A [(h0, .inr (9, [m0, .ref pp, .int (nI (L2 / 8)), .int 0, m4, m5, m6, m7, m8, m9, m10, m11, m12, m13, m14, m15, m16, m17, m18, m19, m20, m21, m22, m23])), (pp, .inl (cB, 16384, .inl (upd g2 (L2 / 8) (vp_nar .byte ((((zadler tx n).toUInt32 >>> ((nI (8 * k2)).toUInt32 &&& Int32.toUInt32 31)).toInt32).toInt8.toInt32))))), (tp, .inl (cB, 4000, .inl tx))] := hD
              rw [pk_vb] at hP hD
              have hP : va_P (dC, dI) vwCl [(h0, .inr (9, [m0, .ref pp, .int (nI (L2 / 8)), .int 0, m4, m5, m6, m7, m8, m9, m10, m11, m12, m13, m14, m15, m16, m17, m18, m19, m20, m21, m22, m23])), (pp, .inl (cB, 16384, .inl (upd g2 (L2 / 8) ((((zadler tx n).toUInt32 >>> ((nI (8 * k2)).toUInt32 &&& Int32.toUInt32 31)).toInt32).toInt8.toInt32)))), (tp, .inl (cB, 4000, .inl tx))] H := hP
              have hD : va_D A [(h0, .inr (9, [m0, .ref pp, .int (nI (L2 / 8)), .int 0, m4, m5, m6, m7, m8, m9, m10, m11, m12, m13, m14, m15, m16, m17, m18, m19, m20, m21, m22, m23])), (pp, .inl (cB, 16384, .inl (upd g2 (L2 / 8) ((((zadler tx n).toUInt32 >>> ((nI (8 * k2)).toUInt32 &&& Int32.toUInt32 31)).toInt32).toInt8.toInt32)))), (tp, .inl (cB, 4000, .inl tx))] := hD
              have hoN := zOut_byte (x := zadler tx n) (k := 8 * k2) ho2 hL8 (by omega)
              refine lv_aload_n hx hb dX9_pack_233 rfl (lv_at hl 0 rfl) ?_
              refine lv_dup hx hb dX9_pack_234 rfl ?_
              refine va_get (D := (dC, dI)) (ci := 9) (v := .int (nI (L2 / 8))) (C := RX9) (T := TX9) (N := 24) hx hb hts (by decide +kernel) hown hK hP 0 rfl rfl 2 (by decide) (hts (.fieldLink RX9 16 "FixedPressModel" "packedLength" "I") (by decide +kernel)) (fun _ h9 => h9) rfl dX9_pack_235 ?_
              refine lv_iconst (v := 1) hx hb dX9_pack_238 (by decide) ?_
              refine lv_iadd hx hb dX9_pack_239 ?_
              refine lv_topi (fun y_1 ey_1 => ?_)
              obtain rfl : y_1 = nI ((L2 + 8) / 8) := ey_1.trans ((nI_add (L2 / 8) 1).trans (congrArg nI (by omega)))
              refine va_put (D := (dC, dI)) (ci := 9) (v := .int (nI ((L2 + 8) / 8))) (ty := .int) (C := RX9) (T := TX9) (N := 24) hx hb hts (by decide +kernel) tyX9 tyX9_ok nmX9 hown hK hP hD hS 0 rfl rfl 2 (by decide) (hts (.fieldLink RX9 16 "FixedPressModel" "packedLength" "I") (by decide +kernel)) (fun _ h9 => h9) rfl (by decide +kernel) rfl rfl (Nat.le_of_ble_eq_true rfl) dX9_pack_240 (fun H locs hP hD hS => ?_)
              have hP : va_P (dC, dI) vwCl [(h0, .inr (9, [m0, .ref pp, .int (nI ((L2 + 8) / 8)), .int 0, m4, m5, m6, m7, m8, m9, m10, m11, m12, m13, m14, m15, m16, m17, m18, m19, m20, m21, m22, m23])), (pp, .inl (cB, 16384, .inl (upd g2 (L2 / 8) ((((zadler tx n).toUInt32 >>> ((nI (8 * k2)).toUInt32 &&& Int32.toUInt32 31)).toInt32).toInt8.toInt32)))), (tp, .inl (cB, 4000, .inl tx))] H := hP
              have hD : va_D A [(h0, .inr (9, [m0, .ref pp, .int (nI ((L2 + 8) / 8)), .int 0, m4, m5, m6, m7, m8, m9, m10, m11, m12, m13, m14, m15, m16, m17, m18, m19, m20, m21, m22, m23])), (pp, .inl (cB, 16384, .inl (upd g2 (L2 / 8) ((((zadler tx n).toUInt32 >>> ((nI (8 * k2)).toUInt32 &&& Int32.toUInt32 31)).toInt32).toInt8.toInt32)))), (tp, .inl (cB, 4000, .inl tx))] := hD
              refine lv_iinc (v := nI (8 * k2) - 8) (lv' := [(6, .int (nI (8 * k2) - 8)), (0, .ref h0), (5, .int (zadler tx n))]) hx hb dX9_pack_243 hl (k := 2) rfl (by rw [Int32.sub_eq_add_neg]; rfl) (by decide) rfl (fun ls hl => ?_)
              refine lv_goto (tgt := 213) hx hb dX9_pack_246 (by decide) ?_
              exact ihd k2 (V2 + (zadler tx n).toBitVec.toNat / 2 ^ (8 * k2) % 256 * 2 ^ L2) (L2 + 8) (upd g2 (L2 / 8) ((((zadler tx n).toUInt32 >>> ((nI (8 * k2)).toUInt32 &&& Int32.toUInt32 31)).toInt32).toInt8.toInt32)) (nI (8 * k2) - 8) (rfl) (hV2) (by omega) (hoN) (by omega) (by omega) (by omega) _ _ hP hD hS _ (lv_sub hl [1, 2, 0] rfl)
        exact cut213 (4 + 1) 4 (zsv (zPR tx n).1 (zPR tx n).2 256) (zPM tx n) g5 24 (by decide) (rfl) (rfl) (ho6) (by omega) (by omega) (by omega) _ _ hP hD hS _ (lv_sub hl [2, 1, 0] rfl)
      · have c48 : ¬ (n ≤ i) := fun h => c48 ((nI_leI (a := n) (b := i) (by omega) (by omega)).mpr h)
        refine lv_iconst (v := 2) hx hb dX9_pack_51 (by decide) ?_
        refine lv_istore (lv' := [(5, .int 2), (0, .ref h0), (1, .ref tp), (2, .int 0), (3, .int (nI n)), (4, .int (nI i))]) hx hb dX9_pack_52 hl (by decide) rfl (fun ls hl => ?_)
        refine lv_iconst (v := 0) hx hb dX9_pack_54 (by decide) ?_
        refine lv_istore (lv' := [(6, .int 0), (5, .int 2), (0, .ref h0), (1, .ref tp), (2, .int 0), (3, .int (nI n)), (4, .int (nI i))]) hx hb dX9_pack_55 hl (by decide) rfl (fun ls hl => ?_)
        refine lv_iconst (v := 1) hx hb dX9_pack_57 (by decide) ?_
        refine lv_istore (lv' := [(7, .int 1), (6, .int 0), (5, .int 2), (0, .ref h0), (1, .ref tp), (2, .int 0), (3, .int (nI n)), (4, .int (nI i))]) hx hb dX9_pack_58 hl (by decide) rfl (fun ls hl => ?_)
        have cut60 : ∀ (fuel : Nat) (dd : Nat) (bs : Nat) (wy : Nat), (dd ≤ i) → ((bs, wy) = zbst tx i (min 258 (n - i)) dd) → (bs ≤ 258) → (wy ≤ 4000) → (i - dd < fuel) → ∀ (H : Heap) (locs : List Loc), va_P (dC, dI) vwCl [(h0, .inr (9, [m0, .ref pp, .int (nI ((L1 + 7) / 8)), .int (nI (L1 % 8)), m4, m5, m6, m7, m8, m9, m10, m11, m12, m13, m14, m15, m16, m17, m18, m19, m20, m21, m22, m23])), (pp, .inl (cB, 16384, .inl g1)), (tp, .inl (cB, 4000, .inl tx))] H → va_D A [(h0, .inr (9, [m0, .ref pp, .int (nI ((L1 + 7) / 8)), .int (nI (L1 % 8)), m4, m5, m6, m7, m8, m9, m10, m11, m12, m13, m14, m15, m16, m17, m18, m19, m20, m21, m22, m23])), (pp, .inl (cB, 16384, .inl g1)), (tp, .inl (cB, 4000, .inl tx))] → va_S A s.heap H locs → ∀ (ls : Array Slot), lv_has ls 9 [(0, .ref h0), (1, .ref tp), (2, .int 0), (3, .int (nI n)), (4, .int (nI i)), (5, .int (nI bs)), (6, .int (nI wy)), (7, .int (nI (dd + 1)))] → W p l e (headSpec wsX9_pack rm_X9_pack).room s m ([.ref h0, .ref tp, .int 0, .int (nI n)] : List Value).toArray below meth c H locs 0 0 (MQ below (q_X9_pack dC dI cB cI cJ cM h0 pp tp g tx n x2 x3 m0 m4 m5 m6 m7 m8 m9 m10 m11 m12 m13 m14 m15 m16 m17 m18 m19 m20 m21 m22 m23 A) ([.ref h0, .ref tp, .int 0, .int (nI n)] : List Value).toArray s 0 0 A) (F0 m 60 ls []) := by
          intro fuel
          induction fuel with
          | zero => intros; omega
          | succ fuel ihb =>
            intro dd bs wy hdd hbw hb9 hw9 hfuel H locs hP hD hS ls hl
            refine lv_iload hx hb dX9_pack_60 (lv_at hl 7 rfl) ?_
            refine lv_iload hx hb dX9_pack_62 (lv_at hl 4 rfl) ?_
            refine lv_icmp_gt (tgt := 146) hx hb dX9_pack_64 (by decide) (fun c64 => ?_) (fun c64 => ?_)
            · have c64 : i < (dd + 1) := (nI_ltI (a := i) (b := (dd + 1)) (by omega) (by omega)).mp c64
              have hall : zbst tx i (min 258 (n - i)) i = (bs, wy) := by rw [show dd = i from by omega] at hbw; exact hbw.symm
              have hbd := zbst_bd tx i (min 258 (n - i)) i (Nat.le_refl _)
              rw [hall] at hbd
              dsimp only at hbd
              refine lv_iload hx hb dX9_pack_146 (lv_at hl 6 rfl) ?_
              refine lv_if_ne (tgt := 171) hx hb dX9_pack_148 (by decide) (fun c148 => ?_) (fun c148 => ?_)
              · have c148 : ¬ (wy = 0) := fun h => c148 ((nI_eq (a := wy) (b := 0) (by omega) (by omega)).mpr h)
                have hwy : wy ≠ 0 := by omega
                have hbd2 := hbd.2 hwy
                refine lv_aload_n hx hb dX9_pack_171 rfl (lv_at hl 0 rfl) ?_
                refine lv_iload hx hb dX9_pack_172 (lv_at hl 5 rfl) ?_
                refine lv_iload hx hb dX9_pack_174 (lv_at hl 6 rfl) ?_
                have hPc := hP.sub (ws' := [(h0, .inr (9, [m0, .ref pp, .int (nI ((L1 + 7) / 8)), .int (nI (L1 % 8)), m4, m5, m6, m7, m8, m9, m10, m11, m12, m13, m14, m15, m16, m17, m18, m19, m20, m21, m22, m23])), (pp, .inl (cB, 16384, .inl g1))]) [0, 1] rfl
                have hDc := hD.sub (ws' := [(h0, .inr (9, [m0, .ref pp, .int (nI ((L1 + 7) / 8)), .int (nI (L1 % 8)), m4, m5, m6, m7, m8, m9, m10, m11, m12, m13, m14, m15, m16, m17, m18, m19, m20, m21, m22, m23])), (pp, .inl (cB, 16384, .inl g1))]) [0, 1] (by decide) rfl
                have hFc := va_free (wc := [(h0, .inr (9, [m0, .ref pp, .int (nI ((L1 + 7) / 8)), .int (nI (L1 % 8)), m4, m5, m6, m7, m8, m9, m10, m11, m12, m13, m14, m15, m16, m17, m18, m19, m20, m21, m22, m23])), (pp, .inl (cB, 16384, .inl g1))]) hD hS hA [0, 1] rfl
                refine va_callv (va_runV (As := [.int (nI bs), .int (nI wy)]) (rest := []) ⟨hx, hb, hml, hown, hts⟩ (k_X9_copied l dC dI cB cI cJ cM h0 pp g1 V1 L1 bs wy m0 m4 m5 m6 m7 m8 m9 m10 m11 m12 m13 m14 m15 m16 m17 m18 m19 m20 m21 m22 m23 (ho1) (by omega) (by omega) (by omega) (by omega) (by omega) H.size) (cwV 2 hts gX9_pack_X9_copied rfl rfl rfl (by decide +kernel) ⟨Nat.le_of_ble_eq_true rfl, Nat.le_of_ble_eq_true rfl⟩) ⟨fun a U g mk q => by obtain ⟨q0, q1, qP, qK, qD⟩ := q; exact ⟨q0, q1, qP, va_K.moved (u := U) (U := U.calling g mk a) (Vm.Alike.refl U.vm) qK, qD⟩, va_recv hK hPc (ci := 9) (q0 := 0) rfl rfl, fun U hU hW => ⟨rfl, by rw [hU], by rw [hU]; exact hPc, va_K.moved hW.alike hK, hDc.weaken (fun _ _ _ _ => trivial)⟩⟩ rfl rfl hl.1 rfl (lv_room (Nat.le_of_ble_eq_true rfl)) dX9_pack_176 ⟨(show 0 + 0 ≤ 0 by omega), (show 0 + 0 ≤ 0 by omega)⟩) hS (fun q _ h => hFc q h) hFc (fun u t H1 locs ht hvm hw hB hz1 hk1 hS => ?_)
                obtain ⟨g4, kk, de⟩ := u
                have hP1 : va_P (dC, dI) vwCl [(h0, .inr (9, [m0, .ref pp, .int (nI (((zl4 L1 kk de) + 7) / 8)), .int (nI ((zl4 L1 kk de) % 8)), m4, m5, m6, m7, m8, m9, m10, m11, m12, m13, m14, m15, m16, m17, m18, m19, m20, m21, m22, m23])), (pp, .inl (cB, 16384, .inl g4))] H1 := by rw [← ht]; exact hB.1
                have hD1 : va_D (va_A [(h0, .inr (9, [m0, .ref pp, .int (nI ((L1 + 7) / 8)), .int (nI (L1 % 8)), m4, m5, m6, m7, m8, m9, m10, m11, m12, m13, m14, m15, m16, m17, m18, m19, m20, m21, m22, m23])), (pp, .inl (cB, 16384, .inl g1))] H.size) [(h0, .inr (9, [m0, .ref pp, .int (nI (((zl4 L1 kk de) + 7) / 8)), .int (nI ((zl4 L1 kk de) % 8)), m4, m5, m6, m7, m8, m9, m10, m11, m12, m13, m14, m15, m16, m17, m18, m19, m20, m21, m22, m23])), (pp, .inl (cB, 16384, .inl g4))] := hB.2.2
                obtain ⟨hP, hD⟩ := va_join (wr := [(tp, .inl (cB, 4000, .inl tx))]) (w1 := [(h0, .inr (9, [m0, .ref pp, .int (nI (((zl4 L1 kk de) + 7) / 8)), .int (nI ((zl4 L1 kk de) % 8)), m4, m5, m6, m7, m8, m9, m10, m11, m12, m13, m14, m15, m16, m17, m18, m19, m20, m21, m22, m23])), (pp, .inl (cB, 16384, .inl g4))]) hP hD [0, 1] [2] rfl rfl (by decide) (by decide) hk1 hFc hP1 hD1
                generalize H1 = H at hP hS ⊢
                try dsimp only at hw
                have hP : va_P (dC, dI) vwCl [(tp, .inl (cB, 4000, .inl tx)), (h0, .inr (9, [m0, .ref pp, .int (nI (((zl4 L1 kk de) + 7) / 8)), .int (nI ((zl4 L1 kk de) % 8)), m4, m5, m6, m7, m8, m9, m10, m11, m12, m13, m14, m15, m16, m17, m18, m19, m20, m21, m22, m23])), (pp, .inl (cB, 16384, .inl g4))] H := hP
                have hD : va_D A [(tp, .inl (cB, 4000, .inl tx)), (h0, .inr (9, [m0, .ref pp, .int (nI (((zl4 L1 kk de) + 7) / 8)), .int (nI ((zl4 L1 kk de) % 8)), m4, m5, m6, m7, m8, m9, m10, m11, m12, m13, m14, m15, m16, m17, m18, m19, m20, m21, m22, m23])), (pp, .inl (cB, 16384, .inl g4))] := hD
                obtain ⟨hzk, hzd, hw⟩ := hw
                have hoN : zRo g4 (zv4 V1 L1 bs wy kk de) ((zl4 L1 kk de)) := hw
                have hP : va_P (dC, dI) vwCl [(h0, .inr (9, [m0, .ref pp, .int (nI (((zl4 L1 kk de) + 7) / 8)), .int (nI ((zl4 L1 kk de) % 8)), m4, m5, m6, m7, m8, m9, m10, m11, m12, m13, m14, m15, m16, m17, m18, m19, m20, m21, m22, m23])), (pp, .inl (cB, 16384, .inl g4)), (tp, .inl (cB, 4000, .inl tx))] H := hP.sub [1, 2, 0] rfl
                have hD : va_D A [(h0, .inr (9, [m0, .ref pp, .int (nI (((zl4 L1 kk de) + 7) / 8)), .int (nI ((zl4 L1 kk de) % 8)), m4, m5, m6, m7, m8, m9, m10, m11, m12, m13, m14, m15, m16, m17, m18, m19, m20, m21, m22, m23])), (pp, .inl (cB, 16384, .inl g4)), (tp, .inl (cB, 4000, .inl tx))] := hD.sub [1, 2, 0] (by decide) rfl
                have hpkN := (zpk_copy (V := V1) (L := L1) (show i < n by omega) (congrArg Prod.fst hall) (congrArg Prod.snd hall) hwy hzk hzd).symm.trans hpk
                have hLN : zl4 L1 kk de ≤ 19 + 9 * (i + bs) := by have := zl4_le (L := L1) hzk hzd (by omega) (by omega) (by omega); omega
                refine W.eq (g2 := F0 m 179 ls []) rfl ?_
                refine lv_iload hx hb dX9_pack_179 (lv_at hl 4 rfl) ?_
                refine lv_iload hx hb dX9_pack_181 (lv_at hl 5 rfl) ?_
                refine lv_iadd hx hb dX9_pack_183 ?_
                refine lv_topi (fun y_2 ey_2 => ?_)
                obtain rfl : y_2 = nI (i + bs) := ey_2.trans (nI_add i bs)
                refine lv_istore (lv' := [(4, .int (nI (i + bs))), (0, .ref h0), (1, .ref tp), (2, .int 0), (3, .int (nI n)), (5, .int (nI bs)), (6, .int (nI wy)), (7, .int (nI (dd + 1)))]) hx hb dX9_pack_184 hl (by decide) rfl (fun ls hl => ?_)
                refine lv_goto (tgt := 45) hx hb dX9_pack_186 (by decide) ?_
                exact iha (i + bs) (zv4 V1 L1 bs wy kk de) (zl4 L1 kk de) g4 (by omega) (hpkN) (hoN) (hLN) (by omega) _ _ hP hD hS _ (lv_sub hl [1, 2, 3, 4, 0] rfl)
              · have c148 : wy = 0 := (nI_eq (a := wy) (b := 0) (by omega) (by omega)).mp c148
                have hz8 := zu8_lt (tx i)
                have hsl8 := zsl_le (zu8 (tx i))
                refine lv_aload_n hx hb dX9_pack_151 rfl (lv_at hl 0 rfl) ?_
                refine lv_aload_n hx hb dX9_pack_152 rfl (lv_at hl 1 rfl) ?_
                refine lv_iload_n hx hb dX9_pack_153 rfl (lv_at hl 2 rfl) ?_
                refine lv_iload hx hb dX9_pack_154 (lv_at hl 4 rfl) ?_
                refine lv_iadd hx hb dX9_pack_156 ?_
                refine lv_topi (fun y_3 ey_3 => ?_)
                obtain rfl : y_3 = nI i := ey_3.trans ((nI_add 0 i).trans (congrArg nI (Nat.zero_add i)))
                refine va_bald hx hb hK hP 2 0 rfl rfl (vp_in_nI (n := i) (by omega) (by omega)) dX9_pack_157 ?_
                rw [nI_clamp (n := i) (by omega)]
                refine lv_sipush (v := 255) hx hb dX9_pack_158 (by decide) ?_
                refine lv_iand hx hb dX9_pack_161 ?_
                refine lv_topi (fun y_4 ey_4 => ?_)
                obtain rfl : y_4 = nI (zu8 (tx i)) := ey_4.trans (zu8_eq (tx i))
                have hPc := hP.sub (ws' := [(h0, .inr (9, [m0, .ref pp, .int (nI ((L1 + 7) / 8)), .int (nI (L1 % 8)), m4, m5, m6, m7, m8, m9, m10, m11, m12, m13, m14, m15, m16, m17, m18, m19, m20, m21, m22, m23])), (pp, .inl (cB, 16384, .inl g1))]) [0, 1] rfl
                have hDc := hD.sub (ws' := [(h0, .inr (9, [m0, .ref pp, .int (nI ((L1 + 7) / 8)), .int (nI (L1 % 8)), m4, m5, m6, m7, m8, m9, m10, m11, m12, m13, m14, m15, m16, m17, m18, m19, m20, m21, m22, m23])), (pp, .inl (cB, 16384, .inl g1))]) [0, 1] (by decide) rfl
                have hFc := va_free (wc := [(h0, .inr (9, [m0, .ref pp, .int (nI ((L1 + 7) / 8)), .int (nI (L1 % 8)), m4, m5, m6, m7, m8, m9, m10, m11, m12, m13, m14, m15, m16, m17, m18, m19, m20, m21, m22, m23])), (pp, .inl (cB, 16384, .inl g1))]) hD hS hA [0, 1] rfl
                refine va_callv (va_runV (As := [.int (nI (zu8 (tx i)))]) (rest := []) ⟨hx, hb, hml, hown, hts⟩ (k_X9_symbol l dC dI cB cI cJ cM h0 pp g1 V1 L1 (zu8 (tx i)) m0 m4 m5 m6 m7 m8 m9 m10 m11 m12 m13 m14 m15 m16 m17 m18 m19 m20 m21 m22 m23 (ho1) (by omega) (by omega) H.size) (cwV 1 hts gX9_pack_X9_symbol rfl rfl rfl (by decide +kernel) ⟨Nat.le_of_ble_eq_true rfl, Nat.le_of_ble_eq_true rfl⟩) ⟨fun a U g mk q => by obtain ⟨q0, q1, qP, qK, qD⟩ := q; exact ⟨q0, q1, qP, va_K.moved (u := U) (U := U.calling g mk a) (Vm.Alike.refl U.vm) qK, qD⟩, va_recv hK hPc (ci := 9) (q0 := 0) rfl rfl, fun U hU hW => ⟨rfl, by rw [hU], by rw [hU]; exact hPc, va_K.moved hW.alike hK, hDc.weaken (fun _ _ _ _ => trivial)⟩⟩ rfl rfl hl.1 rfl (lv_room (Nat.le_of_ble_eq_true rfl)) dX9_pack_162 ⟨(show 0 + 0 ≤ 0 by omega), (show 0 + 0 ≤ 0 by omega)⟩) hS (fun q _ h => hFc q h) hFc (fun u t H1 locs ht hvm hw hB hz1 hk1 hS => ?_)
                obtain ⟨g4, rfl⟩ : ∃ z, z = u := ⟨_, rfl⟩
                have hP1 : va_P (dC, dI) vwCl [(h0, .inr (9, [m0, .ref pp, .int (nI (((L1 + zsl (zu8 (tx i))) + 7) / 8)), .int (nI ((L1 + zsl (zu8 (tx i))) % 8)), m4, m5, m6, m7, m8, m9, m10, m11, m12, m13, m14, m15, m16, m17, m18, m19, m20, m21, m22, m23])), (pp, .inl (cB, 16384, .inl g4))] H1 := by rw [← ht]; exact hB.1
                have hD1 : va_D (va_A [(h0, .inr (9, [m0, .ref pp, .int (nI ((L1 + 7) / 8)), .int (nI (L1 % 8)), m4, m5, m6, m7, m8, m9, m10, m11, m12, m13, m14, m15, m16, m17, m18, m19, m20, m21, m22, m23])), (pp, .inl (cB, 16384, .inl g1))] H.size) [(h0, .inr (9, [m0, .ref pp, .int (nI (((L1 + zsl (zu8 (tx i))) + 7) / 8)), .int (nI ((L1 + zsl (zu8 (tx i))) % 8)), m4, m5, m6, m7, m8, m9, m10, m11, m12, m13, m14, m15, m16, m17, m18, m19, m20, m21, m22, m23])), (pp, .inl (cB, 16384, .inl g4))] := hB.2.2
                obtain ⟨hP, hD⟩ := va_join (wr := [(tp, .inl (cB, 4000, .inl tx))]) (w1 := [(h0, .inr (9, [m0, .ref pp, .int (nI (((L1 + zsl (zu8 (tx i))) + 7) / 8)), .int (nI ((L1 + zsl (zu8 (tx i))) % 8)), m4, m5, m6, m7, m8, m9, m10, m11, m12, m13, m14, m15, m16, m17, m18, m19, m20, m21, m22, m23])), (pp, .inl (cB, 16384, .inl g4))]) hP hD [0, 1] [2] rfl rfl (by decide) (by decide) hk1 hFc hP1 hD1
                generalize H1 = H at hP hS ⊢
                try dsimp only at hw
                have hP : va_P (dC, dI) vwCl [(tp, .inl (cB, 4000, .inl tx)), (h0, .inr (9, [m0, .ref pp, .int (nI (((L1 + zsl (zu8 (tx i))) + 7) / 8)), .int (nI ((L1 + zsl (zu8 (tx i))) % 8)), m4, m5, m6, m7, m8, m9, m10, m11, m12, m13, m14, m15, m16, m17, m18, m19, m20, m21, m22, m23])), (pp, .inl (cB, 16384, .inl g4))] H := hP
                have hD : va_D A [(tp, .inl (cB, 4000, .inl tx)), (h0, .inr (9, [m0, .ref pp, .int (nI (((L1 + zsl (zu8 (tx i))) + 7) / 8)), .int (nI ((L1 + zsl (zu8 (tx i))) % 8)), m4, m5, m6, m7, m8, m9, m10, m11, m12, m13, m14, m15, m16, m17, m18, m19, m20, m21, m22, m23])), (pp, .inl (cB, 16384, .inl g4))] := hD
                have hoN : zRo g4 (zsv V1 L1 (zu8 (tx i))) ((L1 + zsl (zu8 (tx i)))) := hw
                have hP : va_P (dC, dI) vwCl [(h0, .inr (9, [m0, .ref pp, .int (nI (((L1 + zsl (zu8 (tx i))) + 7) / 8)), .int (nI ((L1 + zsl (zu8 (tx i))) % 8)), m4, m5, m6, m7, m8, m9, m10, m11, m12, m13, m14, m15, m16, m17, m18, m19, m20, m21, m22, m23])), (pp, .inl (cB, 16384, .inl g4)), (tp, .inl (cB, 4000, .inl tx))] H := hP.sub [1, 2, 0] rfl
                have hD : va_D A [(h0, .inr (9, [m0, .ref pp, .int (nI (((L1 + zsl (zu8 (tx i))) + 7) / 8)), .int (nI ((L1 + zsl (zu8 (tx i))) % 8)), m4, m5, m6, m7, m8, m9, m10, m11, m12, m13, m14, m15, m16, m17, m18, m19, m20, m21, m22, m23])), (pp, .inl (cB, 16384, .inl g4)), (tp, .inl (cB, 4000, .inl tx))] := hD.sub [1, 2, 0] (by decide) rfl
                have hpkN := (zpk_byte (V := V1) (L := L1) (show i < n by omega) (by rw [hall]; omega)).symm.trans hpk
                have hLN : L1 + zsl (zu8 (tx i)) ≤ 19 + 9 * (i + 1) := by omega
                refine W.eq (g2 := F0 m 165 ls []) rfl ?_
                refine lv_iinc (v := nI (i + 1)) (lv' := [(4, .int (nI (i + 1))), (0, .ref h0), (1, .ref tp), (2, .int 0), (3, .int (nI n)), (5, .int (nI bs)), (6, .int (nI wy)), (7, .int (nI (dd + 1)))]) hx hb dX9_pack_165 hl (k := 4) rfl (show nI i + Int32.ofInt 1 = _ from nI_add i 1) (by decide) rfl (fun ls hl => ?_)
                refine lv_goto (tgt := 186) hx hb dX9_pack_168 (by decide) ?_
                refine lv_goto (tgt := 45) hx hb dX9_pack_186 (by decide) ?_
                exact iha (i + 1) (zsv V1 L1 (zu8 (tx i))) (L1 + zsl (zu8 (tx i))) g4 (by omega) (hpkN) (hoN) (hLN) (by omega) _ _ hP hD hS _ (lv_sub hl [1, 2, 3, 4, 0] rfl)
            · have c64 : ¬ (i < (dd + 1)) := fun h => c64 ((nI_ltI (a := i) (b := (dd + 1)) (by omega) (by omega)).mpr h)
              refine lv_iload hx hb dX9_pack_67 (lv_at hl 5 rfl) ?_
              refine lv_sipush (v := 258) hx hb dX9_pack_69 (by decide) ?_
              refine lv_icmp_ge (tgt := 146) hx hb dX9_pack_72 (by decide) (fun c72 => ?_) (fun c72 => ?_)
              · have c72 : 258 ≤ bs := (nI_leI (a := 258) (b := bs) (by omega) (by omega)).mp c72
                have hall : zbst tx i (min 258 (n - i)) i = (bs, wy) := (zbst_stop hdd (by rw [← hbw]; exact c72)).trans hbw.symm
                have hbd := zbst_bd tx i (min 258 (n - i)) i (Nat.le_refl _)
                rw [hall] at hbd
                dsimp only at hbd
                refine lv_iload hx hb dX9_pack_146 (lv_at hl 6 rfl) ?_
                refine lv_if_ne (tgt := 171) hx hb dX9_pack_148 (by decide) (fun c148 => ?_) (fun c148 => ?_)
                · have c148 : ¬ (wy = 0) := fun h => c148 ((nI_eq (a := wy) (b := 0) (by omega) (by omega)).mpr h)
                  have hwy : wy ≠ 0 := by omega
                  have hbd2 := hbd.2 hwy
                  refine lv_aload_n hx hb dX9_pack_171 rfl (lv_at hl 0 rfl) ?_
                  refine lv_iload hx hb dX9_pack_172 (lv_at hl 5 rfl) ?_
                  refine lv_iload hx hb dX9_pack_174 (lv_at hl 6 rfl) ?_
                  have hPc := hP.sub (ws' := [(h0, .inr (9, [m0, .ref pp, .int (nI ((L1 + 7) / 8)), .int (nI (L1 % 8)), m4, m5, m6, m7, m8, m9, m10, m11, m12, m13, m14, m15, m16, m17, m18, m19, m20, m21, m22, m23])), (pp, .inl (cB, 16384, .inl g1))]) [0, 1] rfl
                  have hDc := hD.sub (ws' := [(h0, .inr (9, [m0, .ref pp, .int (nI ((L1 + 7) / 8)), .int (nI (L1 % 8)), m4, m5, m6, m7, m8, m9, m10, m11, m12, m13, m14, m15, m16, m17, m18, m19, m20, m21, m22, m23])), (pp, .inl (cB, 16384, .inl g1))]) [0, 1] (by decide) rfl
                  have hFc := va_free (wc := [(h0, .inr (9, [m0, .ref pp, .int (nI ((L1 + 7) / 8)), .int (nI (L1 % 8)), m4, m5, m6, m7, m8, m9, m10, m11, m12, m13, m14, m15, m16, m17, m18, m19, m20, m21, m22, m23])), (pp, .inl (cB, 16384, .inl g1))]) hD hS hA [0, 1] rfl
                  refine va_callv (va_runV (As := [.int (nI bs), .int (nI wy)]) (rest := []) ⟨hx, hb, hml, hown, hts⟩ (k_X9_copied l dC dI cB cI cJ cM h0 pp g1 V1 L1 bs wy m0 m4 m5 m6 m7 m8 m9 m10 m11 m12 m13 m14 m15 m16 m17 m18 m19 m20 m21 m22 m23 (ho1) (by omega) (by omega) (by omega) (by omega) (by omega) H.size) (cwV 2 hts gX9_pack_X9_copied rfl rfl rfl (by decide +kernel) ⟨Nat.le_of_ble_eq_true rfl, Nat.le_of_ble_eq_true rfl⟩) ⟨fun a U g mk q => by obtain ⟨q0, q1, qP, qK, qD⟩ := q; exact ⟨q0, q1, qP, va_K.moved (u := U) (U := U.calling g mk a) (Vm.Alike.refl U.vm) qK, qD⟩, va_recv hK hPc (ci := 9) (q0 := 0) rfl rfl, fun U hU hW => ⟨rfl, by rw [hU], by rw [hU]; exact hPc, va_K.moved hW.alike hK, hDc.weaken (fun _ _ _ _ => trivial)⟩⟩ rfl rfl hl.1 rfl (lv_room (Nat.le_of_ble_eq_true rfl)) dX9_pack_176 ⟨(show 0 + 0 ≤ 0 by omega), (show 0 + 0 ≤ 0 by omega)⟩) hS (fun q _ h => hFc q h) hFc (fun u t H1 locs ht hvm hw hB hz1 hk1 hS => ?_)
                  obtain ⟨g4, kk, de⟩ := u
                  have hP1 : va_P (dC, dI) vwCl [(h0, .inr (9, [m0, .ref pp, .int (nI (((zl4 L1 kk de) + 7) / 8)), .int (nI ((zl4 L1 kk de) % 8)), m4, m5, m6, m7, m8, m9, m10, m11, m12, m13, m14, m15, m16, m17, m18, m19, m20, m21, m22, m23])), (pp, .inl (cB, 16384, .inl g4))] H1 := by rw [← ht]; exact hB.1
                  have hD1 : va_D (va_A [(h0, .inr (9, [m0, .ref pp, .int (nI ((L1 + 7) / 8)), .int (nI (L1 % 8)), m4, m5, m6, m7, m8, m9, m10, m11, m12, m13, m14, m15, m16, m17, m18, m19, m20, m21, m22, m23])), (pp, .inl (cB, 16384, .inl g1))] H.size) [(h0, .inr (9, [m0, .ref pp, .int (nI (((zl4 L1 kk de) + 7) / 8)), .int (nI ((zl4 L1 kk de) % 8)), m4, m5, m6, m7, m8, m9, m10, m11, m12, m13, m14, m15, m16, m17, m18, m19, m20, m21, m22, m23])), (pp, .inl (cB, 16384, .inl g4))] := hB.2.2
                  obtain ⟨hP, hD⟩ := va_join (wr := [(tp, .inl (cB, 4000, .inl tx))]) (w1 := [(h0, .inr (9, [m0, .ref pp, .int (nI (((zl4 L1 kk de) + 7) / 8)), .int (nI ((zl4 L1 kk de) % 8)), m4, m5, m6, m7, m8, m9, m10, m11, m12, m13, m14, m15, m16, m17, m18, m19, m20, m21, m22, m23])), (pp, .inl (cB, 16384, .inl g4))]) hP hD [0, 1] [2] rfl rfl (by decide) (by decide) hk1 hFc hP1 hD1
                  generalize H1 = H at hP hS ⊢
                  try dsimp only at hw
                  have hP : va_P (dC, dI) vwCl [(tp, .inl (cB, 4000, .inl tx)), (h0, .inr (9, [m0, .ref pp, .int (nI (((zl4 L1 kk de) + 7) / 8)), .int (nI ((zl4 L1 kk de) % 8)), m4, m5, m6, m7, m8, m9, m10, m11, m12, m13, m14, m15, m16, m17, m18, m19, m20, m21, m22, m23])), (pp, .inl (cB, 16384, .inl g4))] H := hP
                  have hD : va_D A [(tp, .inl (cB, 4000, .inl tx)), (h0, .inr (9, [m0, .ref pp, .int (nI (((zl4 L1 kk de) + 7) / 8)), .int (nI ((zl4 L1 kk de) % 8)), m4, m5, m6, m7, m8, m9, m10, m11, m12, m13, m14, m15, m16, m17, m18, m19, m20, m21, m22, m23])), (pp, .inl (cB, 16384, .inl g4))] := hD
                  obtain ⟨hzk, hzd, hw⟩ := hw
                  have hoN : zRo g4 (zv4 V1 L1 bs wy kk de) ((zl4 L1 kk de)) := hw
                  have hP : va_P (dC, dI) vwCl [(h0, .inr (9, [m0, .ref pp, .int (nI (((zl4 L1 kk de) + 7) / 8)), .int (nI ((zl4 L1 kk de) % 8)), m4, m5, m6, m7, m8, m9, m10, m11, m12, m13, m14, m15, m16, m17, m18, m19, m20, m21, m22, m23])), (pp, .inl (cB, 16384, .inl g4)), (tp, .inl (cB, 4000, .inl tx))] H := hP.sub [1, 2, 0] rfl
                  have hD : va_D A [(h0, .inr (9, [m0, .ref pp, .int (nI (((zl4 L1 kk de) + 7) / 8)), .int (nI ((zl4 L1 kk de) % 8)), m4, m5, m6, m7, m8, m9, m10, m11, m12, m13, m14, m15, m16, m17, m18, m19, m20, m21, m22, m23])), (pp, .inl (cB, 16384, .inl g4)), (tp, .inl (cB, 4000, .inl tx))] := hD.sub [1, 2, 0] (by decide) rfl
                  have hpkN := (zpk_copy (V := V1) (L := L1) (show i < n by omega) (congrArg Prod.fst hall) (congrArg Prod.snd hall) hwy hzk hzd).symm.trans hpk
                  have hLN : zl4 L1 kk de ≤ 19 + 9 * (i + bs) := by have := zl4_le (L := L1) hzk hzd (by omega) (by omega) (by omega); omega
                  refine W.eq (g2 := F0 m 179 ls []) rfl ?_
                  refine lv_iload hx hb dX9_pack_179 (lv_at hl 4 rfl) ?_
                  refine lv_iload hx hb dX9_pack_181 (lv_at hl 5 rfl) ?_
                  refine lv_iadd hx hb dX9_pack_183 ?_
                  refine lv_topi (fun y_5 ey_5 => ?_)
                  obtain rfl : y_5 = nI (i + bs) := ey_5.trans (nI_add i bs)
                  refine lv_istore (lv' := [(4, .int (nI (i + bs))), (0, .ref h0), (1, .ref tp), (2, .int 0), (3, .int (nI n)), (5, .int (nI bs)), (6, .int (nI wy)), (7, .int (nI (dd + 1)))]) hx hb dX9_pack_184 hl (by decide) rfl (fun ls hl => ?_)
                  refine lv_goto (tgt := 45) hx hb dX9_pack_186 (by decide) ?_
                  exact iha (i + bs) (zv4 V1 L1 bs wy kk de) (zl4 L1 kk de) g4 (by omega) (hpkN) (hoN) (hLN) (by omega) _ _ hP hD hS _ (lv_sub hl [1, 2, 3, 4, 0] rfl)
                · have c148 : wy = 0 := (nI_eq (a := wy) (b := 0) (by omega) (by omega)).mp c148
                  have hz8 := zu8_lt (tx i)
                  have hsl8 := zsl_le (zu8 (tx i))
                  refine lv_aload_n hx hb dX9_pack_151 rfl (lv_at hl 0 rfl) ?_
                  refine lv_aload_n hx hb dX9_pack_152 rfl (lv_at hl 1 rfl) ?_
                  refine lv_iload_n hx hb dX9_pack_153 rfl (lv_at hl 2 rfl) ?_
                  refine lv_iload hx hb dX9_pack_154 (lv_at hl 4 rfl) ?_
                  refine lv_iadd hx hb dX9_pack_156 ?_
                  refine lv_topi (fun y_6 ey_6 => ?_)
                  obtain rfl : y_6 = nI i := ey_6.trans ((nI_add 0 i).trans (congrArg nI (Nat.zero_add i)))
                  refine va_bald hx hb hK hP 2 0 rfl rfl (vp_in_nI (n := i) (by omega) (by omega)) dX9_pack_157 ?_
                  rw [nI_clamp (n := i) (by omega)]
                  refine lv_sipush (v := 255) hx hb dX9_pack_158 (by decide) ?_
                  refine lv_iand hx hb dX9_pack_161 ?_
                  refine lv_topi (fun y_7 ey_7 => ?_)
                  obtain rfl : y_7 = nI (zu8 (tx i)) := ey_7.trans (zu8_eq (tx i))
                  have hPc := hP.sub (ws' := [(h0, .inr (9, [m0, .ref pp, .int (nI ((L1 + 7) / 8)), .int (nI (L1 % 8)), m4, m5, m6, m7, m8, m9, m10, m11, m12, m13, m14, m15, m16, m17, m18, m19, m20, m21, m22, m23])), (pp, .inl (cB, 16384, .inl g1))]) [0, 1] rfl
                  have hDc := hD.sub (ws' := [(h0, .inr (9, [m0, .ref pp, .int (nI ((L1 + 7) / 8)), .int (nI (L1 % 8)), m4, m5, m6, m7, m8, m9, m10, m11, m12, m13, m14, m15, m16, m17, m18, m19, m20, m21, m22, m23])), (pp, .inl (cB, 16384, .inl g1))]) [0, 1] (by decide) rfl
                  have hFc := va_free (wc := [(h0, .inr (9, [m0, .ref pp, .int (nI ((L1 + 7) / 8)), .int (nI (L1 % 8)), m4, m5, m6, m7, m8, m9, m10, m11, m12, m13, m14, m15, m16, m17, m18, m19, m20, m21, m22, m23])), (pp, .inl (cB, 16384, .inl g1))]) hD hS hA [0, 1] rfl
                  refine va_callv (va_runV (As := [.int (nI (zu8 (tx i)))]) (rest := []) ⟨hx, hb, hml, hown, hts⟩ (k_X9_symbol l dC dI cB cI cJ cM h0 pp g1 V1 L1 (zu8 (tx i)) m0 m4 m5 m6 m7 m8 m9 m10 m11 m12 m13 m14 m15 m16 m17 m18 m19 m20 m21 m22 m23 (ho1) (by omega) (by omega) H.size) (cwV 1 hts gX9_pack_X9_symbol rfl rfl rfl (by decide +kernel) ⟨Nat.le_of_ble_eq_true rfl, Nat.le_of_ble_eq_true rfl⟩) ⟨fun a U g mk q => by obtain ⟨q0, q1, qP, qK, qD⟩ := q; exact ⟨q0, q1, qP, va_K.moved (u := U) (U := U.calling g mk a) (Vm.Alike.refl U.vm) qK, qD⟩, va_recv hK hPc (ci := 9) (q0 := 0) rfl rfl, fun U hU hW => ⟨rfl, by rw [hU], by rw [hU]; exact hPc, va_K.moved hW.alike hK, hDc.weaken (fun _ _ _ _ => trivial)⟩⟩ rfl rfl hl.1 rfl (lv_room (Nat.le_of_ble_eq_true rfl)) dX9_pack_162 ⟨(show 0 + 0 ≤ 0 by omega), (show 0 + 0 ≤ 0 by omega)⟩) hS (fun q _ h => hFc q h) hFc (fun u t H1 locs ht hvm hw hB hz1 hk1 hS => ?_)
                  obtain ⟨g4, rfl⟩ : ∃ z, z = u := ⟨_, rfl⟩
                  have hP1 : va_P (dC, dI) vwCl [(h0, .inr (9, [m0, .ref pp, .int (nI (((L1 + zsl (zu8 (tx i))) + 7) / 8)), .int (nI ((L1 + zsl (zu8 (tx i))) % 8)), m4, m5, m6, m7, m8, m9, m10, m11, m12, m13, m14, m15, m16, m17, m18, m19, m20, m21, m22, m23])), (pp, .inl (cB, 16384, .inl g4))] H1 := by rw [← ht]; exact hB.1
                  have hD1 : va_D (va_A [(h0, .inr (9, [m0, .ref pp, .int (nI ((L1 + 7) / 8)), .int (nI (L1 % 8)), m4, m5, m6, m7, m8, m9, m10, m11, m12, m13, m14, m15, m16, m17, m18, m19, m20, m21, m22, m23])), (pp, .inl (cB, 16384, .inl g1))] H.size) [(h0, .inr (9, [m0, .ref pp, .int (nI (((L1 + zsl (zu8 (tx i))) + 7) / 8)), .int (nI ((L1 + zsl (zu8 (tx i))) % 8)), m4, m5, m6, m7, m8, m9, m10, m11, m12, m13, m14, m15, m16, m17, m18, m19, m20, m21, m22, m23])), (pp, .inl (cB, 16384, .inl g4))] := hB.2.2
                  obtain ⟨hP, hD⟩ := va_join (wr := [(tp, .inl (cB, 4000, .inl tx))]) (w1 := [(h0, .inr (9, [m0, .ref pp, .int (nI (((L1 + zsl (zu8 (tx i))) + 7) / 8)), .int (nI ((L1 + zsl (zu8 (tx i))) % 8)), m4, m5, m6, m7, m8, m9, m10, m11, m12, m13, m14, m15, m16, m17, m18, m19, m20, m21, m22, m23])), (pp, .inl (cB, 16384, .inl g4))]) hP hD [0, 1] [2] rfl rfl (by decide) (by decide) hk1 hFc hP1 hD1
                  generalize H1 = H at hP hS ⊢
                  try dsimp only at hw
                  have hP : va_P (dC, dI) vwCl [(tp, .inl (cB, 4000, .inl tx)), (h0, .inr (9, [m0, .ref pp, .int (nI (((L1 + zsl (zu8 (tx i))) + 7) / 8)), .int (nI ((L1 + zsl (zu8 (tx i))) % 8)), m4, m5, m6, m7, m8, m9, m10, m11, m12, m13, m14, m15, m16, m17, m18, m19, m20, m21, m22, m23])), (pp, .inl (cB, 16384, .inl g4))] H := hP
                  have hD : va_D A [(tp, .inl (cB, 4000, .inl tx)), (h0, .inr (9, [m0, .ref pp, .int (nI (((L1 + zsl (zu8 (tx i))) + 7) / 8)), .int (nI ((L1 + zsl (zu8 (tx i))) % 8)), m4, m5, m6, m7, m8, m9, m10, m11, m12, m13, m14, m15, m16, m17, m18, m19, m20, m21, m22, m23])), (pp, .inl (cB, 16384, .inl g4))] := hD
                  have hoN : zRo g4 (zsv V1 L1 (zu8 (tx i))) ((L1 + zsl (zu8 (tx i)))) := hw
                  have hP : va_P (dC, dI) vwCl [(h0, .inr (9, [m0, .ref pp, .int (nI (((L1 + zsl (zu8 (tx i))) + 7) / 8)), .int (nI ((L1 + zsl (zu8 (tx i))) % 8)), m4, m5, m6, m7, m8, m9, m10, m11, m12, m13, m14, m15, m16, m17, m18, m19, m20, m21, m22, m23])), (pp, .inl (cB, 16384, .inl g4)), (tp, .inl (cB, 4000, .inl tx))] H := hP.sub [1, 2, 0] rfl
                  have hD : va_D A [(h0, .inr (9, [m0, .ref pp, .int (nI (((L1 + zsl (zu8 (tx i))) + 7) / 8)), .int (nI ((L1 + zsl (zu8 (tx i))) % 8)), m4, m5, m6, m7, m8, m9, m10, m11, m12, m13, m14, m15, m16, m17, m18, m19, m20, m21, m22, m23])), (pp, .inl (cB, 16384, .inl g4)), (tp, .inl (cB, 4000, .inl tx))] := hD.sub [1, 2, 0] (by decide) rfl
                  have hpkN := (zpk_byte (V := V1) (L := L1) (show i < n by omega) (by rw [hall]; omega)).symm.trans hpk
                  have hLN : L1 + zsl (zu8 (tx i)) ≤ 19 + 9 * (i + 1) := by omega
                  refine W.eq (g2 := F0 m 165 ls []) rfl ?_
                  refine lv_iinc (v := nI (i + 1)) (lv' := [(4, .int (nI (i + 1))), (0, .ref h0), (1, .ref tp), (2, .int 0), (3, .int (nI n)), (5, .int (nI bs)), (6, .int (nI wy)), (7, .int (nI (dd + 1)))]) hx hb dX9_pack_165 hl (k := 4) rfl (show nI i + Int32.ofInt 1 = _ from nI_add i 1) (by decide) rfl (fun ls hl => ?_)
                  refine lv_goto (tgt := 186) hx hb dX9_pack_168 (by decide) ?_
                  refine lv_goto (tgt := 45) hx hb dX9_pack_186 (by decide) ?_
                  exact iha (i + 1) (zsv V1 L1 (zu8 (tx i))) (L1 + zsl (zu8 (tx i))) g4 (by omega) (hpkN) (hoN) (hLN) (by omega) _ _ hP hD hS _ (lv_sub hl [1, 2, 3, 4, 0] rfl)
              · have c72 : ¬ (258 ≤ bs) := fun h => c72 ((nI_leI (a := 258) (b := bs) (by omega) (by omega)).mpr h)
                refine lv_iconst (v := 0) hx hb dX9_pack_75 (by decide) ?_
                refine lv_istore (lv' := [(8, .int 0), (0, .ref h0), (1, .ref tp), (2, .int 0), (3, .int (nI n)), (4, .int (nI i)), (5, .int (nI bs)), (6, .int (nI wy)), (7, .int (nI (dd + 1)))]) hx hb dX9_pack_76 hl (by decide) rfl (fun ls hl => ?_)
                have cut78 : ∀ (fuel : Nat) (k : Nat), (k ≤ min 258 (n - i)) → (∀ m, m < k → tx (i - (dd + 1) + m) = tx (i + m)) → (258 - k < fuel) → ∀ (H : Heap) (locs : List Loc), va_P (dC, dI) vwCl [(h0, .inr (9, [m0, .ref pp, .int (nI ((L1 + 7) / 8)), .int (nI (L1 % 8)), m4, m5, m6, m7, m8, m9, m10, m11, m12, m13, m14, m15, m16, m17, m18, m19, m20, m21, m22, m23])), (pp, .inl (cB, 16384, .inl g1)), (tp, .inl (cB, 4000, .inl tx))] H → va_D A [(h0, .inr (9, [m0, .ref pp, .int (nI ((L1 + 7) / 8)), .int (nI (L1 % 8)), m4, m5, m6, m7, m8, m9, m10, m11, m12, m13, m14, m15, m16, m17, m18, m19, m20, m21, m22, m23])), (pp, .inl (cB, 16384, .inl g1)), (tp, .inl (cB, 4000, .inl tx))] → va_S A s.heap H locs → ∀ (ls : Array Slot), lv_has ls 9 [(0, .ref h0), (1, .ref tp), (2, .int 0), (3, .int (nI n)), (4, .int (nI i)), (5, .int (nI bs)), (6, .int (nI wy)), (7, .int (nI (dd + 1))), (8, .int (nI k))] → W p l e (headSpec wsX9_pack rm_X9_pack).room s m ([.ref h0, .ref tp, .int 0, .int (nI n)] : List Value).toArray below meth c H locs 0 0 (MQ below (q_X9_pack dC dI cB cI cJ cM h0 pp tp g tx n x2 x3 m0 m4 m5 m6 m7 m8 m9 m10 m11 m12 m13 m14 m15 m16 m17 m18 m19 m20 m21 m22 m23 A) ([.ref h0, .ref tp, .int 0, .int (nI n)] : List Value).toArray s 0 0 A) (F0 m 78 ls []) := by
                  intro fuel
                  induction fuel with
                  | zero => intros; omega
                  | succ fuel ihc =>
                    intro k hk hal hfuel H locs hP hD hS ls hl
                    refine lv_iload hx hb dX9_pack_78 (lv_at hl 8 rfl) ?_
                    refine lv_sipush (v := 258) hx hb dX9_pack_80 (by decide) ?_
                    refine lv_icmp_ge (tgt := 125) hx hb dX9_pack_83 (by decide) (fun c83 => ?_) (fun c83 => ?_)
                    · have c83 : 258 ≤ k := (nI_leI (a := 258) (b := k) (by omega) (by omega)).mp c83
                      have hml : zml tx i (i - (dd + 1)) (min 258 (n - i)) = k := zml_of (by omega) hal (Or.inl (by omega))
                      have hzs := zbst_s tx i (min 258 (n - i)) dd
                      rw [hml, ← hbw] at hzs
                      dsimp only at hzs
                      refine lv_iload hx hb dX9_pack_125 (lv_at hl 8 rfl) ?_
                      refine lv_iload hx hb dX9_pack_127 (lv_at hl 5 rfl) ?_
                      refine lv_icmp_le (tgt := 140) hx hb dX9_pack_129 (by decide) (fun c129 => ?_) (fun c129 => ?_)
                      · have c129 : k ≤ bs := (nI_leI (a := k) (b := bs) (by omega) (by omega)).mp c129
                        refine lv_iinc (v := nI (dd + 1 + 1)) (lv' := [(7, .int (nI (dd + 1 + 1))), (0, .ref h0), (1, .ref tp), (2, .int 0), (3, .int (nI n)), (4, .int (nI i)), (5, .int (nI bs)), (6, .int (nI wy)), (8, .int (nI k))]) hx hb dX9_pack_140 hl (k := 7) rfl (show nI (dd + 1) + Int32.ofInt 1 = _ from nI_add (dd + 1) 1) (by decide) rfl (fun ls hl => ?_)
                        refine lv_goto (tgt := 60) hx hb dX9_pack_143 (by decide) ?_
                        exact ihb (dd + 1) bs wy (by omega) (by rw [hzs, if_neg (by omega)]) (by omega) (by omega) (by omega) _ _ hP hD hS _ (lv_sub hl [1, 2, 3, 4, 5, 6, 7, 0] rfl)
                      · have c129 : ¬ (k ≤ bs) := fun h => c129 ((nI_leI (a := k) (b := bs) (by omega) (by omega)).mpr h)
                        refine lv_iload hx hb dX9_pack_132 (lv_at hl 8 rfl) ?_
                        refine lv_istore (lv' := [(5, .int (nI k)), (0, .ref h0), (1, .ref tp), (2, .int 0), (3, .int (nI n)), (4, .int (nI i)), (6, .int (nI wy)), (7, .int (nI (dd + 1))), (8, .int (nI k))]) hx hb dX9_pack_134 hl (by decide) rfl (fun ls hl => ?_)
                        refine lv_iload hx hb dX9_pack_136 (lv_at hl 7 rfl) ?_
                        refine lv_istore (lv' := [(6, .int (nI (dd + 1))), (5, .int (nI k)), (0, .ref h0), (1, .ref tp), (2, .int 0), (3, .int (nI n)), (4, .int (nI i)), (7, .int (nI (dd + 1))), (8, .int (nI k))]) hx hb dX9_pack_138 hl (by decide) rfl (fun ls hl => ?_)
                        refine lv_iinc (v := nI (dd + 1 + 1)) (lv' := [(7, .int (nI (dd + 1 + 1))), (6, .int (nI (dd + 1))), (5, .int (nI k)), (0, .ref h0), (1, .ref tp), (2, .int 0), (3, .int (nI n)), (4, .int (nI i)), (8, .int (nI k))]) hx hb dX9_pack_140 hl (k := 7) rfl (show nI (dd + 1) + Int32.ofInt 1 = _ from nI_add (dd + 1) 1) (by decide) rfl (fun ls hl => ?_)
                        refine lv_goto (tgt := 60) hx hb dX9_pack_143 (by decide) ?_
                        exact ihb (dd + 1) k (dd + 1) (by omega) (by rw [hzs, if_pos (by omega)]) (by omega) (by omega) (by omega) _ _ hP hD hS _ (lv_sub hl [3, 4, 5, 6, 7, 2, 1, 0] rfl)
                    · have c83 : ¬ (258 ≤ k) := fun h => c83 ((nI_leI (a := 258) (b := k) (by omega) (by omega)).mpr h)
                      refine lv_iload hx hb dX9_pack_86 (lv_at hl 4 rfl) ?_
                      refine lv_iload hx hb dX9_pack_88 (lv_at hl 8 rfl) ?_
                      refine lv_iadd hx hb dX9_pack_90 ?_
                      refine lv_topi (fun y_8 ey_8 => ?_)
                      obtain rfl : y_8 = nI (i + k) := ey_8.trans (nI_add i k)
                      refine lv_iload_n hx hb dX9_pack_91 rfl (lv_at hl 3 rfl) ?_
                      refine lv_icmp_ge (tgt := 125) hx hb dX9_pack_92 (by decide) (fun c92 => ?_) (fun c92 => ?_)
                      · have c92 : n ≤ (i + k) := (nI_leI (a := n) (b := (i + k)) (by omega) (by omega)).mp c92
                        have hml : zml tx i (i - (dd + 1)) (min 258 (n - i)) = k := zml_of (by omega) hal (Or.inl (by omega))
                        have hzs := zbst_s tx i (min 258 (n - i)) dd
                        rw [hml, ← hbw] at hzs
                        dsimp only at hzs
                        refine lv_iload hx hb dX9_pack_125 (lv_at hl 8 rfl) ?_
                        refine lv_iload hx hb dX9_pack_127 (lv_at hl 5 rfl) ?_
                        refine lv_icmp_le (tgt := 140) hx hb dX9_pack_129 (by decide) (fun c129 => ?_) (fun c129 => ?_)
                        · have c129 : k ≤ bs := (nI_leI (a := k) (b := bs) (by omega) (by omega)).mp c129
                          refine lv_iinc (v := nI (dd + 1 + 1)) (lv' := [(7, .int (nI (dd + 1 + 1))), (0, .ref h0), (1, .ref tp), (2, .int 0), (3, .int (nI n)), (4, .int (nI i)), (5, .int (nI bs)), (6, .int (nI wy)), (8, .int (nI k))]) hx hb dX9_pack_140 hl (k := 7) rfl (show nI (dd + 1) + Int32.ofInt 1 = _ from nI_add (dd + 1) 1) (by decide) rfl (fun ls hl => ?_)
                          refine lv_goto (tgt := 60) hx hb dX9_pack_143 (by decide) ?_
                          exact ihb (dd + 1) bs wy (by omega) (by rw [hzs, if_neg (by omega)]) (by omega) (by omega) (by omega) _ _ hP hD hS _ (lv_sub hl [1, 2, 3, 4, 5, 6, 7, 0] rfl)
                        · have c129 : ¬ (k ≤ bs) := fun h => c129 ((nI_leI (a := k) (b := bs) (by omega) (by omega)).mpr h)
                          refine lv_iload hx hb dX9_pack_132 (lv_at hl 8 rfl) ?_
                          refine lv_istore (lv' := [(5, .int (nI k)), (0, .ref h0), (1, .ref tp), (2, .int 0), (3, .int (nI n)), (4, .int (nI i)), (6, .int (nI wy)), (7, .int (nI (dd + 1))), (8, .int (nI k))]) hx hb dX9_pack_134 hl (by decide) rfl (fun ls hl => ?_)
                          refine lv_iload hx hb dX9_pack_136 (lv_at hl 7 rfl) ?_
                          refine lv_istore (lv' := [(6, .int (nI (dd + 1))), (5, .int (nI k)), (0, .ref h0), (1, .ref tp), (2, .int 0), (3, .int (nI n)), (4, .int (nI i)), (7, .int (nI (dd + 1))), (8, .int (nI k))]) hx hb dX9_pack_138 hl (by decide) rfl (fun ls hl => ?_)
                          refine lv_iinc (v := nI (dd + 1 + 1)) (lv' := [(7, .int (nI (dd + 1 + 1))), (6, .int (nI (dd + 1))), (5, .int (nI k)), (0, .ref h0), (1, .ref tp), (2, .int 0), (3, .int (nI n)), (4, .int (nI i)), (8, .int (nI k))]) hx hb dX9_pack_140 hl (k := 7) rfl (show nI (dd + 1) + Int32.ofInt 1 = _ from nI_add (dd + 1) 1) (by decide) rfl (fun ls hl => ?_)
                          refine lv_goto (tgt := 60) hx hb dX9_pack_143 (by decide) ?_
                          exact ihb (dd + 1) k (dd + 1) (by omega) (by rw [hzs, if_pos (by omega)]) (by omega) (by omega) (by omega) _ _ hP hD hS _ (lv_sub hl [3, 4, 5, 6, 7, 2, 1, 0] rfl)
                      · have c92 : ¬ (n ≤ (i + k)) := fun h => c92 ((nI_leI (a := n) (b := (i + k)) (by omega) (by omega)).mpr h)
                        refine lv_aload_n hx hb dX9_pack_95 rfl (lv_at hl 1 rfl) ?_
                        refine lv_iload_n hx hb dX9_pack_96 rfl (lv_at hl 2 rfl) ?_
                        refine lv_iload hx hb dX9_pack_97 (lv_at hl 4 rfl) ?_
                        refine lv_iadd hx hb dX9_pack_99 ?_
                        refine lv_topi (fun y_9 ey_9 => ?_)
                        obtain rfl : y_9 = nI i := ey_9.trans ((nI_add 0 i).trans (congrArg nI (Nat.zero_add i)))
                        refine lv_iload hx hb dX9_pack_100 (lv_at hl 8 rfl) ?_
                        refine lv_iadd hx hb dX9_pack_102 ?_
                        refine lv_topi (fun y_10 ey_10 => ?_)
                        obtain rfl : y_10 = nI (i + k) := ey_10.trans (nI_add i k)
                        refine va_bald hx hb hK hP 2 0 rfl rfl (vp_in_nI (n := i + k) (by omega) (by omega)) dX9_pack_103 ?_
                        rw [nI_clamp (n := i + k) (by omega)]
                        refine lv_aload_n hx hb dX9_pack_104 rfl (lv_at hl 1 rfl) ?_
                        refine lv_iload_n hx hb dX9_pack_105 rfl (lv_at hl 2 rfl) ?_
                        refine lv_iload hx hb dX9_pack_106 (lv_at hl 4 rfl) ?_
                        refine lv_iadd hx hb dX9_pack_108 ?_
                        refine lv_topi (fun y_11 ey_11 => ?_)
                        obtain rfl : y_11 = nI i := ey_11.trans ((nI_add 0 i).trans (congrArg nI (Nat.zero_add i)))
                        refine lv_iload hx hb dX9_pack_109 (lv_at hl 8 rfl) ?_
                        refine lv_iadd hx hb dX9_pack_111 ?_
                        refine lv_topi (fun y_12 ey_12 => ?_)
                        obtain rfl : y_12 = nI (i + k) := ey_12.trans (nI_add i k)
                        refine lv_iload hx hb dX9_pack_112 (lv_at hl 7 rfl) ?_
                        refine lv_isub hx hb dX9_pack_114 ?_
                        refine lv_topi (fun y_13 ey_13 => ?_)
                        obtain rfl : y_13 = nI (i - (dd + 1) + k) := ey_13.trans ((pk_sub (a := i + k) (b := dd + 1) (by omega)).trans (congrArg nI (by omega)))
                        refine va_bald hx hb hK hP 2 0 rfl rfl (vp_in_nI (n := i - (dd + 1) + k) (by omega) (by omega)) dX9_pack_115 ?_
                        rw [nI_clamp (n := i - (dd + 1) + k) (by omega)]
                        refine lv_icmp_ne (tgt := 125) hx hb dX9_pack_116 (by decide) (fun c116 => ?_) (fun c116 => ?_)
                        · have hml : zml tx i (i - (dd + 1)) (min 258 (n - i)) = k := zml_of (by omega) hal (Or.inr (fun h => c116 h.symm))
                          have hzs := zbst_s tx i (min 258 (n - i)) dd
                          rw [hml, ← hbw] at hzs
                          dsimp only at hzs
                          refine lv_iload hx hb dX9_pack_125 (lv_at hl 8 rfl) ?_
                          refine lv_iload hx hb dX9_pack_127 (lv_at hl 5 rfl) ?_
                          refine lv_icmp_le (tgt := 140) hx hb dX9_pack_129 (by decide) (fun c129 => ?_) (fun c129 => ?_)
                          · have c129 : k ≤ bs := (nI_leI (a := k) (b := bs) (by omega) (by omega)).mp c129
                            refine lv_iinc (v := nI (dd + 1 + 1)) (lv' := [(7, .int (nI (dd + 1 + 1))), (0, .ref h0), (1, .ref tp), (2, .int 0), (3, .int (nI n)), (4, .int (nI i)), (5, .int (nI bs)), (6, .int (nI wy)), (8, .int (nI k))]) hx hb dX9_pack_140 hl (k := 7) rfl (show nI (dd + 1) + Int32.ofInt 1 = _ from nI_add (dd + 1) 1) (by decide) rfl (fun ls hl => ?_)
                            refine lv_goto (tgt := 60) hx hb dX9_pack_143 (by decide) ?_
                            exact ihb (dd + 1) bs wy (by omega) (by rw [hzs, if_neg (by omega)]) (by omega) (by omega) (by omega) _ _ hP hD hS _ (lv_sub hl [1, 2, 3, 4, 5, 6, 7, 0] rfl)
                          · have c129 : ¬ (k ≤ bs) := fun h => c129 ((nI_leI (a := k) (b := bs) (by omega) (by omega)).mpr h)
                            refine lv_iload hx hb dX9_pack_132 (lv_at hl 8 rfl) ?_
                            refine lv_istore (lv' := [(5, .int (nI k)), (0, .ref h0), (1, .ref tp), (2, .int 0), (3, .int (nI n)), (4, .int (nI i)), (6, .int (nI wy)), (7, .int (nI (dd + 1))), (8, .int (nI k))]) hx hb dX9_pack_134 hl (by decide) rfl (fun ls hl => ?_)
                            refine lv_iload hx hb dX9_pack_136 (lv_at hl 7 rfl) ?_
                            refine lv_istore (lv' := [(6, .int (nI (dd + 1))), (5, .int (nI k)), (0, .ref h0), (1, .ref tp), (2, .int 0), (3, .int (nI n)), (4, .int (nI i)), (7, .int (nI (dd + 1))), (8, .int (nI k))]) hx hb dX9_pack_138 hl (by decide) rfl (fun ls hl => ?_)
                            refine lv_iinc (v := nI (dd + 1 + 1)) (lv' := [(7, .int (nI (dd + 1 + 1))), (6, .int (nI (dd + 1))), (5, .int (nI k)), (0, .ref h0), (1, .ref tp), (2, .int 0), (3, .int (nI n)), (4, .int (nI i)), (8, .int (nI k))]) hx hb dX9_pack_140 hl (k := 7) rfl (show nI (dd + 1) + Int32.ofInt 1 = _ from nI_add (dd + 1) 1) (by decide) rfl (fun ls hl => ?_)
                            refine lv_goto (tgt := 60) hx hb dX9_pack_143 (by decide) ?_
                            exact ihb (dd + 1) k (dd + 1) (by omega) (by rw [hzs, if_pos (by omega)]) (by omega) (by omega) (by omega) _ _ hP hD hS _ (lv_sub hl [3, 4, 5, 6, 7, 2, 1, 0] rfl)
                        · refine lv_iinc (v := nI (k + 1)) (lv' := [(8, .int (nI (k + 1))), (0, .ref h0), (1, .ref tp), (2, .int 0), (3, .int (nI n)), (4, .int (nI i)), (5, .int (nI bs)), (6, .int (nI wy)), (7, .int (nI (dd + 1)))]) hx hb dX9_pack_119 hl (k := 8) rfl (show nI k + Int32.ofInt 1 = _ from nI_add k 1) (by decide) rfl (fun ls hl => ?_)
                          refine lv_goto (tgt := 78) hx hb dX9_pack_122 (by decide) ?_
                          exact ihc (k + 1) (by omega) (fun m h => (Nat.lt_or_ge m k).elim (fun q => hal m q) (fun q => by rw [show m = k from by omega]; exact c116.symm)) (by omega) _ _ hP hD hS _ (lv_sub hl [1, 2, 3, 4, 5, 6, 7, 8, 0] rfl)
                exact cut78 (258 - 0 + 1) 0 (by omega) (fun m h => absurd h (Nat.not_lt_zero _)) (by omega) _ _ hP hD hS _ (lv_sub hl [1, 2, 3, 4, 5, 6, 7, 8, 0] rfl)
        exact cut60 (i - 0 + 1) 0 2 0 (by omega) (rfl) (by omega) (by omega) (by omega) _ _ hP hD hS _ (lv_sub hl [3, 4, 5, 6, 7, 2, 1, 0] rfl)
  exact cut45 (n - 0 + 1) 0 236664 19 g3 (by omega) (rfl) (ho3) (by omega) (by omega) _ _ hP hD hS _ (lv_sub hl [1, 2, 3, 4, 0] rfl)
