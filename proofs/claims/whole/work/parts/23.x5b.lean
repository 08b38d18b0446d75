abbrev rm_X5_writeCopy : Room := { frames := 3, cells := 0, slots := 0, locals := 66 }
abbrev wo_X5_writeCopy (dC : Nat → ClassId) (dI : Nat → Nat → Nat) (cB cI cJ cM : ClassId) (h0 wr b n : Nat) (vf : Value) (g : Nat → Int32) (V L : Nat) (ln dw : Nat) : va_W := [(h0, .inr (5, [.ref wr, vf])), (wr, .inr (1, [.ref b, .int (nI (L / 8)), .int (nI (V / 2 ^ (8 * (L / 8)))), .int (nI (L % 8))])), (b, .inl (cB, n, .inl g))]
abbrev q_X5_writeCopy (dC : Nat → ClassId) (dI : Nat → Nat → Nat) (cB cI cJ cM : ClassId) (h0 wr b n : Nat) (vf : Value) (g : Nat → Int32) (V L : Nat) (ln dw : Nat) (A : Nat → Prop) : Array Value → State → Outcome → State → Prop := va_Qv (fun (u : (Nat → Int32) × Nat × Nat) => zIs tn_LENGTH_BASE 29 ln u.2.1 ∧ zIs tn_DISTANCE_BASE 30 dw u.2.2 ∧ zOut u.1 (zv4 V L ln dw u.2.1 u.2.2) (zl4 L u.2.1 u.2.2)) (zB dC dI cB cI cJ cM A (fun u : (Nat → Int32) × Nat × Nat => [(h0, .inr (5, [.ref wr, vf])), (wr, .inr (1, [.ref b, .int (nI ((zl4 L u.2.1 u.2.2) / 8)), .int (nI (zv4 V L ln dw u.2.1 u.2.2 / 2 ^ (8 * ((zl4 L u.2.1 u.2.2) / 8)))), .int (nI ((zl4 L u.2.1 u.2.2) % 8))])), (b, .inl (cB, n, .inl u.1))])) A
set_option maxHeartbeats 8000000 in
set_option maxRecDepth 100000 in
/-- writeCopy -/
theorem k_X5_writeCopy (l : Launch) (dC : Nat → ClassId) (dI : Nat → Nat → Nat) (cB cI cJ cM : ClassId) (h0 wr b n : Nat) (vf : Value) (g : Nat → Int32) (V L : Nat) (ln dw : Nat) (ho : zOut g V L) (h1 : 3 ≤ ln) (h2 : ln ≤ 258) (h3 : 1 ≤ dw) (h4 : dw ≤ 4000) (hn : (L + 31) / 8 ≤ n) (hn2 : n < 100000) (sz : Nat) : Met l yX5_writeCopy wsX5_writeCopy rm_X5_writeCopy (va_Pc [.ref h0, .int (nI ln), .int (nI dw)] (fun U => U.heap.size = sz ∧ va_P (dC, dI) vwCl (wo_X5_writeCopy dC dI cB cI cJ cM h0 wr b n vf g V L ln dw) U.heap ∧ va_K (dC, dI) vwCl (zT cB cI cJ cM) U ∧ va_D (fun _ => True) (wo_X5_writeCopy dC dI cB cI cJ cM h0 wr b n vf g V L ln dw) ∧ zE (va_A (wo_X5_writeCopy dC dI cB cI cJ cM h0 wr b n vf g V L ln dw) sz) U)) (q_X5_writeCopy dC dI cB cI cJ cM h0 wr b n vf g V L ln dw (va_A (wo_X5_writeCopy dC dI cB cI cJ cM h0 wr b n vf g V L ln dw) sz)) 0 0 (va_A (wo_X5_writeCopy dC dI cB cI cJ cM h0 wr b n vf g V L ln dw) sz) := by
  refine Met.ofW (cc := cX5_writeCopy) (maxL := 5) (ret := none) (by decide) rfl ?_
  intro p e s m args below meth c s₁ B hml hv
  obtain ⟨rfl, hsz, hP, hK, hD0, hE⟩ := hv
  have hx := B.exec
  have hb := B.bytes
  have hr := B.returns
  have hts := atoms_spec (ws := wsX5_writeCopy) B.pre
  have hown : s.vm.findClass RX5 = some m.cls := findClass_of_methodNamed B.named
  have hlocks := B.notSynchronized
  subst hsz
  have hD := hD0.self (sz := s.heap.size)
  generalize hAe : va_A (wo_X5_writeCopy dC dI cB cI cJ cM h0 wr b n vf g V L ln dw) s.heap.size = A at hD hE ⊢
  have hA : ∀ q : Nat, s.heap.size ≤ q → A q := fun q h => by rw [← hAe]; exact Or.inr h
  have hS : va_S A s.heap s.heap [] := va_S.rf
  have hP : va_P (dC, dI) vwCl [(h0, .inr (5, [.ref wr, vf])), (wr, .inr (1, [.ref b, .int (nI (L / 8)), .int (nI (V / 2 ^ (8 * (L / 8)))), .int (nI (L % 8))])), (b, .inl (cB, n, .inl g))] s.heap := hP
  have hD : va_D A [(h0, .inr (5, [.ref wr, vf])), (wr, .inr (1, [.ref b, .int (nI (L / 8)), .int (nI (V / 2 ^ (8 * (L / 8)))), .int (nI (L % 8))])), (b, .inl (cB, n, .inl g))] := hD
  have hl := lv_entry ([.ref h0, .int (nI ln), .int (nI dw)]) (n := 5) (Nat.le_of_ble_eq_true rfl)
  rw [lg_entry_eq]
  generalize (lg_sl ([.ref h0, .int (nI ln), .int (nI dw)]) ++ List.replicate (5 - (lg_sl ([.ref h0, .int (nI ln), .int (nI dw)])).length) Slot.unset).toArray = ls at hl ⊢
  have hl : lv_has ls 5 [(0, .ref h0), (1, .int (nI ln)), (2, .int (nI dw))] := hl
  obtain ⟨t_LENGTH_BASE, hz_LENGTH_BASE, ha_LENGTH_BASE⟩ := zS_LENGTH_BASE hE
  refine va_getsN hx hb hz_LENGTH_BASE hS hown (zN_X5_70 hE) (fun _ h9 => h9) dX5_writeCopy_0 ?_
  refine lv_iload_n hx hb dX5_writeCopy_3 rfl (lv_at hl 1 rfl) ?_
  have hPc := hP.sub (ws' := []) [] rfl
  have hDc := hD.sub (ws' := []) [] (by decide) rfl
  have hFc := va_free (wc := []) hD hS hA [] rfl
  refine va_calli (va_runS (As := [.ref t_LENGTH_BASE, .int (nI ln)]) (rest := []) ⟨hx, hb, hml, hown, hts⟩ (k_X5_lastNotAbove l dC dI cB cI cJ cM t_LENGTH_BASE 29 tn_LENGTH_BASE ln (by omega) (by omega) (by omega) (z_lt_l) ((by show 3 ≤ _; omega)) s.heap.size) (va_cwS 2 hts gX5_writeCopy_X5_lastNotAbove rfl rfl rfl (by decide +kernel) ⟨Nat.le_of_ble_eq_true rfl, Nat.le_of_ble_eq_true rfl⟩) ⟨fun a U g mk q => by obtain ⟨q0, q1, qP, qK, qD, qx0⟩ := q; exact ⟨q0, q1, qP, va_K.moved (u := U) (U := U.calling g mk a) (Vm.Alike.refl U.vm) qK, qD, va_T.moved (u := U) (U := U.calling g mk a) (Vm.Alike.refl U.vm) qx0⟩, fun U hU hW => ⟨rfl, by rw [hU], by rw [hU]; exact hPc, va_K.moved hW.alike hK, hDc.weaken (fun _ _ _ _ => trivial), by rw [hU]; exact va_T.narrow (va_T.moved hW.alike (va_T.kept ha_LENGTH_BASE hS.2.1)) hFc⟩⟩ rfl rfl hl.1 rfl (lv_room (Nat.le_of_ble_eq_true rfl)) dX5_writeCopy_4 ⟨(show 0 + 0 ≤ 0 by omega), (show 0 + 0 ≤ 0 by omega)⟩) hS (fun q _ h => hFc q h) hFc (fun r4 u t H1 locs ht hvm hw hB hz1 hk1 hS => ?_)
  obtain ⟨kk, rfl⟩ : ∃ z, z = u := ⟨_, rfl⟩
  have hP1 : va_P (dC, dI) vwCl [] H1 := by rw [← ht]; exact hB.1
  have hD1 : va_D (va_A [] s.heap.size) [] := hB.2.2
  obtain ⟨hP, hD⟩ := va_join (wr := [(h0, .inr (5, [.ref wr, vf])), (wr, .inr (1, [.ref b, .int (nI (L / 8)), .int (nI (V / 2 ^ (8 * (L / 8)))), .int (nI (L % 8))])), (b, .inl (cB, n, .inl g))]) (w1 := []) hP hD [] [0, 1, 2] rfl rfl (by decide) (by decide) hk1 hFc hP1 hD1
  generalize H1 = H at hP hS ⊢
  try dsimp only at hw
  have hP : va_P (dC, dI) vwCl [(h0, .inr (5, [.ref wr, vf])), (wr, .inr (1, [.ref b, .int (nI (L / 8)), .int (nI (V / 2 ^ (8 * (L / 8)))), .int (nI (L % 8))])), (b, .inl (cB, n, .inl g))] H := hP
  have hD : va_D A [(h0, .inr (5, [.ref wr, vf])), (wr, .inr (1, [.ref b, .int (nI (L / 8)), .int (nI (V / 2 ^ (8 * (L / 8)))), .int (nI (L % 8))])), (b, .inl (cB, n, .inl g))] := hD
  obtain ⟨hr4, hzk⟩ := hw
  obtain rfl : r4 = nI kk := hr4
  obtain ⟨hkA, hkB, hkC, hkD⟩ := z_len hzk (by omega)
  have hsl := zsl_le (257 + kk)
  refine W.eq (g2 := F0 m 7 ls [.int (nI kk)]) rfl ?_
  refine lv_istore_n (lv' := [(3, .int (nI kk)), (0, .ref h0), (1, .int (nI ln)), (2, .int (nI dw))]) hx hb dX5_writeCopy_7 rfl hl (by decide) rfl (fun ls hl => ?_)
  refine lv_aload_n hx hb dX5_writeCopy_8 rfl (lv_at hl 1 rfl) ?_
  refine lv_sipush (v := 257) hx hb dX5_writeCopy_9 (by decide) ?_
  refine lv_iload_n hx hb dX5_writeCopy_12 rfl (lv_at hl 0 rfl) ?_
  refine lv_iadd hx hb dX5_writeCopy_13 ?_
  refine lv_topi (fun y_1 ey_1 => ?_)
  obtain rfl : y_1 = nI (257 + kk) := ey_1.trans (nI_add 257 kk)
  have hPc := hP.sub (ws' := [(h0, .inr (5, [.ref wr, vf])), (wr, .inr (1, [.ref b, .int (nI (L / 8)), .int (nI (V / 2 ^ (8 * (L / 8)))), .int (nI (L % 8))])), (b, .inl (cB, n, .inl g))]) [0, 1, 2] rfl
  have hDc := hD.sub (ws' := [(h0, .inr (5, [.ref wr, vf])), (wr, .inr (1, [.ref b, .int (nI (L / 8)), .int (nI (V / 2 ^ (8 * (L / 8)))), .int (nI (L % 8))])), (b, .inl (cB, n, .inl g))]) [0, 1, 2] (by decide) rfl
  have hFc := va_free (wc := [(h0, .inr (5, [.ref wr, vf])), (wr, .inr (1, [.ref b, .int (nI (L / 8)), .int (nI (V / 2 ^ (8 * (L / 8)))), .int (nI (L % 8))])), (b, .inl (cB, n, .inl g))]) hD hS hA [0, 1, 2] rfl
  refine va_callv (va_runV (As := [.int (nI (257 + kk))]) (rest := []) ⟨hx, hb, hml, hown, hts⟩ (k_X5_writeSymbol l dC dI cB cI cJ cM h0 wr b n vf g V L (257 + kk) (ho) (by omega) (by omega) (by omega) H.size) (cwV 1 hts gX5_writeCopy_X5_writeSymbol rfl rfl rfl (by decide +kernel) ⟨Nat.le_of_ble_eq_true rfl, Nat.le_of_ble_eq_true rfl⟩) ⟨fun a U g mk q => by obtain ⟨q0, q1, qP, qK, qD⟩ := q; exact ⟨q0, q1, qP, va_K.moved (u := U) (U := U.calling g mk a) (Vm.Alike.refl U.vm) qK, qD⟩, va_recv hK hPc (ci := 5) (q0 := 0) rfl rfl, fun U hU hW => ⟨rfl, by rw [hU], by rw [hU]; exact hPc, va_K.moved hW.alike hK, hDc.weaken (fun _ _ _ _ => trivial)⟩⟩ rfl rfl hl.1 rfl (lv_room (Nat.le_of_ble_eq_true rfl)) dX5_writeCopy_14 ⟨(show 0 + 0 ≤ 0 by omega), (show 0 + 0 ≤ 0 by omega)⟩) hS (fun q _ h => hFc q h) hFc (fun u t H1 locs ht hvm hw hB hz1 hk1 hS => ?_)
  obtain ⟨g1, rfl⟩ : ∃ z, z = u := ⟨_, rfl⟩
  have hP1 : va_P (dC, dI) vwCl [(h0, .inr (5, [.ref wr, vf])), (wr, .inr (1, [.ref b, .int (nI ((L + zsl (257 + kk)) / 8)), .int (nI (zsv V L (257 + kk) / 2 ^ (8 * ((L + zsl (257 + kk)) / 8)))), .int (nI ((L + zsl (257 + kk)) % 8))])), (b, .inl (cB, n, .inl g1))] H1 := by rw [← ht]; exact hB.1
  have hD1 : va_D (va_A [(h0, .inr (5, [.ref wr, vf])), (wr, .inr (1, [.ref b, .int (nI (L / 8)), .int (nI (V / 2 ^ (8 * (L / 8)))), .int (nI (L % 8))])), (b, .inl (cB, n, .inl g))] H.size) [(h0, .inr (5, [.ref wr, vf])), (wr, .inr (1, [.ref b, .int (nI ((L + zsl (257 + kk)) / 8)), .int (nI (zsv V L (257 + kk) / 2 ^ (8 * ((L + zsl (257 + kk)) / 8)))), .int (nI ((L + zsl (257 + kk)) % 8))])), (b, .inl (cB, n, .inl g1))] := hB.2.2
  obtain ⟨hP, hD⟩ := va_join (wr := []) (w1 := [(h0, .inr (5, [.ref wr, vf])), (wr, .inr (1, [.ref b, .int (nI ((L + zsl (257 + kk)) / 8)), .int (nI (zsv V L (257 + kk) / 2 ^ (8 * ((L + zsl (257 + kk)) / 8)))), .int (nI ((L + zsl (257 + kk)) % 8))])), (b, .inl (cB, n, .inl g1))]) hP hD [0, 1, 2] [] rfl rfl (by decide) (by decide) hk1 hFc hP1 hD1
  generalize H1 = H at hP hS ⊢
  try dsimp only at hw
  have hP : va_P (dC, dI) vwCl [(h0, .inr (5, [.ref wr, vf])), (wr, .inr (1, [.ref b, .int (nI ((L + zsl (257 + kk)) / 8)), .int (nI (zsv V L (257 + kk) / 2 ^ (8 * ((L + zsl (257 + kk)) / 8)))), .int (nI ((L + zsl (257 + kk)) % 8))])), (b, .inl (cB, n, .inl g1))] H := hP
  have hD : va_D A [(h0, .inr (5, [.ref wr, vf])), (wr, .inr (1, [.ref b, .int (nI ((L + zsl (257 + kk)) / 8)), .int (nI (zsv V L (257 + kk) / 2 ^ (8 * ((L + zsl (257 + kk)) / 8)))), .int (nI ((L + zsl (257 + kk)) % 8))])), (b, .inl (cB, n, .inl g1))] := hD
  have ho1 : zOut g1 (zsv V L (257 + kk)) (zl1 L kk) := hw
  have hP : va_P (dC, dI) vwCl [(h0, .inr (5, [.ref wr, vf])), (wr, .inr (1, [.ref b, .int (nI (zl1 L kk / 8)), .int (nI (zsv V L (257 + kk) / 2 ^ (8 * (zl1 L kk / 8)))), .int (nI (zl1 L kk % 8))])), (b, .inl (cB, n, .inl g1))] H := hP
  have hD : va_D A [(h0, .inr (5, [.ref wr, vf])), (wr, .inr (1, [.ref b, .int (nI (zl1 L kk / 8)), .int (nI (zsv V L (257 + kk) / 2 ^ (8 * (zl1 L kk / 8)))), .int (nI (zl1 L kk % 8))])), (b, .inl (cB, n, .inl g1))] := hD
  refine W.eq (g2 := F0 m 17 ls []) rfl ?_
  have hL1 : zl1 L kk = L + zsl (257 + kk) := rfl
  refine lv_aload_n hx hb dX5_writeCopy_17 rfl (lv_at hl 1 rfl) ?_
  refine va_get (D := (dC, dI)) (ci := 5) (v := .ref wr) (C := RX5) (T := TX5) (N := 2) hx hb hts (by decide +kernel) hown hK hP 0 rfl rfl 0 (by decide) (hts (.fieldLink RX5 12 "FixedPress$Packer" "writer" "LFixedPress$BitWriter;") (by decide +kernel)) (fun _ h9 => h9) rfl dX5_writeCopy_18 ?_
  refine lv_iload_n hx hb dX5_writeCopy_21 rfl (lv_at hl 2 rfl) ?_
  refine va_getsN hx hb hz_LENGTH_BASE hS hown (zN_X5_70 hE) (fun _ h9 => h9) dX5_writeCopy_22 ?_
  refine lv_iload_n hx hb dX5_writeCopy_25 rfl (lv_at hl 0 rfl) ?_
  refine va_ti (v := .int (tb_LENGTH_BASE kk)) hx hb ha_LENGTH_BASE hS (vp_in_nI (n := kk) (by omega) (by omega)) (by rw [nI_clamp (by omega)]) dX5_writeCopy_26 ?_
  refine lv_topi (fun y_2 ey_2 => ?_)
  obtain rfl : y_2 = nI (tn_LENGTH_BASE kk) := ey_2.trans (rfl)
  refine lv_isub hx hb dX5_writeCopy_27 ?_
  refine lv_topi (fun y_3 ey_3 => ?_)
  obtain rfl : y_3 = nI (ln - (tn_LENGTH_BASE kk)) := ey_3.trans (pk_sub (a := ln) (b := (tn_LENGTH_BASE kk)) (by omega))
  obtain ⟨t_LENGTH_EXTRA, hz_LENGTH_EXTRA, ha_LENGTH_EXTRA⟩ := zS_LENGTH_EXTRA hE
  refine va_getsN hx hb hz_LENGTH_EXTRA hS hown (zN_X5_78 hE) (fun _ h9 => h9) dX5_writeCopy_28 ?_
  refine lv_iload_n hx hb dX5_writeCopy_31 rfl (lv_at hl 0 rfl) ?_
  refine va_ti (v := .int (tb_LENGTH_EXTRA kk)) hx hb ha_LENGTH_EXTRA hS (vp_in_nI (n := kk) (by omega) (by omega)) (by rw [nI_clamp (by omega)]) dX5_writeCopy_32 ?_
  refine lv_topi (fun y_4 ey_4 => ?_)
  obtain rfl : y_4 = nI (tn_LENGTH_EXTRA kk) := ey_4.trans (rfl)
  have hPc := hP.sub (ws' := [(wr, .inr (1, [.ref b, .int (nI (zl1 L kk / 8)), .int (nI (zsv V L (257 + kk) / 2 ^ (8 * (zl1 L kk / 8)))), .int (nI (zl1 L kk % 8))])), (b, .inl (cB, n, .inl g1))]) [1, 2] rfl
  have hDc := hD.sub (ws' := [(wr, .inr (1, [.ref b, .int (nI (zl1 L kk / 8)), .int (nI (zsv V L (257 + kk) / 2 ^ (8 * (zl1 L kk / 8)))), .int (nI (zl1 L kk % 8))])), (b, .inl (cB, n, .inl g1))]) [1, 2] (by decide) rfl
  have hFc := va_free (wc := [(wr, .inr (1, [.ref b, .int (nI (zl1 L kk / 8)), .int (nI (zsv V L (257 + kk) / 2 ^ (8 * (zl1 L kk / 8)))), .int (nI (zl1 L kk % 8))])), (b, .inl (cB, n, .inl g1))]) hD hS hA [1, 2] rfl
  refine va_callv (va_runV (As := [.int (nI (ln - (tn_LENGTH_BASE kk))), .int (nI (tn_LENGTH_EXTRA kk))]) (rest := []) ⟨hx, hb, hml, hown, hts⟩ (k_X1_writeBits l dC dI cB cI cJ cM wr b n g1 (zsv V L (257 + kk)) (zl1 L kk) (ln - tn_LENGTH_BASE kk) (tn_LENGTH_EXTRA kk) (ho1) (hkA) (by omega) (by omega) (by omega) H.size) (cwV 2 hts gX5_writeCopy_X1_writeBits rfl rfl rfl (by decide +kernel) ⟨Nat.le_of_ble_eq_true rfl, Nat.le_of_ble_eq_true rfl⟩) ⟨fun a U g mk q => by obtain ⟨q0, q1, qP, qK, qD⟩ := q; exact ⟨q0, q1, qP, va_K.moved (u := U) (U := U.calling g mk a) (Vm.Alike.refl U.vm) qK, qD⟩, va_recv hK hPc (ci := 1) (q0 := 0) rfl rfl, fun U hU hW => ⟨rfl, by rw [hU], by rw [hU]; exact hPc, va_K.moved hW.alike hK, hDc.weaken (fun _ _ _ _ => trivial)⟩⟩ rfl rfl hl.1 rfl (lv_room (Nat.le_of_ble_eq_true rfl)) dX5_writeCopy_33 ⟨(show 0 + 0 ≤ 0 by omega), (show 0 + 0 ≤ 0 by omega)⟩) hS (fun q _ h => hFc q h) hFc (fun u t H1 locs ht hvm hw hB hz1 hk1 hS => ?_)
  obtain ⟨g2, rfl⟩ : ∃ z, z = u := ⟨_, rfl⟩
  have hP1 : va_P (dC, dI) vwCl [(wr, .inr (1, [.ref b, .int (nI (((zl1 L kk) + (tn_LENGTH_EXTRA kk)) / 8)), .int (nI (((zsv V L (257 + kk)) + (ln - tn_LENGTH_BASE kk) * 2 ^ (zl1 L kk)) / 2 ^ (8 * (((zl1 L kk) + (tn_LENGTH_EXTRA kk)) / 8)))), .int (nI (((zl1 L kk) + (tn_LENGTH_EXTRA kk)) % 8))])), (b, .inl (cB, n, .inl g2))] H1 := by rw [← ht]; exact hB.1
  have hD1 : va_D (va_A [(wr, .inr (1, [.ref b, .int (nI (zl1 L kk / 8)), .int (nI (zsv V L (257 + kk) / 2 ^ (8 * (zl1 L kk / 8)))), .int (nI (zl1 L kk % 8))])), (b, .inl (cB, n, .inl g1))] H.size) [(wr, .inr (1, [.ref b, .int (nI (((zl1 L kk) + (tn_LENGTH_EXTRA kk)) / 8)), .int (nI (((zsv V L (257 + kk)) + (ln - tn_LENGTH_BASE kk) * 2 ^ (zl1 L kk)) / 2 ^ (8 * (((zl1 L kk) + (tn_LENGTH_EXTRA kk)) / 8)))), .int (nI (((zl1 L kk) + (tn_LENGTH_EXTRA kk)) % 8))])), (b, .inl (cB, n, .inl g2))] := hB.2.2
  obtain ⟨hP, hD⟩ := va_join (wr := [(h0, .inr (5, [.ref wr, vf]))]) (w1 := [(wr, .inr (1, [.ref b, .int (nI (((zl1 L kk) + (tn_LENGTH_EXTRA kk)) / 8)), .int (nI (((zsv V L (257 + kk)) + (ln - tn_LENGTH_BASE kk) * 2 ^ (zl1 L kk)) / 2 ^ (8 * (((zl1 L kk) + (tn_LENGTH_EXTRA kk)) / 8)))), .int (nI (((zl1 L kk) + (tn_LENGTH_EXTRA kk)) % 8))])), (b, .inl (cB, n, .inl g2))]) hP hD [1, 2] [0] rfl rfl (by decide) (by decide) hk1 hFc hP1 hD1
  generalize H1 = H at hP hS ⊢
  try dsimp only at hw
  have hP : va_P (dC, dI) vwCl [(h0, .inr (5, [.ref wr, vf])), (wr, .inr (1, [.ref b, .int (nI (((zl1 L kk) + (tn_LENGTH_EXTRA kk)) / 8)), .int (nI (((zsv V L (257 + kk)) + (ln - tn_LENGTH_BASE kk) * 2 ^ (zl1 L kk)) / 2 ^ (8 * (((zl1 L kk) + (tn_LENGTH_EXTRA kk)) / 8)))), .int (nI (((zl1 L kk) + (tn_LENGTH_EXTRA kk)) % 8))])), (b, .inl (cB, n, .inl g2))] H := hP
  have hD : va_D A [(h0, .inr (5, [.ref wr, vf])), (wr, .inr (1, [.ref b, .int (nI (((zl1 L kk) + (tn_LENGTH_EXTRA kk)) / 8)), .int (nI (((zsv V L (257 + kk)) + (ln - tn_LENGTH_BASE kk) * 2 ^ (zl1 L kk)) / 2 ^ (8 * (((zl1 L kk) + (tn_LENGTH_EXTRA kk)) / 8)))), .int (nI (((zl1 L kk) + (tn_LENGTH_EXTRA kk)) % 8))])), (b, .inl (cB, n, .inl g2))] := hD
  have ho2 : zOut g2 (zv2 V L ln kk) (zl2 L kk) := hw
  have hP : va_P (dC, dI) vwCl [(h0, .inr (5, [.ref wr, vf])), (wr, .inr (1, [.ref b, .int (nI (zl2 L kk / 8)), .int (nI (zv2 V L ln kk / 2 ^ (8 * (zl2 L kk / 8)))), .int (nI (zl2 L kk % 8))])), (b, .inl (cB, n, .inl g2))] H := hP
  have hD : va_D A [(h0, .inr (5, [.ref wr, vf])), (wr, .inr (1, [.ref b, .int (nI (zl2 L kk / 8)), .int (nI (zv2 V L ln kk / 2 ^ (8 * (zl2 L kk / 8)))), .int (nI (zl2 L kk % 8))])), (b, .inl (cB, n, .inl g2))] := hD
  refine W.eq (g2 := F0 m 36 ls []) rfl ?_
  have hL2 : zl2 L kk = zl1 L kk + tn_LENGTH_EXTRA kk := rfl
  obtain ⟨t_DISTANCE_BASE, hz_DISTANCE_BASE, ha_DISTANCE_BASE⟩ := zS_DISTANCE_BASE hE
  refine va_getsN hx hb hz_DISTANCE_BASE hS hown (zN_X5_81 hE) (fun _ h9 => h9) dX5_writeCopy_36 ?_
  refine lv_iload_n hx hb dX5_writeCopy_39 rfl (lv_at hl 3 rfl) ?_
  have hPc := hP.sub (ws' := []) [] rfl
  have hDc := hD.sub (ws' := []) [] (by decide) rfl
  have hFc := va_free (wc := []) hD hS hA [] rfl
  refine va_calli (va_runS (As := [.ref t_DISTANCE_BASE, .int (nI dw)]) (rest := []) ⟨hx, hb, hml, hown, hts⟩ (k_X5_lastNotAbove l dC dI cB cI cJ cM t_DISTANCE_BASE 30 tn_DISTANCE_BASE dw (by omega) (by omega) (by omega) (z_lt_d) ((by show 1 ≤ _; omega)) H.size) (va_cwS 2 hts gX5_writeCopy_X5_lastNotAbove rfl rfl rfl (by decide +kernel) ⟨Nat.le_of_ble_eq_true rfl, Nat.le_of_ble_eq_true rfl⟩) ⟨fun a U g mk q => by obtain ⟨q0, q1, qP, qK, qD, qx0⟩ := q; exact ⟨q0, q1, qP, va_K.moved (u := U) (U := U.calling g mk a) (Vm.Alike.refl U.vm) qK, qD, va_T.moved (u := U) (U := U.calling g mk a) (Vm.Alike.refl U.vm) qx0⟩, fun U hU hW => ⟨rfl, by rw [hU], by rw [hU]; exact hPc, va_K.moved hW.alike hK, hDc.weaken (fun _ _ _ _ => trivial), by rw [hU]; exact va_T.narrow (va_T.moved hW.alike (va_T.kept ha_DISTANCE_BASE hS.2.1)) hFc⟩⟩ rfl rfl hl.1 rfl (lv_room (Nat.le_of_ble_eq_true rfl)) dX5_writeCopy_40 ⟨(show 0 + 0 ≤ 0 by omega), (show 0 + 0 ≤ 0 by omega)⟩) hS (fun q _ h => hFc q h) hFc (fun r40 u t H1 locs ht hvm hw hB hz1 hk1 hS => ?_)
  obtain ⟨dd, rfl⟩ : ∃ z, z = u := ⟨_, rfl⟩
  have hP1 : va_P (dC, dI) vwCl [] H1 := by rw [← ht]; exact hB.1
  have hD1 : va_D (va_A [] H.size) [] := hB.2.2
  obtain ⟨hP, hD⟩ := va_join (wr := [(h0, .inr (5, [.ref wr, vf])), (wr, .inr (1, [.ref b, .int (nI (zl2 L kk / 8)), .int (nI (zv2 V L ln kk / 2 ^ (8 * (zl2 L kk / 8)))), .int (nI (zl2 L kk % 8))])), (b, .inl (cB, n, .inl g2))]) (w1 := []) hP hD [] [0, 1, 2] rfl rfl (by decide) (by decide) hk1 hFc hP1 hD1
  generalize H1 = H at hP hS ⊢
  try dsimp only at hw
  have hP : va_P (dC, dI) vwCl [(h0, .inr (5, [.ref wr, vf])), (wr, .inr (1, [.ref b, .int (nI (zl2 L kk / 8)), .int (nI (zv2 V L ln kk / 2 ^ (8 * (zl2 L kk / 8)))), .int (nI (zl2 L kk % 8))])), (b, .inl (cB, n, .inl g2))] H := hP
  have hD : va_D A [(h0, .inr (5, [.ref wr, vf])), (wr, .inr (1, [.ref b, .int (nI (zl2 L kk / 8)), .int (nI (zv2 V L ln kk / 2 ^ (8 * (zl2 L kk / 8)))), .int (nI (zl2 L kk % 8))])), (b, .inl (cB, n, .inl g2))] := hD
  obtain ⟨hr40, hzd⟩ := hw
  obtain rfl : r40 = nI dd := hr40
  obtain ⟨hdA, hdB, hdC, hdD⟩ := z_dst hzd (by omega)
  refine W.eq (g2 := F0 m 43 ls [.int (nI dd)]) rfl ?_
  refine lv_istore (lv' := [(4, .int (nI dd)), (3, .int (nI kk)), (0, .ref h0), (1, .int (nI ln)), (2, .int (nI dw))]) hx hb dX5_writeCopy_43 hl (by decide) rfl (fun ls hl => ?_)
  refine lv_aload_n hx hb dX5_writeCopy_45 rfl (lv_at hl 2 rfl) ?_
  refine va_get (D := (dC, dI)) (ci := 5) (v := .ref wr) (C := RX5) (T := TX5) (N := 2) hx hb hts (by decide +kernel) hown hK hP 0 rfl rfl 0 (by decide) (hts (.fieldLink RX5 12 "FixedPress$Packer" "writer" "LFixedPress$BitWriter;") (by decide +kernel)) (fun _ h9 => h9) rfl dX5_writeCopy_46 ?_
  refine lv_iload hx hb dX5_writeCopy_49 (lv_at hl 0 rfl) ?_
  refine lv_iconst (v := 5) hx hb dX5_writeCopy_51 (by decide) ?_
  have hPc := hP.sub (ws' := [(wr, .inr (1, [.ref b, .int (nI (zl2 L kk / 8)), .int (nI (zv2 V L ln kk / 2 ^ (8 * (zl2 L kk / 8)))), .int (nI (zl2 L kk % 8))])), (b, .inl (cB, n, .inl g2))]) [1, 2] rfl
  have hDc := hD.sub (ws' := [(wr, .inr (1, [.ref b, .int (nI (zl2 L kk / 8)), .int (nI (zv2 V L ln kk / 2 ^ (8 * (zl2 L kk / 8)))), .int (nI (zl2 L kk % 8))])), (b, .inl (cB, n, .inl g2))]) [1, 2] (by decide) rfl
  have hFc := va_free (wc := [(wr, .inr (1, [.ref b, .int (nI (zl2 L kk / 8)), .int (nI (zv2 V L ln kk / 2 ^ (8 * (zl2 L kk / 8)))), .int (nI (zl2 L kk % 8))])), (b, .inl (cB, n, .inl g2))]) hD hS hA [1, 2] rfl
  refine va_callv (va_runV (As := [.int (nI dd), .int 5]) (rest := []) ⟨hx, hb, hml, hown, hts⟩ (k_X1_writeCode l dC dI cB cI cJ cM wr b n g2 (zv2 V L ln kk) (zl2 L kk) dd 5 (ho2) (by omega) (by omega) (by omega) (by omega) H.size) (cwV 2 hts gX5_writeCopy_X1_writeCode rfl rfl rfl (by decide +kernel) ⟨Nat.le_of_ble_eq_true rfl, Nat.le_of_ble_eq_true rfl⟩) ⟨fun a U g mk q => by obtain ⟨q0, q1, qP, qK, qD⟩ := q; exact ⟨q0, q1, qP, va_K.moved (u := U) (U := U.calling g mk a) (Vm.Alike.refl U.vm) qK, qD⟩, va_recv hK hPc (ci := 1) (q0 := 0) rfl rfl, fun U hU hW => ⟨rfl, by rw [hU], by rw [hU]; exact hPc, va_K.moved hW.alike hK, hDc.weaken (fun _ _ _ _ => trivial)⟩⟩ rfl rfl hl.1 rfl (lv_room (Nat.le_of_ble_eq_true rfl)) dX5_writeCopy_52 ⟨(show 0 + 0 ≤ 0 by omega), (show 0 + 0 ≤ 0 by omega)⟩) hS (fun q _ h => hFc q h) hFc (fun u t H1 locs ht hvm hw hB hz1 hk1 hS => ?_)
  obtain ⟨g3, rfl⟩ : ∃ z, z = u := ⟨_, rfl⟩
  have hP1 : va_P (dC, dI) vwCl [(wr, .inr (1, [.ref b, .int (nI (((zl2 L kk) + 5) / 8)), .int (nI (zhi (zv2 V L ln kk) (zl2 L kk) dd 5 / 2 ^ (8 * (((zl2 L kk) + 5) / 8)))), .int (nI (((zl2 L kk) + 5) % 8))])), (b, .inl (cB, n, .inl g3))] H1 := by rw [← ht]; exact hB.1
  have hD1 : va_D (va_A [(wr, .inr (1, [.ref b, .int (nI (zl2 L kk / 8)), .int (nI (zv2 V L ln kk / 2 ^ (8 * (zl2 L kk / 8)))), .int (nI (zl2 L kk % 8))])), (b, .inl (cB, n, .inl g2))] H.size) [(wr, .inr (1, [.ref b, .int (nI (((zl2 L kk) + 5) / 8)), .int (nI (zhi (zv2 V L ln kk) (zl2 L kk) dd 5 / 2 ^ (8 * (((zl2 L kk) + 5) / 8)))), .int (nI (((zl2 L kk) + 5) % 8))])), (b, .inl (cB, n, .inl g3))] := hB.2.2
  obtain ⟨hP, hD⟩ := va_join (wr := [(h0, .inr (5, [.ref wr, vf]))]) (w1 := [(wr, .inr (1, [.ref b, .int (nI (((zl2 L kk) + 5) / 8)), .int (nI (zhi (zv2 V L ln kk) (zl2 L kk) dd 5 / 2 ^ (8 * (((zl2 L kk) + 5) / 8)))), .int (nI (((zl2 L kk) + 5) % 8))])), (b, .inl (cB, n, .inl g3))]) hP hD [1, 2] [0] rfl rfl (by decide) (by decide) hk1 hFc hP1 hD1
  generalize H1 = H at hP hS ⊢
  try dsimp only at hw
  have hP : va_P (dC, dI) vwCl [(h0, .inr (5, [.ref wr, vf])), (wr, .inr (1, [.ref b, .int (nI (((zl2 L kk) + 5) / 8)), .int (nI (zhi (zv2 V L ln kk) (zl2 L kk) dd 5 / 2 ^ (8 * (((zl2 L kk) + 5) / 8)))), .int (nI (((zl2 L kk) + 5) % 8))])), (b, .inl (cB, n, .inl g3))] H := hP
  have hD : va_D A [(h0, .inr (5, [.ref wr, vf])), (wr, .inr (1, [.ref b, .int (nI (((zl2 L kk) + 5) / 8)), .int (nI (zhi (zv2 V L ln kk) (zl2 L kk) dd 5 / 2 ^ (8 * (((zl2 L kk) + 5) / 8)))), .int (nI (((zl2 L kk) + 5) % 8))])), (b, .inl (cB, n, .inl g3))] := hD
  have ho3 : zOut g3 (zhi (zv2 V L ln kk) (zl2 L kk) dd 5) ((zl2 L kk + 5)) := hw
  have hP : va_P (dC, dI) vwCl [(h0, .inr (5, [.ref wr, vf])), (wr, .inr (1, [.ref b, .int (nI ((zl2 L kk + 5) / 8)), .int (nI (zhi (zv2 V L ln kk) (zl2 L kk) dd 5 / 2 ^ (8 * ((zl2 L kk + 5) / 8)))), .int (nI ((zl2 L kk + 5) % 8))])), (b, .inl (cB, n, .inl g3))] H := hP
  have hD : va_D A [(h0, .inr (5, [.ref wr, vf])), (wr, .inr (1, [.ref b, .int (nI ((zl2 L kk + 5) / 8)), .int (nI (zhi (zv2 V L ln kk) (zl2 L kk) dd 5 / 2 ^ (8 * ((zl2 L kk + 5) / 8)))), .int (nI ((zl2 L kk + 5) % 8))])), (b, .inl (cB, n, .inl g3))] := hD
  refine W.eq (g2 := F0 m 55 ls []) rfl ?_
  refine lv_aload_n hx hb dX5_writeCopy_55 rfl (lv_at hl 2 rfl) ?_
  refine va_get (D := (dC, dI)) (ci := 5) (v := .ref wr) (C := RX5) (T := TX5) (N := 2) hx hb hts (by decide +kernel) hown hK hP 0 rfl rfl 0 (by decide) (hts (.fieldLink RX5 12 "FixedPress$Packer" "writer" "LFixedPress$BitWriter;") (by decide +kernel)) (fun _ h9 => h9) rfl dX5_writeCopy_56 ?_
  refine lv_iload_n hx hb dX5_writeCopy_59 rfl (lv_at hl 4 rfl) ?_
  refine va_getsN hx hb hz_DISTANCE_BASE hS hown (zN_X5_81 hE) (fun _ h9 => h9) dX5_writeCopy_60 ?_
  refine lv_iload hx hb dX5_writeCopy_63 (lv_at hl 0 rfl) ?_
  refine va_ti (v := .int (tb_DISTANCE_BASE dd)) hx hb ha_DISTANCE_BASE hS (vp_in_nI (n := dd) (by omega) (by omega)) (by rw [nI_clamp (by omega)]) dX5_writeCopy_65 ?_
  refine lv_topi (fun y_5 ey_5 => ?_)
  obtain rfl : y_5 = nI (tn_DISTANCE_BASE dd) := ey_5.trans (rfl)
  refine lv_isub hx hb dX5_writeCopy_66 ?_
  refine lv_topi (fun y_6 ey_6 => ?_)
  obtain rfl : y_6 = nI (dw - (tn_DISTANCE_BASE dd)) := ey_6.trans (pk_sub (a := dw) (b := (tn_DISTANCE_BASE dd)) (by omega))
  obtain ⟨t_DISTANCE_EXTRA, hz_DISTANCE_EXTRA, ha_DISTANCE_EXTRA⟩ := zS_DISTANCE_EXTRA hE
  refine va_getsN hx hb hz_DISTANCE_EXTRA hS hown (zN_X5_87 hE) (fun _ h9 => h9) dX5_writeCopy_67 ?_
  refine lv_iload hx hb dX5_writeCopy_70 (lv_at hl 0 rfl) ?_
  refine va_ti (v := .int (tb_DISTANCE_EXTRA dd)) hx hb ha_DISTANCE_EXTRA hS (vp_in_nI (n := dd) (by omega) (by omega)) (by rw [nI_clamp (by omega)]) dX5_writeCopy_72 ?_
  refine lv_topi (fun y_7 ey_7 => ?_)
  obtain rfl : y_7 = nI (tn_DISTANCE_EXTRA dd) := ey_7.trans (rfl)
  have hPc := hP.sub (ws' := [(wr, .inr (1, [.ref b, .int (nI ((zl2 L kk + 5) / 8)), .int (nI (zhi (zv2 V L ln kk) (zl2 L kk) dd 5 / 2 ^ (8 * ((zl2 L kk + 5) / 8)))), .int (nI ((zl2 L kk + 5) % 8))])), (b, .inl (cB, n, .inl g3))]) [1, 2] rfl
  have hDc := hD.sub (ws' := [(wr, .inr (1, [.ref b, .int (nI ((zl2 L kk + 5) / 8)), .int (nI (zhi (zv2 V L ln kk) (zl2 L kk) dd 5 / 2 ^ (8 * ((zl2 L kk + 5) / 8)))), .int (nI ((zl2 L kk + 5) % 8))])), (b, .inl (cB, n, .inl g3))]) [1, 2] (by decide) rfl
  have hFc := va_free (wc := [(wr, .inr (1, [.ref b, .int (nI ((zl2 L kk + 5) / 8)), .int (nI (zhi (zv2 V L ln kk) (zl2 L kk) dd 5 / 2 ^ (8 * ((zl2 L kk + 5) / 8)))), .int (nI ((zl2 L kk + 5) % 8))])), (b, .inl (cB, n, .inl g3))]) hD hS hA [1, 2] rfl
  refine va_callv (va_runV (As := [.int (nI (dw - (tn_DISTANCE_BASE dd))), .int (nI (tn_DISTANCE_EXTRA dd))]) (rest := []) ⟨hx, hb, hml, hown, hts⟩ (k_X1_writeBits l dC dI cB cI cJ cM wr b n g3 (zhi (zv2 V L ln kk) (zl2 L kk) dd 5) (zl2 L kk + 5) (dw - tn_DISTANCE_BASE dd) (tn_DISTANCE_EXTRA dd) (ho3) (hdA) (by omega) (by omega) (by omega) H.size) (cwV 2 hts gX5_writeCopy_X1_writeBits rfl rfl rfl (by decide +kernel) ⟨Nat.le_of_ble_eq_true rfl, Nat.le_of_ble_eq_true rfl⟩) ⟨fun a U g mk q => by obtain ⟨q0, q1, qP, qK, qD⟩ := q; exact ⟨q0, q1, qP, va_K.moved (u := U) (U := U.calling g mk a) (Vm.Alike.refl U.vm) qK, qD⟩, va_recv hK hPc (ci := 1) (q0 := 0) rfl rfl, fun U hU hW => ⟨rfl, by rw [hU], by rw [hU]; exact hPc, va_K.moved hW.alike hK, hDc.weaken (fun _ _ _ _ => trivial)⟩⟩ rfl rfl hl.1 rfl (lv_room (Nat.le_of_ble_eq_true rfl)) dX5_writeCopy_73 ⟨(show 0 + 0 ≤ 0 by omega), (show 0 + 0 ≤ 0 by omega)⟩) hS (fun q _ h => hFc q h) hFc (fun u t H1 locs ht hvm hw hB hz1 hk1 hS => ?_)
  obtain ⟨g4, rfl⟩ : ∃ z, z = u := ⟨_, rfl⟩
  have hP1 : va_P (dC, dI) vwCl [(wr, .inr (1, [.ref b, .int (nI (((zl2 L kk + 5) + (tn_DISTANCE_EXTRA dd)) / 8)), .int (nI (((zhi (zv2 V L ln kk) (zl2 L kk) dd 5) + (dw - tn_DISTANCE_BASE dd) * 2 ^ (zl2 L kk + 5)) / 2 ^ (8 * (((zl2 L kk + 5) + (tn_DISTANCE_EXTRA dd)) / 8)))), .int (nI (((zl2 L kk + 5) + (tn_DISTANCE_EXTRA dd)) % 8))])), (b, .inl (cB, n, .inl g4))] H1 := by rw [← ht]; exact hB.1
  have hD1 : va_D (va_A [(wr, .inr (1, [.ref b, .int (nI ((zl2 L kk + 5) / 8)), .int (nI (zhi (zv2 V L ln kk) (zl2 L kk) dd 5 / 2 ^ (8 * ((zl2 L kk + 5) / 8)))), .int (nI ((zl2 L kk + 5) % 8))])), (b, .inl (cB, n, .inl g3))] H.size) [(wr, .inr (1, [.ref b, .int (nI (((zl2 L kk + 5) + (tn_DISTANCE_EXTRA dd)) / 8)), .int (nI (((zhi (zv2 V L ln kk) (zl2 L kk) dd 5) + (dw - tn_DISTANCE_BASE dd) * 2 ^ (zl2 L kk + 5)) / 2 ^ (8 * (((zl2 L kk + 5) + (tn_DISTANCE_EXTRA dd)) / 8)))), .int (nI (((zl2 L kk + 5) + (tn_DISTANCE_EXTRA dd)) % 8))])), (b, .inl (cB, n, .inl g4))] := hB.2.2
  obtain ⟨hP, hD⟩ := va_join (wr := [(h0, .inr (5, [.ref wr, vf]))]) (w1 := [(wr, .inr (1, [.ref b, .int (nI (((zl2 L kk + 5) + (tn_DISTANCE_EXTRA dd)) / 8)), .int (nI (((zhi (zv2 V L ln kk) (zl2 L kk) dd 5) + (dw - tn_DISTANCE_BASE dd) * 2 ^ (zl2 L kk + 5)) / 2 ^ (8 * (((zl2 L kk + 5) + (tn_DISTANCE_EXTRA dd)) / 8)))), .int (nI (((zl2 L kk + 5) + (tn_DISTANCE_EXTRA dd)) % 8))])), (b, .inl (cB, n, .inl g4))]) hP hD [1, 2] [0] rfl rfl (by decide) (by decide) hk1 hFc hP1 hD1
  generalize H1 = H at hP hS ⊢
  try dsimp only at hw
  have hP : va_P (dC, dI) vwCl [(h0, .inr (5, [.ref wr, vf])), (wr, .inr (1, [.ref b, .int (nI (((zl2 L kk + 5) + (tn_DISTANCE_EXTRA dd)) / 8)), .int (nI (((zhi (zv2 V L ln kk) (zl2 L kk) dd 5) + (dw - tn_DISTANCE_BASE dd) * 2 ^ (zl2 L kk + 5)) / 2 ^ (8 * (((zl2 L kk + 5) + (tn_DISTANCE_EXTRA dd)) / 8)))), .int (nI (((zl2 L kk + 5) + (tn_DISTANCE_EXTRA dd)) % 8))])), (b, .inl (cB, n, .inl g4))] H := hP
  have hD : va_D A [(h0, .inr (5, [.ref wr, vf])), (wr, .inr (1, [.ref b, .int (nI (((zl2 L kk + 5) + (tn_DISTANCE_EXTRA dd)) / 8)), .int (nI (((zhi (zv2 V L ln kk) (zl2 L kk) dd 5) + (dw - tn_DISTANCE_BASE dd) * 2 ^ (zl2 L kk + 5)) / 2 ^ (8 * (((zl2 L kk + 5) + (tn_DISTANCE_EXTRA dd)) / 8)))), .int (nI (((zl2 L kk + 5) + (tn_DISTANCE_EXTRA dd)) % 8))])), (b, .inl (cB, n, .inl g4))] := hD
  have ho4 : zOut g4 (zv4 V L ln dw kk dd) ((zl4 L kk dd)) := hw
  have hP : va_P (dC, dI) vwCl [(h0, .inr (5, [.ref wr, vf])), (wr, .inr (1, [.ref b, .int (nI ((zl4 L kk dd) / 8)), .int (nI (zv4 V L ln dw kk dd / 2 ^ (8 * ((zl4 L kk dd) / 8)))), .int (nI ((zl4 L kk dd) % 8))])), (b, .inl (cB, n, .inl g4))] H := hP
  have hD : va_D A [(h0, .inr (5, [.ref wr, vf])), (wr, .inr (1, [.ref b, .int (nI ((zl4 L kk dd) / 8)), .int (nI (zv4 V L ln dw kk dd / 2 ^ (8 * ((zl4 L kk dd) / 8)))), .int (nI ((zl4 L kk dd) % 8))])), (b, .inl (cB, n, .inl g4))] := hD
  refine W.eq (g2 := F0 m 76 ls []) rfl ?_
  have hP9 := hP.sub (ws' := [(h0, .inr (5, [.ref wr, vf])), (wr, .inr (1, [.ref b, .int (nI ((zl4 L kk dd) / 8)), .int (nI (zv4 V L ln dw kk dd / 2 ^ (8 * ((zl4 L kk dd) / 8)))), .int (nI ((zl4 L kk dd) % 8))])), (b, .inl (cB, n, .inl g4))]) [0, 1, 2] rfl
  have hD9 := hD.sub (ws' := [(h0, .inr (5, [.ref wr, vf])), (wr, .inr (1, [.ref b, .int (nI ((zl4 L kk dd) / 8)), .int (nI (zv4 V L ln dw kk dd / 2 ^ (8 * ((zl4 L kk dd) / 8)))), .int (nI ((zl4 L kk dd) % 8))])), (b, .inl (cB, n, .inl g4))]) [0, 1, 2] (by decide) rfl
  exact W.vret hx hb hr (fun t ht hW => ⟨⟨(g4, kk, dd), rfl, ⟨hzk, hzd, ho4⟩, ⟨by rw [ht]; exact hP9, va_K.moved hW.alike hK, hD9⟩⟩, hS.F ht⟩) hS.2.2 dX5_writeCopy_76
