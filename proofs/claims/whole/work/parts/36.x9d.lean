abbrev rm_X9_copied : Room := { frames := 3, cells := 0, slots := 0, locals := 65 }
abbrev wo_X9_copied (dC : Nat → ClassId) (dI : Nat → Nat → Nat) (cB cI cJ cM : ClassId) (h0 pp : Nat) (g : Nat → Int32) (V L : Nat) (ln dw : Nat) (m0 m4 m5 m6 m7 m8 m9 m10 m11 m12 m13 m14 m15 m16 m17 m18 m19 m20 m21 m22 m23 : Value) : va_W := [(h0, .inr (9, [m0, .ref pp, .int (nI ((L + 7) / 8)), .int (nI (L % 8)), m4, m5, m6, m7, m8, m9, m10, m11, m12, m13, m14, m15, m16, m17, m18, m19, m20, m21, m22, m23])), (pp, .inl (cB, 16384, .inl g))]
abbrev q_X9_copied (dC : Nat → ClassId) (dI : Nat → Nat → Nat) (cB cI cJ cM : ClassId) (h0 pp : Nat) (g : Nat → Int32) (V L : Nat) (ln dw : Nat) (m0 m4 m5 m6 m7 m8 m9 m10 m11 m12 m13 m14 m15 m16 m17 m18 m19 m20 m21 m22 m23 : Value) (A : Nat → Prop) : Array Value → State → Outcome → State → Prop := va_Qv (fun (u : (Nat → Int32) × Nat × Nat) => zIs tn_LENGTH_BASE 29 ln u.2.1 ∧ zIs tn_DISTANCE_BASE 30 dw u.2.2 ∧ zRo u.1 (zv4 V L ln dw u.2.1 u.2.2) (zl4 L u.2.1 u.2.2)) (zB dC dI cB cI cJ cM A (fun u : (Nat → Int32) × Nat × Nat => [(h0, .inr (9, [m0, .ref pp, .int (nI (((zl4 L u.2.1 u.2.2) + 7) / 8)), .int (nI ((zl4 L u.2.1 u.2.2) % 8)), m4, m5, m6, m7, m8, m9, m10, m11, m12, m13, m14, m15, m16, m17, m18, m19, m20, m21, m22, m23])), (pp, .inl (cB, 16384, .inl u.1))])) A
set_option maxHeartbeats 8000000 in
set_option maxRecDepth 100000 in
/-- copied -/
theorem k_X9_copied (l : Launch) (dC : Nat → ClassId) (dI : Nat → Nat → Nat) (cB cI cJ cM : ClassId) (h0 pp : Nat) (g : Nat → Int32) (V L : Nat) (ln dw : Nat) (m0 m4 m5 m6 m7 m8 m9 m10 m11 m12 m13 m14 m15 m16 m17 m18 m19 m20 m21 m22 m23 : Value) (ho : zRo g V L) (h1 : 3 ≤ ln) (h2 : ln ≤ 258) (h3 : 1 ≤ dw) (h4 : dw ≤ 4000) (hn : L + 31 < 130000) (sz : Nat) : Met l yX9_copied wsX9_copied rm_X9_copied (va_Pc [.ref h0, .int (nI ln), .int (nI dw)] (fun U => U.heap.size = sz ∧ va_P (dC, dI) vwCl (wo_X9_copied dC dI cB cI cJ cM h0 pp g V L ln dw m0 m4 m5 m6 m7 m8 m9 m10 m11 m12 m13 m14 m15 m16 m17 m18 m19 m20 m21 m22 m23) U.heap ∧ va_K (dC, dI) vwCl (zT cB cI cJ cM) U ∧ va_D (fun _ => True) (wo_X9_copied dC dI cB cI cJ cM h0 pp g V L ln dw m0 m4 m5 m6 m7 m8 m9 m10 m11 m12 m13 m14 m15 m16 m17 m18 m19 m20 m21 m22 m23))) (q_X9_copied dC dI cB cI cJ cM h0 pp g V L ln dw m0 m4 m5 m6 m7 m8 m9 m10 m11 m12 m13 m14 m15 m16 m17 m18 m19 m20 m21 m22 m23 (va_A (wo_X9_copied dC dI cB cI cJ cM h0 pp g V L ln dw m0 m4 m5 m6 m7 m8 m9 m10 m11 m12 m13 m14 m15 m16 m17 m18 m19 m20 m21 m22 m23) sz)) 0 0 (va_A (wo_X9_copied dC dI cB cI cJ cM h0 pp g V L ln dw m0 m4 m5 m6 m7 m8 m9 m10 m11 m12 m13 m14 m15 m16 m17 m18 m19 m20 m21 m22 m23) sz) := by
  refine Met.ofW (cc := cX9_copied) (maxL := 5) (ret := none) (by decide) rfl ?_
  intro p e s m args below meth c s₁ B hml hv
  obtain ⟨rfl, hsz, hP, hK, hD0⟩ := hv
  have hx := B.exec
  have hb := B.bytes
  have hr := B.returns
  have hts := atoms_spec (ws := wsX9_copied) B.pre
  have hown : s.vm.findClass RX9 = some m.cls := findClass_of_methodNamed B.named
  have hlocks := B.notSynchronized
  subst hsz
  have hD := hD0.self (sz := s.heap.size)
  generalize hAe : va_A (wo_X9_copied dC dI cB cI cJ cM h0 pp g V L ln dw m0 m4 m5 m6 m7 m8 m9 m10 m11 m12 m13 m14 m15 m16 m17 m18 m19 m20 m21 m22 m23) s.heap.size = A at hD ⊢
  have hA : ∀ q : Nat, s.heap.size ≤ q → A q := fun q h => by rw [← hAe]; exact Or.inr h
  have hS : va_S A s.heap s.heap [] := va_S.rf
  have hP : va_P (dC, dI) vwCl [(h0, .inr (9, [m0, .ref pp, .int (nI ((L + 7) / 8)), .int (nI (L % 8)), m4, m5, m6, m7, m8, m9, m10, m11, m12, m13, m14, m15, m16, m17, m18, m19, m20, m21, m22, m23])), (pp, .inl (cB, 16384, .inl g))] s.heap := hP
  have hD : va_D A [(h0, .inr (9, [m0, .ref pp, .int (nI ((L + 7) / 8)), .int (nI (L % 8)), m4, m5, m6, m7, m8, m9, m10, m11, m12, m13, m14, m15, m16, m17, m18, m19, m20, m21, m22, m23])), (pp, .inl (cB, 16384, .inl g))] := hD
  have hl := lv_entry ([.ref h0, .int (nI ln), .int (nI dw)]) (n := 5) (Nat.le_of_ble_eq_true rfl)
  rw [lg_entry_eq]
  generalize (lg_sl ([.ref h0, .int (nI ln), .int (nI dw)]) ++ List.replicate (5 - (lg_sl ([.ref h0, .int (nI ln), .int (nI dw)])).length) Slot.unset).toArray = ls at hl ⊢
  have hl : lv_has ls 5 [(0, .ref h0), (1, .int (nI ln)), (2, .int (nI dw))] := hl
  refine lv_bipush (v := 28) hx hb dX9_copied_0 (by decide) ?_
  refine lv_istore_n (lv' := [(3, .int 28), (0, .ref h0), (1, .int (nI ln)), (2, .int (nI dw))]) hx hb dX9_copied_2 rfl hl (by decide) rfl (fun ls hl => ?_)
  have cut3 : ∀ (fuel : Nat) (kk : Nat), (kk < 29) → (kk + 1 = 29 ∨ ln < tn_LENGTH_BASE (kk + 1)) → (kk < fuel) → ∀ (H : Heap) (locs : List Loc), va_P (dC, dI) vwCl [(h0, .inr (9, [m0, .ref pp, .int (nI ((L + 7) / 8)), .int (nI (L % 8)), m4, m5, m6, m7, m8, m9, m10, m11, m12, m13, m14, m15, m16, m17, m18, m19, m20, m21, m22, m23])), (pp, .inl (cB, 16384, .inl g))] H → va_D A [(h0, .inr (9, [m0, .ref pp, .int (nI ((L + 7) / 8)), .int (nI (L % 8)), m4, m5, m6, m7, m8, m9, m10, m11, m12, m13, m14, m15, m16, m17, m18, m19, m20, m21, m22, m23])), (pp, .inl (cB, 16384, .inl g))] → va_S A s.heap H locs → ∀ (ls : Array Slot), lv_has ls 5 [(0, .ref h0), (1, .int (nI ln)), (2, .int (nI dw)), (3, .int (nI kk))] → W p l e (headSpec wsX9_copied rm_X9_copied).room s m ([.ref h0, .int (nI ln), .int (nI dw)] : List Value).toArray below meth c H locs 0 0 (MQ below (q_X9_copied dC dI cB cI cJ cM h0 pp g V L ln dw m0 m4 m5 m6 m7 m8 m9 m10 m11 m12 m13 m14 m15 m16 m17 m18 m19 m20 m21 m22 m23 A) ([.ref h0, .int (nI ln), .int (nI dw)] : List Value).toArray s 0 0 A) (F0 m 3 ls []) := by
    intro fuel
    induction fuel with
    | zero => intros; omega
    | succ fuel iha =>
      intro kk hkk hab hfuel H locs hP hD hS ls hl
      refine lv_iload_n hx hb dX9_copied_3 rfl (lv_at hl 3 rfl) ?_
      have hPc := hP.sub (ws' := []) [] rfl
      have hDc := hD.sub (ws' := []) [] (by decide) rfl
      have hFc := va_free (wc := []) hD hS hA [] rfl
      refine va_calli (va_runS (As := [.int (nI kk)]) (rest := []) ⟨hx, hb, hml, hown, hts⟩ (k_X9_lengthOf l dC dI cB cI cJ cM kk (by omega) H.size) (va_cwS 1 hts gX9_copied_X9_lengthOf rfl rfl rfl (by decide +kernel) ⟨Nat.le_of_ble_eq_true rfl, Nat.le_of_ble_eq_true rfl⟩) ⟨fun a U g mk q => by obtain ⟨q0, q1, qP, qK, qD⟩ := q; exact ⟨q0, q1, qP, va_K.moved (u := U) (U := U.calling g mk a) (Vm.Alike.refl U.vm) qK, qD⟩, fun U hU hW => ⟨rfl, by rw [hU], by rw [hU]; exact hPc, va_K.moved hW.alike hK, hDc.weaken (fun _ _ _ _ => trivial)⟩⟩ rfl rfl hl.1 rfl (lv_room (Nat.le_of_ble_eq_true rfl)) dX9_copied_4 ⟨(show 0 + 0 ≤ 0 by omega), (show 0 + 0 ≤ 0 by omega)⟩) hS (fun q _ h => hFc q h) hFc (fun r4 u t H1 locs ht hvm hw hB hz1 hk1 hS => ?_)
      have hP1 : va_P (dC, dI) vwCl [] H1 := by rw [← ht]; exact hB.1
      have hD1 : va_D (va_A [] H.size) [] := hB.2.2
      obtain ⟨hP, hD⟩ := va_join (wr := [(h0, .inr (9, [m0, .ref pp, .int (nI ((L + 7) / 8)), .int (nI (L % 8)), m4, m5, m6, m7, m8, m9, m10, m11, m12, m13, m14, m15, m16, m17, m18, m19, m20, m21, m22, m23])), (pp, .inl (cB, 16384, .inl g))]) (w1 := []) hP hD [] [0, 1] rfl rfl (by decide) (by decide) hk1 hFc hP1 hD1
      generalize H1 = H at hP hS ⊢
      try dsimp only at hw
      have hP : va_P (dC, dI) vwCl [(h0, .inr (9, [m0, .ref pp, .int (nI ((L + 7) / 8)), .int (nI (L % 8)), m4, m5, m6, m7, m8, m9, m10, m11, m12, m13, m14, m15, m16, m17, m18, m19, m20, m21, m22, m23])), (pp, .inl (cB, 16384, .inl g))] H := hP
      have hD : va_D A [(h0, .inr (9, [m0, .ref pp, .int (nI ((L + 7) / 8)), .int (nI (L % 8)), m4, m5, m6, m7, m8, m9, m10, m11, m12, m13, m14, m15, m16, m17, m18, m19, m20, m21, m22, m23])), (pp, .inl (cB, 16384, .inl g))] := hD
      obtain rfl : r4 = nI (tn_LENGTH_BASE kk) := hw
      have hlt := z_lt_l kk hkk
      refine W.eq (g2 := F0 m 7 ls [.int (nI (tn_LENGTH_BASE kk))]) rfl ?_
      refine lv_iload_n hx hb dX9_copied_7 rfl (lv_at hl 1 rfl) ?_
      refine lv_icmp_le (tgt := 17) hx hb dX9_copied_8 (by decide) (fun c8 => ?_) (fun c8 => ?_)
      · have c8 : (tn_LENGTH_BASE kk) ≤ ln := (nI_leI (a := (tn_LENGTH_BASE kk)) (b := ln) (by omega) (by omega)).mp c8
        have hzk : zIs tn_LENGTH_BASE 29 ln kk := ⟨hkk, c8, hab⟩
        obtain ⟨hkA, hkB, hkC, hkD⟩ := z_len hzk (by omega)
        have hsl := zsl_le (257 + kk)
        refine lv_aload_n hx hb dX9_copied_17 rfl (lv_at hl 0 rfl) ?_
        refine lv_sipush (v := 257) hx hb dX9_copied_18 (by decide) ?_
        refine lv_iload_n hx hb dX9_copied_21 rfl (lv_at hl 3 rfl) ?_
        refine lv_iadd hx hb dX9_copied_22 ?_
        refine lv_topi (fun y_1 ey_1 => ?_)
        obtain rfl : y_1 = nI (257 + kk) := ey_1.trans (nI_add 257 kk)
        have hPc := hP.sub (ws' := [(h0, .inr (9, [m0, .ref pp, .int (nI ((L + 7) / 8)), .int (nI (L % 8)), m4, m5, m6, m7, m8, m9, m10, m11, m12, m13, m14, m15, m16, m17, m18, m19, m20, m21, m22, m23])), (pp, .inl (cB, 16384, .inl g))]) [0, 1] rfl
        have hDc := hD.sub (ws' := [(h0, .inr (9, [m0, .ref pp, .int (nI ((L + 7) / 8)), .int (nI (L % 8)), m4, m5, m6, m7, m8, m9, m10, m11, m12, m13, m14, m15, m16, m17, m18, m19, m20, m21, m22, m23])), (pp, .inl (cB, 16384, .inl g))]) [0, 1] (by decide) rfl
        have hFc := va_free (wc := [(h0, .inr (9, [m0, .ref pp, .int (nI ((L + 7) / 8)), .int (nI (L % 8)), m4, m5, m6, m7, m8, m9, m10, m11, m12, m13, m14, m15, m16, m17, m18, m19, m20, m21, m22, m23])), (pp, .inl (cB, 16384, .inl g))]) hD hS hA [0, 1] rfl
        refine va_callv (va_runV (As := [.int (nI (257 + kk))]) (rest := []) ⟨hx, hb, hml, hown, hts⟩ (k_X9_symbol l dC dI cB cI cJ cM h0 pp g V L (257 + kk) m0 m4 m5 m6 m7 m8 m9 m10 m11 m12 m13 m14 m15 m16 m17 m18 m19 m20 m21 m22 m23 (ho) (by omega) (by omega) H.size) (cwV 1 hts gX9_copied_X9_symbol rfl rfl rfl (by decide +kernel) ⟨Nat.le_of_ble_eq_true rfl, Nat.le_of_ble_eq_true rfl⟩) ⟨fun a U g mk q => by obtain ⟨q0, q1, qP, qK, qD⟩ := q; exact ⟨q0, q1, qP, va_K.moved (u := U) (U := U.calling g mk a) (Vm.Alike.refl U.vm) qK, qD⟩, va_recv hK hPc (ci := 9) (q0 := 0) rfl rfl, fun U hU hW => ⟨rfl, by rw [hU], by rw [hU]; exact hPc, va_K.moved hW.alike hK, hDc.weaken (fun _ _ _ _ => trivial)⟩⟩ rfl rfl hl.1 rfl (lv_room (Nat.le_of_ble_eq_true rfl)) dX9_copied_23 ⟨(show 0 + 0 ≤ 0 by omega), (show 0 + 0 ≤ 0 by omega)⟩) hS (fun q _ h => hFc q h) hFc (fun u t H1 locs ht hvm hw hB hz1 hk1 hS => ?_)
        obtain ⟨g1, rfl⟩ : ∃ z, z = u := ⟨_, rfl⟩
        have hP1 : va_P (dC, dI) vwCl [(h0, .inr (9, [m0, .ref pp, .int (nI (((L + zsl (257 + kk)) + 7) / 8)), .int (nI ((L + zsl (257 + kk)) % 8)), m4, m5, m6, m7, m8, m9, m10, m11, m12, m13, m14, m15, m16, m17, m18, m19, m20, m21, m22, m23])), (pp, .inl (cB, 16384, .inl g1))] H1 := by rw [← ht]; exact hB.1
        have hD1 : va_D (va_A [(h0, .inr (9, [m0, .ref pp, .int (nI ((L + 7) / 8)), .int (nI (L % 8)), m4, m5, m6, m7, m8, m9, m10, m11, m12, m13, m14, m15, m16, m17, m18, m19, m20, m21, m22, m23])), (pp, .inl (cB, 16384, .inl g))] H.size) [(h0, .inr (9, [m0, .ref pp, .int (nI (((L + zsl (257 + kk)) + 7) / 8)), .int (nI ((L + zsl (257 + kk)) % 8)), m4, m5, m6, m7, m8, m9, m10, m11, m12, m13, m14, m15, m16, m17, m18, m19, m20, m21, m22, m23])), (pp, .inl (cB, 16384, .inl g1))] := hB.2.2
        obtain ⟨hP, hD⟩ := va_join (wr := []) (w1 := [(h0, .inr (9, [m0, .ref pp, .int (nI (((L + zsl (257 + kk)) + 7) / 8)), .int (nI ((L + zsl (257 + kk)) % 8)), m4, m5, m6, m7, m8, m9, m10, m11, m12, m13, m14, m15, m16, m17, m18, m19, m20, m21, m22, m23])), (pp, .inl (cB, 16384, .inl g1))]) hP hD [0, 1] [] rfl rfl (by decide) (by decide) hk1 hFc hP1 hD1
        generalize H1 = H at hP hS ⊢
        try dsimp only at hw
        have hP : va_P (dC, dI) vwCl [(h0, .inr (9, [m0, .ref pp, .int (nI (((L + zsl (257 + kk)) + 7) / 8)), .int (nI ((L + zsl (257 + kk)) % 8)), m4, m5, m6, m7, m8, m9, m10, m11, m12, m13, m14, m15, m16, m17, m18, m19, m20, m21, m22, m23])), (pp, .inl (cB, 16384, .inl g1))] H := hP
        have hD : va_D A [(h0, .inr (9, [m0, .ref pp, .int (nI (((L + zsl (257 + kk)) + 7) / 8)), .int (nI ((L + zsl (257 + kk)) % 8)), m4, m5, m6, m7, m8, m9, m10, m11, m12, m13, m14, m15, m16, m17, m18, m19, m20, m21, m22, m23])), (pp, .inl (cB, 16384, .inl g1))] := hD
        have ho1 : zRo g1 (zsv V L (257 + kk)) (zl1 L kk) := hw
        have hP : va_P (dC, dI) vwCl [(h0, .inr (9, [m0, .ref pp, .int (nI ((zl1 L kk + 7) / 8)), .int (nI (zl1 L kk % 8)), m4, m5, m6, m7, m8, m9, m10, m11, m12, m13, m14, m15, m16, m17, m18, m19, m20, m21, m22, m23])), (pp, .inl (cB, 16384, .inl g1))] H := hP
        have hD : va_D A [(h0, .inr (9, [m0, .ref pp, .int (nI ((zl1 L kk + 7) / 8)), .int (nI (zl1 L kk % 8)), m4, m5, m6, m7, m8, m9, m10, m11, m12, m13, m14, m15, m16, m17, m18, m19, m20, m21, m22, m23])), (pp, .inl (cB, 16384, .inl g1))] := hD
        refine W.eq (g2 := F0 m 26 ls []) rfl ?_
        have hL1 : zl1 L kk = L + zsl (257 + kk) := rfl
        refine lv_aload_n hx hb dX9_copied_26 rfl (lv_at hl 0 rfl) ?_
        refine lv_iload_n hx hb dX9_copied_27 rfl (lv_at hl 1 rfl) ?_
        refine lv_iload_n hx hb dX9_copied_28 rfl (lv_at hl 3 rfl) ?_
        have hPc := hP.sub (ws' := []) [] rfl
        have hDc := hD.sub (ws' := []) [] (by decide) rfl
        have hFc := va_free (wc := []) hD hS hA [] rfl
        refine va_calli (va_runS (As := [.int (nI kk)]) (rest := [.int (nI ln), .ref h0]) ⟨hx, hb, hml, hown, hts⟩ (k_X9_lengthOf l dC dI cB cI cJ cM kk (by omega) H.size) (va_cwS 1 hts gX9_copied_X9_lengthOf rfl rfl rfl (by decide +kernel) ⟨Nat.le_of_ble_eq_true rfl, Nat.le_of_ble_eq_true rfl⟩) ⟨fun a U g mk q => by obtain ⟨q0, q1, qP, qK, qD⟩ := q; exact ⟨q0, q1, qP, va_K.moved (u := U) (U := U.calling g mk a) (Vm.Alike.refl U.vm) qK, qD⟩, fun U hU hW => ⟨rfl, by rw [hU], by rw [hU]; exact hPc, va_K.moved hW.alike hK, hDc.weaken (fun _ _ _ _ => trivial)⟩⟩ rfl rfl hl.1 rfl (lv_room (Nat.le_of_ble_eq_true rfl)) dX9_copied_29 ⟨(show 0 + 0 ≤ 0 by omega), (show 0 + 0 ≤ 0 by omega)⟩) hS (fun q _ h => hFc q h) hFc (fun r29 u t H1 locs ht hvm hw hB hz1 hk1 hS => ?_)
        have hP1 : va_P (dC, dI) vwCl [] H1 := by rw [← ht]; exact hB.1
        have hD1 : va_D (va_A [] H.size) [] := hB.2.2
        obtain ⟨hP, hD⟩ := va_join (wr := [(h0, .inr (9, [m0, .ref pp, .int (nI ((zl1 L kk + 7) / 8)), .int (nI (zl1 L kk % 8)), m4, m5, m6, m7, m8, m9, m10, m11, m12, m13, m14, m15, m16, m17, m18, m19, m20, m21, m22, m23])), (pp, .inl (cB, 16384, .inl g1))]) (w1 := []) hP hD [] [0, 1] rfl rfl (by decide) (by decide) hk1 hFc hP1 hD1
        generalize H1 = H at hP hS ⊢
        try dsimp only at hw
        have hP : va_P (dC, dI) vwCl [(h0, .inr (9, [m0, .ref pp, .int (nI ((zl1 L kk + 7) / 8)), .int (nI (zl1 L kk % 8)), m4, m5, m6, m7, m8, m9, m10, m11, m12, m13, m14, m15, m16, m17, m18, m19, m20, m21, m22, m23])), (pp, .inl (cB, 16384, .inl g1))] H := hP
        have hD : va_D A [(h0, .inr (9, [m0, .ref pp, .int (nI ((zl1 L kk + 7) / 8)), .int (nI (zl1 L kk % 8)), m4, m5, m6, m7, m8, m9, m10, m11, m12, m13, m14, m15, m16, m17, m18, m19, m20, m21, m22, m23])), (pp, .inl (cB, 16384, .inl g1))] := hD
        obtain rfl : r29 = nI (tn_LENGTH_BASE kk) := hw
        refine W.eq (g2 := F0 m 32 ls [.int (nI (tn_LENGTH_BASE kk)), .int (nI ln), .ref h0]) rfl ?_
        refine lv_isub hx hb dX9_copied_32 ?_
        refine lv_topi (fun y_2 ey_2 => ?_)
        obtain rfl : y_2 = nI (ln - (tn_LENGTH_BASE kk)) := ey_2.trans (pk_sub (a := ln) (b := (tn_LENGTH_BASE kk)) (by omega))
        refine lv_iload_n hx hb dX9_copied_33 rfl (lv_at hl 3 rfl) ?_
        have hPc := hP.sub (ws' := []) [] rfl
        have hDc := hD.sub (ws' := []) [] (by decide) rfl
        have hFc := va_free (wc := []) hD hS hA [] rfl
        refine va_calli (va_runS (As := [.int (nI kk)]) (rest := [.int (nI (ln - (tn_LENGTH_BASE kk))), .ref h0]) ⟨hx, hb, hml, hown, hts⟩ (k_X9_lengthBits l dC dI cB cI cJ cM kk (by omega) H.size) (va_cwS 1 hts gX9_copied_X9_lengthBits rfl rfl rfl (by decide +kernel) ⟨Nat.le_of_ble_eq_true rfl, Nat.le_of_ble_eq_true rfl⟩) ⟨fun a U g mk q => by obtain ⟨q0, q1, qP, qK, qD⟩ := q; exact ⟨q0, q1, qP, va_K.moved (u := U) (U := U.calling g mk a) (Vm.Alike.refl U.vm) qK, qD⟩, fun U hU hW => ⟨rfl, by rw [hU], by rw [hU]; exact hPc, va_K.moved hW.alike hK, hDc.weaken (fun _ _ _ _ => trivial)⟩⟩ rfl rfl hl.1 rfl (lv_room (Nat.le_of_ble_eq_true rfl)) dX9_copied_34 ⟨(show 0 + 0 ≤ 0 by omega), (show 0 + 0 ≤ 0 by omega)⟩) hS (fun q _ h => hFc q h) hFc (fun r34 u t H1 locs ht hvm hw hB hz1 hk1 hS => ?_)
        have hP1 : va_P (dC, dI) vwCl [] H1 := by rw [← ht]; exact hB.1
        have hD1 : va_D (va_A [] H.size) [] := hB.2.2
        obtain ⟨hP, hD⟩ := va_join (wr := [(h0, .inr (9, [m0, .ref pp, .int (nI ((zl1 L kk + 7) / 8)), .int (nI (zl1 L kk % 8)), m4, m5, m6, m7, m8, m9, m10, m11, m12, m13, m14, m15, m16, m17, m18, m19, m20, m21, m22, m23])), (pp, .inl (cB, 16384, .inl g1))]) (w1 := []) hP hD [] [0, 1] rfl rfl (by decide) (by decide) hk1 hFc hP1 hD1
        generalize H1 = H at hP hS ⊢
        try dsimp only at hw
        have hP : va_P (dC, dI) vwCl [(h0, .inr (9, [m0, .ref pp, .int (nI ((zl1 L kk + 7) / 8)), .int (nI (zl1 L kk % 8)), m4, m5, m6, m7, m8, m9, m10, m11, m12, m13, m14, m15, m16, m17, m18, m19, m20, m21, m22, m23])), (pp, .inl (cB, 16384, .inl g1))] H := hP
        have hD : va_D A [(h0, .inr (9, [m0, .ref pp, .int (nI ((zl1 L kk + 7) / 8)), .int (nI (zl1 L kk % 8)), m4, m5, m6, m7, m8, m9, m10, m11, m12, m13, m14, m15, m16, m17, m18, m19, m20, m21, m22, m23])), (pp, .inl (cB, 16384, .inl g1))] := hD
        obtain rfl : r34 = nI (tn_LENGTH_EXTRA kk) := hw
        refine W.eq (g2 := F0 m 37 ls [.int (nI (tn_LENGTH_EXTRA kk)), .int (nI (ln - (tn_LENGTH_BASE kk))), .ref h0]) rfl ?_
        have hPc := hP.sub (ws' := [(h0, .inr (9, [m0, .ref pp, .int (nI ((zl1 L kk + 7) / 8)), .int (nI (zl1 L kk % 8)), m4, m5, m6, m7, m8, m9, m10, m11, m12, m13, m14, m15, m16, m17, m18, m19, m20, m21, m22, m23])), (pp, .inl (cB, 16384, .inl g1))]) [0, 1] rfl
        have hDc := hD.sub (ws' := [(h0, .inr (9, [m0, .ref pp, .int (nI ((zl1 L kk + 7) / 8)), .int (nI (zl1 L kk % 8)), m4, m5, m6, m7, m8, m9, m10, m11, m12, m13, m14, m15, m16, m17, m18, m19, m20, m21, m22, m23])), (pp, .inl (cB, 16384, .inl g1))]) [0, 1] (by decide) rfl
        have hFc := va_free (wc := [(h0, .inr (9, [m0, .ref pp, .int (nI ((zl1 L kk + 7) / 8)), .int (nI (zl1 L kk % 8)), m4, m5, m6, m7, m8, m9, m10, m11, m12, m13, m14, m15, m16, m17, m18, m19, m20, m21, m22, m23])), (pp, .inl (cB, 16384, .inl g1))]) hD hS hA [0, 1] rfl
        refine va_callv (va_runV (As := [.int (nI (ln - (tn_LENGTH_BASE kk))), .int (nI (tn_LENGTH_EXTRA kk))]) (rest := []) ⟨hx, hb, hml, hown, hts⟩ (k_X9_low l dC dI cB cI cJ cM h0 pp g1 (zsv V L (257 + kk)) (zl1 L kk) (ln - tn_LENGTH_BASE kk) (tn_LENGTH_EXTRA kk) m0 m4 m5 m6 m7 m8 m9 m10 m11 m12 m13 m14 m15 m16 m17 m18 m19 m20 m21 m22 m23 (ho1) (by omega) (hkA) (by omega) H.size) (cwV 2 hts gX9_copied_X9_low rfl rfl rfl (by decide +kernel) ⟨Nat.le_of_ble_eq_true rfl, Nat.le_of_ble_eq_true rfl⟩) ⟨fun a U g mk q => by obtain ⟨q0, q1, qP, qK, qD⟩ := q; exact ⟨q0, q1, qP, va_K.moved (u := U) (U := U.calling g mk a) (Vm.Alike.refl U.vm) qK, qD⟩, va_recv hK hPc (ci := 9) (q0 := 0) rfl rfl, fun U hU hW => ⟨rfl, by rw [hU], by rw [hU]; exact hPc, va_K.moved hW.alike hK, hDc.weaken (fun _ _ _ _ => trivial)⟩⟩ rfl rfl hl.1 rfl (lv_room (Nat.le_of_ble_eq_true rfl)) dX9_copied_37 ⟨(show 0 + 0 ≤ 0 by omega), (show 0 + 0 ≤ 0 by omega)⟩) hS (fun q _ h => hFc q h) hFc (fun u t H1 locs ht hvm hw hB hz1 hk1 hS => ?_)
        obtain ⟨g2, rfl⟩ : ∃ z, z = u := ⟨_, rfl⟩
        have hP1 : va_P (dC, dI) vwCl [(h0, .inr (9, [m0, .ref pp, .int (nI ((((zl1 L kk) + (tn_LENGTH_EXTRA kk)) + 7) / 8)), .int (nI (((zl1 L kk) + (tn_LENGTH_EXTRA kk)) % 8)), m4, m5, m6, m7, m8, m9, m10, m11, m12, m13, m14, m15, m16, m17, m18, m19, m20, m21, m22, m23])), (pp, .inl (cB, 16384, .inl g2))] H1 := by rw [← ht]; exact hB.1
        have hD1 : va_D (va_A [(h0, .inr (9, [m0, .ref pp, .int (nI ((zl1 L kk + 7) / 8)), .int (nI (zl1 L kk % 8)), m4, m5, m6, m7, m8, m9, m10, m11, m12, m13, m14, m15, m16, m17, m18, m19, m20, m21, m22, m23])), (pp, .inl (cB, 16384, .inl g1))] H.size) [(h0, .inr (9, [m0, .ref pp, .int (nI ((((zl1 L kk) + (tn_LENGTH_EXTRA kk)) + 7) / 8)), .int (nI (((zl1 L kk) + (tn_LENGTH_EXTRA kk)) % 8)), m4, m5, m6, m7, m8, m9, m10, m11, m12, m13, m14, m15, m16, m17, m18, m19, m20, m21, m22, m23])), (pp, .inl (cB, 16384, .inl g2))] := hB.2.2
        obtain ⟨hP, hD⟩ := va_join (wr := []) (w1 := [(h0, .inr (9, [m0, .ref pp, .int (nI ((((zl1 L kk) + (tn_LENGTH_EXTRA kk)) + 7) / 8)), .int (nI (((zl1 L kk) + (tn_LENGTH_EXTRA kk)) % 8)), m4, m5, m6, m7, m8, m9, m10, m11, m12, m13, m14, m15, m16, m17, m18, m19, m20, m21, m22, m23])), (pp, .inl (cB, 16384, .inl g2))]) hP hD [0, 1] [] rfl rfl (by decide) (by decide) hk1 hFc hP1 hD1
        generalize H1 = H at hP hS ⊢
        try dsimp only at hw
        have hP : va_P (dC, dI) vwCl [(h0, .inr (9, [m0, .ref pp, .int (nI ((((zl1 L kk) + (tn_LENGTH_EXTRA kk)) + 7) / 8)), .int (nI (((zl1 L kk) + (tn_LENGTH_EXTRA kk)) % 8)), m4, m5, m6, m7, m8, m9, m10, m11, m12, m13, m14, m15, m16, m17, m18, m19, m20, m21, m22, m23])), (pp, .inl (cB, 16384, .inl g2))] H := hP
        have hD : va_D A [(h0, .inr (9, [m0, .ref pp, .int (nI ((((zl1 L kk) + (tn_LENGTH_EXTRA kk)) + 7) / 8)), .int (nI (((zl1 L kk) + (tn_LENGTH_EXTRA kk)) % 8)), m4, m5, m6, m7, m8, m9, m10, m11, m12, m13, m14, m15, m16, m17, m18, m19, m20, m21, m22, m23])), (pp, .inl (cB, 16384, .inl g2))] := hD
        have ho2 : zRo g2 (zv2 V L ln kk) (zl2 L kk) := hw
        have hP : va_P (dC, dI) vwCl [(h0, .inr (9, [m0, .ref pp, .int (nI ((zl2 L kk + 7) / 8)), .int (nI (zl2 L kk % 8)), m4, m5, m6, m7, m8, m9, m10, m11, m12, m13, m14, m15, m16, m17, m18, m19, m20, m21, m22, m23])), (pp, .inl (cB, 16384, .inl g2))] H := hP
        have hD : va_D A [(h0, .inr (9, [m0, .ref pp, .int (nI ((zl2 L kk + 7) / 8)), .int (nI (zl2 L kk % 8)), m4, m5, m6, m7, m8, m9, m10, m11, m12, m13, m14, m15, m16, m17, m18, m19, m20, m21, m22, m23])), (pp, .inl (cB, 16384, .inl g2))] := hD
        refine W.eq (g2 := F0 m 40 ls []) rfl ?_
        have hL2 : zl2 L kk = zl1 L kk + tn_LENGTH_EXTRA kk := rfl
        refine lv_bipush (v := 29) hx hb dX9_copied_40 (by decide) ?_
        refine lv_istore (lv' := [(4, .int 29), (0, .ref h0), (1, .int (nI ln)), (2, .int (nI dw)), (3, .int (nI kk))]) hx hb dX9_copied_42 hl (by decide) rfl (fun ls hl => ?_)
        have cut44 : ∀ (fuel : Nat) (dd : Nat), (dd < 30) → (dd + 1 = 30 ∨ dw < tn_DISTANCE_BASE (dd + 1)) → (dd < fuel) → ∀ (H : Heap) (locs : List Loc), va_P (dC, dI) vwCl [(h0, .inr (9, [m0, .ref pp, .int (nI ((zl2 L kk + 7) / 8)), .int (nI (zl2 L kk % 8)), m4, m5, m6, m7, m8, m9, m10, m11, m12, m13, m14, m15, m16, m17, m18, m19, m20, m21, m22, m23])), (pp, .inl (cB, 16384, .inl g2))] H → va_D A [(h0, .inr (9, [m0, .ref pp, .int (nI ((zl2 L kk + 7) / 8)), .int (nI (zl2 L kk % 8)), m4, m5, m6, m7, m8, m9, m10, m11, m12, m13, m14, m15, m16, m17, m18, m19, m20, m21, m22, m23])), (pp, .inl (cB, 16384, .inl g2))] → va_S A s.heap H locs → ∀ (ls : Array Slot), lv_has ls 5 [(0, .ref h0), (1, .int (nI ln)), (2, .int (nI dw)), (4, .int (nI dd))] → W p l e (headSpec wsX9_copied rm_X9_copied).room s m ([.ref h0, .int (nI ln), .int (nI dw)] : List Value).toArray below meth c H locs 0 0 (MQ below (q_X9_copied dC dI cB cI cJ cM h0 pp g V L ln dw m0 m4 m5 m6 m7 m8 m9 m10 m11 m12 m13 m14 m15 m16 m17 m18 m19 m20 m21 m22 m23 A) ([.ref h0, .int (nI ln), .int (nI dw)] : List Value).toArray s 0 0 A) (F0 m 44 ls []) := by
          intro fuel
          induction fuel with
          | zero => intros; omega
          | succ fuel ihb =>
            intro dd hdd hdb hfuel H locs hP hD hS ls hl
            refine lv_iload hx hb dX9_copied_44 (lv_at hl 3 rfl) ?_
            have hPc := hP.sub (ws' := []) [] rfl
            have hDc := hD.sub (ws' := []) [] (by decide) rfl
            have hFc := va_free (wc := []) hD hS hA [] rfl
            refine va_calli (va_runS (As := [.int (nI dd)]) (rest := []) ⟨hx, hb, hml, hown, hts⟩ (k_X9_wayOf l dC dI cB cI cJ cM dd (by omega) H.size) (va_cwS 1 hts gX9_copied_X9_wayOf rfl rfl rfl (by decide +kernel) ⟨Nat.le_of_ble_eq_true rfl, Nat.le_of_ble_eq_true rfl⟩) ⟨fun a U g mk q => by obtain ⟨q0, q1, qP, qK, qD⟩ := q; exact ⟨q0, q1, qP, va_K.moved (u := U) (U := U.calling g mk a) (Vm.Alike.refl U.vm) qK, qD⟩, fun U hU hW => ⟨rfl, by rw [hU], by rw [hU]; exact hPc, va_K.moved hW.alike hK, hDc.weaken (fun _ _ _ _ => trivial)⟩⟩ rfl rfl hl.1 rfl (lv_room (Nat.le_of_ble_eq_true rfl)) dX9_copied_46 ⟨(show 0 + 0 ≤ 0 by omega), (show 0 + 0 ≤ 0 by omega)⟩) hS (fun q _ h => hFc q h) hFc (fun r46 u t H1 locs ht hvm hw hB hz1 hk1 hS => ?_)
            have hP1 : va_P (dC, dI) vwCl [] H1 := by rw [← ht]; exact hB.1
            have hD1 : va_D (va_A [] H.size) [] := hB.2.2
            obtain ⟨hP, hD⟩ := va_join (wr := [(h0, .inr (9, [m0, .ref pp, .int (nI ((zl2 L kk + 7) / 8)), .int (nI (zl2 L kk % 8)), m4, m5, m6, m7, m8, m9, m10, m11, m12, m13, m14, m15, m16, m17, m18, m19, m20, m21, m22, m23])), (pp, .inl (cB, 16384, .inl g2))]) (w1 := []) hP hD [] [0, 1] rfl rfl (by decide) (by decide) hk1 hFc hP1 hD1
            generalize H1 = H at hP hS ⊢
            try dsimp only at hw
            have hP : va_P (dC, dI) vwCl [(h0, .inr (9, [m0, .ref pp, .int (nI ((zl2 L kk + 7) / 8)), .int (nI (zl2 L kk % 8)), m4, m5, m6, m7, m8, m9, m10, m11, m12, m13, m14, m15, m16, m17, m18, m19, m20, m21, m22, m23])), (pp, .inl (cB, 16384, .inl g2))] H := hP
            have hD : va_D A [(h0, .inr (9, [m0, .ref pp, .int (nI ((zl2 L kk + 7) / 8)), .int (nI (zl2 L kk % 8)), m4, m5, m6, m7, m8, m9, m10, m11, m12, m13, m14, m15, m16, m17, m18, m19, m20, m21, m22, m23])), (pp, .inl (cB, 16384, .inl g2))] := hD
            obtain rfl : r46 = nI (tn_DISTANCE_BASE dd) := hw
            have hlt := z_lt_d dd hdd
            refine W.eq (g2 := F0 m 49 ls [.int (nI (tn_DISTANCE_BASE dd))]) rfl ?_
            refine lv_iload_n hx hb dX9_copied_49 rfl (lv_at hl 2 rfl) ?_
            refine lv_icmp_le (tgt := 59) hx hb dX9_copied_50 (by decide) (fun c50 => ?_) (fun c50 => ?_)
            · have c50 : (tn_DISTANCE_BASE dd) ≤ dw := (nI_leI (a := (tn_DISTANCE_BASE dd)) (b := dw) (by omega) (by omega)).mp c50
              have hzd : zIs tn_DISTANCE_BASE 30 dw dd := ⟨hdd, c50, hdb⟩
              obtain ⟨hdA, hdB, hdC, hdD⟩ := z_dst hzd (by omega)
              refine lv_aload_n hx hb dX9_copied_59 rfl (lv_at hl 0 rfl) ?_
              refine lv_iload hx hb dX9_copied_60 (lv_at hl 3 rfl) ?_
              refine lv_iconst (v := 5) hx hb dX9_copied_62 (by decide) ?_
              have hPc := hP.sub (ws' := [(h0, .inr (9, [m0, .ref pp, .int (nI ((zl2 L kk + 7) / 8)), .int (nI (zl2 L kk % 8)), m4, m5, m6, m7, m8, m9, m10, m11, m12, m13, m14, m15, m16, m17, m18, m19, m20, m21, m22, m23])), (pp, .inl (cB, 16384, .inl g2))]) [0, 1] rfl
              have hDc := hD.sub (ws' := [(h0, .inr (9, [m0, .ref pp, .int (nI ((zl2 L kk + 7) / 8)), .int (nI (zl2 L kk % 8)), m4, m5, m6, m7, m8, m9, m10, m11, m12, m13, m14, m15, m16, m17, m18, m19, m20, m21, m22, m23])), (pp, .inl (cB, 16384, .inl g2))]) [0, 1] (by decide) rfl
              have hFc := va_free (wc := [(h0, .inr (9, [m0, .ref pp, .int (nI ((zl2 L kk + 7) / 8)), .int (nI (zl2 L kk % 8)), m4, m5, m6, m7, m8, m9, m10, m11, m12, m13, m14, m15, m16, m17, m18, m19, m20, m21, m22, m23])), (pp, .inl (cB, 16384, .inl g2))]) hD hS hA [0, 1] rfl
              refine va_callv (va_runV (As := [.int (nI dd), .int 5]) (rest := []) ⟨hx, hb, hml, hown, hts⟩ (k_X9_high l dC dI cB cI cJ cM h0 pp g2 (zv2 V L ln kk) (zl2 L kk) dd 5 m0 m4 m5 m6 m7 m8 m9 m10 m11 m12 m13 m14 m15 m16 m17 m18 m19 m20 m21 m22 m23 (ho2) (by omega) (by omega) (by omega) H.size) (cwV 2 hts gX9_copied_X9_high rfl rfl rfl (by decide +kernel) ⟨Nat.le_of_ble_eq_true rfl, Nat.le_of_ble_eq_true rfl⟩) ⟨fun a U g mk q => by obtain ⟨q0, q1, qP, qK, qD⟩ := q; exact ⟨q0, q1, qP, va_K.moved (u := U) (U := U.calling g mk a) (Vm.Alike.refl U.vm) qK, qD⟩, va_recv hK hPc (ci := 9) (q0 := 0) rfl rfl, fun U hU hW => ⟨rfl, by rw [hU], by rw [hU]; exact hPc, va_K.moved hW.alike hK, hDc.weaken (fun _ _ _ _ => trivial)⟩⟩ rfl rfl hl.1 rfl (lv_room (Nat.le_of_ble_eq_true rfl)) dX9_copied_63 ⟨(show 0 + 0 ≤ 0 by omega), (show 0 + 0 ≤ 0 by omega)⟩) hS (fun q _ h => hFc q h) hFc (fun u t H1 locs ht hvm hw hB hz1 hk1 hS => ?_)
              obtain ⟨g3, rfl⟩ : ∃ z, z = u := ⟨_, rfl⟩
              have hP1 : va_P (dC, dI) vwCl [(h0, .inr (9, [m0, .ref pp, .int (nI ((((zl2 L kk) + 5) + 7) / 8)), .int (nI (((zl2 L kk) + 5) % 8)), m4, m5, m6, m7, m8, m9, m10, m11, m12, m13, m14, m15, m16, m17, m18, m19, m20, m21, m22, m23])), (pp, .inl (cB, 16384, .inl g3))] H1 := by rw [← ht]; exact hB.1
              have hD1 : va_D (va_A [(h0, .inr (9, [m0, .ref pp, .int (nI ((zl2 L kk + 7) / 8)), .int (nI (zl2 L kk % 8)), m4, m5, m6, m7, m8, m9, m10, m11, m12, m13, m14, m15, m16, m17, m18, m19, m20, m21, m22, m23])), (pp, .inl (cB, 16384, .inl g2))] H.size) [(h0, .inr (9, [m0, .ref pp, .int (nI ((((zl2 L kk) + 5) + 7) / 8)), .int (nI (((zl2 L kk) + 5) % 8)), m4, m5, m6, m7, m8, m9, m10, m11, m12, m13, m14, m15, m16, m17, m18, m19, m20, m21, m22, m23])), (pp, .inl (cB, 16384, .inl g3))] := hB.2.2
              obtain ⟨hP, hD⟩ := va_join (wr := []) (w1 := [(h0, .inr (9, [m0, .ref pp, .int (nI ((((zl2 L kk) + 5) + 7) / 8)), .int (nI (((zl2 L kk) + 5) % 8)), m4, m5, m6, m7, m8, m9, m10, m11, m12, m13, m14, m15, m16, m17, m18, m19, m20, m21, m22, m23])), (pp, .inl (cB, 16384, .inl g3))]) hP hD [0, 1] [] rfl rfl (by decide) (by decide) hk1 hFc hP1 hD1
              generalize H1 = H at hP hS ⊢
              try dsimp only at hw
              have hP : va_P (dC, dI) vwCl [(h0, .inr (9, [m0, .ref pp, .int (nI ((((zl2 L kk) + 5) + 7) / 8)), .int (nI (((zl2 L kk) + 5) % 8)), m4, m5, m6, m7, m8, m9, m10, m11, m12, m13, m14, m15, m16, m17, m18, m19, m20, m21, m22, m23])), (pp, .inl (cB, 16384, .inl g3))] H := hP
              have hD : va_D A [(h0, .inr (9, [m0, .ref pp, .int (nI ((((zl2 L kk) + 5) + 7) / 8)), .int (nI (((zl2 L kk) + 5) % 8)), m4, m5, m6, m7, m8, m9, m10, m11, m12, m13, m14, m15, m16, m17, m18, m19, m20, m21, m22, m23])), (pp, .inl (cB, 16384, .inl g3))] := hD
              have ho3 : zRo g3 (zhi (zv2 V L ln kk) (zl2 L kk) dd 5) ((zl2 L kk + 5)) := hw
              have hP : va_P (dC, dI) vwCl [(h0, .inr (9, [m0, .ref pp, .int (nI (((zl2 L kk + 5) + 7) / 8)), .int (nI ((zl2 L kk + 5) % 8)), m4, m5, m6, m7, m8, m9, m10, m11, m12, m13, m14, m15, m16, m17, m18, m19, m20, m21, m22, m23])), (pp, .inl (cB, 16384, .inl g3))] H := hP
              have hD : va_D A [(h0, .inr (9, [m0, .ref pp, .int (nI (((zl2 L kk + 5) + 7) / 8)), .int (nI ((zl2 L kk + 5) % 8)), m4, m5, m6, m7, m8, m9, m10, m11, m12, m13, m14, m15, m16, m17, m18, m19, m20, m21, m22, m23])), (pp, .inl (cB, 16384, .inl g3))] := hD
              refine W.eq (g2 := F0 m 66 ls []) rfl ?_
              refine lv_aload_n hx hb dX9_copied_66 rfl (lv_at hl 0 rfl) ?_
              refine lv_iload_n hx hb dX9_copied_67 rfl (lv_at hl 2 rfl) ?_
              refine lv_iload hx hb dX9_copied_68 (lv_at hl 3 rfl) ?_
              have hPc := hP.sub (ws' := []) [] rfl
              have hDc := hD.sub (ws' := []) [] (by decide) rfl
              have hFc := va_free (wc := []) hD hS hA [] rfl
              refine va_calli (va_runS (As := [.int (nI dd)]) (rest := [.int (nI dw), .ref h0]) ⟨hx, hb, hml, hown, hts⟩ (k_X9_wayOf l dC dI cB cI cJ cM dd (by omega) H.size) (va_cwS 1 hts gX9_copied_X9_wayOf rfl rfl rfl (by decide +kernel) ⟨Nat.le_of_ble_eq_true rfl, Nat.le_of_ble_eq_true rfl⟩) ⟨fun a U g mk q => by obtain ⟨q0, q1, qP, qK, qD⟩ := q; exact ⟨q0, q1, qP, va_K.moved (u := U) (U := U.calling g mk a) (Vm.Alike.refl U.vm) qK, qD⟩, fun U hU hW => ⟨rfl, by rw [hU], by rw [hU]; exact hPc, va_K.moved hW.alike hK, hDc.weaken (fun _ _ _ _ => trivial)⟩⟩ rfl rfl hl.1 rfl (lv_room (Nat.le_of_ble_eq_true rfl)) dX9_copied_70 ⟨(show 0 + 0 ≤ 0 by omega), (show 0 + 0 ≤ 0 by omega)⟩) hS (fun q _ h => hFc q h) hFc (fun r70 u t H1 locs ht hvm hw hB hz1 hk1 hS => ?_)
              have hP1 : va_P (dC, dI) vwCl [] H1 := by rw [← ht]; exact hB.1
              have hD1 : va_D (va_A [] H.size) [] := hB.2.2
              obtain ⟨hP, hD⟩ := va_join (wr := [(h0, .inr (9, [m0, .ref pp, .int (nI (((zl2 L kk + 5) + 7) / 8)), .int (nI ((zl2 L kk + 5) % 8)), m4, m5, m6, m7, m8, m9, m10, m11, m12, m13, m14, m15, m16, m17, m18, m19, m20, m21, m22, m23])), (pp, .inl (cB, 16384, .inl g3))]) (w1 := []) hP hD [] [0, 1] rfl rfl (by decide) (by decide) hk1 hFc hP1 hD1
              generalize H1 = H at hP hS ⊢
              try dsimp only at hw
              have hP : va_P (dC, dI) vwCl [(h0, .inr (9, [m0, .ref pp, .int (nI (((zl2 L kk + 5) + 7) / 8)), .int (nI ((zl2 L kk + 5) % 8)), m4, m5, m6, m7, m8, m9, m10, m11, m12, m13, m14, m15, m16, m17, m18, m19, m20, m21, m22, m23])), (pp, .inl (cB, 16384, .inl g3))] H := hP
              have hD : va_D A [(h0, .inr (9, [m0, .ref pp, .int (nI (((zl2 L kk + 5) + 7) / 8)), .int (nI ((zl2 L kk + 5) % 8)), m4, m5, m6, m7, m8, m9, m10, m11, m12, m13, m14, m15, m16, m17, m18, m19, m20, m21, m22, m23])), (pp, .inl (cB, 16384, .inl g3))] := hD
              obtain rfl : r70 = nI (tn_DISTANCE_BASE dd) := hw
              refine W.eq (g2 := F0 m 73 ls [.int (nI (tn_DISTANCE_BASE dd)), .int (nI dw), .ref h0]) rfl ?_
              refine lv_isub hx hb dX9_copied_73 ?_
              refine lv_topi (fun y_3 ey_3 => ?_)
              obtain rfl : y_3 = nI (dw - (tn_DISTANCE_BASE dd)) := ey_3.trans (pk_sub (a := dw) (b := (tn_DISTANCE_BASE dd)) (by omega))
              refine lv_iload hx hb dX9_copied_74 (lv_at hl 3 rfl) ?_
              have hPc := hP.sub (ws' := []) [] rfl
              have hDc := hD.sub (ws' := []) [] (by decide) rfl
              have hFc := va_free (wc := []) hD hS hA [] rfl
              refine va_calli (va_runS (As := [.int (nI dd)]) (rest := [.int (nI (dw - (tn_DISTANCE_BASE dd))), .ref h0]) ⟨hx, hb, hml, hown, hts⟩ (k_X9_wayBits l dC dI cB cI cJ cM dd (by omega) H.size) (va_cwS 1 hts gX9_copied_X9_wayBits rfl rfl rfl (by decide +kernel) ⟨Nat.le_of_ble_eq_true rfl, Nat.le_of_ble_eq_true rfl⟩) ⟨fun a U g mk q => by obtain ⟨q0, q1, qP, qK, qD⟩ := q; exact ⟨q0, q1, qP, va_K.moved (u := U) (U := U.calling g mk a) (Vm.Alike.refl U.vm) qK, qD⟩, fun U hU hW => ⟨rfl, by rw [hU], by rw [hU]; exact hPc, va_K.moved hW.alike hK, hDc.weaken (fun _ _ _ _ => trivial)⟩⟩ rfl rfl hl.1 rfl (lv_room (Nat.le_of_ble_eq_true rfl)) dX9_copied_76 ⟨(show 0 + 0 ≤ 0 by omega), (show 0 + 0 ≤ 0 by omega)⟩) hS (fun q _ h => hFc q h) hFc (fun r76 u t H1 locs ht hvm hw hB hz1 hk1 hS => ?_)
              have hP1 : va_P (dC, dI) vwCl [] H1 := by rw [← ht]; exact hB.1
              have hD1 : va_D (va_A [] H.size) [] := hB.2.2
              obtain ⟨hP, hD⟩ := va_join (wr := [(h0, .inr (9, [m0, .ref pp, .int (nI (((zl2 L kk + 5) + 7) / 8)), .int (nI ((zl2 L kk + 5) % 8)), m4, m5, m6, m7, m8, m9, m10, m11, m12, m13, m14, m15, m16, m17, m18, m19, m20, m21, m22, m23])), (pp, .inl (cB, 16384, .inl g3))]) (w1 := []) hP hD [] [0, 1] rfl rfl (by decide) (by decide) hk1 hFc hP1 hD1
              generalize H1 = H at hP hS ⊢
              try dsimp only at hw
              have hP : va_P (dC, dI) vwCl [(h0, .inr (9, [m0, .ref pp, .int (nI (((zl2 L kk + 5) + 7) / 8)), .int (nI ((zl2 L kk + 5) % 8)), m4, m5, m6, m7, m8, m9, m10, m11, m12, m13, m14, m15, m16, m17, m18, m19, m20, m21, m22, m23])), (pp, .inl (cB, 16384, .inl g3))] H := hP
              have hD : va_D A [(h0, .inr (9, [m0, .ref pp, .int (nI (((zl2 L kk + 5) + 7) / 8)), .int (nI ((zl2 L kk + 5) % 8)), m4, m5, m6, m7, m8, m9, m10, m11, m12, m13, m14, m15, m16, m17, m18, m19, m20, m21, m22, m23])), (pp, .inl (cB, 16384, .inl g3))] := hD
              obtain rfl : r76 = nI (tn_DISTANCE_EXTRA dd) := hw
              refine W.eq (g2 := F0 m 79 ls [.int (nI (tn_DISTANCE_EXTRA dd)), .int (nI (dw - (tn_DISTANCE_BASE dd))), .ref h0]) rfl ?_
              have hPc := hP.sub (ws' := [(h0, .inr (9, [m0, .ref pp, .int (nI (((zl2 L kk + 5) + 7) / 8)), .int (nI ((zl2 L kk + 5) % 8)), m4, m5, m6, m7, m8, m9, m10, m11, m12, m13, m14, m15, m16, m17, m18, m19, m20, m21, m22, m23])), (pp, .inl (cB, 16384, .inl g3))]) [0, 1] rfl
              have hDc := hD.sub (ws' := [(h0, .inr (9, [m0, .ref pp, .int (nI (((zl2 L kk + 5) + 7) / 8)), .int (nI ((zl2 L kk + 5) % 8)), m4, m5, m6, m7, m8, m9, m10, m11, m12, m13, m14, m15, m16, m17, m18, m19, m20, m21, m22, m23])), (pp, .inl (cB, 16384, .inl g3))]) [0, 1] (by decide) rfl
              have hFc := va_free (wc := [(h0, .inr (9, [m0, .ref pp, .int (nI (((zl2 L kk + 5) + 7) / 8)), .int (nI ((zl2 L kk + 5) % 8)), m4, m5, m6, m7, m8, m9, m10, m11, m12, m13, m14, m15, m16, m17, m18, m19, m20, m21, m22, m23])), (pp, .inl (cB, 16384, .inl g3))]) hD hS hA [0, 1] rfl
              refine va_callv (va_runV (As := [.int (nI (dw - (tn_DISTANCE_BASE dd))), .int (nI (tn_DISTANCE_EXTRA dd))]) (rest := []) ⟨hx, hb, hml, hown, hts⟩ (k_X9_low l dC dI cB cI cJ cM h0 pp g3 (zhi (zv2 V L ln kk) (zl2 L kk) dd 5) (zl2 L kk + 5) (dw - tn_DISTANCE_BASE dd) (tn_DISTANCE_EXTRA dd) m0 m4 m5 m6 m7 m8 m9 m10 m11 m12 m13 m14 m15 m16 m17 m18 m19 m20 m21 m22 m23 (ho3) (by omega) (hdA) (by omega) H.size) (cwV 2 hts gX9_copied_X9_low rfl rfl rfl (by decide +kernel) ⟨Nat.le_of_ble_eq_true rfl, Nat.le_of_ble_eq_true rfl⟩) ⟨fun a U g mk q => by obtain ⟨q0, q1, qP, qK, qD⟩ := q; exact ⟨q0, q1, qP, va_K.moved (u := U) (U := U.calling g mk a) (Vm.Alike.refl U.vm) qK, qD⟩, va_recv hK hPc (ci := 9) (q0 := 0) rfl rfl, fun U hU hW => ⟨rfl, by rw [hU], by rw [hU]; exact hPc, va_K.moved hW.alike hK, hDc.weaken (fun _ _ _ _ => trivial)⟩⟩ rfl rfl hl.1 rfl (lv_room (Nat.le_of_ble_eq_true rfl)) dX9_copied_79 ⟨(show 0 + 0 ≤ 0 by omega), (show 0 + 0 ≤ 0 by omega)⟩) hS (fun q _ h => hFc q h) hFc (fun u t H1 locs ht hvm hw hB hz1 hk1 hS => ?_)
              obtain ⟨g4, rfl⟩ : ∃ z, z = u := ⟨_, rfl⟩
              have hP1 : va_P (dC, dI) vwCl [(h0, .inr (9, [m0, .ref pp, .int (nI ((((zl2 L kk + 5) + (tn_DISTANCE_EXTRA dd)) + 7) / 8)), .int (nI (((zl2 L kk + 5) + (tn_DISTANCE_EXTRA dd)) % 8)), m4, m5, m6, m7, m8, m9, m10, m11, m12, m13, m14, m15, m16, m17, m18, m19, m20, m21, m22, m23])), (pp, .inl (cB, 16384, .inl g4))] H1 := by rw [← ht]; exact hB.1
              have hD1 : va_D (va_A [(h0, .inr (9, [m0, .ref pp, .int (nI (((zl2 L kk + 5) + 7) / 8)), .int (nI ((zl2 L kk + 5) % 8)), m4, m5, m6, m7, m8, m9, m10, m11, m12, m13, m14, m15, m16, m17, m18, m19, m20, m21, m22, m23])), (pp, .inl (cB, 16384, .inl g3))] H.size) [(h0, .inr (9, [m0, .ref pp, .int (nI ((((zl2 L kk + 5) + (tn_DISTANCE_EXTRA dd)) + 7) / 8)), .int (nI (((zl2 L kk + 5) + (tn_DISTANCE_EXTRA dd)) % 8)), m4, m5, m6, m7, m8, m9, m10, m11, m12, m13, m14, m15, m16, m17, m18, m19, m20, m21, m22, m23])), (pp, .inl (cB, 16384, .inl g4))] := hB.2.2
              obtain ⟨hP, hD⟩ := va_join (wr := []) (w1 := [(h0, .inr (9, [m0, .ref pp, .int (nI ((((zl2 L kk + 5) + (tn_DISTANCE_EXTRA dd)) + 7) / 8)), .int (nI (((zl2 L kk + 5) + (tn_DISTANCE_EXTRA dd)) % 8)), m4, m5, m6, m7, m8, m9, m10, m11, m12, m13, m14, m15, m16, m17, m18, m19, m20, m21, m22, m23])), (pp, .inl (cB, 16384, .inl g4))]) hP hD [0, 1] [] rfl rfl (by decide) (by decide) hk1 hFc hP1 hD1
              generalize H1 = H at hP hS ⊢
              try dsimp only at hw
              have hP : va_P (dC, dI) vwCl [(h0, .inr (9, [m0, .ref pp, .int (nI ((((zl2 L kk + 5) + (tn_DISTANCE_EXTRA dd)) + 7) / 8)), .int (nI (((zl2 L kk + 5) + (tn_DISTANCE_EXTRA dd)) % 8)), m4, m5, m6, m7, m8, m9, m10, m11, m12, m13, m14, m15, m16, m17, m18, m19, m20, m21, m22, m23])), (pp, .inl (cB, 16384, .inl g4))] H := hP
              have hD : va_D A [(h0, .inr (9, [m0, .ref pp, .int (nI ((((zl2 L kk + 5) + (tn_DISTANCE_EXTRA dd)) + 7) / 8)), .int (nI (((zl2 L kk + 5) + (tn_DISTANCE_EXTRA dd)) % 8)), m4, m5, m6, m7, m8, m9, m10, m11, m12, m13, m14, m15, m16, m17, m18, m19, m20, m21, m22, m23])), (pp, .inl (cB, 16384, .inl g4))] := hD
              have ho4 : zRo g4 (zv4 V L ln dw kk dd) ((zl4 L kk dd)) := hw
              have hP : va_P (dC, dI) vwCl [(h0, .inr (9, [m0, .ref pp, .int (nI (((zl4 L kk dd) + 7) / 8)), .int (nI ((zl4 L kk dd) % 8)), m4, m5, m6, m7, m8, m9, m10, m11, m12, m13, m14, m15, m16, m17, m18, m19, m20, m21, m22, m23])), (pp, .inl (cB, 16384, .inl g4))] H := hP
              have hD : va_D A [(h0, .inr (9, [m0, .ref pp, .int (nI (((zl4 L kk dd) + 7) / 8)), .int (nI ((zl4 L kk dd) % 8)), m4, m5, m6, m7, m8, m9, m10, m11, m12, m13, m14, m15, m16, m17, m18, m19, m20, m21, m22, m23])), (pp, .inl (cB, 16384, .inl g4))] := hD
              refine W.eq (g2 := F0 m 82 ls []) rfl ?_
              have hP9 := hP.sub (ws' := [(h0, .inr (9, [m0, .ref pp, .int (nI (((zl4 L kk dd) + 7) / 8)), .int (nI ((zl4 L kk dd) % 8)), m4, m5, m6, m7, m8, m9, m10, m11, m12, m13, m14, m15, m16, m17, m18, m19, m20, m21, m22, m23])), (pp, .inl (cB, 16384, .inl g4))]) [0, 1] rfl
              have hD9 := hD.sub (ws' := [(h0, .inr (9, [m0, .ref pp, .int (nI (((zl4 L kk dd) + 7) / 8)), .int (nI ((zl4 L kk dd) % 8)), m4, m5, m6, m7, m8, m9, m10, m11, m12, m13, m14, m15, m16, m17, m18, m19, m20, m21, m22, m23])), (pp, .inl (cB, 16384, .inl g4))]) [0, 1] (by decide) rfl
              exact W.vret hx hb hr (fun t ht hW => ⟨⟨(g4, kk, dd), rfl, ⟨hzk, hzd, ho4⟩, ⟨by rw [ht]; exact hP9, va_K.moved hW.alike hK, hD9⟩⟩, hS.F ht⟩) hS.2.2 dX9_copied_82
            · have c50 : ¬ ((tn_DISTANCE_BASE dd) ≤ dw) := fun h => c50 ((nI_leI (a := (tn_DISTANCE_BASE dd)) (b := dw) (by omega) (by omega)).mpr h)
              have hk0 : 1 ≤ dd := (Nat.eq_zero_or_pos dd).elim (fun h => absurd (show tn_DISTANCE_BASE dd ≤ dw by rw [h]; show 1 ≤ dw; omega) c50) (fun h => h)
              refine lv_iinc (v := nI (dd - 1)) (lv' := [(4, .int (nI (dd - 1))), (0, .ref h0), (1, .int (nI ln)), (2, .int (nI dw))]) hx hb dX9_copied_53 hl (k := 3) rfl (zsub (dd) 1 (by omega)) (by decide) rfl (fun ls hl => ?_)
              refine lv_goto (tgt := 44) hx hb dX9_copied_56 (by decide) ?_
              exact ihb (dd - 1) (by omega) (Or.inr (by rw [show dd - 1 + 1 = dd from by omega]; omega)) (by omega) _ _ hP hD hS _ (lv_sub hl [1, 2, 3, 0] rfl)
        exact cut44 (29 + 1) 29 (by omega) (Or.inl rfl) (by omega) _ _ hP hD hS _ (lv_sub hl [1, 2, 3, 0] rfl)
      · have c8 : ¬ ((tn_LENGTH_BASE kk) ≤ ln) := fun h => c8 ((nI_leI (a := (tn_LENGTH_BASE kk)) (b := ln) (by omega) (by omega)).mpr h)
        have hk0 : 1 ≤ kk := (Nat.eq_zero_or_pos kk).elim (fun h => absurd (show tn_LENGTH_BASE kk ≤ ln by rw [h]; show 3 ≤ ln; omega) c8) (fun h => h)
        refine lv_iinc (v := nI (kk - 1)) (lv' := [(3, .int (nI (kk - 1))), (0, .ref h0), (1, .int (nI ln)), (2, .int (nI dw))]) hx hb dX9_copied_11 hl (k := 3) rfl (zsub (kk) 1 (by omega)) (by decide) rfl (fun ls hl => ?_)
        refine lv_goto (tgt := 3) hx hb dX9_copied_14 (by decide) ?_
        exact iha (kk - 1) (by omega) (Or.inr (by rw [show kk - 1 + 1 = kk from by omega]; omega)) (by omega) _ _ hP hD hS _ (lv_sub hl [1, 2, 3, 0] rfl)
  exact cut3 (28 + 1) 28 (by omega) (Or.inl rfl) (by omega) _ _ hP hD hS _ (lv_sub hl [1, 2, 3, 0] rfl)
