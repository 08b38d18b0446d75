abbrev rm_X5_writeSymbol : Room := { frames := 2, cells := 0, slots := 0, locals := 45 }
abbrev wo_X5_writeSymbol (dC : Nat → ClassId) (dI : Nat → Nat → Nat) (cB cI cJ cM : ClassId) (h0 wr b n : Nat) (vf : Value) (g : Nat → Int32) (V L : Nat) (sy : Nat) : va_W := [(h0, .inr (5, [.ref wr, vf])), (wr, .inr (1, [.ref b, .int (nI (L / 8)), .int (nI (V / 2 ^ (8 * (L / 8)))), .int (nI (L % 8))])), (b, .inl (cB, n, .inl g))]
abbrev q_X5_writeSymbol (dC : Nat → ClassId) (dI : Nat → Nat → Nat) (cB cI cJ cM : ClassId) (h0 wr b n : Nat) (vf : Value) (g : Nat → Int32) (V L : Nat) (sy : Nat) (A : Nat → Prop) : Array Value → State → Outcome → State → Prop := va_Qv (fun (u : Nat → Int32) => zOut u (zsv V L sy) (L + zsl sy)) (zB dC dI cB cI cJ cM A (fun u : Nat → Int32 => [(h0, .inr (5, [.ref wr, vf])), (wr, .inr (1, [.ref b, .int (nI ((L + zsl sy) / 8)), .int (nI (zsv V L sy / 2 ^ (8 * ((L + zsl sy) / 8)))), .int (nI ((L + zsl sy) % 8))])), (b, .inl (cB, n, .inl u))])) A
set_option maxHeartbeats 8000000 in
set_option maxRecDepth 100000 in
/-- writeSymbol -/
theorem k_X5_writeSymbol (l : Launch) (dC : Nat → ClassId) (dI : Nat → Nat → Nat) (cB cI cJ cM : ClassId) (h0 wr b n : Nat) (vf : Value) (g : Nat → Int32) (V L : Nat) (sy : Nat) (ho : zOut g V L) (hs : sy < 288) (hn : (L + 9) / 8 ≤ n) (hn2 : n < 100000) (sz : Nat) : Met l yX5_writeSymbol wsX5_writeSymbol rm_X5_writeSymbol (va_Pc [.ref h0, .int (nI sy)] (fun U => U.heap.size = sz ∧ va_P (dC, dI) vwCl (wo_X5_writeSymbol dC dI cB cI cJ cM h0 wr b n vf g V L sy) U.heap ∧ va_K (dC, dI) vwCl (zT cB cI cJ cM) U ∧ va_D (fun _ => True) (wo_X5_writeSymbol dC dI cB cI cJ cM h0 wr b n vf g V L sy))) (q_X5_writeSymbol dC dI cB cI cJ cM h0 wr b n vf g V L sy (va_A (wo_X5_writeSymbol dC dI cB cI cJ cM h0 wr b n vf g V L sy) sz)) 0 0 (va_A (wo_X5_writeSymbol dC dI cB cI cJ cM h0 wr b n vf g V L sy) sz) := by
  refine Met.ofW (cc := cX5_writeSymbol) (maxL := 2) (ret := none) (by decide) rfl ?_
  intro p e s m args below meth c s₁ B hml hv
  obtain ⟨rfl, hsz, hP, hK, hD0⟩ := hv
  have hx := B.exec
  have hb := B.bytes
  have hr := B.returns
  have hts := atoms_spec (ws := wsX5_writeSymbol) B.pre
  have hown : s.vm.findClass RX5 = some m.cls := findClass_of_methodNamed B.named
  have hlocks := B.notSynchronized
  subst hsz
  have hD := hD0.self (sz := s.heap.size)
  generalize hAe : va_A (wo_X5_writeSymbol dC dI cB cI cJ cM h0 wr b n vf g V L sy) s.heap.size = A at hD ⊢
  have hA : ∀ q : Nat, s.heap.size ≤ q → A q := fun q h => by rw [← hAe]; exact Or.inr h
  have hS : va_S A s.heap s.heap [] := va_S.rf
  have hP : va_P (dC, dI) vwCl [(h0, .inr (5, [.ref wr, vf])), (wr, .inr (1, [.ref b, .int (nI (L / 8)), .int (nI (V / 2 ^ (8 * (L / 8)))), .int (nI (L % 8))])), (b, .inl (cB, n, .inl g))] s.heap := hP
  have hD : va_D A [(h0, .inr (5, [.ref wr, vf])), (wr, .inr (1, [.ref b, .int (nI (L / 8)), .int (nI (V / 2 ^ (8 * (L / 8)))), .int (nI (L % 8))])), (b, .inl (cB, n, .inl g))] := hD
  have hl := lv_entry ([.ref h0, .int (nI sy)]) (n := 2) (Nat.le_of_ble_eq_true rfl)
  rw [lg_entry_eq]
  generalize (lg_sl ([.ref h0, .int (nI sy)]) ++ List.replicate (2 - (lg_sl ([.ref h0, .int (nI sy)])).length) Slot.unset).toArray = ls at hl ⊢
  have hl : lv_has ls 2 [(0, .ref h0), (1, .int (nI sy))] := hl
  refine lv_iload_n hx hb dX5_writeSymbol_0 rfl (lv_at hl 1 rfl) ?_
  refine lv_sipush (v := 144) hx hb dX5_writeSymbol_1 (by decide) ?_
  refine lv_icmp_ge (tgt := 23) hx hb dX5_writeSymbol_4 (by decide) (fun c4 => ?_) (fun c4 => ?_)
  · have c4 : 144 ≤ sy := (nI_leI (a := 144) (b := sy) (by omega) (by omega)).mp c4
    refine lv_iload_n hx hb dX5_writeSymbol_23 rfl (lv_at hl 1 rfl) ?_
    refine lv_sipush (v := 256) hx hb dX5_writeSymbol_24 (by decide) ?_
    refine lv_icmp_ge (tgt := 51) hx hb dX5_writeSymbol_27 (by decide) (fun c27 => ?_) (fun c27 => ?_)
    · have c27 : 256 ≤ sy := (nI_leI (a := 256) (b := sy) (by omega) (by omega)).mp c27
      refine lv_iload_n hx hb dX5_writeSymbol_51 rfl (lv_at hl 1 rfl) ?_
      refine lv_sipush (v := 280) hx hb dX5_writeSymbol_52 (by decide) ?_
      refine lv_icmp_ge (tgt := 75) hx hb dX5_writeSymbol_55 (by decide) (fun c55 => ?_) (fun c55 => ?_)
      · have c55 : 280 ≤ sy := (nI_leI (a := 280) (b := sy) (by omega) (by omega)).mp c55
        refine lv_aload_n hx hb dX5_writeSymbol_75 rfl (lv_at hl 0 rfl) ?_
        refine va_get (D := (dC, dI)) (ci := 5) (v := .ref wr) (C := RX5) (T := TX5) (N := 2) hx hb hts (by decide +kernel) hown hK hP 0 rfl rfl 0 (by decide) (hts (.fieldLink RX5 12 "FixedPress$Packer" "writer" "LFixedPress$BitWriter;") (by decide +kernel)) (fun _ h9 => h9) rfl dX5_writeSymbol_76 ?_
        refine lv_sipush (v := 192) hx hb dX5_writeSymbol_79 (by decide) ?_
        refine lv_iload_n hx hb dX5_writeSymbol_82 rfl (lv_at hl 1 rfl) ?_
        refine lv_iadd hx hb dX5_writeSymbol_83 ?_
        refine lv_topi (fun y_1 ey_1 => ?_)
        obtain rfl : y_1 = nI (192 + sy) := ey_1.trans (nI_add 192 sy)
        refine lv_sipush (v := 280) hx hb dX5_writeSymbol_84 (by decide) ?_
        refine lv_isub hx hb dX5_writeSymbol_87 ?_
        refine lv_topi (fun y_2 ey_2 => ?_)
        obtain rfl : y_2 = nI ((192 + sy) - 280) := ey_2.trans (pk_sub (a := (192 + sy)) (b := 280) (by omega))
        refine lv_bipush (v := 8) hx hb dX5_writeSymbol_88 (by decide) ?_
        have hPc := hP.sub (ws' := [(wr, .inr (1, [.ref b, .int (nI (L / 8)), .int (nI (V / 2 ^ (8 * (L / 8)))), .int (nI (L % 8))])), (b, .inl (cB, n, .inl g))]) [1, 2] rfl
        have hDc := hD.sub (ws' := [(wr, .inr (1, [.ref b, .int (nI (L / 8)), .int (nI (V / 2 ^ (8 * (L / 8)))), .int (nI (L % 8))])), (b, .inl (cB, n, .inl g))]) [1, 2] (by decide) rfl
        have hFc := va_free (wc := [(wr, .inr (1, [.ref b, .int (nI (L / 8)), .int (nI (V / 2 ^ (8 * (L / 8)))), .int (nI (L % 8))])), (b, .inl (cB, n, .inl g))]) hD hS hA [1, 2] rfl
        refine va_callv (va_runV (As := [.int (nI ((192 + sy) - 280)), .int 8]) (rest := []) ⟨hx, hb, hml, hown, hts⟩ (k_X1_writeCode l dC dI cB cI cJ cM wr b n g V L (192 + sy - 280) 8 (ho) (by omega) (by omega) (by omega) (by omega) s.heap.size) (cwV 2 hts gX5_writeSymbol_X1_writeCode rfl rfl rfl (by decide +kernel) ⟨Nat.le_of_ble_eq_true rfl, Nat.le_of_ble_eq_true rfl⟩) ⟨fun a U g mk q => by obtain ⟨q0, q1, qP, qK, qD⟩ := q; exact ⟨q0, q1, qP, va_K.moved (u := U) (U := U.calling g mk a) (Vm.Alike.refl U.vm) qK, qD⟩, va_recv hK hPc (ci := 1) (q0 := 0) rfl rfl, fun U hU hW => ⟨rfl, by rw [hU], by rw [hU]; exact hPc, va_K.moved hW.alike hK, hDc.weaken (fun _ _ _ _ => trivial)⟩⟩ rfl rfl hl.1 rfl (lv_room (Nat.le_of_ble_eq_true rfl)) dX5_writeSymbol_90 ⟨(show 0 + 0 ≤ 0 by omega), (show 0 + 0 ≤ 0 by omega)⟩) hS (fun q _ h => hFc q h) hFc (fun u t H1 locs ht hvm hw hB hz1 hk1 hS => ?_)
        obtain ⟨g9, rfl⟩ : ∃ z, z = u := ⟨_, rfl⟩
        have hP1 : va_P (dC, dI) vwCl [(wr, .inr (1, [.ref b, .int (nI ((L + 8) / 8)), .int (nI (zhi V L (192 + sy - 280) 8 / 2 ^ (8 * ((L + 8) / 8)))), .int (nI ((L + 8) % 8))])), (b, .inl (cB, n, .inl g9))] H1 := by rw [← ht]; exact hB.1
        have hD1 : va_D (va_A [(wr, .inr (1, [.ref b, .int (nI (L / 8)), .int (nI (V / 2 ^ (8 * (L / 8)))), .int (nI (L % 8))])), (b, .inl (cB, n, .inl g))] s.heap.size) [(wr, .inr (1, [.ref b, .int (nI ((L + 8) / 8)), .int (nI (zhi V L (192 + sy - 280) 8 / 2 ^ (8 * ((L + 8) / 8)))), .int (nI ((L + 8) % 8))])), (b, .inl (cB, n, .inl g9))] := hB.2.2
        obtain ⟨hP, hD⟩ := va_join (wr := [(h0, .inr (5, [.ref wr, vf]))]) (w1 := [(wr, .inr (1, [.ref b, .int (nI ((L + 8) / 8)), .int (nI (zhi V L (192 + sy - 280) 8 / 2 ^ (8 * ((L + 8) / 8)))), .int (nI ((L + 8) % 8))])), (b, .inl (cB, n, .inl g9))]) hP hD [1, 2] [0] rfl rfl (by decide) (by decide) hk1 hFc hP1 hD1
        generalize H1 = H at hP hS ⊢
        try dsimp only at hw
        have hP : va_P (dC, dI) vwCl [(h0, .inr (5, [.ref wr, vf])), (wr, .inr (1, [.ref b, .int (nI ((L + 8) / 8)), .int (nI (zhi V L (192 + sy - 280) 8 / 2 ^ (8 * ((L + 8) / 8)))), .int (nI ((L + 8) % 8))])), (b, .inl (cB, n, .inl g9))] H := hP
        have hD : va_D A [(h0, .inr (5, [.ref wr, vf])), (wr, .inr (1, [.ref b, .int (nI ((L + 8) / 8)), .int (nI (zhi V L (192 + sy - 280) 8 / 2 ^ (8 * ((L + 8) / 8)))), .int (nI ((L + 8) % 8))])), (b, .inl (cB, n, .inl g9))] := hD
        have hzs := zs_d (V := V) (L := L) (s := sy) (by omega) (by omega) (by omega)
        have hw9 : zOut g9 (zsv V L sy) (L + zsl sy) := by rw [hzs.1, hzs.2]; exact hw
        have hP : va_P (dC, dI) vwCl [(h0, .inr (5, [.ref wr, vf])), (wr, .inr (1, [.ref b, .int (nI ((L + zsl sy) / 8)), .int (nI (zsv V L sy / 2 ^ (8 * ((L + zsl sy) / 8)))), .int (nI ((L + zsl sy) % 8))])), (b, .inl (cB, n, .inl g9))] H := by rw [hzs.1, hzs.2]; exact hP
        have hD : va_D A [(h0, .inr (5, [.ref wr, vf])), (wr, .inr (1, [.ref b, .int (nI ((L + zsl sy) / 8)), .int (nI (zsv V L sy / 2 ^ (8 * ((L + zsl sy) / 8)))), .int (nI ((L + zsl sy) % 8))])), (b, .inl (cB, n, .inl g9))] := by rw [hzs.1, hzs.2]; exact hD
        refine W.eq (g2 := F0 m 93 ls []) rfl ?_
        have hP9 := hP.sub (ws' := [(h0, .inr (5, [.ref wr, vf])), (wr, .inr (1, [.ref b, .int (nI ((L + zsl sy) / 8)), .int (nI (zsv V L sy / 2 ^ (8 * ((L + zsl sy) / 8)))), .int (nI ((L + zsl sy) % 8))])), (b, .inl (cB, n, .inl g9))]) [0, 1, 2] rfl
        have hD9 := hD.sub (ws' := [(h0, .inr (5, [.ref wr, vf])), (wr, .inr (1, [.ref b, .int (nI ((L + zsl sy) / 8)), .int (nI (zsv V L sy / 2 ^ (8 * ((L + zsl sy) / 8)))), .int (nI ((L + zsl sy) % 8))])), (b, .inl (cB, n, .inl g9))]) [0, 1, 2] (by decide) rfl
        exact W.vret hx hb hr (fun t ht hW => ⟨⟨g9, rfl, hw9, ⟨by rw [ht]; exact hP9, va_K.moved hW.alike hK, hD9⟩⟩, hS.F ht⟩) hS.2.2 dX5_writeSymbol_93
      · have c55 : ¬ (280 ≤ sy) := fun h => c55 ((nI_leI (a := 280) (b := sy) (by omega) (by omega)).mpr h)
        refine lv_aload_n hx hb dX5_writeSymbol_58 rfl (lv_at hl 0 rfl) ?_
        refine va_get (D := (dC, dI)) (ci := 5) (v := .ref wr) (C := RX5) (T := TX5) (N := 2) hx hb hts (by decide +kernel) hown hK hP 0 rfl rfl 0 (by decide) (hts (.fieldLink RX5 12 "FixedPress$Packer" "writer" "LFixedPress$BitWriter;") (by decide +kernel)) (fun _ h9 => h9) rfl dX5_writeSymbol_59 ?_
        refine lv_iload_n hx hb dX5_writeSymbol_62 rfl (lv_at hl 1 rfl) ?_
        refine lv_sipush (v := 256) hx hb dX5_writeSymbol_63 (by decide) ?_
        refine lv_isub hx hb dX5_writeSymbol_66 ?_
        refine lv_topi (fun y_3 ey_3 => ?_)
        obtain rfl : y_3 = nI (sy - 256) := ey_3.trans (pk_sub (a := sy) (b := 256) (by omega))
        refine lv_bipush (v := 7) hx hb dX5_writeSymbol_67 (by decide) ?_
        have hPc := hP.sub (ws' := [(wr, .inr (1, [.ref b, .int (nI (L / 8)), .int (nI (V / 2 ^ (8 * (L / 8)))), .int (nI (L % 8))])), (b, .inl (cB, n, .inl g))]) [1, 2] rfl
        have hDc := hD.sub (ws' := [(wr, .inr (1, [.ref b, .int (nI (L / 8)), .int (nI (V / 2 ^ (8 * (L / 8)))), .int (nI (L % 8))])), (b, .inl (cB, n, .inl g))]) [1, 2] (by decide) rfl
        have hFc := va_free (wc := [(wr, .inr (1, [.ref b, .int (nI (L / 8)), .int (nI (V / 2 ^ (8 * (L / 8)))), .int (nI (L % 8))])), (b, .inl (cB, n, .inl g))]) hD hS hA [1, 2] rfl
        refine va_callv (va_runV (As := [.int (nI (sy - 256)), .int 7]) (rest := []) ⟨hx, hb, hml, hown, hts⟩ (k_X1_writeCode l dC dI cB cI cJ cM wr b n g V L (sy - 256) 7 (ho) (by omega) (by omega) (by omega) (by omega) s.heap.size) (cwV 2 hts gX5_writeSymbol_X1_writeCode rfl rfl rfl (by decide +kernel) ⟨Nat.le_of_ble_eq_true rfl, Nat.le_of_ble_eq_true rfl⟩) ⟨fun a U g mk q => by obtain ⟨q0, q1, qP, qK, qD⟩ := q; exact ⟨q0, q1, qP, va_K.moved (u := U) (U := U.calling g mk a) (Vm.Alike.refl U.vm) qK, qD⟩, va_recv hK hPc (ci := 1) (q0 := 0) rfl rfl, fun U hU hW => ⟨rfl, by rw [hU], by rw [hU]; exact hPc, va_K.moved hW.alike hK, hDc.weaken (fun _ _ _ _ => trivial)⟩⟩ rfl rfl hl.1 rfl (lv_room (Nat.le_of_ble_eq_true rfl)) dX5_writeSymbol_69 ⟨(show 0 + 0 ≤ 0 by omega), (show 0 + 0 ≤ 0 by omega)⟩) hS (fun q _ h => hFc q h) hFc (fun u t H1 locs ht hvm hw hB hz1 hk1 hS => ?_)
        obtain ⟨g9, rfl⟩ : ∃ z, z = u := ⟨_, rfl⟩
        have hP1 : va_P (dC, dI) vwCl [(wr, .inr (1, [.ref b, .int (nI ((L + 7) / 8)), .int (nI (zhi V L (sy - 256) 7 / 2 ^ (8 * ((L + 7) / 8)))), .int (nI ((L + 7) % 8))])), (b, .inl (cB, n, .inl g9))] H1 := by rw [← ht]; exact hB.1
        have hD1 : va_D (va_A [(wr, .inr (1, [.ref b, .int (nI (L / 8)), .int (nI (V / 2 ^ (8 * (L / 8)))), .int (nI (L % 8))])), (b, .inl (cB, n, .inl g))] s.heap.size) [(wr, .inr (1, [.ref b, .int (nI ((L + 7) / 8)), .int (nI (zhi V L (sy - 256) 7 / 2 ^ (8 * ((L + 7) / 8)))), .int (nI ((L + 7) % 8))])), (b, .inl (cB, n, .inl g9))] := hB.2.2
        obtain ⟨hP, hD⟩ := va_join (wr := [(h0, .inr (5, [.ref wr, vf]))]) (w1 := [(wr, .inr (1, [.ref b, .int (nI ((L + 7) / 8)), .int (nI (zhi V L (sy - 256) 7 / 2 ^ (8 * ((L + 7) / 8)))), .int (nI ((L + 7) % 8))])), (b, .inl (cB, n, .inl g9))]) hP hD [1, 2] [0] rfl rfl (by decide) (by decide) hk1 hFc hP1 hD1
        generalize H1 = H at hP hS ⊢
        try dsimp only at hw
        have hP : va_P (dC, dI) vwCl [(h0, .inr (5, [.ref wr, vf])), (wr, .inr (1, [.ref b, .int (nI ((L + 7) / 8)), .int (nI (zhi V L (sy - 256) 7 / 2 ^ (8 * ((L + 7) / 8)))), .int (nI ((L + 7) % 8))])), (b, .inl (cB, n, .inl g9))] H := hP
        have hD : va_D A [(h0, .inr (5, [.ref wr, vf])), (wr, .inr (1, [.ref b, .int (nI ((L + 7) / 8)), .int (nI (zhi V L (sy - 256) 7 / 2 ^ (8 * ((L + 7) / 8)))), .int (nI ((L + 7) % 8))])), (b, .inl (cB, n, .inl g9))] := hD
        have hzs := zs_c (V := V) (L := L) (s := sy) (by omega) (by omega) (by omega)
        have hw9 : zOut g9 (zsv V L sy) (L + zsl sy) := by rw [hzs.1, hzs.2]; exact hw
        have hP : va_P (dC, dI) vwCl [(h0, .inr (5, [.ref wr, vf])), (wr, .inr (1, [.ref b, .int (nI ((L + zsl sy) / 8)), .int (nI (zsv V L sy / 2 ^ (8 * ((L + zsl sy) / 8)))), .int (nI ((L + zsl sy) % 8))])), (b, .inl (cB, n, .inl g9))] H := by rw [hzs.1, hzs.2]; exact hP
        have hD : va_D A [(h0, .inr (5, [.ref wr, vf])), (wr, .inr (1, [.ref b, .int (nI ((L + zsl sy) / 8)), .int (nI (zsv V L sy / 2 ^ (8 * ((L + zsl sy) / 8)))), .int (nI ((L + zsl sy) % 8))])), (b, .inl (cB, n, .inl g9))] := by rw [hzs.1, hzs.2]; exact hD
        refine W.eq (g2 := F0 m 72 ls []) rfl ?_
        refine lv_goto (tgt := 93) hx hb dX5_writeSymbol_72 (by decide) ?_
        have hP9 := hP.sub (ws' := [(h0, .inr (5, [.ref wr, vf])), (wr, .inr (1, [.ref b, .int (nI ((L + zsl sy) / 8)), .int (nI (zsv V L sy / 2 ^ (8 * ((L + zsl sy) / 8)))), .int (nI ((L + zsl sy) % 8))])), (b, .inl (cB, n, .inl g9))]) [0, 1, 2] rfl
        have hD9 := hD.sub (ws' := [(h0, .inr (5, [.ref wr, vf])), (wr, .inr (1, [.ref b, .int (nI ((L + zsl sy) / 8)), .int (nI (zsv V L sy / 2 ^ (8 * ((L + zsl sy) / 8)))), .int (nI ((L + zsl sy) % 8))])), (b, .inl (cB, n, .inl g9))]) [0, 1, 2] (by decide) rfl
        exact W.vret hx hb hr (fun t ht hW => ⟨⟨g9, rfl, hw9, ⟨by rw [ht]; exact hP9, va_K.moved hW.alike hK, hD9⟩⟩, hS.F ht⟩) hS.2.2 dX5_writeSymbol_93
    · have c27 : ¬ (256 ≤ sy) := fun h => c27 ((nI_leI (a := 256) (b := sy) (by omega) (by omega)).mpr h)
      refine lv_aload_n hx hb dX5_writeSymbol_30 rfl (lv_at hl 0 rfl) ?_
      refine va_get (D := (dC, dI)) (ci := 5) (v := .ref wr) (C := RX5) (T := TX5) (N := 2) hx hb hts (by decide +kernel) hown hK hP 0 rfl rfl 0 (by decide) (hts (.fieldLink RX5 12 "FixedPress$Packer" "writer" "LFixedPress$BitWriter;") (by decide +kernel)) (fun _ h9 => h9) rfl dX5_writeSymbol_31 ?_
      refine lv_sipush (v := 400) hx hb dX5_writeSymbol_34 (by decide) ?_
      refine lv_iload_n hx hb dX5_writeSymbol_37 rfl (lv_at hl 1 rfl) ?_
      refine lv_iadd hx hb dX5_writeSymbol_38 ?_
      refine lv_topi (fun y_4 ey_4 => ?_)
      obtain rfl : y_4 = nI (400 + sy) := ey_4.trans (nI_add 400 sy)
      refine lv_sipush (v := 144) hx hb dX5_writeSymbol_39 (by decide) ?_
      refine lv_isub hx hb dX5_writeSymbol_42 ?_
      refine lv_topi (fun y_5 ey_5 => ?_)
      obtain rfl : y_5 = nI ((400 + sy) - 144) := ey_5.trans (pk_sub (a := (400 + sy)) (b := 144) (by omega))
      refine lv_bipush (v := 9) hx hb dX5_writeSymbol_43 (by decide) ?_
      have hPc := hP.sub (ws' := [(wr, .inr (1, [.ref b, .int (nI (L / 8)), .int (nI (V / 2 ^ (8 * (L / 8)))), .int (nI (L % 8))])), (b, .inl (cB, n, .inl g))]) [1, 2] rfl
      have hDc := hD.sub (ws' := [(wr, .inr (1, [.ref b, .int (nI (L / 8)), .int (nI (V / 2 ^ (8 * (L / 8)))), .int (nI (L % 8))])), (b, .inl (cB, n, .inl g))]) [1, 2] (by decide) rfl
      have hFc := va_free (wc := [(wr, .inr (1, [.ref b, .int (nI (L / 8)), .int (nI (V / 2 ^ (8 * (L / 8)))), .int (nI (L % 8))])), (b, .inl (cB, n, .inl g))]) hD hS hA [1, 2] rfl
      refine va_callv (va_runV (As := [.int (nI ((400 + sy) - 144)), .int 9]) (rest := []) ⟨hx, hb, hml, hown, hts⟩ (k_X1_writeCode l dC dI cB cI cJ cM wr b n g V L (400 + sy - 144) 9 (ho) (by omega) (by omega) (by omega) (by omega) s.heap.size) (cwV 2 hts gX5_writeSymbol_X1_writeCode rfl rfl rfl (by decide +kernel) ⟨Nat.le_of_ble_eq_true rfl, Nat.le_of_ble_eq_true rfl⟩) ⟨fun a U g mk q => by obtain ⟨q0, q1, qP, qK, qD⟩ := q; exact ⟨q0, q1, qP, va_K.moved (u := U) (U := U.calling g mk a) (Vm.Alike.refl U.vm) qK, qD⟩, va_recv hK hPc (ci := 1) (q0 := 0) rfl rfl, fun U hU hW => ⟨rfl, by rw [hU], by rw [hU]; exact hPc, va_K.moved hW.alike hK, hDc.weaken (fun _ _ _ _ => trivial)⟩⟩ rfl rfl hl.1 rfl (lv_room (Nat.le_of_ble_eq_true rfl)) dX5_writeSymbol_45 ⟨(show 0 + 0 ≤ 0 by omega), (show 0 + 0 ≤ 0 by omega)⟩) hS (fun q _ h => hFc q h) hFc (fun u t H1 locs ht hvm hw hB hz1 hk1 hS => ?_)
      obtain ⟨g9, rfl⟩ : ∃ z, z = u := ⟨_, rfl⟩
      have hP1 : va_P (dC, dI) vwCl [(wr, .inr (1, [.ref b, .int (nI ((L + 9) / 8)), .int (nI (zhi V L (400 + sy - 144) 9 / 2 ^ (8 * ((L + 9) / 8)))), .int (nI ((L + 9) % 8))])), (b, .inl (cB, n, .inl g9))] H1 := by rw [← ht]; exact hB.1
      have hD1 : va_D (va_A [(wr, .inr (1, [.ref b, .int (nI (L / 8)), .int (nI (V / 2 ^ (8 * (L / 8)))), .int (nI (L % 8))])), (b, .inl (cB, n, .inl g))] s.heap.size) [(wr, .inr (1, [.ref b, .int (nI ((L + 9) / 8)), .int (nI (zhi V L (400 + sy - 144) 9 / 2 ^ (8 * ((L + 9) / 8)))), .int (nI ((L + 9) % 8))])), (b, .inl (cB, n, .inl g9))] := hB.2.2
      obtain ⟨hP, hD⟩ := va_join (wr := [(h0, .inr (5, [.ref wr, vf]))]) (w1 := [(wr, .inr (1, [.ref b, .int (nI ((L + 9) / 8)), .int (nI (zhi V L (400 + sy - 144) 9 / 2 ^ (8 * ((L + 9) / 8)))), .int (nI ((L + 9) % 8))])), (b, .inl (cB, n, .inl g9))]) hP hD [1, 2] [0] rfl rfl (by decide) (by decide) hk1 hFc hP1 hD1
      generalize H1 = H at hP hS ⊢
      try dsimp only at hw
      have hP : va_P (dC, dI) vwCl [(h0, .inr (5, [.ref wr, vf])), (wr, .inr (1, [.ref b, .int (nI ((L + 9) / 8)), .int (nI (zhi V L (400 + sy - 144) 9 / 2 ^ (8 * ((L + 9) / 8)))), .int (nI ((L + 9) % 8))])), (b, .inl (cB, n, .inl g9))] H := hP
      have hD : va_D A [(h0, .inr (5, [.ref wr, vf])), (wr, .inr (1, [.ref b, .int (nI ((L + 9) / 8)), .int (nI (zhi V L (400 + sy - 144) 9 / 2 ^ (8 * ((L + 9) / 8)))), .int (nI ((L + 9) % 8))])), (b, .inl (cB, n, .inl g9))] := hD
      have hzs := zs_b (V := V) (L := L) (s := sy) (by omega) (by omega)
      have hw9 : zOut g9 (zsv V L sy) (L + zsl sy) := by rw [hzs.1, hzs.2]; exact hw
      have hP : va_P (dC, dI) vwCl [(h0, .inr (5, [.ref wr, vf])), (wr, .inr (1, [.ref b, .int (nI ((L + zsl sy) / 8)), .int (nI (zsv V L sy / 2 ^ (8 * ((L + zsl sy) / 8)))), .int (nI ((L + zsl sy) % 8))])), (b, .inl (cB, n, .inl g9))] H := by rw [hzs.1, hzs.2]; exact hP
      have hD : va_D A [(h0, .inr (5, [.ref wr, vf])), (wr, .inr (1, [.ref b, .int (nI ((L + zsl sy) / 8)), .int (nI (zsv V L sy / 2 ^ (8 * ((L + zsl sy) / 8)))), .int (nI ((L + zsl sy) % 8))])), (b, .inl (cB, n, .inl g9))] := by rw [hzs.1, hzs.2]; exact hD
      refine W.eq (g2 := F0 m 48 ls []) rfl ?_
      refine lv_goto (tgt := 93) hx hb dX5_writeSymbol_48 (by decide) ?_
      have hP9 := hP.sub (ws' := [(h0, .inr (5, [.ref wr, vf])), (wr, .inr (1, [.ref b, .int (nI ((L + zsl sy) / 8)), .int (nI (zsv V L sy / 2 ^ (8 * ((L + zsl sy) / 8)))), .int (nI ((L + zsl sy) % 8))])), (b, .inl (cB, n, .inl g9))]) [0, 1, 2] rfl
      have hD9 := hD.sub (ws' := [(h0, .inr (5, [.ref wr, vf])), (wr, .inr (1, [.ref b, .int (nI ((L + zsl sy) / 8)), .int (nI (zsv V L sy / 2 ^ (8 * ((L + zsl sy) / 8)))), .int (nI ((L + zsl sy) % 8))])), (b, .inl (cB, n, .inl g9))]) [0, 1, 2] (by decide) rfl
      exact W.vret hx hb hr (fun t ht hW => ⟨⟨g9, rfl, hw9, ⟨by rw [ht]; exact hP9, va_K.moved hW.alike hK, hD9⟩⟩, hS.F ht⟩) hS.2.2 dX5_writeSymbol_93
  · have c4 : ¬ (144 ≤ sy) := fun h => c4 ((nI_leI (a := 144) (b := sy) (by omega) (by omega)).mpr h)
    refine lv_aload_n hx hb dX5_writeSymbol_7 rfl (lv_at hl 0 rfl) ?_
    refine va_get (D := (dC, dI)) (ci := 5) (v := .ref wr) (C := RX5) (T := TX5) (N := 2) hx hb hts (by decide +kernel) hown hK hP 0 rfl rfl 0 (by decide) (hts (.fieldLink RX5 12 "FixedPress$Packer" "writer" "LFixedPress$BitWriter;") (by decide +kernel)) (fun _ h9 => h9) rfl dX5_writeSymbol_8 ?_
    refine lv_bipush (v := 48) hx hb dX5_writeSymbol_11 (by decide) ?_
    refine lv_iload_n hx hb dX5_writeSymbol_13 rfl (lv_at hl 1 rfl) ?_
    refine lv_iadd hx hb dX5_writeSymbol_14 ?_
    refine lv_topi (fun y_6 ey_6 => ?_)
    obtain rfl : y_6 = nI (48 + sy) := ey_6.trans (nI_add 48 sy)
    refine lv_bipush (v := 8) hx hb dX5_writeSymbol_15 (by decide) ?_
    have hPc := hP.sub (ws' := [(wr, .inr (1, [.ref b, .int (nI (L / 8)), .int (nI (V / 2 ^ (8 * (L / 8)))), .int (nI (L % 8))])), (b, .inl (cB, n, .inl g))]) [1, 2] rfl
    have hDc := hD.sub (ws' := [(wr, .inr (1, [.ref b, .int (nI (L / 8)), .int (nI (V / 2 ^ (8 * (L / 8)))), .int (nI (L % 8))])), (b, .inl (cB, n, .inl g))]) [1, 2] (by decide) rfl
    have hFc := va_free (wc := [(wr, .inr (1, [.ref b, .int (nI (L / 8)), .int (nI (V / 2 ^ (8 * (L / 8)))), .int (nI (L % 8))])), (b, .inl (cB, n, .inl g))]) hD hS hA [1, 2] rfl
    refine va_callv (va_runV (As := [.int (nI (48 + sy)), .int 8]) (rest := []) ⟨hx, hb, hml, hown, hts⟩ (k_X1_writeCode l dC dI cB cI cJ cM wr b n g V L (48 + sy) 8 (ho) (by omega) (by omega) (by omega) (by omega) s.heap.size) (cwV 2 hts gX5_writeSymbol_X1_writeCode rfl rfl rfl (by decide +kernel) ⟨Nat.le_of_ble_eq_true rfl, Nat.le_of_ble_eq_true rfl⟩) ⟨fun a U g mk q => by obtain ⟨q0, q1, qP, qK, qD⟩ := q; exact ⟨q0, q1, qP, va_K.moved (u := U) (U := U.calling g mk a) (Vm.Alike.refl U.vm) qK, qD⟩, va_recv hK hPc (ci := 1) (q0 := 0) rfl rfl, fun U hU hW => ⟨rfl, by rw [hU], by rw [hU]; exact hPc, va_K.moved hW.alike hK, hDc.weaken (fun _ _ _ _ => trivial)⟩⟩ rfl rfl hl.1 rfl (lv_room (Nat.le_of_ble_eq_true rfl)) dX5_writeSymbol_17 ⟨(show 0 + 0 ≤ 0 by omega), (show 0 + 0 ≤ 0 by omega)⟩) hS (fun q _ h => hFc q h) hFc (fun u t H1 locs ht hvm hw hB hz1 hk1 hS => ?_)
    obtain ⟨g9, rfl⟩ : ∃ z, z = u := ⟨_, rfl⟩
    have hP1 : va_P (dC, dI) vwCl [(wr, .inr (1, [.ref b, .int (nI ((L + 8) / 8)), .int (nI (zhi V L (48 + sy) 8 / 2 ^ (8 * ((L + 8) / 8)))), .int (nI ((L + 8) % 8))])), (b, .inl (cB, n, .inl g9))] H1 := by rw [← ht]; exact hB.1
    have hD1 : va_D (va_A [(wr, .inr (1, [.ref b, .int (nI (L / 8)), .int (nI (V / 2 ^ (8 * (L / 8)))), .int (nI (L % 8))])), (b, .inl (cB, n, .inl g))] s.heap.size) [(wr, .inr (1, [.ref b, .int (nI ((L + 8) / 8)), .int (nI (zhi V L (48 + sy) 8 / 2 ^ (8 * ((L + 8) / 8)))), .int (nI ((L + 8) % 8))])), (b, .inl (cB, n, .inl g9))] := hB.2.2
    obtain ⟨hP, hD⟩ := va_join (wr := [(h0, .inr (5, [.ref wr, vf]))]) (w1 := [(wr, .inr (1, [.ref b, .int (nI ((L + 8) / 8)), .int (nI (zhi V L (48 + sy) 8 / 2 ^ (8 * ((L + 8) / 8)))), .int (nI ((L + 8) % 8))])), (b, .inl (cB, n, .inl g9))]) hP hD [1, 2] [0] rfl rfl (by decide) (by decide) hk1 hFc hP1 hD1
    generalize H1 = H at hP hS ⊢
    try dsimp only at hw
    have hP : va_P (dC, dI) vwCl [(h0, .inr (5, [.ref wr, vf])), (wr, .inr (1, [.ref b, .int (nI ((L + 8) / 8)), .int (nI (zhi V L (48 + sy) 8 / 2 ^ (8 * ((L + 8) / 8)))), .int (nI ((L + 8) % 8))])), (b, .inl (cB, n, .inl g9))] H := hP
    have hD : va_D A [(h0, .inr (5, [.ref wr, vf])), (wr, .inr (1, [.ref b, .int (nI ((L + 8) / 8)), .int (nI (zhi V L (48 + sy) 8 / 2 ^ (8 * ((L + 8) / 8)))), .int (nI ((L + 8) % 8))])), (b, .inl (cB, n, .inl g9))] := hD
    have hzs := zs_a (V := V) (L := L) (s := sy) (by omega)
    have hw9 : zOut g9 (zsv V L sy) (L + zsl sy) := by rw [hzs.1, hzs.2]; exact hw
    have hP : va_P (dC, dI) vwCl [(h0, .inr (5, [.ref wr, vf])), (wr, .inr (1, [.ref b, .int (nI ((L + zsl sy) / 8)), .int (nI (zsv V L sy / 2 ^ (8 * ((L + zsl sy) / 8)))), .int (nI ((L + zsl sy) % 8))])), (b, .inl (cB, n, .inl g9))] H := by rw [hzs.1, hzs.2]; exact hP
    have hD : va_D A [(h0, .inr (5, [.ref wr, vf])), (wr, .inr (1, [.ref b, .int (nI ((L + zsl sy) / 8)), .int (nI (zsv V L sy / 2 ^ (8 * ((L + zsl sy) / 8)))), .int (nI ((L + zsl sy) % 8))])), (b, .inl (cB, n, .inl g9))] := by rw [hzs.1, hzs.2]; exact hD
    refine W.eq (g2 := F0 m 20 ls []) rfl ?_
    refine lv_goto (tgt := 93) hx hb dX5_writeSymbol_20 (by decide) ?_
    have hP9 := hP.sub (ws' := [(h0, .inr (5, [.ref wr, vf])), (wr, .inr (1, [.ref b, .int (nI ((L + zsl sy) / 8)), .int (nI (zsv V L sy / 2 ^ (8 * ((L + zsl sy) / 8)))), .int (nI ((L + zsl sy) % 8))])), (b, .inl (cB, n, .inl g9))]) [0, 1, 2] rfl
    have hD9 := hD.sub (ws' := [(h0, .inr (5, [.ref wr, vf])), (wr, .inr (1, [.ref b, .int (nI ((L + zsl sy) / 8)), .int (nI (zsv V L sy / 2 ^ (8 * ((L + zsl sy) / 8)))), .int (nI ((L + zsl sy) % 8))])), (b, .inl (cB, n, .inl g9))]) [0, 1, 2] (by decide) rfl
    exact W.vret hx hb hr (fun t ht hW => ⟨⟨g9, rfl, hw9, ⟨by rw [ht]; exact hP9, va_K.moved hW.alike hK, hD9⟩⟩, hS.F ht⟩) hS.2.2 dX5_writeSymbol_93

abbrev rm_X5_writeHighFirst : Room := { frames := 1, cells := 0, slots := 0, locals := 22 }
abbrev wo_X5_writeHighFirst (dC : Nat → ClassId) (dI : Nat → Nat → Nat) (cB cI cJ cM : ClassId) (h0 wr b n : Nat) (vf : Value) (g : Nat → Int32) (V L : Nat) (x : Int32) (k : Nat) : va_W := [(h0, .inr (5, [.ref wr, vf])), (wr, .inr (1, [.ref b, .int (nI (L / 8)), .int (nI (V / 2 ^ (8 * (L / 8)))), .int (nI (L % 8))])), (b, .inl (cB, n, .inl g))]
abbrev q_X5_writeHighFirst (dC : Nat → ClassId) (dI : Nat → Nat → Nat) (cB cI cJ cM : ClassId) (h0 wr b n : Nat) (vf : Value) (g : Nat → Int32) (V L : Nat) (x : Int32) (k : Nat) (A : Nat → Prop) : Array Value → State → Outcome → State → Prop := va_Qv (fun (u : Nat → Int32) => zOut u (zhf V L x k) (L + 8 * k)) (zB dC dI cB cI cJ cM A (fun u : Nat → Int32 => [(h0, .inr (5, [.ref wr, vf])), (wr, .inr (1, [.ref b, .int (nI ((L + 8 * k) / 8)), .int (nI (zhf V L x k / 2 ^ (8 * ((L + 8 * k) / 8)))), .int (nI ((L + 8 * k) % 8))])), (b, .inl (cB, n, .inl u))])) A
set_option maxHeartbeats 8000000 in
set_option maxRecDepth 100000 in
/-- writeHighFirst -/
theorem k_X5_writeHighFirst (l : Launch) (dC : Nat → ClassId) (dI : Nat → Nat → Nat) (cB cI cJ cM : ClassId) (h0 wr b n : Nat) (vf : Value) (g : Nat → Int32) (V L : Nat) (x : Int32) (k : Nat) (ho : zOut g V L) (hk : k ≤ 4) (hn : (L + 8 * k) / 8 ≤ n) (hn2 : n < 100000) (sz : Nat) : Met l yX5_writeHighFirst wsX5_writeHighFirst rm_X5_writeHighFirst (va_Pc [.ref h0, .int x, .int (nI k)] (fun U => U.heap.size = sz ∧ va_P (dC, dI) vwCl (wo_X5_writeHighFirst dC dI cB cI cJ cM h0 wr b n vf g V L x k) U.heap ∧ va_K (dC, dI) vwCl (zT cB cI cJ cM) U ∧ va_D (fun _ => True) (wo_X5_writeHighFirst dC dI cB cI cJ cM h0 wr b n vf g V L x k))) (q_X5_writeHighFirst dC dI cB cI cJ cM h0 wr b n vf g V L x k (va_A (wo_X5_writeHighFirst dC dI cB cI cJ cM h0 wr b n vf g V L x k) sz)) 0 0 (va_A (wo_X5_writeHighFirst dC dI cB cI cJ cM h0 wr b n vf g V L x k) sz) := by
  refine Met.ofW (cc := cX5_writeHighFirst) (maxL := 4) (ret := none) (by decide) rfl ?_
  intro p e s m args below meth c s₁ B hml hv
  obtain ⟨rfl, hsz, hP, hK, hD0⟩ := hv
  have hx := B.exec
  have hb := B.bytes
  have hr := B.returns
  have hts := atoms_spec (ws := wsX5_writeHighFirst) B.pre
  have hown : s.vm.findClass RX5 = some m.cls := findClass_of_methodNamed B.named
  have hlocks := B.notSynchronized
  subst hsz
  have hD := hD0.self (sz := s.heap.size)
  generalize hAe : va_A (wo_X5_writeHighFirst dC dI cB cI cJ cM h0 wr b n vf g V L x k) s.heap.size = A at hD ⊢
  have hA : ∀ q : Nat, s.heap.size ≤ q → A q := fun q h => by rw [← hAe]; exact Or.inr h
  have hS : va_S A s.heap s.heap [] := va_S.rf
  have hP : va_P (dC, dI) vwCl [(h0, .inr (5, [.ref wr, vf])), (wr, .inr (1, [.ref b, .int (nI (L / 8)), .int (nI (V / 2 ^ (8 * (L / 8)))), .int (nI (L % 8))])), (b, .inl (cB, n, .inl g))] s.heap := hP
  have hD : va_D A [(h0, .inr (5, [.ref wr, vf])), (wr, .inr (1, [.ref b, .int (nI (L / 8)), .int (nI (V / 2 ^ (8 * (L / 8)))), .int (nI (L % 8))])), (b, .inl (cB, n, .inl g))] := hD
  have hl := lv_entry ([.ref h0, .int x, .int (nI k)]) (n := 4) (Nat.le_of_ble_eq_true rfl)
  rw [lg_entry_eq]
  generalize (lg_sl ([.ref h0, .int x, .int (nI k)]) ++ List.replicate (4 - (lg_sl ([.ref h0, .int x, .int (nI k)])).length) Slot.unset).toArray = ls at hl ⊢
  have hl : lv_has ls 4 [(0, .ref h0), (1, .int x), (2, .int (nI k))] := hl
  refine lv_iload_n hx hb dX5_writeHighFirst_0 rfl (lv_at hl 2 rfl) ?_
  refine lv_bipush (v := 8) hx hb dX5_writeHighFirst_1 (by decide) ?_
  refine lv_imul hx hb dX5_writeHighFirst_3 ?_
  refine lv_topi (fun y_1 ey_1 => ?_)
  obtain rfl : y_1 = nI (8 * k) := ey_1.trans ((pk_mul _ _).trans (congrArg nI (Nat.mul_comm _ _)))
  refine lv_bipush (v := 8) hx hb dX5_writeHighFirst_4 (by decide) ?_
  refine lv_isub hx hb dX5_writeHighFirst_6 ?_
  refine lv_istore_n (lv' := [(3, .int ((nI (8 * k)) - 8)), (0, .ref h0), (1, .int x), (2, .int (nI k))]) hx hb dX5_writeHighFirst_7 rfl hl (by decide) rfl (fun ls hl => ?_)
  have cut8 : ∀ (fuel : Nat) (k1 : Nat) (V1 : Nat) (L1 : Nat) (g1 : Nat → Int32) (w : Int32), (w = nI (8 * k1) - 8) → (zhf V1 L1 x k1 = zhf V L x k) → (L1 + 8 * k1 = L + 8 * k) → (zOut g1 V1 L1) → (k1 ≤ 4) → (k1 < fuel) → ∀ (H : Heap) (locs : List Loc), va_P (dC, dI) vwCl [(h0, .inr (5, [.ref wr, vf])), (wr, .inr (1, [.ref b, .int (nI (L1 / 8)), .int (nI (V1 / 2 ^ (8 * (L1 / 8)))), .int (nI (L1 % 8))])), (b, .inl (cB, n, .inl g1))] H → va_D A [(h0, .inr (5, [.ref wr, vf])), (wr, .inr (1, [.ref b, .int (nI (L1 / 8)), .int (nI (V1 / 2 ^ (8 * (L1 / 8)))), .int (nI (L1 % 8))])), (b, .inl (cB, n, .inl g1))] → va_S A s.heap H locs → ∀ (ls : Array Slot), lv_has ls 4 [(0, .ref h0), (1, .int x), (3, .int w)] → W p l e (headSpec wsX5_writeHighFirst rm_X5_writeHighFirst).room s m ([.ref h0, .int x, .int (nI k)] : List Value).toArray below meth c H locs 0 0 (MQ below (q_X5_writeHighFirst dC dI cB cI cJ cM h0 wr b n vf g V L x k A) ([.ref h0, .int x, .int (nI k)] : List Value).toArray s 0 0 A) (F0 m 8 ls []) := by
    intro fuel
    induction fuel with
    | zero => intros; omega
    | succ fuel ih =>
      intro k1 V1 L1 g1 w hw3 hV1 hL1 ho1 hk1 hfuel H locs hP hD hS ls hl
      refine lv_iload_n hx hb dX5_writeHighFirst_8 rfl (lv_at hl 2 rfl) ?_
      refine lv_if_lt (tgt := 34) hx hb dX5_writeHighFirst_9 (by decide) (fun c9 => ?_) (fun c9 => ?_)
      · have hk0 := (z_shw (k := k1) hk1 hw3).1 c9
        have hL0 : L1 = L + 8 * k := by omega
        have hV0 : V1 = zhf V L x k := by rw [hk0] at hV1; exact hV1
        rw [hL0, hV0] at hP hD ho1
        have hP : va_P (dC, dI) vwCl [(h0, .inr (5, [.ref wr, vf])), (wr, .inr (1, [.ref b, .int (nI ((L + 8 * k) / 8)), .int (nI (zhf V L x k / 2 ^ (8 * ((L + 8 * k) / 8)))), .int (nI ((L + 8 * k) % 8))])), (b, .inl (cB, n, .inl g1))] H := hP
        have hD : va_D A [(h0, .inr (5, [.ref wr, vf])), (wr, .inr (1, [.ref b, .int (nI ((L + 8 * k) / 8)), .int (nI (zhf V L x k / 2 ^ (8 * ((L + 8 * k) / 8)))), .int (nI ((L + 8 * k) % 8))])), (b, .inl (cB, n, .inl g1))] := hD
        have hP9 := hP.sub (ws' := [(h0, .inr (5, [.ref wr, vf])), (wr, .inr (1, [.ref b, .int (nI ((L + 8 * k) / 8)), .int (nI (zhf V L x k / 2 ^ (8 * ((L + 8 * k) / 8)))), .int (nI ((L + 8 * k) % 8))])), (b, .inl (cB, n, .inl g1))]) [0, 1, 2] rfl
        have hD9 := hD.sub (ws' := [(h0, .inr (5, [.ref wr, vf])), (wr, .inr (1, [.ref b, .int (nI ((L + 8 * k) / 8)), .int (nI (zhf V L x k / 2 ^ (8 * ((L + 8 * k) / 8)))), .int (nI ((L + 8 * k) % 8))])), (b, .inl (cB, n, .inl g1))]) [0, 1, 2] (by decide) rfl
        exact W.vret hx hb hr (fun t ht hW => ⟨⟨g1, rfl, ho1, ⟨by rw [ht]; exact hP9, va_K.moved hW.alike hK, hD9⟩⟩, hS.F ht⟩) hS.2.2 dX5_writeHighFirst_34
      · obtain ⟨k2, hk2, hwk⟩ := (z_shw (k := k1) hk1 hw3).2 c9
        rw [hwk] at hl
        rw [hk2] at hV1
        refine lv_aload_n hx hb dX5_writeHighFirst_12 rfl (lv_at hl 0 rfl) ?_
        refine va_get (D := (dC, dI)) (ci := 5) (v := .ref wr) (C := RX5) (T := TX5) (N := 2) hx hb hts (by decide +kernel) hown hK hP 0 rfl rfl 0 (by decide) (hts (.fieldLink RX5 12 "FixedPress$Packer" "writer" "LFixedPress$BitWriter;") (by decide +kernel)) (fun _ h9 => h9) rfl dX5_writeHighFirst_13 ?_
        refine lv_iload_n hx hb dX5_writeHighFirst_16 rfl (lv_at hl 1 rfl) ?_
        refine lv_iload_n hx hb dX5_writeHighFirst_17 rfl (lv_at hl 2 rfl) ?_
        refine lv_iushr hx hb dX5_writeHighFirst_18 rfl ?_
        refine lv_sipush (v := 255) hx hb dX5_writeHighFirst_19 (by decide) ?_
        refine lv_iand hx hb dX5_writeHighFirst_22 ?_
        refine lv_topi (fun y_2 ey_2 => ?_)
        obtain rfl : y_2 = nI (x.toBitVec.toNat / 2 ^ (8 * k2) % 256) := ey_2.trans (z_byte x (k := 8 * k2) (by omega))
        refine lv_bipush (v := 8) hx hb dX5_writeHighFirst_23 (by decide) ?_
        have hPc := hP.sub (ws' := [(wr, .inr (1, [.ref b, .int (nI (L1 / 8)), .int (nI (V1 / 2 ^ (8 * (L1 / 8)))), .int (nI (L1 % 8))])), (b, .inl (cB, n, .inl g1))]) [1, 2] rfl
        have hDc := hD.sub (ws' := [(wr, .inr (1, [.ref b, .int (nI (L1 / 8)), .int (nI (V1 / 2 ^ (8 * (L1 / 8)))), .int (nI (L1 % 8))])), (b, .inl (cB, n, .inl g1))]) [1, 2] (by decide) rfl
        have hFc := va_free (wc := [(wr, .inr (1, [.ref b, .int (nI (L1 / 8)), .int (nI (V1 / 2 ^ (8 * (L1 / 8)))), .int (nI (L1 % 8))])), (b, .inl (cB, n, .inl g1))]) hD hS hA [1, 2] rfl
        refine va_callv (va_runV (As := [.int (nI (x.toBitVec.toNat / 2 ^ (8 * k2) % 256)), .int 8]) (rest := []) ⟨hx, hb, hml, hown, hts⟩ (k_X1_writeBits l dC dI cB cI cJ cM wr b n g1 V1 L1 (x.toBitVec.toNat / 2 ^ (8 * k2) % 256) 8 (ho1) (Nat.mod_lt _ (by decide)) (by omega) (by omega) (by omega) H.size) (cwV 2 hts gX5_writeHighFirst_X1_writeBits rfl rfl rfl (by decide +kernel) ⟨Nat.le_of_ble_eq_true rfl, Nat.le_of_ble_eq_true rfl⟩) ⟨fun a U g mk q => by obtain ⟨q0, q1, qP, qK, qD⟩ := q; exact ⟨q0, q1, qP, va_K.moved (u := U) (U := U.calling g mk a) (Vm.Alike.refl U.vm) qK, qD⟩, va_recv hK hPc (ci := 1) (q0 := 0) rfl rfl, fun U hU hW => ⟨rfl, by rw [hU], by rw [hU]; exact hPc, va_K.moved hW.alike hK, hDc.weaken (fun _ _ _ _ => trivial)⟩⟩ rfl rfl hl.1 rfl (lv_room (Nat.le_of_ble_eq_true rfl)) dX5_writeHighFirst_25 ⟨(show 0 + 0 ≤ 0 by omega), (show 0 + 0 ≤ 0 by omega)⟩) hS (fun q _ h => hFc q h) hFc (fun u t H1 locs ht hvm hw hB hz1 hk1 hS => ?_)
        obtain ⟨g2, rfl⟩ : ∃ z, z = u := ⟨_, rfl⟩
        have hP1 : va_P (dC, dI) vwCl [(wr, .inr (1, [.ref b, .int (nI ((L1 + 8) / 8)), .int (nI ((V1 + (x.toBitVec.toNat / 2 ^ (8 * k2) % 256) * 2 ^ L1) / 2 ^ (8 * ((L1 + 8) / 8)))), .int (nI ((L1 + 8) % 8))])), (b, .inl (cB, n, .inl g2))] H1 := by rw [← ht]; exact hB.1
        have hD1 : va_D (va_A [(wr, .inr (1, [.ref b, .int (nI (L1 / 8)), .int (nI (V1 / 2 ^ (8 * (L1 / 8)))), .int (nI (L1 % 8))])), (b, .inl (cB, n, .inl g1))] H.size) [(wr, .inr (1, [.ref b, .int (nI ((L1 + 8) / 8)), .int (nI ((V1 + (x.toBitVec.toNat / 2 ^ (8 * k2) % 256) * 2 ^ L1) / 2 ^ (8 * ((L1 + 8) / 8)))), .int (nI ((L1 + 8) % 8))])), (b, .inl (cB, n, .inl g2))] := hB.2.2
        obtain ⟨hP, hD⟩ := va_join (wr := [(h0, .inr (5, [.ref wr, vf]))]) (w1 := [(wr, .inr (1, [.ref b, .int (nI ((L1 + 8) / 8)), .int (nI ((V1 + (x.toBitVec.toNat / 2 ^ (8 * k2) % 256) * 2 ^ L1) / 2 ^ (8 * ((L1 + 8) / 8)))), .int (nI ((L1 + 8) % 8))])), (b, .inl (cB, n, .inl g2))]) hP hD [1, 2] [0] rfl rfl (by decide) (by decide) hk1 hFc hP1 hD1
        generalize H1 = H at hP hS ⊢
        try dsimp only at hw
        have hP : va_P (dC, dI) vwCl [(h0, .inr (5, [.ref wr, vf])), (wr, .inr (1, [.ref b, .int (nI ((L1 + 8) / 8)), .int (nI ((V1 + (x.toBitVec.toNat / 2 ^ (8 * k2) % 256) * 2 ^ L1) / 2 ^ (8 * ((L1 + 8) / 8)))), .int (nI ((L1 + 8) % 8))])), (b, .inl (cB, n, .inl g2))] H := hP
        have hD : va_D A [(h0, .inr (5, [.ref wr, vf])), (wr, .inr (1, [.ref b, .int (nI ((L1 + 8) / 8)), .int (nI ((V1 + (x.toBitVec.toNat / 2 ^ (8 * k2) % 256) * 2 ^ L1) / 2 ^ (8 * ((L1 + 8) / 8)))), .int (nI ((L1 + 8) % 8))])), (b, .inl (cB, n, .inl g2))] := hD
        refine W.eq (g2 := F0 m 28 ls []) rfl ?_
        refine lv_iinc (v := nI (8 * k2) - 8) (lv' := [(3, .int (nI (8 * k2) - 8)), (0, .ref h0), (1, .int x)]) hx hb dX5_writeHighFirst_28 hl (k := 2) rfl (by rw [Int32.sub_eq_add_neg]; rfl) (by decide) rfl (fun ls hl => ?_)
        refine lv_goto (tgt := 8) hx hb dX5_writeHighFirst_31 (by decide) ?_
        exact ih k2 (V1 + (x.toBitVec.toNat / 2 ^ (8 * k2) % 256) * 2 ^ L1) (L1 + 8) g2 (nI (8 * k2) - 8) (rfl) (hV1) (by omega) (hw) (by omega) (by omega) _ _ hP hD hS _ (lv_sub hl [1, 2, 0] rfl)
  exact cut8 (k + 1) k V L g ((nI (8 * k)) - 8) (rfl) (rfl) (by omega) (ho) (by omega) (by omega) _ _ hP hD hS _ (lv_sub hl [1, 2, 0] rfl)

abbrev rm_X5_lastNotAbove : Room := { frames := 0, cells := 0, slots := 0, locals := 0 }
abbrev wo_X5_lastNotAbove (dC : Nat → ClassId) (dI : Nat → Nat → Nat) (cB cI cJ cM : ClassId) (t_ARR nt : Nat) (tn_ARR : Nat → Nat) (x : Nat) : va_W := []
abbrev q_X5_lastNotAbove (dC : Nat → ClassId) (dI : Nat → Nat → Nat) (cB cI cJ cM : ClassId) (t_ARR nt : Nat) (tn_ARR : Nat → Nat) (x : Nat) (A : Nat → Prop) : Array Value → State → Outcome → State → Prop := va_Qi (fun (r : Int32) (u : Nat) => r = nI u ∧ zIs tn_ARR nt x u) (zB dC dI cB cI cJ cM A (fun u : Nat => [])) A
set_option maxHeartbeats 8000000 in
set_option maxRecDepth 100000 in
/-- lastNotAbove -/
theorem k_X5_lastNotAbove (l : Launch) (dC : Nat → ClassId) (dI : Nat → Nat → Nat) (cB cI cJ cM : ClassId) (t_ARR nt : Nat) (tn_ARR : Nat → Nat) (x : Nat) (h0 : 0 < nt) (h1 : nt < 100) (h2 : x < 100000) (h3 : ∀ i, i < nt → tn_ARR i < 100000) (h4 : tn_ARR 0 ≤ x) (sz : Nat) : Met l yX5_lastNotAbove wsX5_lastNotAbove rm_X5_lastNotAbove (va_Pc [.ref t_ARR, .int (nI x)] (fun U => U.heap.size = sz ∧ va_P (dC, dI) vwCl (wo_X5_lastNotAbove dC dI cB cI cJ cM t_ARR nt tn_ARR x) U.heap ∧ va_K (dC, dI) vwCl (zT cB cI cJ cM) U ∧ va_D (fun _ => True) (wo_X5_lastNotAbove dC dI cB cI cJ cM t_ARR nt tn_ARR x) ∧ va_T .int t_ARR nt (fun i => .int (nI (tn_ARR i))) (va_A (wo_X5_lastNotAbove dC dI cB cI cJ cM t_ARR nt tn_ARR x) sz) U U.heap)) (q_X5_lastNotAbove dC dI cB cI cJ cM t_ARR nt tn_ARR x (va_A (wo_X5_lastNotAbove dC dI cB cI cJ cM t_ARR nt tn_ARR x) sz)) 0 0 (va_A (wo_X5_lastNotAbove dC dI cB cI cJ cM t_ARR nt tn_ARR x) sz) := by
  refine Met.ofW (cc := cX5_lastNotAbove) (maxL := 4) (ret := (some .int)) (by decide) rfl ?_
  intro p e s m args below meth c s₁ B hml hv
  obtain ⟨rfl, hsz, hP, hK, hD0, ha_ARR⟩ := hv
  have hx := B.exec
  have hb := B.bytes
  have hr := B.returns
  have hts := atoms_spec (ws := wsX5_lastNotAbove) B.pre
  have hown : s.vm.findClass RX5 = some m.cls := findClass_of_methodNamed B.named
  have hlocks := B.notSynchronized
  subst hsz
  have hD := hD0.self (sz := s.heap.size)
  generalize hAe : va_A (wo_X5_lastNotAbove dC dI cB cI cJ cM t_ARR nt tn_ARR x) s.heap.size = A at hD ha_ARR ⊢
  have hA : ∀ q : Nat, s.heap.size ≤ q → A q := fun q h => by rw [← hAe]; exact Or.inr h
  have hS : va_S A s.heap s.heap [] := va_S.rf
  have hP : va_P (dC, dI) vwCl [] s.heap := hP
  have hD : va_D A [] := hD
  have hl := lv_entry ([.ref t_ARR, .int (nI x)]) (n := 4) (Nat.le_of_ble_eq_true rfl)
  rw [lg_entry_eq]
  generalize (lg_sl ([.ref t_ARR, .int (nI x)]) ++ List.replicate (4 - (lg_sl ([.ref t_ARR, .int (nI x)])).length) Slot.unset).toArray = ls at hl ⊢
  have hl : lv_has ls 4 [(0, .ref t_ARR), (1, .int (nI x))] := hl
  refine lv_iconst (v := 0) hx hb dX5_lastNotAbove_0 (by decide) ?_
  refine lv_istore_n (lv' := [(2, .int 0), (0, .ref t_ARR), (1, .int (nI x))]) hx hb dX5_lastNotAbove_1 rfl hl (by decide) rfl (fun ls hl => ?_)
  refine lv_iconst (v := 1) hx hb dX5_lastNotAbove_2 (by decide) ?_
  refine lv_istore_n (lv' := [(3, .int 1), (2, .int 0), (0, .ref t_ARR), (1, .int (nI x))]) hx hb dX5_lastNotAbove_3 rfl hl (by decide) rfl (fun ls hl => ?_)
  have cut4 : ∀ (fuel : Nat) (i : Nat), (i < nt) → (tn_ARR i ≤ x) → (nt - i < fuel) → ∀ (H : Heap) (locs : List Loc), va_P (dC, dI) vwCl [] H → va_D A [] → va_S A s.heap H locs → ∀ (ls : Array Slot), lv_has ls 4 [(0, .ref t_ARR), (1, .int (nI x)), (2, .int (nI i)), (3, .int (nI (i + 1)))] → W p l e (headSpec wsX5_lastNotAbove rm_X5_lastNotAbove).room s m ([.ref t_ARR, .int (nI x)] : List Value).toArray below meth c H locs 0 0 (MQ below (q_X5_lastNotAbove dC dI cB cI cJ cM t_ARR nt tn_ARR x A) ([.ref t_ARR, .int (nI x)] : List Value).toArray s 0 0 A) (F0 m 4 ls []) := by
    intro fuel
    induction fuel with
    | zero => intros; omega
    | succ fuel ih =>
      intro i hi hti hfuel H locs hP hD hS ls hl
      refine lv_iload_n hx hb dX5_lastNotAbove_4 rfl (lv_at hl 3 rfl) ?_
      refine lv_aload_n hx hb dX5_lastNotAbove_5 rfl (lv_at hl 0 rfl) ?_
      refine va_tlen (v := nI nt) hx hb ha_ARR hS rfl dX5_lastNotAbove_6 ?_
      refine lv_icmp_ge (tgt := 25) hx hb dX5_lastNotAbove_7 (by decide) (fun c7 => ?_) (fun c7 => ?_)
      · have c7 : nt ≤ (i + 1) := (nI_leI (a := nt) (b := (i + 1)) (by omega) (by omega)).mp c7
        refine lv_iload_n hx hb dX5_lastNotAbove_25 rfl (lv_at hl 2 rfl) ?_
        have hP9 := hP.sub (ws' := []) [] rfl
        have hD9 := hD.sub (ws' := []) [] (by decide) rfl
        exact W.iret (v := (nI i)) hx hb hr (fun t ht hW => ⟨⟨(nI i), i, rfl, ⟨rfl, hi, hti, Or.inl (by omega)⟩, ⟨by rw [ht]; exact hP9, va_K.moved hW.alike hK, hD9⟩⟩, hS.F ht⟩) hS.2.2 dX5_lastNotAbove_26
      · have c7 : ¬ (nt ≤ (i + 1)) := fun h => c7 ((nI_leI (a := nt) (b := (i + 1)) (by omega) (by omega)).mpr h)
        refine lv_aload_n hx hb dX5_lastNotAbove_10 rfl (lv_at hl 0 rfl) ?_
        refine lv_iload_n hx hb dX5_lastNotAbove_11 rfl (lv_at hl 3 rfl) ?_
        have h3i := h3 (i + 1) (by omega)
        refine va_ti (v := .int (nI (tn_ARR (i + 1)))) hx hb ha_ARR hS (vp_in_nI (n := i + 1) (by omega) (by omega)) (by rw [nI_clamp (by omega)]) dX5_lastNotAbove_12 ?_
        refine lv_iload_n hx hb dX5_lastNotAbove_13 rfl (lv_at hl 1 rfl) ?_
        refine lv_icmp_gt (tgt := 25) hx hb dX5_lastNotAbove_14 (by decide) (fun c14 => ?_) (fun c14 => ?_)
        · have c14 : x < (tn_ARR (i + 1)) := (nI_ltI (a := x) (b := (tn_ARR (i + 1))) (by omega) (by omega)).mp c14
          refine lv_iload_n hx hb dX5_lastNotAbove_25 rfl (lv_at hl 2 rfl) ?_
          have hP9 := hP.sub (ws' := []) [] rfl
          have hD9 := hD.sub (ws' := []) [] (by decide) rfl
          exact W.iret (v := (nI i)) hx hb hr (fun t ht hW => ⟨⟨(nI i), i, rfl, ⟨rfl, hi, hti, Or.inr (by omega)⟩, ⟨by rw [ht]; exact hP9, va_K.moved hW.alike hK, hD9⟩⟩, hS.F ht⟩) hS.2.2 dX5_lastNotAbove_26
        · have c14 : ¬ (x < (tn_ARR (i + 1))) := fun h => c14 ((nI_ltI (a := x) (b := (tn_ARR (i + 1))) (by omega) (by omega)).mpr h)
          refine lv_iload_n hx hb dX5_lastNotAbove_17 rfl (lv_at hl 3 rfl) ?_
          refine lv_istore_n (lv' := [(2, .int (nI (i + 1))), (0, .ref t_ARR), (1, .int (nI x)), (3, .int (nI (i + 1)))]) hx hb dX5_lastNotAbove_18 rfl hl (by decide) rfl (fun ls hl => ?_)
          refine lv_iinc (v := nI (i + 1 + 1)) (lv' := [(3, .int (nI (i + 1 + 1))), (2, .int (nI (i + 1))), (0, .ref t_ARR), (1, .int (nI x))]) hx hb dX5_lastNotAbove_19 hl (k := 3) rfl (show nI (i + 1) + Int32.ofInt 1 = _ from nI_add (i + 1) 1) (by decide) rfl (fun ls hl => ?_)
          refine lv_goto (tgt := 4) hx hb dX5_lastNotAbove_22 (by decide) ?_
          exact ih (i + 1) (by omega) (by omega) (by omega) _ _ hP hD hS _ (lv_sub hl [2, 3, 1, 0] rfl)
  exact cut4 (nt - 0 + 1) 0 (by omega) (h4) (by omega) _ _ hP hD hS _ (lv_sub hl [2, 3, 1, 0] rfl)
