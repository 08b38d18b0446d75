abbrev rm_X6_learnAllowed : Room := { frames := 6, cells := 1, slots := 6, locals := 96 }
abbrev wo_X6_learnAllowed (dC : Nat → ClassId) (dI : Nat → Nat → Nat) (cB cI cJ cM : ClassId) (h0 cs co pl sy lp ns : Nat) (x0 x1 x2 : Value) (ℓ : Nat → Nat) (lf : Nat → Int32) (fr n : Nat) (c0 p0 s0 : Nat → Int32) : va_W := [(h0, .inr (6, [x0, x1, x2, .ref lp])), (cs, .inr (2, [.ref co, .ref pl, .ref sy])), (co, .inl (cI, 16, .inl c0)), (pl, .inl (cI, 16, .inl p0)), (sy, .inl (cI, ns, .inl s0)), (lp, .inl (cI, 316, .inl lf))]
abbrev q_X6_learnAllowed (dC : Nat → ClassId) (dI : Nat → Nat → Nat) (cB cI cJ cM : ClassId) (h0 cs co pl sy lp ns : Nat) (x0 x1 x2 : Value) (ℓ : Nat → Nat) (lf : Nat → Int32) (fr n : Nat) (c0 p0 s0 : Nat → Int32) (A : Nat → Prop) : Array Value → State → Outcome → State → Prop := va_Qv (fun (u : (Nat → Int32) × (Nat → Int32) × (Nat → Int32)) => zallow ℓ n ∧ zCS ℓ n u.1 u.2.2) (zB dC dI cB cI cJ cM A (fun u : (Nat → Int32) × (Nat → Int32) × (Nat → Int32) => [(h0, .inr (6, [x0, x1, x2, .ref lp])), (cs, .inr (2, [.ref co, .ref pl, .ref sy])), (co, .inl (cI, 16, .inl u.1)), (pl, .inl (cI, 16, .inl u.2.1)), (sy, .inl (cI, ns, .inl u.2.2)), (lp, .inl (cI, 316, .inl lf))])) A
abbrev x_X6_learnAllowed (dC : Nat → ClassId) (dI : Nat → Nat → Nat) (cB cI cJ cM : ClassId) (h0 cs co pl sy lp ns : Nat) (x0 x1 x2 : Value) (ℓ : Nat → Nat) (lf : Nat → Int32) (fr n : Nat) (c0 p0 s0 : Nat → Int32) (A : Nat → Prop) : String → State → State → Prop := vx_X (fun (u : String × ((Nat → Int32) × (Nat → Int32) × (Nat → Int32))) => (u.1 = "java/lang/UnsupportedOperationException") ∧ (¬ zallow ℓ n)) (fun E (u : String × ((Nat → Int32) × (Nat → Int32) × (Nat → Int32))) t => E = u.1 ∧ zB dC dI cB cI cJ cM A (fun u : (Nat → Int32) × (Nat → Int32) × (Nat → Int32) => [(h0, .inr (6, [x0, x1, x2, .ref lp])), (cs, .inr (2, [.ref co, .ref pl, .ref sy])), (co, .inl (cI, 16, .inl u.1)), (pl, .inl (cI, 16, .inl u.2.1)), (sy, .inl (cI, ns, .inl u.2.2)), (lp, .inl (cI, 316, .inl lf))]) u.2 t) A
set_option maxHeartbeats 8000000 in
set_option maxRecDepth 100000 in
/-- learnAllowed -/
theorem k_X6_learnAllowed (l : Launch) (hl9 : l.stackTraces = false) (dC : Nat → ClassId) (dI : Nat → Nat → Nat) (cB cI cJ cM : ClassId) (h0 cs co pl sy lp ns : Nat) (x0 x1 x2 : Value) (ℓ : Nat → Nat) (lf : Nat → Int32) (fr n : Nat) (c0 p0 s0 : Nat → Int32) (hlf : ∀ i, i < n → lf (fr + i) = nI (ℓ i) ∧ ℓ i ≤ 15) (hnl : fr + n ≤ 316) (hns : n ≤ ns) (hz2 : ns < 100000) (sz : Nat) : vx_Met l yX6_learnAllowed wsX6_learnAllowed rm_X6_learnAllowed (va_Pc [.ref h0, .ref cs, .int (nI fr), .int (nI n)] (fun U => U.heap.size = sz ∧ va_P (dC, dI) vwCl (wo_X6_learnAllowed dC dI cB cI cJ cM h0 cs co pl sy lp ns x0 x1 x2 ℓ lf fr n c0 p0 s0) U.heap ∧ va_K (dC, dI) vwCl (zT cB cI cJ cM) U ∧ va_D (fun _ => True) (wo_X6_learnAllowed dC dI cB cI cJ cM h0 cs co pl sy lp ns x0 x1 x2 ℓ lf fr n c0 p0 s0) ∧ zE (va_A (wo_X6_learnAllowed dC dI cB cI cJ cM h0 cs co pl sy lp ns x0 x1 x2 ℓ lf fr n c0 p0 s0) sz) U)) (q_X6_learnAllowed dC dI cB cI cJ cM h0 cs co pl sy lp ns x0 x1 x2 ℓ lf fr n c0 p0 s0 (va_A (wo_X6_learnAllowed dC dI cB cI cJ cM h0 cs co pl sy lp ns x0 x1 x2 ℓ lf fr n c0 p0 s0) sz)) (x_X6_learnAllowed dC dI cB cI cJ cM h0 cs co pl sy lp ns x0 x1 x2 ℓ lf fr n c0 p0 s0 (va_A (wo_X6_learnAllowed dC dI cB cI cJ cM h0 cs co pl sy lp ns x0 x1 x2 ℓ lf fr n c0 p0 s0) sz)) 0 0 1 6 (va_A (wo_X6_learnAllowed dC dI cB cI cJ cM h0 cs co pl sy lp ns x0 x1 x2 ℓ lf fr n c0 p0 s0) sz) := by
  refine vx_ofW (cc := cX6_learnAllowed) (maxL := 4) (ret := none) (by decide) rfl ?_
  intro p e s m args below meth c s₁ B hml hEx hv
  obtain ⟨rfl, hsz, hP, hK, hD0, hE⟩ := hv
  have hx := B.exec
  have hb := B.bytes
  have hr := B.returns
  have hts := atoms_spec (ws := wsX6_learnAllowed) B.pre
  have hown : s.vm.findClass RX6 = some m.cls := findClass_of_methodNamed B.named
  have hlocks := B.notSynchronized
  subst hsz
  have hD := hD0.self (sz := s.heap.size)
  generalize hAe : va_A (wo_X6_learnAllowed dC dI cB cI cJ cM h0 cs co pl sy lp ns x0 x1 x2 ℓ lf fr n c0 p0 s0) s.heap.size = A at hD hE ⊢
  have hA : ∀ q : Nat, s.heap.size ≤ q → A q := fun q h => by rw [← hAe]; exact Or.inr h
  have hS : va_S A s.heap s.heap [] := va_S.rf
  have hP : va_P (dC, dI) vwCl [(h0, .inr (6, [x0, x1, x2, .ref lp])), (cs, .inr (2, [.ref co, .ref pl, .ref sy])), (co, .inl (cI, 16, .inl c0)), (pl, .inl (cI, 16, .inl p0)), (sy, .inl (cI, ns, .inl s0)), (lp, .inl (cI, 316, .inl lf))] s.heap := hP
  have hD : va_D A [(h0, .inr (6, [x0, x1, x2, .ref lp])), (cs, .inr (2, [.ref co, .ref pl, .ref sy])), (co, .inl (cI, 16, .inl c0)), (pl, .inl (cI, 16, .inl p0)), (sy, .inl (cI, ns, .inl s0)), (lp, .inl (cI, 316, .inl lf))] := hD
  have hl := lv_entry ([.ref h0, .ref cs, .int (nI fr), .int (nI n)]) (n := 4) (Nat.le_of_ble_eq_true rfl)
  rw [lg_entry_eq]
  generalize (lg_sl ([.ref h0, .ref cs, .int (nI fr), .int (nI n)]) ++ List.replicate (4 - (lg_sl ([.ref h0, .ref cs, .int (nI fr), .int (nI n)])).length) Slot.unset).toArray = ls at hl ⊢
  have hl : lv_has ls 4 [(0, .ref h0), (1, .ref cs), (2, .int (nI fr)), (3, .int (nI n))] := hl
  refine lv_aload_n hx hb dX6_learnAllowed_0 rfl (lv_at hl 1 rfl) ?_
  refine lv_aload_n hx hb dX6_learnAllowed_1 rfl (lv_at hl 0 rfl) ?_
  refine va_get (D := (dC, dI)) (ci := 6) (v := .ref lp) (C := RX6) (T := TX6) (N := 4) hx hb hts (by decide +kernel) hown hK hP 0 rfl rfl 3 (by decide) (hts (.fieldLink RX6 30 "FixedPress$ToldCodes" "lengths" "[I") (by decide +kernel)) (fun _ h9 => h9) rfl dX6_learnAllowed_2 ?_
  refine lv_iload_n hx hb dX6_learnAllowed_5 rfl (lv_at hl 2 rfl) ?_
  refine lv_iload_n hx hb dX6_learnAllowed_6 rfl (lv_at hl 3 rfl) ?_
  have hPc := hP.sub (ws' := [(cs, .inr (2, [.ref co, .ref pl, .ref sy])), (co, .inl (cI, 16, .inl c0)), (pl, .inl (cI, 16, .inl p0)), (sy, .inl (cI, ns, .inl s0)), (lp, .inl (cI, 316, .inl lf))]) [1, 2, 3, 4, 5] rfl
  have hDc := hD.sub (ws' := [(cs, .inr (2, [.ref co, .ref pl, .ref sy])), (co, .inl (cI, 16, .inl c0)), (pl, .inl (cI, 16, .inl p0)), (sy, .inl (cI, ns, .inl s0)), (lp, .inl (cI, 316, .inl lf))]) [1, 2, 3, 4, 5] (by decide) rfl
  have hFc := va_free (wc := [(cs, .inr (2, [.ref co, .ref pl, .ref sy])), (co, .inl (cI, 16, .inl c0)), (pl, .inl (cI, 16, .inl p0)), (sy, .inl (cI, ns, .inl s0)), (lp, .inl (cI, 316, .inl lf))]) hD hS hA [1, 2, 3, 4, 5] rfl
  refine va_callv (va_runV (As := [.ref lp, .int (nI fr), .int (nI n)]) (rest := []) ⟨hx, hb, hml, hown, hts⟩ (k_X2_learn l dC dI cB cI cJ cM cs co pl sy lp ns 316 (ℓ) lf fr n c0 p0 s0 (hlf) (by omega) (by omega) (by omega) (by omega) s.heap.size) (cwV 3 hts gX6_learnAllowed_X2_learn rfl rfl rfl (by decide +kernel) ⟨Nat.le_of_ble_eq_true rfl, Nat.le_of_ble_eq_true rfl⟩) ⟨fun a U g mk q => by obtain ⟨q0, q1, qP, qK, qD⟩ := q; exact ⟨q0, q1, qP, va_K.moved (u := U) (U := U.calling g mk a) (Vm.Alike.refl U.vm) qK, qD⟩, va_recv hK hPc (ci := 2) (q0 := 0) rfl rfl, fun U hU hW => ⟨rfl, by rw [hU], by rw [hU]; exact hPc, va_K.moved hW.alike hK, hDc.weaken (fun _ _ _ _ => trivial)⟩⟩ rfl rfl hl.1 rfl (lv_room (Nat.le_of_ble_eq_true rfl)) dX6_learnAllowed_7 ⟨(show 0 + 0 ≤ 1 by omega), (show 0 + 0 ≤ 6 by omega)⟩) hS (fun q _ h => hFc q h) hFc (fun u t H1 locs ht hvm hw hB hz1 hk1 hS => ?_)
  obtain ⟨c9, p9, s9⟩ := u
  have hP1 : va_P (dC, dI) vwCl [(cs, .inr (2, [.ref co, .ref pl, .ref sy])), (co, .inl (cI, 16, .inl c9)), (pl, .inl (cI, 16, .inl p9)), (sy, .inl (cI, ns, .inl s9)), (lp, .inl (cI, 316, .inl lf))] H1 := by rw [← ht]; exact hB.1
  have hD1 : va_D (va_A [(cs, .inr (2, [.ref co, .ref pl, .ref sy])), (co, .inl (cI, 16, .inl c0)), (pl, .inl (cI, 16, .inl p0)), (sy, .inl (cI, ns, .inl s0)), (lp, .inl (cI, 316, .inl lf))] s.heap.size) [(cs, .inr (2, [.ref co, .ref pl, .ref sy])), (co, .inl (cI, 16, .inl c9)), (pl, .inl (cI, 16, .inl p9)), (sy, .inl (cI, ns, .inl s9)), (lp, .inl (cI, 316, .inl lf))] := hB.2.2
  obtain ⟨hP, hD⟩ := va_join (wr := [(h0, .inr (6, [x0, x1, x2, .ref lp]))]) (w1 := [(cs, .inr (2, [.ref co, .ref pl, .ref sy])), (co, .inl (cI, 16, .inl c9)), (pl, .inl (cI, 16, .inl p9)), (sy, .inl (cI, ns, .inl s9)), (lp, .inl (cI, 316, .inl lf))]) hP hD [1, 2, 3, 4, 5] [0] rfl rfl (by decide) (by decide) hk1 hFc hP1 hD1
  generalize H1 = H at hP hS ⊢
  try dsimp only at hw
  have hP : va_P (dC, dI) vwCl [(h0, .inr (6, [x0, x1, x2, .ref lp])), (cs, .inr (2, [.ref co, .ref pl, .ref sy])), (co, .inl (cI, 16, .inl c9)), (pl, .inl (cI, 16, .inl p9)), (sy, .inl (cI, ns, .inl s9)), (lp, .inl (cI, 316, .inl lf))] H := hP
  have hD : va_D A [(h0, .inr (6, [x0, x1, x2, .ref lp])), (cs, .inr (2, [.ref co, .ref pl, .ref sy])), (co, .inl (cI, 16, .inl c9)), (pl, .inl (cI, 16, .inl p9)), (sy, .inl (cI, ns, .inl s9)), (lp, .inl (cI, 316, .inl lf))] := hD
  have hcs := hw
  refine W.eq (g2 := F0 m 10 ls []) rfl ?_
  refine lv_aload_n hx hb dX6_learnAllowed_10 rfl (lv_at hl 1 rfl) ?_
  have hPc := hP.sub (ws' := [(cs, .inr (2, [.ref co, .ref pl, .ref sy])), (co, .inl (cI, 16, .inl c9))]) [1, 2] rfl
  have hDc := hD.sub (ws' := [(cs, .inr (2, [.ref co, .ref pl, .ref sy])), (co, .inl (cI, 16, .inl c9))]) [1, 2] (by decide) rfl
  have hFc := va_free (wc := [(cs, .inr (2, [.ref co, .ref pl, .ref sy])), (co, .inl (cI, 16, .inl c9))]) hD hS hA [1, 2] rfl
  refine va_calli (va_runV (As := []) (rest := []) ⟨hx, hb, hml, hown, hts⟩ (k_X2_isAllowed l dC dI cB cI cJ cM cs co pl sy (ℓ) n c9 (hcs.1) (by omega) H.size) (cwV 0 hts gX6_learnAllowed_X2_isAllowed rfl rfl rfl (by decide +kernel) ⟨Nat.le_of_ble_eq_true rfl, Nat.le_of_ble_eq_true rfl⟩) ⟨fun a U g mk q => by obtain ⟨q0, q1, qP, qK, qD⟩ := q; exact ⟨q0, q1, qP, va_K.moved (u := U) (U := U.calling g mk a) (Vm.Alike.refl U.vm) qK, qD⟩, va_recv hK hPc (ci := 2) (q0 := 0) rfl rfl, fun U hU hW => ⟨rfl, by rw [hU], by rw [hU]; exact hPc, va_K.moved hW.alike hK, hDc.weaken (fun _ _ _ _ => trivial)⟩⟩ rfl rfl hl.1 rfl (lv_room (Nat.le_of_ble_eq_true rfl)) dX6_learnAllowed_11 ⟨(show 0 + 0 ≤ 1 by omega), (show 0 + 0 ≤ 6 by omega)⟩) hS (fun q _ h => hFc q h) hFc (fun r11 u t H1 locs ht hvm hw hB hz1 hk1 hS => ?_)
  have hP1 : va_P (dC, dI) vwCl [(cs, .inr (2, [.ref co, .ref pl, .ref sy])), (co, .inl (cI, 16, .inl c9))] H1 := by rw [← ht]; exact hB.1
  have hD1 : va_D (va_A [(cs, .inr (2, [.ref co, .ref pl, .ref sy])), (co, .inl (cI, 16, .inl c9))] H.size) [(cs, .inr (2, [.ref co, .ref pl, .ref sy])), (co, .inl (cI, 16, .inl c9))] := hB.2.2
  obtain ⟨hP, hD⟩ := va_join (wr := [(h0, .inr (6, [x0, x1, x2, .ref lp])), (pl, .inl (cI, 16, .inl p9)), (sy, .inl (cI, ns, .inl s9)), (lp, .inl (cI, 316, .inl lf))]) (w1 := [(cs, .inr (2, [.ref co, .ref pl, .ref sy])), (co, .inl (cI, 16, .inl c9))]) hP hD [1, 2] [0, 3, 4, 5] rfl rfl (by decide) (by decide) hk1 hFc hP1 hD1
  generalize H1 = H at hP hS ⊢
  try dsimp only at hw
  have hP : va_P (dC, dI) vwCl [(h0, .inr (6, [x0, x1, x2, .ref lp])), (pl, .inl (cI, 16, .inl p9)), (sy, .inl (cI, ns, .inl s9)), (lp, .inl (cI, 316, .inl lf)), (cs, .inr (2, [.ref co, .ref pl, .ref sy])), (co, .inl (cI, 16, .inl c9))] H := hP
  have hD : va_D A [(h0, .inr (6, [x0, x1, x2, .ref lp])), (pl, .inl (cI, 16, .inl p9)), (sy, .inl (cI, ns, .inl s9)), (lp, .inl (cI, 316, .inl lf)), (cs, .inr (2, [.ref co, .ref pl, .ref sy])), (co, .inl (cI, 16, .inl c9))] := hD
  have hal := hw
  refine W.eq (g2 := F0 m 14 ls [.int r11]) rfl ?_
  refine lv_if_ne (tgt := 27) hx hb dX6_learnAllowed_14 (by decide) (fun c14 => ?_) (fun c14 => ?_)
  · have hP9 := hP.sub (ws' := [(h0, .inr (6, [x0, x1, x2, .ref lp])), (cs, .inr (2, [.ref co, .ref pl, .ref sy])), (co, .inl (cI, 16, .inl c9)), (pl, .inl (cI, 16, .inl p9)), (sy, .inl (cI, ns, .inl s9)), (lp, .inl (cI, 316, .inl lf))]) [0, 4, 5, 1, 2, 3] rfl
    have hD9 := hD.sub (ws' := [(h0, .inr (6, [x0, x1, x2, .ref lp])), (cs, .inr (2, [.ref co, .ref pl, .ref sy])), (co, .inl (cI, 16, .inl c9)), (pl, .inl (cI, 16, .inl p9)), (sy, .inl (cI, ns, .inl s9)), (lp, .inl (cI, 316, .inl lf))]) [0, 4, 5, 1, 2, 3] (by decide) rfl
    exact vx_ret (W.vret hx hb hr (fun t ht hW => ⟨⟨(c9, p9, s9), rfl, ⟨hal.elim (fun h => h.2) (fun h => absurd h.1 c14), hcs⟩, ⟨by rw [ht]; exact hP9, va_K.moved hW.alike hK, hD9⟩⟩, hS.F ht⟩) hS.2.2 dX6_learnAllowed_27)
  · have hP9 := hP.sub (ws' := [(h0, .inr (6, [x0, x1, x2, .ref lp])), (cs, .inr (2, [.ref co, .ref pl, .ref sy])), (co, .inl (cI, 16, .inl c9)), (pl, .inl (cI, 16, .inl p9)), (sy, .inl (cI, ns, .inl s9)), (lp, .inl (cI, 316, .inl lf))]) [0, 4, 5, 1, 2, 3] rfl
    have hD9 := hD.sub (ws' := [(h0, .inr (6, [x0, x1, x2, .ref lp])), (cs, .inr (2, [.ref co, .ref pl, .ref sy])), (co, .inl (cI, 16, .inl c9)), (pl, .inl (cI, 16, .inl p9)), (sy, .inl (cI, ns, .inl s9)), (lp, .inl (cI, 316, .inl lf))]) [0, 4, 5, 1, 2, 3] (by decide) rfl
    obtain ⟨sa9, hstr9⟩ := zX_X6_85 hE
    exact vx_throwS (own := RX6) (cls := "java/lang/UnsupportedOperationException") (names := ["java/lang/RuntimeException", "java/lang/Exception"]) hx hb hl9 hown (by decide +kernel) (by decide +kernel) (hts (.classLink RX6 39 "java/lang/UnsupportedOperationException") (by decide +kernel)) (hts (.initialized "java/lang/UnsupportedOperationException") (by decide +kernel)) hstr9 (vx_hat (L := vx_atS RX6 43 "java/lang/UnsupportedOperationException" ["java/lang/RuntimeException", "java/lang/Exception"]) (B := zBad "java/lang/UnsupportedOperationException") (fun w hw => hts w ((by decide +kernel : ∀ w ∈ (vx_atS RX6 43 "java/lang/UnsupportedOperationException" ["java/lang/RuntimeException", "java/lang/Exception"]).filter goodWord, w ∈ wsX6_learnAllowed) w hw)) (by decide +kernel) (zBad_UnsupportedOperationException hE)) (by decide +kernel) (zE_U hE) (zE_N hE) hS (hl.1.trans hml.symm) dX6_learnAllowed_17 dX6_learnAllowed_20 dX6_learnAllowed_21 dX6_learnAllowed_23 dX6_learnAllowed_26 (fun x hx => (hEx x hx).elim) (Nat.le_of_ble_eq_true rfl) (Nat.le_of_ble_eq_true rfl) (Nat.le_of_ble_eq_true rfl) (Nat.le_of_ble_eq_true rfl) hlocks (fun t ha hsz hk => ⟨("java/lang/UnsupportedOperationException", (c9, p9, s9)), ⟨rfl, hal.elim (fun h => absurd (h.1.symm.trans c14) (by decide)) (fun h => h.2)⟩, ⟨rfl, hP9.kept (fun k q hq => hk q.1 (hP9 k q hq).lt), va_K.moved ha hK, hD9⟩, Nat.le_trans hS.1 hsz, fun q h1 h2 => (hk q (Nat.lt_of_lt_of_le h1 hS.1)).trans (hS.2.1 q h1 h2)⟩) hS.2.2 (Nat.le_of_ble_eq_true rfl) (Nat.le_of_ble_eq_true rfl)

abbrev rm_X6_repeatLength_1 : Room := { frames := 6, cells := 1, slots := 6, locals := 96 }
abbrev wo_X6_repeatLength_1 (dC : Nat → ClassId) (dI : Nat → Nat → Nat) (cB cI cJ cM : ClassId) (h0 lp : Nat) (x0 x1 x2 : Value) (lf : Nat → Int32) (kn tm al : Nat) : va_W := [(h0, .inr (6, [x0, x1, x2, .ref lp])), (lp, .inl (cI, 316, .inl lf))]
abbrev q_X6_repeatLength_1 (dC : Nat → ClassId) (dI : Nat → Nat → Nat) (cB cI cJ cM : ClassId) (h0 lp : Nat) (x0 x1 x2 : Value) (lf : Nat → Int32) (kn tm al : Nat) (A : Nat → Prop) : Array Value → State → Outcome → State → Prop := va_Qv (fun (u : Unit) => kn + tm ≤ al ∧ kn ≠ 0) (zB dC dI cB cI cJ cM A (fun u : Unit => [(h0, .inr (6, [x0, x1, x2, .ref lp])), (lp, .inl (cI, 316, .inl (zrep lf kn (lf (kn - 1)) tm)))])) A
abbrev x_X6_repeatLength_1 (dC : Nat → ClassId) (dI : Nat → Nat → Nat) (cB cI cJ cM : ClassId) (h0 lp : Nat) (x0 x1 x2 : Value) (lf : Nat → Int32) (kn tm al : Nat) (A : Nat → Prop) : String → State → State → Prop := vx_X (fun (u : String × (Unit)) => (u.1 = "java/lang/UnsupportedOperationException") ∧ (al < kn + tm ∨ kn = 0)) (fun E (u : String × (Unit)) t => E = u.1 ∧ zB dC dI cB cI cJ cM A (fun u : Unit => [(h0, .inr (6, [x0, x1, x2, .ref lp])), (lp, .inl (cI, 316, .inl lf))]) u.2 t) A
set_option maxHeartbeats 8000000 in
set_option maxRecDepth 100000 in
/-- repeatLength, flag 1 -/
theorem k_X6_repeatLength_1 (l : Launch) (hl9 : l.stackTraces = false) (dC : Nat → ClassId) (dI : Nat → Nat → Nat) (cB cI cJ cM : ClassId) (h0 lp : Nat) (x0 x1 x2 : Value) (lf : Nat → Int32) (kn tm al : Nat) (h1 : kn ≤ al) (h2 : al ≤ 316) (h3 : tm < 1000) (sz : Nat) : vx_Met l yX6_repeatLength wsX6_repeatLength rm_X6_repeatLength_1 (va_Pc [.ref h0, .int 1, .int (nI kn), .int (nI tm), .int (nI al)] (fun U => U.heap.size = sz ∧ va_P (dC, dI) vwCl (wo_X6_repeatLength_1 dC dI cB cI cJ cM h0 lp x0 x1 x2 lf kn tm al) U.heap ∧ va_K (dC, dI) vwCl (zT cB cI cJ cM) U ∧ va_D (fun _ => True) (wo_X6_repeatLength_1 dC dI cB cI cJ cM h0 lp x0 x1 x2 lf kn tm al) ∧ zE (va_A (wo_X6_repeatLength_1 dC dI cB cI cJ cM h0 lp x0 x1 x2 lf kn tm al) sz) U)) (q_X6_repeatLength_1 dC dI cB cI cJ cM h0 lp x0 x1 x2 lf kn tm al (va_A (wo_X6_repeatLength_1 dC dI cB cI cJ cM h0 lp x0 x1 x2 lf kn tm al) sz)) (x_X6_repeatLength_1 dC dI cB cI cJ cM h0 lp x0 x1 x2 lf kn tm al (va_A (wo_X6_repeatLength_1 dC dI cB cI cJ cM h0 lp x0 x1 x2 lf kn tm al) sz)) 0 0 1 6 (va_A (wo_X6_repeatLength_1 dC dI cB cI cJ cM h0 lp x0 x1 x2 lf kn tm al) sz) := by
  refine vx_ofW (cc := cX6_repeatLength) (maxL := 7) (ret := none) (by decide) rfl ?_
  intro p e s m args below meth c s₁ B hml hEx hv
  obtain ⟨rfl, hsz, hP, hK, hD0, hE⟩ := hv
  have hx := B.exec
  have hb := B.bytes
  have hr := B.returns
  have hts := atoms_spec (ws := wsX6_repeatLength) B.pre
  have hown : s.vm.findClass RX6 = some m.cls := findClass_of_methodNamed B.named
  have hlocks := B.notSynchronized
  subst hsz
  have hD := hD0.self (sz := s.heap.size)
  generalize hAe : va_A (wo_X6_repeatLength_1 dC dI cB cI cJ cM h0 lp x0 x1 x2 lf kn tm al) s.heap.size = A at hD hE ⊢
  have hA : ∀ q : Nat, s.heap.size ≤ q → A q := fun q h => by rw [← hAe]; exact Or.inr h
  have hS : va_S A s.heap s.heap [] := va_S.rf
  have hP : va_P (dC, dI) vwCl [(h0, .inr (6, [x0, x1, x2, .ref lp])), (lp, .inl (cI, 316, .inl lf))] s.heap := hP
  have hD : va_D A [(h0, .inr (6, [x0, x1, x2, .ref lp])), (lp, .inl (cI, 316, .inl lf))] := hD
  have hl := lv_entry ([.ref h0, .int 1, .int (nI kn), .int (nI tm), .int (nI al)]) (n := 7) (Nat.le_of_ble_eq_true rfl)
  rw [lg_entry_eq]
  generalize (lg_sl ([.ref h0, .int 1, .int (nI kn), .int (nI tm), .int (nI al)]) ++ List.replicate (7 - (lg_sl ([.ref h0, .int 1, .int (nI kn), .int (nI tm), .int (nI al)])).length) Slot.unset).toArray = ls at hl ⊢
  have hl : lv_has ls 7 [(0, .ref h0), (1, .int 1), (2, .int (nI kn)), (3, .int (nI tm)), (4, .int (nI al))] := hl
  refine lv_iload_n hx hb dX6_repeatLength_0 rfl (lv_at hl 1 rfl) ?_
  refine lv_if_eq (tgt := 18) hx hb dX6_repeatLength_1 (by decide) (fun c1 => ?_) (fun c1 => ?_)
  · have c1 : 1 = 0 := (nI_eq (a := 1) (b := 0) (by omega) (by omega)).mp c1
    exfalso; omega
  · have c1 : ¬ (1 = 0) := fun h => c1 ((nI_eq (a := 1) (b := 0) (by omega) (by omega)).mpr h)
    refine lv_iload_n hx hb dX6_repeatLength_4 rfl (lv_at hl 2 rfl) ?_
    refine lv_if_ne (tgt := 18) hx hb dX6_repeatLength_5 (by decide) (fun c5 => ?_) (fun c5 => ?_)
    · have c5 : ¬ (kn = 0) := fun h => c5 ((nI_eq (a := kn) (b := 0) (by omega) (by omega)).mpr h)
      refine lv_iload_n hx hb dX6_repeatLength_18 rfl (lv_at hl 3 rfl) ?_
      refine lv_iload hx hb dX6_repeatLength_19 (lv_at hl 4 rfl) ?_
      refine lv_iload_n hx hb dX6_repeatLength_21 rfl (lv_at hl 2 rfl) ?_
      refine lv_isub hx hb dX6_repeatLength_22 ?_
      refine lv_topi (fun y_1 ey_1 => ?_)
      obtain rfl : y_1 = nI (al - kn) := ey_1.trans (pk_sub (a := al) (b := kn) (by omega))
      refine lv_icmp_le (tgt := 36) hx hb dX6_repeatLength_23 (by decide) (fun c23 => ?_) (fun c23 => ?_)
      · have c23 : tm ≤ (al - kn) := (nI_leI (a := tm) (b := (al - kn)) (by omega) (by omega)).mp c23
        refine lv_iload_n hx hb dX6_repeatLength_36 rfl (lv_at hl 1 rfl) ?_
        refine lv_if_eq (tgt := 51) hx hb dX6_repeatLength_37 (by decide) (fun c37 => ?_) (fun c37 => ?_)
        · have c37 : 1 = 0 := (nI_eq (a := 1) (b := 0) (by omega) (by omega)).mp c37
          exfalso; omega
        · have c37 : ¬ (1 = 0) := fun h => c37 ((nI_eq (a := 1) (b := 0) (by omega) (by omega)).mpr h)
          refine lv_aload_n hx hb dX6_repeatLength_40 rfl (lv_at hl 0 rfl) ?_
          refine va_get (D := (dC, dI)) (ci := 6) (v := .ref lp) (C := RX6) (T := TX6) (N := 4) hx hb hts (by decide +kernel) hown hK hP 0 rfl rfl 3 (by decide) (hts (.fieldLink RX6 30 "FixedPress$ToldCodes" "lengths" "[I") (by decide +kernel)) (fun _ h9 => h9) rfl dX6_repeatLength_41 ?_
          refine lv_iload_n hx hb dX6_repeatLength_44 rfl (lv_at hl 2 rfl) ?_
          refine lv_iconst (v := 1) hx hb dX6_repeatLength_45 (by decide) ?_
          refine lv_isub hx hb dX6_repeatLength_46 ?_
          refine lv_topi (fun y_2 ey_2 => ?_)
          obtain rfl : y_2 = nI (kn - 1) := ey_2.trans (pk_sub (a := kn) (b := 1) (by omega))
          refine va_iald hx hb hK hP 1 1 rfl rfl (vp_in_nI (n := kn - 1) (by omega) (by omega)) dX6_repeatLength_47 ?_
          rw [nI_clamp (n := kn - 1) (by omega)]
          refine lv_goto (tgt := 52) hx hb dX6_repeatLength_48 (by decide) ?_
          refine lv_istore (lv' := [(5, .int (lf (kn - 1))), (0, .ref h0), (1, .int 1), (2, .int (nI kn)), (3, .int (nI tm)), (4, .int (nI al))]) hx hb dX6_repeatLength_52 hl (by decide) rfl (fun ls hl => ?_)
          refine lv_iload_n hx hb dX6_repeatLength_54 rfl (lv_at hl 3 rfl) ?_
          refine lv_istore (lv' := [(6, .int (nI kn)), (5, .int (lf (kn - 1))), (0, .ref h0), (1, .int 1), (2, .int (nI kn)), (3, .int (nI tm)), (4, .int (nI al))]) hx hb dX6_repeatLength_55 hl (by decide) rfl (fun ls hl => ?_)
          have cut57 : ∀ (fuel : Nat) (j : Nat) (lf1 : Nat → Int32), (j ≤ tm) → (lf1 = zrep lf kn (lf (kn - 1)) j) → (tm - j < fuel) → ∀ (H : Heap) (locs : List Loc), va_P (dC, dI) vwCl [(h0, .inr (6, [x0, x1, x2, .ref lp])), (lp, .inl (cI, 316, .inl lf1))] H → va_D A [(h0, .inr (6, [x0, x1, x2, .ref lp])), (lp, .inl (cI, 316, .inl lf1))] → va_S A s.heap H locs → ∀ (ls : Array Slot), lv_has ls 7 [(0, .ref h0), (2, .int (nI kn)), (3, .int (nI tm)), (5, .int (lf (kn - 1))), (6, .int (nI (kn + j)))] → W p l e (headSpec wsX6_repeatLength rm_X6_repeatLength_1).room s m ([.ref h0, .int 1, .int (nI kn), .int (nI tm), .int (nI al)] : List Value).toArray below meth c H locs 0 0 (vx_MQ below (q_X6_repeatLength_1 dC dI cB cI cJ cM h0 lp x0 x1 x2 lf kn tm al A) (x_X6_repeatLength_1 dC dI cB cI cJ cM h0 lp x0 x1 x2 lf kn tm al A) ([.ref h0, .int 1, .int (nI kn), .int (nI tm), .int (nI al)] : List Value).toArray s 0 0 1 6 A) (F0 m 57 ls []) := by
            intro fuel
            induction fuel with
            | zero => intros; omega
            | succ fuel ih =>
              intro j lf1 hj hlf1 hfuel H locs hP hD hS ls hl
              refine lv_iload hx hb dX6_repeatLength_57 (lv_at hl 4 rfl) ?_
              refine lv_iload_n hx hb dX6_repeatLength_59 rfl (lv_at hl 1 rfl) ?_
              refine lv_iload_n hx hb dX6_repeatLength_60 rfl (lv_at hl 2 rfl) ?_
              refine lv_iadd hx hb dX6_repeatLength_61 ?_
              refine lv_topi (fun y_3 ey_3 => ?_)
              obtain rfl : y_3 = nI (kn + tm) := ey_3.trans (nI_add kn tm)
              refine lv_icmp_ge (tgt := 80) hx hb dX6_repeatLength_62 (by decide) (fun c62 => ?_) (fun c62 => ?_)
              · have c62 : (kn + tm) ≤ (kn + j) := (nI_leI (a := (kn + tm)) (b := (kn + j)) (by omega) (by omega)).mp c62
                have hjt : j = tm := by omega
                rw [hlf1, hjt] at hP hD
                have hP : va_P (dC, dI) vwCl [(h0, .inr (6, [x0, x1, x2, .ref lp])), (lp, .inl (cI, 316, .inl (zrep lf kn (lf (kn - 1)) tm)))] H := hP
                have hD : va_D A [(h0, .inr (6, [x0, x1, x2, .ref lp])), (lp, .inl (cI, 316, .inl (zrep lf kn (lf (kn - 1)) tm)))] := hD
                have hP9 := hP.sub (ws' := [(h0, .inr (6, [x0, x1, x2, .ref lp])), (lp, .inl (cI, 316, .inl (zrep lf kn (lf (kn - 1)) tm)))]) [0, 1] rfl
                have hD9 := hD.sub (ws' := [(h0, .inr (6, [x0, x1, x2, .ref lp])), (lp, .inl (cI, 316, .inl (zrep lf kn (lf (kn - 1)) tm)))]) [0, 1] (by decide) rfl
                exact vx_ret (W.vret hx hb hr (fun t ht hW => ⟨⟨(), rfl, ⟨by omega, c5⟩, ⟨by rw [ht]; exact hP9, va_K.moved hW.alike hK, hD9⟩⟩, hS.F ht⟩) hS.2.2 dX6_repeatLength_80)
              · have c62 : ¬ ((kn + tm) ≤ (kn + j)) := fun h => c62 ((nI_leI (a := (kn + tm)) (b := (kn + j)) (by omega) (by omega)).mpr h)
                refine lv_aload_n hx hb dX6_repeatLength_65 rfl (lv_at hl 0 rfl) ?_
                refine va_get (D := (dC, dI)) (ci := 6) (v := .ref lp) (C := RX6) (T := TX6) (N := 4) hx hb hts (by decide +kernel) hown hK hP 0 rfl rfl 3 (by decide) (hts (.fieldLink RX6 30 "FixedPress$ToldCodes" "lengths" "[I") (by decide +kernel)) (fun _ h9 => h9) rfl dX6_repeatLength_66 ?_
                refine lv_iload hx hb dX6_repeatLength_69 (lv_at hl 4 rfl) ?_
                refine lv_iload hx hb dX6_repeatLength_71 (lv_at hl 3 rfl) ?_
                refine va_iast hx hb hK hP hD hS 1 1 rfl rfl (vp_in_nI (n := kn + j) (by omega) (by omega)) dX6_repeatLength_73 (fun H locs hP hD hS => ?_)
                rw [nI_clamp (n := kn + j) (by omega)] at hP hD
                have hP : va_P (dC, dI) vwCl [(h0, .inr (6, [x0, x1, x2, .ref lp])), (lp, .inl (cI, 316, .inl (upd lf1 (kn + j) (lf (kn - 1)))))] H := hP
                have hD : va_D A [(h0, .inr (6, [x0, x1, x2, .ref lp])), (lp, .inl (cI, 316, .inl (upd lf1 (kn + j) (lf (kn - 1)))))] := hD
                refine lv_iinc (v := nI (kn + j + 1)) (lv' := [(6, .int (nI (kn + j + 1))), (0, .ref h0), (2, .int (nI kn)), (3, .int (nI tm)), (5, .int (lf (kn - 1)))]) hx hb dX6_repeatLength_74 hl (k := 4) rfl (show nI (kn + j) + Int32.ofInt 1 = _ from nI_add (kn + j) 1) (by decide) rfl (fun ls hl => ?_)
                refine lv_goto (tgt := 57) hx hb dX6_repeatLength_77 (by decide) ?_
                exact ih (j + 1) (upd lf1 (kn + j) (lf (kn - 1))) (by omega) (by rw [hlf1]; rfl) (by omega) _ _ hP hD hS _ (lv_sub hl [1, 2, 3, 4, 0] rfl)
          exact cut57 (tm - 0 + 1) 0 lf (by omega) (rfl) (by omega) _ _ hP hD hS _ (lv_sub hl [2, 4, 5, 1, 0] rfl)
      · have c23 : ¬ (tm ≤ (al - kn)) := fun h => c23 ((nI_leI (a := tm) (b := (al - kn)) (by omega) (by omega)).mpr h)
        have hP9 := hP.sub (ws' := [(h0, .inr (6, [x0, x1, x2, .ref lp])), (lp, .inl (cI, 316, .inl lf))]) [0, 1] rfl
        have hD9 := hD.sub (ws' := [(h0, .inr (6, [x0, x1, x2, .ref lp])), (lp, .inl (cI, 316, .inl lf))]) [0, 1] (by decide) rfl
        obtain ⟨sa9, hstr9⟩ := zX_X6_75 hE
        exact vx_throwS (own := RX6) (cls := "java/lang/UnsupportedOperationException") (names := ["java/lang/RuntimeException", "java/lang/Exception"]) hx hb hl9 hown (by decide +kernel) (by decide +kernel) (hts (.classLink RX6 39 "java/lang/UnsupportedOperationException") (by decide +kernel)) (hts (.initialized "java/lang/UnsupportedOperationException") (by decide +kernel)) hstr9 (vx_hat (L := vx_atS RX6 43 "java/lang/UnsupportedOperationException" ["java/lang/RuntimeException", "java/lang/Exception"]) (B := zBad "java/lang/UnsupportedOperationException") (fun w hw => hts w ((by decide +kernel : ∀ w ∈ (vx_atS RX6 43 "java/lang/UnsupportedOperationException" ["java/lang/RuntimeException", "java/lang/Exception"]).filter goodWord, w ∈ wsX6_repeatLength) w hw)) (by decide +kernel) (zBad_UnsupportedOperationException hE)) (by decide +kernel) (zE_U hE) (zE_N hE) hS (hl.1.trans hml.symm) dX6_repeatLength_26 dX6_repeatLength_29 dX6_repeatLength_30 dX6_repeatLength_32 dX6_repeatLength_35 (fun x hx => (hEx x hx).elim) (Nat.le_of_ble_eq_true rfl) (Nat.le_of_ble_eq_true rfl) (Nat.le_of_ble_eq_true rfl) (Nat.le_of_ble_eq_true rfl) hlocks (fun t ha hsz hk => ⟨("java/lang/UnsupportedOperationException", ()), ⟨rfl, Or.inl (by omega)⟩, ⟨rfl, hP9.kept (fun k q hq => hk q.1 (hP9 k q hq).lt), va_K.moved ha hK, hD9⟩, Nat.le_trans hS.1 hsz, fun q h1 h2 => (hk q (Nat.lt_of_lt_of_le h1 hS.1)).trans (hS.2.1 q h1 h2)⟩) hS.2.2 (Nat.le_of_ble_eq_true rfl) (Nat.le_of_ble_eq_true rfl)
    · have c5 : kn = 0 := (nI_eq (a := kn) (b := 0) (by omega) (by omega)).mp c5
      have hP9 := hP.sub (ws' := [(h0, .inr (6, [x0, x1, x2, .ref lp])), (lp, .inl (cI, 316, .inl lf))]) [0, 1] rfl
      have hD9 := hD.sub (ws' := [(h0, .inr (6, [x0, x1, x2, .ref lp])), (lp, .inl (cI, 316, .inl lf))]) [0, 1] (by decide) rfl
      obtain ⟨sa9, hstr9⟩ := zX_X6_73 hE
      exact vx_throwS (own := RX6) (cls := "java/lang/UnsupportedOperationException") (names := ["java/lang/RuntimeException", "java/lang/Exception"]) hx hb hl9 hown (by decide +kernel) (by decide +kernel) (hts (.classLink RX6 39 "java/lang/UnsupportedOperationException") (by decide +kernel)) (hts (.initialized "java/lang/UnsupportedOperationException") (by decide +kernel)) hstr9 (vx_hat (L := vx_atS RX6 43 "java/lang/UnsupportedOperationException" ["java/lang/RuntimeException", "java/lang/Exception"]) (B := zBad "java/lang/UnsupportedOperationException") (fun w hw => hts w ((by decide +kernel : ∀ w ∈ (vx_atS RX6 43 "java/lang/UnsupportedOperationException" ["java/lang/RuntimeException", "java/lang/Exception"]).filter goodWord, w ∈ wsX6_repeatLength) w hw)) (by decide +kernel) (zBad_UnsupportedOperationException hE)) (by decide +kernel) (zE_U hE) (zE_N hE) hS (hl.1.trans hml.symm) dX6_repeatLength_8 dX6_repeatLength_11 dX6_repeatLength_12 dX6_repeatLength_14 dX6_repeatLength_17 (fun x hx => (hEx x hx).elim) (Nat.le_of_ble_eq_true rfl) (Nat.le_of_ble_eq_true rfl) (Nat.le_of_ble_eq_true rfl) (Nat.le_of_ble_eq_true rfl) hlocks (fun t ha hsz hk => ⟨("java/lang/UnsupportedOperationException", ()), ⟨rfl, Or.inr c5⟩, ⟨rfl, hP9.kept (fun k q hq => hk q.1 (hP9 k q hq).lt), va_K.moved ha hK, hD9⟩, Nat.le_trans hS.1 hsz, fun q h1 h2 => (hk q (Nat.lt_of_lt_of_le h1 hS.1)).trans (hS.2.1 q h1 h2)⟩) hS.2.2 (Nat.le_of_ble_eq_true rfl) (Nat.le_of_ble_eq_true rfl)

abbrev rm_X6_repeatLength_0 : Room := { frames := 6, cells := 1, slots := 6, locals := 96 }
abbrev wo_X6_repeatLength_0 (dC : Nat → ClassId) (dI : Nat → Nat → Nat) (cB cI cJ cM : ClassId) (h0 lp : Nat) (x0 x1 x2 : Value) (lf : Nat → Int32) (kn tm al : Nat) : va_W := [(h0, .inr (6, [x0, x1, x2, .ref lp])), (lp, .inl (cI, 316, .inl lf))]
abbrev q_X6_repeatLength_0 (dC : Nat → ClassId) (dI : Nat → Nat → Nat) (cB cI cJ cM : ClassId) (h0 lp : Nat) (x0 x1 x2 : Value) (lf : Nat → Int32) (kn tm al : Nat) (A : Nat → Prop) : Array Value → State → Outcome → State → Prop := va_Qv (fun (u : Unit) => kn + tm ≤ al) (zB dC dI cB cI cJ cM A (fun u : Unit => [(h0, .inr (6, [x0, x1, x2, .ref lp])), (lp, .inl (cI, 316, .inl (zrep lf kn (0) tm)))])) A
abbrev x_X6_repeatLength_0 (dC : Nat → ClassId) (dI : Nat → Nat → Nat) (cB cI cJ cM : ClassId) (h0 lp : Nat) (x0 x1 x2 : Value) (lf : Nat → Int32) (kn tm al : Nat) (A : Nat → Prop) : String → State → State → Prop := vx_X (fun (u : String × (Unit)) => (u.1 = "java/lang/UnsupportedOperationException") ∧ (al < kn + tm)) (fun E (u : String × (Unit)) t => E = u.1 ∧ zB dC dI cB cI cJ cM A (fun u : Unit => [(h0, .inr (6, [x0, x1, x2, .ref lp])), (lp, .inl (cI, 316, .inl lf))]) u.2 t) A
set_option maxHeartbeats 8000000 in
set_option maxRecDepth 100000 in
/-- repeatLength, flag 0 -/
theorem k_X6_repeatLength_0 (l : Launch) (hl9 : l.stackTraces = false) (dC : Nat → ClassId) (dI : Nat → Nat → Nat) (cB cI cJ cM : ClassId) (h0 lp : Nat) (x0 x1 x2 : Value) (lf : Nat → Int32) (kn tm al : Nat) (h1 : kn ≤ al) (h2 : al ≤ 316) (h3 : tm < 1000) (sz : Nat) : vx_Met l yX6_repeatLength wsX6_repeatLength rm_X6_repeatLength_0 (va_Pc [.ref h0, .int 0, .int (nI kn), .int (nI tm), .int (nI al)] (fun U => U.heap.size = sz ∧ va_P (dC, dI) vwCl (wo_X6_repeatLength_0 dC dI cB cI cJ cM h0 lp x0 x1 x2 lf kn tm al) U.heap ∧ va_K (dC, dI) vwCl (zT cB cI cJ cM) U ∧ va_D (fun _ => True) (wo_X6_repeatLength_0 dC dI cB cI cJ cM h0 lp x0 x1 x2 lf kn tm al) ∧ zE (va_A (wo_X6_repeatLength_0 dC dI cB cI cJ cM h0 lp x0 x1 x2 lf kn tm al) sz) U)) (q_X6_repeatLength_0 dC dI cB cI cJ cM h0 lp x0 x1 x2 lf kn tm al (va_A (wo_X6_repeatLength_0 dC dI cB cI cJ cM h0 lp x0 x1 x2 lf kn tm al) sz)) (x_X6_repeatLength_0 dC dI cB cI cJ cM h0 lp x0 x1 x2 lf kn tm al (va_A (wo_X6_repeatLength_0 dC dI cB cI cJ cM h0 lp x0 x1 x2 lf kn tm al) sz)) 0 0 1 6 (va_A (wo_X6_repeatLength_0 dC dI cB cI cJ cM h0 lp x0 x1 x2 lf kn tm al) sz) := by
  refine vx_ofW (cc := cX6_repeatLength) (maxL := 7) (ret := none) (by decide) rfl ?_
  intro p e s m args below meth c s₁ B hml hEx hv
  obtain ⟨rfl, hsz, hP, hK, hD0, hE⟩ := hv
  have hx := B.exec
  have hb := B.bytes
  have hr := B.returns
  have hts := atoms_spec (ws := wsX6_repeatLength) B.pre
  have hown : s.vm.findClass RX6 = some m.cls := findClass_of_methodNamed B.named
  have hlocks := B.notSynchronized
  subst hsz
  have hD := hD0.self (sz := s.heap.size)
  generalize hAe : va_A (wo_X6_repeatLength_0 dC dI cB cI cJ cM h0 lp x0 x1 x2 lf kn tm al) s.heap.size = A at hD hE ⊢
  have hA : ∀ q : Nat, s.heap.size ≤ q → A q := fun q h => by rw [← hAe]; exact Or.inr h
  have hS : va_S A s.heap s.heap [] := va_S.rf
  have hP : va_P (dC, dI) vwCl [(h0, .inr (6, [x0, x1, x2, .ref lp])), (lp, .inl (cI, 316, .inl lf))] s.heap := hP
  have hD : va_D A [(h0, .inr (6, [x0, x1, x2, .ref lp])), (lp, .inl (cI, 316, .inl lf))] := hD
  have hl := lv_entry ([.ref h0, .int 0, .int (nI kn), .int (nI tm), .int (nI al)]) (n := 7) (Nat.le_of_ble_eq_true rfl)
  rw [lg_entry_eq]
  generalize (lg_sl ([.ref h0, .int 0, .int (nI kn), .int (nI tm), .int (nI al)]) ++ List.replicate (7 - (lg_sl ([.ref h0, .int 0, .int (nI kn), .int (nI tm), .int (nI al)])).length) Slot.unset).toArray = ls at hl ⊢
  have hl : lv_has ls 7 [(0, .ref h0), (1, .int 0), (2, .int (nI kn)), (3, .int (nI tm)), (4, .int (nI al))] := hl
  refine lv_iload_n hx hb dX6_repeatLength_0 rfl (lv_at hl 1 rfl) ?_
  refine lv_if_eq (tgt := 18) hx hb dX6_repeatLength_1 (by decide) (fun c1 => ?_) (fun c1 => ?_)
  · have c1 : 0 = 0 := (nI_eq (a := 0) (b := 0) (by omega) (by omega)).mp c1
    refine lv_iload_n hx hb dX6_repeatLength_18 rfl (lv_at hl 3 rfl) ?_
    refine lv_iload hx hb dX6_repeatLength_19 (lv_at hl 4 rfl) ?_
    refine lv_iload_n hx hb dX6_repeatLength_21 rfl (lv_at hl 2 rfl) ?_
    refine lv_isub hx hb dX6_repeatLength_22 ?_
    refine lv_topi (fun y_1 ey_1 => ?_)
    obtain rfl : y_1 = nI (al - kn) := ey_1.trans (pk_sub (a := al) (b := kn) (by omega))
    refine lv_icmp_le (tgt := 36) hx hb dX6_repeatLength_23 (by decide) (fun c23 => ?_) (fun c23 => ?_)
    · have c23 : tm ≤ (al - kn) := (nI_leI (a := tm) (b := (al - kn)) (by omega) (by omega)).mp c23
      refine lv_iload_n hx hb dX6_repeatLength_36 rfl (lv_at hl 1 rfl) ?_
      refine lv_if_eq (tgt := 51) hx hb dX6_repeatLength_37 (by decide) (fun c37 => ?_) (fun c37 => ?_)
      · have c37 : 0 = 0 := (nI_eq (a := 0) (b := 0) (by omega) (by omega)).mp c37
        refine lv_iconst (v := 0) hx hb dX6_repeatLength_51 (by decide) ?_
        refine lv_istore (lv' := [(5, .int 0), (0, .ref h0), (1, .int 0), (2, .int (nI kn)), (3, .int (nI tm)), (4, .int (nI al))]) hx hb dX6_repeatLength_52 hl (by decide) rfl (fun ls hl => ?_)
        refine lv_iload_n hx hb dX6_repeatLength_54 rfl (lv_at hl 3 rfl) ?_
        refine lv_istore (lv' := [(6, .int (nI kn)), (5, .int 0), (0, .ref h0), (1, .int 0), (2, .int (nI kn)), (3, .int (nI tm)), (4, .int (nI al))]) hx hb dX6_repeatLength_55 hl (by decide) rfl (fun ls hl => ?_)
        have cut57 : ∀ (fuel : Nat) (j : Nat) (lf1 : Nat → Int32), (j ≤ tm) → (lf1 = zrep lf kn (0) j) → (tm - j < fuel) → ∀ (H : Heap) (locs : List Loc), va_P (dC, dI) vwCl [(h0, .inr (6, [x0, x1, x2, .ref lp])), (lp, .inl (cI, 316, .inl lf1))] H → va_D A [(h0, .inr (6, [x0, x1, x2, .ref lp])), (lp, .inl (cI, 316, .inl lf1))] → va_S A s.heap H locs → ∀ (ls : Array Slot), lv_has ls 7 [(0, .ref h0), (2, .int (nI kn)), (3, .int (nI tm)), (5, .int 0), (6, .int (nI (kn + j)))] → W p l e (headSpec wsX6_repeatLength rm_X6_repeatLength_0).room s m ([.ref h0, .int 0, .int (nI kn), .int (nI tm), .int (nI al)] : List Value).toArray below meth c H locs 0 0 (vx_MQ below (q_X6_repeatLength_0 dC dI cB cI cJ cM h0 lp x0 x1 x2 lf kn tm al A) (x_X6_repeatLength_0 dC dI cB cI cJ cM h0 lp x0 x1 x2 lf kn tm al A) ([.ref h0, .int 0, .int (nI kn), .int (nI tm), .int (nI al)] : List Value).toArray s 0 0 1 6 A) (F0 m 57 ls []) := by
          intro fuel
          induction fuel with
          | zero => intros; omega
          | succ fuel ih =>
            intro j lf1 hj hlf1 hfuel H locs hP hD hS ls hl
            refine lv_iload hx hb dX6_repeatLength_57 (lv_at hl 4 rfl) ?_
            refine lv_iload_n hx hb dX6_repeatLength_59 rfl (lv_at hl 1 rfl) ?_
            refine lv_iload_n hx hb dX6_repeatLength_60 rfl (lv_at hl 2 rfl) ?_
            refine lv_iadd hx hb dX6_repeatLength_61 ?_
            refine lv_topi (fun y_2 ey_2 => ?_)
            obtain rfl : y_2 = nI (kn + tm) := ey_2.trans (nI_add kn tm)
            refine lv_icmp_ge (tgt := 80) hx hb dX6_repeatLength_62 (by decide) (fun c62 => ?_) (fun c62 => ?_)
            · have c62 : (kn + tm) ≤ (kn + j) := (nI_leI (a := (kn + tm)) (b := (kn + j)) (by omega) (by omega)).mp c62
              have hjt : j = tm := by omega
              rw [hlf1, hjt] at hP hD
              have hP : va_P (dC, dI) vwCl [(h0, .inr (6, [x0, x1, x2, .ref lp])), (lp, .inl (cI, 316, .inl (zrep lf kn (0) tm)))] H := hP
              have hD : va_D A [(h0, .inr (6, [x0, x1, x2, .ref lp])), (lp, .inl (cI, 316, .inl (zrep lf kn (0) tm)))] := hD
              have hP9 := hP.sub (ws' := [(h0, .inr (6, [x0, x1, x2, .ref lp])), (lp, .inl (cI, 316, .inl (zrep lf kn (0) tm)))]) [0, 1] rfl
              have hD9 := hD.sub (ws' := [(h0, .inr (6, [x0, x1, x2, .ref lp])), (lp, .inl (cI, 316, .inl (zrep lf kn (0) tm)))]) [0, 1] (by decide) rfl
              exact vx_ret (W.vret hx hb hr (fun t ht hW => ⟨⟨(), rfl, by omega, ⟨by rw [ht]; exact hP9, va_K.moved hW.alike hK, hD9⟩⟩, hS.F ht⟩) hS.2.2 dX6_repeatLength_80)
            · have c62 : ¬ ((kn + tm) ≤ (kn + j)) := fun h => c62 ((nI_leI (a := (kn + tm)) (b := (kn + j)) (by omega) (by omega)).mpr h)
              refine lv_aload_n hx hb dX6_repeatLength_65 rfl (lv_at hl 0 rfl) ?_
              refine va_get (D := (dC, dI)) (ci := 6) (v := .ref lp) (C := RX6) (T := TX6) (N := 4) hx hb hts (by decide +kernel) hown hK hP 0 rfl rfl 3 (by decide) (hts (.fieldLink RX6 30 "FixedPress$ToldCodes" "lengths" "[I") (by decide +kernel)) (fun _ h9 => h9) rfl dX6_repeatLength_66 ?_
              refine lv_iload hx hb dX6_repeatLength_69 (lv_at hl 4 rfl) ?_
              refine lv_iload hx hb dX6_repeatLength_71 (lv_at hl 3 rfl) ?_
              refine va_iast hx hb hK hP hD hS 1 1 rfl rfl (vp_in_nI (n := kn + j) (by omega) (by omega)) dX6_repeatLength_73 (fun H locs hP hD hS => ?_)
              rw [nI_clamp (n := kn + j) (by omega)] at hP hD
              have hP : va_P (dC, dI) vwCl [(h0, .inr (6, [x0, x1, x2, .ref lp])), (lp, .inl (cI, 316, .inl (upd lf1 (kn + j) 0)))] H := hP
              have hD : va_D A [(h0, .inr (6, [x0, x1, x2, .ref lp])), (lp, .inl (cI, 316, .inl (upd lf1 (kn + j) 0)))] := hD
              refine lv_iinc (v := nI (kn + j + 1)) (lv' := [(6, .int (nI (kn + j + 1))), (0, .ref h0), (2, .int (nI kn)), (3, .int (nI tm)), (5, .int 0)]) hx hb dX6_repeatLength_74 hl (k := 4) rfl (show nI (kn + j) + Int32.ofInt 1 = _ from nI_add (kn + j) 1) (by decide) rfl (fun ls hl => ?_)
              refine lv_goto (tgt := 57) hx hb dX6_repeatLength_77 (by decide) ?_
              exact ih (j + 1) (upd lf1 (kn + j) 0) (by omega) (by rw [hlf1]; rfl) (by omega) _ _ hP hD hS _ (lv_sub hl [1, 2, 3, 4, 0] rfl)
        exact cut57 (tm - 0 + 1) 0 lf (by omega) (rfl) (by omega) _ _ hP hD hS _ (lv_sub hl [2, 4, 5, 1, 0] rfl)
      · have c37 : ¬ (0 = 0) := fun h => c37 ((nI_eq (a := 0) (b := 0) (by omega) (by omega)).mpr h)
        exfalso; omega
    · have c23 : ¬ (tm ≤ (al - kn)) := fun h => c23 ((nI_leI (a := tm) (b := (al - kn)) (by omega) (by omega)).mpr h)
      have hP9 := hP.sub (ws' := [(h0, .inr (6, [x0, x1, x2, .ref lp])), (lp, .inl (cI, 316, .inl lf))]) [0, 1] rfl
      have hD9 := hD.sub (ws' := [(h0, .inr (6, [x0, x1, x2, .ref lp])), (lp, .inl (cI, 316, .inl lf))]) [0, 1] (by decide) rfl
      obtain ⟨sa9, hstr9⟩ := zX_X6_75 hE
      exact vx_throwS (own := RX6) (cls := "java/lang/UnsupportedOperationException") (names := ["java/lang/RuntimeException", "java/lang/Exception"]) hx hb hl9 hown (by decide +kernel) (by decide +kernel) (hts (.classLink RX6 39 "java/lang/UnsupportedOperationException") (by decide +kernel)) (hts (.initialized "java/lang/UnsupportedOperationException") (by decide +kernel)) hstr9 (vx_hat (L := vx_atS RX6 43 "java/lang/UnsupportedOperationException" ["java/lang/RuntimeException", "java/lang/Exception"]) (B := zBad "java/lang/UnsupportedOperationException") (fun w hw => hts w ((by decide +kernel : ∀ w ∈ (vx_atS RX6 43 "java/lang/UnsupportedOperationException" ["java/lang/RuntimeException", "java/lang/Exception"]).filter goodWord, w ∈ wsX6_repeatLength) w hw)) (by decide +kernel) (zBad_UnsupportedOperationException hE)) (by decide +kernel) (zE_U hE) (zE_N hE) hS (hl.1.trans hml.symm) dX6_repeatLength_26 dX6_repeatLength_29 dX6_repeatLength_30 dX6_repeatLength_32 dX6_repeatLength_35 (fun x hx => (hEx x hx).elim) (Nat.le_of_ble_eq_true rfl) (Nat.le_of_ble_eq_true rfl) (Nat.le_of_ble_eq_true rfl) (Nat.le_of_ble_eq_true rfl) hlocks (fun t ha hsz hk => ⟨("java/lang/UnsupportedOperationException", ()), ⟨rfl, by omega⟩, ⟨rfl, hP9.kept (fun k q hq => hk q.1 (hP9 k q hq).lt), va_K.moved ha hK, hD9⟩, Nat.le_trans hS.1 hsz, fun q h1 h2 => (hk q (Nat.lt_of_lt_of_le h1 hS.1)).trans (hS.2.1 q h1 h2)⟩) hS.2.2 (Nat.le_of_ble_eq_true rfl) (Nat.le_of_ble_eq_true rfl)
  · have c1 : ¬ (0 = 0) := fun h => c1 ((nI_eq (a := 0) (b := 0) (by omega) (by omega)).mpr h)
    exfalso; omega
