abbrev rm_X7_back : Room := { frames := 6, cells := 1, slots := 6, locals := 96 }
abbrev wo_X7_back (dC : Nat → ClassId) (dI : Nat → Nat → Nat) (cB cI cJ cM : ClassId) (h0 tp rp : Nat) (v4 v5 v6 : Value) (f g : Nat → Int32) (tn : Int32) (rn : Nat) : va_W := [(h0, .inr (7, [.ref tp, .int tn, .ref rp, .int (nI rn), v4, v5, v6])), (tp, .inl (cB, 4000, .inl f)), (rp, .inl (cB, 8192, .inl g))]
abbrev q_X7_back (dC : Nat → ClassId) (dI : Nat → Nat → Nat) (cB cI cJ cM : ClassId) (h0 tp rp : Nat) (v4 v5 v6 : Value) (f g : Nat → Int32) (tn : Int32) (rn : Nat) (A : Nat → Prop) : Array Value → State → Outcome → State → Prop := va_Qi (fun (r : Int32) (u : Nat → Int32) => rn ≤ 4000 ∧ r = nI rn ∧ ∀ j, u j = if j < rn then g j else f j) (zB dC dI cB cI cJ cM A (fun u : Nat → Int32 => [(h0, .inr (7, [.ref tp, .int (nI rn), .ref rp, .int (nI rn), v4, v5, v6])), (tp, .inl (cB, 4000, .inl u)), (rp, .inl (cB, 8192, .inl g))])) A
abbrev x_X7_back (dC : Nat → ClassId) (dI : Nat → Nat → Nat) (cB cI cJ cM : ClassId) (h0 tp rp : Nat) (v4 v5 v6 : Value) (f g : Nat → Int32) (tn : Int32) (rn : Nat) (A : Nat → Prop) : String → State → State → Prop := vx_X (fun (u : String × (Unit)) => (u.1 = "java/lang/IndexOutOfBoundsException") ∧ (4000 < rn)) (fun E (u : String × (Unit)) t => E = u.1 ∧ zB dC dI cB cI cJ cM A (fun u : Unit => [(h0, .inr (7, [.ref tp, .int tn, .ref rp, .int (nI rn), v4, v5, v6])), (tp, .inl (cB, 4000, .inl f)), (rp, .inl (cB, 8192, .inl g))]) u.2 t) A
set_option maxHeartbeats 8000000 in
set_option maxRecDepth 100000 in
/-- back -/
theorem k_X7_back (l : Launch) (hl9 : l.stackTraces = false) (dC : Nat → ClassId) (dI : Nat → Nat → Nat) (cB cI cJ cM : ClassId) (h0 tp rp : Nat) (v4 v5 v6 : Value) (f g : Nat → Int32) (tn : Int32) (rn : Nat) (h1 : rn ≤ 8192) (hby : zBy g rn) (sz : Nat) : vx_Met l yX7_back wsX7_back rm_X7_back (va_Pc [.ref h0] (fun U => U.heap.size = sz ∧ va_P (dC, dI) vwCl (wo_X7_back dC dI cB cI cJ cM h0 tp rp v4 v5 v6 f g tn rn) U.heap ∧ va_K (dC, dI) vwCl (zT cB cI cJ cM) U ∧ va_D (fun _ => True) (wo_X7_back dC dI cB cI cJ cM h0 tp rp v4 v5 v6 f g tn rn) ∧ zE (va_A (wo_X7_back dC dI cB cI cJ cM h0 tp rp v4 v5 v6 f g tn rn) sz) U)) (q_X7_back dC dI cB cI cJ cM h0 tp rp v4 v5 v6 f g tn rn (va_A (wo_X7_back dC dI cB cI cJ cM h0 tp rp v4 v5 v6 f g tn rn) sz)) (x_X7_back dC dI cB cI cJ cM h0 tp rp v4 v5 v6 f g tn rn (va_A (wo_X7_back dC dI cB cI cJ cM h0 tp rp v4 v5 v6 f g tn rn) sz)) 0 0 1 6 (va_A (wo_X7_back dC dI cB cI cJ cM h0 tp rp v4 v5 v6 f g tn rn) sz) := by
  refine vx_ofW (cc := cX7_back) (maxL := 1) (ret := (some .int)) (by decide) rfl ?_
  intro p e s m args below meth c s₁ B hml hEx hv
  obtain ⟨rfl, hsz, hP, hK, hD0, hE⟩ := hv
  have hx := B.exec
  have hb := B.bytes
  have hr := B.returns
  have hts := atoms_spec (ws := wsX7_back) B.pre
  have hown : s.vm.findClass RX7 = some m.cls := findClass_of_methodNamed B.named
  have hlocks := B.notSynchronized
  subst hsz
  have hD := hD0.self (sz := s.heap.size)
  generalize hAe : va_A (wo_X7_back dC dI cB cI cJ cM h0 tp rp v4 v5 v6 f g tn rn) s.heap.size = A at hD hE ⊢
  have hA : ∀ q : Nat, s.heap.size ≤ q → A q := fun q h => by rw [← hAe]; exact Or.inr h
  have hS : va_S A s.heap s.heap [] := va_S.rf
  have hP : va_P (dC, dI) vwCl [(h0, .inr (7, [.ref tp, .int tn, .ref rp, .int (nI rn), v4, v5, v6])), (tp, .inl (cB, 4000, .inl f)), (rp, .inl (cB, 8192, .inl g))] s.heap := hP
  have hD : va_D A [(h0, .inr (7, [.ref tp, .int tn, .ref rp, .int (nI rn), v4, v5, v6])), (tp, .inl (cB, 4000, .inl f)), (rp, .inl (cB, 8192, .inl g))] := hD
  have hl := lv_entry ([.ref h0]) (n := 1) (Nat.le_of_ble_eq_true rfl)
  rw [lg_entry_eq]
  generalize (lg_sl ([.ref h0]) ++ List.replicate (1 - (lg_sl ([.ref h0])).length) Slot.unset).toArray = ls at hl ⊢
  have hl : lv_has ls 1 [(0, .ref h0)] := hl
  refine lv_aload_n hx hb dX7_back_0 rfl (lv_at hl 0 rfl) ?_
  refine va_get (D := (dC, dI)) (ci := 7) (v := .int (nI rn)) (C := RX7) (T := TX7) (N := 7) hx hb hts (by decide +kernel) hown hK hP 0 rfl rfl 3 (by decide) (hts (.fieldLink RX7 56 "FixedPress" "resultLength" "I") (by decide +kernel)) (fun _ h9 => h9) rfl dX7_back_1 ?_
  refine lv_sipush (v := 4000) hx hb dX7_back_4 (by decide) ?_
  refine lv_icmp_le (tgt := 20) hx hb dX7_back_7 (by decide) (fun c7 => ?_) (fun c7 => ?_)
  · have c7 : rn ≤ 4000 := (nI_leI (a := rn) (b := 4000) (by omega) (by omega)).mp c7
    refine lv_aload_n hx hb dX7_back_20 rfl (lv_at hl 0 rfl) ?_
    refine va_get (D := (dC, dI)) (ci := 7) (v := .ref rp) (C := RX7) (T := TX7) (N := 7) hx hb hts (by decide +kernel) hown hK hP 0 rfl rfl 2 (by decide) (hts (.fieldLink RX7 13 "FixedPress" "result" "[B") (by decide +kernel)) (fun _ h9 => h9) rfl dX7_back_21 ?_
    refine lv_iconst (v := 0) hx hb dX7_back_24 (by decide) ?_
    refine lv_aload_n hx hb dX7_back_25 rfl (lv_at hl 0 rfl) ?_
    refine va_get (D := (dC, dI)) (ci := 7) (v := .ref tp) (C := RX7) (T := TX7) (N := 7) hx hb hts (by decide +kernel) hown hK hP 0 rfl rfl 0 (by decide) (hts (.fieldLink RX7 9 "FixedPress" "tape" "[B") (by decide +kernel)) (fun _ h9 => h9) rfl dX7_back_26 ?_
    refine lv_iconst (v := 0) hx hb dX7_back_29 (by decide) ?_
    refine lv_aload_n hx hb dX7_back_30 rfl (lv_at hl 0 rfl) ?_
    refine va_get (D := (dC, dI)) (ci := 7) (v := .int (nI rn)) (C := RX7) (T := TX7) (N := 7) hx hb hts (by decide +kernel) hown hK hP 0 rfl rfl 3 (by decide) (hts (.fieldLink RX7 56 "FixedPress" "resultLength" "I") (by decide +kernel)) (fun _ h9 => h9) rfl dX7_back_31 ?_
    refine va_copyi (ty := .byte) hx hb (hml.trans hl.1.symm) hown (hts (.methodLink RX7 70 arraycopyName) (by decide +kernel)) (hts (.native arraycopyName) (by decide +kernel)) (hts (.static arraycopyName) (by decide +kernel)) (hts (.initialized "java/lang/System") (by decide +kernel)) hK hP hD hS 2 1 0 0 rfl rfl rfl rfl rfl (by decide) (by decide) (nI_pos (by omega)) (by rw [nI_clamp (by omega)]; show 0 + _ ≤ _; omega) (by rw [nI_clamp (by omega)]; show 0 + _ ≤ _; omega) (by rw [nI_clamp (by omega)]; exact fun i hi => by show fits .byte (.int (g (0 + i))) = true; rw [Nat.zero_add]; exact zBy_fit hby hi) (Nat.le_of_ble_eq_true rfl) (by decide +kernel) dX7_back_34 (fun H locs hP hD hS => ?_)
    rw [nI_clamp (n := rn) (by omega)] at hP hD
    have hP : va_P (dC, dI) vwCl [(h0, .inr (7, [.ref tp, .int tn, .ref rp, .int (nI rn), v4, v5, v6])), (tp, .inl (cB, 4000, .inl (va_cpy g f 0 0 rn))), (rp, .inl (cB, 8192, .inl g))] H := hP
    have hD : va_D A [(h0, .inr (7, [.ref tp, .int tn, .ref rp, .int (nI rn), v4, v5, v6])), (tp, .inl (cB, 4000, .inl (va_cpy g f 0 0 rn))), (rp, .inl (cB, 8192, .inl g))] := hD
    refine lv_aload_n hx hb dX7_back_37 rfl (lv_at hl 0 rfl) ?_
    refine lv_aload_n hx hb dX7_back_38 rfl (lv_at hl 0 rfl) ?_
    refine va_get (D := (dC, dI)) (ci := 7) (v := .int (nI rn)) (C := RX7) (T := TX7) (N := 7) hx hb hts (by decide +kernel) hown hK hP 0 rfl rfl 3 (by decide) (hts (.fieldLink RX7 56 "FixedPress" "resultLength" "I") (by decide +kernel)) (fun _ h9 => h9) rfl dX7_back_39 ?_
    refine va_put (D := (dC, dI)) (ci := 7) (v := .int (nI rn)) (ty := .int) (C := RX7) (T := TX7) (N := 7) hx hb hts (by decide +kernel) tyX7 tyX7_ok nmX7 hown hK hP hD hS 0 rfl rfl 1 (by decide) (hts (.fieldLink RX7 40 "FixedPress" "tapeLength" "I") (by decide +kernel)) (fun _ h9 => h9) rfl (by decide +kernel) rfl rfl (Nat.le_of_ble_eq_true rfl) dX7_back_42 (fun H locs hP hD hS => ?_)
    have hP : va_P (dC, dI) vwCl [(h0, .inr (7, [.ref tp, .int (nI rn), .ref rp, .int (nI rn), v4, v5, v6])), (tp, .inl (cB, 4000, .inl (va_cpy g f 0 0 rn))), (rp, .inl (cB, 8192, .inl g))] H := hP
    have hD : va_D A [(h0, .inr (7, [.ref tp, .int (nI rn), .ref rp, .int (nI rn), v4, v5, v6])), (tp, .inl (cB, 4000, .inl (va_cpy g f 0 0 rn))), (rp, .inl (cB, 8192, .inl g))] := hD
    refine lv_aload_n hx hb dX7_back_45 rfl (lv_at hl 0 rfl) ?_
    refine va_get (D := (dC, dI)) (ci := 7) (v := .int (nI rn)) (C := RX7) (T := TX7) (N := 7) hx hb hts (by decide +kernel) hown hK hP 0 rfl rfl 1 (by decide) (hts (.fieldLink RX7 40 "FixedPress" "tapeLength" "I") (by decide +kernel)) (fun _ h9 => h9) rfl dX7_back_46 ?_
    have hP9 := hP.sub (ws' := [(h0, .inr (7, [.ref tp, .int (nI rn), .ref rp, .int (nI rn), v4, v5, v6])), (tp, .inl (cB, 4000, .inl (va_cpy g f 0 0 rn))), (rp, .inl (cB, 8192, .inl g))]) [0, 1, 2] rfl
    have hD9 := hD.sub (ws' := [(h0, .inr (7, [.ref tp, .int (nI rn), .ref rp, .int (nI rn), v4, v5, v6])), (tp, .inl (cB, 4000, .inl (va_cpy g f 0 0 rn))), (rp, .inl (cB, 8192, .inl g))]) [0, 1, 2] (by decide) rfl
    exact vx_ret (W.iret (v := (nI rn)) hx hb hr (fun t ht hW => ⟨⟨(nI rn), va_cpy g f 0 0 rn, rfl, ⟨c7, rfl, fun j => z_cpy2 j⟩, ⟨by rw [ht]; exact hP9, va_K.moved hW.alike hK, hD9⟩⟩, hS.F ht⟩) hS.2.2 dX7_back_49)
  · have c7 : ¬ (rn ≤ 4000) := fun h => c7 ((nI_leI (a := rn) (b := 4000) (by omega) (by omega)).mpr h)
    have hP9 := hP.sub (ws' := [(h0, .inr (7, [.ref tp, .int tn, .ref rp, .int (nI rn), v4, v5, v6])), (tp, .inl (cB, 4000, .inl f)), (rp, .inl (cB, 8192, .inl g))]) [0, 1, 2] rfl
    have hD9 := hD.sub (ws' := [(h0, .inr (7, [.ref tp, .int tn, .ref rp, .int (nI rn), v4, v5, v6])), (tp, .inl (cB, 4000, .inl f)), (rp, .inl (cB, 8192, .inl g))]) [0, 1, 2] (by decide) rfl
    obtain ⟨sa9, hstr9⟩ := zX_X7_65 hE
    exact vx_throwS (own := RX7) (cls := "java/lang/IndexOutOfBoundsException") (names := ["java/lang/RuntimeException", "java/lang/Exception"]) hx hb hl9 hown (by decide +kernel) (by decide +kernel) (hts (.classLink RX7 63 "java/lang/IndexOutOfBoundsException") (by decide +kernel)) (hts (.initialized "java/lang/IndexOutOfBoundsException") (by decide +kernel)) hstr9 (vx_hat (L := vx_atS RX7 67 "java/lang/IndexOutOfBoundsException" ["java/lang/RuntimeException", "java/lang/Exception"]) (B := zBad "java/lang/IndexOutOfBoundsException") (fun w hw => hts w ((by decide +kernel : ∀ w ∈ (vx_atS RX7 67 "java/lang/IndexOutOfBoundsException" ["java/lang/RuntimeException", "java/lang/Exception"]).filter goodWord, w ∈ wsX7_back) w hw)) (by decide +kernel) (zBad_IndexOutOfBoundsException hE)) (by decide +kernel) (zE_U hE) (zE_N hE) hS (hl.1.trans hml.symm) dX7_back_10 dX7_back_13 dX7_back_14 dX7_back_16 dX7_back_19 (fun x hx => (hEx x hx).elim) (Nat.le_of_ble_eq_true rfl) (Nat.le_of_ble_eq_true rfl) (Nat.le_of_ble_eq_true rfl) (Nat.le_of_ble_eq_true rfl) hlocks (fun t ha hsz hk => ⟨("java/lang/IndexOutOfBoundsException", ()), ⟨rfl, by omega⟩, ⟨rfl, hP9.kept (fun k q hq => hk q.1 (hP9 k q hq).lt), va_K.moved ha hK, hD9⟩, Nat.le_trans hS.1 hsz, fun q h1 h2 => (hk q (Nat.lt_of_lt_of_le h1 hS.1)).trans (hS.2.1 q h1 h2)⟩) hS.2.2 (Nat.le_of_ble_eq_true rfl) (Nat.le_of_ble_eq_true rfl)
