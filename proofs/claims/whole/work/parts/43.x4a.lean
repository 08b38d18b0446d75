abbrev rm_X4_put : Room := { frames := 6, cells := 1, slots := 6, locals := 96 }
abbrev wo_X4_put (dC : Nat → ClassId) (dI : Nat → Nat → Nat) (cB cI cJ cM : ClassId) (h0 op : Nat) (w0 w1 w2 w3 : Value) (o : Nat → Int32) (m_ mo : Nat) (x : Int32) : va_W := [(h0, .inr (4, [w0, w1, w2, w3, .ref op, .int (nI m_), .int (nI mo)])), (op, .inl (cB, 8192, .inl o))]
abbrev q_X4_put (dC : Nat → ClassId) (dI : Nat → Nat → Nat) (cB cI cJ cM : ClassId) (h0 op : Nat) (w0 w1 w2 w3 : Value) (o : Nat → Int32) (m_ mo : Nat) (x : Int32) (A : Nat → Prop) : Array Value → State → Outcome → State → Prop := va_Qv (fun (u : Unit) => m_ < mo) (zB dC dI cB cI cJ cM A (fun u : Unit => [(h0, .inr (4, [w0, w1, w2, w3, .ref op, .int (nI (m_ + 1)), .int (nI mo)])), (op, .inl (cB, 8192, .inl (upd o m_ x.toInt8.toInt32)))])) A
abbrev x_X4_put (dC : Nat → ClassId) (dI : Nat → Nat → Nat) (cB cI cJ cM : ClassId) (h0 op : Nat) (w0 w1 w2 w3 : Value) (o : Nat → Int32) (m_ mo : Nat) (x : Int32) (A : Nat → Prop) : String → State → State → Prop := vx_X (fun (u : String × (Unit)) => (u.1 = "java/lang/UnsupportedOperationException") ∧ (mo ≤ m_)) (fun E (u : String × (Unit)) t => E = u.1 ∧ zB dC dI cB cI cJ cM A (fun u : Unit => [(h0, .inr (4, [w0, w1, w2, w3, .ref op, .int (nI m_), .int (nI mo)])), (op, .inl (cB, 8192, .inl o))]) u.2 t) A
set_option maxHeartbeats 8000000 in
set_option maxRecDepth 100000 in
/-- put -/
theorem k_X4_put (l : Launch) (hl9 : l.stackTraces = false) (dC : Nat → ClassId) (dI : Nat → Nat → Nat) (cB cI cJ cM : ClassId) (h0 op : Nat) (w0 w1 w2 w3 : Value) (o : Nat → Int32) (m_ mo : Nat) (x : Int32) (h1 : m_ ≤ 8192) (h2 : mo ≤ 8192) (sz : Nat) : vx_Met l yX4_put wsX4_put rm_X4_put (va_Pc [.ref h0, .int x] (fun U => U.heap.size = sz ∧ va_P (dC, dI) vwCl (wo_X4_put dC dI cB cI cJ cM h0 op w0 w1 w2 w3 o m_ mo x) U.heap ∧ va_K (dC, dI) vwCl (zT cB cI cJ cM) U ∧ va_D (fun _ => True) (wo_X4_put dC dI cB cI cJ cM h0 op w0 w1 w2 w3 o m_ mo x) ∧ zE (va_A (wo_X4_put dC dI cB cI cJ cM h0 op w0 w1 w2 w3 o m_ mo x) sz) U)) (q_X4_put dC dI cB cI cJ cM h0 op w0 w1 w2 w3 o m_ mo x (va_A (wo_X4_put dC dI cB cI cJ cM h0 op w0 w1 w2 w3 o m_ mo x) sz)) (x_X4_put dC dI cB cI cJ cM h0 op w0 w1 w2 w3 o m_ mo x (va_A (wo_X4_put dC dI cB cI cJ cM h0 op w0 w1 w2 w3 o m_ mo x) sz)) 0 0 1 6 (va_A (wo_X4_put dC dI cB cI cJ cM h0 op w0 w1 w2 w3 o m_ mo x) sz) := by
  refine vx_ofW (cc := cX4_put) (maxL := 2) (ret := none) (by decide) rfl ?_
  intro p e s m args below meth c s₁ B hml hEx hv
  obtain ⟨rfl, hsz, hP, hK, hD0, hE⟩ := hv
  have hx := B.exec
  have hb := B.bytes
  have hr := B.returns
  have hts := atoms_spec (ws := wsX4_put) B.pre
  have hown : s.vm.findClass RX4 = some m.cls := findClass_of_methodNamed B.named
  have hlocks := B.notSynchronized
  subst hsz
  have hD := hD0.self (sz := s.heap.size)
  generalize hAe : va_A (wo_X4_put dC dI cB cI cJ cM h0 op w0 w1 w2 w3 o m_ mo x) s.heap.size = A at hD hE ⊢
  have hA : ∀ q : Nat, s.heap.size ≤ q → A q := fun q h => by rw [← hAe]; exact Or.inr h
  have hS : va_S A s.heap s.heap [] := va_S.rf
  have hP : va_P (dC, dI) vwCl [(h0, .inr (4, [w0, w1, w2, w3, .ref op, .int (nI m_), .int (nI mo)])), (op, .inl (cB, 8192, .inl o))] s.heap := hP
  have hD : va_D A [(h0, .inr (4, [w0, w1, w2, w3, .ref op, .int (nI m_), .int (nI mo)])), (op, .inl (cB, 8192, .inl o))] := hD
  have hl := lv_entry ([.ref h0, .int x]) (n := 2) (Nat.le_of_ble_eq_true rfl)
  rw [lg_entry_eq]
  generalize (lg_sl ([.ref h0, .int x]) ++ List.replicate (2 - (lg_sl ([.ref h0, .int x])).length) Slot.unset).toArray = ls at hl ⊢
  have hl : lv_has ls 2 [(0, .ref h0), (1, .int x)] := hl
  refine lv_aload_n hx hb dX4_put_0 rfl (lv_at hl 0 rfl) ?_
  refine va_get (D := (dC, dI)) (ci := 4) (v := .int (nI m_)) (C := RX4) (T := TX4) (N := 7) hx hb hts (by decide +kernel) hown hK hP 0 rfl rfl 5 (by decide) (hts (.fieldLink RX4 49 "FixedPress$Opener" "outLength" "I") (by decide +kernel)) (fun _ h9 => h9) rfl dX4_put_1 ?_
  refine lv_aload_n hx hb dX4_put_4 rfl (lv_at hl 0 rfl) ?_
  refine va_get (D := (dC, dI)) (ci := 4) (v := .int (nI mo)) (C := RX4) (T := TX4) (N := 7) hx hb hts (by decide +kernel) hown hK hP 0 rfl rfl 6 (by decide) (hts (.fieldLink RX4 53 "FixedPress$Opener" "outMost" "I") (by decide +kernel)) (fun _ h9 => h9) rfl dX4_put_5 ?_
  refine lv_icmp_lt (tgt := 21) hx hb dX4_put_8 (by decide) (fun c8 => ?_) (fun c8 => ?_)
  · have c8 : m_ < mo := (nI_ltI (a := m_) (b := mo) (by omega) (by omega)).mp c8
    refine lv_aload_n hx hb dX4_put_21 rfl (lv_at hl 0 rfl) ?_
    refine va_get (D := (dC, dI)) (ci := 4) (v := .ref op) (C := RX4) (T := TX4) (N := 7) hx hb hts (by decide +kernel) hown hK hP 0 rfl rfl 4 (by decide) (hts (.fieldLink RX4 45 "FixedPress$Opener" "out" "[B") (by decide +kernel)) (fun _ h9 => h9) rfl dX4_put_22 ?_
    refine lv_aload_n hx hb dX4_put_25 rfl (lv_at hl 0 rfl) ?_
    refine va_get (D := (dC, dI)) (ci := 4) (v := .int (nI m_)) (C := RX4) (T := TX4) (N := 7) hx hb hts (by decide +kernel) hown hK hP 0 rfl rfl 5 (by decide) (hts (.fieldLink RX4 49 "FixedPress$Opener" "outLength" "I") (by decide +kernel)) (fun _ h9 => h9) rfl dX4_put_26 ?_
    refine lv_iload_n hx hb dX4_put_29 rfl (lv_at hl 1 rfl) ?_
    refine lv_i2b hx hb dX4_put_30 rfl ?_
    refine va_bast hx hb hK hP hD hS 1 0 rfl rfl (vp_in_nI (n := m_) (by omega) (by omega)) dX4_put_31 (fun H locs hP hD hS => ?_)
    rw [nI_clamp (n := m_) (by omega)] at hP hD
    have hP : va_P (dC, dI) vwCl [(h0, .inr (4, [w0, w1, w2, w3, .ref op, .int (nI m_), .int (nI mo)])), (op, .inl (cB, 8192, .inl (upd o m_ (vp_nar .byte x.toInt8.toInt32))))] H := hP
    have hD : va_D A [(h0, .inr (4, [w0, w1, w2, w3, .ref op, .int (nI m_), .int (nI mo)])), (op, .inl (cB, 8192, .inl (upd o m_ (vp_nar .byte x.toInt8.toInt32))))] := hD
    rw [pk_vb] at hP hD
    have hP : va_P (dC, dI) vwCl [(h0, .inr (4, [w0, w1, w2, w3, .ref op, .int (nI m_), .int (nI mo)])), (op, .inl (cB, 8192, .inl (upd o m_ x.toInt8.toInt32)))] H := hP
    have hD : va_D A [(h0, .inr (4, [w0, w1, w2, w3, .ref op, .int (nI m_), .int (nI mo)])), (op, .inl (cB, 8192, .inl (upd o m_ x.toInt8.toInt32)))] := hD
    refine lv_aload_n hx hb dX4_put_32 rfl (lv_at hl 0 rfl) ?_
    refine lv_dup hx hb dX4_put_33 rfl ?_
    refine va_get (D := (dC, dI)) (ci := 4) (v := .int (nI m_)) (C := RX4) (T := TX4) (N := 7) hx hb hts (by decide +kernel) hown hK hP 0 rfl rfl 5 (by decide) (hts (.fieldLink RX4 49 "FixedPress$Opener" "outLength" "I") (by decide +kernel)) (fun _ h9 => h9) rfl dX4_put_34 ?_
    refine lv_iconst (v := 1) hx hb dX4_put_37 (by decide) ?_
    refine lv_iadd hx hb dX4_put_38 ?_
    refine lv_topi (fun y_1 ey_1 => ?_)
    obtain rfl : y_1 = nI (m_ + 1) := ey_1.trans (nI_add m_ 1)
    refine va_put (D := (dC, dI)) (ci := 4) (v := .int (nI (m_ + 1))) (ty := .int) (C := RX4) (T := TX4) (N := 7) hx hb hts (by decide +kernel) tyX4 tyX4_ok nmX4 hown hK hP hD hS 0 rfl rfl 5 (by decide) (hts (.fieldLink RX4 49 "FixedPress$Opener" "outLength" "I") (by decide +kernel)) (fun _ h9 => h9) rfl (by decide +kernel) rfl rfl (Nat.le_of_ble_eq_true rfl) dX4_put_39 (fun H locs hP hD hS => ?_)
    have hP : va_P (dC, dI) vwCl [(h0, .inr (4, [w0, w1, w2, w3, .ref op, .int (nI (m_ + 1)), .int (nI mo)])), (op, .inl (cB, 8192, .inl (upd o m_ x.toInt8.toInt32)))] H := hP
    have hD : va_D A [(h0, .inr (4, [w0, w1, w2, w3, .ref op, .int (nI (m_ + 1)), .int (nI mo)])), (op, .inl (cB, 8192, .inl (upd o m_ x.toInt8.toInt32)))] := hD
    have hP9 := hP.sub (ws' := [(h0, .inr (4, [w0, w1, w2, w3, .ref op, .int (nI (m_ + 1)), .int (nI mo)])), (op, .inl (cB, 8192, .inl (upd o m_ x.toInt8.toInt32)))]) [0, 1] rfl
    have hD9 := hD.sub (ws' := [(h0, .inr (4, [w0, w1, w2, w3, .ref op, .int (nI (m_ + 1)), .int (nI mo)])), (op, .inl (cB, 8192, .inl (upd o m_ x.toInt8.toInt32)))]) [0, 1] (by decide) rfl
    exact vx_ret (W.vret hx hb hr (fun t ht hW => ⟨⟨(), rfl, c8, ⟨by rw [ht]; exact hP9, va_K.moved hW.alike hK, hD9⟩⟩, hS.F ht⟩) hS.2.2 dX4_put_42)
  · have c8 : ¬ (m_ < mo) := fun h => c8 ((nI_ltI (a := m_) (b := mo) (by omega) (by omega)).mpr h)
    have hP9 := hP.sub (ws' := [(h0, .inr (4, [w0, w1, w2, w3, .ref op, .int (nI m_), .int (nI mo)])), (op, .inl (cB, 8192, .inl o))]) [0, 1] rfl
    have hD9 := hD.sub (ws' := [(h0, .inr (4, [w0, w1, w2, w3, .ref op, .int (nI m_), .int (nI mo)])), (op, .inl (cB, 8192, .inl o))]) [0, 1] (by decide) rfl
    obtain ⟨sa9, hstr9⟩ := zX_X4_141 hE
    exact vx_throwS (own := RX4) (cls := "java/lang/UnsupportedOperationException") (names := ["java/lang/RuntimeException", "java/lang/Exception"]) hx hb hl9 hown (by decide +kernel) (by decide +kernel) (hts (.classLink RX4 77 "java/lang/UnsupportedOperationException") (by decide +kernel)) (hts (.initialized "java/lang/UnsupportedOperationException") (by decide +kernel)) hstr9 (vx_hat (L := vx_atS RX4 81 "java/lang/UnsupportedOperationException" ["java/lang/RuntimeException", "java/lang/Exception"]) (B := zBad "java/lang/UnsupportedOperationException") (fun w hw => hts w ((by decide +kernel : ∀ w ∈ (vx_atS RX4 81 "java/lang/UnsupportedOperationException" ["java/lang/RuntimeException", "java/lang/Exception"]).filter goodWord, w ∈ wsX4_put) w hw)) (by decide +kernel) (zBad_UnsupportedOperationException hE)) (by decide +kernel) (zE_U hE) (zE_N hE) hS (hl.1.trans hml.symm) dX4_put_11 dX4_put_14 dX4_put_15 dX4_put_17 dX4_put_20 (fun x hx => (hEx x hx).elim) (Nat.le_of_ble_eq_true rfl) (Nat.le_of_ble_eq_true rfl) (Nat.le_of_ble_eq_true rfl) (Nat.le_of_ble_eq_true rfl) hlocks (fun t ha hsz hk => ⟨("java/lang/UnsupportedOperationException", ()), ⟨rfl, by omega⟩, ⟨rfl, hP9.kept (fun k q hq => hk q.1 (hP9 k q hq).lt), va_K.moved ha hK, hD9⟩, Nat.le_trans hS.1 hsz, fun q h1 h2 => (hk q (Nat.lt_of_lt_of_le h1 hS.1)).trans (hS.2.1 q h1 h2)⟩) hS.2.2 (Nat.le_of_ble_eq_true rfl) (Nat.le_of_ble_eq_true rfl)

abbrev rm_X4_readHead : Room := { frames := 8, cells := 1, slots := 6, locals := 140 }
abbrev wo_X4_readHead (dC : Nat → ClassId) (dI : Nat → Nat → Nat) (cB cI cJ cM : ClassId) (h0 rd b n0 : Nat) (w1 w2 w3 w4 w5 w6 : Value) (f : Nat → Int32) (at_ : Nat) (lim : Int32) : va_W := [(h0, .inr (4, [.ref rd, w1, w2, w3, w4, w5, w6])), (rd, .inr (0, [.ref b, .int (nI at_), .int lim])), (b, .inl (cB, n0, .inl f))]
abbrev q_X4_readHead (dC : Nat → ClassId) (dI : Nat → Nat → Nat) (cB cI cJ cM : ClassId) (h0 rd b n0 : Nat) (w1 w2 w3 w4 w5 w6 : Value) (f : Nat → Int32) (at_ : Nat) (lim : Int32) (A : Nat → Prop) : Array Value → State → Outcome → State → Prop := va_Qv (fun (u : Unit) => at_ + 16 ≤ lim.toNatClampNeg ∧ zHd f at_) (zB dC dI cB cI cJ cM A (fun u : Unit => [(h0, .inr (4, [.ref rd, w1, w2, w3, w4, w5, w6])), (rd, .inr (0, [.ref b, .int (nI (at_ + 16)), .int lim])), (b, .inl (cB, n0, .inl f))])) A
abbrev x_X4_readHead (dC : Nat → ClassId) (dI : Nat → Nat → Nat) (cB cI cJ cM : ClassId) (h0 rd b n0 : Nat) (w1 w2 w3 w4 w5 w6 : Value) (f : Nat → Int32) (at_ : Nat) (lim : Int32) (A : Nat → Prop) : String → State → State → Prop := vx_X (fun (u : String × (Int32)) => (u.1 = "java/lang/UnsupportedOperationException") ∧ (¬ (at_ + 16 ≤ lim.toNatClampNeg ∧ zHd f at_))) (fun E (u : String × (Int32)) t => E = u.1 ∧ zB dC dI cB cI cJ cM A (fun u : Int32 => [(h0, .inr (4, [.ref rd, w1, w2, w3, w4, w5, w6])), (rd, .inr (0, [.ref b, .int u, .int lim])), (b, .inl (cB, n0, .inl f))]) u.2 t) A
set_option maxHeartbeats 8000000 in
set_option maxRecDepth 100000 in
/-- readHead -/
theorem k_X4_readHead (l : Launch) (hl9 : l.stackTraces = false) (dC : Nat → ClassId) (dI : Nat → Nat → Nat) (cB cI cJ cM : ClassId) (h0 rd b n0 : Nat) (w1 w2 w3 w4 w5 w6 : Value) (f : Nat → Int32) (at_ : Nat) (lim : Int32) (h1 : lim.toNatClampNeg ≤ 8 * n0) (h2 : n0 < 100000) (h3 : at_ ≤ lim.toNatClampNeg) (sz : Nat) : vx_Met l yX4_readHead wsX4_readHead rm_X4_readHead (va_Pc [.ref h0] (fun U => U.heap.size = sz ∧ va_P (dC, dI) vwCl (wo_X4_readHead dC dI cB cI cJ cM h0 rd b n0 w1 w2 w3 w4 w5 w6 f at_ lim) U.heap ∧ va_K (dC, dI) vwCl (zT cB cI cJ cM) U ∧ va_D (fun _ => True) (wo_X4_readHead dC dI cB cI cJ cM h0 rd b n0 w1 w2 w3 w4 w5 w6 f at_ lim) ∧ zE (va_A (wo_X4_readHead dC dI cB cI cJ cM h0 rd b n0 w1 w2 w3 w4 w5 w6 f at_ lim) sz) U)) (q_X4_readHead dC dI cB cI cJ cM h0 rd b n0 w1 w2 w3 w4 w5 w6 f at_ lim (va_A (wo_X4_readHead dC dI cB cI cJ cM h0 rd b n0 w1 w2 w3 w4 w5 w6 f at_ lim) sz)) (x_X4_readHead dC dI cB cI cJ cM h0 rd b n0 w1 w2 w3 w4 w5 w6 f at_ lim (va_A (wo_X4_readHead dC dI cB cI cJ cM h0 rd b n0 w1 w2 w3 w4 w5 w6 f at_ lim) sz)) 0 0 1 6 (va_A (wo_X4_readHead dC dI cB cI cJ cM h0 rd b n0 w1 w2 w3 w4 w5 w6 f at_ lim) sz) := by
  refine vx_ofW (cc := cX4_readHead) (maxL := 5) (ret := none) (by decide) rfl ?_
  intro p e s m args below meth c s₁ B hml hEx hv
  obtain ⟨rfl, hsz, hP, hK, hD0, hE⟩ := hv
  have hx := B.exec
  have hb := B.bytes
  have hr := B.returns
  have hts := atoms_spec (ws := wsX4_readHead) B.pre
  have hown : s.vm.findClass RX4 = some m.cls := findClass_of_methodNamed B.named
  have hlocks := B.notSynchronized
  subst hsz
  have hD := hD0.self (sz := s.heap.size)
  generalize hAe : va_A (wo_X4_readHead dC dI cB cI cJ cM h0 rd b n0 w1 w2 w3 w4 w5 w6 f at_ lim) s.heap.size = A at hD hE ⊢
  have hA : ∀ q : Nat, s.heap.size ≤ q → A q := fun q h => by rw [← hAe]; exact Or.inr h
  have hS : va_S A s.heap s.heap [] := va_S.rf
  have hP : va_P (dC, dI) vwCl [(h0, .inr (4, [.ref rd, w1, w2, w3, w4, w5, w6])), (rd, .inr (0, [.ref b, .int (nI at_), .int lim])), (b, .inl (cB, n0, .inl f))] s.heap := hP
  have hD : va_D A [(h0, .inr (4, [.ref rd, w1, w2, w3, w4, w5, w6])), (rd, .inr (0, [.ref b, .int (nI at_), .int lim])), (b, .inl (cB, n0, .inl f))] := hD
  have hl := lv_entry ([.ref h0]) (n := 5) (Nat.le_of_ble_eq_true rfl)
  rw [lg_entry_eq]
  generalize (lg_sl ([.ref h0]) ++ List.replicate (5 - (lg_sl ([.ref h0])).length) Slot.unset).toArray = ls at hl ⊢
  have hl : lv_has ls 5 [(0, .ref h0)] := hl
  refine lv_aload_n hx hb dX4_readHead_0 rfl (lv_at hl 0 rfl) ?_
  refine va_get (D := (dC, dI)) (ci := 4) (v := .ref rd) (C := RX4) (T := TX4) (N := 7) hx hb hts (by decide +kernel) hown hK hP 0 rfl rfl 0 (by decide) (hts (.fieldLink RX4 12 "FixedPress$Opener" "reader" "LFixedPress$BitReader;") (by decide +kernel)) (fun _ h9 => h9) rfl dX4_readHead_1 ?_
  refine lv_bipush (v := 8) hx hb dX4_readHead_4 (by decide) ?_
  have hPc := hP.sub (ws' := [(rd, .inr (0, [.ref b, .int (nI at_), .int lim])), (b, .inl (cB, n0, .inl f))]) [1, 2] rfl
  have hDc := hD.sub (ws' := [(rd, .inr (0, [.ref b, .int (nI at_), .int lim])), (b, .inl (cB, n0, .inl f))]) [1, 2] (by decide) rfl
  have hFc := va_free (wc := [(rd, .inr (0, [.ref b, .int (nI at_), .int lim])), (b, .inl (cB, n0, .inl f))]) hD hS hA [1, 2] rfl
  refine vx_calli (vx_runV (As := [.int 8]) (rest := []) ⟨hx, hb, hml, hown, hts⟩ (k_X0_readBits l hl9 dC dI cB cI cJ cM rd b n0 f at_ lim 8 (by omega) (by omega) (by omega) (by omega) s.heap.size) (cwV 1 hts gX4_readHead_X0_readBits rfl rfl rfl (by decide +kernel) ⟨Nat.le_of_ble_eq_true rfl, Nat.le_of_ble_eq_true rfl⟩) ⟨fun a U g mk q => by obtain ⟨q0, q1, qP, qK, qD, qE⟩ := q; exact ⟨q0, q1, qP, va_K.moved (u := U) (U := U.calling g mk a) (Vm.Alike.refl U.vm) qK, qD, zE.blind qE⟩, va_recv hK hPc (ci := 0) (q0 := 0) rfl rfl, fun U hU hW => ⟨rfl, by rw [hU], by rw [hU]; exact hPc, va_K.moved hW.alike hK, hDc.weaken (fun _ _ _ _ => trivial), zE.call hE hS hU hW hFc⟩⟩ rfl rfl hl.1 rfl (lv_room (Nat.le_of_ble_eq_true rfl)) dX4_readHead_6 ⟨(show 0 + 1 ≤ 1 by omega), (show 0 + 6 ≤ 6 by omega)⟩) hS (fun q _ h => hFc q h) hFc (fun q _ h => hFc q h) (fun E8 ce9 q9 ux t H1 locs ht hvm hw hB hz1 hk1 hS hce9 hcv9 hcl9 => ?_) (fun r6 u t H1 locs ht hvm hw hB hz1 hk1 hS => ?_)
  · obtain ⟨E9, ux9⟩ := ux
    obtain ⟨hEe, hB9⟩ := hB
    have hB : True ∧ zB dC dI cB cI cJ cM (va_A [(rd, .inr (0, [.ref b, .int (nI at_), .int lim])), (b, .inl (cB, n0, .inl f))] s.heap.size) (fun u : Int32 => [(rd, .inr (0, [.ref b, .int u, .int lim])), (b, .inl (cB, n0, .inl f))]) ux9 t := ⟨trivial, hB9⟩
    obtain ⟨e6, rfl⟩ : ∃ z, z = ux9 := ⟨_, rfl⟩
    have hP1 : va_P (dC, dI) vwCl [(rd, .inr (0, [.ref b, .int e6, .int lim])), (b, .inl (cB, n0, .inl f))] H1 := by rw [← ht]; exact hB.2.1
    have hD1 : va_D (va_A [(rd, .inr (0, [.ref b, .int (nI at_), .int lim])), (b, .inl (cB, n0, .inl f))] s.heap.size) [(rd, .inr (0, [.ref b, .int e6, .int lim])), (b, .inl (cB, n0, .inl f))] := hB.2.2.2
    obtain ⟨hP, hD⟩ := va_join (wr := [(h0, .inr (4, [.ref rd, w1, w2, w3, w4, w5, w6]))]) (w1 := [(rd, .inr (0, [.ref b, .int e6, .int lim])), (b, .inl (cB, n0, .inl f))]) hP hD [1, 2] [0] rfl rfl (by decide) (by decide) hk1 hFc hP1 hD1
    generalize H1 = H at hP hS hce9 ⊢
    try dsimp only at hw hEe
    subst hEe
    have hP : va_P (dC, dI) vwCl [(h0, .inr (4, [.ref rd, w1, w2, w3, w4, w5, w6])), (rd, .inr (0, [.ref b, .int e6, .int lim])), (b, .inl (cB, n0, .inl f))] H := hP
    have hD : va_D A [(h0, .inr (4, [.ref rd, w1, w2, w3, w4, w5, w6])), (rd, .inr (0, [.ref b, .int e6, .int lim])), (b, .inl (cB, n0, .inl f))] := hD
    have hP9 := hP.sub (ws' := [(h0, .inr (4, [.ref rd, w1, w2, w3, w4, w5, w6])), (rd, .inr (0, [.ref b, .int e6, .int lim])), (b, .inl (cB, n0, .inl f))]) [0, 1, 2] rfl
    have hD9 := hD.sub (ws' := [(h0, .inr (4, [.ref rd, w1, w2, w3, w4, w5, w6])), (rd, .inr (0, [.ref b, .int e6, .int lim])), (b, .inl (cB, n0, .inl f))]) [0, 1, 2] (by decide) rfl
    exact vx_out (fun x hx => (hEx x hx).elim) hlocks hce9 hcv9 hcl9 (fun t ht9 ha => ⟨(_, e6), ⟨hw.1, fun h => by have := hw.2; omega⟩, ⟨rfl, by rw [ht9]; exact hP9, va_K.moved ha hK, hD9⟩, hS.F ht9⟩) hS.2.2 (Nat.le_of_ble_eq_true rfl) (Nat.le_of_ble_eq_true rfl)
  have hP1 : va_P (dC, dI) vwCl [(rd, .inr (0, [.ref b, .int (nI (at_ + 8)), .int lim])), (b, .inl (cB, n0, .inl f))] H1 := by rw [← ht]; exact hB.1
  have hD1 : va_D (va_A [(rd, .inr (0, [.ref b, .int (nI at_), .int lim])), (b, .inl (cB, n0, .inl f))] s.heap.size) [(rd, .inr (0, [.ref b, .int (nI (at_ + 8)), .int lim])), (b, .inl (cB, n0, .inl f))] := hB.2.2
  obtain ⟨hP, hD⟩ := va_join (wr := [(h0, .inr (4, [.ref rd, w1, w2, w3, w4, w5, w6]))]) (w1 := [(rd, .inr (0, [.ref b, .int (nI (at_ + 8)), .int lim])), (b, .inl (cB, n0, .inl f))]) hP hD [1, 2] [0] rfl rfl (by decide) (by decide) hk1 hFc hP1 hD1
  generalize H1 = H at hP hS ⊢
  try dsimp only at hw
  have hP : va_P (dC, dI) vwCl [(h0, .inr (4, [.ref rd, w1, w2, w3, w4, w5, w6])), (rd, .inr (0, [.ref b, .int (nI (at_ + 8)), .int lim])), (b, .inl (cB, n0, .inl f))] H := hP
  have hD : va_D A [(h0, .inr (4, [.ref rd, w1, w2, w3, w4, w5, w6])), (rd, .inr (0, [.ref b, .int (nI (at_ + 8)), .int lim])), (b, .inl (cB, n0, .inl f))] := hD
  obtain ⟨hr6, hl6⟩ := hw
  obtain rfl : r6 = nI (zbv f (at_) 8) := hr6
  have hq6 := zbv_lt f (at_) 8
  refine W.eq (g2 := F0 m 9 ls [.int (nI (zbv f (at_) 8))]) rfl ?_
  refine lv_istore_n (lv' := [(1, .int (nI (zbv f (at_) 8))), (0, .ref h0)]) hx hb dX4_readHead_9 rfl hl (by decide) rfl (fun ls hl => ?_)
  refine lv_aload_n hx hb dX4_readHead_10 rfl (lv_at hl 1 rfl) ?_
  refine va_get (D := (dC, dI)) (ci := 4) (v := .ref rd) (C := RX4) (T := TX4) (N := 7) hx hb hts (by decide +kernel) hown hK hP 0 rfl rfl 0 (by decide) (hts (.fieldLink RX4 12 "FixedPress$Opener" "reader" "LFixedPress$BitReader;") (by decide +kernel)) (fun _ h9 => h9) rfl dX4_readHead_11 ?_
  refine lv_bipush (v := 8) hx hb dX4_readHead_14 (by decide) ?_
  have hPc := hP.sub (ws' := [(rd, .inr (0, [.ref b, .int (nI (at_ + 8)), .int lim])), (b, .inl (cB, n0, .inl f))]) [1, 2] rfl
  have hDc := hD.sub (ws' := [(rd, .inr (0, [.ref b, .int (nI (at_ + 8)), .int lim])), (b, .inl (cB, n0, .inl f))]) [1, 2] (by decide) rfl
  have hFc := va_free (wc := [(rd, .inr (0, [.ref b, .int (nI (at_ + 8)), .int lim])), (b, .inl (cB, n0, .inl f))]) hD hS hA [1, 2] rfl
  refine vx_calli (vx_runV (As := [.int 8]) (rest := []) ⟨hx, hb, hml, hown, hts⟩ (k_X0_readBits l hl9 dC dI cB cI cJ cM rd b n0 f (at_ + 8) lim 8 (by omega) (by omega) (by omega) (by omega) H.size) (cwV 1 hts gX4_readHead_X0_readBits rfl rfl rfl (by decide +kernel) ⟨Nat.le_of_ble_eq_true rfl, Nat.le_of_ble_eq_true rfl⟩) ⟨fun a U g mk q => by obtain ⟨q0, q1, qP, qK, qD, qE⟩ := q; exact ⟨q0, q1, qP, va_K.moved (u := U) (U := U.calling g mk a) (Vm.Alike.refl U.vm) qK, qD, zE.blind qE⟩, va_recv hK hPc (ci := 0) (q0 := 0) rfl rfl, fun U hU hW => ⟨rfl, by rw [hU], by rw [hU]; exact hPc, va_K.moved hW.alike hK, hDc.weaken (fun _ _ _ _ => trivial), zE.call hE hS hU hW hFc⟩⟩ rfl rfl hl.1 rfl (lv_room (Nat.le_of_ble_eq_true rfl)) dX4_readHead_16 ⟨(show 0 + 1 ≤ 1 by omega), (show 0 + 6 ≤ 6 by omega)⟩) hS (fun q _ h => hFc q h) hFc (fun q _ h => hFc q h) (fun E8 ce9 q9 ux t H1 locs ht hvm hw hB hz1 hk1 hS hce9 hcv9 hcl9 => ?_) (fun r16 u t H1 locs ht hvm hw hB hz1 hk1 hS => ?_)
  · obtain ⟨E9, ux9⟩ := ux
    obtain ⟨hEe, hB9⟩ := hB
    have hB : True ∧ zB dC dI cB cI cJ cM (va_A [(rd, .inr (0, [.ref b, .int (nI (at_ + 8)), .int lim])), (b, .inl (cB, n0, .inl f))] H.size) (fun u : Int32 => [(rd, .inr (0, [.ref b, .int u, .int lim])), (b, .inl (cB, n0, .inl f))]) ux9 t := ⟨trivial, hB9⟩
    obtain ⟨e16, rfl⟩ : ∃ z, z = ux9 := ⟨_, rfl⟩
    have hP1 : va_P (dC, dI) vwCl [(rd, .inr (0, [.ref b, .int e16, .int lim])), (b, .inl (cB, n0, .inl f))] H1 := by rw [← ht]; exact hB.2.1
    have hD1 : va_D (va_A [(rd, .inr (0, [.ref b, .int (nI (at_ + 8)), .int lim])), (b, .inl (cB, n0, .inl f))] H.size) [(rd, .inr (0, [.ref b, .int e16, .int lim])), (b, .inl (cB, n0, .inl f))] := hB.2.2.2
    obtain ⟨hP, hD⟩ := va_join (wr := [(h0, .inr (4, [.ref rd, w1, w2, w3, w4, w5, w6]))]) (w1 := [(rd, .inr (0, [.ref b, .int e16, .int lim])), (b, .inl (cB, n0, .inl f))]) hP hD [1, 2] [0] rfl rfl (by decide) (by decide) hk1 hFc hP1 hD1
    generalize H1 = H at hP hS hce9 ⊢
    try dsimp only at hw hEe
    subst hEe
    have hP : va_P (dC, dI) vwCl [(h0, .inr (4, [.ref rd, w1, w2, w3, w4, w5, w6])), (rd, .inr (0, [.ref b, .int e16, .int lim])), (b, .inl (cB, n0, .inl f))] H := hP
    have hD : va_D A [(h0, .inr (4, [.ref rd, w1, w2, w3, w4, w5, w6])), (rd, .inr (0, [.ref b, .int e16, .int lim])), (b, .inl (cB, n0, .inl f))] := hD
    have hP9 := hP.sub (ws' := [(h0, .inr (4, [.ref rd, w1, w2, w3, w4, w5, w6])), (rd, .inr (0, [.ref b, .int e16, .int lim])), (b, .inl (cB, n0, .inl f))]) [0, 1, 2] rfl
    have hD9 := hD.sub (ws' := [(h0, .inr (4, [.ref rd, w1, w2, w3, w4, w5, w6])), (rd, .inr (0, [.ref b, .int e16, .int lim])), (b, .inl (cB, n0, .inl f))]) [0, 1, 2] (by decide) rfl
    exact vx_out (fun x hx => (hEx x hx).elim) hlocks hce9 hcv9 hcl9 (fun t ht9 ha => ⟨(_, e16), ⟨hw.1, fun h => by have := hw.2; omega⟩, ⟨rfl, by rw [ht9]; exact hP9, va_K.moved ha hK, hD9⟩, hS.F ht9⟩) hS.2.2 (Nat.le_of_ble_eq_true rfl) (Nat.le_of_ble_eq_true rfl)
  have hP1 : va_P (dC, dI) vwCl [(rd, .inr (0, [.ref b, .int (nI ((at_ + 8) + 8)), .int lim])), (b, .inl (cB, n0, .inl f))] H1 := by rw [← ht]; exact hB.1
  have hD1 : va_D (va_A [(rd, .inr (0, [.ref b, .int (nI (at_ + 8)), .int lim])), (b, .inl (cB, n0, .inl f))] H.size) [(rd, .inr (0, [.ref b, .int (nI ((at_ + 8) + 8)), .int lim])), (b, .inl (cB, n0, .inl f))] := hB.2.2
  obtain ⟨hP, hD⟩ := va_join (wr := [(h0, .inr (4, [.ref rd, w1, w2, w3, w4, w5, w6]))]) (w1 := [(rd, .inr (0, [.ref b, .int (nI ((at_ + 8) + 8)), .int lim])), (b, .inl (cB, n0, .inl f))]) hP hD [1, 2] [0] rfl rfl (by decide) (by decide) hk1 hFc hP1 hD1
  generalize H1 = H at hP hS ⊢
  try dsimp only at hw
  have hP : va_P (dC, dI) vwCl [(h0, .inr (4, [.ref rd, w1, w2, w3, w4, w5, w6])), (rd, .inr (0, [.ref b, .int (nI ((at_ + 8) + 8)), .int lim])), (b, .inl (cB, n0, .inl f))] H := hP
  have hD : va_D A [(h0, .inr (4, [.ref rd, w1, w2, w3, w4, w5, w6])), (rd, .inr (0, [.ref b, .int (nI ((at_ + 8) + 8)), .int lim])), (b, .inl (cB, n0, .inl f))] := hD
  obtain ⟨hr16, hl16⟩ := hw
  obtain rfl : r16 = nI (zbv f (at_ + 8) 8) := hr16
  have hq16 := zbv_lt f (at_ + 8) 8
  refine W.eq (g2 := F0 m 19 ls [.int (nI (zbv f (at_ + 8) 8))]) rfl ?_
  refine lv_istore_n (lv' := [(2, .int (nI (zbv f (at_ + 8) 8))), (1, .int (nI (zbv f (at_) 8))), (0, .ref h0)]) hx hb dX4_readHead_19 rfl hl (by decide) rfl (fun ls hl => ?_)
  refine lv_iload_n hx hb dX4_readHead_20 rfl (lv_at hl 1 rfl) ?_
  refine lv_bipush (v := 15) hx hb dX4_readHead_21 (by decide) ?_
  refine lv_iand hx hb dX4_readHead_23 ?_
  refine lv_topi (fun y_1 ey_1 => ?_)
  obtain rfl : y_1 = nI (zbv f at_ 8 % 2 ^ 4) := ey_1.trans (pk_andN (n := zbv f at_ 8) (by omega) 4 (by decide))
  refine lv_bipush (v := 8) hx hb dX4_readHead_24 (by decide) ?_
  refine lv_icmp_ne (tgt := 41) hx hb dX4_readHead_26 (by decide) (fun c26 => ?_) (fun c26 => ?_)
  · have c26 : ¬ ((zbv f at_ 8 % 2 ^ 4) = 8) := fun h => c26 ((nI_eq (a := (zbv f at_ 8 % 2 ^ 4)) (b := 8) (by omega) (by omega)).mpr h)
    refine lv_iconst (v := 0) hx hb dX4_readHead_41 (by decide) ?_
    refine lv_istore_n (lv' := [(3, .int 0), (2, .int (nI (zbv f (at_ + 8) 8))), (1, .int (nI (zbv f (at_) 8))), (0, .ref h0)]) hx hb dX4_readHead_42 rfl hl (by decide) rfl (fun ls hl => ?_)
    refine lv_iload_n hx hb dX4_readHead_43 rfl (lv_at hl 1 rfl) ?_
    refine lv_bipush (v := 32) hx hb dX4_readHead_44 (by decide) ?_
    refine lv_iand hx hb dX4_readHead_46 ?_
    refine lv_if_eq (tgt := 54) hx hb dX4_readHead_47 (by decide) (fun c47 => ?_) (fun c47 => ?_)
    · refine lv_iconst (v := 0) hx hb dX4_readHead_54 (by decide) ?_
      refine lv_istore (lv' := [(4, .int 0), (3, .int 0), (2, .int (nI (zbv f (at_ + 8) 8))), (1, .int (nI (zbv f (at_) 8))), (0, .ref h0)]) hx hb dX4_readHead_55 hl (by decide) rfl (fun ls hl => ?_)
      refine lv_iload_n hx hb dX4_readHead_57 rfl (lv_at hl 1 rfl) ?_
      refine lv_if_eq (tgt := 79) hx hb dX4_readHead_58 (by decide) (fun c58 => ?_) (fun c58 => ?_)
      · have c58 : 0 = 0 := (nI_eq (a := 0) (b := 0) (by omega) (by omega)).mp c58
        have hP9 := hP.sub (ws' := [(h0, .inr (4, [.ref rd, w1, w2, w3, w4, w5, w6])), (rd, .inr (0, [.ref b, .int (nI ((at_ + 8) + 8)), .int lim])), (b, .inl (cB, n0, .inl f))]) [0, 1, 2] rfl
        have hD9 := hD.sub (ws' := [(h0, .inr (4, [.ref rd, w1, w2, w3, w4, w5, w6])), (rd, .inr (0, [.ref b, .int (nI ((at_ + 8) + 8)), .int lim])), (b, .inl (cB, n0, .inl f))]) [0, 1, 2] (by decide) rfl
        obtain ⟨sa9, hstr9⟩ := zX_X4_87 hE
        exact vx_throwS (own := RX4) (cls := "java/lang/UnsupportedOperationException") (names := ["java/lang/RuntimeException", "java/lang/Exception"]) hx hb hl9 hown (by decide +kernel) (by decide +kernel) (hts (.classLink RX4 77 "java/lang/UnsupportedOperationException") (by decide +kernel)) (hts (.initialized "java/lang/UnsupportedOperationException") (by decide +kernel)) hstr9 (vx_hat (L := vx_atS RX4 81 "java/lang/UnsupportedOperationException" ["java/lang/RuntimeException", "java/lang/Exception"]) (B := zBad "java/lang/UnsupportedOperationException") (fun w hw => hts w ((by decide +kernel : ∀ w ∈ (vx_atS RX4 81 "java/lang/UnsupportedOperationException" ["java/lang/RuntimeException", "java/lang/Exception"]).filter goodWord, w ∈ wsX4_readHead) w hw)) (by decide +kernel) (zBad_UnsupportedOperationException hE)) (by decide +kernel) (zE_U hE) (zE_N hE) hS (hl.1.trans hml.symm) dX4_readHead_79 dX4_readHead_82 dX4_readHead_83 dX4_readHead_85 dX4_readHead_88 (fun x hx => (hEx x hx).elim) (Nat.le_of_ble_eq_true rfl) (Nat.le_of_ble_eq_true rfl) (Nat.le_of_ble_eq_true rfl) (Nat.le_of_ble_eq_true rfl) hlocks (fun t ha hsz hk => ⟨("java/lang/UnsupportedOperationException", nI (at_ + 8 + 8)), ⟨rfl, fun h => absurd h.2.1 c26⟩, ⟨rfl, hP9.kept (fun k q hq => hk q.1 (hP9 k q hq).lt), va_K.moved ha hK, hD9⟩, Nat.le_trans hS.1 hsz, fun q h1 h2 => (hk q (Nat.lt_of_lt_of_le h1 hS.1)).trans (hS.2.1 q h1 h2)⟩) hS.2.2 (Nat.le_of_ble_eq_true rfl) (Nat.le_of_ble_eq_true rfl)
      · have c58 : ¬ (0 = 0) := fun h => c58 ((nI_eq (a := 0) (b := 0) (by omega) (by omega)).mpr h)
        exfalso; omega
    · refine lv_iconst (v := 1) hx hb dX4_readHead_50 (by decide) ?_
      refine lv_goto (tgt := 55) hx hb dX4_readHead_51 (by decide) ?_
      refine lv_istore (lv' := [(4, .int 1), (3, .int 0), (2, .int (nI (zbv f (at_ + 8) 8))), (1, .int (nI (zbv f (at_) 8))), (0, .ref h0)]) hx hb dX4_readHead_55 hl (by decide) rfl (fun ls hl => ?_)
      refine lv_iload_n hx hb dX4_readHead_57 rfl (lv_at hl 1 rfl) ?_
      refine lv_if_eq (tgt := 79) hx hb dX4_readHead_58 (by decide) (fun c58 => ?_) (fun c58 => ?_)
      · have c58 : 0 = 0 := (nI_eq (a := 0) (b := 0) (by omega) (by omega)).mp c58
        have hP9 := hP.sub (ws' := [(h0, .inr (4, [.ref rd, w1, w2, w3, w4, w5, w6])), (rd, .inr (0, [.ref b, .int (nI ((at_ + 8) + 8)), .int lim])), (b, .inl (cB, n0, .inl f))]) [0, 1, 2] rfl
        have hD9 := hD.sub (ws' := [(h0, .inr (4, [.ref rd, w1, w2, w3, w4, w5, w6])), (rd, .inr (0, [.ref b, .int (nI ((at_ + 8) + 8)), .int lim])), (b, .inl (cB, n0, .inl f))]) [0, 1, 2] (by decide) rfl
        obtain ⟨sa9, hstr9⟩ := zX_X4_87 hE
        exact vx_throwS (own := RX4) (cls := "java/lang/UnsupportedOperationException") (names := ["java/lang/RuntimeException", "java/lang/Exception"]) hx hb hl9 hown (by decide +kernel) (by decide +kernel) (hts (.classLink RX4 77 "java/lang/UnsupportedOperationException") (by decide +kernel)) (hts (.initialized "java/lang/UnsupportedOperationException") (by decide +kernel)) hstr9 (vx_hat (L := vx_atS RX4 81 "java/lang/UnsupportedOperationException" ["java/lang/RuntimeException", "java/lang/Exception"]) (B := zBad "java/lang/UnsupportedOperationException") (fun w hw => hts w ((by decide +kernel : ∀ w ∈ (vx_atS RX4 81 "java/lang/UnsupportedOperationException" ["java/lang/RuntimeException", "java/lang/Exception"]).filter goodWord, w ∈ wsX4_readHead) w hw)) (by decide +kernel) (zBad_UnsupportedOperationException hE)) (by decide +kernel) (zE_U hE) (zE_N hE) hS (hl.1.trans hml.symm) dX4_readHead_79 dX4_readHead_82 dX4_readHead_83 dX4_readHead_85 dX4_readHead_88 (fun x hx => (hEx x hx).elim) (Nat.le_of_ble_eq_true rfl) (Nat.le_of_ble_eq_true rfl) (Nat.le_of_ble_eq_true rfl) (Nat.le_of_ble_eq_true rfl) hlocks (fun t ha hsz hk => ⟨("java/lang/UnsupportedOperationException", nI (at_ + 8 + 8)), ⟨rfl, fun h => absurd h.2.1 c26⟩, ⟨rfl, hP9.kept (fun k q hq => hk q.1 (hP9 k q hq).lt), va_K.moved ha hK, hD9⟩, Nat.le_trans hS.1 hsz, fun q h1 h2 => (hk q (Nat.lt_of_lt_of_le h1 hS.1)).trans (hS.2.1 q h1 h2)⟩) hS.2.2 (Nat.le_of_ble_eq_true rfl) (Nat.le_of_ble_eq_true rfl)
      · have c58 : ¬ (0 = 0) := fun h => c58 ((nI_eq (a := 0) (b := 0) (by omega) (by omega)).mpr h)
        exfalso; omega
  · have c26 : (zbv f at_ 8 % 2 ^ 4) = 8 := (nI_eq (a := (zbv f at_ 8 % 2 ^ 4)) (b := 8) (by omega) (by omega)).mp c26
    refine lv_iload_n hx hb dX4_readHead_29 rfl (lv_at hl 1 rfl) ?_
    refine lv_iconst (v := 4) hx hb dX4_readHead_30 (by decide) ?_
    refine lv_iushr hx hb dX4_readHead_31 rfl ?_
    refine lv_topi (fun y_2 ey_2 => ?_)
    obtain rfl : y_2 = nI (zbv f at_ 8 / 2 ^ 4) := ey_2.trans (z_ush (n := zbv f at_ 8) (k := 4) (by omega) (by decide))
    refine lv_bipush (v := 7) hx hb dX4_readHead_32 (by decide) ?_
    refine lv_icmp_gt (tgt := 41) hx hb dX4_readHead_34 (by decide) (fun c34 => ?_) (fun c34 => ?_)
    · have c34 : 7 < (zbv f at_ 8 / 2 ^ 4) := (nI_ltI (a := 7) (b := (zbv f at_ 8 / 2 ^ 4)) (by omega) (by omega)).mp c34
      refine lv_iconst (v := 0) hx hb dX4_readHead_41 (by decide) ?_
      refine lv_istore_n (lv' := [(3, .int 0), (2, .int (nI (zbv f (at_ + 8) 8))), (1, .int (nI (zbv f (at_) 8))), (0, .ref h0)]) hx hb dX4_readHead_42 rfl hl (by decide) rfl (fun ls hl => ?_)
      refine lv_iload_n hx hb dX4_readHead_43 rfl (lv_at hl 1 rfl) ?_
      refine lv_bipush (v := 32) hx hb dX4_readHead_44 (by decide) ?_
      refine lv_iand hx hb dX4_readHead_46 ?_
      refine lv_if_eq (tgt := 54) hx hb dX4_readHead_47 (by decide) (fun c47 => ?_) (fun c47 => ?_)
      · refine lv_iconst (v := 0) hx hb dX4_readHead_54 (by decide) ?_
        refine lv_istore (lv' := [(4, .int 0), (3, .int 0), (2, .int (nI (zbv f (at_ + 8) 8))), (1, .int (nI (zbv f (at_) 8))), (0, .ref h0)]) hx hb dX4_readHead_55 hl (by decide) rfl (fun ls hl => ?_)
        refine lv_iload_n hx hb dX4_readHead_57 rfl (lv_at hl 1 rfl) ?_
        refine lv_if_eq (tgt := 79) hx hb dX4_readHead_58 (by decide) (fun c58 => ?_) (fun c58 => ?_)
        · have c58 : 0 = 0 := (nI_eq (a := 0) (b := 0) (by omega) (by omega)).mp c58
          have hP9 := hP.sub (ws' := [(h0, .inr (4, [.ref rd, w1, w2, w3, w4, w5, w6])), (rd, .inr (0, [.ref b, .int (nI ((at_ + 8) + 8)), .int lim])), (b, .inl (cB, n0, .inl f))]) [0, 1, 2] rfl
          have hD9 := hD.sub (ws' := [(h0, .inr (4, [.ref rd, w1, w2, w3, w4, w5, w6])), (rd, .inr (0, [.ref b, .int (nI ((at_ + 8) + 8)), .int lim])), (b, .inl (cB, n0, .inl f))]) [0, 1, 2] (by decide) rfl
          obtain ⟨sa9, hstr9⟩ := zX_X4_87 hE
          exact vx_throwS (own := RX4) (cls := "java/lang/UnsupportedOperationException") (names := ["java/lang/RuntimeException", "java/lang/Exception"]) hx hb hl9 hown (by decide +kernel) (by decide +kernel) (hts (.classLink RX4 77 "java/lang/UnsupportedOperationException") (by decide +kernel)) (hts (.initialized "java/lang/UnsupportedOperationException") (by decide +kernel)) hstr9 (vx_hat (L := vx_atS RX4 81 "java/lang/UnsupportedOperationException" ["java/lang/RuntimeException", "java/lang/Exception"]) (B := zBad "java/lang/UnsupportedOperationException") (fun w hw => hts w ((by decide +kernel : ∀ w ∈ (vx_atS RX4 81 "java/lang/UnsupportedOperationException" ["java/lang/RuntimeException", "java/lang/Exception"]).filter goodWord, w ∈ wsX4_readHead) w hw)) (by decide +kernel) (zBad_UnsupportedOperationException hE)) (by decide +kernel) (zE_U hE) (zE_N hE) hS (hl.1.trans hml.symm) dX4_readHead_79 dX4_readHead_82 dX4_readHead_83 dX4_readHead_85 dX4_readHead_88 (fun x hx => (hEx x hx).elim) (Nat.le_of_ble_eq_true rfl) (Nat.le_of_ble_eq_true rfl) (Nat.le_of_ble_eq_true rfl) (Nat.le_of_ble_eq_true rfl) hlocks (fun t ha hsz hk => ⟨("java/lang/UnsupportedOperationException", nI (at_ + 8 + 8)), ⟨rfl, fun h => absurd h.2.2.1 (by omega)⟩, ⟨rfl, hP9.kept (fun k q hq => hk q.1 (hP9 k q hq).lt), va_K.moved ha hK, hD9⟩, Nat.le_trans hS.1 hsz, fun q h1 h2 => (hk q (Nat.lt_of_lt_of_le h1 hS.1)).trans (hS.2.1 q h1 h2)⟩) hS.2.2 (Nat.le_of_ble_eq_true rfl) (Nat.le_of_ble_eq_true rfl)
        · have c58 : ¬ (0 = 0) := fun h => c58 ((nI_eq (a := 0) (b := 0) (by omega) (by omega)).mpr h)
          exfalso; omega
      · refine lv_iconst (v := 1) hx hb dX4_readHead_50 (by decide) ?_
        refine lv_goto (tgt := 55) hx hb dX4_readHead_51 (by decide) ?_
        refine lv_istore (lv' := [(4, .int 1), (3, .int 0), (2, .int (nI (zbv f (at_ + 8) 8))), (1, .int (nI (zbv f (at_) 8))), (0, .ref h0)]) hx hb dX4_readHead_55 hl (by decide) rfl (fun ls hl => ?_)
        refine lv_iload_n hx hb dX4_readHead_57 rfl (lv_at hl 1 rfl) ?_
        refine lv_if_eq (tgt := 79) hx hb dX4_readHead_58 (by decide) (fun c58 => ?_) (fun c58 => ?_)
        · have c58 : 0 = 0 := (nI_eq (a := 0) (b := 0) (by omega) (by omega)).mp c58
          have hP9 := hP.sub (ws' := [(h0, .inr (4, [.ref rd, w1, w2, w3, w4, w5, w6])), (rd, .inr (0, [.ref b, .int (nI ((at_ + 8) + 8)), .int lim])), (b, .inl (cB, n0, .inl f))]) [0, 1, 2] rfl
          have hD9 := hD.sub (ws' := [(h0, .inr (4, [.ref rd, w1, w2, w3, w4, w5, w6])), (rd, .inr (0, [.ref b, .int (nI ((at_ + 8) + 8)), .int lim])), (b, .inl (cB, n0, .inl f))]) [0, 1, 2] (by decide) rfl
          obtain ⟨sa9, hstr9⟩ := zX_X4_87 hE
          exact vx_throwS (own := RX4) (cls := "java/lang/UnsupportedOperationException") (names := ["java/lang/RuntimeException", "java/lang/Exception"]) hx hb hl9 hown (by decide +kernel) (by decide +kernel) (hts (.classLink RX4 77 "java/lang/UnsupportedOperationException") (by decide +kernel)) (hts (.initialized "java/lang/UnsupportedOperationException") (by decide +kernel)) hstr9 (vx_hat (L := vx_atS RX4 81 "java/lang/UnsupportedOperationException" ["java/lang/RuntimeException", "java/lang/Exception"]) (B := zBad "java/lang/UnsupportedOperationException") (fun w hw => hts w ((by decide +kernel : ∀ w ∈ (vx_atS RX4 81 "java/lang/UnsupportedOperationException" ["java/lang/RuntimeException", "java/lang/Exception"]).filter goodWord, w ∈ wsX4_readHead) w hw)) (by decide +kernel) (zBad_UnsupportedOperationException hE)) (by decide +kernel) (zE_U hE) (zE_N hE) hS (hl.1.trans hml.symm) dX4_readHead_79 dX4_readHead_82 dX4_readHead_83 dX4_readHead_85 dX4_readHead_88 (fun x hx => (hEx x hx).elim) (Nat.le_of_ble_eq_true rfl) (Nat.le_of_ble_eq_true rfl) (Nat.le_of_ble_eq_true rfl) (Nat.le_of_ble_eq_true rfl) hlocks (fun t ha hsz hk => ⟨("java/lang/UnsupportedOperationException", nI (at_ + 8 + 8)), ⟨rfl, fun h => absurd h.2.2.1 (by omega)⟩, ⟨rfl, hP9.kept (fun k q hq => hk q.1 (hP9 k q hq).lt), va_K.moved ha hK, hD9⟩, Nat.le_trans hS.1 hsz, fun q h1 h2 => (hk q (Nat.lt_of_lt_of_le h1 hS.1)).trans (hS.2.1 q h1 h2)⟩) hS.2.2 (Nat.le_of_ble_eq_true rfl) (Nat.le_of_ble_eq_true rfl)
        · have c58 : ¬ (0 = 0) := fun h => c58 ((nI_eq (a := 0) (b := 0) (by omega) (by omega)).mpr h)
          exfalso; omega
    · have c34 : ¬ (7 < (zbv f at_ 8 / 2 ^ 4)) := fun h => c34 ((nI_ltI (a := 7) (b := (zbv f at_ 8 / 2 ^ 4)) (by omega) (by omega)).mpr h)
      refine lv_iconst (v := 1) hx hb dX4_readHead_37 (by decide) ?_
      refine lv_goto (tgt := 42) hx hb dX4_readHead_38 (by decide) ?_
      refine lv_istore_n (lv' := [(3, .int 1), (2, .int (nI (zbv f (at_ + 8) 8))), (1, .int (nI (zbv f (at_) 8))), (0, .ref h0)]) hx hb dX4_readHead_42 rfl hl (by decide) rfl (fun ls hl => ?_)
      refine lv_iload_n hx hb dX4_readHead_43 rfl (lv_at hl 1 rfl) ?_
      refine lv_bipush (v := 32) hx hb dX4_readHead_44 (by decide) ?_
      refine lv_iand hx hb dX4_readHead_46 ?_
      refine lv_if_eq (tgt := 54) hx hb dX4_readHead_47 (by decide) (fun c47 => ?_) (fun c47 => ?_)
      · refine lv_iconst (v := 0) hx hb dX4_readHead_54 (by decide) ?_
        refine lv_istore (lv' := [(4, .int 0), (3, .int 1), (2, .int (nI (zbv f (at_ + 8) 8))), (1, .int (nI (zbv f (at_) 8))), (0, .ref h0)]) hx hb dX4_readHead_55 hl (by decide) rfl (fun ls hl => ?_)
        refine lv_iload_n hx hb dX4_readHead_57 rfl (lv_at hl 1 rfl) ?_
        refine lv_if_eq (tgt := 79) hx hb dX4_readHead_58 (by decide) (fun c58 => ?_) (fun c58 => ?_)
        · have c58 : 1 = 0 := (nI_eq (a := 1) (b := 0) (by omega) (by omega)).mp c58
          exfalso; omega
        · have c58 : ¬ (1 = 0) := fun h => c58 ((nI_eq (a := 1) (b := 0) (by omega) (by omega)).mpr h)
          refine lv_iload hx hb dX4_readHead_61 (lv_at hl 0 rfl) ?_
          refine lv_if_ne (tgt := 79) hx hb dX4_readHead_63 (by decide) (fun c63 => ?_) (fun c63 => ?_)
          · have c63 : ¬ (0 = 0) := fun h => c63 ((nI_eq (a := 0) (b := 0) (by omega) (by omega)).mpr h)
            exfalso; omega
          · have c63 : 0 = 0 := (nI_eq (a := 0) (b := 0) (by omega) (by omega)).mp c63
            refine lv_iload_n hx hb dX4_readHead_66 rfl (lv_at hl 3 rfl) ?_
            refine lv_sipush (v := 256) hx hb dX4_readHead_67 (by decide) ?_
            refine lv_imul hx hb dX4_readHead_70 ?_
            refine lv_topi (fun y_3 ey_3 => ?_)
            obtain rfl : y_3 = nI ((zbv f (at_) 8) * 256) := ey_3.trans (pk_mul (zbv f (at_) 8) 256)
            refine lv_iload_n hx hb dX4_readHead_71 rfl (lv_at hl 2 rfl) ?_
            refine lv_iadd hx hb dX4_readHead_72 ?_
            refine lv_topi (fun y_4 ey_4 => ?_)
            obtain rfl : y_4 = nI (((zbv f (at_) 8) * 256) + (zbv f (at_ + 8) 8)) := ey_4.trans (nI_add ((zbv f (at_) 8) * 256) (zbv f (at_ + 8) 8))
            refine lv_bipush (v := 31) hx hb dX4_readHead_73 (by decide) ?_
            refine lv_irem hx hb dX4_readHead_75 (by decide) ?_
            refine lv_topi (fun y_5 ey_5 => ?_)
            obtain rfl : y_5 = nI ((((zbv f (at_) 8) * 256) + (zbv f (at_ + 8) 8)) % 31) := ey_5.trans (pk_rem (a := (((zbv f (at_) 8) * 256) + (zbv f (at_ + 8) 8))) (d := 31) (by omega) (by omega) (by omega))
            refine lv_if_eq (tgt := 89) hx hb dX4_readHead_76 (by decide) (fun c76 => ?_) (fun c76 => ?_)
            · have c76 : ((((zbv f (at_) 8) * 256) + (zbv f (at_ + 8) 8)) % 31) = 0 := (nI_eq (a := ((((zbv f (at_) 8) * 256) + (zbv f (at_ + 8) 8)) % 31)) (b := 0) (by omega) (by omega)).mp c76
              have hP : va_P (dC, dI) vwCl [(h0, .inr (4, [.ref rd, w1, w2, w3, w4, w5, w6])), (rd, .inr (0, [.ref b, .int (nI (at_ + 16)), .int lim])), (b, .inl (cB, n0, .inl f))] H := hP
              have hD : va_D A [(h0, .inr (4, [.ref rd, w1, w2, w3, w4, w5, w6])), (rd, .inr (0, [.ref b, .int (nI (at_ + 16)), .int lim])), (b, .inl (cB, n0, .inl f))] := hD
              have hP9 := hP.sub (ws' := [(h0, .inr (4, [.ref rd, w1, w2, w3, w4, w5, w6])), (rd, .inr (0, [.ref b, .int (nI (at_ + 16)), .int lim])), (b, .inl (cB, n0, .inl f))]) [0, 1, 2] rfl
              have hD9 := hD.sub (ws' := [(h0, .inr (4, [.ref rd, w1, w2, w3, w4, w5, w6])), (rd, .inr (0, [.ref b, .int (nI (at_ + 16)), .int lim])), (b, .inl (cB, n0, .inl f))]) [0, 1, 2] (by decide) rfl
              exact vx_ret (W.vret hx hb hr (fun t ht hW => ⟨⟨(), rfl, ⟨by omega, by omega, by omega, c47, c76⟩, ⟨by rw [ht]; exact hP9, va_K.moved hW.alike hK, hD9⟩⟩, hS.F ht⟩) hS.2.2 dX4_readHead_89)
            · have c76 : ¬ (((((zbv f (at_) 8) * 256) + (zbv f (at_ + 8) 8)) % 31) = 0) := fun h => c76 ((nI_eq (a := ((((zbv f (at_) 8) * 256) + (zbv f (at_ + 8) 8)) % 31)) (b := 0) (by omega) (by omega)).mpr h)
              have hP9 := hP.sub (ws' := [(h0, .inr (4, [.ref rd, w1, w2, w3, w4, w5, w6])), (rd, .inr (0, [.ref b, .int (nI ((at_ + 8) + 8)), .int lim])), (b, .inl (cB, n0, .inl f))]) [0, 1, 2] rfl
              have hD9 := hD.sub (ws' := [(h0, .inr (4, [.ref rd, w1, w2, w3, w4, w5, w6])), (rd, .inr (0, [.ref b, .int (nI ((at_ + 8) + 8)), .int lim])), (b, .inl (cB, n0, .inl f))]) [0, 1, 2] (by decide) rfl
              obtain ⟨sa9, hstr9⟩ := zX_X4_87 hE
              exact vx_throwS (own := RX4) (cls := "java/lang/UnsupportedOperationException") (names := ["java/lang/RuntimeException", "java/lang/Exception"]) hx hb hl9 hown (by decide +kernel) (by decide +kernel) (hts (.classLink RX4 77 "java/lang/UnsupportedOperationException") (by decide +kernel)) (hts (.initialized "java/lang/UnsupportedOperationException") (by decide +kernel)) hstr9 (vx_hat (L := vx_atS RX4 81 "java/lang/UnsupportedOperationException" ["java/lang/RuntimeException", "java/lang/Exception"]) (B := zBad "java/lang/UnsupportedOperationException") (fun w hw => hts w ((by decide +kernel : ∀ w ∈ (vx_atS RX4 81 "java/lang/UnsupportedOperationException" ["java/lang/RuntimeException", "java/lang/Exception"]).filter goodWord, w ∈ wsX4_readHead) w hw)) (by decide +kernel) (zBad_UnsupportedOperationException hE)) (by decide +kernel) (zE_U hE) (zE_N hE) hS (hl.1.trans hml.symm) dX4_readHead_79 dX4_readHead_82 dX4_readHead_83 dX4_readHead_85 dX4_readHead_88 (fun x hx => (hEx x hx).elim) (Nat.le_of_ble_eq_true rfl) (Nat.le_of_ble_eq_true rfl) (Nat.le_of_ble_eq_true rfl) (Nat.le_of_ble_eq_true rfl) hlocks (fun t ha hsz hk => ⟨("java/lang/UnsupportedOperationException", nI (at_ + 8 + 8)), ⟨rfl, fun h => absurd h.2.2.2.2 c76⟩, ⟨rfl, hP9.kept (fun k q hq => hk q.1 (hP9 k q hq).lt), va_K.moved ha hK, hD9⟩, Nat.le_trans hS.1 hsz, fun q h1 h2 => (hk q (Nat.lt_of_lt_of_le h1 hS.1)).trans (hS.2.1 q h1 h2)⟩) hS.2.2 (Nat.le_of_ble_eq_true rfl) (Nat.le_of_ble_eq_true rfl)
      · refine lv_iconst (v := 1) hx hb dX4_readHead_50 (by decide) ?_
        refine lv_goto (tgt := 55) hx hb dX4_readHead_51 (by decide) ?_
        refine lv_istore (lv' := [(4, .int 1), (3, .int 1), (2, .int (nI (zbv f (at_ + 8) 8))), (1, .int (nI (zbv f (at_) 8))), (0, .ref h0)]) hx hb dX4_readHead_55 hl (by decide) rfl (fun ls hl => ?_)
        refine lv_iload_n hx hb dX4_readHead_57 rfl (lv_at hl 1 rfl) ?_
        refine lv_if_eq (tgt := 79) hx hb dX4_readHead_58 (by decide) (fun c58 => ?_) (fun c58 => ?_)
        · have c58 : 1 = 0 := (nI_eq (a := 1) (b := 0) (by omega) (by omega)).mp c58
          exfalso; omega
        · have c58 : ¬ (1 = 0) := fun h => c58 ((nI_eq (a := 1) (b := 0) (by omega) (by omega)).mpr h)
          refine lv_iload hx hb dX4_readHead_61 (lv_at hl 0 rfl) ?_
          refine lv_if_ne (tgt := 79) hx hb dX4_readHead_63 (by decide) (fun c63 => ?_) (fun c63 => ?_)
          · have c63 : ¬ (1 = 0) := fun h => c63 ((nI_eq (a := 1) (b := 0) (by omega) (by omega)).mpr h)
            have hP9 := hP.sub (ws' := [(h0, .inr (4, [.ref rd, w1, w2, w3, w4, w5, w6])), (rd, .inr (0, [.ref b, .int (nI ((at_ + 8) + 8)), .int lim])), (b, .inl (cB, n0, .inl f))]) [0, 1, 2] rfl
            have hD9 := hD.sub (ws' := [(h0, .inr (4, [.ref rd, w1, w2, w3, w4, w5, w6])), (rd, .inr (0, [.ref b, .int (nI ((at_ + 8) + 8)), .int lim])), (b, .inl (cB, n0, .inl f))]) [0, 1, 2] (by decide) rfl
            obtain ⟨sa9, hstr9⟩ := zX_X4_87 hE
            exact vx_throwS (own := RX4) (cls := "java/lang/UnsupportedOperationException") (names := ["java/lang/RuntimeException", "java/lang/Exception"]) hx hb hl9 hown (by decide +kernel) (by decide +kernel) (hts (.classLink RX4 77 "java/lang/UnsupportedOperationException") (by decide +kernel)) (hts (.initialized "java/lang/UnsupportedOperationException") (by decide +kernel)) hstr9 (vx_hat (L := vx_atS RX4 81 "java/lang/UnsupportedOperationException" ["java/lang/RuntimeException", "java/lang/Exception"]) (B := zBad "java/lang/UnsupportedOperationException") (fun w hw => hts w ((by decide +kernel : ∀ w ∈ (vx_atS RX4 81 "java/lang/UnsupportedOperationException" ["java/lang/RuntimeException", "java/lang/Exception"]).filter goodWord, w ∈ wsX4_readHead) w hw)) (by decide +kernel) (zBad_UnsupportedOperationException hE)) (by decide +kernel) (zE_U hE) (zE_N hE) hS (hl.1.trans hml.symm) dX4_readHead_79 dX4_readHead_82 dX4_readHead_83 dX4_readHead_85 dX4_readHead_88 (fun x hx => (hEx x hx).elim) (Nat.le_of_ble_eq_true rfl) (Nat.le_of_ble_eq_true rfl) (Nat.le_of_ble_eq_true rfl) (Nat.le_of_ble_eq_true rfl) hlocks (fun t ha hsz hk => ⟨("java/lang/UnsupportedOperationException", nI (at_ + 8 + 8)), ⟨rfl, fun h => absurd h.2.2.2.1 c47⟩, ⟨rfl, hP9.kept (fun k q hq => hk q.1 (hP9 k q hq).lt), va_K.moved ha hK, hD9⟩, Nat.le_trans hS.1 hsz, fun q h1 h2 => (hk q (Nat.lt_of_lt_of_le h1 hS.1)).trans (hS.2.1 q h1 h2)⟩) hS.2.2 (Nat.le_of_ble_eq_true rfl) (Nat.le_of_ble_eq_true rfl)
          · have c63 : 1 = 0 := (nI_eq (a := 1) (b := 0) (by omega) (by omega)).mp c63
            exfalso; omega

abbrev rm_X4_checkSum : Room := { frames := 6, cells := 1, slots := 6, locals := 96 }
abbrev wo_X4_checkSum (dC : Nat → ClassId) (dI : Nat → Nat → Nat) (cB cI cJ cM : ClassId) (h0 op b n0 : Nat) (w0 w1 w2 w3 : Value) (w6 : Value) (o f : Nat → Int32) (m_ a : Nat) : va_W := [(h0, .inr (4, [w0, w1, w2, w3, .ref op, .int (nI m_), w6])), (op, .inl (cB, 8192, .inl o)), (b, .inl (cB, n0, .inl f))]
abbrev q_X4_checkSum (dC : Nat → ClassId) (dI : Nat → Nat → Nat) (cB cI cJ cM : ClassId) (h0 op b n0 : Nat) (w0 w1 w2 w3 : Value) (w6 : Value) (o f : Nat → Int32) (m_ a : Nat) (A : Nat → Prop) : Array Value → State → Outcome → State → Prop := va_Qv (fun (u : Unit) => zdu f a 4 = zadler o m_) (zB dC dI cB cI cJ cM A (fun u : Unit => [(h0, .inr (4, [w0, w1, w2, w3, .ref op, .int (nI m_), w6])), (op, .inl (cB, 8192, .inl o)), (b, .inl (cB, n0, .inl f))])) A
abbrev x_X4_checkSum (dC : Nat → ClassId) (dI : Nat → Nat → Nat) (cB cI cJ cM : ClassId) (h0 op b n0 : Nat) (w0 w1 w2 w3 : Value) (w6 : Value) (o f : Nat → Int32) (m_ a : Nat) (A : Nat → Prop) : String → State → State → Prop := vx_X (fun (u : String × (Unit)) => (u.1 = "java/lang/UnsupportedOperationException") ∧ (¬ zdu f a 4 = zadler o m_)) (fun E (u : String × (Unit)) t => E = u.1 ∧ zB dC dI cB cI cJ cM A (fun u : Unit => [(h0, .inr (4, [w0, w1, w2, w3, .ref op, .int (nI m_), w6])), (op, .inl (cB, 8192, .inl o)), (b, .inl (cB, n0, .inl f))]) u.2 t) A
set_option maxHeartbeats 8000000 in
set_option maxRecDepth 100000 in
/-- checkSum -/
theorem k_X4_checkSum (l : Launch) (hl9 : l.stackTraces = false) (dC : Nat → ClassId) (dI : Nat → Nat → Nat) (cB cI cJ cM : ClassId) (h0 op b n0 : Nat) (w0 w1 w2 w3 : Value) (w6 : Value) (o f : Nat → Int32) (m_ a : Nat) (h1 : m_ ≤ 8192) (h2 : a + 4 ≤ n0) (h3 : n0 < 100000) (sz : Nat) : vx_Met l yX4_checkSum wsX4_checkSum rm_X4_checkSum (va_Pc [.ref h0, .ref b, .int (nI a)] (fun U => U.heap.size = sz ∧ va_P (dC, dI) vwCl (wo_X4_checkSum dC dI cB cI cJ cM h0 op b n0 w0 w1 w2 w3 w6 o f m_ a) U.heap ∧ va_K (dC, dI) vwCl (zT cB cI cJ cM) U ∧ va_D (fun _ => True) (wo_X4_checkSum dC dI cB cI cJ cM h0 op b n0 w0 w1 w2 w3 w6 o f m_ a) ∧ zE (va_A (wo_X4_checkSum dC dI cB cI cJ cM h0 op b n0 w0 w1 w2 w3 w6 o f m_ a) sz) U)) (q_X4_checkSum dC dI cB cI cJ cM h0 op b n0 w0 w1 w2 w3 w6 o f m_ a (va_A (wo_X4_checkSum dC dI cB cI cJ cM h0 op b n0 w0 w1 w2 w3 w6 o f m_ a) sz)) (x_X4_checkSum dC dI cB cI cJ cM h0 op b n0 w0 w1 w2 w3 w6 o f m_ a (va_A (wo_X4_checkSum dC dI cB cI cJ cM h0 op b n0 w0 w1 w2 w3 w6 o f m_ a) sz)) 0 0 1 6 (va_A (wo_X4_checkSum dC dI cB cI cJ cM h0 op b n0 w0 w1 w2 w3 w6 o f m_ a) sz) := by
  refine vx_ofW (cc := cX4_checkSum) (maxL := 5) (ret := none) (by decide) rfl ?_
  intro p e s m args below meth c s₁ B hml hEx hv
  obtain ⟨rfl, hsz, hP, hK, hD0, hE⟩ := hv
  have hx := B.exec
  have hb := B.bytes
  have hr := B.returns
  have hts := atoms_spec (ws := wsX4_checkSum) B.pre
  have hown : s.vm.findClass RX4 = some m.cls := findClass_of_methodNamed B.named
  have hlocks := B.notSynchronized
  subst hsz
  have hD := hD0.self (sz := s.heap.size)
  generalize hAe : va_A (wo_X4_checkSum dC dI cB cI cJ cM h0 op b n0 w0 w1 w2 w3 w6 o f m_ a) s.heap.size = A at hD hE ⊢
  have hA : ∀ q : Nat, s.heap.size ≤ q → A q := fun q h => by rw [← hAe]; exact Or.inr h
  have hS : va_S A s.heap s.heap [] := va_S.rf
  have hP : va_P (dC, dI) vwCl [(h0, .inr (4, [w0, w1, w2, w3, .ref op, .int (nI m_), w6])), (op, .inl (cB, 8192, .inl o)), (b, .inl (cB, n0, .inl f))] s.heap := hP
  have hD : va_D A [(h0, .inr (4, [w0, w1, w2, w3, .ref op, .int (nI m_), w6])), (op, .inl (cB, 8192, .inl o)), (b, .inl (cB, n0, .inl f))] := hD
  have hl := lv_entry ([.ref h0, .ref b, .int (nI a)]) (n := 5) (Nat.le_of_ble_eq_true rfl)
  rw [lg_entry_eq]
  generalize (lg_sl ([.ref h0, .ref b, .int (nI a)]) ++ List.replicate (5 - (lg_sl ([.ref h0, .ref b, .int (nI a)])).length) Slot.unset).toArray = ls at hl ⊢
  have hl : lv_has ls 5 [(0, .ref h0), (1, .ref b), (2, .int (nI a))] := hl
  refine lv_iconst (v := 0) hx hb dX4_checkSum_0 (by decide) ?_
  refine lv_istore_n (lv' := [(3, .int 0), (0, .ref h0), (1, .ref b), (2, .int (nI a))]) hx hb dX4_checkSum_1 rfl hl (by decide) rfl (fun ls hl => ?_)
  refine lv_iload_n hx hb dX4_checkSum_2 rfl (lv_at hl 3 rfl) ?_
  refine lv_istore (lv' := [(4, .int (nI a)), (3, .int 0), (0, .ref h0), (1, .ref b), (2, .int (nI a))]) hx hb dX4_checkSum_3 hl (by decide) rfl (fun ls hl => ?_)
  have cut5 : ∀ (fuel : Nat) (j : Nat) (w : Int32), (j ≤ 4) → (w = zdu f a j) → (4 - j < fuel) → ∀ (H : Heap) (locs : List Loc), va_P (dC, dI) vwCl [(h0, .inr (4, [w0, w1, w2, w3, .ref op, .int (nI m_), w6])), (op, .inl (cB, 8192, .inl o)), (b, .inl (cB, n0, .inl f))] H → va_D A [(h0, .inr (4, [w0, w1, w2, w3, .ref op, .int (nI m_), w6])), (op, .inl (cB, 8192, .inl o)), (b, .inl (cB, n0, .inl f))] → va_S A s.heap H locs → ∀ (ls : Array Slot), lv_has ls 5 [(0, .ref h0), (1, .ref b), (2, .int (nI a)), (3, .int w), (4, .int (nI (a + j)))] → W p l e (headSpec wsX4_checkSum rm_X4_checkSum).room s m ([.ref h0, .ref b, .int (nI a)] : List Value).toArray below meth c H locs 0 0 (vx_MQ below (q_X4_checkSum dC dI cB cI cJ cM h0 op b n0 w0 w1 w2 w3 w6 o f m_ a A) (x_X4_checkSum dC dI cB cI cJ cM h0 op b n0 w0 w1 w2 w3 w6 o f m_ a A) ([.ref h0, .ref b, .int (nI a)] : List Value).toArray s 0 0 1 6 A) (F0 m 5 ls []) := by
    intro fuel
    induction fuel with
    | zero => intros; omega
    | succ fuel ih =>
      intro j w hj hw3 hfuel H locs hP hD hS ls hl
      refine lv_iload hx hb dX4_checkSum_5 (lv_at hl 4 rfl) ?_
      refine lv_iload_n hx hb dX4_checkSum_7 rfl (lv_at hl 2 rfl) ?_
      refine lv_iconst (v := 4) hx hb dX4_checkSum_8 (by decide) ?_
      refine lv_iadd hx hb dX4_checkSum_9 ?_
      refine lv_topi (fun y_1 ey_1 => ?_)
      obtain rfl : y_1 = nI (a + 4) := ey_1.trans (nI_add a 4)
      refine lv_icmp_ge (tgt := 33) hx hb dX4_checkSum_10 (by decide) (fun c10 => ?_) (fun c10 => ?_)
      · have c10 : (a + 4) ≤ (a + j) := (nI_leI (a := (a + 4)) (b := (a + j)) (by omega) (by omega)).mp c10
        have hj4 : j = 4 := by omega
        rw [hj4] at hw3
        refine lv_iload_n hx hb dX4_checkSum_33 rfl (lv_at hl 3 rfl) ?_
        refine lv_aload_n hx hb dX4_checkSum_34 rfl (lv_at hl 0 rfl) ?_
        refine va_get (D := (dC, dI)) (ci := 4) (v := .ref op) (C := RX4) (T := TX4) (N := 7) hx hb hts (by decide +kernel) hown hK hP 0 rfl rfl 4 (by decide) (hts (.fieldLink RX4 45 "FixedPress$Opener" "out" "[B") (by decide +kernel)) (fun _ h9 => h9) rfl dX4_checkSum_35 ?_
        refine lv_aload_n hx hb dX4_checkSum_38 rfl (lv_at hl 0 rfl) ?_
        refine va_get (D := (dC, dI)) (ci := 4) (v := .int (nI m_)) (C := RX4) (T := TX4) (N := 7) hx hb hts (by decide +kernel) hown hK hP 0 rfl rfl 5 (by decide) (hts (.fieldLink RX4 49 "FixedPress$Opener" "outLength" "I") (by decide +kernel)) (fun _ h9 => h9) rfl dX4_checkSum_39 ?_
        have hPc := hP.sub (ws' := [(op, .inl (cB, 8192, .inl o))]) [1] rfl
        have hDc := hD.sub (ws' := [(op, .inl (cB, 8192, .inl o))]) [1] (by decide) rfl
        have hFc := va_free (wc := [(op, .inl (cB, 8192, .inl o))]) hD hS hA [1] rfl
        refine va_calli (va_runSN (As := [.ref op, .int (nI m_)]) (rest := [.int w]) ⟨hx, hb, hml, hown, hts⟩ (k_X7_adler l dC dI cB cI cJ cM op 8192 o m_ (by omega) (by omega) H.size) ⟨va_cnB 2 hts gX4_checkSum_X7_adler_n143 rfl rfl rfl (zN_X4_143 (a := #[]) hE) (hts (.initialized RX7) (by decide +kernel)) (by decide +kernel) ⟨Nat.le_of_ble_eq_true rfl, Nat.le_of_ble_eq_true rfl⟩, hts (.static yX7_adler) (by decide +kernel), trivial⟩ ⟨fun a U g mk q => by obtain ⟨q0, q1, qP, qK, qD⟩ := q; exact ⟨q0, q1, qP, va_K.moved (u := U) (U := U.calling g mk a) (Vm.Alike.refl U.vm) qK, qD⟩, fun U hU hW => ⟨rfl, by rw [hU], by rw [hU]; exact hPc, va_K.moved hW.alike hK, hDc.weaken (fun _ _ _ _ => trivial)⟩⟩ rfl rfl hl.1 rfl (lv_room (Nat.le_of_ble_eq_true rfl)) dX4_checkSum_42 ⟨(show 0 + 0 ≤ 1 by omega), (show 0 + 0 ≤ 6 by omega)⟩) hS (fun q _ h => hFc q h) hFc (fun r42 u t H1 locs ht hvm hw hB hz1 hk1 hS => ?_)
        have hP1 : va_P (dC, dI) vwCl [(op, .inl (cB, 8192, .inl o))] H1 := by rw [← ht]; exact hB.1
        have hD1 : va_D (va_A [(op, .inl (cB, 8192, .inl o))] H.size) [(op, .inl (cB, 8192, .inl o))] := hB.2.2
        obtain ⟨hP, hD⟩ := va_join (wr := [(h0, .inr (4, [w0, w1, w2, w3, .ref op, .int (nI m_), w6])), (b, .inl (cB, n0, .inl f))]) (w1 := [(op, .inl (cB, 8192, .inl o))]) hP hD [1] [0, 2] rfl rfl (by decide) (by decide) hk1 hFc hP1 hD1
        generalize H1 = H at hP hS ⊢
        try dsimp only at hw
        have hP : va_P (dC, dI) vwCl [(h0, .inr (4, [w0, w1, w2, w3, .ref op, .int (nI m_), w6])), (b, .inl (cB, n0, .inl f)), (op, .inl (cB, 8192, .inl o))] H := hP
        have hD : va_D A [(h0, .inr (4, [w0, w1, w2, w3, .ref op, .int (nI m_), w6])), (b, .inl (cB, n0, .inl f)), (op, .inl (cB, 8192, .inl o))] := hD
        obtain rfl : r42 = zadler o m_ := hw
        refine W.eq (g2 := F0 m 45 ls [.int (zadler o m_), .int w]) rfl ?_
        refine lv_icmp_eq (tgt := 58) hx hb dX4_checkSum_45 (by decide) (fun c45 => ?_) (fun c45 => ?_)
        · have hP9 := hP.sub (ws' := [(h0, .inr (4, [w0, w1, w2, w3, .ref op, .int (nI m_), w6])), (op, .inl (cB, 8192, .inl o)), (b, .inl (cB, n0, .inl f))]) [0, 2, 1] rfl
          have hD9 := hD.sub (ws' := [(h0, .inr (4, [w0, w1, w2, w3, .ref op, .int (nI m_), w6])), (op, .inl (cB, 8192, .inl o)), (b, .inl (cB, n0, .inl f))]) [0, 2, 1] (by decide) rfl
          exact vx_ret (W.vret hx hb hr (fun t ht hW => ⟨⟨(), rfl, hw3.symm.trans c45, ⟨by rw [ht]; exact hP9, va_K.moved hW.alike hK, hD9⟩⟩, hS.F ht⟩) hS.2.2 dX4_checkSum_58)
        · have hP9 := hP.sub (ws' := [(h0, .inr (4, [w0, w1, w2, w3, .ref op, .int (nI m_), w6])), (op, .inl (cB, 8192, .inl o)), (b, .inl (cB, n0, .inl f))]) [0, 2, 1] rfl
          have hD9 := hD.sub (ws' := [(h0, .inr (4, [w0, w1, w2, w3, .ref op, .int (nI m_), w6])), (op, .inl (cB, 8192, .inl o)), (b, .inl (cB, n0, .inl f))]) [0, 2, 1] (by decide) rfl
          obtain ⟨sa9, hstr9⟩ := zX_X4_147 hE
          exact vx_throwS (own := RX4) (cls := "java/lang/UnsupportedOperationException") (names := ["java/lang/RuntimeException", "java/lang/Exception"]) hx hb hl9 hown (by decide +kernel) (by decide +kernel) (hts (.classLink RX4 77 "java/lang/UnsupportedOperationException") (by decide +kernel)) (hts (.initialized "java/lang/UnsupportedOperationException") (by decide +kernel)) hstr9 (vx_hat (L := vx_atS RX4 81 "java/lang/UnsupportedOperationException" ["java/lang/RuntimeException", "java/lang/Exception"]) (B := zBad "java/lang/UnsupportedOperationException") (fun w hw => hts w ((by decide +kernel : ∀ w ∈ (vx_atS RX4 81 "java/lang/UnsupportedOperationException" ["java/lang/RuntimeException", "java/lang/Exception"]).filter goodWord, w ∈ wsX4_checkSum) w hw)) (by decide +kernel) (zBad_UnsupportedOperationException hE)) (by decide +kernel) (zE_U hE) (zE_N hE) hS (hl.1.trans hml.symm) dX4_checkSum_48 dX4_checkSum_51 dX4_checkSum_52 dX4_checkSum_54 dX4_checkSum_57 (fun x hx => (hEx x hx).elim) (Nat.le_of_ble_eq_true rfl) (Nat.le_of_ble_eq_true rfl) (Nat.le_of_ble_eq_true rfl) (Nat.le_of_ble_eq_true rfl) hlocks (fun t ha hsz hk => ⟨("java/lang/UnsupportedOperationException", ()), ⟨rfl, fun h => c45 (hw3.trans h)⟩, ⟨rfl, hP9.kept (fun k q hq => hk q.1 (hP9 k q hq).lt), va_K.moved ha hK, hD9⟩, Nat.le_trans hS.1 hsz, fun q h1 h2 => (hk q (Nat.lt_of_lt_of_le h1 hS.1)).trans (hS.2.1 q h1 h2)⟩) hS.2.2 (Nat.le_of_ble_eq_true rfl) (Nat.le_of_ble_eq_true rfl)
      · have c10 : ¬ ((a + 4) ≤ (a + j)) := fun h => c10 ((nI_leI (a := (a + 4)) (b := (a + j)) (by omega) (by omega)).mpr h)
        refine lv_iload_n hx hb dX4_checkSum_13 rfl (lv_at hl 3 rfl) ?_
        refine lv_bipush (v := 8) hx hb dX4_checkSum_14 (by decide) ?_
        refine lv_ishl hx hb dX4_checkSum_16 ?_
        refine lv_aload_n hx hb dX4_checkSum_17 rfl (lv_at hl 1 rfl) ?_
        refine lv_iload hx hb dX4_checkSum_18 (lv_at hl 4 rfl) ?_
        refine va_bald hx hb hK hP 2 0 rfl rfl (vp_in_nI (n := a + j) (by omega) (by omega)) dX4_checkSum_20 ?_
        rw [nI_clamp (n := a + j) (by omega)]
        refine lv_sipush (v := 255) hx hb dX4_checkSum_21 (by decide) ?_
        refine lv_iand hx hb dX4_checkSum_24 ?_
        refine lv_ior hx hb dX4_checkSum_25 ?_
        refine lv_istore_n (lv' := [(3, .int ((w <<< (8 &&& 31)) ||| ((f (a + j)) &&& 255))), (0, .ref h0), (1, .ref b), (2, .int (nI a)), (4, .int (nI (a + j)))]) hx hb dX4_checkSum_26 rfl hl (by decide) rfl (fun ls hl => ?_)
        refine lv_iinc (v := nI (a + j + 1)) (lv' := [(4, .int (nI (a + j + 1))), (3, .int ((w <<< (8 &&& 31)) ||| ((f (a + j)) &&& 255))), (0, .ref h0), (1, .ref b), (2, .int (nI a))]) hx hb dX4_checkSum_27 hl (k := 4) rfl (show nI (a + j) + Int32.ofInt 1 = _ from nI_add (a + j) 1) (by decide) rfl (fun ls hl => ?_)
        refine lv_goto (tgt := 5) hx hb dX4_checkSum_30 (by decide) ?_
        exact ih (j + 1) ((w <<< (8 &&& 31)) ||| ((f (a + j)) &&& 255)) (by omega) (by subst hw3; rfl) (by omega) _ _ hP hD hS _ (lv_sub hl [2, 3, 4, 1, 0] rfl)
  exact cut5 (4 - 0 + 1) 0 0 (by omega) (rfl) (by omega) _ _ hP hD hS _ (lv_sub hl [2, 3, 4, 1, 0] rfl)
