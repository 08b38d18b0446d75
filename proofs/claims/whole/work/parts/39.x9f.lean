abbrev rm_X9_pack_ : Room := { frames := 5, cells := 0, slots := 0, locals := 117 }
abbrev wo_X9_pack_ (dC : Nat → ClassId) (dI : Nat → Nat → Nat) (cB cI cJ cM : ClassId) (h0 pp tp rp : Nat) (g g8 tx : Nat → Int32) (n : Nat) (x2 x3 x4 x5 : Int32) (m0 m4 m5 m6 m7 m8 m9 m10 m11 m12 m13 m14 m15 m16 m17 m18 : Value) : va_W := [(h0, .inr (9, [m0, .ref pp, .int x2, .int x3, m4, m5, m6, m7, m8, m9, m10, m11, m12, m13, m14, m15, m16, m17, m18, .ref tp, .int (nI n), .ref rp, .int x4, .int x5])), (pp, .inl (cB, 16384, .inl g)), (tp, .inl (cB, 4000, .inl tx)), (rp, .inl (cB, 8192, .inl g8))]
abbrev q_X9_pack_ (dC : Nat → ClassId) (dI : Nat → Nat → Nat) (cB cI cJ cM : ClassId) (h0 pp tp rp : Nat) (g g8 tx : Nat → Int32) (n : Nat) (x2 x3 x4 x5 : Int32) (m0 m4 m5 m6 m7 m8 m9 m10 m11 m12 m13 m14 m15 m16 m17 m18 : Value) (A : Nat → Prop) : Array Value → State → Outcome → State → Prop := va_Qi (fun (r : Int32) (u : (Nat → Int32) × (Nat → Int32)) => r = nI (zPL tx n / 8) ∧ zOut u.2 (zPV tx n) (zPL tx n) ∧ zPL tx n ≤ 36100) (zB dC dI cB cI cJ cM A (fun u : (Nat → Int32) × (Nat → Int32) => [(h0, .inr (9, [m0, .ref pp, .int (nI (zPL tx n / 8)), .int 0, m4, m5, m6, m7, m8, m9, m10, m11, m12, m13, m14, m15, m16, m17, m18, .ref tp, .int 0, .ref rp, .int (nI (zPL tx n / 8)), .int 0])), (pp, .inl (cB, 16384, .inl u.1)), (tp, .inl (cB, 4000, .inl tx)), (rp, .inl (cB, 8192, .inl u.2))])) A
set_option maxHeartbeats 8000000 in
set_option maxRecDepth 100000 in
/-- pack of the reference -/
theorem k_X9_pack_ (l : Launch) (dC : Nat → ClassId) (dI : Nat → Nat → Nat) (cB cI cJ cM : ClassId) (h0 pp tp rp : Nat) (g g8 tx : Nat → Int32) (n : Nat) (x2 x3 x4 x5 : Int32) (m0 m4 m5 m6 m7 m8 m9 m10 m11 m12 m13 m14 m15 m16 m17 m18 : Value) (h1 : n ≤ 4000) (sz : Nat) : Met l yX9_pack_ wsX9_pack_ rm_X9_pack_ (va_Pc [.ref h0] (fun U => U.heap.size = sz ∧ va_P (dC, dI) vwCl (wo_X9_pack_ dC dI cB cI cJ cM h0 pp tp rp g g8 tx n x2 x3 x4 x5 m0 m4 m5 m6 m7 m8 m9 m10 m11 m12 m13 m14 m15 m16 m17 m18) U.heap ∧ va_K (dC, dI) vwCl (zT cB cI cJ cM) U ∧ va_D (fun _ => True) (wo_X9_pack_ dC dI cB cI cJ cM h0 pp tp rp g g8 tx n x2 x3 x4 x5 m0 m4 m5 m6 m7 m8 m9 m10 m11 m12 m13 m14 m15 m16 m17 m18))) (q_X9_pack_ dC dI cB cI cJ cM h0 pp tp rp g g8 tx n x2 x3 x4 x5 m0 m4 m5 m6 m7 m8 m9 m10 m11 m12 m13 m14 m15 m16 m17 m18 (va_A (wo_X9_pack_ dC dI cB cI cJ cM h0 pp tp rp g g8 tx n x2 x3 x4 x5 m0 m4 m5 m6 m7 m8 m9 m10 m11 m12 m13 m14 m15 m16 m17 m18) sz)) 0 0 (va_A (wo_X9_pack_ dC dI cB cI cJ cM h0 pp tp rp g g8 tx n x2 x3 x4 x5 m0 m4 m5 m6 m7 m8 m9 m10 m11 m12 m13 m14 m15 m16 m17 m18) sz) := by
  refine Met.ofW (cc := cX9_pack_) (maxL := 2) (ret := (some .int)) (by decide) rfl ?_
  intro p e s m args below meth c s₁ B hml hv
  obtain ⟨rfl, hsz, hP, hK, hD0⟩ := hv
  have hx := B.exec
  have hb := B.bytes
  have hr := B.returns
  have hts := atoms_spec (ws := wsX9_pack_) B.pre
  have hown : s.vm.findClass RX9 = some m.cls := findClass_of_methodNamed B.named
  have hlocks := B.notSynchronized
  subst hsz
  have hD := hD0.self (sz := s.heap.size)
  generalize hAe : va_A (wo_X9_pack_ dC dI cB cI cJ cM h0 pp tp rp g g8 tx n x2 x3 x4 x5 m0 m4 m5 m6 m7 m8 m9 m10 m11 m12 m13 m14 m15 m16 m17 m18) s.heap.size = A at hD ⊢
  have hA : ∀ q : Nat, s.heap.size ≤ q → A q := fun q h => by rw [← hAe]; exact Or.inr h
  have hS : va_S A s.heap s.heap [] := va_S.rf
  have hP : va_P (dC, dI) vwCl [(h0, .inr (9, [m0, .ref pp, .int x2, .int x3, m4, m5, m6, m7, m8, m9, m10, m11, m12, m13, m14, m15, m16, m17, m18, .ref tp, .int (nI n), .ref rp, .int x4, .int x5])), (pp, .inl (cB, 16384, .inl g)), (tp, .inl (cB, 4000, .inl tx)), (rp, .inl (cB, 8192, .inl g8))] s.heap := hP
  have hD : va_D A [(h0, .inr (9, [m0, .ref pp, .int x2, .int x3, m4, m5, m6, m7, m8, m9, m10, m11, m12, m13, m14, m15, m16, m17, m18, .ref tp, .int (nI n), .ref rp, .int x4, .int x5])), (pp, .inl (cB, 16384, .inl g)), (tp, .inl (cB, 4000, .inl tx)), (rp, .inl (cB, 8192, .inl g8))] := hD
  have hl := lv_entry ([.ref h0]) (n := 2) (Nat.le_of_ble_eq_true rfl)
  rw [lg_entry_eq]
  generalize (lg_sl ([.ref h0]) ++ List.replicate (2 - (lg_sl ([.ref h0])).length) Slot.unset).toArray = ls at hl ⊢
  have hl : lv_has ls 2 [(0, .ref h0)] := hl
  refine lv_aload_n hx hb dX9_pack__0 rfl (lv_at hl 0 rfl) ?_
  refine lv_aload_n hx hb dX9_pack__1 rfl (lv_at hl 0 rfl) ?_
  refine va_get (D := (dC, dI)) (ci := 9) (v := .ref tp) (C := RX9) (T := TX9) (N := 24) hx hb hts (by decide +kernel) hown hK hP 0 rfl rfl 19 (by decide) (hts (.fieldLink RX9 144 "FixedPressModel" "tape" "[B") (by decide +kernel)) (fun _ h9 => h9) rfl dX9_pack__2 ?_
  refine lv_iconst (v := 0) hx hb dX9_pack__5 (by decide) ?_
  refine lv_aload_n hx hb dX9_pack__6 rfl (lv_at hl 0 rfl) ?_
  refine va_get (D := (dC, dI)) (ci := 9) (v := .int (nI n)) (C := RX9) (T := TX9) (N := 24) hx hb hts (by decide +kernel) hown hK hP 0 rfl rfl 20 (by decide) (hts (.fieldLink RX9 153 "FixedPressModel" "taped" "I") (by decide +kernel)) (fun _ h9 => h9) rfl dX9_pack__7 ?_
  have hPc := hP.sub (ws' := [(h0, .inr (9, [m0, .ref pp, .int x2, .int x3, m4, m5, m6, m7, m8, m9, m10, m11, m12, m13, m14, m15, m16, m17, m18, .ref tp, .int (nI n), .ref rp, .int x4, .int x5])), (pp, .inl (cB, 16384, .inl g)), (tp, .inl (cB, 4000, .inl tx))]) [0, 1, 2] rfl
  have hDc := hD.sub (ws' := [(h0, .inr (9, [m0, .ref pp, .int x2, .int x3, m4, m5, m6, m7, m8, m9, m10, m11, m12, m13, m14, m15, m16, m17, m18, .ref tp, .int (nI n), .ref rp, .int x4, .int x5])), (pp, .inl (cB, 16384, .inl g)), (tp, .inl (cB, 4000, .inl tx))]) [0, 1, 2] (by decide) rfl
  have hFc := va_free (wc := [(h0, .inr (9, [m0, .ref pp, .int x2, .int x3, m4, m5, m6, m7, m8, m9, m10, m11, m12, m13, m14, m15, m16, m17, m18, .ref tp, .int (nI n), .ref rp, .int x4, .int x5])), (pp, .inl (cB, 16384, .inl g)), (tp, .inl (cB, 4000, .inl tx))]) hD hS hA [0, 1, 2] rfl
  refine va_callv (va_runV (As := [.ref tp, .int 0, .int (nI n)]) (rest := []) ⟨hx, hb, hml, hown, hts⟩ (k_X9_pack l dC dI cB cI cJ cM h0 pp tp g tx n x2 x3 m0 m4 m5 m6 m7 m8 m9 m10 m11 m12 m13 m14 m15 m16 m17 m18 (.ref tp) (.int (nI n)) (.ref rp) (.int x4) (.int x5) (by omega) s.heap.size) (cwV 3 hts gX9_pack__X9_pack rfl rfl rfl (by decide +kernel) ⟨Nat.le_of_ble_eq_true rfl, Nat.le_of_ble_eq_true rfl⟩) ⟨fun a U g mk q => by obtain ⟨q0, q1, qP, qK, qD⟩ := q; exact ⟨q0, q1, qP, va_K.moved (u := U) (U := U.calling g mk a) (Vm.Alike.refl U.vm) qK, qD⟩, va_recv hK hPc (ci := 9) (q0 := 0) rfl rfl, fun U hU hW => ⟨rfl, by rw [hU], by rw [hU]; exact hPc, va_K.moved hW.alike hK, hDc.weaken (fun _ _ _ _ => trivial)⟩⟩ rfl rfl hl.1 rfl (lv_room (Nat.le_of_ble_eq_true rfl)) dX9_pack__10 ⟨(show 0 + 0 ≤ 0 by omega), (show 0 + 0 ≤ 0 by omega)⟩) hS (fun q _ h => hFc q h) hFc (fun u t H1 locs ht hvm hw hB hz1 hk1 hS => ?_)
  obtain ⟨g2, rfl⟩ : ∃ z, z = u := ⟨_, rfl⟩
  have hP1 : va_P (dC, dI) vwCl [(h0, .inr (9, [m0, .ref pp, .int (nI (zPL tx n / 8)), .int 0, m4, m5, m6, m7, m8, m9, m10, m11, m12, m13, m14, m15, m16, m17, m18, .ref tp, .int (nI n), .ref rp, .int x4, .int x5])), (pp, .inl (cB, 16384, .inl g2)), (tp, .inl (cB, 4000, .inl tx))] H1 := by rw [← ht]; exact hB.1
  have hD1 : va_D (va_A [(h0, .inr (9, [m0, .ref pp, .int x2, .int x3, m4, m5, m6, m7, m8, m9, m10, m11, m12, m13, m14, m15, m16, m17, m18, .ref tp, .int (nI n), .ref rp, .int x4, .int x5])), (pp, .inl (cB, 16384, .inl g)), (tp, .inl (cB, 4000, .inl tx))] s.heap.size) [(h0, .inr (9, [m0, .ref pp, .int (nI (zPL tx n / 8)), .int 0, m4, m5, m6, m7, m8, m9, m10, m11, m12, m13, m14, m15, m16, m17, m18, .ref tp, .int (nI n), .ref rp, .int x4, .int x5])), (pp, .inl (cB, 16384, .inl g2)), (tp, .inl (cB, 4000, .inl tx))] := hB.2.2
  obtain ⟨hP, hD⟩ := va_join (wr := [(rp, .inl (cB, 8192, .inl g8))]) (w1 := [(h0, .inr (9, [m0, .ref pp, .int (nI (zPL tx n / 8)), .int 0, m4, m5, m6, m7, m8, m9, m10, m11, m12, m13, m14, m15, m16, m17, m18, .ref tp, .int (nI n), .ref rp, .int x4, .int x5])), (pp, .inl (cB, 16384, .inl g2)), (tp, .inl (cB, 4000, .inl tx))]) hP hD [0, 1, 2] [3] rfl rfl (by decide) (by decide) hk1 hFc hP1 hD1
  generalize H1 = H at hP hS ⊢
  try dsimp only at hw
  have hP : va_P (dC, dI) vwCl [(rp, .inl (cB, 8192, .inl g8)), (h0, .inr (9, [m0, .ref pp, .int (nI (zPL tx n / 8)), .int 0, m4, m5, m6, m7, m8, m9, m10, m11, m12, m13, m14, m15, m16, m17, m18, .ref tp, .int (nI n), .ref rp, .int x4, .int x5])), (pp, .inl (cB, 16384, .inl g2)), (tp, .inl (cB, 4000, .inl tx))] H := hP
  have hD : va_D A [(rp, .inl (cB, 8192, .inl g8)), (h0, .inr (9, [m0, .ref pp, .int (nI (zPL tx n / 8)), .int 0, m4, m5, m6, m7, m8, m9, m10, m11, m12, m13, m14, m15, m16, m17, m18, .ref tp, .int (nI n), .ref rp, .int x4, .int x5])), (pp, .inl (cB, 16384, .inl g2)), (tp, .inl (cB, 4000, .inl tx))] := hD
  have ho7 := hw.1
  have hb7 := hw.2
  refine W.eq (g2 := F0 m 13 ls []) rfl ?_
  refine lv_aload_n hx hb dX9_pack__13 rfl (lv_at hl 0 rfl) ?_
  refine lv_iconst (v := 0) hx hb dX9_pack__14 (by decide) ?_
  refine va_put (D := (dC, dI)) (ci := 9) (v := .int 0) (ty := .int) (C := RX9) (T := TX9) (N := 24) hx hb hts (by decide +kernel) tyX9 tyX9_ok nmX9 hown hK hP hD hS 1 rfl rfl 20 (by decide) (hts (.fieldLink RX9 153 "FixedPressModel" "taped" "I") (by decide +kernel)) (fun _ h9 => h9) rfl (by decide +kernel) rfl rfl (Nat.le_of_ble_eq_true rfl) dX9_pack__15 (fun H locs hP hD hS => ?_)
  have hP : va_P (dC, dI) vwCl [(rp, .inl (cB, 8192, .inl g8)), (h0, .inr (9, [m0, .ref pp, .int (nI (zPL tx n / 8)), .int 0, m4, m5, m6, m7, m8, m9, m10, m11, m12, m13, m14, m15, m16, m17, m18, .ref tp, .int 0, .ref rp, .int x4, .int x5])), (pp, .inl (cB, 16384, .inl g2)), (tp, .inl (cB, 4000, .inl tx))] H := hP
  have hD : va_D A [(rp, .inl (cB, 8192, .inl g8)), (h0, .inr (9, [m0, .ref pp, .int (nI (zPL tx n / 8)), .int 0, m4, m5, m6, m7, m8, m9, m10, m11, m12, m13, m14, m15, m16, m17, m18, .ref tp, .int 0, .ref rp, .int x4, .int x5])), (pp, .inl (cB, 16384, .inl g2)), (tp, .inl (cB, 4000, .inl tx))] := hD
  refine lv_aload_n hx hb dX9_pack__18 rfl (lv_at hl 0 rfl) ?_
  refine lv_iconst (v := 0) hx hb dX9_pack__19 (by decide) ?_
  refine va_put (D := (dC, dI)) (ci := 9) (v := .int 0) (ty := .int) (C := RX9) (T := TX9) (N := 24) hx hb hts (by decide +kernel) tyX9 tyX9_ok nmX9 hown hK hP hD hS 1 rfl rfl 23 (by decide) (hts (.fieldLink RX9 150 "FixedPressModel" "code" "I") (by decide +kernel)) (fun _ h9 => h9) rfl (by decide +kernel) rfl rfl (Nat.le_of_ble_eq_true rfl) dX9_pack__20 (fun H locs hP hD hS => ?_)
  have hP : va_P (dC, dI) vwCl [(rp, .inl (cB, 8192, .inl g8)), (h0, .inr (9, [m0, .ref pp, .int (nI (zPL tx n / 8)), .int 0, m4, m5, m6, m7, m8, m9, m10, m11, m12, m13, m14, m15, m16, m17, m18, .ref tp, .int 0, .ref rp, .int x4, .int 0])), (pp, .inl (cB, 16384, .inl g2)), (tp, .inl (cB, 4000, .inl tx))] H := hP
  have hD : va_D A [(rp, .inl (cB, 8192, .inl g8)), (h0, .inr (9, [m0, .ref pp, .int (nI (zPL tx n / 8)), .int 0, m4, m5, m6, m7, m8, m9, m10, m11, m12, m13, m14, m15, m16, m17, m18, .ref tp, .int 0, .ref rp, .int x4, .int 0])), (pp, .inl (cB, 16384, .inl g2)), (tp, .inl (cB, 4000, .inl tx))] := hD
  refine lv_aload_n hx hb dX9_pack__23 rfl (lv_at hl 0 rfl) ?_
  refine lv_aload_n hx hb dX9_pack__24 rfl (lv_at hl 0 rfl) ?_
  refine va_get (D := (dC, dI)) (ci := 9) (v := .int (nI (zPL tx n / 8))) (C := RX9) (T := TX9) (N := 24) hx hb hts (by decide +kernel) hown hK hP 1 rfl rfl 2 (by decide) (hts (.fieldLink RX9 16 "FixedPressModel" "packedLength" "I") (by decide +kernel)) (fun _ h9 => h9) rfl dX9_pack__25 ?_
  refine va_put (D := (dC, dI)) (ci := 9) (v := .int (nI (zPL tx n / 8))) (ty := .int) (C := RX9) (T := TX9) (N := 24) hx hb hts (by decide +kernel) tyX9 tyX9_ok nmX9 hown hK hP hD hS 1 rfl rfl 22 (by decide) (hts (.fieldLink RX9 168 "FixedPressModel" "resultLength" "I") (by decide +kernel)) (fun _ h9 => h9) rfl (by decide +kernel) rfl rfl (Nat.le_of_ble_eq_true rfl) dX9_pack__28 (fun H locs hP hD hS => ?_)
  have hP : va_P (dC, dI) vwCl [(rp, .inl (cB, 8192, .inl g8)), (h0, .inr (9, [m0, .ref pp, .int (nI (zPL tx n / 8)), .int 0, m4, m5, m6, m7, m8, m9, m10, m11, m12, m13, m14, m15, m16, m17, m18, .ref tp, .int 0, .ref rp, .int (nI (zPL tx n / 8)), .int 0])), (pp, .inl (cB, 16384, .inl g2)), (tp, .inl (cB, 4000, .inl tx))] H := hP
  have hD : va_D A [(rp, .inl (cB, 8192, .inl g8)), (h0, .inr (9, [m0, .ref pp, .int (nI (zPL tx n / 8)), .int 0, m4, m5, m6, m7, m8, m9, m10, m11, m12, m13, m14, m15, m16, m17, m18, .ref tp, .int 0, .ref rp, .int (nI (zPL tx n / 8)), .int 0])), (pp, .inl (cB, 16384, .inl g2)), (tp, .inl (cB, 4000, .inl tx))] := hD
  refine lv_iconst (v := 0) hx hb dX9_pack__31 (by decide) ?_
  refine lv_istore_n (lv' := [(1, .int 0), (0, .ref h0)]) hx hb dX9_pack__32 rfl hl (by decide) rfl (fun ls hl => ?_)
  have cut33 : ∀ (fuel : Nat) (i : Nat) (g9 : Nat → Int32), (i ≤ zPL tx n / 8) → (∀ j, j < i → g9 j = zby (zPV tx n / 2 ^ (8 * j))) → (zPL tx n / 8 - i < fuel) → ∀ (H : Heap) (locs : List Loc), va_P (dC, dI) vwCl [(h0, .inr (9, [m0, .ref pp, .int (nI (zPL tx n / 8)), .int 0, m4, m5, m6, m7, m8, m9, m10, m11, m12, m13, m14, m15, m16, m17, m18, .ref tp, .int 0, .ref rp, .int (nI (zPL tx n / 8)), .int 0])), (pp, .inl (cB, 16384, .inl g2)), (tp, .inl (cB, 4000, .inl tx)), (rp, .inl (cB, 8192, .inl g9))] H → va_D A [(h0, .inr (9, [m0, .ref pp, .int (nI (zPL tx n / 8)), .int 0, m4, m5, m6, m7, m8, m9, m10, m11, m12, m13, m14, m15, m16, m17, m18, .ref tp, .int 0, .ref rp, .int (nI (zPL tx n / 8)), .int 0])), (pp, .inl (cB, 16384, .inl g2)), (tp, .inl (cB, 4000, .inl tx)), (rp, .inl (cB, 8192, .inl g9))] → va_S A s.heap H locs → ∀ (ls : Array Slot), lv_has ls 2 [(0, .ref h0), (1, .int (nI i))] → W p l e (headSpec wsX9_pack_ rm_X9_pack_).room s m ([.ref h0] : List Value).toArray below meth c H locs 0 0 (MQ below (q_X9_pack_ dC dI cB cI cJ cM h0 pp tp rp g g8 tx n x2 x3 x4 x5 m0 m4 m5 m6 m7 m8 m9 m10 m11 m12 m13 m14 m15 m16 m17 m18 A) ([.ref h0] : List Value).toArray s 0 0 A) (F0 m 33 ls []) := by
    intro fuel
    induction fuel with
    | zero => intros; omega
    | succ fuel ih =>
      intro i g9 hi hg9 hfuel H locs hP hD hS ls hl
      refine lv_iload_n hx hb dX9_pack__33 rfl (lv_at hl 1 rfl) ?_
      refine lv_aload_n hx hb dX9_pack__34 rfl (lv_at hl 0 rfl) ?_
      refine va_get (D := (dC, dI)) (ci := 9) (v := .int (nI (zPL tx n / 8))) (C := RX9) (T := TX9) (N := 24) hx hb hts (by decide +kernel) hown hK hP 0 rfl rfl 2 (by decide) (hts (.fieldLink RX9 16 "FixedPressModel" "packedLength" "I") (by decide +kernel)) (fun _ h9 => h9) rfl dX9_pack__35 ?_
      refine lv_icmp_ge (tgt := 59) hx hb dX9_pack__38 (by decide) (fun c38 => ?_) (fun c38 => ?_)
      · have c38 : (zPL tx n / 8) ≤ i := (nI_leI (a := (zPL tx n / 8)) (b := i) (by omega) (by omega)).mp c38
        have hie : i = zPL tx n / 8 := by omega
        rw [hie] at hg9
        refine lv_aload_n hx hb dX9_pack__59 rfl (lv_at hl 0 rfl) ?_
        refine va_get (D := (dC, dI)) (ci := 9) (v := .int (nI (zPL tx n / 8))) (C := RX9) (T := TX9) (N := 24) hx hb hts (by decide +kernel) hown hK hP 0 rfl rfl 22 (by decide) (hts (.fieldLink RX9 168 "FixedPressModel" "resultLength" "I") (by decide +kernel)) (fun _ h9 => h9) rfl dX9_pack__60 ?_
        have hP9 := hP.sub (ws' := [(h0, .inr (9, [m0, .ref pp, .int (nI (zPL tx n / 8)), .int 0, m4, m5, m6, m7, m8, m9, m10, m11, m12, m13, m14, m15, m16, m17, m18, .ref tp, .int 0, .ref rp, .int (nI (zPL tx n / 8)), .int 0])), (pp, .inl (cB, 16384, .inl g2)), (tp, .inl (cB, 4000, .inl tx)), (rp, .inl (cB, 8192, .inl g9))]) [0, 1, 2, 3] rfl
        have hD9 := hD.sub (ws' := [(h0, .inr (9, [m0, .ref pp, .int (nI (zPL tx n / 8)), .int 0, m4, m5, m6, m7, m8, m9, m10, m11, m12, m13, m14, m15, m16, m17, m18, .ref tp, .int 0, .ref rp, .int (nI (zPL tx n / 8)), .int 0])), (pp, .inl (cB, 16384, .inl g2)), (tp, .inl (cB, 4000, .inl tx)), (rp, .inl (cB, 8192, .inl g9))]) [0, 1, 2, 3] (by decide) rfl
        exact W.iret (v := (nI (zPL tx n / 8))) hx hb hr (fun t ht hW => ⟨⟨(nI (zPL tx n / 8)), (g2, g9), rfl, ⟨rfl, ⟨ho7.1, hg9⟩, hb7⟩, ⟨by rw [ht]; exact hP9, va_K.moved hW.alike hK, hD9⟩⟩, hS.F ht⟩) hS.2.2 dX9_pack__63
      · have c38 : ¬ ((zPL tx n / 8) ≤ i) := fun h => c38 ((nI_leI (a := (zPL tx n / 8)) (b := i) (by omega) (by omega)).mpr h)
        refine lv_aload_n hx hb dX9_pack__41 rfl (lv_at hl 0 rfl) ?_
        refine va_get (D := (dC, dI)) (ci := 9) (v := .ref rp) (C := RX9) (T := TX9) (N := 24) hx hb hts (by decide +kernel) hown hK hP 0 rfl rfl 21 (by decide) (hts (.fieldLink RX9 147 "FixedPressModel" "result" "[B") (by decide +kernel)) (fun _ h9 => h9) rfl dX9_pack__42 ?_
        refine lv_iload_n hx hb dX9_pack__45 rfl (lv_at hl 1 rfl) ?_
        refine lv_aload_n hx hb dX9_pack__46 rfl (lv_at hl 0 rfl) ?_
        refine va_get (D := (dC, dI)) (ci := 9) (v := .ref pp) (C := RX9) (T := TX9) (N := 24) hx hb hts (by decide +kernel) hown hK hP 0 rfl rfl 1 (by decide) (hts (.fieldLink RX9 12 "FixedPressModel" "packed" "[B") (by decide +kernel)) (fun _ h9 => h9) rfl dX9_pack__47 ?_
        refine lv_iload_n hx hb dX9_pack__50 rfl (lv_at hl 1 rfl) ?_
        refine va_bald hx hb hK hP 1 0 rfl rfl (vp_in_nI (n := i) (by omega) (by omega)) dX9_pack__51 ?_
        rw [nI_clamp (n := i) (by omega)]
        refine va_bast hx hb hK hP hD hS 3 0 rfl rfl (vp_in_nI (n := i) (by omega) (by omega)) dX9_pack__52 (fun H locs hP hD hS => ?_)
        rw [nI_clamp (n := i) (by omega)] at hP hD
        have hP : va_P (dC, dI) vwCl [(h0, .inr (9, [m0, .ref pp, .int (nI (zPL tx n / 8)), .int 0, m4, m5, m6, m7, m8, m9, m10, m11, m12, m13, m14, m15, m16, m17, m18, .ref tp, .int 0, .ref rp, .int (nI (zPL tx n / 8)), .int 0])), (pp, .inl (cB, 16384, .inl g2)), (tp, .inl (cB, 4000, .inl tx)), (rp, .inl (cB, 8192, .inl (upd g9 i (vp_nar .byte (g2 i)))))] H := hP
        have hD : va_D A [(h0, .inr (9, [m0, .ref pp, .int (nI (zPL tx n / 8)), .int 0, m4, m5, m6, m7, m8, m9, m10, m11, m12, m13, m14, m15, m16, m17, m18, .ref tp, .int 0, .ref rp, .int (nI (zPL tx n / 8)), .int 0])), (pp, .inl (cB, 16384, .inl g2)), (tp, .inl (cB, 4000, .inl tx)), (rp, .inl (cB, 8192, .inl (upd g9 i (vp_nar .byte (g2 i)))))] := hD
        refine lv_iinc (v := nI (i + 1)) (lv' := [(1, .int (nI (i + 1))), (0, .ref h0)]) hx hb dX9_pack__53 hl (k := 1) rfl (show nI i + Int32.ofInt 1 = _ from nI_add i 1) (by decide) rfl (fun ls hl => ?_)
        refine lv_goto (tgt := 33) hx hb dX9_pack__56 (by decide) ?_
        exact ih (i + 1) (upd g9 i (vp_nar .byte (g2 i))) (by omega) (fun j h => if e : j = i then (by subst e; rw [pk_us, ho7.2 _ (by omega)]; exact pk_vb _) else (by rw [pk_un e]; exact hg9 j (by omega))) (by omega) _ _ hP hD hS _ (lv_sub hl [1, 0] rfl)
  exact cut33 (zPL tx n / 8 - 0 + 1) 0 g8 (by omega) (fun j h => absurd h (Nat.not_lt_zero _)) (by omega) _ _ (hP.sub [1, 2, 3, 0] rfl) (hD.sub [1, 2, 3, 0] (by decide) rfl) hS _ (lv_sub hl [1, 0] rfl)
