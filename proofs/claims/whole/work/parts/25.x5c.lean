abbrev rm_X5_writeAll : Room := { frames := 4, cells := 0, slots := 0, locals := 90 }
abbrev wo_X5_writeAll (dC : Nat → ClassId) (dI : Nat → Nat → Nat) (cB cI cJ cM : ClassId) (h0 wr fi b nb ne fa tp : Nat) (v2 v3 : Value) (d0 : Int32) (g g0 w0 tx : Nat → Int32) (V L n : Nat) : va_W := [(h0, .inr (5, [.ref wr, .ref fi])), (wr, .inr (1, [.ref b, .int (nI (L / 8)), .int (nI (V / 2 ^ (8 * (L / 8)))), .int (nI (L % 8))])), (b, .inl (cB, nb, .inl g)), (fi, .inr (3, [.ref ne, .ref fa, v2, v3, .int d0])), (ne, .inl (cI, 4096, .inl g0)), (fa, .inl (cI, 4000, .inl w0)), (tp, .inl (cB, 4000, .inl tx))]
abbrev q_X5_writeAll (dC : Nat → ClassId) (dI : Nat → Nat → Nat) (cB cI cJ cM : ClassId) (h0 wr fi b nb ne fa tp : Nat) (v2 v3 : Value) (d0 : Int32) (g g0 w0 tx : Nat → Int32) (V L n : Nat) (A : Nat → Prop) : Array Value → State → Outcome → State → Prop := va_Qv (fun (u : (Nat → Int32) × (Nat → Int32) × (Nat → Int32) × Int32) => zOut u.1 (zpk tx n n 0 V L).1 (zpk tx n n 0 V L).2 ∧ (zpk tx n n 0 V L).2 ≤ L + 9 * n) (zB dC dI cB cI cJ cM A (fun u : (Nat → Int32) × (Nat → Int32) × (Nat → Int32) × Int32 => [(h0, .inr (5, [.ref wr, .ref fi])), (wr, .inr (1, [.ref b, .int (nI ((zpk tx n n 0 V L).2 / 8)), .int (nI ((zpk tx n n 0 V L).1 / 2 ^ (8 * ((zpk tx n n 0 V L).2 / 8)))), .int (nI ((zpk tx n n 0 V L).2 % 8))])), (b, .inl (cB, nb, .inl u.1)), (fi, .inr (3, [.ref ne, .ref fa, .ref tp, .int (nI n), .int u.2.2.2])), (ne, .inl (cI, 4096, .inl u.2.1)), (fa, .inl (cI, 4000, .inl u.2.2.1)), (tp, .inl (cB, 4000, .inl tx))])) A
set_option maxHeartbeats 8000000 in
set_option maxRecDepth 100000 in
/-- writeAll -/
theorem k_X5_writeAll (l : Launch) (dC : Nat → ClassId) (dI : Nat → Nat → Nat) (cB cI cJ cM : ClassId) (h0 wr fi b nb ne fa tp : Nat) (v2 v3 : Value) (d0 : Int32) (g g0 w0 tx : Nat → Int32) (V L n : Nat) (ho : zOut g V L) (h1 : n ≤ 4000) (hn : (L + 9 * n + 40) / 8 ≤ nb) (hn2 : nb < 100000) (sz : Nat) : Met l yX5_writeAll wsX5_writeAll rm_X5_writeAll (va_Pc [.ref h0, .ref tp, .int (nI n)] (fun U => U.heap.size = sz ∧ va_P (dC, dI) vwCl (wo_X5_writeAll dC dI cB cI cJ cM h0 wr fi b nb ne fa tp v2 v3 d0 g g0 w0 tx V L n) U.heap ∧ va_K (dC, dI) vwCl (zT cB cI cJ cM) U ∧ va_D (fun _ => True) (wo_X5_writeAll dC dI cB cI cJ cM h0 wr fi b nb ne fa tp v2 v3 d0 g g0 w0 tx V L n) ∧ zE (va_A (wo_X5_writeAll dC dI cB cI cJ cM h0 wr fi b nb ne fa tp v2 v3 d0 g g0 w0 tx V L n) sz) U)) (q_X5_writeAll dC dI cB cI cJ cM h0 wr fi b nb ne fa tp v2 v3 d0 g g0 w0 tx V L n (va_A (wo_X5_writeAll dC dI cB cI cJ cM h0 wr fi b nb ne fa tp v2 v3 d0 g g0 w0 tx V L n) sz)) 0 0 (va_A (wo_X5_writeAll dC dI cB cI cJ cM h0 wr fi b nb ne fa tp v2 v3 d0 g g0 w0 tx V L n) sz) := by
  refine Met.ofW (cc := cX5_writeAll) (maxL := 6) (ret := none) (by decide) rfl ?_
  intro p e s m args below meth c s₁ B hml hv
  obtain ⟨rfl, hsz, hP, hK, hD0, hE⟩ := hv
  have hx := B.exec
  have hb := B.bytes
  have hr := B.returns
  have hts := atoms_spec (ws := wsX5_writeAll) B.pre
  have hown : s.vm.findClass RX5 = some m.cls := findClass_of_methodNamed B.named
  have hlocks := B.notSynchronized
  subst hsz
  have hD := hD0.self (sz := s.heap.size)
  generalize hAe : va_A (wo_X5_writeAll dC dI cB cI cJ cM h0 wr fi b nb ne fa tp v2 v3 d0 g g0 w0 tx V L n) s.heap.size = A at hD hE ⊢
  have hA : ∀ q : Nat, s.heap.size ≤ q → A q := fun q h => by rw [← hAe]; exact Or.inr h
  have hS : va_S A s.heap s.heap [] := va_S.rf
  have hP : va_P (dC, dI) vwCl [(h0, .inr (5, [.ref wr, .ref fi])), (wr, .inr (1, [.ref b, .int (nI (L / 8)), .int (nI (V / 2 ^ (8 * (L / 8)))), .int (nI (L % 8))])), (b, .inl (cB, nb, .inl g)), (fi, .inr (3, [.ref ne, .ref fa, v2, v3, .int d0])), (ne, .inl (cI, 4096, .inl g0)), (fa, .inl (cI, 4000, .inl w0)), (tp, .inl (cB, 4000, .inl tx))] s.heap := hP
  have hD : va_D A [(h0, .inr (5, [.ref wr, .ref fi])), (wr, .inr (1, [.ref b, .int (nI (L / 8)), .int (nI (V / 2 ^ (8 * (L / 8)))), .int (nI (L % 8))])), (b, .inl (cB, nb, .inl g)), (fi, .inr (3, [.ref ne, .ref fa, v2, v3, .int d0])), (ne, .inl (cI, 4096, .inl g0)), (fa, .inl (cI, 4000, .inl w0)), (tp, .inl (cB, 4000, .inl tx))] := hD
  have hl := lv_entry ([.ref h0, .ref tp, .int (nI n)]) (n := 6) (Nat.le_of_ble_eq_true rfl)
  rw [lg_entry_eq]
  generalize (lg_sl ([.ref h0, .ref tp, .int (nI n)]) ++ List.replicate (6 - (lg_sl ([.ref h0, .ref tp, .int (nI n)])).length) Slot.unset).toArray = ls at hl ⊢
  have hl : lv_has ls 6 [(0, .ref h0), (1, .ref tp), (2, .int (nI n))] := hl
  refine lv_aload_n hx hb dX5_writeAll_0 rfl (lv_at hl 0 rfl) ?_
  refine va_get (D := (dC, dI)) (ci := 5) (v := .ref fi) (C := RX5) (T := TX5) (N := 2) hx hb hts (by decide +kernel) hown hK hP 0 rfl rfl 1 (by decide) (hts (.fieldLink RX5 21 "FixedPress$Packer" "finder" "LFixedPress$CopyFinder;") (by decide +kernel)) (fun _ h9 => h9) rfl dX5_writeAll_1 ?_
  refine lv_aload_n hx hb dX5_writeAll_4 rfl (lv_at hl 1 rfl) ?_
  refine lv_iload_n hx hb dX5_writeAll_5 rfl (lv_at hl 2 rfl) ?_
  have hPc := hP.sub (ws' := [(fi, .inr (3, [.ref ne, .ref fa, v2, v3, .int d0])), (ne, .inl (cI, 4096, .inl g0))]) [3, 4] rfl
  have hDc := hD.sub (ws' := [(fi, .inr (3, [.ref ne, .ref fa, v2, v3, .int d0])), (ne, .inl (cI, 4096, .inl g0))]) [3, 4] (by decide) rfl
  have hFc := va_free (wc := [(fi, .inr (3, [.ref ne, .ref fa, v2, v3, .int d0])), (ne, .inl (cI, 4096, .inl g0))]) hD hS hA [3, 4] rfl
  refine va_callv (va_runV (As := [.ref tp, .int (nI n)]) (rest := []) ⟨hx, hb, hml, hown, hts⟩ (k_X3_begin l dC dI cB cI cJ cM fi ne fa tp v2 v3 (.int d0) g0 (nI n)  s.heap.size) (cwV 2 hts gX5_writeAll_X3_begin rfl rfl rfl (by decide +kernel) ⟨Nat.le_of_ble_eq_true rfl, Nat.le_of_ble_eq_true rfl⟩) ⟨fun a U g mk q => by obtain ⟨q0, q1, qP, qK, qD⟩ := q; exact ⟨q0, q1, qP, va_K.moved (u := U) (U := U.calling g mk a) (Vm.Alike.refl U.vm) qK, qD⟩, va_recv hK hPc (ci := 3) (q0 := 0) rfl rfl, fun U hU hW => ⟨rfl, by rw [hU], by rw [hU]; exact hPc, va_K.moved hW.alike hK, hDc.weaken (fun _ _ _ _ => trivial)⟩⟩ rfl rfl hl.1 rfl (lv_room (Nat.le_of_ble_eq_true rfl)) dX5_writeAll_6 ⟨(show 0 + 0 ≤ 0 by omega), (show 0 + 0 ≤ 0 by omega)⟩) hS (fun q _ h => hFc q h) hFc (fun u t H1 locs ht hvm hw hB hz1 hk1 hS => ?_)
  obtain ⟨g9, rfl⟩ : ∃ z, z = u := ⟨_, rfl⟩
  have hP1 : va_P (dC, dI) vwCl [(fi, .inr (3, [.ref ne, .ref fa, .ref tp, .int (nI n), .int d0])), (ne, .inl (cI, 4096, .inl g9))] H1 := by rw [← ht]; exact hB.1
  have hD1 : va_D (va_A [(fi, .inr (3, [.ref ne, .ref fa, v2, v3, .int d0])), (ne, .inl (cI, 4096, .inl g0))] s.heap.size) [(fi, .inr (3, [.ref ne, .ref fa, .ref tp, .int (nI n), .int d0])), (ne, .inl (cI, 4096, .inl g9))] := hB.2.2
  obtain ⟨hP, hD⟩ := va_join (wr := [(h0, .inr (5, [.ref wr, .ref fi])), (wr, .inr (1, [.ref b, .int (nI (L / 8)), .int (nI (V / 2 ^ (8 * (L / 8)))), .int (nI (L % 8))])), (b, .inl (cB, nb, .inl g)), (fa, .inl (cI, 4000, .inl w0)), (tp, .inl (cB, 4000, .inl tx))]) (w1 := [(fi, .inr (3, [.ref ne, .ref fa, .ref tp, .int (nI n), .int d0])), (ne, .inl (cI, 4096, .inl g9))]) hP hD [3, 4] [0, 1, 2, 5, 6] rfl rfl (by decide) (by decide) hk1 hFc hP1 hD1
  generalize H1 = H at hP hS ⊢
  try dsimp only at hw
  have hP : va_P (dC, dI) vwCl [(h0, .inr (5, [.ref wr, .ref fi])), (wr, .inr (1, [.ref b, .int (nI (L / 8)), .int (nI (V / 2 ^ (8 * (L / 8)))), .int (nI (L % 8))])), (b, .inl (cB, nb, .inl g)), (fa, .inl (cI, 4000, .inl w0)), (tp, .inl (cB, 4000, .inl tx)), (fi, .inr (3, [.ref ne, .ref fa, .ref tp, .int (nI n), .int d0])), (ne, .inl (cI, 4096, .inl g9))] H := hP
  have hD : va_D A [(h0, .inr (5, [.ref wr, .ref fi])), (wr, .inr (1, [.ref b, .int (nI (L / 8)), .int (nI (V / 2 ^ (8 * (L / 8)))), .int (nI (L % 8))])), (b, .inl (cB, nb, .inl g)), (fa, .inl (cI, 4000, .inl w0)), (tp, .inl (cB, 4000, .inl tx)), (fi, .inr (3, [.ref ne, .ref fa, .ref tp, .int (nI n), .int d0])), (ne, .inl (cI, 4096, .inl g9))] := hD
  have hch0 := zCh_0 (t := tx) (n := n) (w := w0) hw
  refine W.eq (g2 := F0 m 9 ls []) rfl ?_
  refine lv_iconst (v := 0) hx hb dX5_writeAll_9 (by decide) ?_
  refine lv_istore_n (lv' := [(3, .int 0), (0, .ref h0), (1, .ref tp), (2, .int (nI n))]) hx hb dX5_writeAll_10 rfl hl (by decide) rfl (fun ls hl => ?_)
  refine lv_iconst (v := 0) hx hb dX5_writeAll_11 (by decide) ?_
  refine lv_istore (lv' := [(4, .int 0), (3, .int 0), (0, .ref h0), (1, .ref tp), (2, .int (nI n))]) hx hb dX5_writeAll_12 hl (by decide) rfl (fun ls hl => ?_)
  have cut14 : ∀ (fuel : Nat) (a : Nat) (nx : Nat) (V1 : Nat) (L1 : Nat) (g1 : Nat → Int32) (g2 : Nat → Int32) (w2 : Nat → Int32) (d2 : Int32), (a ≤ n) → (a ≤ nx) → (nx ≤ n) → (zpk tx n (n - nx) nx V1 L1 = zpk tx n n 0 V L) → (zOut g1 V1 L1) → (L1 ≤ L + 9 * nx) → (zCh tx n a g2 w2) → (n - a < fuel) → ∀ (H : Heap) (locs : List Loc), va_P (dC, dI) vwCl [(h0, .inr (5, [.ref wr, .ref fi])), (wr, .inr (1, [.ref b, .int (nI (L1 / 8)), .int (nI (V1 / 2 ^ (8 * (L1 / 8)))), .int (nI (L1 % 8))])), (b, .inl (cB, nb, .inl g1)), (fi, .inr (3, [.ref ne, .ref fa, .ref tp, .int (nI n), .int d2])), (ne, .inl (cI, 4096, .inl g2)), (fa, .inl (cI, 4000, .inl w2)), (tp, .inl (cB, 4000, .inl tx))] H → va_D A [(h0, .inr (5, [.ref wr, .ref fi])), (wr, .inr (1, [.ref b, .int (nI (L1 / 8)), .int (nI (V1 / 2 ^ (8 * (L1 / 8)))), .int (nI (L1 % 8))])), (b, .inl (cB, nb, .inl g1)), (fi, .inr (3, [.ref ne, .ref fa, .ref tp, .int (nI n), .int d2])), (ne, .inl (cI, 4096, .inl g2)), (fa, .inl (cI, 4000, .inl w2)), (tp, .inl (cB, 4000, .inl tx))] → va_S A s.heap H locs → ∀ (ls : Array Slot), lv_has ls 6 [(0, .ref h0), (1, .ref tp), (2, .int (nI n)), (3, .int (nI nx)), (4, .int (nI a))] → W p l e (headSpec wsX5_writeAll rm_X5_writeAll).room s m ([.ref h0, .ref tp, .int (nI n)] : List Value).toArray below meth c H locs 0 0 (MQ below (q_X5_writeAll dC dI cB cI cJ cM h0 wr fi b nb ne fa tp v2 v3 d0 g g0 w0 tx V L n A) ([.ref h0, .ref tp, .int (nI n)] : List Value).toArray s 0 0 A) (F0 m 14 ls []) := by
    intro fuel
    induction fuel with
    | zero => intros; omega
    | succ fuel ih =>
      intro a nx V1 L1 g1 g2 w2 d2 ha hax hnx hpk ho1 hLb hch hfuel H locs hP hD hS ls hl
      refine lv_iload hx hb dX5_writeAll_14 (lv_at hl 4 rfl) ?_
      refine lv_iload_n hx hb dX5_writeAll_16 rfl (lv_at hl 2 rfl) ?_
      refine lv_icmp_ge (tgt := 96) hx hb dX5_writeAll_17 (by decide) (fun c17 => ?_) (fun c17 => ?_)
      · have c17 : n ≤ a := (nI_leI (a := n) (b := a) (by omega) (by omega)).mp c17
        have hnn : nx = n := by omega
        have hend : zpk tx n n 0 V L = (V1, L1) := by rw [← hpk]; exact zpk_end (by omega)
        have hoE : zOut g1 (zpk tx n n 0 V L).1 (zpk tx n n 0 V L).2 := by rw [hend]; exact ho1
        have hLE : (zpk tx n n 0 V L).2 ≤ L + 9 * n := by rw [hend]; show L1 ≤ _; omega
        have hP : va_P (dC, dI) vwCl [(h0, .inr (5, [.ref wr, .ref fi])), (wr, .inr (1, [.ref b, .int (nI ((zpk tx n n 0 V L).2 / 8)), .int (nI ((zpk tx n n 0 V L).1 / 2 ^ (8 * ((zpk tx n n 0 V L).2 / 8)))), .int (nI ((zpk tx n n 0 V L).2 % 8))])), (b, .inl (cB, nb, .inl g1)), (fi, .inr (3, [.ref ne, .ref fa, .ref tp, .int (nI n), .int d2])), (ne, .inl (cI, 4096, .inl g2)), (fa, .inl (cI, 4000, .inl w2)), (tp, .inl (cB, 4000, .inl tx))] H := by rw [hend]; exact hP
        have hD : va_D A [(h0, .inr (5, [.ref wr, .ref fi])), (wr, .inr (1, [.ref b, .int (nI ((zpk tx n n 0 V L).2 / 8)), .int (nI ((zpk tx n n 0 V L).1 / 2 ^ (8 * ((zpk tx n n 0 V L).2 / 8)))), .int (nI ((zpk tx n n 0 V L).2 % 8))])), (b, .inl (cB, nb, .inl g1)), (fi, .inr (3, [.ref ne, .ref fa, .ref tp, .int (nI n), .int d2])), (ne, .inl (cI, 4096, .inl g2)), (fa, .inl (cI, 4000, .inl w2)), (tp, .inl (cB, 4000, .inl tx))] := by rw [hend]; exact hD
        have hP9 := hP.sub (ws' := [(h0, .inr (5, [.ref wr, .ref fi])), (wr, .inr (1, [.ref b, .int (nI ((zpk tx n n 0 V L).2 / 8)), .int (nI ((zpk tx n n 0 V L).1 / 2 ^ (8 * ((zpk tx n n 0 V L).2 / 8)))), .int (nI ((zpk tx n n 0 V L).2 % 8))])), (b, .inl (cB, nb, .inl g1)), (fi, .inr (3, [.ref ne, .ref fa, .ref tp, .int (nI n), .int d2])), (ne, .inl (cI, 4096, .inl g2)), (fa, .inl (cI, 4000, .inl w2)), (tp, .inl (cB, 4000, .inl tx))]) [0, 1, 2, 3, 4, 5, 6] rfl
        have hD9 := hD.sub (ws' := [(h0, .inr (5, [.ref wr, .ref fi])), (wr, .inr (1, [.ref b, .int (nI ((zpk tx n n 0 V L).2 / 8)), .int (nI ((zpk tx n n 0 V L).1 / 2 ^ (8 * ((zpk tx n n 0 V L).2 / 8)))), .int (nI ((zpk tx n n 0 V L).2 % 8))])), (b, .inl (cB, nb, .inl g1)), (fi, .inr (3, [.ref ne, .ref fa, .ref tp, .int (nI n), .int d2])), (ne, .inl (cI, 4096, .inl g2)), (fa, .inl (cI, 4000, .inl w2)), (tp, .inl (cB, 4000, .inl tx))]) [0, 1, 2, 3, 4, 5, 6] (by decide) rfl
        exact W.vret hx hb hr (fun t ht hW => ⟨⟨(g1, g2, w2, d2), rfl, ⟨hoE, hLE⟩, ⟨by rw [ht]; exact hP9, va_K.moved hW.alike hK, hD9⟩⟩, hS.F ht⟩) hS.2.2 dX5_writeAll_96
      · have c17 : ¬ (n ≤ a) := fun h => c17 ((nI_leI (a := n) (b := a) (by omega) (by omega)).mpr h)
        have cut81 : ∀ (nx : Nat) (V1 : Nat) (L1 : Nat) (g1 : Nat → Int32) (d2 : Int32), (a + 1 ≤ nx) → (nx ≤ n) → (zpk tx n (n - nx) nx V1 L1 = zpk tx n n 0 V L) → (zOut g1 V1 L1) → (L1 ≤ L + 9 * nx) → ∀ (H : Heap) (locs : List Loc), va_P (dC, dI) vwCl [(h0, .inr (5, [.ref wr, .ref fi])), (wr, .inr (1, [.ref b, .int (nI (L1 / 8)), .int (nI (V1 / 2 ^ (8 * (L1 / 8)))), .int (nI (L1 % 8))])), (b, .inl (cB, nb, .inl g1)), (fi, .inr (3, [.ref ne, .ref fa, .ref tp, .int (nI n), .int d2])), (ne, .inl (cI, 4096, .inl g2)), (fa, .inl (cI, 4000, .inl w2)), (tp, .inl (cB, 4000, .inl tx))] H → va_D A [(h0, .inr (5, [.ref wr, .ref fi])), (wr, .inr (1, [.ref b, .int (nI (L1 / 8)), .int (nI (V1 / 2 ^ (8 * (L1 / 8)))), .int (nI (L1 % 8))])), (b, .inl (cB, nb, .inl g1)), (fi, .inr (3, [.ref ne, .ref fa, .ref tp, .int (nI n), .int d2])), (ne, .inl (cI, 4096, .inl g2)), (fa, .inl (cI, 4000, .inl w2)), (tp, .inl (cB, 4000, .inl tx))] → va_S A s.heap H locs → ∀ (ls : Array Slot), lv_has ls 6 [(0, .ref h0), (1, .ref tp), (2, .int (nI n)), (3, .int (nI nx)), (4, .int (nI a))] → W p l e (headSpec wsX5_writeAll rm_X5_writeAll).room s m ([.ref h0, .ref tp, .int (nI n)] : List Value).toArray below meth c H locs 0 0 (MQ below (q_X5_writeAll dC dI cB cI cJ cM h0 wr fi b nb ne fa tp v2 v3 d0 g g0 w0 tx V L n A) ([.ref h0, .ref tp, .int (nI n)] : List Value).toArray s 0 0 A) (F0 m 81 ls []) := by
          intro nx V1 L1 g1 d2 hax hnx hpk ho1 hLb H locs hP hD hS ls hl
          refine lv_aload_n hx hb dX5_writeAll_81 rfl (lv_at hl 0 rfl) ?_
          refine va_get (D := (dC, dI)) (ci := 5) (v := .ref fi) (C := RX5) (T := TX5) (N := 2) hx hb hts (by decide +kernel) hown hK hP 0 rfl rfl 1 (by decide) (hts (.fieldLink RX5 21 "FixedPress$Packer" "finder" "LFixedPress$CopyFinder;") (by decide +kernel)) (fun _ h9 => h9) rfl dX5_writeAll_82 ?_
          refine lv_iload hx hb dX5_writeAll_85 (lv_at hl 4 rfl) ?_
          have hPc := hP.sub (ws' := [(fi, .inr (3, [.ref ne, .ref fa, .ref tp, .int (nI n), .int d2])), (tp, .inl (cB, 4000, .inl tx)), (ne, .inl (cI, 4096, .inl g2)), (fa, .inl (cI, 4000, .inl w2))]) [3, 6, 4, 5] rfl
          have hDc := hD.sub (ws' := [(fi, .inr (3, [.ref ne, .ref fa, .ref tp, .int (nI n), .int d2])), (tp, .inl (cB, 4000, .inl tx)), (ne, .inl (cI, 4096, .inl g2)), (fa, .inl (cI, 4000, .inl w2))]) [3, 6, 4, 5] (by decide) rfl
          have hFc := va_free (wc := [(fi, .inr (3, [.ref ne, .ref fa, .ref tp, .int (nI n), .int d2])), (tp, .inl (cB, 4000, .inl tx)), (ne, .inl (cI, 4096, .inl g2)), (fa, .inl (cI, 4000, .inl w2))]) hD hS hA [3, 6, 4, 5] rfl
          refine va_callv (va_runV (As := [.int (nI a)]) (rest := []) ⟨hx, hb, hml, hown, hts⟩ (k_X3_enter l dC dI cB cI cJ cM fi ne fa tp n tx d2 g2 w2 a (by omega) (by omega) H.size) (cwV 1 hts gX5_writeAll_X3_enter rfl rfl rfl (by decide +kernel) ⟨Nat.le_of_ble_eq_true rfl, Nat.le_of_ble_eq_true rfl⟩) ⟨fun a U g mk q => by obtain ⟨q0, q1, qP, qK, qD⟩ := q; exact ⟨q0, q1, qP, va_K.moved (u := U) (U := U.calling g mk a) (Vm.Alike.refl U.vm) qK, qD⟩, va_recv hK hPc (ci := 3) (q0 := 0) rfl rfl, fun U hU hW => ⟨rfl, by rw [hU], by rw [hU]; exact hPc, va_K.moved hW.alike hK, hDc.weaken (fun _ _ _ _ => trivial)⟩⟩ rfl rfl hl.1 rfl (lv_room (Nat.le_of_ble_eq_true rfl)) dX5_writeAll_87 ⟨(show 0 + 0 ≤ 0 by omega), (show 0 + 0 ≤ 0 by omega)⟩) hS (fun q _ h => hFc q h) hFc (fun u t H1 locs ht hvm hw hB hz1 hk1 hS => ?_)
          obtain ⟨g4, w4⟩ := u
          have hP1 : va_P (dC, dI) vwCl [(fi, .inr (3, [.ref ne, .ref fa, .ref tp, .int (nI n), .int d2])), (tp, .inl (cB, 4000, .inl tx)), (ne, .inl (cI, 4096, .inl g4)), (fa, .inl (cI, 4000, .inl w4))] H1 := by rw [← ht]; exact hB.1
          have hD1 : va_D (va_A [(fi, .inr (3, [.ref ne, .ref fa, .ref tp, .int (nI n), .int d2])), (tp, .inl (cB, 4000, .inl tx)), (ne, .inl (cI, 4096, .inl g2)), (fa, .inl (cI, 4000, .inl w2))] H.size) [(fi, .inr (3, [.ref ne, .ref fa, .ref tp, .int (nI n), .int d2])), (tp, .inl (cB, 4000, .inl tx)), (ne, .inl (cI, 4096, .inl g4)), (fa, .inl (cI, 4000, .inl w4))] := hB.2.2
          obtain ⟨hP, hD⟩ := va_join (wr := [(h0, .inr (5, [.ref wr, .ref fi])), (wr, .inr (1, [.ref b, .int (nI (L1 / 8)), .int (nI (V1 / 2 ^ (8 * (L1 / 8)))), .int (nI (L1 % 8))])), (b, .inl (cB, nb, .inl g1))]) (w1 := [(fi, .inr (3, [.ref ne, .ref fa, .ref tp, .int (nI n), .int d2])), (tp, .inl (cB, 4000, .inl tx)), (ne, .inl (cI, 4096, .inl g4)), (fa, .inl (cI, 4000, .inl w4))]) hP hD [3, 6, 4, 5] [0, 1, 2] rfl rfl (by decide) (by decide) hk1 hFc hP1 hD1
          generalize H1 = H at hP hS ⊢
          try dsimp only at hw
          have hP : va_P (dC, dI) vwCl [(h0, .inr (5, [.ref wr, .ref fi])), (wr, .inr (1, [.ref b, .int (nI (L1 / 8)), .int (nI (V1 / 2 ^ (8 * (L1 / 8)))), .int (nI (L1 % 8))])), (b, .inl (cB, nb, .inl g1)), (fi, .inr (3, [.ref ne, .ref fa, .ref tp, .int (nI n), .int d2])), (tp, .inl (cB, 4000, .inl tx)), (ne, .inl (cI, 4096, .inl g4)), (fa, .inl (cI, 4000, .inl w4))] H := hP
          have hD : va_D A [(h0, .inr (5, [.ref wr, .ref fi])), (wr, .inr (1, [.ref b, .int (nI (L1 / 8)), .int (nI (V1 / 2 ^ (8 * (L1 / 8)))), .int (nI (L1 % 8))])), (b, .inl (cB, nb, .inl g1)), (fi, .inr (3, [.ref ne, .ref fa, .ref tp, .int (nI n), .int d2])), (tp, .inl (cB, 4000, .inl tx)), (ne, .inl (cI, 4096, .inl g4)), (fa, .inl (cI, 4000, .inl w4))] := hD
          have hchN := zCh_s hch hw
          have hpkN := hpk
          have hoN := ho1
          refine W.eq (g2 := F0 m 90 ls []) rfl ?_
          refine lv_iinc (v := nI (a + 1)) (lv' := [(4, .int (nI (a + 1))), (0, .ref h0), (1, .ref tp), (2, .int (nI n)), (3, .int (nI nx))]) hx hb dX5_writeAll_90 hl (k := 4) rfl (show nI a + Int32.ofInt 1 = _ from nI_add a 1) (by decide) rfl (fun ls hl => ?_)
          refine lv_goto (tgt := 14) hx hb dX5_writeAll_93 (by decide) ?_
          exact ih (a + 1) nx _ _ g1 g4 w4 d2 (by omega) (by omega) (by omega) (hpkN) (hoN) (by omega) (hchN) (by omega) _ _ (hP.sub [0, 1, 2, 3, 5, 6, 4] rfl) (hD.sub [0, 1, 2, 3, 5, 6, 4] (by decide) rfl) hS _ (lv_sub hl [1, 2, 3, 4, 0] rfl)
        refine lv_iload hx hb dX5_writeAll_20 (lv_at hl 4 rfl) ?_
        refine lv_iload_n hx hb dX5_writeAll_22 rfl (lv_at hl 3 rfl) ?_
        refine lv_icmp_ne (tgt := 81) hx hb dX5_writeAll_23 (by decide) (fun c23 => ?_) (fun c23 => ?_)
        · have c23 : ¬ (a = nx) := fun h => c23 ((nI_eq (a := a) (b := nx) (by omega) (by omega)).mpr h)
          have hlt : a < nx := by omega
          exact cut81 nx V1 L1 g1 d2 (by omega) (by omega) (hpk) (ho1) (by omega)  _ _ hP hD hS _ (lv_sub hl [0, 1, 2, 3, 4] rfl)
        · have c23 : a = nx := (nI_eq (a := a) (b := nx) (by omega) (by omega)).mp c23
          have hae : a = nx := by omega
          rw [← hae] at hpk hLb
          refine lv_aload_n hx hb dX5_writeAll_26 rfl (lv_at hl 0 rfl) ?_
          refine va_get (D := (dC, dI)) (ci := 5) (v := .ref fi) (C := RX5) (T := TX5) (N := 2) hx hb hts (by decide +kernel) hown hK hP 0 rfl rfl 1 (by decide) (hts (.fieldLink RX5 21 "FixedPress$Packer" "finder" "LFixedPress$CopyFinder;") (by decide +kernel)) (fun _ h9 => h9) rfl dX5_writeAll_27 ?_
          refine lv_iload hx hb dX5_writeAll_30 (lv_at hl 4 rfl) ?_
          have hPc := hP.sub (ws' := [(fi, .inr (3, [.ref ne, .ref fa, .ref tp, .int (nI n), .int d2])), (tp, .inl (cB, 4000, .inl tx)), (ne, .inl (cI, 4096, .inl g2)), (fa, .inl (cI, 4000, .inl w2))]) [3, 6, 4, 5] rfl
          have hDc := hD.sub (ws' := [(fi, .inr (3, [.ref ne, .ref fa, .ref tp, .int (nI n), .int d2])), (tp, .inl (cB, 4000, .inl tx)), (ne, .inl (cI, 4096, .inl g2)), (fa, .inl (cI, 4000, .inl w2))]) [3, 6, 4, 5] (by decide) rfl
          have hFc := va_free (wc := [(fi, .inr (3, [.ref ne, .ref fa, .ref tp, .int (nI n), .int d2])), (tp, .inl (cB, 4000, .inl tx)), (ne, .inl (cI, 4096, .inl g2)), (fa, .inl (cI, 4000, .inl w2))]) hD hS hA [3, 6, 4, 5] rfl
          refine va_calli (va_runV (As := [.int (nI a)]) (rest := []) ⟨hx, hb, hml, hown, hts⟩ (k_X3_longest l dC dI cB cI cJ cM fi ne fa tp n tx d2 g2 w2 a (by omega) (by omega) (fun h9 h h10 => by have := hch.1 h h10; rw [show min a (n - 2) = a from by omega] at this; exact this) (fun h9 j h10 => hch.2 j (by omega)) H.size) (cwV 1 hts gX5_writeAll_X3_longest rfl rfl rfl (by decide +kernel) ⟨Nat.le_of_ble_eq_true rfl, Nat.le_of_ble_eq_true rfl⟩) ⟨fun a U g mk q => by obtain ⟨q0, q1, qP, qK, qD⟩ := q; exact ⟨q0, q1, qP, va_K.moved (u := U) (U := U.calling g mk a) (Vm.Alike.refl U.vm) qK, qD⟩, va_recv hK hPc (ci := 3) (q0 := 0) rfl rfl, fun U hU hW => ⟨rfl, by rw [hU], by rw [hU]; exact hPc, va_K.moved hW.alike hK, hDc.weaken (fun _ _ _ _ => trivial)⟩⟩ rfl rfl hl.1 rfl (lv_room (Nat.le_of_ble_eq_true rfl)) dX5_writeAll_32 ⟨(show 0 + 0 ≤ 0 by omega), (show 0 + 0 ≤ 0 by omega)⟩) hS (fun q _ h => hFc q h) hFc (fun r32 u t H1 locs ht hvm hw hB hz1 hk1 hS => ?_)
          obtain ⟨d3, rfl⟩ : ∃ z, z = u := ⟨_, rfl⟩
          have hP1 : va_P (dC, dI) vwCl [(fi, .inr (3, [.ref ne, .ref fa, .ref tp, .int (nI n), .int d3])), (tp, .inl (cB, 4000, .inl tx)), (ne, .inl (cI, 4096, .inl g2)), (fa, .inl (cI, 4000, .inl w2))] H1 := by rw [← ht]; exact hB.1
          have hD1 : va_D (va_A [(fi, .inr (3, [.ref ne, .ref fa, .ref tp, .int (nI n), .int d2])), (tp, .inl (cB, 4000, .inl tx)), (ne, .inl (cI, 4096, .inl g2)), (fa, .inl (cI, 4000, .inl w2))] H.size) [(fi, .inr (3, [.ref ne, .ref fa, .ref tp, .int (nI n), .int d3])), (tp, .inl (cB, 4000, .inl tx)), (ne, .inl (cI, 4096, .inl g2)), (fa, .inl (cI, 4000, .inl w2))] := hB.2.2
          obtain ⟨hP, hD⟩ := va_join (wr := [(h0, .inr (5, [.ref wr, .ref fi])), (wr, .inr (1, [.ref b, .int (nI (L1 / 8)), .int (nI (V1 / 2 ^ (8 * (L1 / 8)))), .int (nI (L1 % 8))])), (b, .inl (cB, nb, .inl g1))]) (w1 := [(fi, .inr (3, [.ref ne, .ref fa, .ref tp, .int (nI n), .int d3])), (tp, .inl (cB, 4000, .inl tx)), (ne, .inl (cI, 4096, .inl g2)), (fa, .inl (cI, 4000, .inl w2))]) hP hD [3, 6, 4, 5] [0, 1, 2] rfl rfl (by decide) (by decide) hk1 hFc hP1 hD1
          generalize H1 = H at hP hS ⊢
          try dsimp only at hw
          have hP : va_P (dC, dI) vwCl [(h0, .inr (5, [.ref wr, .ref fi])), (wr, .inr (1, [.ref b, .int (nI (L1 / 8)), .int (nI (V1 / 2 ^ (8 * (L1 / 8)))), .int (nI (L1 % 8))])), (b, .inl (cB, nb, .inl g1)), (fi, .inr (3, [.ref ne, .ref fa, .ref tp, .int (nI n), .int d3])), (tp, .inl (cB, 4000, .inl tx)), (ne, .inl (cI, 4096, .inl g2)), (fa, .inl (cI, 4000, .inl w2))] H := hP
          have hD : va_D A [(h0, .inr (5, [.ref wr, .ref fi])), (wr, .inr (1, [.ref b, .int (nI (L1 / 8)), .int (nI (V1 / 2 ^ (8 * (L1 / 8)))), .int (nI (L1 % 8))])), (b, .inl (cB, nb, .inl g1)), (fi, .inr (3, [.ref ne, .ref fa, .ref tp, .int (nI n), .int d3])), (tp, .inl (cB, 4000, .inl tx)), (ne, .inl (cI, 4096, .inl g2)), (fa, .inl (cI, 4000, .inl w2))] := hD
          obtain ⟨hr32, hd32⟩ := hw
          obtain rfl : r32 = nI (if (zbst tx a (min 258 (n - a)) a).2 = 0 then 0 else (zbst tx a (min 258 (n - a)) a).1) := hr32
          have hbd := zbst_bd tx a (min 258 (n - a)) a (Nat.le_refl _)
          obtain ⟨cp, hcp⟩ : ∃ q, q = (if (zbst tx a (min 258 (n - a)) a).2 = 0 then 0 else (zbst tx a (min 258 (n - a)) a).1) := ⟨_, rfl⟩
          rw [← hcp]
          have hcb : cp ≤ 258 := by rw [hcp]; split; omega; rename_i h9; have := hbd.2 h9; omega
          refine W.eq (g2 := F0 m 35 ls [.int (nI cp)]) rfl ?_
          refine lv_istore (lv' := [(5, .int (nI cp)), (0, .ref h0), (1, .ref tp), (2, .int (nI n)), (3, .int (nI nx)), (4, .int (nI a))]) hx hb dX5_writeAll_35 hl (by decide) rfl (fun ls hl => ?_)
          refine lv_iload hx hb dX5_writeAll_37 (lv_at hl 0 rfl) ?_
          refine lv_if_ne (tgt := 62) hx hb dX5_writeAll_39 (by decide) (fun c39 => ?_) (fun c39 => ?_)
          · have c39 : ¬ (cp = 0) := fun h => c39 ((nI_eq (a := cp) (b := 0) (by omega) (by omega)).mpr h)
            have hb2 : (zbst tx a (min 258 (n - a)) a).2 ≠ 0 := fun h => c39 (by rw [hcp, if_pos h])
            have hcl : (zbst tx a (min 258 (n - a)) a).1 = cp := by rw [hcp, if_neg hb2]
            have hbd2 := hbd.2 hb2
            have hd3 := hd32 hb2
            refine lv_aload_n hx hb dX5_writeAll_62 rfl (lv_at hl 1 rfl) ?_
            refine lv_iload hx hb dX5_writeAll_63 (lv_at hl 0 rfl) ?_
            refine lv_aload_n hx hb dX5_writeAll_65 rfl (lv_at hl 1 rfl) ?_
            refine va_get (D := (dC, dI)) (ci := 5) (v := .ref fi) (C := RX5) (T := TX5) (N := 2) hx hb hts (by decide +kernel) hown hK hP 0 rfl rfl 1 (by decide) (hts (.fieldLink RX5 21 "FixedPress$Packer" "finder" "LFixedPress$CopyFinder;") (by decide +kernel)) (fun _ h9 => h9) rfl dX5_writeAll_66 ?_
            have hPc := hP.sub (ws' := [(fi, .inr (3, [.ref ne, .ref fa, .ref tp, .int (nI n), .int d3]))]) [3] rfl
            have hDc := hD.sub (ws' := [(fi, .inr (3, [.ref ne, .ref fa, .ref tp, .int (nI n), .int d3]))]) [3] (by decide) rfl
            have hFc := va_free (wc := [(fi, .inr (3, [.ref ne, .ref fa, .ref tp, .int (nI n), .int d3]))]) hD hS hA [3] rfl
            refine va_calli (va_runV (As := []) (rest := [.int (nI cp), .ref h0]) ⟨hx, hb, hml, hown, hts⟩ (k_X3_found l dC dI cB cI cJ cM fi ne fa tp n tx d3  H.size) (cwV 0 hts gX5_writeAll_X3_found rfl rfl rfl (by decide +kernel) ⟨Nat.le_of_ble_eq_true rfl, Nat.le_of_ble_eq_true rfl⟩) ⟨fun a U g mk q => by obtain ⟨q0, q1, qP, qK, qD⟩ := q; exact ⟨q0, q1, qP, va_K.moved (u := U) (U := U.calling g mk a) (Vm.Alike.refl U.vm) qK, qD⟩, va_recv hK hPc (ci := 3) (q0 := 0) rfl rfl, fun U hU hW => ⟨rfl, by rw [hU], by rw [hU]; exact hPc, va_K.moved hW.alike hK, hDc.weaken (fun _ _ _ _ => trivial)⟩⟩ rfl rfl hl.1 rfl (lv_room (Nat.le_of_ble_eq_true rfl)) dX5_writeAll_69 ⟨(show 0 + 0 ≤ 0 by omega), (show 0 + 0 ≤ 0 by omega)⟩) hS (fun q _ h => hFc q h) hFc (fun r69 u t H1 locs ht hvm hw hB hz1 hk1 hS => ?_)
            have hP1 : va_P (dC, dI) vwCl [(fi, .inr (3, [.ref ne, .ref fa, .ref tp, .int (nI n), .int d3]))] H1 := by rw [← ht]; exact hB.1
            have hD1 : va_D (va_A [(fi, .inr (3, [.ref ne, .ref fa, .ref tp, .int (nI n), .int d3]))] H.size) [(fi, .inr (3, [.ref ne, .ref fa, .ref tp, .int (nI n), .int d3]))] := hB.2.2
            obtain ⟨hP, hD⟩ := va_join (wr := [(h0, .inr (5, [.ref wr, .ref fi])), (wr, .inr (1, [.ref b, .int (nI (L1 / 8)), .int (nI (V1 / 2 ^ (8 * (L1 / 8)))), .int (nI (L1 % 8))])), (b, .inl (cB, nb, .inl g1)), (tp, .inl (cB, 4000, .inl tx)), (ne, .inl (cI, 4096, .inl g2)), (fa, .inl (cI, 4000, .inl w2))]) (w1 := [(fi, .inr (3, [.ref ne, .ref fa, .ref tp, .int (nI n), .int d3]))]) hP hD [3] [0, 1, 2, 4, 5, 6] rfl rfl (by decide) (by decide) hk1 hFc hP1 hD1
            generalize H1 = H at hP hS ⊢
            try dsimp only at hw
            have hP : va_P (dC, dI) vwCl [(h0, .inr (5, [.ref wr, .ref fi])), (wr, .inr (1, [.ref b, .int (nI (L1 / 8)), .int (nI (V1 / 2 ^ (8 * (L1 / 8)))), .int (nI (L1 % 8))])), (b, .inl (cB, nb, .inl g1)), (tp, .inl (cB, 4000, .inl tx)), (ne, .inl (cI, 4096, .inl g2)), (fa, .inl (cI, 4000, .inl w2)), (fi, .inr (3, [.ref ne, .ref fa, .ref tp, .int (nI n), .int d3]))] H := hP
            have hD : va_D A [(h0, .inr (5, [.ref wr, .ref fi])), (wr, .inr (1, [.ref b, .int (nI (L1 / 8)), .int (nI (V1 / 2 ^ (8 * (L1 / 8)))), .int (nI (L1 % 8))])), (b, .inl (cB, nb, .inl g1)), (tp, .inl (cB, 4000, .inl tx)), (ne, .inl (cI, 4096, .inl g2)), (fa, .inl (cI, 4000, .inl w2)), (fi, .inr (3, [.ref ne, .ref fa, .ref tp, .int (nI n), .int d3]))] := hD
            obtain rfl : r69 = nI (zbst tx a (min 258 (n - a)) a).2 := hw.trans hd3
            refine W.eq (g2 := F0 m 72 ls [.int (nI ((zbst tx a (min 258 (n - a)) a).2)), .int (nI cp), .ref h0]) rfl ?_
            have hPc := hP.sub (ws' := [(h0, .inr (5, [.ref wr, .ref fi])), (wr, .inr (1, [.ref b, .int (nI (L1 / 8)), .int (nI (V1 / 2 ^ (8 * (L1 / 8)))), .int (nI (L1 % 8))])), (b, .inl (cB, nb, .inl g1))]) [0, 1, 2] rfl
            have hDc := hD.sub (ws' := [(h0, .inr (5, [.ref wr, .ref fi])), (wr, .inr (1, [.ref b, .int (nI (L1 / 8)), .int (nI (V1 / 2 ^ (8 * (L1 / 8)))), .int (nI (L1 % 8))])), (b, .inl (cB, nb, .inl g1))]) [0, 1, 2] (by decide) rfl
            have hFc := va_free (wc := [(h0, .inr (5, [.ref wr, .ref fi])), (wr, .inr (1, [.ref b, .int (nI (L1 / 8)), .int (nI (V1 / 2 ^ (8 * (L1 / 8)))), .int (nI (L1 % 8))])), (b, .inl (cB, nb, .inl g1))]) hD hS hA [0, 1, 2] rfl
            refine va_callv (va_runV (As := [.int (nI cp), .int (nI ((zbst tx a (min 258 (n - a)) a).2))]) (rest := []) ⟨hx, hb, hml, hown, hts⟩ (k_X5_writeCopy l dC dI cB cI cJ cM h0 wr b nb (.ref fi) g1 V1 L1 cp ((zbst tx a (min 258 (n - a)) a).2) (ho1) (by omega) (by omega) (by omega) (by omega) (by omega) (by omega) H.size) (cwV 2 hts gX5_writeAll_X5_writeCopy rfl rfl rfl (by decide +kernel) ⟨Nat.le_of_ble_eq_true rfl, Nat.le_of_ble_eq_true rfl⟩) ⟨fun a U g mk q => by obtain ⟨q0, q1, qP, qK, qD, qE⟩ := q; exact ⟨q0, q1, qP, va_K.moved (u := U) (U := U.calling g mk a) (Vm.Alike.refl U.vm) qK, qD, zE.blind qE⟩, va_recv hK hPc (ci := 5) (q0 := 0) rfl rfl, fun U hU hW => ⟨rfl, by rw [hU], by rw [hU]; exact hPc, va_K.moved hW.alike hK, hDc.weaken (fun _ _ _ _ => trivial), zE.call hE hS hU hW hFc⟩⟩ rfl rfl hl.1 rfl (lv_room (Nat.le_of_ble_eq_true rfl)) dX5_writeAll_72 ⟨(show 0 + 0 ≤ 0 by omega), (show 0 + 0 ≤ 0 by omega)⟩) hS (fun q _ h => hFc q h) hFc (fun u t H1 locs ht hvm hw hB hz1 hk1 hS => ?_)
            obtain ⟨g3, kk, dd⟩ := u
            have hP1 : va_P (dC, dI) vwCl [(h0, .inr (5, [.ref wr, .ref fi])), (wr, .inr (1, [.ref b, .int (nI ((zl4 L1 kk dd) / 8)), .int (nI (zv4 V1 L1 cp ((zbst tx a (min 258 (n - a)) a).2) kk dd / 2 ^ (8 * ((zl4 L1 kk dd) / 8)))), .int (nI ((zl4 L1 kk dd) % 8))])), (b, .inl (cB, nb, .inl g3))] H1 := by rw [← ht]; exact hB.1
            have hD1 : va_D (va_A [(h0, .inr (5, [.ref wr, .ref fi])), (wr, .inr (1, [.ref b, .int (nI (L1 / 8)), .int (nI (V1 / 2 ^ (8 * (L1 / 8)))), .int (nI (L1 % 8))])), (b, .inl (cB, nb, .inl g1))] H.size) [(h0, .inr (5, [.ref wr, .ref fi])), (wr, .inr (1, [.ref b, .int (nI ((zl4 L1 kk dd) / 8)), .int (nI (zv4 V1 L1 cp ((zbst tx a (min 258 (n - a)) a).2) kk dd / 2 ^ (8 * ((zl4 L1 kk dd) / 8)))), .int (nI ((zl4 L1 kk dd) % 8))])), (b, .inl (cB, nb, .inl g3))] := hB.2.2
            obtain ⟨hP, hD⟩ := va_join (wr := [(tp, .inl (cB, 4000, .inl tx)), (ne, .inl (cI, 4096, .inl g2)), (fa, .inl (cI, 4000, .inl w2)), (fi, .inr (3, [.ref ne, .ref fa, .ref tp, .int (nI n), .int d3]))]) (w1 := [(h0, .inr (5, [.ref wr, .ref fi])), (wr, .inr (1, [.ref b, .int (nI ((zl4 L1 kk dd) / 8)), .int (nI (zv4 V1 L1 cp ((zbst tx a (min 258 (n - a)) a).2) kk dd / 2 ^ (8 * ((zl4 L1 kk dd) / 8)))), .int (nI ((zl4 L1 kk dd) % 8))])), (b, .inl (cB, nb, .inl g3))]) hP hD [0, 1, 2] [3, 4, 5, 6] rfl rfl (by decide) (by decide) hk1 hFc hP1 hD1
            generalize H1 = H at hP hS ⊢
            try dsimp only at hw
            have hP : va_P (dC, dI) vwCl [(tp, .inl (cB, 4000, .inl tx)), (ne, .inl (cI, 4096, .inl g2)), (fa, .inl (cI, 4000, .inl w2)), (fi, .inr (3, [.ref ne, .ref fa, .ref tp, .int (nI n), .int d3])), (h0, .inr (5, [.ref wr, .ref fi])), (wr, .inr (1, [.ref b, .int (nI ((zl4 L1 kk dd) / 8)), .int (nI (zv4 V1 L1 cp ((zbst tx a (min 258 (n - a)) a).2) kk dd / 2 ^ (8 * ((zl4 L1 kk dd) / 8)))), .int (nI ((zl4 L1 kk dd) % 8))])), (b, .inl (cB, nb, .inl g3))] H := hP
            have hD : va_D A [(tp, .inl (cB, 4000, .inl tx)), (ne, .inl (cI, 4096, .inl g2)), (fa, .inl (cI, 4000, .inl w2)), (fi, .inr (3, [.ref ne, .ref fa, .ref tp, .int (nI n), .int d3])), (h0, .inr (5, [.ref wr, .ref fi])), (wr, .inr (1, [.ref b, .int (nI ((zl4 L1 kk dd) / 8)), .int (nI (zv4 V1 L1 cp ((zbst tx a (min 258 (n - a)) a).2) kk dd / 2 ^ (8 * ((zl4 L1 kk dd) / 8)))), .int (nI ((zl4 L1 kk dd) % 8))])), (b, .inl (cB, nb, .inl g3))] := hD
            obtain ⟨hzk, hzd, hoC⟩ := hw
            have hpkC := (zpk_copy (V := V1) (L := L1) (show a < n by omega) hcl rfl hb2 hzk hzd).symm.trans hpk
            have hLC : zl4 L1 kk dd ≤ L + 9 * (a + cp) := by have := zl4_le (L := L1) hzk hzd (by omega) (by omega) (by omega); omega
            have hcN : a + cp ≤ n := by omega
            refine W.eq (g2 := F0 m 75 ls []) rfl ?_
            refine lv_iload hx hb dX5_writeAll_75 (lv_at hl 5 rfl) ?_
            refine lv_iload hx hb dX5_writeAll_77 (lv_at hl 0 rfl) ?_
            refine lv_iadd hx hb dX5_writeAll_79 ?_
            refine lv_topi (fun y_1 ey_1 => ?_)
            obtain rfl : y_1 = nI (a + cp) := ey_1.trans (nI_add a cp)
            refine lv_istore_n (lv' := [(3, .int (nI (a + cp))), (5, .int (nI cp)), (0, .ref h0), (1, .ref tp), (2, .int (nI n)), (4, .int (nI a))]) hx hb dX5_writeAll_80 rfl hl (by decide) rfl (fun ls hl => ?_)
            exact cut81 (a + cp) (zv4 V1 L1 cp (zbst tx a (min 258 (n - a)) a).2 kk dd) (zl4 L1 kk dd) g3 d3 (by omega) (hcN) (hpkC) (hoC) (hLC)  _ _ (hP.sub [4, 5, 6, 3, 1, 2, 0] rfl) (hD.sub [4, 5, 6, 3, 1, 2, 0] (by decide) rfl) hS _ (lv_sub hl [2, 3, 4, 0, 5] rfl)
          · have c39 : cp = 0 := (nI_eq (a := cp) (b := 0) (by omega) (by omega)).mp c39
            have hb2 : (zbst tx a (min 258 (n - a)) a).2 = 0 := Classical.byContradiction fun h => by have := hbd.2 h; rw [if_neg h] at hcp; omega
            have hz8 := zu8_lt (tx a)
            have hsl8 := zsl_le (zu8 (tx a))
            refine lv_aload_n hx hb dX5_writeAll_42 rfl (lv_at hl 1 rfl) ?_
            refine lv_aload_n hx hb dX5_writeAll_43 rfl (lv_at hl 2 rfl) ?_
            refine lv_iload hx hb dX5_writeAll_44 (lv_at hl 5 rfl) ?_
            refine va_bald hx hb hK hP 4 0 rfl rfl (vp_in_nI (n := a) (by omega) (by omega)) dX5_writeAll_46 ?_
            rw [nI_clamp (n := a) (by omega)]
            refine lv_sipush (v := 255) hx hb dX5_writeAll_47 (by decide) ?_
            refine lv_iand hx hb dX5_writeAll_50 ?_
            refine lv_topi (fun y_2 ey_2 => ?_)
            obtain rfl : y_2 = nI (zu8 (tx a)) := ey_2.trans (zu8_eq (tx a))
            have hPc := hP.sub (ws' := [(h0, .inr (5, [.ref wr, .ref fi])), (wr, .inr (1, [.ref b, .int (nI (L1 / 8)), .int (nI (V1 / 2 ^ (8 * (L1 / 8)))), .int (nI (L1 % 8))])), (b, .inl (cB, nb, .inl g1))]) [0, 1, 2] rfl
            have hDc := hD.sub (ws' := [(h0, .inr (5, [.ref wr, .ref fi])), (wr, .inr (1, [.ref b, .int (nI (L1 / 8)), .int (nI (V1 / 2 ^ (8 * (L1 / 8)))), .int (nI (L1 % 8))])), (b, .inl (cB, nb, .inl g1))]) [0, 1, 2] (by decide) rfl
            have hFc := va_free (wc := [(h0, .inr (5, [.ref wr, .ref fi])), (wr, .inr (1, [.ref b, .int (nI (L1 / 8)), .int (nI (V1 / 2 ^ (8 * (L1 / 8)))), .int (nI (L1 % 8))])), (b, .inl (cB, nb, .inl g1))]) hD hS hA [0, 1, 2] rfl
            refine va_callv (va_runV (As := [.int (nI (zu8 (tx a)))]) (rest := []) ⟨hx, hb, hml, hown, hts⟩ (k_X5_writeSymbol l dC dI cB cI cJ cM h0 wr b nb (.ref fi) g1 V1 L1 (zu8 (tx a)) (ho1) (by omega) (by omega) (by omega) H.size) (cwV 1 hts gX5_writeAll_X5_writeSymbol rfl rfl rfl (by decide +kernel) ⟨Nat.le_of_ble_eq_true rfl, Nat.le_of_ble_eq_true rfl⟩) ⟨fun a U g mk q => by obtain ⟨q0, q1, qP, qK, qD⟩ := q; exact ⟨q0, q1, qP, va_K.moved (u := U) (U := U.calling g mk a) (Vm.Alike.refl U.vm) qK, qD⟩, va_recv hK hPc (ci := 5) (q0 := 0) rfl rfl, fun U hU hW => ⟨rfl, by rw [hU], by rw [hU]; exact hPc, va_K.moved hW.alike hK, hDc.weaken (fun _ _ _ _ => trivial)⟩⟩ rfl rfl hl.1 rfl (lv_room (Nat.le_of_ble_eq_true rfl)) dX5_writeAll_51 ⟨(show 0 + 0 ≤ 0 by omega), (show 0 + 0 ≤ 0 by omega)⟩) hS (fun q _ h => hFc q h) hFc (fun u t H1 locs ht hvm hw hB hz1 hk1 hS => ?_)
            obtain ⟨g3, rfl⟩ : ∃ z, z = u := ⟨_, rfl⟩
            have hP1 : va_P (dC, dI) vwCl [(h0, .inr (5, [.ref wr, .ref fi])), (wr, .inr (1, [.ref b, .int (nI ((L1 + zsl (zu8 (tx a))) / 8)), .int (nI (zsv V1 L1 (zu8 (tx a)) / 2 ^ (8 * ((L1 + zsl (zu8 (tx a))) / 8)))), .int (nI ((L1 + zsl (zu8 (tx a))) % 8))])), (b, .inl (cB, nb, .inl g3))] H1 := by rw [← ht]; exact hB.1
            have hD1 : va_D (va_A [(h0, .inr (5, [.ref wr, .ref fi])), (wr, .inr (1, [.ref b, .int (nI (L1 / 8)), .int (nI (V1 / 2 ^ (8 * (L1 / 8)))), .int (nI (L1 % 8))])), (b, .inl (cB, nb, .inl g1))] H.size) [(h0, .inr (5, [.ref wr, .ref fi])), (wr, .inr (1, [.ref b, .int (nI ((L1 + zsl (zu8 (tx a))) / 8)), .int (nI (zsv V1 L1 (zu8 (tx a)) / 2 ^ (8 * ((L1 + zsl (zu8 (tx a))) / 8)))), .int (nI ((L1 + zsl (zu8 (tx a))) % 8))])), (b, .inl (cB, nb, .inl g3))] := hB.2.2
            obtain ⟨hP, hD⟩ := va_join (wr := [(fi, .inr (3, [.ref ne, .ref fa, .ref tp, .int (nI n), .int d3])), (tp, .inl (cB, 4000, .inl tx)), (ne, .inl (cI, 4096, .inl g2)), (fa, .inl (cI, 4000, .inl w2))]) (w1 := [(h0, .inr (5, [.ref wr, .ref fi])), (wr, .inr (1, [.ref b, .int (nI ((L1 + zsl (zu8 (tx a))) / 8)), .int (nI (zsv V1 L1 (zu8 (tx a)) / 2 ^ (8 * ((L1 + zsl (zu8 (tx a))) / 8)))), .int (nI ((L1 + zsl (zu8 (tx a))) % 8))])), (b, .inl (cB, nb, .inl g3))]) hP hD [0, 1, 2] [3, 4, 5, 6] rfl rfl (by decide) (by decide) hk1 hFc hP1 hD1
            generalize H1 = H at hP hS ⊢
            try dsimp only at hw
            have hP : va_P (dC, dI) vwCl [(fi, .inr (3, [.ref ne, .ref fa, .ref tp, .int (nI n), .int d3])), (tp, .inl (cB, 4000, .inl tx)), (ne, .inl (cI, 4096, .inl g2)), (fa, .inl (cI, 4000, .inl w2)), (h0, .inr (5, [.ref wr, .ref fi])), (wr, .inr (1, [.ref b, .int (nI ((L1 + zsl (zu8 (tx a))) / 8)), .int (nI (zsv V1 L1 (zu8 (tx a)) / 2 ^ (8 * ((L1 + zsl (zu8 (tx a))) / 8)))), .int (nI ((L1 + zsl (zu8 (tx a))) % 8))])), (b, .inl (cB, nb, .inl g3))] H := hP
            have hD : va_D A [(fi, .inr (3, [.ref ne, .ref fa, .ref tp, .int (nI n), .int d3])), (tp, .inl (cB, 4000, .inl tx)), (ne, .inl (cI, 4096, .inl g2)), (fa, .inl (cI, 4000, .inl w2)), (h0, .inr (5, [.ref wr, .ref fi])), (wr, .inr (1, [.ref b, .int (nI ((L1 + zsl (zu8 (tx a))) / 8)), .int (nI (zsv V1 L1 (zu8 (tx a)) / 2 ^ (8 * ((L1 + zsl (zu8 (tx a))) / 8)))), .int (nI ((L1 + zsl (zu8 (tx a))) % 8))])), (b, .inl (cB, nb, .inl g3))] := hD
            have hoB := hw
            have hpkB := (zpk_byte (V := V1) (L := L1) (show a < n by omega) hb2).symm.trans hpk
            have hLB : L1 + zsl (zu8 (tx a)) ≤ L + 9 * (a + 1) := by omega
            refine W.eq (g2 := F0 m 54 ls []) rfl ?_
            refine lv_iload hx hb dX5_writeAll_54 (lv_at hl 5 rfl) ?_
            refine lv_iconst (v := 1) hx hb dX5_writeAll_56 (by decide) ?_
            refine lv_iadd hx hb dX5_writeAll_57 ?_
            refine lv_topi (fun y_3 ey_3 => ?_)
            obtain rfl : y_3 = nI (a + 1) := ey_3.trans (nI_add a 1)
            refine lv_istore_n (lv' := [(3, .int (nI (a + 1))), (5, .int (nI cp)), (0, .ref h0), (1, .ref tp), (2, .int (nI n)), (4, .int (nI a))]) hx hb dX5_writeAll_58 rfl hl (by decide) rfl (fun ls hl => ?_)
            refine lv_goto (tgt := 81) hx hb dX5_writeAll_59 (by decide) ?_
            exact cut81 (a + 1) (zsv V1 L1 (zu8 (tx a))) (L1 + zsl (zu8 (tx a))) g3 d3 (by omega) (by omega) (hpkB) (hoB) (hLB)  _ _ (hP.sub [4, 5, 6, 0, 2, 3, 1] rfl) (hD.sub [4, 5, 6, 0, 2, 3, 1] (by decide) rfl) hS _ (lv_sub hl [2, 3, 4, 0, 5] rfl)
  exact cut14 (n - 0 + 1) 0 0 V L g g9 w0 d0 (by omega) (by omega) (by omega) (rfl) (ho) (by omega) (hch0) (by omega) _ _ (hP.sub [0, 1, 2, 5, 6, 3, 4] rfl) (hD.sub [0, 1, 2, 5, 6, 3, 4] (by decide) rfl) hS _ (lv_sub hl [2, 3, 4, 1, 0] rfl)
