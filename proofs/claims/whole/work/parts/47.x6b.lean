abbrev rm_X6_readLengthCodes : Room := { frames := 8, cells := 1, slots := 6, locals := 140 }
abbrev wo_X6_readLengthCodes (dC : Nat → ClassId) (dI : Nat → Nat → Nat) (cB cI cJ cM : ClassId) (h0 cs co pl sy lp rd b n0 : Nat) (x0 x1 : Value) (lf c0 p0 s0 f : Nat → Int32) (at_ : Nat) (lim : Int32) (td : Nat) : va_W := [(h0, .inr (6, [x0, x1, .ref cs, .ref lp])), (cs, .inr (2, [.ref co, .ref pl, .ref sy])), (co, .inl (cI, 16, .inl c0)), (pl, .inl (cI, 16, .inl p0)), (sy, .inl (cI, 19, .inl s0)), (lp, .inl (cI, 316, .inl lf)), (rd, .inr (0, [.ref b, .int (nI at_), .int lim])), (b, .inl (cB, n0, .inl f))]
abbrev q_X6_readLengthCodes (dC : Nat → ClassId) (dI : Nat → Nat → Nat) (cB cI cJ cM : ClassId) (h0 cs co pl sy lp rd b n0 : Nat) (x0 x1 : Value) (lf c0 p0 s0 f : Nat → Int32) (at_ : Nat) (lim : Int32) (td : Nat) (A : Nat → Prop) : Array Value → State → Outcome → State → Prop := va_Qv (fun (u : (Nat → Int32) × (Nat → Int32) × (Nat → Int32) × (Nat → Int32)) => at_ + 3 * td ≤ lim.toNatClampNeg ∧ zallow (zcl f at_ td) 19 ∧ zCS (zcl f at_ td) 19 u.1 u.2.2.1) (zB dC dI cB cI cJ cM A (fun u : (Nat → Int32) × (Nat → Int32) × (Nat → Int32) × (Nat → Int32) => [(h0, .inr (6, [x0, x1, .ref cs, .ref lp])), (cs, .inr (2, [.ref co, .ref pl, .ref sy])), (co, .inl (cI, 16, .inl u.1)), (pl, .inl (cI, 16, .inl u.2.1)), (sy, .inl (cI, 19, .inl u.2.2.1)), (lp, .inl (cI, 316, .inl u.2.2.2)), (rd, .inr (0, [.ref b, .int (nI (at_ + 3 * td)), .int lim])), (b, .inl (cB, n0, .inl f))])) A
abbrev x_X6_readLengthCodes (dC : Nat → ClassId) (dI : Nat → Nat → Nat) (cB cI cJ cM : ClassId) (h0 cs co pl sy lp rd b n0 : Nat) (x0 x1 : Value) (lf c0 p0 s0 f : Nat → Int32) (at_ : Nat) (lim : Int32) (td : Nat) (A : Nat → Prop) : String → State → State → Prop := vx_X (fun (u : String × ((Nat → Int32) × (Nat → Int32) × (Nat → Int32) × (Nat → Int32) × Int32)) => (u.1 = "java/lang/UnsupportedOperationException") ∧ (¬ (at_ + 3 * td ≤ lim.toNatClampNeg ∧ zallow (zcl f at_ td) 19))) (fun E (u : String × ((Nat → Int32) × (Nat → Int32) × (Nat → Int32) × (Nat → Int32) × Int32)) t => E = u.1 ∧ zB dC dI cB cI cJ cM A (fun u : (Nat → Int32) × (Nat → Int32) × (Nat → Int32) × (Nat → Int32) × Int32 => [(h0, .inr (6, [x0, x1, .ref cs, .ref lp])), (cs, .inr (2, [.ref co, .ref pl, .ref sy])), (co, .inl (cI, 16, .inl u.1)), (pl, .inl (cI, 16, .inl u.2.1)), (sy, .inl (cI, 19, .inl u.2.2.1)), (lp, .inl (cI, 316, .inl u.2.2.2.1)), (rd, .inr (0, [.ref b, .int u.2.2.2.2, .int lim])), (b, .inl (cB, n0, .inl f))]) u.2 t) A
set_option maxHeartbeats 8000000 in
set_option maxRecDepth 100000 in
/-- readLengthCodes -/
theorem k_X6_readLengthCodes (l : Launch) (hl9 : l.stackTraces = false) (dC : Nat → ClassId) (dI : Nat → Nat → Nat) (cB cI cJ cM : ClassId) (h0 cs co pl sy lp rd b n0 : Nat) (x0 x1 : Value) (lf c0 p0 s0 f : Nat → Int32) (at_ : Nat) (lim : Int32) (td : Nat) (h1 : lim.toNatClampNeg ≤ 8 * n0) (h2 : n0 < 100000) (h3 : at_ ≤ lim.toNatClampNeg) (h4 : td ≤ 19) (sz : Nat) : vx_Met l yX6_readLengthCodes wsX6_readLengthCodes rm_X6_readLengthCodes (va_Pc [.ref h0, .ref rd, .int (nI td)] (fun U => U.heap.size = sz ∧ va_P (dC, dI) vwCl (wo_X6_readLengthCodes dC dI cB cI cJ cM h0 cs co pl sy lp rd b n0 x0 x1 lf c0 p0 s0 f at_ lim td) U.heap ∧ va_K (dC, dI) vwCl (zT cB cI cJ cM) U ∧ va_D (fun _ => True) (wo_X6_readLengthCodes dC dI cB cI cJ cM h0 cs co pl sy lp rd b n0 x0 x1 lf c0 p0 s0 f at_ lim td) ∧ zE (va_A (wo_X6_readLengthCodes dC dI cB cI cJ cM h0 cs co pl sy lp rd b n0 x0 x1 lf c0 p0 s0 f at_ lim td) sz) U)) (q_X6_readLengthCodes dC dI cB cI cJ cM h0 cs co pl sy lp rd b n0 x0 x1 lf c0 p0 s0 f at_ lim td (va_A (wo_X6_readLengthCodes dC dI cB cI cJ cM h0 cs co pl sy lp rd b n0 x0 x1 lf c0 p0 s0 f at_ lim td) sz)) (x_X6_readLengthCodes dC dI cB cI cJ cM h0 cs co pl sy lp rd b n0 x0 x1 lf c0 p0 s0 f at_ lim td (va_A (wo_X6_readLengthCodes dC dI cB cI cJ cM h0 cs co pl sy lp rd b n0 x0 x1 lf c0 p0 s0 f at_ lim td) sz)) 0 0 1 6 (va_A (wo_X6_readLengthCodes dC dI cB cI cJ cM h0 cs co pl sy lp rd b n0 x0 x1 lf c0 p0 s0 f at_ lim td) sz) := by
  refine vx_ofW (cc := cX6_readLengthCodes) (maxL := 4) (ret := none) (by decide) rfl ?_
  intro p e s m args below meth c s₁ B hml hEx hv
  obtain ⟨rfl, hsz, hP, hK, hD0, hE⟩ := hv
  have hx := B.exec
  have hb := B.bytes
  have hr := B.returns
  have hts := atoms_spec (ws := wsX6_readLengthCodes) B.pre
  have hown : s.vm.findClass RX6 = some m.cls := findClass_of_methodNamed B.named
  have hlocks := B.notSynchronized
  subst hsz
  have hD := hD0.self (sz := s.heap.size)
  generalize hAe : va_A (wo_X6_readLengthCodes dC dI cB cI cJ cM h0 cs co pl sy lp rd b n0 x0 x1 lf c0 p0 s0 f at_ lim td) s.heap.size = A at hD hE ⊢
  have hA : ∀ q : Nat, s.heap.size ≤ q → A q := fun q h => by rw [← hAe]; exact Or.inr h
  have hS : va_S A s.heap s.heap [] := va_S.rf
  have hP : va_P (dC, dI) vwCl [(h0, .inr (6, [x0, x1, .ref cs, .ref lp])), (cs, .inr (2, [.ref co, .ref pl, .ref sy])), (co, .inl (cI, 16, .inl c0)), (pl, .inl (cI, 16, .inl p0)), (sy, .inl (cI, 19, .inl s0)), (lp, .inl (cI, 316, .inl lf)), (rd, .inr (0, [.ref b, .int (nI at_), .int lim])), (b, .inl (cB, n0, .inl f))] s.heap := hP
  have hD : va_D A [(h0, .inr (6, [x0, x1, .ref cs, .ref lp])), (cs, .inr (2, [.ref co, .ref pl, .ref sy])), (co, .inl (cI, 16, .inl c0)), (pl, .inl (cI, 16, .inl p0)), (sy, .inl (cI, 19, .inl s0)), (lp, .inl (cI, 316, .inl lf)), (rd, .inr (0, [.ref b, .int (nI at_), .int lim])), (b, .inl (cB, n0, .inl f))] := hD
  have hl := lv_entry ([.ref h0, .ref rd, .int (nI td)]) (n := 4) (Nat.le_of_ble_eq_true rfl)
  rw [lg_entry_eq]
  generalize (lg_sl ([.ref h0, .ref rd, .int (nI td)]) ++ List.replicate (4 - (lg_sl ([.ref h0, .ref rd, .int (nI td)])).length) Slot.unset).toArray = ls at hl ⊢
  have hl : lv_has ls 4 [(0, .ref h0), (1, .ref rd), (2, .int (nI td))] := hl
  obtain ⟨t_LENGTHS_ORDER, hz_LENGTHS_ORDER, ha_LENGTHS_ORDER⟩ := zS_LENGTHS_ORDER hE
  refine lv_iconst (v := 0) hx hb dX6_readLengthCodes_0 (by decide) ?_
  refine lv_istore_n (lv' := [(3, .int 0), (0, .ref h0), (1, .ref rd), (2, .int (nI td))]) hx hb dX6_readLengthCodes_1 rfl hl (by decide) rfl (fun ls hl => ?_)
  have cut2 : ∀ (fuel : Nat) (i : Nat) (ps : Nat) (lf1 : Nat → Int32), (i ≤ 19) → ((i < td ∧ ps = at_ + 3 * i) ∨ (td ≤ i ∧ ps = at_ + 3 * td)) → (ps ≤ lim.toNatClampNeg) → (∀ k, k < 19 → ziv k < i → lf1 k = nI (zcl f at_ td k)) → (19 - i < fuel) → ∀ (H : Heap) (locs : List Loc), va_P (dC, dI) vwCl [(h0, .inr (6, [x0, x1, .ref cs, .ref lp])), (cs, .inr (2, [.ref co, .ref pl, .ref sy])), (co, .inl (cI, 16, .inl c0)), (pl, .inl (cI, 16, .inl p0)), (sy, .inl (cI, 19, .inl s0)), (lp, .inl (cI, 316, .inl lf1)), (rd, .inr (0, [.ref b, .int (nI ps), .int lim])), (b, .inl (cB, n0, .inl f))] H → va_D A [(h0, .inr (6, [x0, x1, .ref cs, .ref lp])), (cs, .inr (2, [.ref co, .ref pl, .ref sy])), (co, .inl (cI, 16, .inl c0)), (pl, .inl (cI, 16, .inl p0)), (sy, .inl (cI, 19, .inl s0)), (lp, .inl (cI, 316, .inl lf1)), (rd, .inr (0, [.ref b, .int (nI ps), .int lim])), (b, .inl (cB, n0, .inl f))] → va_S A s.heap H locs → ∀ (ls : Array Slot), lv_has ls 4 [(0, .ref h0), (1, .ref rd), (2, .int (nI td)), (3, .int (nI i))] → W p l e (headSpec wsX6_readLengthCodes rm_X6_readLengthCodes).room s m ([.ref h0, .ref rd, .int (nI td)] : List Value).toArray below meth c H locs 0 0 (vx_MQ below (q_X6_readLengthCodes dC dI cB cI cJ cM h0 cs co pl sy lp rd b n0 x0 x1 lf c0 p0 s0 f at_ lim td A) (x_X6_readLengthCodes dC dI cB cI cJ cM h0 cs co pl sy lp rd b n0 x0 x1 lf c0 p0 s0 f at_ lim td A) ([.ref h0, .ref rd, .int (nI td)] : List Value).toArray s 0 0 1 6 A) (F0 m 2 ls []) := by
    intro fuel
    induction fuel with
    | zero => intros; omega
    | succ fuel ih =>
      intro i ps lf1 hi hps hpl hlf1 hfuel H locs hP hD hS ls hl
      refine lv_iload_n hx hb dX6_readLengthCodes_2 rfl (lv_at hl 3 rfl) ?_
      refine va_getsN hx hb hz_LENGTHS_ORDER hS hown (zN_X6_23 hE) (fun _ h9 => h9) dX6_readLengthCodes_3 ?_
      refine va_tlen (v := 19) hx hb ha_LENGTHS_ORDER hS (by decide) dX6_readLengthCodes_6 ?_
      refine lv_icmp_ge (tgt := 40) hx hb dX6_readLengthCodes_7 (by decide) (fun c7 => ?_) (fun c7 => ?_)
      · have c7 : 19 ≤ i := (nI_leI (a := 19) (b := i) (by omega) (by omega)).mp c7
        have hi9 : i = 19 := by omega
        have hpe : ps = at_ + 3 * td := by omega
        rw [hpe] at hP hD hpl
        have hP : va_P (dC, dI) vwCl [(h0, .inr (6, [x0, x1, .ref cs, .ref lp])), (cs, .inr (2, [.ref co, .ref pl, .ref sy])), (co, .inl (cI, 16, .inl c0)), (pl, .inl (cI, 16, .inl p0)), (sy, .inl (cI, 19, .inl s0)), (lp, .inl (cI, 316, .inl lf1)), (rd, .inr (0, [.ref b, .int (nI (at_ + 3 * td)), .int lim])), (b, .inl (cB, n0, .inl f))] H := hP
        have hD : va_D A [(h0, .inr (6, [x0, x1, .ref cs, .ref lp])), (cs, .inr (2, [.ref co, .ref pl, .ref sy])), (co, .inl (cI, 16, .inl c0)), (pl, .inl (cI, 16, .inl p0)), (sy, .inl (cI, 19, .inl s0)), (lp, .inl (cI, 316, .inl lf1)), (rd, .inr (0, [.ref b, .int (nI (at_ + 3 * td)), .int lim])), (b, .inl (cB, n0, .inl f))] := hD
        have hlf9 : ∀ k, k < 19 → lf1 (0 + k) = nI (zcl f at_ td k) ∧ zcl f at_ td k ≤ 15 := fun k hk => ⟨by rw [Nat.zero_add]; exact hlf1 k hk (by have := (z_iv2 k hk).2; omega), zcl_le f at_ td k⟩
        refine lv_aload_n hx hb dX6_readLengthCodes_40 rfl (lv_at hl 0 rfl) ?_
        refine lv_aload_n hx hb dX6_readLengthCodes_41 rfl (lv_at hl 0 rfl) ?_
        refine va_get (D := (dC, dI)) (ci := 6) (v := .ref cs) (C := RX6) (T := TX6) (N := 4) hx hb hts (by decide +kernel) hown hK hP 0 rfl rfl 2 (by decide) (hts (.fieldLink RX6 27 "FixedPress$ToldCodes" "lengthCodes" "LFixedPress$CodeSet;") (by decide +kernel)) (fun _ h9 => h9) rfl dX6_readLengthCodes_42 ?_
        refine lv_iconst (v := 0) hx hb dX6_readLengthCodes_45 (by decide) ?_
        refine va_getsN hx hb hz_LENGTHS_ORDER hS hown (zN_X6_23 hE) (fun _ h9 => h9) dX6_readLengthCodes_46 ?_
        refine va_tlen (v := 19) hx hb ha_LENGTHS_ORDER hS (by decide) dX6_readLengthCodes_49 ?_
        have hPc := hP.sub (ws' := [(h0, .inr (6, [x0, x1, .ref cs, .ref lp])), (cs, .inr (2, [.ref co, .ref pl, .ref sy])), (co, .inl (cI, 16, .inl c0)), (pl, .inl (cI, 16, .inl p0)), (sy, .inl (cI, 19, .inl s0)), (lp, .inl (cI, 316, .inl lf1))]) [0, 1, 2, 3, 4, 5] rfl
        have hDc := hD.sub (ws' := [(h0, .inr (6, [x0, x1, .ref cs, .ref lp])), (cs, .inr (2, [.ref co, .ref pl, .ref sy])), (co, .inl (cI, 16, .inl c0)), (pl, .inl (cI, 16, .inl p0)), (sy, .inl (cI, 19, .inl s0)), (lp, .inl (cI, 316, .inl lf1))]) [0, 1, 2, 3, 4, 5] (by decide) rfl
        have hFc := va_free (wc := [(h0, .inr (6, [x0, x1, .ref cs, .ref lp])), (cs, .inr (2, [.ref co, .ref pl, .ref sy])), (co, .inl (cI, 16, .inl c0)), (pl, .inl (cI, 16, .inl p0)), (sy, .inl (cI, 19, .inl s0)), (lp, .inl (cI, 316, .inl lf1))]) hD hS hA [0, 1, 2, 3, 4, 5] rfl
        refine vx_callv (vx_runV (As := [.ref cs, .int 0, .int 19]) (rest := []) ⟨hx, hb, hml, hown, hts⟩ (k_X6_learnAllowed l hl9 dC dI cB cI cJ cM h0 cs co pl sy lp 19 x0 x1 (.ref cs) (zcl f at_ td) lf1 0 19 c0 p0 s0 (hlf9) (by omega) (by omega) (by omega) H.size) (cwV 3 hts gX6_readLengthCodes_X6_learnAllowed rfl rfl rfl (by decide +kernel) ⟨Nat.le_of_ble_eq_true rfl, Nat.le_of_ble_eq_true rfl⟩) ⟨fun a U g mk q => by obtain ⟨q0, q1, qP, qK, qD, qE⟩ := q; exact ⟨q0, q1, qP, va_K.moved (u := U) (U := U.calling g mk a) (Vm.Alike.refl U.vm) qK, qD, zE.blind qE⟩, va_recv hK hPc (ci := 6) (q0 := 0) rfl rfl, fun U hU hW => ⟨rfl, by rw [hU], by rw [hU]; exact hPc, va_K.moved hW.alike hK, hDc.weaken (fun _ _ _ _ => trivial), zE.call hE hS hU hW hFc⟩⟩ rfl rfl hl.1 rfl (lv_room (Nat.le_of_ble_eq_true rfl)) dX6_readLengthCodes_50 ⟨(show 0 + 1 ≤ 1 by omega), (show 0 + 6 ≤ 6 by omega)⟩) hS (fun q _ h => hFc q h) hFc (fun q _ h => hFc q h) (fun E8 ce9 q9 ux t H1 locs ht hvm hw hB hz1 hk1 hS hce9 hcv9 hcl9 => ?_) (fun u t H1 locs ht hvm hw hB hz1 hk1 hS => ?_)
        · obtain ⟨E9, ux9⟩ := ux
          obtain ⟨hEe, hB9⟩ := hB
          have hB : True ∧ zB dC dI cB cI cJ cM (va_A [(h0, .inr (6, [x0, x1, .ref cs, .ref lp])), (cs, .inr (2, [.ref co, .ref pl, .ref sy])), (co, .inl (cI, 16, .inl c0)), (pl, .inl (cI, 16, .inl p0)), (sy, .inl (cI, 19, .inl s0)), (lp, .inl (cI, 316, .inl lf1))] H.size) (fun u : (Nat → Int32) × (Nat → Int32) × (Nat → Int32) => [(h0, .inr (6, [x0, x1, .ref cs, .ref lp])), (cs, .inr (2, [.ref co, .ref pl, .ref sy])), (co, .inl (cI, 16, .inl u.1)), (pl, .inl (cI, 16, .inl u.2.1)), (sy, .inl (cI, 19, .inl u.2.2)), (lp, .inl (cI, 316, .inl lf1))]) ux9 t := ⟨trivial, hB9⟩
          obtain ⟨c8, p8, s8⟩ := ux9
          have hP1 : va_P (dC, dI) vwCl [(h0, .inr (6, [x0, x1, .ref cs, .ref lp])), (cs, .inr (2, [.ref co, .ref pl, .ref sy])), (co, .inl (cI, 16, .inl c8)), (pl, .inl (cI, 16, .inl p8)), (sy, .inl (cI, 19, .inl s8)), (lp, .inl (cI, 316, .inl lf1))] H1 := by rw [← ht]; exact hB.2.1
          have hD1 : va_D (va_A [(h0, .inr (6, [x0, x1, .ref cs, .ref lp])), (cs, .inr (2, [.ref co, .ref pl, .ref sy])), (co, .inl (cI, 16, .inl c0)), (pl, .inl (cI, 16, .inl p0)), (sy, .inl (cI, 19, .inl s0)), (lp, .inl (cI, 316, .inl lf1))] H.size) [(h0, .inr (6, [x0, x1, .ref cs, .ref lp])), (cs, .inr (2, [.ref co, .ref pl, .ref sy])), (co, .inl (cI, 16, .inl c8)), (pl, .inl (cI, 16, .inl p8)), (sy, .inl (cI, 19, .inl s8)), (lp, .inl (cI, 316, .inl lf1))] := hB.2.2.2
          obtain ⟨hP, hD⟩ := va_join (wr := [(rd, .inr (0, [.ref b, .int (nI (at_ + 3 * td)), .int lim])), (b, .inl (cB, n0, .inl f))]) (w1 := [(h0, .inr (6, [x0, x1, .ref cs, .ref lp])), (cs, .inr (2, [.ref co, .ref pl, .ref sy])), (co, .inl (cI, 16, .inl c8)), (pl, .inl (cI, 16, .inl p8)), (sy, .inl (cI, 19, .inl s8)), (lp, .inl (cI, 316, .inl lf1))]) hP hD [0, 1, 2, 3, 4, 5] [6, 7] rfl rfl (by decide) (by decide) hk1 hFc hP1 hD1
          generalize H1 = H at hP hS hce9 ⊢
          try dsimp only at hw hEe
          subst hEe
          have hP : va_P (dC, dI) vwCl [(rd, .inr (0, [.ref b, .int (nI (at_ + 3 * td)), .int lim])), (b, .inl (cB, n0, .inl f)), (h0, .inr (6, [x0, x1, .ref cs, .ref lp])), (cs, .inr (2, [.ref co, .ref pl, .ref sy])), (co, .inl (cI, 16, .inl c8)), (pl, .inl (cI, 16, .inl p8)), (sy, .inl (cI, 19, .inl s8)), (lp, .inl (cI, 316, .inl lf1))] H := hP
          have hD : va_D A [(rd, .inr (0, [.ref b, .int (nI (at_ + 3 * td)), .int lim])), (b, .inl (cB, n0, .inl f)), (h0, .inr (6, [x0, x1, .ref cs, .ref lp])), (cs, .inr (2, [.ref co, .ref pl, .ref sy])), (co, .inl (cI, 16, .inl c8)), (pl, .inl (cI, 16, .inl p8)), (sy, .inl (cI, 19, .inl s8)), (lp, .inl (cI, 316, .inl lf1))] := hD
          have hP9 := hP.sub (ws' := [(h0, .inr (6, [x0, x1, .ref cs, .ref lp])), (cs, .inr (2, [.ref co, .ref pl, .ref sy])), (co, .inl (cI, 16, .inl c8)), (pl, .inl (cI, 16, .inl p8)), (sy, .inl (cI, 19, .inl s8)), (lp, .inl (cI, 316, .inl lf1)), (rd, .inr (0, [.ref b, .int (nI (at_ + 3 * td)), .int lim])), (b, .inl (cB, n0, .inl f))]) [2, 3, 4, 5, 6, 7, 0, 1] rfl
          have hD9 := hD.sub (ws' := [(h0, .inr (6, [x0, x1, .ref cs, .ref lp])), (cs, .inr (2, [.ref co, .ref pl, .ref sy])), (co, .inl (cI, 16, .inl c8)), (pl, .inl (cI, 16, .inl p8)), (sy, .inl (cI, 19, .inl s8)), (lp, .inl (cI, 316, .inl lf1)), (rd, .inr (0, [.ref b, .int (nI (at_ + 3 * td)), .int lim])), (b, .inl (cB, n0, .inl f))]) [2, 3, 4, 5, 6, 7, 0, 1] (by decide) rfl
          exact vx_out (fun x hx => (hEx x hx).elim) hlocks hce9 hcv9 hcl9 (fun t ht9 ha => ⟨(_, (c8, p8, s8, lf1, nI (at_ + 3 * td))), ⟨hw.1, fun h => hw.2 h.2⟩, ⟨rfl, by rw [ht9]; exact hP9, va_K.moved ha hK, hD9⟩, hS.F ht9⟩) hS.2.2 (Nat.le_of_ble_eq_true rfl) (Nat.le_of_ble_eq_true rfl)
        obtain ⟨c9, p9, s9⟩ := u
        have hP1 : va_P (dC, dI) vwCl [(h0, .inr (6, [x0, x1, .ref cs, .ref lp])), (cs, .inr (2, [.ref co, .ref pl, .ref sy])), (co, .inl (cI, 16, .inl c9)), (pl, .inl (cI, 16, .inl p9)), (sy, .inl (cI, 19, .inl s9)), (lp, .inl (cI, 316, .inl lf1))] H1 := by rw [← ht]; exact hB.1
        have hD1 : va_D (va_A [(h0, .inr (6, [x0, x1, .ref cs, .ref lp])), (cs, .inr (2, [.ref co, .ref pl, .ref sy])), (co, .inl (cI, 16, .inl c0)), (pl, .inl (cI, 16, .inl p0)), (sy, .inl (cI, 19, .inl s0)), (lp, .inl (cI, 316, .inl lf1))] H.size) [(h0, .inr (6, [x0, x1, .ref cs, .ref lp])), (cs, .inr (2, [.ref co, .ref pl, .ref sy])), (co, .inl (cI, 16, .inl c9)), (pl, .inl (cI, 16, .inl p9)), (sy, .inl (cI, 19, .inl s9)), (lp, .inl (cI, 316, .inl lf1))] := hB.2.2
        obtain ⟨hP, hD⟩ := va_join (wr := [(rd, .inr (0, [.ref b, .int (nI (at_ + 3 * td)), .int lim])), (b, .inl (cB, n0, .inl f))]) (w1 := [(h0, .inr (6, [x0, x1, .ref cs, .ref lp])), (cs, .inr (2, [.ref co, .ref pl, .ref sy])), (co, .inl (cI, 16, .inl c9)), (pl, .inl (cI, 16, .inl p9)), (sy, .inl (cI, 19, .inl s9)), (lp, .inl (cI, 316, .inl lf1))]) hP hD [0, 1, 2, 3, 4, 5] [6, 7] rfl rfl (by decide) (by decide) hk1 hFc hP1 hD1
        generalize H1 = H at hP hS ⊢
        try dsimp only at hw
        have hP : va_P (dC, dI) vwCl [(rd, .inr (0, [.ref b, .int (nI (at_ + 3 * td)), .int lim])), (b, .inl (cB, n0, .inl f)), (h0, .inr (6, [x0, x1, .ref cs, .ref lp])), (cs, .inr (2, [.ref co, .ref pl, .ref sy])), (co, .inl (cI, 16, .inl c9)), (pl, .inl (cI, 16, .inl p9)), (sy, .inl (cI, 19, .inl s9)), (lp, .inl (cI, 316, .inl lf1))] H := hP
        have hD : va_D A [(rd, .inr (0, [.ref b, .int (nI (at_ + 3 * td)), .int lim])), (b, .inl (cB, n0, .inl f)), (h0, .inr (6, [x0, x1, .ref cs, .ref lp])), (cs, .inr (2, [.ref co, .ref pl, .ref sy])), (co, .inl (cI, 16, .inl c9)), (pl, .inl (cI, 16, .inl p9)), (sy, .inl (cI, 19, .inl s9)), (lp, .inl (cI, 316, .inl lf1))] := hD
        have hw50 := hw
        refine W.eq (g2 := F0 m 53 ls []) rfl ?_
        have hP9 := hP.sub (ws' := [(h0, .inr (6, [x0, x1, .ref cs, .ref lp])), (cs, .inr (2, [.ref co, .ref pl, .ref sy])), (co, .inl (cI, 16, .inl c9)), (pl, .inl (cI, 16, .inl p9)), (sy, .inl (cI, 19, .inl s9)), (lp, .inl (cI, 316, .inl lf1)), (rd, .inr (0, [.ref b, .int (nI (at_ + 3 * td)), .int lim])), (b, .inl (cB, n0, .inl f))]) [2, 3, 4, 5, 6, 7, 0, 1] rfl
        have hD9 := hD.sub (ws' := [(h0, .inr (6, [x0, x1, .ref cs, .ref lp])), (cs, .inr (2, [.ref co, .ref pl, .ref sy])), (co, .inl (cI, 16, .inl c9)), (pl, .inl (cI, 16, .inl p9)), (sy, .inl (cI, 19, .inl s9)), (lp, .inl (cI, 316, .inl lf1)), (rd, .inr (0, [.ref b, .int (nI (at_ + 3 * td)), .int lim])), (b, .inl (cB, n0, .inl f))]) [2, 3, 4, 5, 6, 7, 0, 1] (by decide) rfl
        exact vx_ret (W.vret hx hb hr (fun t ht hW => ⟨⟨(c9, p9, s9, lf1), rfl, ⟨hpl, hw50⟩, ⟨by rw [ht]; exact hP9, va_K.moved hW.alike hK, hD9⟩⟩, hS.F ht⟩) hS.2.2 dX6_readLengthCodes_53)
      · have c7 : ¬ (19 ≤ i) := fun h => c7 ((nI_leI (a := 19) (b := i) (by omega) (by omega)).mpr h)
        refine lv_aload_n hx hb dX6_readLengthCodes_10 rfl (lv_at hl 0 rfl) ?_
        refine va_get (D := (dC, dI)) (ci := 6) (v := .ref lp) (C := RX6) (T := TX6) (N := 4) hx hb hts (by decide +kernel) hown hK hP 0 rfl rfl 3 (by decide) (hts (.fieldLink RX6 30 "FixedPress$ToldCodes" "lengths" "[I") (by decide +kernel)) (fun _ h9 => h9) rfl dX6_readLengthCodes_11 ?_
        refine va_getsN hx hb hz_LENGTHS_ORDER hS hown (zN_X6_23 hE) (fun _ h9 => h9) dX6_readLengthCodes_14 ?_
        refine lv_iload_n hx hb dX6_readLengthCodes_17 rfl (lv_at hl 3 rfl) ?_
        refine va_ti (v := .int (tb_LENGTHS_ORDER i)) hx hb ha_LENGTHS_ORDER hS (vp_in_nI (n := i) (by omega) (by omega)) (by rw [nI_clamp (by omega)]) dX6_readLengthCodes_18 ?_
        refine lv_topi (fun y_1 ey_1 => ?_)
        obtain rfl : y_1 = nI (tn_LENGTHS_ORDER i) := ey_1.trans (rfl)
        have hiv := z_iv1 i (by omega)
        refine lv_iload_n hx hb dX6_readLengthCodes_19 rfl (lv_at hl 3 rfl) ?_
        refine lv_iload_n hx hb dX6_readLengthCodes_20 rfl (lv_at hl 2 rfl) ?_
        refine lv_icmp_ge (tgt := 32) hx hb dX6_readLengthCodes_21 (by decide) (fun c21 => ?_) (fun c21 => ?_)
        · have c21 : td ≤ i := (nI_leI (a := td) (b := i) (by omega) (by omega)).mp c21
          refine lv_iconst (v := 0) hx hb dX6_readLengthCodes_32 (by decide) ?_
          refine va_iast hx hb hK hP hD hS 5 1 rfl rfl (vp_in_nI (n := tn_LENGTHS_ORDER i) (by omega) (by omega)) dX6_readLengthCodes_33 (fun H locs hP hD hS => ?_)
          rw [nI_clamp (n := tn_LENGTHS_ORDER i) (by omega)] at hP hD
          have hP : va_P (dC, dI) vwCl [(h0, .inr (6, [x0, x1, .ref cs, .ref lp])), (cs, .inr (2, [.ref co, .ref pl, .ref sy])), (co, .inl (cI, 16, .inl c0)), (pl, .inl (cI, 16, .inl p0)), (sy, .inl (cI, 19, .inl s0)), (lp, .inl (cI, 316, .inl (upd lf1 (tn_LENGTHS_ORDER i) 0))), (rd, .inr (0, [.ref b, .int (nI ps), .int lim])), (b, .inl (cB, n0, .inl f))] H := hP
          have hD : va_D A [(h0, .inr (6, [x0, x1, .ref cs, .ref lp])), (cs, .inr (2, [.ref co, .ref pl, .ref sy])), (co, .inl (cI, 16, .inl c0)), (pl, .inl (cI, 16, .inl p0)), (sy, .inl (cI, 19, .inl s0)), (lp, .inl (cI, 316, .inl (upd lf1 (tn_LENGTHS_ORDER i) 0))), (rd, .inr (0, [.ref b, .int (nI ps), .int lim])), (b, .inl (cB, n0, .inl f))] := hD
          have hlfN := zcl_s (f := f) (a := at_) (told := td) hlf1 (by omega) (x := 0) (by rw [if_neg (by omega)])
          refine lv_iinc (v := nI (i + 1)) (lv' := [(3, .int (nI (i + 1))), (0, .ref h0), (1, .ref rd), (2, .int (nI td))]) hx hb dX6_readLengthCodes_34 hl (k := 3) rfl (show nI i + Int32.ofInt 1 = _ from nI_add i 1) (by decide) rfl (fun ls hl => ?_)
          refine lv_goto (tgt := 2) hx hb dX6_readLengthCodes_37 (by decide) ?_
          exact ih (i + 1) ps (upd lf1 (tn_LENGTHS_ORDER i) 0) (by omega) (by omega) (by omega) (hlfN) (by omega) _ _ hP hD hS _ (lv_sub hl [1, 2, 3, 0] rfl)
        · have c21 : ¬ (td ≤ i) := fun h => c21 ((nI_leI (a := td) (b := i) (by omega) (by omega)).mpr h)
          refine lv_aload_n hx hb dX6_readLengthCodes_24 rfl (lv_at hl 1 rfl) ?_
          refine lv_iconst (v := 3) hx hb dX6_readLengthCodes_25 (by decide) ?_
          have hPc := hP.sub (ws' := [(rd, .inr (0, [.ref b, .int (nI ps), .int lim])), (b, .inl (cB, n0, .inl f))]) [6, 7] rfl
          have hDc := hD.sub (ws' := [(rd, .inr (0, [.ref b, .int (nI ps), .int lim])), (b, .inl (cB, n0, .inl f))]) [6, 7] (by decide) rfl
          have hFc := va_free (wc := [(rd, .inr (0, [.ref b, .int (nI ps), .int lim])), (b, .inl (cB, n0, .inl f))]) hD hS hA [6, 7] rfl
          refine vx_calli (vx_runV (As := [.int 3]) (rest := [.int (nI (tn_LENGTHS_ORDER i)), .ref lp]) ⟨hx, hb, hml, hown, hts⟩ (k_X0_readBits l hl9 dC dI cB cI cJ cM rd b n0 f ps lim 3 (by omega) (by omega) (by omega) (by omega) H.size) (cwV 1 hts gX6_readLengthCodes_X0_readBits rfl rfl rfl (by decide +kernel) ⟨Nat.le_of_ble_eq_true rfl, Nat.le_of_ble_eq_true rfl⟩) ⟨fun a U g mk q => by obtain ⟨q0, q1, qP, qK, qD, qE⟩ := q; exact ⟨q0, q1, qP, va_K.moved (u := U) (U := U.calling g mk a) (Vm.Alike.refl U.vm) qK, qD, zE.blind qE⟩, va_recv hK hPc (ci := 0) (q0 := 0) rfl rfl, fun U hU hW => ⟨rfl, by rw [hU], by rw [hU]; exact hPc, va_K.moved hW.alike hK, hDc.weaken (fun _ _ _ _ => trivial), zE.call hE hS hU hW hFc⟩⟩ rfl rfl hl.1 rfl (lv_room (Nat.le_of_ble_eq_true rfl)) dX6_readLengthCodes_26 ⟨(show 0 + 1 ≤ 1 by omega), (show 0 + 6 ≤ 6 by omega)⟩) hS (fun q _ h => hFc q h) hFc (fun q _ h => hFc q h) (fun E8 ce9 q9 ux t H1 locs ht hvm hw hB hz1 hk1 hS hce9 hcv9 hcl9 => ?_) (fun r26 u t H1 locs ht hvm hw hB hz1 hk1 hS => ?_)
          · obtain ⟨E9, ux9⟩ := ux
            obtain ⟨hEe, hB9⟩ := hB
            have hB : True ∧ zB dC dI cB cI cJ cM (va_A [(rd, .inr (0, [.ref b, .int (nI ps), .int lim])), (b, .inl (cB, n0, .inl f))] H.size) (fun u : Int32 => [(rd, .inr (0, [.ref b, .int u, .int lim])), (b, .inl (cB, n0, .inl f))]) ux9 t := ⟨trivial, hB9⟩
            obtain ⟨e26, rfl⟩ : ∃ z, z = ux9 := ⟨_, rfl⟩
            have hP1 : va_P (dC, dI) vwCl [(rd, .inr (0, [.ref b, .int e26, .int lim])), (b, .inl (cB, n0, .inl f))] H1 := by rw [← ht]; exact hB.2.1
            have hD1 : va_D (va_A [(rd, .inr (0, [.ref b, .int (nI ps), .int lim])), (b, .inl (cB, n0, .inl f))] H.size) [(rd, .inr (0, [.ref b, .int e26, .int lim])), (b, .inl (cB, n0, .inl f))] := hB.2.2.2
            obtain ⟨hP, hD⟩ := va_join (wr := [(h0, .inr (6, [x0, x1, .ref cs, .ref lp])), (cs, .inr (2, [.ref co, .ref pl, .ref sy])), (co, .inl (cI, 16, .inl c0)), (pl, .inl (cI, 16, .inl p0)), (sy, .inl (cI, 19, .inl s0)), (lp, .inl (cI, 316, .inl lf1))]) (w1 := [(rd, .inr (0, [.ref b, .int e26, .int lim])), (b, .inl (cB, n0, .inl f))]) hP hD [6, 7] [0, 1, 2, 3, 4, 5] rfl rfl (by decide) (by decide) hk1 hFc hP1 hD1
            generalize H1 = H at hP hS hce9 ⊢
            try dsimp only at hw hEe
            subst hEe
            have hP : va_P (dC, dI) vwCl [(h0, .inr (6, [x0, x1, .ref cs, .ref lp])), (cs, .inr (2, [.ref co, .ref pl, .ref sy])), (co, .inl (cI, 16, .inl c0)), (pl, .inl (cI, 16, .inl p0)), (sy, .inl (cI, 19, .inl s0)), (lp, .inl (cI, 316, .inl lf1)), (rd, .inr (0, [.ref b, .int e26, .int lim])), (b, .inl (cB, n0, .inl f))] H := hP
            have hD : va_D A [(h0, .inr (6, [x0, x1, .ref cs, .ref lp])), (cs, .inr (2, [.ref co, .ref pl, .ref sy])), (co, .inl (cI, 16, .inl c0)), (pl, .inl (cI, 16, .inl p0)), (sy, .inl (cI, 19, .inl s0)), (lp, .inl (cI, 316, .inl lf1)), (rd, .inr (0, [.ref b, .int e26, .int lim])), (b, .inl (cB, n0, .inl f))] := hD
            have hP9 := hP.sub (ws' := [(h0, .inr (6, [x0, x1, .ref cs, .ref lp])), (cs, .inr (2, [.ref co, .ref pl, .ref sy])), (co, .inl (cI, 16, .inl c0)), (pl, .inl (cI, 16, .inl p0)), (sy, .inl (cI, 19, .inl s0)), (lp, .inl (cI, 316, .inl lf1)), (rd, .inr (0, [.ref b, .int e26, .int lim])), (b, .inl (cB, n0, .inl f))]) [0, 1, 2, 3, 4, 5, 6, 7] rfl
            have hD9 := hD.sub (ws' := [(h0, .inr (6, [x0, x1, .ref cs, .ref lp])), (cs, .inr (2, [.ref co, .ref pl, .ref sy])), (co, .inl (cI, 16, .inl c0)), (pl, .inl (cI, 16, .inl p0)), (sy, .inl (cI, 19, .inl s0)), (lp, .inl (cI, 316, .inl lf1)), (rd, .inr (0, [.ref b, .int e26, .int lim])), (b, .inl (cB, n0, .inl f))]) [0, 1, 2, 3, 4, 5, 6, 7] (by decide) rfl
            exact vx_out (fun x hx => (hEx x hx).elim) hlocks hce9 hcv9 hcl9 (fun t ht9 ha => ⟨(_, (c0, p0, s0, lf1, e26)), ⟨hw.1, fun h => by have := hw.2; omega⟩, ⟨rfl, by rw [ht9]; exact hP9, va_K.moved ha hK, hD9⟩, hS.F ht9⟩) hS.2.2 (Nat.le_of_ble_eq_true rfl) (Nat.le_of_ble_eq_true rfl)
          have hP1 : va_P (dC, dI) vwCl [(rd, .inr (0, [.ref b, .int (nI (ps + 3)), .int lim])), (b, .inl (cB, n0, .inl f))] H1 := by rw [← ht]; exact hB.1
          have hD1 : va_D (va_A [(rd, .inr (0, [.ref b, .int (nI ps), .int lim])), (b, .inl (cB, n0, .inl f))] H.size) [(rd, .inr (0, [.ref b, .int (nI (ps + 3)), .int lim])), (b, .inl (cB, n0, .inl f))] := hB.2.2
          obtain ⟨hP, hD⟩ := va_join (wr := [(h0, .inr (6, [x0, x1, .ref cs, .ref lp])), (cs, .inr (2, [.ref co, .ref pl, .ref sy])), (co, .inl (cI, 16, .inl c0)), (pl, .inl (cI, 16, .inl p0)), (sy, .inl (cI, 19, .inl s0)), (lp, .inl (cI, 316, .inl lf1))]) (w1 := [(rd, .inr (0, [.ref b, .int (nI (ps + 3)), .int lim])), (b, .inl (cB, n0, .inl f))]) hP hD [6, 7] [0, 1, 2, 3, 4, 5] rfl rfl (by decide) (by decide) hk1 hFc hP1 hD1
          generalize H1 = H at hP hS ⊢
          try dsimp only at hw
          have hP : va_P (dC, dI) vwCl [(h0, .inr (6, [x0, x1, .ref cs, .ref lp])), (cs, .inr (2, [.ref co, .ref pl, .ref sy])), (co, .inl (cI, 16, .inl c0)), (pl, .inl (cI, 16, .inl p0)), (sy, .inl (cI, 19, .inl s0)), (lp, .inl (cI, 316, .inl lf1)), (rd, .inr (0, [.ref b, .int (nI (ps + 3)), .int lim])), (b, .inl (cB, n0, .inl f))] H := hP
          have hD : va_D A [(h0, .inr (6, [x0, x1, .ref cs, .ref lp])), (cs, .inr (2, [.ref co, .ref pl, .ref sy])), (co, .inl (cI, 16, .inl c0)), (pl, .inl (cI, 16, .inl p0)), (sy, .inl (cI, 19, .inl s0)), (lp, .inl (cI, 316, .inl lf1)), (rd, .inr (0, [.ref b, .int (nI (ps + 3)), .int lim])), (b, .inl (cB, n0, .inl f))] := hD
          obtain ⟨hr26, hl26⟩ := hw
          obtain rfl : r26 = nI (zbv f ps 3) := hr26
          refine W.eq (g2 := F0 m 29 ls [.int (nI (zbv f ps 3)), .int (nI (tn_LENGTHS_ORDER i)), .ref lp]) rfl ?_
          refine lv_goto (tgt := 33) hx hb dX6_readLengthCodes_29 (by decide) ?_
          refine va_iast hx hb hK hP hD hS 5 1 rfl rfl (vp_in_nI (n := tn_LENGTHS_ORDER i) (by omega) (by omega)) dX6_readLengthCodes_33 (fun H locs hP hD hS => ?_)
          rw [nI_clamp (n := tn_LENGTHS_ORDER i) (by omega)] at hP hD
          have hP : va_P (dC, dI) vwCl [(h0, .inr (6, [x0, x1, .ref cs, .ref lp])), (cs, .inr (2, [.ref co, .ref pl, .ref sy])), (co, .inl (cI, 16, .inl c0)), (pl, .inl (cI, 16, .inl p0)), (sy, .inl (cI, 19, .inl s0)), (lp, .inl (cI, 316, .inl (upd lf1 (tn_LENGTHS_ORDER i) (nI (zbv f ps 3))))), (rd, .inr (0, [.ref b, .int (nI (ps + 3)), .int lim])), (b, .inl (cB, n0, .inl f))] H := hP
          have hD : va_D A [(h0, .inr (6, [x0, x1, .ref cs, .ref lp])), (cs, .inr (2, [.ref co, .ref pl, .ref sy])), (co, .inl (cI, 16, .inl c0)), (pl, .inl (cI, 16, .inl p0)), (sy, .inl (cI, 19, .inl s0)), (lp, .inl (cI, 316, .inl (upd lf1 (tn_LENGTHS_ORDER i) (nI (zbv f ps 3))))), (rd, .inr (0, [.ref b, .int (nI (ps + 3)), .int lim])), (b, .inl (cB, n0, .inl f))] := hD
          have hlfN := zcl_s (f := f) (a := at_) (told := td) hlf1 (by omega) (x := zbv f ps 3) (by rw [if_pos (by omega), show ps = at_ + 3 * i from by omega])
          refine lv_iinc (v := nI (i + 1)) (lv' := [(3, .int (nI (i + 1))), (0, .ref h0), (1, .ref rd), (2, .int (nI td))]) hx hb dX6_readLengthCodes_34 hl (k := 3) rfl (show nI i + Int32.ofInt 1 = _ from nI_add i 1) (by decide) rfl (fun ls hl => ?_)
          refine lv_goto (tgt := 2) hx hb dX6_readLengthCodes_37 (by decide) ?_
          exact ih (i + 1) (ps + 3) (upd lf1 (tn_LENGTHS_ORDER i) (nI (zbv f ps 3))) (by omega) (by omega) (by omega) (hlfN) (by omega) _ _ hP hD hS _ (lv_sub hl [1, 2, 3, 0] rfl)
  exact cut2 (19 - 0 + 1) 0 at_ lf (by omega) (by omega) (by omega) (fun k _ h => absurd h (Nat.not_lt_zero _)) (by omega) _ _ hP hD hS _ (lv_sub hl [1, 2, 3, 0] rfl)
