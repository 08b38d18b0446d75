abbrev rm_X6_readLengths : Room := { frames := 8, cells := 1, slots := 6, locals := 143 }
abbrev wo_X6_readLengths (dC : Nat → ClassId) (dI : Nat → Nat → Nat) (cB cI cJ cM : ClassId) (h0 cs co pl sy lp rd b n0 : Nat) (x0 x1 : Value) (lf c1 s1 f : Nat → Int32) (at_ : Nat) (lim : Int32) (ℓc : Nat → Nat) (al : Nat) : va_W := [(h0, .inr (6, [x0, x1, .ref cs, .ref lp])), (cs, .inr (2, [.ref co, .ref pl, .ref sy])), (co, .inl (cI, 16, .inl c1)), (sy, .inl (cI, 19, .inl s1)), (lp, .inl (cI, 316, .inl lf)), (rd, .inr (0, [.ref b, .int (nI at_), .int lim])), (b, .inl (cB, n0, .inl f))]
abbrev q_X6_readLengths (dC : Nat → ClassId) (dI : Nat → Nat → Nat) (cB cI cJ cM : ClassId) (h0 cs co pl sy lp rd b n0 : Nat) (x0 x1 : Value) (lf c1 s1 f : Nat → Int32) (at_ : Nat) (lim : Int32) (ℓc : Nat → Nat) (al : Nat) (A : Nat → Prop) : Array Value → State → Outcome → State → Prop := va_Qv (fun (u : Nat × (Nat → Nat) × (Nat → Int32)) => zlr ℓc f lim.toNatClampNeg al 316 0 at_ (fun _ => 0) = some (u.1, u.2.1) ∧ zLn u.2.2 u.2.1 al ∧ u.1 ≤ lim.toNatClampNeg ∧ at_ ≤ u.1) (zB dC dI cB cI cJ cM A (fun u : Nat × (Nat → Nat) × (Nat → Int32) => [(h0, .inr (6, [x0, x1, .ref cs, .ref lp])), (cs, .inr (2, [.ref co, .ref pl, .ref sy])), (co, .inl (cI, 16, .inl c1)), (sy, .inl (cI, 19, .inl s1)), (lp, .inl (cI, 316, .inl u.2.2)), (rd, .inr (0, [.ref b, .int (nI u.1), .int lim])), (b, .inl (cB, n0, .inl f))])) A
abbrev x_X6_readLengths (dC : Nat → ClassId) (dI : Nat → Nat → Nat) (cB cI cJ cM : ClassId) (h0 cs co pl sy lp rd b n0 : Nat) (x0 x1 : Value) (lf c1 s1 f : Nat → Int32) (at_ : Nat) (lim : Int32) (ℓc : Nat → Nat) (al : Nat) (A : Nat → Prop) : String → State → State → Prop := vx_X (fun (u : String × ((Nat → Int32) × Int32)) => (u.1 = "java/lang/UnsupportedOperationException") ∧ (zlr ℓc f lim.toNatClampNeg al 316 0 at_ (fun _ => 0) = none)) (fun E (u : String × ((Nat → Int32) × Int32)) t => E = u.1 ∧ zB dC dI cB cI cJ cM A (fun u : (Nat → Int32) × Int32 => [(h0, .inr (6, [x0, x1, .ref cs, .ref lp])), (cs, .inr (2, [.ref co, .ref pl, .ref sy])), (co, .inl (cI, 16, .inl c1)), (sy, .inl (cI, 19, .inl s1)), (lp, .inl (cI, 316, .inl u.1)), (rd, .inr (0, [.ref b, .int u.2, .int lim])), (b, .inl (cB, n0, .inl f))]) u.2 t) A
set_option maxHeartbeats 8000000 in
set_option maxRecDepth 100000 in
/-- readLengths -/
theorem k_X6_readLengths (l : Launch) (hl9 : l.stackTraces = false) (dC : Nat → ClassId) (dI : Nat → Nat → Nat) (cB cI cJ cM : ClassId) (h0 cs co pl sy lp rd b n0 : Nat) (x0 x1 : Value) (lf c1 s1 f : Nat → Int32) (at_ : Nat) (lim : Int32) (ℓc : Nat → Nat) (al : Nat) (hcs : zCS ℓc 19 c1 s1) (h1 : lim.toNatClampNeg ≤ 8 * n0) (h2 : n0 < 100000) (h3 : at_ ≤ lim.toNatClampNeg) (h4 : al ≤ 316) (sz : Nat) : vx_Met l yX6_readLengths wsX6_readLengths rm_X6_readLengths (va_Pc [.ref h0, .ref rd, .int (nI al)] (fun U => U.heap.size = sz ∧ va_P (dC, dI) vwCl (wo_X6_readLengths dC dI cB cI cJ cM h0 cs co pl sy lp rd b n0 x0 x1 lf c1 s1 f at_ lim ℓc al) U.heap ∧ va_K (dC, dI) vwCl (zT cB cI cJ cM) U ∧ va_D (fun _ => True) (wo_X6_readLengths dC dI cB cI cJ cM h0 cs co pl sy lp rd b n0 x0 x1 lf c1 s1 f at_ lim ℓc al) ∧ zE (va_A (wo_X6_readLengths dC dI cB cI cJ cM h0 cs co pl sy lp rd b n0 x0 x1 lf c1 s1 f at_ lim ℓc al) sz) U)) (q_X6_readLengths dC dI cB cI cJ cM h0 cs co pl sy lp rd b n0 x0 x1 lf c1 s1 f at_ lim ℓc al (va_A (wo_X6_readLengths dC dI cB cI cJ cM h0 cs co pl sy lp rd b n0 x0 x1 lf c1 s1 f at_ lim ℓc al) sz)) (x_X6_readLengths dC dI cB cI cJ cM h0 cs co pl sy lp rd b n0 x0 x1 lf c1 s1 f at_ lim ℓc al (va_A (wo_X6_readLengths dC dI cB cI cJ cM h0 cs co pl sy lp rd b n0 x0 x1 lf c1 s1 f at_ lim ℓc al) sz)) 0 0 1 6 (va_A (wo_X6_readLengths dC dI cB cI cJ cM h0 cs co pl sy lp rd b n0 x0 x1 lf c1 s1 f at_ lim ℓc al) sz) := by
  refine vx_ofW (cc := cX6_readLengths) (maxL := 8) (ret := none) (by decide) rfl ?_
  intro p e s m args below meth c s₁ B hml hEx hv
  obtain ⟨rfl, hsz, hP, hK, hD0, hE⟩ := hv
  have hx := B.exec
  have hb := B.bytes
  have hr := B.returns
  have hts := atoms_spec (ws := wsX6_readLengths) B.pre
  have hown : s.vm.findClass RX6 = some m.cls := findClass_of_methodNamed B.named
  have hlocks := B.notSynchronized
  subst hsz
  have hD := hD0.self (sz := s.heap.size)
  generalize hAe : va_A (wo_X6_readLengths dC dI cB cI cJ cM h0 cs co pl sy lp rd b n0 x0 x1 lf c1 s1 f at_ lim ℓc al) s.heap.size = A at hD hE ⊢
  have hA : ∀ q : Nat, s.heap.size ≤ q → A q := fun q h => by rw [← hAe]; exact Or.inr h
  have hS : va_S A s.heap s.heap [] := va_S.rf
  have hP : va_P (dC, dI) vwCl [(h0, .inr (6, [x0, x1, .ref cs, .ref lp])), (cs, .inr (2, [.ref co, .ref pl, .ref sy])), (co, .inl (cI, 16, .inl c1)), (sy, .inl (cI, 19, .inl s1)), (lp, .inl (cI, 316, .inl lf)), (rd, .inr (0, [.ref b, .int (nI at_), .int lim])), (b, .inl (cB, n0, .inl f))] s.heap := hP
  have hD : va_D A [(h0, .inr (6, [x0, x1, .ref cs, .ref lp])), (cs, .inr (2, [.ref co, .ref pl, .ref sy])), (co, .inl (cI, 16, .inl c1)), (sy, .inl (cI, 19, .inl s1)), (lp, .inl (cI, 316, .inl lf)), (rd, .inr (0, [.ref b, .int (nI at_), .int lim])), (b, .inl (cB, n0, .inl f))] := hD
  have hl := lv_entry ([.ref h0, .ref rd, .int (nI al)]) (n := 8) (Nat.le_of_ble_eq_true rfl)
  rw [lg_entry_eq]
  generalize (lg_sl ([.ref h0, .ref rd, .int (nI al)]) ++ List.replicate (8 - (lg_sl ([.ref h0, .ref rd, .int (nI al)])).length) Slot.unset).toArray = ls at hl ⊢
  have hl : lv_has ls 8 [(0, .ref h0), (1, .ref rd), (2, .int (nI al))] := hl
  refine lv_iconst (v := 0) hx hb dX6_readLengths_0 (by decide) ?_
  refine lv_istore_n (lv' := [(3, .int 0), (0, .ref h0), (1, .ref rd), (2, .int (nI al))]) hx hb dX6_readLengths_1 rfl hl (by decide) rfl (fun ls hl => ?_)
  refine lv_iconst (v := 0) hx hb dX6_readLengths_2 (by decide) ?_
  refine lv_istore (lv' := [(4, .int 0), (3, .int 0), (0, .ref h0), (1, .ref rd), (2, .int (nI al))]) hx hb dX6_readLengths_3 hl (by decide) rfl (fun ls hl => ?_)
  have cut5 : ∀ (fuel : Nat) (st : Nat) (kn : Nat) (ps : Nat) (L : Nat → Nat) (lf1 : Nat → Int32), (st ≤ kn) → (kn ≤ al) → (ps ≤ lim.toNatClampNeg) → (zlr ℓc f lim.toNatClampNeg al (316 - st) kn ps L = zlr ℓc f lim.toNatClampNeg al 316 0 at_ (fun _ => 0)) → (zLn lf1 L kn) → (at_ ≤ ps) → (al - st < fuel) → ∀ (H : Heap) (locs : List Loc), va_P (dC, dI) vwCl [(h0, .inr (6, [x0, x1, .ref cs, .ref lp])), (cs, .inr (2, [.ref co, .ref pl, .ref sy])), (co, .inl (cI, 16, .inl c1)), (sy, .inl (cI, 19, .inl s1)), (lp, .inl (cI, 316, .inl lf1)), (rd, .inr (0, [.ref b, .int (nI ps), .int lim])), (b, .inl (cB, n0, .inl f))] H → va_D A [(h0, .inr (6, [x0, x1, .ref cs, .ref lp])), (cs, .inr (2, [.ref co, .ref pl, .ref sy])), (co, .inl (cI, 16, .inl c1)), (sy, .inl (cI, 19, .inl s1)), (lp, .inl (cI, 316, .inl lf1)), (rd, .inr (0, [.ref b, .int (nI ps), .int lim])), (b, .inl (cB, n0, .inl f))] → va_S A s.heap H locs → ∀ (ls : Array Slot), lv_has ls 8 [(0, .ref h0), (1, .ref rd), (2, .int (nI al)), (3, .int (nI kn)), (4, .int (nI st))] → W p l e (headSpec wsX6_readLengths rm_X6_readLengths).room s m ([.ref h0, .ref rd, .int (nI al)] : List Value).toArray below meth c H locs 0 0 (vx_MQ below (q_X6_readLengths dC dI cB cI cJ cM h0 cs co pl sy lp rd b n0 x0 x1 lf c1 s1 f at_ lim ℓc al A) (x_X6_readLengths dC dI cB cI cJ cM h0 cs co pl sy lp rd b n0 x0 x1 lf c1 s1 f at_ lim ℓc al A) ([.ref h0, .ref rd, .int (nI al)] : List Value).toArray s 0 0 1 6 A) (F0 m 5 ls []) := by
    intro fuel
    induction fuel with
    | zero => intros; omega
    | succ fuel ih =>
      intro st kn ps L lf1 hst hkn hps hzl hln hpa hfuel H locs hP hD hS ls hl
      refine lv_iload hx hb dX6_readLengths_5 (lv_at hl 4 rfl) ?_
      refine lv_iload_n hx hb dX6_readLengths_7 rfl (lv_at hl 2 rfl) ?_
      refine lv_icmp_ge (tgt := 104) hx hb dX6_readLengths_8 (by decide) (fun c8 => ?_) (fun c8 => ?_)
      · have c8 : al ≤ st := (nI_leI (a := al) (b := st) (by omega) (by omega)).mp c8
        have hP9 := hP.sub (ws' := [(h0, .inr (6, [x0, x1, .ref cs, .ref lp])), (cs, .inr (2, [.ref co, .ref pl, .ref sy])), (co, .inl (cI, 16, .inl c1)), (sy, .inl (cI, 19, .inl s1)), (lp, .inl (cI, 316, .inl lf1)), (rd, .inr (0, [.ref b, .int (nI ps), .int lim])), (b, .inl (cB, n0, .inl f))]) [0, 1, 2, 3, 4, 5, 6] rfl
        have hD9 := hD.sub (ws' := [(h0, .inr (6, [x0, x1, .ref cs, .ref lp])), (cs, .inr (2, [.ref co, .ref pl, .ref sy])), (co, .inl (cI, 16, .inl c1)), (sy, .inl (cI, 19, .inl s1)), (lp, .inl (cI, 316, .inl lf1)), (rd, .inr (0, [.ref b, .int (nI ps), .int lim])), (b, .inl (cB, n0, .inl f))]) [0, 1, 2, 3, 4, 5, 6] (by decide) rfl
        exact vx_ret (W.vret hx hb hr (fun t ht hW => ⟨⟨(ps, L, lf1), rfl, ⟨hzl.symm.trans (zlr_end (by omega)), fun j hj => hln j (by omega), hps, hpa⟩, ⟨by rw [ht]; exact hP9, va_K.moved hW.alike hK, hD9⟩⟩, hS.F ht⟩) hS.2.2 dX6_readLengths_104)
      · have c8 : ¬ (al ≤ st) := fun h => c8 ((nI_leI (a := al) (b := st) (by omega) (by omega)).mpr h)
        refine lv_iload_n hx hb dX6_readLengths_11 rfl (lv_at hl 3 rfl) ?_
        refine lv_iload_n hx hb dX6_readLengths_12 rfl (lv_at hl 2 rfl) ?_
        refine lv_icmp_ge (tgt := 104) hx hb dX6_readLengths_13 (by decide) (fun c13 => ?_) (fun c13 => ?_)
        · have c13 : al ≤ kn := (nI_leI (a := al) (b := kn) (by omega) (by omega)).mp c13
          have hP9 := hP.sub (ws' := [(h0, .inr (6, [x0, x1, .ref cs, .ref lp])), (cs, .inr (2, [.ref co, .ref pl, .ref sy])), (co, .inl (cI, 16, .inl c1)), (sy, .inl (cI, 19, .inl s1)), (lp, .inl (cI, 316, .inl lf1)), (rd, .inr (0, [.ref b, .int (nI ps), .int lim])), (b, .inl (cB, n0, .inl f))]) [0, 1, 2, 3, 4, 5, 6] rfl
          have hD9 := hD.sub (ws' := [(h0, .inr (6, [x0, x1, .ref cs, .ref lp])), (cs, .inr (2, [.ref co, .ref pl, .ref sy])), (co, .inl (cI, 16, .inl c1)), (sy, .inl (cI, 19, .inl s1)), (lp, .inl (cI, 316, .inl lf1)), (rd, .inr (0, [.ref b, .int (nI ps), .int lim])), (b, .inl (cB, n0, .inl f))]) [0, 1, 2, 3, 4, 5, 6] (by decide) rfl
          exact vx_ret (W.vret hx hb hr (fun t ht hW => ⟨⟨(ps, L, lf1), rfl, ⟨hzl.symm.trans (zlr_end (by omega)), fun j hj => hln j (by omega), hps, hpa⟩, ⟨by rw [ht]; exact hP9, va_K.moved hW.alike hK, hD9⟩⟩, hS.F ht⟩) hS.2.2 dX6_readLengths_104)
        · have c13 : ¬ (al ≤ kn) := fun h => c13 ((nI_leI (a := al) (b := kn) (by omega) (by omega)).mpr h)
          refine lv_aload_n hx hb dX6_readLengths_16 rfl (lv_at hl 0 rfl) ?_
          refine va_get (D := (dC, dI)) (ci := 6) (v := .ref cs) (C := RX6) (T := TX6) (N := 4) hx hb hts (by decide +kernel) hown hK hP 0 rfl rfl 2 (by decide) (hts (.fieldLink RX6 27 "FixedPress$ToldCodes" "lengthCodes" "LFixedPress$CodeSet;") (by decide +kernel)) (fun _ h9 => h9) rfl dX6_readLengths_17 ?_
          refine lv_aload_n hx hb dX6_readLengths_20 rfl (lv_at hl 1 rfl) ?_
          have hPc := hP.sub (ws' := [(cs, .inr (2, [.ref co, .ref pl, .ref sy])), (co, .inl (cI, 16, .inl c1)), (sy, .inl (cI, 19, .inl s1)), (rd, .inr (0, [.ref b, .int (nI ps), .int lim])), (b, .inl (cB, n0, .inl f))]) [1, 2, 3, 5, 6] rfl
          have hDc := hD.sub (ws' := [(cs, .inr (2, [.ref co, .ref pl, .ref sy])), (co, .inl (cI, 16, .inl c1)), (sy, .inl (cI, 19, .inl s1)), (rd, .inr (0, [.ref b, .int (nI ps), .int lim])), (b, .inl (cB, n0, .inl f))]) [1, 2, 3, 5, 6] (by decide) rfl
          have hFc := va_free (wc := [(cs, .inr (2, [.ref co, .ref pl, .ref sy])), (co, .inl (cI, 16, .inl c1)), (sy, .inl (cI, 19, .inl s1)), (rd, .inr (0, [.ref b, .int (nI ps), .int lim])), (b, .inl (cB, n0, .inl f))]) hD hS hA [1, 2, 3, 5, 6] rfl
          refine vx_calli (vx_runV (As := [.ref rd]) (rest := []) ⟨hx, hb, hml, hown, hts⟩ (k_X2_readSymbol l hl9 dC dI cB cI cJ cM cs co pl sy rd b n0 19 (ℓc) 19 c1 s1 f ps lim (hcs) (by omega) (by omega) (by omega) (by omega) (by omega) H.size) (cwV 1 hts gX6_readLengths_X2_readSymbol rfl rfl rfl (by decide +kernel) ⟨Nat.le_of_ble_eq_true rfl, Nat.le_of_ble_eq_true rfl⟩) ⟨fun a U g mk q => by obtain ⟨q0, q1, qP, qK, qD, qE⟩ := q; exact ⟨q0, q1, qP, va_K.moved (u := U) (U := U.calling g mk a) (Vm.Alike.refl U.vm) qK, qD, zE.blind qE⟩, va_recv hK hPc (ci := 2) (q0 := 0) rfl rfl, fun U hU hW => ⟨rfl, by rw [hU], by rw [hU]; exact hPc, va_K.moved hW.alike hK, hDc.weaken (fun _ _ _ _ => trivial), zE.call hE hS hU hW hFc⟩⟩ rfl rfl hl.1 rfl (lv_room (Nat.le_of_ble_eq_true rfl)) dX6_readLengths_21 ⟨(show 0 + 1 ≤ 1 by omega), (show 0 + 6 ≤ 6 by omega)⟩) hS (fun q _ h => hFc q h) hFc (fun q _ h => hFc q h) (fun E8 ce9 q9 ux t H1 locs ht hvm hw hB hz1 hk1 hS hce9 hcv9 hcl9 => ?_) (fun r21 u t H1 locs ht hvm hw hB hz1 hk1 hS => ?_)
          · obtain ⟨E9, ux9⟩ := ux
            obtain ⟨hEe, hB9⟩ := hB
            have hB : True ∧ zB dC dI cB cI cJ cM (va_A [(cs, .inr (2, [.ref co, .ref pl, .ref sy])), (co, .inl (cI, 16, .inl c1)), (sy, .inl (cI, 19, .inl s1)), (rd, .inr (0, [.ref b, .int (nI ps), .int lim])), (b, .inl (cB, n0, .inl f))] H.size) (fun u : Int32 => [(cs, .inr (2, [.ref co, .ref pl, .ref sy])), (co, .inl (cI, 16, .inl c1)), (sy, .inl (cI, 19, .inl s1)), (rd, .inr (0, [.ref b, .int u, .int lim])), (b, .inl (cB, n0, .inl f))]) ux9 t := ⟨trivial, hB9⟩
            obtain ⟨e21, rfl⟩ : ∃ z, z = ux9 := ⟨_, rfl⟩
            have hP1 : va_P (dC, dI) vwCl [(cs, .inr (2, [.ref co, .ref pl, .ref sy])), (co, .inl (cI, 16, .inl c1)), (sy, .inl (cI, 19, .inl s1)), (rd, .inr (0, [.ref b, .int e21, .int lim])), (b, .inl (cB, n0, .inl f))] H1 := by rw [← ht]; exact hB.2.1
            have hD1 : va_D (va_A [(cs, .inr (2, [.ref co, .ref pl, .ref sy])), (co, .inl (cI, 16, .inl c1)), (sy, .inl (cI, 19, .inl s1)), (rd, .inr (0, [.ref b, .int (nI ps), .int lim])), (b, .inl (cB, n0, .inl f))] H.size) [(cs, .inr (2, [.ref co, .ref pl, .ref sy])), (co, .inl (cI, 16, .inl c1)), (sy, .inl (cI, 19, .inl s1)), (rd, .inr (0, [.ref b, .int e21, .int lim])), (b, .inl (cB, n0, .inl f))] := hB.2.2.2
            obtain ⟨hP, hD⟩ := va_join (wr := [(h0, .inr (6, [x0, x1, .ref cs, .ref lp])), (lp, .inl (cI, 316, .inl lf1))]) (w1 := [(cs, .inr (2, [.ref co, .ref pl, .ref sy])), (co, .inl (cI, 16, .inl c1)), (sy, .inl (cI, 19, .inl s1)), (rd, .inr (0, [.ref b, .int e21, .int lim])), (b, .inl (cB, n0, .inl f))]) hP hD [1, 2, 3, 5, 6] [0, 4] rfl rfl (by decide) (by decide) hk1 hFc hP1 hD1
            generalize H1 = H at hP hS hce9 ⊢
            try dsimp only at hw hEe
            subst hEe
            have hP : va_P (dC, dI) vwCl [(h0, .inr (6, [x0, x1, .ref cs, .ref lp])), (lp, .inl (cI, 316, .inl lf1)), (cs, .inr (2, [.ref co, .ref pl, .ref sy])), (co, .inl (cI, 16, .inl c1)), (sy, .inl (cI, 19, .inl s1)), (rd, .inr (0, [.ref b, .int e21, .int lim])), (b, .inl (cB, n0, .inl f))] H := hP
            have hD : va_D A [(h0, .inr (6, [x0, x1, .ref cs, .ref lp])), (lp, .inl (cI, 316, .inl lf1)), (cs, .inr (2, [.ref co, .ref pl, .ref sy])), (co, .inl (cI, 16, .inl c1)), (sy, .inl (cI, 19, .inl s1)), (rd, .inr (0, [.ref b, .int e21, .int lim])), (b, .inl (cB, n0, .inl f))] := hD
            have hP9 := hP.sub (ws' := [(h0, .inr (6, [x0, x1, .ref cs, .ref lp])), (cs, .inr (2, [.ref co, .ref pl, .ref sy])), (co, .inl (cI, 16, .inl c1)), (sy, .inl (cI, 19, .inl s1)), (lp, .inl (cI, 316, .inl lf1)), (rd, .inr (0, [.ref b, .int e21, .int lim])), (b, .inl (cB, n0, .inl f))]) [0, 2, 3, 4, 1, 5, 6] rfl
            have hD9 := hD.sub (ws' := [(h0, .inr (6, [x0, x1, .ref cs, .ref lp])), (cs, .inr (2, [.ref co, .ref pl, .ref sy])), (co, .inl (cI, 16, .inl c1)), (sy, .inl (cI, 19, .inl s1)), (lp, .inl (cI, 316, .inl lf1)), (rd, .inr (0, [.ref b, .int e21, .int lim])), (b, .inl (cB, n0, .inl f))]) [0, 2, 3, 4, 1, 5, 6] (by decide) rfl
            exact vx_out (fun x hx => (hEx x hx).elim) hlocks hce9 hcv9 hcl9 (fun t ht9 ha => ⟨(_, (lf1, e21)), ⟨hw.1, hzl.symm.trans (zlr_no (show kn < al by omega) hw.2)⟩, ⟨rfl, by rw [ht9]; exact hP9, va_K.moved ha hK, hD9⟩, hS.F ht9⟩) hS.2.2 (Nat.le_of_ble_eq_true rfl) (Nat.le_of_ble_eq_true rfl)
          obtain ⟨sm, p2⟩ := u
          have hP1 : va_P (dC, dI) vwCl [(cs, .inr (2, [.ref co, .ref pl, .ref sy])), (co, .inl (cI, 16, .inl c1)), (sy, .inl (cI, 19, .inl s1)), (rd, .inr (0, [.ref b, .int (nI p2), .int lim])), (b, .inl (cB, n0, .inl f))] H1 := by rw [← ht]; exact hB.1
          have hD1 : va_D (va_A [(cs, .inr (2, [.ref co, .ref pl, .ref sy])), (co, .inl (cI, 16, .inl c1)), (sy, .inl (cI, 19, .inl s1)), (rd, .inr (0, [.ref b, .int (nI ps), .int lim])), (b, .inl (cB, n0, .inl f))] H.size) [(cs, .inr (2, [.ref co, .ref pl, .ref sy])), (co, .inl (cI, 16, .inl c1)), (sy, .inl (cI, 19, .inl s1)), (rd, .inr (0, [.ref b, .int (nI p2), .int lim])), (b, .inl (cB, n0, .inl f))] := hB.2.2
          obtain ⟨hP, hD⟩ := va_join (wr := [(h0, .inr (6, [x0, x1, .ref cs, .ref lp])), (lp, .inl (cI, 316, .inl lf1))]) (w1 := [(cs, .inr (2, [.ref co, .ref pl, .ref sy])), (co, .inl (cI, 16, .inl c1)), (sy, .inl (cI, 19, .inl s1)), (rd, .inr (0, [.ref b, .int (nI p2), .int lim])), (b, .inl (cB, n0, .inl f))]) hP hD [1, 2, 3, 5, 6] [0, 4] rfl rfl (by decide) (by decide) hk1 hFc hP1 hD1
          generalize H1 = H at hP hS ⊢
          try dsimp only at hw
          have hP : va_P (dC, dI) vwCl [(h0, .inr (6, [x0, x1, .ref cs, .ref lp])), (lp, .inl (cI, 316, .inl lf1)), (cs, .inr (2, [.ref co, .ref pl, .ref sy])), (co, .inl (cI, 16, .inl c1)), (sy, .inl (cI, 19, .inl s1)), (rd, .inr (0, [.ref b, .int (nI p2), .int lim])), (b, .inl (cB, n0, .inl f))] H := hP
          have hD : va_D A [(h0, .inr (6, [x0, x1, .ref cs, .ref lp])), (lp, .inl (cI, 316, .inl lf1)), (cs, .inr (2, [.ref co, .ref pl, .ref sy])), (co, .inl (cI, 16, .inl c1)), (sy, .inl (cI, 19, .inl s1)), (rd, .inr (0, [.ref b, .int (nI p2), .int lim])), (b, .inl (cB, n0, .inl f))] := hD
          obtain ⟨hz21, hr21, hs21, hp21, hq21⟩ := hw
          obtain rfl : r21 = nI sm := hr21
          refine W.eq (g2 := F0 m 24 ls [.int (nI sm)]) rfl ?_
          refine lv_istore (lv' := [(5, .int (nI sm)), (0, .ref h0), (1, .ref rd), (2, .int (nI al)), (3, .int (nI kn)), (4, .int (nI st))]) hx hb dX6_readLengths_24 hl (by decide) rfl (fun ls hl => ?_)
          refine lv_iload hx hb dX6_readLengths_26 (lv_at hl 0 rfl) ?_
          refine lv_bipush (v := 16) hx hb dX6_readLengths_28 (by decide) ?_
          refine lv_icmp_ge (tgt := 47) hx hb dX6_readLengths_30 (by decide) (fun c30 => ?_) (fun c30 => ?_)
          · have c30 : 16 ≤ sm := (nI_leI (a := 16) (b := sm) (by omega) (by omega)).mp c30
            refine lv_iload hx hb dX6_readLengths_47 (lv_at hl 0 rfl) ?_
            refine lv_bipush (v := 16) hx hb dX6_readLengths_49 (by decide) ?_
            refine lv_isub hx hb dX6_readLengths_51 ?_
            refine lv_topi (fun y_1 ey_1 => ?_)
            obtain rfl : y_1 = nI (sm - 16) := ey_1.trans (pk_sub (a := sm) (b := 16) (by omega))
            refine lv_istore (lv' := [(6, .int (nI (sm - 16))), (5, .int (nI sm)), (0, .ref h0), (1, .ref rd), (2, .int (nI al)), (3, .int (nI kn)), (4, .int (nI st))]) hx hb dX6_readLengths_52 hl (by decide) rfl (fun ls hl => ?_)
            obtain ⟨t_REPEAT_BASE, hz_REPEAT_BASE, ha_REPEAT_BASE⟩ := zS_REPEAT_BASE hE
            refine va_getsN hx hb hz_REPEAT_BASE hS hown (zN_X6_63 hE) (fun _ h9 => h9) dX6_readLengths_54 ?_
            refine lv_iload hx hb dX6_readLengths_57 (lv_at hl 0 rfl) ?_
            refine va_ti (v := .int (tb_REPEAT_BASE (sm - 16))) hx hb ha_REPEAT_BASE hS (vp_in_nI (n := sm - 16) (by omega) (by omega)) (by rw [nI_clamp (by omega)]) dX6_readLengths_59 ?_
            refine lv_topi (fun y_2 ey_2 => ?_)
            obtain rfl : y_2 = nI (tn_REPEAT_BASE (sm - 16)) := ey_2.trans (rfl)
            have hrb := z_rb (sm - 16) (by omega)
            refine lv_aload_n hx hb dX6_readLengths_60 rfl (lv_at hl 3 rfl) ?_
            obtain ⟨t_REPEAT_EXTRA, hz_REPEAT_EXTRA, ha_REPEAT_EXTRA⟩ := zS_REPEAT_EXTRA hE
            refine va_getsN hx hb hz_REPEAT_EXTRA hS hown (zN_X6_66 hE) (fun _ h9 => h9) dX6_readLengths_61 ?_
            refine lv_iload hx hb dX6_readLengths_64 (lv_at hl 0 rfl) ?_
            refine va_ti (v := .int (tb_REPEAT_EXTRA (sm - 16))) hx hb ha_REPEAT_EXTRA hS (vp_in_nI (n := sm - 16) (by omega) (by omega)) (by rw [nI_clamp (by omega)]) dX6_readLengths_66 ?_
            refine lv_topi (fun y_3 ey_3 => ?_)
            obtain rfl : y_3 = nI (tn_REPEAT_EXTRA (sm - 16)) := ey_3.trans (rfl)
            have hPc := hP.sub (ws' := [(rd, .inr (0, [.ref b, .int (nI p2), .int lim])), (b, .inl (cB, n0, .inl f))]) [5, 6] rfl
            have hDc := hD.sub (ws' := [(rd, .inr (0, [.ref b, .int (nI p2), .int lim])), (b, .inl (cB, n0, .inl f))]) [5, 6] (by decide) rfl
            have hFc := va_free (wc := [(rd, .inr (0, [.ref b, .int (nI p2), .int lim])), (b, .inl (cB, n0, .inl f))]) hD hS hA [5, 6] rfl
            refine vx_calli (vx_runV (As := [.int (nI (tn_REPEAT_EXTRA (sm - 16)))]) (rest := [.int (nI (tn_REPEAT_BASE (sm - 16)))]) ⟨hx, hb, hml, hown, hts⟩ (k_X0_readBits l hl9 dC dI cB cI cJ cM rd b n0 f p2 lim (tn_REPEAT_EXTRA (sm - 16)) (by omega) (by omega) (by omega) (by omega) H.size) (cwV 1 hts gX6_readLengths_X0_readBits rfl rfl rfl (by decide +kernel) ⟨Nat.le_of_ble_eq_true rfl, Nat.le_of_ble_eq_true rfl⟩) ⟨fun a U g mk q => by obtain ⟨q0, q1, qP, qK, qD, qE⟩ := q; exact ⟨q0, q1, qP, va_K.moved (u := U) (U := U.calling g mk a) (Vm.Alike.refl U.vm) qK, qD, zE.blind qE⟩, va_recv hK hPc (ci := 0) (q0 := 0) rfl rfl, fun U hU hW => ⟨rfl, by rw [hU], by rw [hU]; exact hPc, va_K.moved hW.alike hK, hDc.weaken (fun _ _ _ _ => trivial), zE.call hE hS hU hW hFc⟩⟩ rfl rfl hl.1 rfl (lv_room (Nat.le_of_ble_eq_true rfl)) dX6_readLengths_67 ⟨(show 0 + 1 ≤ 1 by omega), (show 0 + 6 ≤ 6 by omega)⟩) hS (fun q _ h => hFc q h) hFc (fun q _ h => hFc q h) (fun E8 ce9 q9 ux t H1 locs ht hvm hw hB hz1 hk1 hS hce9 hcv9 hcl9 => ?_) (fun r67 u t H1 locs ht hvm hw hB hz1 hk1 hS => ?_)
            · obtain ⟨E9, ux9⟩ := ux
              obtain ⟨hEe, hB9⟩ := hB
              have hB : True ∧ zB dC dI cB cI cJ cM (va_A [(rd, .inr (0, [.ref b, .int (nI p2), .int lim])), (b, .inl (cB, n0, .inl f))] H.size) (fun u : Int32 => [(rd, .inr (0, [.ref b, .int u, .int lim])), (b, .inl (cB, n0, .inl f))]) ux9 t := ⟨trivial, hB9⟩
              obtain ⟨e67, rfl⟩ : ∃ z, z = ux9 := ⟨_, rfl⟩
              have hP1 : va_P (dC, dI) vwCl [(rd, .inr (0, [.ref b, .int e67, .int lim])), (b, .inl (cB, n0, .inl f))] H1 := by rw [← ht]; exact hB.2.1
              have hD1 : va_D (va_A [(rd, .inr (0, [.ref b, .int (nI p2), .int lim])), (b, .inl (cB, n0, .inl f))] H.size) [(rd, .inr (0, [.ref b, .int e67, .int lim])), (b, .inl (cB, n0, .inl f))] := hB.2.2.2
              obtain ⟨hP, hD⟩ := va_join (wr := [(h0, .inr (6, [x0, x1, .ref cs, .ref lp])), (lp, .inl (cI, 316, .inl lf1)), (cs, .inr (2, [.ref co, .ref pl, .ref sy])), (co, .inl (cI, 16, .inl c1)), (sy, .inl (cI, 19, .inl s1))]) (w1 := [(rd, .inr (0, [.ref b, .int e67, .int lim])), (b, .inl (cB, n0, .inl f))]) hP hD [5, 6] [0, 1, 2, 3, 4] rfl rfl (by decide) (by decide) hk1 hFc hP1 hD1
              generalize H1 = H at hP hS hce9 ⊢
              try dsimp only at hw hEe
              subst hEe
              have hP : va_P (dC, dI) vwCl [(h0, .inr (6, [x0, x1, .ref cs, .ref lp])), (lp, .inl (cI, 316, .inl lf1)), (cs, .inr (2, [.ref co, .ref pl, .ref sy])), (co, .inl (cI, 16, .inl c1)), (sy, .inl (cI, 19, .inl s1)), (rd, .inr (0, [.ref b, .int e67, .int lim])), (b, .inl (cB, n0, .inl f))] H := hP
              have hD : va_D A [(h0, .inr (6, [x0, x1, .ref cs, .ref lp])), (lp, .inl (cI, 316, .inl lf1)), (cs, .inr (2, [.ref co, .ref pl, .ref sy])), (co, .inl (cI, 16, .inl c1)), (sy, .inl (cI, 19, .inl s1)), (rd, .inr (0, [.ref b, .int e67, .int lim])), (b, .inl (cB, n0, .inl f))] := hD
              have hP9 := hP.sub (ws' := [(h0, .inr (6, [x0, x1, .ref cs, .ref lp])), (cs, .inr (2, [.ref co, .ref pl, .ref sy])), (co, .inl (cI, 16, .inl c1)), (sy, .inl (cI, 19, .inl s1)), (lp, .inl (cI, 316, .inl lf1)), (rd, .inr (0, [.ref b, .int e67, .int lim])), (b, .inl (cB, n0, .inl f))]) [0, 2, 3, 4, 1, 5, 6] rfl
              have hD9 := hD.sub (ws' := [(h0, .inr (6, [x0, x1, .ref cs, .ref lp])), (cs, .inr (2, [.ref co, .ref pl, .ref sy])), (co, .inl (cI, 16, .inl c1)), (sy, .inl (cI, 19, .inl s1)), (lp, .inl (cI, 316, .inl lf1)), (rd, .inr (0, [.ref b, .int e67, .int lim])), (b, .inl (cB, n0, .inl f))]) [0, 2, 3, 4, 1, 5, 6] (by decide) rfl
              exact vx_out (fun x hx => (hEx x hx).elim) hlocks hce9 hcv9 hcl9 (fun t ht9 ha => ⟨(_, (lf1, e67)), ⟨hw.1, hzl.symm.trans (zlr_rno (show kn < al by omega) hz21 (by omega) (Or.inl hw.2))⟩, ⟨rfl, by rw [ht9]; exact hP9, va_K.moved ha hK, hD9⟩, hS.F ht9⟩) hS.2.2 (Nat.le_of_ble_eq_true rfl) (Nat.le_of_ble_eq_true rfl)
            have hP1 : va_P (dC, dI) vwCl [(rd, .inr (0, [.ref b, .int (nI (p2 + (tn_REPEAT_EXTRA (sm - 16)))), .int lim])), (b, .inl (cB, n0, .inl f))] H1 := by rw [← ht]; exact hB.1
            have hD1 : va_D (va_A [(rd, .inr (0, [.ref b, .int (nI p2), .int lim])), (b, .inl (cB, n0, .inl f))] H.size) [(rd, .inr (0, [.ref b, .int (nI (p2 + (tn_REPEAT_EXTRA (sm - 16)))), .int lim])), (b, .inl (cB, n0, .inl f))] := hB.2.2
            obtain ⟨hP, hD⟩ := va_join (wr := [(h0, .inr (6, [x0, x1, .ref cs, .ref lp])), (lp, .inl (cI, 316, .inl lf1)), (cs, .inr (2, [.ref co, .ref pl, .ref sy])), (co, .inl (cI, 16, .inl c1)), (sy, .inl (cI, 19, .inl s1))]) (w1 := [(rd, .inr (0, [.ref b, .int (nI (p2 + (tn_REPEAT_EXTRA (sm - 16)))), .int lim])), (b, .inl (cB, n0, .inl f))]) hP hD [5, 6] [0, 1, 2, 3, 4] rfl rfl (by decide) (by decide) hk1 hFc hP1 hD1
            generalize H1 = H at hP hS ⊢
            try dsimp only at hw
            have hP : va_P (dC, dI) vwCl [(h0, .inr (6, [x0, x1, .ref cs, .ref lp])), (lp, .inl (cI, 316, .inl lf1)), (cs, .inr (2, [.ref co, .ref pl, .ref sy])), (co, .inl (cI, 16, .inl c1)), (sy, .inl (cI, 19, .inl s1)), (rd, .inr (0, [.ref b, .int (nI (p2 + (tn_REPEAT_EXTRA (sm - 16)))), .int lim])), (b, .inl (cB, n0, .inl f))] H := hP
            have hD : va_D A [(h0, .inr (6, [x0, x1, .ref cs, .ref lp])), (lp, .inl (cI, 316, .inl lf1)), (cs, .inr (2, [.ref co, .ref pl, .ref sy])), (co, .inl (cI, 16, .inl c1)), (sy, .inl (cI, 19, .inl s1)), (rd, .inr (0, [.ref b, .int (nI (p2 + (tn_REPEAT_EXTRA (sm - 16)))), .int lim])), (b, .inl (cB, n0, .inl f))] := hD
            obtain ⟨hr67, hl67⟩ := hw
            obtain rfl : r67 = nI (zbv f p2 (tn_REPEAT_EXTRA (sm - 16))) := hr67
            have hrt := zrt_bd (f := f) (s := sm) (p := p2) (by omega) (by omega)
            refine W.eq (g2 := F0 m 70 ls [.int (nI (zbv f p2 (tn_REPEAT_EXTRA (sm - 16)))), .int (nI (tn_REPEAT_BASE (sm - 16)))]) rfl ?_
            refine lv_iadd hx hb dX6_readLengths_70 ?_
            refine lv_topi (fun y_4 ey_4 => ?_)
            obtain rfl : y_4 = nI (zrt f sm p2) := ey_4.trans (nI_add _ _)
            refine lv_istore (lv' := [(7, .int (nI (zrt f sm p2))), (6, .int (nI (sm - 16))), (5, .int (nI sm)), (0, .ref h0), (1, .ref rd), (2, .int (nI al)), (3, .int (nI kn)), (4, .int (nI st))]) hx hb dX6_readLengths_71 hl (by decide) rfl (fun ls hl => ?_)
            refine lv_aload_n hx hb dX6_readLengths_73 rfl (lv_at hl 3 rfl) ?_
            refine lv_iload hx hb dX6_readLengths_74 (lv_at hl 2 rfl) ?_
            refine lv_bipush (v := 16) hx hb dX6_readLengths_76 (by decide) ?_
            refine lv_icmp_ne (tgt := 85) hx hb dX6_readLengths_78 (by decide) (fun c78 => ?_) (fun c78 => ?_)
            · have c78 : ¬ (sm = 16) := fun h => c78 ((nI_eq (a := sm) (b := 16) (by omega) (by omega)).mpr h)
              refine lv_iconst (v := 0) hx hb dX6_readLengths_85 (by decide) ?_
              refine lv_iload_n hx hb dX6_readLengths_86 rfl (lv_at hl 6 rfl) ?_
              refine lv_iload hx hb dX6_readLengths_87 (lv_at hl 0 rfl) ?_
              refine lv_iload_n hx hb dX6_readLengths_89 rfl (lv_at hl 5 rfl) ?_
              have hPc := hP.sub (ws' := [(h0, .inr (6, [x0, x1, .ref cs, .ref lp])), (lp, .inl (cI, 316, .inl lf1))]) [0, 1] rfl
              have hDc := hD.sub (ws' := [(h0, .inr (6, [x0, x1, .ref cs, .ref lp])), (lp, .inl (cI, 316, .inl lf1))]) [0, 1] (by decide) rfl
              have hFc := va_free (wc := [(h0, .inr (6, [x0, x1, .ref cs, .ref lp])), (lp, .inl (cI, 316, .inl lf1))]) hD hS hA [0, 1] rfl
              refine vx_callv (vx_runV (As := [.int 0, .int (nI kn), .int (nI (zrt f sm p2)), .int (nI al)]) (rest := []) ⟨hx, hb, hml, hown, hts⟩ (k_X6_repeatLength_0 l hl9 dC dI cB cI cJ cM h0 lp x0 x1 (.ref cs) lf1 kn (zrt f sm p2) al (by omega) (by omega) (by omega) H.size) (cwV 4 hts gX6_readLengths_X6_repeatLength rfl rfl rfl (by decide +kernel) ⟨Nat.le_of_ble_eq_true rfl, Nat.le_of_ble_eq_true rfl⟩) ⟨fun a U g mk q => by obtain ⟨q0, q1, qP, qK, qD, qE⟩ := q; exact ⟨q0, q1, qP, va_K.moved (u := U) (U := U.calling g mk a) (Vm.Alike.refl U.vm) qK, qD, zE.blind qE⟩, va_recv hK hPc (ci := 6) (q0 := 0) rfl rfl, fun U hU hW => ⟨rfl, by rw [hU], by rw [hU]; exact hPc, va_K.moved hW.alike hK, hDc.weaken (fun _ _ _ _ => trivial), zE.call hE hS hU hW hFc⟩⟩ rfl rfl hl.1 rfl (lv_room (Nat.le_of_ble_eq_true rfl)) dX6_readLengths_90 ⟨(show 0 + 1 ≤ 1 by omega), (show 0 + 6 ≤ 6 by omega)⟩) hS (fun q _ h => hFc q h) hFc (fun q _ h => hFc q h) (fun E8 ce9 q9 ux t H1 locs ht hvm hw hB hz1 hk1 hS hce9 hcv9 hcl9 => ?_) (fun u t H1 locs ht hvm hw hB hz1 hk1 hS => ?_)
              · obtain ⟨E9, ux9⟩ := ux
                obtain ⟨hEe, hB9⟩ := hB
                have hB : True ∧ zB dC dI cB cI cJ cM (va_A [(h0, .inr (6, [x0, x1, .ref cs, .ref lp])), (lp, .inl (cI, 316, .inl lf1))] H.size) (fun u : Unit => [(h0, .inr (6, [x0, x1, .ref cs, .ref lp])), (lp, .inl (cI, 316, .inl lf1))]) ux9 t := ⟨trivial, hB9⟩
                have hP1 : va_P (dC, dI) vwCl [(h0, .inr (6, [x0, x1, .ref cs, .ref lp])), (lp, .inl (cI, 316, .inl lf1))] H1 := by rw [← ht]; exact hB.2.1
                have hD1 : va_D (va_A [(h0, .inr (6, [x0, x1, .ref cs, .ref lp])), (lp, .inl (cI, 316, .inl lf1))] H.size) [(h0, .inr (6, [x0, x1, .ref cs, .ref lp])), (lp, .inl (cI, 316, .inl lf1))] := hB.2.2.2
                obtain ⟨hP, hD⟩ := va_join (wr := [(cs, .inr (2, [.ref co, .ref pl, .ref sy])), (co, .inl (cI, 16, .inl c1)), (sy, .inl (cI, 19, .inl s1)), (rd, .inr (0, [.ref b, .int (nI (p2 + (tn_REPEAT_EXTRA (sm - 16)))), .int lim])), (b, .inl (cB, n0, .inl f))]) (w1 := [(h0, .inr (6, [x0, x1, .ref cs, .ref lp])), (lp, .inl (cI, 316, .inl lf1))]) hP hD [0, 1] [2, 3, 4, 5, 6] rfl rfl (by decide) (by decide) hk1 hFc hP1 hD1
                generalize H1 = H at hP hS hce9 ⊢
                try dsimp only at hw hEe
                subst hEe
                have hP : va_P (dC, dI) vwCl [(cs, .inr (2, [.ref co, .ref pl, .ref sy])), (co, .inl (cI, 16, .inl c1)), (sy, .inl (cI, 19, .inl s1)), (rd, .inr (0, [.ref b, .int (nI (p2 + (tn_REPEAT_EXTRA (sm - 16)))), .int lim])), (b, .inl (cB, n0, .inl f)), (h0, .inr (6, [x0, x1, .ref cs, .ref lp])), (lp, .inl (cI, 316, .inl lf1))] H := hP
                have hD : va_D A [(cs, .inr (2, [.ref co, .ref pl, .ref sy])), (co, .inl (cI, 16, .inl c1)), (sy, .inl (cI, 19, .inl s1)), (rd, .inr (0, [.ref b, .int (nI (p2 + (tn_REPEAT_EXTRA (sm - 16)))), .int lim])), (b, .inl (cB, n0, .inl f)), (h0, .inr (6, [x0, x1, .ref cs, .ref lp])), (lp, .inl (cI, 316, .inl lf1))] := hD
                have hP9 := hP.sub (ws' := [(h0, .inr (6, [x0, x1, .ref cs, .ref lp])), (cs, .inr (2, [.ref co, .ref pl, .ref sy])), (co, .inl (cI, 16, .inl c1)), (sy, .inl (cI, 19, .inl s1)), (lp, .inl (cI, 316, .inl lf1)), (rd, .inr (0, [.ref b, .int (nI (p2 + (tn_REPEAT_EXTRA (sm - 16)))), .int lim])), (b, .inl (cB, n0, .inl f))]) [5, 0, 1, 2, 6, 3, 4] rfl
                have hD9 := hD.sub (ws' := [(h0, .inr (6, [x0, x1, .ref cs, .ref lp])), (cs, .inr (2, [.ref co, .ref pl, .ref sy])), (co, .inl (cI, 16, .inl c1)), (sy, .inl (cI, 19, .inl s1)), (lp, .inl (cI, 316, .inl lf1)), (rd, .inr (0, [.ref b, .int (nI (p2 + (tn_REPEAT_EXTRA (sm - 16)))), .int lim])), (b, .inl (cB, n0, .inl f))]) [5, 0, 1, 2, 6, 3, 4] (by decide) rfl
                exact vx_out (fun x hx => (hEx x hx).elim) hlocks hce9 hcv9 hcl9 (fun t ht9 ha => ⟨(_, (lf1, nI (p2 + tn_REPEAT_EXTRA (sm - 16)))), ⟨hw.1, hzl.symm.trans (zlr_rno (show kn < al by omega) hz21 (by omega) (Or.inr (Or.inr hw.2)))⟩, ⟨rfl, by rw [ht9]; exact hP9, va_K.moved ha hK, hD9⟩, hS.F ht9⟩) hS.2.2 (Nat.le_of_ble_eq_true rfl) (Nat.le_of_ble_eq_true rfl)
              have hP1 : va_P (dC, dI) vwCl [(h0, .inr (6, [x0, x1, .ref cs, .ref lp])), (lp, .inl (cI, 316, .inl (zrep lf1 kn (0) (zrt f sm p2))))] H1 := by rw [← ht]; exact hB.1
              have hD1 : va_D (va_A [(h0, .inr (6, [x0, x1, .ref cs, .ref lp])), (lp, .inl (cI, 316, .inl lf1))] H.size) [(h0, .inr (6, [x0, x1, .ref cs, .ref lp])), (lp, .inl (cI, 316, .inl (zrep lf1 kn (0) (zrt f sm p2))))] := hB.2.2
              obtain ⟨hP, hD⟩ := va_join (wr := [(cs, .inr (2, [.ref co, .ref pl, .ref sy])), (co, .inl (cI, 16, .inl c1)), (sy, .inl (cI, 19, .inl s1)), (rd, .inr (0, [.ref b, .int (nI (p2 + (tn_REPEAT_EXTRA (sm - 16)))), .int lim])), (b, .inl (cB, n0, .inl f))]) (w1 := [(h0, .inr (6, [x0, x1, .ref cs, .ref lp])), (lp, .inl (cI, 316, .inl (zrep lf1 kn (0) (zrt f sm p2))))]) hP hD [0, 1] [2, 3, 4, 5, 6] rfl rfl (by decide) (by decide) hk1 hFc hP1 hD1
              generalize H1 = H at hP hS ⊢
              try dsimp only at hw
              have hP : va_P (dC, dI) vwCl [(cs, .inr (2, [.ref co, .ref pl, .ref sy])), (co, .inl (cI, 16, .inl c1)), (sy, .inl (cI, 19, .inl s1)), (rd, .inr (0, [.ref b, .int (nI (p2 + (tn_REPEAT_EXTRA (sm - 16)))), .int lim])), (b, .inl (cB, n0, .inl f)), (h0, .inr (6, [x0, x1, .ref cs, .ref lp])), (lp, .inl (cI, 316, .inl (zrep lf1 kn (0) (zrt f sm p2))))] H := hP
              have hD : va_D A [(cs, .inr (2, [.ref co, .ref pl, .ref sy])), (co, .inl (cI, 16, .inl c1)), (sy, .inl (cI, 19, .inl s1)), (rd, .inr (0, [.ref b, .int (nI (p2 + (tn_REPEAT_EXTRA (sm - 16)))), .int lim])), (b, .inl (cB, n0, .inl f)), (h0, .inr (6, [x0, x1, .ref cs, .ref lp])), (lp, .inl (cI, 316, .inl (zrep lf1 kn (0) (zrt f sm p2))))] := hD
              have hka := hw
              refine W.eq (g2 := F0 m 93 ls []) rfl ?_
              refine lv_iload_n hx hb dX6_readLengths_93 rfl (lv_at hl 6 rfl) ?_
              refine lv_iload hx hb dX6_readLengths_94 (lv_at hl 0 rfl) ?_
              refine lv_iadd hx hb dX6_readLengths_96 ?_
              refine lv_topi (fun y_5 ey_5 => ?_)
              obtain rfl : y_5 = nI (kn + (zrt f sm p2)) := ey_5.trans (nI_add kn (zrt f sm p2))
              refine lv_istore_n (lv' := [(3, .int (nI (kn + (zrt f sm p2)))), (7, .int (nI (zrt f sm p2))), (6, .int (nI (sm - 16))), (5, .int (nI sm)), (0, .ref h0), (1, .ref rd), (2, .int (nI al)), (4, .int (nI st))]) hx hb dX6_readLengths_97 rfl hl (by decide) rfl (fun ls hl => ?_)
              refine lv_iinc (v := nI (st + 1)) (lv' := [(4, .int (nI (st + 1))), (3, .int (nI (kn + (zrt f sm p2)))), (7, .int (nI (zrt f sm p2))), (6, .int (nI (sm - 16))), (5, .int (nI sm)), (0, .ref h0), (1, .ref rd), (2, .int (nI al))]) hx hb dX6_readLengths_98 hl (k := 7) rfl (show nI st + Int32.ofInt 1 = _ from nI_add st 1) (by decide) rfl (fun ls hl => ?_)
              refine lv_goto (tgt := 5) hx hb dX6_readLengths_101 (by decide) ?_
              exact ih (st + 1) (kn + zrt f sm p2) (p2 + tn_REPEAT_EXTRA (sm - 16)) (zNrep L kn 0 (zrt f sm p2)) (zrep lf1 kn (0) (zrt f sm p2)) (by omega) (by omega) (by omega) ((zlr_rep0 (L := L) (show kn < al by omega) hz21 (by omega) hl67 hka).symm.trans (zlr_fu hzl (by omega))) (zLn_rep hln (Nat.zero_le _) rfl _) (by omega) (by omega) _ _ (hP.sub [5, 0, 1, 2, 6, 3, 4] rfl) (hD.sub [5, 0, 1, 2, 6, 3, 4] (by decide) rfl) hS _ (lv_sub hl [5, 6, 7, 1, 0] rfl)
            · have c78 : sm = 16 := (nI_eq (a := sm) (b := 16) (by omega) (by omega)).mp c78
              refine lv_iconst (v := 1) hx hb dX6_readLengths_81 (by decide) ?_
              refine lv_goto (tgt := 86) hx hb dX6_readLengths_82 (by decide) ?_
              refine lv_iload_n hx hb dX6_readLengths_86 rfl (lv_at hl 6 rfl) ?_
              refine lv_iload hx hb dX6_readLengths_87 (lv_at hl 0 rfl) ?_
              refine lv_iload_n hx hb dX6_readLengths_89 rfl (lv_at hl 5 rfl) ?_
              have hPc := hP.sub (ws' := [(h0, .inr (6, [x0, x1, .ref cs, .ref lp])), (lp, .inl (cI, 316, .inl lf1))]) [0, 1] rfl
              have hDc := hD.sub (ws' := [(h0, .inr (6, [x0, x1, .ref cs, .ref lp])), (lp, .inl (cI, 316, .inl lf1))]) [0, 1] (by decide) rfl
              have hFc := va_free (wc := [(h0, .inr (6, [x0, x1, .ref cs, .ref lp])), (lp, .inl (cI, 316, .inl lf1))]) hD hS hA [0, 1] rfl
              refine vx_callv (vx_runV (As := [.int 1, .int (nI kn), .int (nI (zrt f sm p2)), .int (nI al)]) (rest := []) ⟨hx, hb, hml, hown, hts⟩ (k_X6_repeatLength_1 l hl9 dC dI cB cI cJ cM h0 lp x0 x1 (.ref cs) lf1 kn (zrt f sm p2) al (by omega) (by omega) (by omega) H.size) (cwV 4 hts gX6_readLengths_X6_repeatLength rfl rfl rfl (by decide +kernel) ⟨Nat.le_of_ble_eq_true rfl, Nat.le_of_ble_eq_true rfl⟩) ⟨fun a U g mk q => by obtain ⟨q0, q1, qP, qK, qD, qE⟩ := q; exact ⟨q0, q1, qP, va_K.moved (u := U) (U := U.calling g mk a) (Vm.Alike.refl U.vm) qK, qD, zE.blind qE⟩, va_recv hK hPc (ci := 6) (q0 := 0) rfl rfl, fun U hU hW => ⟨rfl, by rw [hU], by rw [hU]; exact hPc, va_K.moved hW.alike hK, hDc.weaken (fun _ _ _ _ => trivial), zE.call hE hS hU hW hFc⟩⟩ rfl rfl hl.1 rfl (lv_room (Nat.le_of_ble_eq_true rfl)) dX6_readLengths_90 ⟨(show 0 + 1 ≤ 1 by omega), (show 0 + 6 ≤ 6 by omega)⟩) hS (fun q _ h => hFc q h) hFc (fun q _ h => hFc q h) (fun E8 ce9 q9 ux t H1 locs ht hvm hw hB hz1 hk1 hS hce9 hcv9 hcl9 => ?_) (fun u t H1 locs ht hvm hw hB hz1 hk1 hS => ?_)
              · obtain ⟨E9, ux9⟩ := ux
                obtain ⟨hEe, hB9⟩ := hB
                have hB : True ∧ zB dC dI cB cI cJ cM (va_A [(h0, .inr (6, [x0, x1, .ref cs, .ref lp])), (lp, .inl (cI, 316, .inl lf1))] H.size) (fun u : Unit => [(h0, .inr (6, [x0, x1, .ref cs, .ref lp])), (lp, .inl (cI, 316, .inl lf1))]) ux9 t := ⟨trivial, hB9⟩
                have hP1 : va_P (dC, dI) vwCl [(h0, .inr (6, [x0, x1, .ref cs, .ref lp])), (lp, .inl (cI, 316, .inl lf1))] H1 := by rw [← ht]; exact hB.2.1
                have hD1 : va_D (va_A [(h0, .inr (6, [x0, x1, .ref cs, .ref lp])), (lp, .inl (cI, 316, .inl lf1))] H.size) [(h0, .inr (6, [x0, x1, .ref cs, .ref lp])), (lp, .inl (cI, 316, .inl lf1))] := hB.2.2.2
                obtain ⟨hP, hD⟩ := va_join (wr := [(cs, .inr (2, [.ref co, .ref pl, .ref sy])), (co, .inl (cI, 16, .inl c1)), (sy, .inl (cI, 19, .inl s1)), (rd, .inr (0, [.ref b, .int (nI (p2 + (tn_REPEAT_EXTRA (sm - 16)))), .int lim])), (b, .inl (cB, n0, .inl f))]) (w1 := [(h0, .inr (6, [x0, x1, .ref cs, .ref lp])), (lp, .inl (cI, 316, .inl lf1))]) hP hD [0, 1] [2, 3, 4, 5, 6] rfl rfl (by decide) (by decide) hk1 hFc hP1 hD1
                generalize H1 = H at hP hS hce9 ⊢
                try dsimp only at hw hEe
                subst hEe
                have hP : va_P (dC, dI) vwCl [(cs, .inr (2, [.ref co, .ref pl, .ref sy])), (co, .inl (cI, 16, .inl c1)), (sy, .inl (cI, 19, .inl s1)), (rd, .inr (0, [.ref b, .int (nI (p2 + (tn_REPEAT_EXTRA (sm - 16)))), .int lim])), (b, .inl (cB, n0, .inl f)), (h0, .inr (6, [x0, x1, .ref cs, .ref lp])), (lp, .inl (cI, 316, .inl lf1))] H := hP
                have hD : va_D A [(cs, .inr (2, [.ref co, .ref pl, .ref sy])), (co, .inl (cI, 16, .inl c1)), (sy, .inl (cI, 19, .inl s1)), (rd, .inr (0, [.ref b, .int (nI (p2 + (tn_REPEAT_EXTRA (sm - 16)))), .int lim])), (b, .inl (cB, n0, .inl f)), (h0, .inr (6, [x0, x1, .ref cs, .ref lp])), (lp, .inl (cI, 316, .inl lf1))] := hD
                have hP9 := hP.sub (ws' := [(h0, .inr (6, [x0, x1, .ref cs, .ref lp])), (cs, .inr (2, [.ref co, .ref pl, .ref sy])), (co, .inl (cI, 16, .inl c1)), (sy, .inl (cI, 19, .inl s1)), (lp, .inl (cI, 316, .inl lf1)), (rd, .inr (0, [.ref b, .int (nI (p2 + (tn_REPEAT_EXTRA (sm - 16)))), .int lim])), (b, .inl (cB, n0, .inl f))]) [5, 0, 1, 2, 6, 3, 4] rfl
                have hD9 := hD.sub (ws' := [(h0, .inr (6, [x0, x1, .ref cs, .ref lp])), (cs, .inr (2, [.ref co, .ref pl, .ref sy])), (co, .inl (cI, 16, .inl c1)), (sy, .inl (cI, 19, .inl s1)), (lp, .inl (cI, 316, .inl lf1)), (rd, .inr (0, [.ref b, .int (nI (p2 + (tn_REPEAT_EXTRA (sm - 16)))), .int lim])), (b, .inl (cB, n0, .inl f))]) [5, 0, 1, 2, 6, 3, 4] (by decide) rfl
                exact vx_out (fun x hx => (hEx x hx).elim) hlocks hce9 hcv9 hcl9 (fun t ht9 ha => ⟨(_, (lf1, nI (p2 + tn_REPEAT_EXTRA (sm - 16)))), ⟨hw.1, hzl.symm.trans (zlr_rno (show kn < al by omega) hz21 (by omega) (Or.inr (hw.2.elim (fun q => Or.inr q) (fun q => Or.inl ⟨by omega, q⟩))))⟩, ⟨rfl, by rw [ht9]; exact hP9, va_K.moved ha hK, hD9⟩, hS.F ht9⟩) hS.2.2 (Nat.le_of_ble_eq_true rfl) (Nat.le_of_ble_eq_true rfl)
              have hP1 : va_P (dC, dI) vwCl [(h0, .inr (6, [x0, x1, .ref cs, .ref lp])), (lp, .inl (cI, 316, .inl (zrep lf1 kn (lf1 (kn - 1)) (zrt f sm p2))))] H1 := by rw [← ht]; exact hB.1
              have hD1 : va_D (va_A [(h0, .inr (6, [x0, x1, .ref cs, .ref lp])), (lp, .inl (cI, 316, .inl lf1))] H.size) [(h0, .inr (6, [x0, x1, .ref cs, .ref lp])), (lp, .inl (cI, 316, .inl (zrep lf1 kn (lf1 (kn - 1)) (zrt f sm p2))))] := hB.2.2
              obtain ⟨hP, hD⟩ := va_join (wr := [(cs, .inr (2, [.ref co, .ref pl, .ref sy])), (co, .inl (cI, 16, .inl c1)), (sy, .inl (cI, 19, .inl s1)), (rd, .inr (0, [.ref b, .int (nI (p2 + (tn_REPEAT_EXTRA (sm - 16)))), .int lim])), (b, .inl (cB, n0, .inl f))]) (w1 := [(h0, .inr (6, [x0, x1, .ref cs, .ref lp])), (lp, .inl (cI, 316, .inl (zrep lf1 kn (lf1 (kn - 1)) (zrt f sm p2))))]) hP hD [0, 1] [2, 3, 4, 5, 6] rfl rfl (by decide) (by decide) hk1 hFc hP1 hD1
              generalize H1 = H at hP hS ⊢
              try dsimp only at hw
              have hP : va_P (dC, dI) vwCl [(cs, .inr (2, [.ref co, .ref pl, .ref sy])), (co, .inl (cI, 16, .inl c1)), (sy, .inl (cI, 19, .inl s1)), (rd, .inr (0, [.ref b, .int (nI (p2 + (tn_REPEAT_EXTRA (sm - 16)))), .int lim])), (b, .inl (cB, n0, .inl f)), (h0, .inr (6, [x0, x1, .ref cs, .ref lp])), (lp, .inl (cI, 316, .inl (zrep lf1 kn (lf1 (kn - 1)) (zrt f sm p2))))] H := hP
              have hD : va_D A [(cs, .inr (2, [.ref co, .ref pl, .ref sy])), (co, .inl (cI, 16, .inl c1)), (sy, .inl (cI, 19, .inl s1)), (rd, .inr (0, [.ref b, .int (nI (p2 + (tn_REPEAT_EXTRA (sm - 16)))), .int lim])), (b, .inl (cB, n0, .inl f)), (h0, .inr (6, [x0, x1, .ref cs, .ref lp])), (lp, .inl (cI, 316, .inl (zrep lf1 kn (lf1 (kn - 1)) (zrt f sm p2))))] := hD
              obtain ⟨hka, hk0⟩ := hw
              refine W.eq (g2 := F0 m 93 ls []) rfl ?_
              refine lv_iload_n hx hb dX6_readLengths_93 rfl (lv_at hl 6 rfl) ?_
              refine lv_iload hx hb dX6_readLengths_94 (lv_at hl 0 rfl) ?_
              refine lv_iadd hx hb dX6_readLengths_96 ?_
              refine lv_topi (fun y_6 ey_6 => ?_)
              obtain rfl : y_6 = nI (kn + (zrt f sm p2)) := ey_6.trans (nI_add kn (zrt f sm p2))
              refine lv_istore_n (lv' := [(3, .int (nI (kn + (zrt f sm p2)))), (7, .int (nI (zrt f sm p2))), (6, .int (nI (sm - 16))), (5, .int (nI sm)), (0, .ref h0), (1, .ref rd), (2, .int (nI al)), (4, .int (nI st))]) hx hb dX6_readLengths_97 rfl hl (by decide) rfl (fun ls hl => ?_)
              refine lv_iinc (v := nI (st + 1)) (lv' := [(4, .int (nI (st + 1))), (3, .int (nI (kn + (zrt f sm p2)))), (7, .int (nI (zrt f sm p2))), (6, .int (nI (sm - 16))), (5, .int (nI sm)), (0, .ref h0), (1, .ref rd), (2, .int (nI al))]) hx hb dX6_readLengths_98 hl (k := 7) rfl (show nI st + Int32.ofInt 1 = _ from nI_add st 1) (by decide) rfl (fun ls hl => ?_)
              refine lv_goto (tgt := 5) hx hb dX6_readLengths_101 (by decide) ?_
              exact ih (st + 1) (kn + zrt f sm p2) (p2 + tn_REPEAT_EXTRA (sm - 16)) (zNrep L kn (L (kn - 1)) (zrt f sm p2)) (zrep lf1 kn (lf1 (kn - 1)) (zrt f sm p2)) (by omega) (by omega) (by omega) ((zlr_rep1 (L := L) (show kn < al by omega) hz21 c78 hl67 hk0 hka).symm.trans (zlr_fu hzl (by omega))) (zLn_rep hln (hln (kn - 1) (by omega)).2 (hln (kn - 1) (by omega)).1 _) (by omega) (by omega) _ _ (hP.sub [5, 0, 1, 2, 6, 3, 4] rfl) (hD.sub [5, 0, 1, 2, 6, 3, 4] (by decide) rfl) hS _ (lv_sub hl [5, 6, 7, 1, 0] rfl)
          · have c30 : ¬ (16 ≤ sm) := fun h => c30 ((nI_leI (a := 16) (b := sm) (by omega) (by omega)).mpr h)
            refine lv_aload_n hx hb dX6_readLengths_33 rfl (lv_at hl 1 rfl) ?_
            refine va_get (D := (dC, dI)) (ci := 6) (v := .ref lp) (C := RX6) (T := TX6) (N := 4) hx hb hts (by decide +kernel) hown hK hP 0 rfl rfl 3 (by decide) (hts (.fieldLink RX6 30 "FixedPress$ToldCodes" "lengths" "[I") (by decide +kernel)) (fun _ h9 => h9) rfl dX6_readLengths_34 ?_
            refine lv_iload_n hx hb dX6_readLengths_37 rfl (lv_at hl 4 rfl) ?_
            refine lv_iload hx hb dX6_readLengths_38 (lv_at hl 0 rfl) ?_
            refine va_iast hx hb hK hP hD hS 1 1 rfl rfl (vp_in_nI (n := kn) (by omega) (by omega)) dX6_readLengths_40 (fun H locs hP hD hS => ?_)
            rw [nI_clamp (n := kn) (by omega)] at hP hD
            have hP : va_P (dC, dI) vwCl [(h0, .inr (6, [x0, x1, .ref cs, .ref lp])), (lp, .inl (cI, 316, .inl (upd lf1 kn (nI sm)))), (cs, .inr (2, [.ref co, .ref pl, .ref sy])), (co, .inl (cI, 16, .inl c1)), (sy, .inl (cI, 19, .inl s1)), (rd, .inr (0, [.ref b, .int (nI p2), .int lim])), (b, .inl (cB, n0, .inl f))] H := hP
            have hD : va_D A [(h0, .inr (6, [x0, x1, .ref cs, .ref lp])), (lp, .inl (cI, 316, .inl (upd lf1 kn (nI sm)))), (cs, .inr (2, [.ref co, .ref pl, .ref sy])), (co, .inl (cI, 16, .inl c1)), (sy, .inl (cI, 19, .inl s1)), (rd, .inr (0, [.ref b, .int (nI p2), .int lim])), (b, .inl (cB, n0, .inl f))] := hD
            refine lv_iinc (v := nI (kn + 1)) (lv' := [(3, .int (nI (kn + 1))), (5, .int (nI sm)), (0, .ref h0), (1, .ref rd), (2, .int (nI al)), (4, .int (nI st))]) hx hb dX6_readLengths_41 hl (k := 4) rfl (show nI kn + Int32.ofInt 1 = _ from nI_add kn 1) (by decide) rfl (fun ls hl => ?_)
            refine lv_goto (tgt := 98) hx hb dX6_readLengths_44 (by decide) ?_
            refine lv_iinc (v := nI (st + 1)) (lv' := [(4, .int (nI (st + 1))), (3, .int (nI (kn + 1))), (5, .int (nI sm)), (0, .ref h0), (1, .ref rd), (2, .int (nI al))]) hx hb dX6_readLengths_98 hl (k := 5) rfl (show nI st + Int32.ofInt 1 = _ from nI_add st 1) (by decide) rfl (fun ls hl => ?_)
            refine lv_goto (tgt := 5) hx hb dX6_readLengths_101 (by decide) ?_
            exact ih (st + 1) (kn + 1) p2 (zNup L kn sm) (upd lf1 kn (nI sm)) (by omega) (by omega) (by omega) ((zlr_put (L := L) (show kn < al by omega) hz21 (by omega)).symm.trans (zlr_fu hzl (by omega))) (zLn_s hln (by omega)) (by omega) (by omega) _ _ (hP.sub [0, 2, 3, 4, 1, 5, 6] rfl) (hD.sub [0, 2, 3, 4, 1, 5, 6] (by decide) rfl) hS _ (lv_sub hl [3, 4, 5, 1, 0] rfl)
  exact cut5 (al - 0 + 1) 0 0 at_ (fun _ => 0) lf (by omega) (by omega) (by omega) (rfl) (zLn_0 _ _) (by omega) (by omega) _ _ hP hD hS _ (lv_sub hl [2, 3, 4, 1, 0] rfl)
