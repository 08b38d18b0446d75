abbrev rm_X2_sortSymbols : Room := { frames := 0, cells := 0, slots := 0, locals := 0 }
abbrev wo_X2_sortSymbols (dC : Nat → ClassId) (dI : Nat → Nat → Nat) (cB cI cJ cM : ClassId) (h0 co pl sy lp ns nl : Nat) (ℓ : Nat → Nat) (lf : Nat → Int32) (fr n : Nat) (c1 p1 s1 : Nat → Int32) : va_W := [(h0, .inr (2, [.ref co, .ref pl, .ref sy])), (co, .inl (cI, 16, .inl c1)), (pl, .inl (cI, 16, .inl p1)), (sy, .inl (cI, ns, .inl s1)), (lp, .inl (cI, nl, .inl lf))]
abbrev q_X2_sortSymbols (dC : Nat → ClassId) (dI : Nat → Nat → Nat) (cB cI cJ cM : ClassId) (h0 co pl sy lp ns nl : Nat) (ℓ : Nat → Nat) (lf : Nat → Int32) (fr n : Nat) (c1 p1 s1 : Nat → Int32) (A : Nat → Prop) : Array Value → State → Outcome → State → Prop := va_Qv (fun (u : (Nat → Int32) × (Nat → Int32)) => ∀ j, j < zoff ℓ n 16 → u.2 j = nI (zsym ℓ n j)) (zB dC dI cB cI cJ cM A (fun u : (Nat → Int32) × (Nat → Int32) => [(h0, .inr (2, [.ref co, .ref pl, .ref sy])), (co, .inl (cI, 16, .inl c1)), (pl, .inl (cI, 16, .inl u.1)), (sy, .inl (cI, ns, .inl u.2)), (lp, .inl (cI, nl, .inl lf))])) A
set_option maxHeartbeats 8000000 in
set_option maxRecDepth 100000 in
/-- sortSymbols -/
theorem k_X2_sortSymbols (l : Launch) (dC : Nat → ClassId) (dI : Nat → Nat → Nat) (cB cI cJ cM : ClassId) (h0 co pl sy lp ns nl : Nat) (ℓ : Nat → Nat) (lf : Nat → Int32) (fr n : Nat) (c1 p1 s1 : Nat → Int32) (hlf : ∀ i, i < n → lf (fr + i) = nI (ℓ i) ∧ ℓ i ≤ 15) (hnl : fr + n ≤ nl) (hns : n ≤ ns) (hz1 : nl < 100000) (hz2 : ns < 100000) (hc1 : ∀ k, k < 16 → c1 k = nI (zcnt ℓ n k)) (sz : Nat) : Met l yX2_sortSymbols wsX2_sortSymbols rm_X2_sortSymbols (va_Pc [.ref h0, .ref lp, .int (nI fr), .int (nI n)] (fun U => U.heap.size = sz ∧ va_P (dC, dI) vwCl (wo_X2_sortSymbols dC dI cB cI cJ cM h0 co pl sy lp ns nl ℓ lf fr n c1 p1 s1) U.heap ∧ va_K (dC, dI) vwCl (zT cB cI cJ cM) U ∧ va_D (fun _ => True) (wo_X2_sortSymbols dC dI cB cI cJ cM h0 co pl sy lp ns nl ℓ lf fr n c1 p1 s1))) (q_X2_sortSymbols dC dI cB cI cJ cM h0 co pl sy lp ns nl ℓ lf fr n c1 p1 s1 (va_A (wo_X2_sortSymbols dC dI cB cI cJ cM h0 co pl sy lp ns nl ℓ lf fr n c1 p1 s1) sz)) 0 0 (va_A (wo_X2_sortSymbols dC dI cB cI cJ cM h0 co pl sy lp ns nl ℓ lf fr n c1 p1 s1) sz) := by
  refine Met.ofW (cc := cX2_sortSymbols) (maxL := 7) (ret := none) (by decide) rfl ?_
  intro p e s m args below meth c s₁ B hml hv
  obtain ⟨rfl, hsz, hP, hK, hD0⟩ := hv
  have hx := B.exec
  have hb := B.bytes
  have hr := B.returns
  have hts := atoms_spec (ws := wsX2_sortSymbols) B.pre
  have hown : s.vm.findClass RX2 = some m.cls := findClass_of_methodNamed B.named
  have hlocks := B.notSynchronized
  subst hsz
  have hD := hD0.self (sz := s.heap.size)
  generalize hAe : va_A (wo_X2_sortSymbols dC dI cB cI cJ cM h0 co pl sy lp ns nl ℓ lf fr n c1 p1 s1) s.heap.size = A at hD ⊢
  have hA : ∀ q : Nat, s.heap.size ≤ q → A q := fun q h => by rw [← hAe]; exact Or.inr h
  have hS : va_S A s.heap s.heap [] := va_S.rf
  have hP : va_P (dC, dI) vwCl [(h0, .inr (2, [.ref co, .ref pl, .ref sy])), (co, .inl (cI, 16, .inl c1)), (pl, .inl (cI, 16, .inl p1)), (sy, .inl (cI, ns, .inl s1)), (lp, .inl (cI, nl, .inl lf))] s.heap := hP
  have hD : va_D A [(h0, .inr (2, [.ref co, .ref pl, .ref sy])), (co, .inl (cI, 16, .inl c1)), (pl, .inl (cI, 16, .inl p1)), (sy, .inl (cI, ns, .inl s1)), (lp, .inl (cI, nl, .inl lf))] := hD
  have hl := lv_entry ([.ref h0, .ref lp, .int (nI fr), .int (nI n)]) (n := 7) (Nat.le_of_ble_eq_true rfl)
  rw [lg_entry_eq]
  generalize (lg_sl ([.ref h0, .ref lp, .int (nI fr), .int (nI n)]) ++ List.replicate (7 - (lg_sl ([.ref h0, .ref lp, .int (nI fr), .int (nI n)])).length) Slot.unset).toArray = ls at hl ⊢
  have hl : lv_has ls 7 [(0, .ref h0), (1, .ref lp), (2, .int (nI fr)), (3, .int (nI n))] := hl
  refine lv_iconst (v := 0) hx hb dX2_sortSymbols_0 (by decide) ?_
  refine lv_istore (lv' := [(4, .int 0), (0, .ref h0), (1, .ref lp), (2, .int (nI fr)), (3, .int (nI n))]) hx hb dX2_sortSymbols_1 hl (by decide) rfl (fun ls hl => ?_)
  refine lv_iconst (v := 1) hx hb dX2_sortSymbols_3 (by decide) ?_
  refine lv_istore (lv' := [(5, .int 1), (4, .int 0), (0, .ref h0), (1, .ref lp), (2, .int (nI fr)), (3, .int (nI n))]) hx hb dX2_sortSymbols_4 hl (by decide) rfl (fun ls hl => ?_)
  have cut6 : ∀ (fuel : Nat) (b1 : Nat) (p2 : Nat → Int32), (1 ≤ b1) → (b1 ≤ 16) → (∀ k, k ≠ 0 → k < b1 → p2 k = nI (zoff ℓ n k)) → (16 - b1 < fuel) → ∀ (H : Heap) (locs : List Loc), va_P (dC, dI) vwCl [(h0, .inr (2, [.ref co, .ref pl, .ref sy])), (co, .inl (cI, 16, .inl c1)), (pl, .inl (cI, 16, .inl p2)), (sy, .inl (cI, ns, .inl s1)), (lp, .inl (cI, nl, .inl lf))] H → va_D A [(h0, .inr (2, [.ref co, .ref pl, .ref sy])), (co, .inl (cI, 16, .inl c1)), (pl, .inl (cI, 16, .inl p2)), (sy, .inl (cI, ns, .inl s1)), (lp, .inl (cI, nl, .inl lf))] → va_S A s.heap H locs → ∀ (ls : Array Slot), lv_has ls 7 [(0, .ref h0), (1, .ref lp), (2, .int (nI fr)), (3, .int (nI n)), (4, .int (nI (zoff ℓ n b1))), (5, .int (nI b1))] → W p l e (headSpec wsX2_sortSymbols rm_X2_sortSymbols).room s m ([.ref h0, .ref lp, .int (nI fr), .int (nI n)] : List Value).toArray below meth c H locs 0 0 (MQ below (q_X2_sortSymbols dC dI cB cI cJ cM h0 co pl sy lp ns nl ℓ lf fr n c1 p1 s1 A) ([.ref h0, .ref lp, .int (nI fr), .int (nI n)] : List Value).toArray s 0 0 A) (F0 m 6 ls []) := by
    intro fuel
    induction fuel with
    | zero => intros; omega
    | succ fuel ih =>
      intro b1 p2 hb1 hb2 hp2 hfuel H locs hP hD hS ls hl
      refine lv_iload hx hb dX2_sortSymbols_6 (lv_at hl 5 rfl) ?_
      refine lv_bipush (v := 15) hx hb dX2_sortSymbols_8 (by decide) ?_
      refine lv_icmp_gt (tgt := 40) hx hb dX2_sortSymbols_10 (by decide) (fun c10 => ?_) (fun c10 => ?_)
      · have c10 : 15 < b1 := (nI_ltI (a := 15) (b := b1) (by omega) (by omega)).mp c10
        refine lv_iconst (v := 0) hx hb dX2_sortSymbols_40 (by decide) ?_
        refine lv_istore (lv' := [(5, .int 0), (0, .ref h0), (1, .ref lp), (2, .int (nI fr)), (3, .int (nI n)), (4, .int (nI (zoff ℓ n b1)))]) hx hb dX2_sortSymbols_41 hl (by decide) rfl (fun ls hl => ?_)
        have cut43 : ∀ (fuel : Nat) (i : Nat) (p3 : Nat → Int32) (s3 : Nat → Int32), (i ≤ n) → (∀ k, k ≠ 0 → k < 16 → p3 k = nI (zoff ℓ n k + zcnt ℓ i k)) → (∀ s, s < i → ℓ s ≠ 0 → s3 (zpos ℓ n s) = nI s) → (n - i < fuel) → ∀ (H : Heap) (locs : List Loc), va_P (dC, dI) vwCl [(h0, .inr (2, [.ref co, .ref pl, .ref sy])), (co, .inl (cI, 16, .inl c1)), (pl, .inl (cI, 16, .inl p3)), (sy, .inl (cI, ns, .inl s3)), (lp, .inl (cI, nl, .inl lf))] H → va_D A [(h0, .inr (2, [.ref co, .ref pl, .ref sy])), (co, .inl (cI, 16, .inl c1)), (pl, .inl (cI, 16, .inl p3)), (sy, .inl (cI, ns, .inl s3)), (lp, .inl (cI, nl, .inl lf))] → va_S A s.heap H locs → ∀ (ls : Array Slot), lv_has ls 7 [(0, .ref h0), (1, .ref lp), (2, .int (nI fr)), (3, .int (nI n)), (5, .int (nI i))] → W p l e (headSpec wsX2_sortSymbols rm_X2_sortSymbols).room s m ([.ref h0, .ref lp, .int (nI fr), .int (nI n)] : List Value).toArray below meth c H locs 0 0 (MQ below (q_X2_sortSymbols dC dI cB cI cJ cM h0 co pl sy lp ns nl ℓ lf fr n c1 p1 s1 A) ([.ref h0, .ref lp, .int (nI fr), .int (nI n)] : List Value).toArray s 0 0 A) (F0 m 43 ls []) := by
          intro fuel
          induction fuel with
          | zero => intros; omega
          | succ fuel ih =>
            intro i p3 s3 hi hp3 hs3 hfuel H locs hP hD hS ls hl
            refine lv_iload hx hb dX2_sortSymbols_43 (lv_at hl 4 rfl) ?_
            refine lv_iload_n hx hb dX2_sortSymbols_45 rfl (lv_at hl 3 rfl) ?_
            refine lv_icmp_ge (tgt := 93) hx hb dX2_sortSymbols_46 (by decide) (fun c46 => ?_) (fun c46 => ?_)
            · have c46 : n ≤ i := (nI_leI (a := n) (b := i) (by omega) (by omega)).mp c46
              have hin : i = n := by omega
              rw [hin] at hs3
              have hP9 := hP.sub (ws' := [(h0, .inr (2, [.ref co, .ref pl, .ref sy])), (co, .inl (cI, 16, .inl c1)), (pl, .inl (cI, 16, .inl p3)), (sy, .inl (cI, ns, .inl s3)), (lp, .inl (cI, nl, .inl lf))]) [0, 1, 2, 3, 4] rfl
              have hD9 := hD.sub (ws' := [(h0, .inr (2, [.ref co, .ref pl, .ref sy])), (co, .inl (cI, 16, .inl c1)), (pl, .inl (cI, 16, .inl p3)), (sy, .inl (cI, ns, .inl s3)), (lp, .inl (cI, nl, .inl lf))]) [0, 1, 2, 3, 4] (by decide) rfl
              exact W.vret hx hb hr (fun t ht hW => ⟨⟨(p3, s3), rfl, zsym_all hs3, ⟨by rw [ht]; exact hP9, va_K.moved hW.alike hK, hD9⟩⟩, hS.F ht⟩) hS.2.2 dX2_sortSymbols_93
            · have c46 : ¬ (n ≤ i) := fun h => c46 ((nI_leI (a := n) (b := i) (by omega) (by omega)).mpr h)
              refine lv_aload_n hx hb dX2_sortSymbols_49 rfl (lv_at hl 1 rfl) ?_
              refine lv_iload_n hx hb dX2_sortSymbols_50 rfl (lv_at hl 2 rfl) ?_
              refine lv_iload hx hb dX2_sortSymbols_51 (lv_at hl 4 rfl) ?_
              refine lv_iadd hx hb dX2_sortSymbols_53 ?_
              refine lv_topi (fun y_1 ey_1 => ?_)
              obtain rfl : y_1 = nI (fr + i) := ey_1.trans (nI_add fr i)
              refine va_iald hx hb hK hP 4 1 rfl rfl (vp_in_nI (n := fr + i) (by omega) (by omega)) dX2_sortSymbols_54 ?_
              rw [nI_clamp (n := fr + i) (by omega)]
              obtain ⟨hlv, hl15⟩ := hlf i (by omega)
              refine lv_topi (fun y_2 ey_2 => ?_)
              obtain rfl : y_2 = nI (ℓ i) := ey_2.trans (hlv)
              refine lv_istore (lv' := [(6, .int (nI (ℓ i))), (0, .ref h0), (1, .ref lp), (2, .int (nI fr)), (3, .int (nI n)), (5, .int (nI i))]) hx hb dX2_sortSymbols_55 hl (by decide) rfl (fun ls hl => ?_)
              refine lv_iload hx hb dX2_sortSymbols_57 (lv_at hl 0 rfl) ?_
              refine lv_if_le (tgt := 87) hx hb dX2_sortSymbols_59 (by decide) (fun c59 => ?_) (fun c59 => ?_)
              · have c59 : (ℓ i) ≤ 0 := (nI_leI (a := (ℓ i)) (b := 0) (by omega) (by omega)).mp c59
                refine lv_iinc (v := nI (i + 1)) (lv' := [(5, .int (nI (i + 1))), (6, .int (nI (ℓ i))), (0, .ref h0), (1, .ref lp), (2, .int (nI fr)), (3, .int (nI n))]) hx hb dX2_sortSymbols_87 hl (k := 5) rfl (show nI i + Int32.ofInt 1 = _ from nI_add i 1) (by decide) rfl (fun ls hl => ?_)
                refine lv_goto (tgt := 43) hx hb dX2_sortSymbols_90 (by decide) ?_
                exact ih (i + 1) p3 s3 (by omega) (z_plup0 hp3 (by omega)) (z_syup0 hs3 (by omega)) (by omega) _ _ hP hD hS _ (lv_sub hl [2, 3, 4, 5, 0] rfl)
              · have c59 : ¬ ((ℓ i) ≤ 0) := fun h => c59 ((nI_leI (a := (ℓ i)) (b := 0) (by omega) (by omega)).mpr h)
                have hpl := zpos_lt16 ℓ (n := n) (s := i) (by omega) (by omega) hl15
                have hol := zoff_le ℓ 16 n
                unfold zpos at hpl
                refine lv_aload_n hx hb dX2_sortSymbols_62 rfl (lv_at hl 1 rfl) ?_
                refine va_get (D := (dC, dI)) (ci := 2) (v := .ref sy) (C := RX2) (T := TX2) (N := 3) hx hb hts (by decide +kernel) hown hK hP 0 rfl rfl 2 (by decide) (hts (.fieldLink RX2 16 "FixedPress$CodeSet" "symbols" "[I") (by decide +kernel)) (fun _ h9 => h9) rfl dX2_sortSymbols_63 ?_
                refine lv_aload_n hx hb dX2_sortSymbols_66 rfl (lv_at hl 1 rfl) ?_
                refine va_get (D := (dC, dI)) (ci := 2) (v := .ref pl) (C := RX2) (T := TX2) (N := 3) hx hb hts (by decide +kernel) hown hK hP 0 rfl rfl 1 (by decide) (hts (.fieldLink RX2 13 "FixedPress$CodeSet" "placeOf" "[I") (by decide +kernel)) (fun _ h9 => h9) rfl dX2_sortSymbols_67 ?_
                refine lv_iload hx hb dX2_sortSymbols_70 (lv_at hl 0 rfl) ?_
                refine va_iald hx hb hK hP 2 1 rfl rfl (vp_in_nI (n := ℓ i) (by omega) (by omega)) dX2_sortSymbols_72 ?_
                rw [nI_clamp (n := ℓ i) (by omega)]
                refine lv_topi (fun y_3 ey_3 => ?_)
                obtain rfl : y_3 = nI (zoff ℓ n (ℓ i) + zcnt ℓ i (ℓ i)) := ey_3.trans (hp3 _ (by omega) (by omega))
                refine lv_iload hx hb dX2_sortSymbols_73 (lv_at hl 5 rfl) ?_
                refine va_iast hx hb hK hP hD hS 3 1 rfl rfl (vp_in_nI (n := zoff ℓ n (ℓ i) + zcnt ℓ i (ℓ i)) (by omega) (by omega)) dX2_sortSymbols_75 (fun H locs hP hD hS => ?_)
                rw [nI_clamp (n := zoff ℓ n (ℓ i) + zcnt ℓ i (ℓ i)) (by omega)] at hP hD
                have hP : va_P (dC, dI) vwCl [(h0, .inr (2, [.ref co, .ref pl, .ref sy])), (co, .inl (cI, 16, .inl c1)), (pl, .inl (cI, 16, .inl p3)), (sy, .inl (cI, ns, .inl (upd s3 (zoff ℓ n (ℓ i) + zcnt ℓ i (ℓ i)) (nI i)))), (lp, .inl (cI, nl, .inl lf))] H := hP
                have hD : va_D A [(h0, .inr (2, [.ref co, .ref pl, .ref sy])), (co, .inl (cI, 16, .inl c1)), (pl, .inl (cI, 16, .inl p3)), (sy, .inl (cI, ns, .inl (upd s3 (zoff ℓ n (ℓ i) + zcnt ℓ i (ℓ i)) (nI i)))), (lp, .inl (cI, nl, .inl lf))] := hD
                refine lv_aload_n hx hb dX2_sortSymbols_76 rfl (lv_at hl 1 rfl) ?_
                refine va_get (D := (dC, dI)) (ci := 2) (v := .ref pl) (C := RX2) (T := TX2) (N := 3) hx hb hts (by decide +kernel) hown hK hP 0 rfl rfl 1 (by decide) (hts (.fieldLink RX2 13 "FixedPress$CodeSet" "placeOf" "[I") (by decide +kernel)) (fun _ h9 => h9) rfl dX2_sortSymbols_77 ?_
                refine lv_iload hx hb dX2_sortSymbols_80 (lv_at hl 0 rfl) ?_
                refine lv_dup2_11 hx hb dX2_sortSymbols_82 rfl rfl ?_
                refine va_iald hx hb hK hP 2 1 rfl rfl (vp_in_nI (n := ℓ i) (by omega) (by omega)) dX2_sortSymbols_83 ?_
                rw [nI_clamp (n := ℓ i) (by omega)]
                refine lv_topi (fun y_4 ey_4 => ?_)
                obtain rfl : y_4 = nI (zoff ℓ n (ℓ i) + zcnt ℓ i (ℓ i)) := ey_4.trans (hp3 _ (by omega) (by omega))
                refine lv_iconst (v := 1) hx hb dX2_sortSymbols_84 (by decide) ?_
                refine lv_iadd hx hb dX2_sortSymbols_85 ?_
                refine lv_topi (fun y_5 ey_5 => ?_)
                obtain rfl : y_5 = nI ((zoff ℓ n (ℓ i) + zcnt ℓ i (ℓ i)) + 1) := ey_5.trans (nI_add (zoff ℓ n (ℓ i) + zcnt ℓ i (ℓ i)) 1)
                refine va_iast hx hb hK hP hD hS 2 1 rfl rfl (vp_in_nI (n := ℓ i) (by omega) (by omega)) dX2_sortSymbols_86 (fun H locs hP hD hS => ?_)
                rw [nI_clamp (n := ℓ i) (by omega)] at hP hD
                have hP : va_P (dC, dI) vwCl [(h0, .inr (2, [.ref co, .ref pl, .ref sy])), (co, .inl (cI, 16, .inl c1)), (pl, .inl (cI, 16, .inl (upd p3 (ℓ i) (nI ((zoff ℓ n (ℓ i) + zcnt ℓ i (ℓ i)) + 1))))), (sy, .inl (cI, ns, .inl (upd s3 (zoff ℓ n (ℓ i) + zcnt ℓ i (ℓ i)) (nI i)))), (lp, .inl (cI, nl, .inl lf))] H := hP
                have hD : va_D A [(h0, .inr (2, [.ref co, .ref pl, .ref sy])), (co, .inl (cI, 16, .inl c1)), (pl, .inl (cI, 16, .inl (upd p3 (ℓ i) (nI ((zoff ℓ n (ℓ i) + zcnt ℓ i (ℓ i)) + 1))))), (sy, .inl (cI, ns, .inl (upd s3 (zoff ℓ n (ℓ i) + zcnt ℓ i (ℓ i)) (nI i)))), (lp, .inl (cI, nl, .inl lf))] := hD
                refine lv_iinc (v := nI (i + 1)) (lv' := [(5, .int (nI (i + 1))), (6, .int (nI (ℓ i))), (0, .ref h0), (1, .ref lp), (2, .int (nI fr)), (3, .int (nI n))]) hx hb dX2_sortSymbols_87 hl (k := 5) rfl (show nI i + Int32.ofInt 1 = _ from nI_add i 1) (by decide) rfl (fun ls hl => ?_)
                refine lv_goto (tgt := 43) hx hb dX2_sortSymbols_90 (by decide) ?_
                exact ih (i + 1) (upd p3 (ℓ i) (nI ((zoff ℓ n (ℓ i) + zcnt ℓ i (ℓ i)) + 1))) (upd s3 (zoff ℓ n (ℓ i) + zcnt ℓ i (ℓ i)) (nI i)) (by omega) (z_plup hp3 hl15) (z_syup hs3 (by omega) (by omega)) (by omega) _ _ hP hD hS _ (lv_sub hl [2, 3, 4, 5, 0] rfl)
        exact cut43 (n - 0 + 1) 0 p2 s1 (by omega) (fun k h1 h2 => hp2 k h1 (by omega)) (fun s h => absurd h (Nat.not_lt_zero _)) (by omega) _ _ hP hD hS _ (lv_sub hl [1, 2, 3, 4, 0] rfl)
      · have c10 : ¬ (15 < b1) := fun h => c10 ((nI_ltI (a := 15) (b := b1) (by omega) (by omega)).mpr h)
        refine lv_aload_n hx hb dX2_sortSymbols_13 rfl (lv_at hl 0 rfl) ?_
        refine va_get (D := (dC, dI)) (ci := 2) (v := .ref pl) (C := RX2) (T := TX2) (N := 3) hx hb hts (by decide +kernel) hown hK hP 0 rfl rfl 1 (by decide) (hts (.fieldLink RX2 13 "FixedPress$CodeSet" "placeOf" "[I") (by decide +kernel)) (fun _ h9 => h9) rfl dX2_sortSymbols_14 ?_
        refine lv_iload hx hb dX2_sortSymbols_17 (lv_at hl 5 rfl) ?_
        refine lv_iload hx hb dX2_sortSymbols_19 (lv_at hl 4 rfl) ?_
        refine va_iast hx hb hK hP hD hS 2 1 rfl rfl (vp_in_nI (n := b1) (by omega) (by omega)) dX2_sortSymbols_21 (fun H locs hP hD hS => ?_)
        rw [nI_clamp (n := b1) (by omega)] at hP hD
        have hP : va_P (dC, dI) vwCl [(h0, .inr (2, [.ref co, .ref pl, .ref sy])), (co, .inl (cI, 16, .inl c1)), (pl, .inl (cI, 16, .inl (upd p2 b1 (nI (zoff ℓ n b1))))), (sy, .inl (cI, ns, .inl s1)), (lp, .inl (cI, nl, .inl lf))] H := hP
        have hD : va_D A [(h0, .inr (2, [.ref co, .ref pl, .ref sy])), (co, .inl (cI, 16, .inl c1)), (pl, .inl (cI, 16, .inl (upd p2 b1 (nI (zoff ℓ n b1))))), (sy, .inl (cI, ns, .inl s1)), (lp, .inl (cI, nl, .inl lf))] := hD
        refine lv_iload hx hb dX2_sortSymbols_22 (lv_at hl 4 rfl) ?_
        refine lv_aload_n hx hb dX2_sortSymbols_24 rfl (lv_at hl 0 rfl) ?_
        refine va_get (D := (dC, dI)) (ci := 2) (v := .ref co) (C := RX2) (T := TX2) (N := 3) hx hb hts (by decide +kernel) hown hK hP 0 rfl rfl 0 (by decide) (hts (.fieldLink RX2 9 "FixedPress$CodeSet" "codesOf" "[I") (by decide +kernel)) (fun _ h9 => h9) rfl dX2_sortSymbols_25 ?_
        refine lv_iload hx hb dX2_sortSymbols_28 (lv_at hl 5 rfl) ?_
        refine va_iald hx hb hK hP 1 1 rfl rfl (vp_in_nI (n := b1) (by omega) (by omega)) dX2_sortSymbols_30 ?_
        rw [nI_clamp (n := b1) (by omega)]
        refine lv_topi (fun y_6 ey_6 => ?_)
        obtain rfl : y_6 = nI (zcnt ℓ n b1) := ey_6.trans (hc1 b1 (by omega))
        refine lv_iadd hx hb dX2_sortSymbols_31 ?_
        refine lv_topi (fun y_7 ey_7 => ?_)
        obtain rfl : y_7 = nI (zoff ℓ n (b1 + 1)) := ey_7.trans ((nI_add _ _).trans (congrArg nI (zoff_p ℓ n (by omega)).symm))
        refine lv_istore (lv' := [(4, .int (nI (zoff ℓ n (b1 + 1)))), (0, .ref h0), (1, .ref lp), (2, .int (nI fr)), (3, .int (nI n)), (5, .int (nI b1))]) hx hb dX2_sortSymbols_32 hl (by decide) rfl (fun ls hl => ?_)
        refine lv_iinc (v := nI (b1 + 1)) (lv' := [(5, .int (nI (b1 + 1))), (4, .int (nI (zoff ℓ n (b1 + 1)))), (0, .ref h0), (1, .ref lp), (2, .int (nI fr)), (3, .int (nI n))]) hx hb dX2_sortSymbols_34 hl (k := 5) rfl (show nI b1 + Int32.ofInt 1 = _ from nI_add b1 1) (by decide) rfl (fun ls hl => ?_)
        refine lv_goto (tgt := 6) hx hb dX2_sortSymbols_37 (by decide) ?_
        exact ih (b1 + 1) (upd p2 b1 (nI (zoff ℓ n b1))) (by omega) (by omega) (fun k h1 h2 => if e : k = b1 then (by subst e; exact pk_us) else (by rw [pk_un e]; exact hp2 k h1 (by omega))) (by omega) _ _ hP hD hS _ (lv_sub hl [2, 3, 4, 5, 1, 0] rfl)
  exact cut6 (16 - 1 + 1) 1 p1 (by omega) (by omega) (fun k h1 h2 => by omega) (by omega) _ _ hP hD hS _ (lv_sub hl [2, 3, 4, 5, 1, 0] rfl)

abbrev rm_X2_learn : Room := { frames := 1, cells := 0, slots := 0, locals := 26 }
abbrev wo_X2_learn (dC : Nat → ClassId) (dI : Nat → Nat → Nat) (cB cI cJ cM : ClassId) (h0 co pl sy lp ns nl : Nat) (ℓ : Nat → Nat) (lf : Nat → Int32) (fr n : Nat) (c0 p0 s0 : Nat → Int32) : va_W := [(h0, .inr (2, [.ref co, .ref pl, .ref sy])), (co, .inl (cI, 16, .inl c0)), (pl, .inl (cI, 16, .inl p0)), (sy, .inl (cI, ns, .inl s0)), (lp, .inl (cI, nl, .inl lf))]
abbrev q_X2_learn (dC : Nat → ClassId) (dI : Nat → Nat → Nat) (cB cI cJ cM : ClassId) (h0 co pl sy lp ns nl : Nat) (ℓ : Nat → Nat) (lf : Nat → Int32) (fr n : Nat) (c0 p0 s0 : Nat → Int32) (A : Nat → Prop) : Array Value → State → Outcome → State → Prop := va_Qv (fun (u : (Nat → Int32) × (Nat → Int32) × (Nat → Int32)) => zCS ℓ n u.1 u.2.2) (zB dC dI cB cI cJ cM A (fun u : (Nat → Int32) × (Nat → Int32) × (Nat → Int32) => [(h0, .inr (2, [.ref co, .ref pl, .ref sy])), (co, .inl (cI, 16, .inl u.1)), (pl, .inl (cI, 16, .inl u.2.1)), (sy, .inl (cI, ns, .inl u.2.2)), (lp, .inl (cI, nl, .inl lf))])) A
set_option maxHeartbeats 8000000 in
set_option maxRecDepth 100000 in
/-- learn -/
theorem k_X2_learn (l : Launch) (dC : Nat → ClassId) (dI : Nat → Nat → Nat) (cB cI cJ cM : ClassId) (h0 co pl sy lp ns nl : Nat) (ℓ : Nat → Nat) (lf : Nat → Int32) (fr n : Nat) (c0 p0 s0 : Nat → Int32) (hlf : ∀ i, i < n → lf (fr + i) = nI (ℓ i) ∧ ℓ i ≤ 15) (hnl : fr + n ≤ nl) (hns : n ≤ ns) (hz1 : nl < 100000) (hz2 : ns < 100000) (sz : Nat) : Met l yX2_learn wsX2_learn rm_X2_learn (va_Pc [.ref h0, .ref lp, .int (nI fr), .int (nI n)] (fun U => U.heap.size = sz ∧ va_P (dC, dI) vwCl (wo_X2_learn dC dI cB cI cJ cM h0 co pl sy lp ns nl ℓ lf fr n c0 p0 s0) U.heap ∧ va_K (dC, dI) vwCl (zT cB cI cJ cM) U ∧ va_D (fun _ => True) (wo_X2_learn dC dI cB cI cJ cM h0 co pl sy lp ns nl ℓ lf fr n c0 p0 s0))) (q_X2_learn dC dI cB cI cJ cM h0 co pl sy lp ns nl ℓ lf fr n c0 p0 s0 (va_A (wo_X2_learn dC dI cB cI cJ cM h0 co pl sy lp ns nl ℓ lf fr n c0 p0 s0) sz)) 0 0 (va_A (wo_X2_learn dC dI cB cI cJ cM h0 co pl sy lp ns nl ℓ lf fr n c0 p0 s0) sz) := by
  refine Met.ofW (cc := cX2_learn) (maxL := 5) (ret := none) (by decide) rfl ?_
  intro p e s m args below meth c s₁ B hml hv
  obtain ⟨rfl, hsz, hP, hK, hD0⟩ := hv
  have hx := B.exec
  have hb := B.bytes
  have hr := B.returns
  have hts := atoms_spec (ws := wsX2_learn) B.pre
  have hown : s.vm.findClass RX2 = some m.cls := findClass_of_methodNamed B.named
  have hlocks := B.notSynchronized
  subst hsz
  have hD := hD0.self (sz := s.heap.size)
  generalize hAe : va_A (wo_X2_learn dC dI cB cI cJ cM h0 co pl sy lp ns nl ℓ lf fr n c0 p0 s0) s.heap.size = A at hD ⊢
  have hA : ∀ q : Nat, s.heap.size ≤ q → A q := fun q h => by rw [← hAe]; exact Or.inr h
  have hS : va_S A s.heap s.heap [] := va_S.rf
  have hP : va_P (dC, dI) vwCl [(h0, .inr (2, [.ref co, .ref pl, .ref sy])), (co, .inl (cI, 16, .inl c0)), (pl, .inl (cI, 16, .inl p0)), (sy, .inl (cI, ns, .inl s0)), (lp, .inl (cI, nl, .inl lf))] s.heap := hP
  have hD : va_D A [(h0, .inr (2, [.ref co, .ref pl, .ref sy])), (co, .inl (cI, 16, .inl c0)), (pl, .inl (cI, 16, .inl p0)), (sy, .inl (cI, ns, .inl s0)), (lp, .inl (cI, nl, .inl lf))] := hD
  have hl := lv_entry ([.ref h0, .ref lp, .int (nI fr), .int (nI n)]) (n := 5) (Nat.le_of_ble_eq_true rfl)
  rw [lg_entry_eq]
  generalize (lg_sl ([.ref h0, .ref lp, .int (nI fr), .int (nI n)]) ++ List.replicate (5 - (lg_sl ([.ref h0, .ref lp, .int (nI fr), .int (nI n)])).length) Slot.unset).toArray = ls at hl ⊢
  have hl : lv_has ls 5 [(0, .ref h0), (1, .ref lp), (2, .int (nI fr)), (3, .int (nI n))] := hl
  refine lv_iconst (v := 0) hx hb dX2_learn_0 (by decide) ?_
  refine lv_istore (lv' := [(4, .int 0), (0, .ref h0), (1, .ref lp), (2, .int (nI fr)), (3, .int (nI n))]) hx hb dX2_learn_1 hl (by decide) rfl (fun ls hl => ?_)
  have cut3 : ∀ (fuel : Nat) (i : Nat) (c2 : Nat → Int32), (i ≤ 16) → (∀ k, k < i → c2 k = 0) → (16 - i < fuel) → ∀ (H : Heap) (locs : List Loc), va_P (dC, dI) vwCl [(h0, .inr (2, [.ref co, .ref pl, .ref sy])), (co, .inl (cI, 16, .inl c2)), (pl, .inl (cI, 16, .inl p0)), (sy, .inl (cI, ns, .inl s0)), (lp, .inl (cI, nl, .inl lf))] H → va_D A [(h0, .inr (2, [.ref co, .ref pl, .ref sy])), (co, .inl (cI, 16, .inl c2)), (pl, .inl (cI, 16, .inl p0)), (sy, .inl (cI, ns, .inl s0)), (lp, .inl (cI, nl, .inl lf))] → va_S A s.heap H locs → ∀ (ls : Array Slot), lv_has ls 5 [(0, .ref h0), (1, .ref lp), (2, .int (nI fr)), (3, .int (nI n)), (4, .int (nI i))] → W p l e (headSpec wsX2_learn rm_X2_learn).room s m ([.ref h0, .ref lp, .int (nI fr), .int (nI n)] : List Value).toArray below meth c H locs 0 0 (MQ below (q_X2_learn dC dI cB cI cJ cM h0 co pl sy lp ns nl ℓ lf fr n c0 p0 s0 A) ([.ref h0, .ref lp, .int (nI fr), .int (nI n)] : List Value).toArray s 0 0 A) (F0 m 3 ls []) := by
    intro fuel
    induction fuel with
    | zero => intros; omega
    | succ fuel ih =>
      intro i c2 hi hc2 hfuel H locs hP hD hS ls hl
      refine lv_iload hx hb dX2_learn_3 (lv_at hl 4 rfl) ?_
      refine lv_bipush (v := 15) hx hb dX2_learn_5 (by decide) ?_
      refine lv_icmp_gt (tgt := 24) hx hb dX2_learn_7 (by decide) (fun c7 => ?_) (fun c7 => ?_)
      · have c7 : 15 < i := (nI_ltI (a := 15) (b := i) (by omega) (by omega)).mp c7
        refine lv_iconst (v := 0) hx hb dX2_learn_24 (by decide) ?_
        refine lv_istore (lv' := [(4, .int 0), (0, .ref h0), (1, .ref lp), (2, .int (nI fr)), (3, .int (nI n))]) hx hb dX2_learn_25 hl (by decide) rfl (fun ls hl => ?_)
        have cut27 : ∀ (fuel : Nat) (i : Nat) (c3 : Nat → Int32), (i ≤ n) → (∀ k, k < 16 → c3 k = nI (zcnt ℓ i k)) → (n - i < fuel) → ∀ (H : Heap) (locs : List Loc), va_P (dC, dI) vwCl [(h0, .inr (2, [.ref co, .ref pl, .ref sy])), (co, .inl (cI, 16, .inl c3)), (pl, .inl (cI, 16, .inl p0)), (sy, .inl (cI, ns, .inl s0)), (lp, .inl (cI, nl, .inl lf))] H → va_D A [(h0, .inr (2, [.ref co, .ref pl, .ref sy])), (co, .inl (cI, 16, .inl c3)), (pl, .inl (cI, 16, .inl p0)), (sy, .inl (cI, ns, .inl s0)), (lp, .inl (cI, nl, .inl lf))] → va_S A s.heap H locs → ∀ (ls : Array Slot), lv_has ls 5 [(0, .ref h0), (1, .ref lp), (2, .int (nI fr)), (3, .int (nI n)), (4, .int (nI i))] → W p l e (headSpec wsX2_learn rm_X2_learn).room s m ([.ref h0, .ref lp, .int (nI fr), .int (nI n)] : List Value).toArray below meth c H locs 0 0 (MQ below (q_X2_learn dC dI cB cI cJ cM h0 co pl sy lp ns nl ℓ lf fr n c0 p0 s0 A) ([.ref h0, .ref lp, .int (nI fr), .int (nI n)] : List Value).toArray s 0 0 A) (F0 m 27 ls []) := by
          intro fuel
          induction fuel with
          | zero => intros; omega
          | succ fuel ih =>
            intro i c3 hi hc3 hfuel H locs hP hD hS ls hl
            refine lv_iload hx hb dX2_learn_27 (lv_at hl 4 rfl) ?_
            refine lv_iload_n hx hb dX2_learn_29 rfl (lv_at hl 3 rfl) ?_
            refine lv_icmp_ge (tgt := 54) hx hb dX2_learn_30 (by decide) (fun c30 => ?_) (fun c30 => ?_)
            · have c30 : n ≤ i := (nI_leI (a := n) (b := i) (by omega) (by omega)).mp c30
              have hin : i = n := by omega
              rw [hin] at hc3
              refine lv_aload_n hx hb dX2_learn_54 rfl (lv_at hl 0 rfl) ?_
              refine lv_aload_n hx hb dX2_learn_55 rfl (lv_at hl 1 rfl) ?_
              refine lv_iload_n hx hb dX2_learn_56 rfl (lv_at hl 2 rfl) ?_
              refine lv_iload_n hx hb dX2_learn_57 rfl (lv_at hl 3 rfl) ?_
              have hPc := hP.sub (ws' := [(h0, .inr (2, [.ref co, .ref pl, .ref sy])), (co, .inl (cI, 16, .inl c3)), (pl, .inl (cI, 16, .inl p0)), (sy, .inl (cI, ns, .inl s0)), (lp, .inl (cI, nl, .inl lf))]) [0, 1, 2, 3, 4] rfl
              have hDc := hD.sub (ws' := [(h0, .inr (2, [.ref co, .ref pl, .ref sy])), (co, .inl (cI, 16, .inl c3)), (pl, .inl (cI, 16, .inl p0)), (sy, .inl (cI, ns, .inl s0)), (lp, .inl (cI, nl, .inl lf))]) [0, 1, 2, 3, 4] (by decide) rfl
              have hFc := va_free (wc := [(h0, .inr (2, [.ref co, .ref pl, .ref sy])), (co, .inl (cI, 16, .inl c3)), (pl, .inl (cI, 16, .inl p0)), (sy, .inl (cI, ns, .inl s0)), (lp, .inl (cI, nl, .inl lf))]) hD hS hA [0, 1, 2, 3, 4] rfl
              refine va_callv (va_runV (As := [.ref lp, .int (nI fr), .int (nI n)]) (rest := []) ⟨hx, hb, hml, hown, hts⟩ (k_X2_sortSymbols l dC dI cB cI cJ cM h0 co pl sy lp ns nl (ℓ) lf fr n c3 p0 s0 (hlf) (by omega) (by omega) (by omega) (by omega) (hc3) H.size) (cwV 3 hts gX2_learn_X2_sortSymbols rfl rfl rfl (by decide +kernel) ⟨Nat.le_of_ble_eq_true rfl, Nat.le_of_ble_eq_true rfl⟩) ⟨fun a U g mk q => by obtain ⟨q0, q1, qP, qK, qD⟩ := q; exact ⟨q0, q1, qP, va_K.moved (u := U) (U := U.calling g mk a) (Vm.Alike.refl U.vm) qK, qD⟩, va_recv hK hPc (ci := 2) (q0 := 0) rfl rfl, fun U hU hW => ⟨rfl, by rw [hU], by rw [hU]; exact hPc, va_K.moved hW.alike hK, hDc.weaken (fun _ _ _ _ => trivial)⟩⟩ rfl rfl hl.1 rfl (lv_room (Nat.le_of_ble_eq_true rfl)) dX2_learn_58 ⟨(show 0 + 0 ≤ 0 by omega), (show 0 + 0 ≤ 0 by omega)⟩) hS (fun q _ h => hFc q h) hFc (fun u t H1 locs ht hvm hw hB hz1 hk1 hS => ?_)
              obtain ⟨p9, s9⟩ := u
              have hP1 : va_P (dC, dI) vwCl [(h0, .inr (2, [.ref co, .ref pl, .ref sy])), (co, .inl (cI, 16, .inl c3)), (pl, .inl (cI, 16, .inl p9)), (sy, .inl (cI, ns, .inl s9)), (lp, .inl (cI, nl, .inl lf))] H1 := by rw [← ht]; exact hB.1
              have hD1 : va_D (va_A [(h0, .inr (2, [.ref co, .ref pl, .ref sy])), (co, .inl (cI, 16, .inl c3)), (pl, .inl (cI, 16, .inl p0)), (sy, .inl (cI, ns, .inl s0)), (lp, .inl (cI, nl, .inl lf))] H.size) [(h0, .inr (2, [.ref co, .ref pl, .ref sy])), (co, .inl (cI, 16, .inl c3)), (pl, .inl (cI, 16, .inl p9)), (sy, .inl (cI, ns, .inl s9)), (lp, .inl (cI, nl, .inl lf))] := hB.2.2
              obtain ⟨hP, hD⟩ := va_join (wr := []) (w1 := [(h0, .inr (2, [.ref co, .ref pl, .ref sy])), (co, .inl (cI, 16, .inl c3)), (pl, .inl (cI, 16, .inl p9)), (sy, .inl (cI, ns, .inl s9)), (lp, .inl (cI, nl, .inl lf))]) hP hD [0, 1, 2, 3, 4] [] rfl rfl (by decide) (by decide) hk1 hFc hP1 hD1
              generalize H1 = H at hP hS ⊢
              try dsimp only at hw
              have hP : va_P (dC, dI) vwCl [(h0, .inr (2, [.ref co, .ref pl, .ref sy])), (co, .inl (cI, 16, .inl c3)), (pl, .inl (cI, 16, .inl p9)), (sy, .inl (cI, ns, .inl s9)), (lp, .inl (cI, nl, .inl lf))] H := hP
              have hD : va_D A [(h0, .inr (2, [.ref co, .ref pl, .ref sy])), (co, .inl (cI, 16, .inl c3)), (pl, .inl (cI, 16, .inl p9)), (sy, .inl (cI, ns, .inl s9)), (lp, .inl (cI, nl, .inl lf))] := hD
              refine W.eq (g2 := F0 m 61 ls []) rfl ?_
              have hP9 := hP.sub (ws' := [(h0, .inr (2, [.ref co, .ref pl, .ref sy])), (co, .inl (cI, 16, .inl c3)), (pl, .inl (cI, 16, .inl p9)), (sy, .inl (cI, ns, .inl s9)), (lp, .inl (cI, nl, .inl lf))]) [0, 1, 2, 3, 4] rfl
              have hD9 := hD.sub (ws' := [(h0, .inr (2, [.ref co, .ref pl, .ref sy])), (co, .inl (cI, 16, .inl c3)), (pl, .inl (cI, 16, .inl p9)), (sy, .inl (cI, ns, .inl s9)), (lp, .inl (cI, nl, .inl lf))]) [0, 1, 2, 3, 4] (by decide) rfl
              exact W.vret hx hb hr (fun t ht hW => ⟨⟨(c3, p9, s9), rfl, ⟨hc3, hw⟩, ⟨by rw [ht]; exact hP9, va_K.moved hW.alike hK, hD9⟩⟩, hS.F ht⟩) hS.2.2 dX2_learn_61
            · have c30 : ¬ (n ≤ i) := fun h => c30 ((nI_leI (a := n) (b := i) (by omega) (by omega)).mpr h)
              refine lv_aload_n hx hb dX2_learn_33 rfl (lv_at hl 0 rfl) ?_
              refine va_get (D := (dC, dI)) (ci := 2) (v := .ref co) (C := RX2) (T := TX2) (N := 3) hx hb hts (by decide +kernel) hown hK hP 0 rfl rfl 0 (by decide) (hts (.fieldLink RX2 9 "FixedPress$CodeSet" "codesOf" "[I") (by decide +kernel)) (fun _ h9 => h9) rfl dX2_learn_34 ?_
              refine lv_aload_n hx hb dX2_learn_37 rfl (lv_at hl 1 rfl) ?_
              refine lv_iload_n hx hb dX2_learn_38 rfl (lv_at hl 2 rfl) ?_
              refine lv_iload hx hb dX2_learn_39 (lv_at hl 4 rfl) ?_
              refine lv_iadd hx hb dX2_learn_41 ?_
              refine lv_topi (fun y_1 ey_1 => ?_)
              obtain rfl : y_1 = nI (fr + i) := ey_1.trans (nI_add fr i)
              refine va_iald hx hb hK hP 4 1 rfl rfl (vp_in_nI (n := fr + i) (by omega) (by omega)) dX2_learn_42 ?_
              rw [nI_clamp (n := fr + i) (by omega)]
              obtain ⟨hlv, hl15⟩ := hlf i (by omega)
              refine lv_topi (fun y_2 ey_2 => ?_)
              obtain rfl : y_2 = nI (ℓ i) := ey_2.trans (hlv)
              refine lv_dup2_11 hx hb dX2_learn_43 rfl rfl ?_
              refine va_iald hx hb hK hP 1 1 rfl rfl (vp_in_nI (n := ℓ i) (by omega) (by omega)) dX2_learn_44 ?_
              rw [nI_clamp (n := ℓ i) (by omega)]
              refine lv_topi (fun y_3 ey_3 => ?_)
              obtain rfl : y_3 = nI (zcnt ℓ i (ℓ i)) := ey_3.trans (hc3 _ (by omega))
              have hcl := zcnt_le ℓ (ℓ i) i
              refine lv_iconst (v := 1) hx hb dX2_learn_45 (by decide) ?_
              refine lv_iadd hx hb dX2_learn_46 ?_
              refine lv_topi (fun y_4 ey_4 => ?_)
              obtain rfl : y_4 = nI ((zcnt ℓ i (ℓ i)) + 1) := ey_4.trans (nI_add (zcnt ℓ i (ℓ i)) 1)
              refine va_iast hx hb hK hP hD hS 1 1 rfl rfl (vp_in_nI (n := ℓ i) (by omega) (by omega)) dX2_learn_47 (fun H locs hP hD hS => ?_)
              rw [nI_clamp (n := ℓ i) (by omega)] at hP hD
              have hP : va_P (dC, dI) vwCl [(h0, .inr (2, [.ref co, .ref pl, .ref sy])), (co, .inl (cI, 16, .inl (upd c3 (ℓ i) (nI ((zcnt ℓ i (ℓ i)) + 1))))), (pl, .inl (cI, 16, .inl p0)), (sy, .inl (cI, ns, .inl s0)), (lp, .inl (cI, nl, .inl lf))] H := hP
              have hD : va_D A [(h0, .inr (2, [.ref co, .ref pl, .ref sy])), (co, .inl (cI, 16, .inl (upd c3 (ℓ i) (nI ((zcnt ℓ i (ℓ i)) + 1))))), (pl, .inl (cI, 16, .inl p0)), (sy, .inl (cI, ns, .inl s0)), (lp, .inl (cI, nl, .inl lf))] := hD
              refine lv_iinc (v := nI (i + 1)) (lv' := [(4, .int (nI (i + 1))), (0, .ref h0), (1, .ref lp), (2, .int (nI fr)), (3, .int (nI n))]) hx hb dX2_learn_48 hl (k := 4) rfl (show nI i + Int32.ofInt 1 = _ from nI_add i 1) (by decide) rfl (fun ls hl => ?_)
              refine lv_goto (tgt := 27) hx hb dX2_learn_51 (by decide) ?_
              exact ih (i + 1) (upd c3 (ℓ i) (nI ((zcnt ℓ i (ℓ i)) + 1))) (by omega) (z_cntup hc3 hl15) (by omega) _ _ hP hD hS _ (lv_sub hl [1, 2, 3, 4, 0] rfl)
        exact cut27 (n - 0 + 1) 0 c2 (by omega) (fun k h => hc2 k (by omega)) (by omega) _ _ hP hD hS _ (lv_sub hl [1, 2, 3, 4, 0] rfl)
      · have c7 : ¬ (15 < i) := fun h => c7 ((nI_ltI (a := 15) (b := i) (by omega) (by omega)).mpr h)
        refine lv_aload_n hx hb dX2_learn_10 rfl (lv_at hl 0 rfl) ?_
        refine va_get (D := (dC, dI)) (ci := 2) (v := .ref co) (C := RX2) (T := TX2) (N := 3) hx hb hts (by decide +kernel) hown hK hP 0 rfl rfl 0 (by decide) (hts (.fieldLink RX2 9 "FixedPress$CodeSet" "codesOf" "[I") (by decide +kernel)) (fun _ h9 => h9) rfl dX2_learn_11 ?_
        refine lv_iload hx hb dX2_learn_14 (lv_at hl 4 rfl) ?_
        refine lv_iconst (v := 0) hx hb dX2_learn_16 (by decide) ?_
        refine va_iast hx hb hK hP hD hS 1 1 rfl rfl (vp_in_nI (n := i) (by omega) (by omega)) dX2_learn_17 (fun H locs hP hD hS => ?_)
        rw [nI_clamp (n := i) (by omega)] at hP hD
        have hP : va_P (dC, dI) vwCl [(h0, .inr (2, [.ref co, .ref pl, .ref sy])), (co, .inl (cI, 16, .inl (upd c2 i 0))), (pl, .inl (cI, 16, .inl p0)), (sy, .inl (cI, ns, .inl s0)), (lp, .inl (cI, nl, .inl lf))] H := hP
        have hD : va_D A [(h0, .inr (2, [.ref co, .ref pl, .ref sy])), (co, .inl (cI, 16, .inl (upd c2 i 0))), (pl, .inl (cI, 16, .inl p0)), (sy, .inl (cI, ns, .inl s0)), (lp, .inl (cI, nl, .inl lf))] := hD
        refine lv_iinc (v := nI (i + 1)) (lv' := [(4, .int (nI (i + 1))), (0, .ref h0), (1, .ref lp), (2, .int (nI fr)), (3, .int (nI n))]) hx hb dX2_learn_18 hl (k := 4) rfl (show nI i + Int32.ofInt 1 = _ from nI_add i 1) (by decide) rfl (fun ls hl => ?_)
        refine lv_goto (tgt := 3) hx hb dX2_learn_21 (by decide) ?_
        exact ih (i + 1) (upd c2 i 0) (by omega) (fun k h => if e : k = i then (by subst e; exact pk_us) else (by rw [pk_un e]; exact hc2 k (by omega))) (by omega) _ _ hP hD hS _ (lv_sub hl [1, 2, 3, 4, 0] rfl)
  exact cut3 (16 - 0 + 1) 0 c0 (by omega) (fun k h => absurd h (Nat.not_lt_zero _)) (by omega) _ _ hP hD hS _ (lv_sub hl [1, 2, 3, 4, 0] rfl)

abbrev rm_X2_isAllowed : Room := { frames := 0, cells := 0, slots := 0, locals := 0 }
abbrev wo_X2_isAllowed (dC : Nat → ClassId) (dI : Nat → Nat → Nat) (cB cI cJ cM : ClassId) (h0 co pl sy : Nat) (ℓ : Nat → Nat) (n : Nat) (c1 : Nat → Int32) : va_W := [(h0, .inr (2, [.ref co, .ref pl, .ref sy])), (co, .inl (cI, 16, .inl c1))]
abbrev q_X2_isAllowed (dC : Nat → ClassId) (dI : Nat → Nat → Nat) (cB cI cJ cM : ClassId) (h0 co pl sy : Nat) (ℓ : Nat → Nat) (n : Nat) (c1 : Nat → Int32) (A : Nat → Prop) : Array Value → State → Outcome → State → Prop := va_Qi (fun (r : Int32) (u : Unit) => (r = 1 ∧ zallow ℓ n) ∨ (r = 0 ∧ ¬ zallow ℓ n)) (zB dC dI cB cI cJ cM A (fun u : Unit => [(h0, .inr (2, [.ref co, .ref pl, .ref sy])), (co, .inl (cI, 16, .inl c1))])) A
set_option maxHeartbeats 8000000 in
set_option maxRecDepth 100000 in
/-- isAllowed -/
theorem k_X2_isAllowed (l : Launch) (dC : Nat → ClassId) (dI : Nat → Nat → Nat) (cB cI cJ cM : ClassId) (h0 co pl sy : Nat) (ℓ : Nat → Nat) (n : Nat) (c1 : Nat → Int32) (hc1 : ∀ k, k < 16 → c1 k = nI (zcnt ℓ n k)) (hn : n < 100000) (sz : Nat) : Met l yX2_isAllowed wsX2_isAllowed rm_X2_isAllowed (va_Pc [.ref h0] (fun U => U.heap.size = sz ∧ va_P (dC, dI) vwCl (wo_X2_isAllowed dC dI cB cI cJ cM h0 co pl sy ℓ n c1) U.heap ∧ va_K (dC, dI) vwCl (zT cB cI cJ cM) U ∧ va_D (fun _ => True) (wo_X2_isAllowed dC dI cB cI cJ cM h0 co pl sy ℓ n c1))) (q_X2_isAllowed dC dI cB cI cJ cM h0 co pl sy ℓ n c1 (va_A (wo_X2_isAllowed dC dI cB cI cJ cM h0 co pl sy ℓ n c1) sz)) 0 0 (va_A (wo_X2_isAllowed dC dI cB cI cJ cM h0 co pl sy ℓ n c1) sz) := by
  refine Met.ofW (cc := cX2_isAllowed) (maxL := 4) (ret := (some .boolean)) (by decide) rfl ?_
  intro p e s m args below meth c s₁ B hml hv
  obtain ⟨rfl, hsz, hP, hK, hD0⟩ := hv
  have hx := B.exec
  have hb := B.bytes
  have hr := B.returns
  have hts := atoms_spec (ws := wsX2_isAllowed) B.pre
  have hown : s.vm.findClass RX2 = some m.cls := findClass_of_methodNamed B.named
  have hlocks := B.notSynchronized
  subst hsz
  have hD := hD0.self (sz := s.heap.size)
  generalize hAe : va_A (wo_X2_isAllowed dC dI cB cI cJ cM h0 co pl sy ℓ n c1) s.heap.size = A at hD ⊢
  have hA : ∀ q : Nat, s.heap.size ≤ q → A q := fun q h => by rw [← hAe]; exact Or.inr h
  have hS : va_S A s.heap s.heap [] := va_S.rf
  have hP : va_P (dC, dI) vwCl [(h0, .inr (2, [.ref co, .ref pl, .ref sy])), (co, .inl (cI, 16, .inl c1))] s.heap := hP
  have hD : va_D A [(h0, .inr (2, [.ref co, .ref pl, .ref sy])), (co, .inl (cI, 16, .inl c1))] := hD
  have hl := lv_entry ([.ref h0]) (n := 4) (Nat.le_of_ble_eq_true rfl)
  rw [lg_entry_eq]
  generalize (lg_sl ([.ref h0]) ++ List.replicate (4 - (lg_sl ([.ref h0])).length) Slot.unset).toArray = ls at hl ⊢
  have hl : lv_has ls 4 [(0, .ref h0)] := hl
  refine lv_iconst (v := 1) hx hb dX2_isAllowed_0 (by decide) ?_
  refine lv_istore_n (lv' := [(1, .int 1), (0, .ref h0)]) hx hb dX2_isAllowed_1 rfl hl (by decide) rfl (fun ls hl => ?_)
  refine lv_iconst (v := 0) hx hb dX2_isAllowed_2 (by decide) ?_
  refine lv_istore_n (lv' := [(2, .int 0), (1, .int 1), (0, .ref h0)]) hx hb dX2_isAllowed_3 rfl hl (by decide) rfl (fun ls hl => ?_)
  refine lv_iconst (v := 1) hx hb dX2_isAllowed_4 (by decide) ?_
  refine lv_istore_n (lv' := [(3, .int 1), (2, .int 0), (1, .int 1), (0, .ref h0)]) hx hb dX2_isAllowed_5 rfl hl (by decide) rfl (fun ls hl => ?_)
  have cut6 : ∀ (fuel : Nat) (k : Nat) (fe : Nat), (k ≤ 15) → (zfree (zcnt ℓ n) k = some fe) → (fe ≤ 2 ^ k) → (15 - k < fuel) → ∀ (H : Heap) (locs : List Loc), va_P (dC, dI) vwCl [(h0, .inr (2, [.ref co, .ref pl, .ref sy])), (co, .inl (cI, 16, .inl c1))] H → va_D A [(h0, .inr (2, [.ref co, .ref pl, .ref sy])), (co, .inl (cI, 16, .inl c1))] → va_S A s.heap H locs → ∀ (ls : Array Slot), lv_has ls 4 [(0, .ref h0), (1, .int (nI fe)), (2, .int (nI (zoff ℓ n (k + 1)))), (3, .int (nI (k + 1)))] → W p l e (headSpec wsX2_isAllowed rm_X2_isAllowed).room s m ([.ref h0] : List Value).toArray below meth c H locs 0 0 (MQ below (q_X2_isAllowed dC dI cB cI cJ cM h0 co pl sy ℓ n c1 A) ([.ref h0] : List Value).toArray s 0 0 A) (F0 m 6 ls []) := by
    intro fuel
    induction fuel with
    | zero => intros; omega
    | succ fuel ih =>
      intro k fe hk hfe hfb hfuel H locs hP hD hS ls hl
      have hp15 := z_p2 hk
      have hol := zoff_le ℓ 16 n
      have hom := zoff_mono' ℓ n (show k + 1 ≤ 16 by omega)
      refine lv_iload_n hx hb dX2_isAllowed_6 rfl (lv_at hl 3 rfl) ?_
      refine lv_bipush (v := 15) hx hb dX2_isAllowed_7 (by decide) ?_
      refine lv_icmp_gt (tgt := 44) hx hb dX2_isAllowed_9 (by decide) (fun c9 => ?_) (fun c9 => ?_)
      · have c9 : 15 < (k + 1) := (nI_ltI (a := 15) (b := (k + 1)) (by omega) (by omega)).mp c9
        have hk15 : k = 15 := by omega
        have h16 : zoff ℓ n (k + 1) = zoff ℓ n 16 := by rw [hk15]
        rw [hk15] at hfe
        refine lv_iload_n hx hb dX2_isAllowed_44 rfl (lv_at hl 1 rfl) ?_
        refine lv_if_eq (tgt := 53) hx hb dX2_isAllowed_45 (by decide) (fun c45 => ?_) (fun c45 => ?_)
        · have c45 : fe = 0 := (nI_eq (a := fe) (b := 0) (by omega) (by omega)).mp c45
          refine lv_iconst (v := 1) hx hb dX2_isAllowed_53 (by decide) ?_
          refine lv_goto (tgt := 58) hx hb dX2_isAllowed_54 (by decide) ?_
          have hP9 := hP.sub (ws' := [(h0, .inr (2, [.ref co, .ref pl, .ref sy])), (co, .inl (cI, 16, .inl c1))]) [0, 1] rfl
          have hD9 := hD.sub (ws' := [(h0, .inr (2, [.ref co, .ref pl, .ref sy])), (co, .inl (cI, 16, .inl c1))]) [0, 1] (by decide) rfl
          exact W.zret (v := 1) hx hb hr (by decide) (fun t ht hW => ⟨⟨1, (), rfl, Or.inl ⟨rfl, fe, hfe, by omega⟩, ⟨by rw [ht]; exact hP9, va_K.moved hW.alike hK, hD9⟩⟩, hS.F ht⟩) hS.2.2 dX2_isAllowed_58
        · have c45 : ¬ (fe = 0) := fun h => c45 ((nI_eq (a := fe) (b := 0) (by omega) (by omega)).mpr h)
          refine lv_iload_n hx hb dX2_isAllowed_48 rfl (lv_at hl 2 rfl) ?_
          refine lv_iconst (v := 1) hx hb dX2_isAllowed_49 (by decide) ?_
          refine lv_icmp_gt (tgt := 57) hx hb dX2_isAllowed_50 (by decide) (fun c50 => ?_) (fun c50 => ?_)
          · have c50 : 1 < (zoff ℓ n (k + 1)) := (nI_ltI (a := 1) (b := (zoff ℓ n (k + 1))) (by omega) (by omega)).mp c50
            refine lv_iconst (v := 0) hx hb dX2_isAllowed_57 (by decide) ?_
            have hP9 := hP.sub (ws' := [(h0, .inr (2, [.ref co, .ref pl, .ref sy])), (co, .inl (cI, 16, .inl c1))]) [0, 1] rfl
            have hD9 := hD.sub (ws' := [(h0, .inr (2, [.ref co, .ref pl, .ref sy])), (co, .inl (cI, 16, .inl c1))]) [0, 1] (by decide) rfl
            exact W.zret (v := 0) hx hb hr (by decide) (fun t ht hW => ⟨⟨0, (), rfl, Or.inr ⟨rfl, by rintro ⟨f2, h1, h2⟩; rw [hfe] at h1; cases h1; omega⟩, ⟨by rw [ht]; exact hP9, va_K.moved hW.alike hK, hD9⟩⟩, hS.F ht⟩) hS.2.2 dX2_isAllowed_58
          · have c50 : ¬ (1 < (zoff ℓ n (k + 1))) := fun h => c50 ((nI_ltI (a := 1) (b := (zoff ℓ n (k + 1))) (by omega) (by omega)).mpr h)
            refine lv_iconst (v := 1) hx hb dX2_isAllowed_53 (by decide) ?_
            refine lv_goto (tgt := 58) hx hb dX2_isAllowed_54 (by decide) ?_
            have hP9 := hP.sub (ws' := [(h0, .inr (2, [.ref co, .ref pl, .ref sy])), (co, .inl (cI, 16, .inl c1))]) [0, 1] rfl
            have hD9 := hD.sub (ws' := [(h0, .inr (2, [.ref co, .ref pl, .ref sy])), (co, .inl (cI, 16, .inl c1))]) [0, 1] (by decide) rfl
            exact W.zret (v := 1) hx hb hr (by decide) (fun t ht hW => ⟨⟨1, (), rfl, Or.inl ⟨rfl, fe, hfe, by omega⟩, ⟨by rw [ht]; exact hP9, va_K.moved hW.alike hK, hD9⟩⟩, hS.F ht⟩) hS.2.2 dX2_isAllowed_58
      · have c9 : ¬ (15 < (k + 1)) := fun h => c9 ((nI_ltI (a := 15) (b := (k + 1)) (by omega) (by omega)).mpr h)
        refine lv_iload_n hx hb dX2_isAllowed_12 rfl (lv_at hl 1 rfl) ?_
        refine lv_iconst (v := 2) hx hb dX2_isAllowed_13 (by decide) ?_
        refine lv_imul hx hb dX2_isAllowed_14 ?_
        refine lv_topi (fun y_1 ey_1 => ?_)
        obtain rfl : y_1 = nI (2 * fe) := ey_1.trans ((pk_mul _ _).trans (congrArg nI (Nat.mul_comm _ _)))
        refine lv_aload_n hx hb dX2_isAllowed_15 rfl (lv_at hl 0 rfl) ?_
        refine va_get (D := (dC, dI)) (ci := 2) (v := .ref co) (C := RX2) (T := TX2) (N := 3) hx hb hts (by decide +kernel) hown hK hP 0 rfl rfl 0 (by decide) (hts (.fieldLink RX2 9 "FixedPress$CodeSet" "codesOf" "[I") (by decide +kernel)) (fun _ h9 => h9) rfl dX2_isAllowed_16 ?_
        refine lv_iload_n hx hb dX2_isAllowed_19 rfl (lv_at hl 3 rfl) ?_
        refine va_iald hx hb hK hP 1 1 rfl rfl (vp_in_nI (n := k + 1) (by omega) (by omega)) dX2_isAllowed_20 ?_
        rw [nI_clamp (n := k + 1) (by omega)]
        refine lv_topi (fun y_2 ey_2 => ?_)
        obtain rfl : y_2 = nI (zcnt ℓ n (k + 1)) := ey_2.trans (hc1 _ (by omega))
        have hcl := zcnt_le ℓ (k + 1) n
        refine lv_isub hx hb dX2_isAllowed_21 ?_
        refine lv_istore_n (lv' := [(1, .int ((nI (2 * fe)) - (nI (zcnt ℓ n (k + 1))))), (0, .ref h0), (2, .int (nI (zoff ℓ n (k + 1)))), (3, .int (nI (k + 1)))]) hx hb dX2_isAllowed_22 rfl hl (by decide) rfl (fun ls hl => ?_)
        refine lv_iload_n hx hb dX2_isAllowed_23 rfl (lv_at hl 2 rfl) ?_
        refine lv_aload_n hx hb dX2_isAllowed_24 rfl (lv_at hl 1 rfl) ?_
        refine va_get (D := (dC, dI)) (ci := 2) (v := .ref co) (C := RX2) (T := TX2) (N := 3) hx hb hts (by decide +kernel) hown hK hP 0 rfl rfl 0 (by decide) (hts (.fieldLink RX2 9 "FixedPress$CodeSet" "codesOf" "[I") (by decide +kernel)) (fun _ h9 => h9) rfl dX2_isAllowed_25 ?_
        refine lv_iload_n hx hb dX2_isAllowed_28 rfl (lv_at hl 3 rfl) ?_
        refine va_iald hx hb hK hP 1 1 rfl rfl (vp_in_nI (n := k + 1) (by omega) (by omega)) dX2_isAllowed_29 ?_
        rw [nI_clamp (n := k + 1) (by omega)]
        refine lv_topi (fun y_3 ey_3 => ?_)
        obtain rfl : y_3 = nI (zcnt ℓ n (k + 1)) := ey_3.trans (hc1 _ (by omega))
        refine lv_iadd hx hb dX2_isAllowed_30 ?_
        refine lv_topi (fun y_4 ey_4 => ?_)
        obtain rfl : y_4 = nI (zoff ℓ n (k + 1 + 1)) := ey_4.trans ((nI_add _ _).trans (congrArg nI (zoff_p ℓ n (by omega)).symm))
        refine lv_istore_n (lv' := [(2, .int (nI (zoff ℓ n (k + 1 + 1)))), (1, .int ((nI (2 * fe)) - (nI (zcnt ℓ n (k + 1))))), (0, .ref h0), (3, .int (nI (k + 1)))]) hx hb dX2_isAllowed_31 rfl hl (by decide) rfl (fun ls hl => ?_)
        refine lv_iload_n hx hb dX2_isAllowed_32 rfl (lv_at hl 1 rfl) ?_
        refine lv_if_ge (tgt := 38) hx hb dX2_isAllowed_33 (by decide) (fun c33 => ?_) (fun c33 => ?_)
        · have hge : zcnt ℓ n (k + 1) ≤ 2 * fe := (Nat.lt_or_ge (2 * fe) (zcnt ℓ n (k + 1))).elim (fun q => absurd c33 (Int32.not_le.mpr (pk_sneg (by omega) q))) (fun q => q)
          rw [pk_sub hge] at hl
          refine lv_iinc (v := nI (k + 1 + 1)) (lv' := [(3, .int (nI (k + 1 + 1))), (2, .int (nI (zoff ℓ n (k + 1 + 1)))), (1, .int (nI (2 * fe - zcnt ℓ n (k + 1)))), (0, .ref h0)]) hx hb dX2_isAllowed_38 hl (k := 3) rfl (show nI (k + 1) + Int32.ofInt 1 = _ from nI_add (k + 1) 1) (by decide) rfl (fun ls hl => ?_)
          refine lv_goto (tgt := 6) hx hb dX2_isAllowed_41 (by decide) ?_
          exact ih (k + 1) (2 * fe - zcnt ℓ n (k + 1)) (by omega) (by rw [zfree_s hfe, if_pos (by omega)]) (by rw [Nat.pow_succ]; omega) (by omega) _ _ hP hD hS _ (lv_sub hl [3, 2, 1, 0] rfl)
        · have hlt : 2 * fe < zcnt ℓ n (k + 1) := (Nat.lt_or_ge (2 * fe) (zcnt ℓ n (k + 1))).elim (fun q => q) (fun q => absurd (by rw [pk_sub q]; exact nI_pos' (by omega)) c33)
          refine lv_iconst (v := 0) hx hb dX2_isAllowed_36 (by decide) ?_
          have hP9 := hP.sub (ws' := [(h0, .inr (2, [.ref co, .ref pl, .ref sy])), (co, .inl (cI, 16, .inl c1))]) [0, 1] rfl
          have hD9 := hD.sub (ws' := [(h0, .inr (2, [.ref co, .ref pl, .ref sy])), (co, .inl (cI, 16, .inl c1))]) [0, 1] (by decide) rfl
          exact W.zret (v := 0) hx hb hr (by decide) (fun t ht hW => ⟨⟨0, (), rfl, Or.inr ⟨rfl, z_no hfe (by omega) hlt⟩, ⟨by rw [ht]; exact hP9, va_K.moved hW.alike hK, hD9⟩⟩, hS.F ht⟩) hS.2.2 dX2_isAllowed_37
  exact cut6 (15 - 0 + 1) 0 1 (by omega) (rfl) (by decide) (by omega) _ _ hP hD hS _ (lv_sub hl [3, 2, 1, 0] rfl)

abbrev rm_X2_readSymbol : Room := { frames := 7, cells := 1, slots := 6, locals := 117 }
abbrev wo_X2_readSymbol (dC : Nat → ClassId) (dI : Nat → Nat → Nat) (cB cI cJ cM : ClassId) (h0 co pl sy rd b n0 ns : Nat) (ℓ : Nat → Nat) (n : Nat) (c1 s1 f : Nat → Int32) (at_ : Nat) (lim : Int32) : va_W := [(h0, .inr (2, [.ref co, .ref pl, .ref sy])), (co, .inl (cI, 16, .inl c1)), (sy, .inl (cI, ns, .inl s1)), (rd, .inr (0, [.ref b, .int (nI at_), .int lim])), (b, .inl (cB, n0, .inl f))]
abbrev q_X2_readSymbol (dC : Nat → ClassId) (dI : Nat → Nat → Nat) (cB cI cJ cM : ClassId) (h0 co pl sy rd b n0 ns : Nat) (ℓ : Nat → Nat) (n : Nat) (c1 s1 f : Nat → Int32) (at_ : Nat) (lim : Int32) (A : Nat → Prop) : Array Value → State → Outcome → State → Prop := va_Qi (fun (r : Int32) (u : Nat × Nat) => zrd ℓ n f at_ lim.toNatClampNeg = some u ∧ r = nI u.1 ∧ u.1 < n ∧ u.2 ≤ lim.toNatClampNeg ∧ at_ < u.2) (zB dC dI cB cI cJ cM A (fun u : Nat × Nat => [(h0, .inr (2, [.ref co, .ref pl, .ref sy])), (co, .inl (cI, 16, .inl c1)), (sy, .inl (cI, ns, .inl s1)), (rd, .inr (0, [.ref b, .int (nI u.2), .int lim])), (b, .inl (cB, n0, .inl f))])) A
abbrev x_X2_readSymbol (dC : Nat → ClassId) (dI : Nat → Nat → Nat) (cB cI cJ cM : ClassId) (h0 co pl sy rd b n0 ns : Nat) (ℓ : Nat → Nat) (n : Nat) (c1 s1 f : Nat → Int32) (at_ : Nat) (lim : Int32) (A : Nat → Prop) : String → State → State → Prop := vx_X (fun (u : String × (Int32)) => (u.1 = "java/lang/UnsupportedOperationException") ∧ (zrd ℓ n f at_ lim.toNatClampNeg = none)) (fun E (u : String × (Int32)) t => E = u.1 ∧ zB dC dI cB cI cJ cM A (fun u : Int32 => [(h0, .inr (2, [.ref co, .ref pl, .ref sy])), (co, .inl (cI, 16, .inl c1)), (sy, .inl (cI, ns, .inl s1)), (rd, .inr (0, [.ref b, .int u, .int lim])), (b, .inl (cB, n0, .inl f))]) u.2 t) A
set_option maxHeartbeats 8000000 in
set_option maxRecDepth 100000 in
/-- readSymbol -/
theorem k_X2_readSymbol (l : Launch) (hl9 : l.stackTraces = false) (dC : Nat → ClassId) (dI : Nat → Nat → Nat) (cB cI cJ cM : ClassId) (h0 co pl sy rd b n0 ns : Nat) (ℓ : Nat → Nat) (n : Nat) (c1 s1 f : Nat → Int32) (at_ : Nat) (lim : Int32) (hcs : zCS ℓ n c1 s1) (hns : n ≤ ns) (hz2 : ns < 100000) (h1 : lim.toNatClampNeg ≤ 8 * n0) (h2 : n0 < 100000) (h3 : at_ ≤ lim.toNatClampNeg) (sz : Nat) : vx_Met l yX2_readSymbol wsX2_readSymbol rm_X2_readSymbol (va_Pc [.ref h0, .ref rd] (fun U => U.heap.size = sz ∧ va_P (dC, dI) vwCl (wo_X2_readSymbol dC dI cB cI cJ cM h0 co pl sy rd b n0 ns ℓ n c1 s1 f at_ lim) U.heap ∧ va_K (dC, dI) vwCl (zT cB cI cJ cM) U ∧ va_D (fun _ => True) (wo_X2_readSymbol dC dI cB cI cJ cM h0 co pl sy rd b n0 ns ℓ n c1 s1 f at_ lim) ∧ zE (va_A (wo_X2_readSymbol dC dI cB cI cJ cM h0 co pl sy rd b n0 ns ℓ n c1 s1 f at_ lim) sz) U)) (q_X2_readSymbol dC dI cB cI cJ cM h0 co pl sy rd b n0 ns ℓ n c1 s1 f at_ lim (va_A (wo_X2_readSymbol dC dI cB cI cJ cM h0 co pl sy rd b n0 ns ℓ n c1 s1 f at_ lim) sz)) (x_X2_readSymbol dC dI cB cI cJ cM h0 co pl sy rd b n0 ns ℓ n c1 s1 f at_ lim (va_A (wo_X2_readSymbol dC dI cB cI cJ cM h0 co pl sy rd b n0 ns ℓ n c1 s1 f at_ lim) sz)) 0 0 1 6 (va_A (wo_X2_readSymbol dC dI cB cI cJ cM h0 co pl sy rd b n0 ns ℓ n c1 s1 f at_ lim) sz) := by
  refine vx_ofW (cc := cX2_readSymbol) (maxL := 7) (ret := (some .int)) (by decide) rfl ?_
  intro p e s m args below meth c s₁ B hml hEx hv
  obtain ⟨rfl, hsz, hP, hK, hD0, hE⟩ := hv
  have hx := B.exec
  have hb := B.bytes
  have hr := B.returns
  have hts := atoms_spec (ws := wsX2_readSymbol) B.pre
  have hown : s.vm.findClass RX2 = some m.cls := findClass_of_methodNamed B.named
  have hlocks := B.notSynchronized
  subst hsz
  have hD := hD0.self (sz := s.heap.size)
  generalize hAe : va_A (wo_X2_readSymbol dC dI cB cI cJ cM h0 co pl sy rd b n0 ns ℓ n c1 s1 f at_ lim) s.heap.size = A at hD hE ⊢
  have hA : ∀ q : Nat, s.heap.size ≤ q → A q := fun q h => by rw [← hAe]; exact Or.inr h
  have hS : va_S A s.heap s.heap [] := va_S.rf
  have hP : va_P (dC, dI) vwCl [(h0, .inr (2, [.ref co, .ref pl, .ref sy])), (co, .inl (cI, 16, .inl c1)), (sy, .inl (cI, ns, .inl s1)), (rd, .inr (0, [.ref b, .int (nI at_), .int lim])), (b, .inl (cB, n0, .inl f))] s.heap := hP
  have hD : va_D A [(h0, .inr (2, [.ref co, .ref pl, .ref sy])), (co, .inl (cI, 16, .inl c1)), (sy, .inl (cI, ns, .inl s1)), (rd, .inr (0, [.ref b, .int (nI at_), .int lim])), (b, .inl (cB, n0, .inl f))] := hD
  have hl := lv_entry ([.ref h0, .ref rd]) (n := 7) (Nat.le_of_ble_eq_true rfl)
  rw [lg_entry_eq]
  generalize (lg_sl ([.ref h0, .ref rd]) ++ List.replicate (7 - (lg_sl ([.ref h0, .ref rd])).length) Slot.unset).toArray = ls at hl ⊢
  have hl : lv_has ls 7 [(0, .ref h0), (1, .ref rd)] := hl
  refine lv_iconst (v := 0) hx hb dX2_readSymbol_0 (by decide) ?_
  refine lv_istore_n (lv' := [(2, .int 0), (0, .ref h0), (1, .ref rd)]) hx hb dX2_readSymbol_1 rfl hl (by decide) rfl (fun ls hl => ?_)
  refine lv_iconst (v := 0) hx hb dX2_readSymbol_2 (by decide) ?_
  refine lv_istore_n (lv' := [(3, .int 0), (2, .int 0), (0, .ref h0), (1, .ref rd)]) hx hb dX2_readSymbol_3 rfl hl (by decide) rfl (fun ls hl => ?_)
  refine lv_iconst (v := 0) hx hb dX2_readSymbol_4 (by decide) ?_
  refine lv_istore (lv' := [(4, .int 0), (3, .int 0), (2, .int 0), (0, .ref h0), (1, .ref rd)]) hx hb dX2_readSymbol_5 hl (by decide) rfl (fun ls hl => ?_)
  refine lv_iconst (v := 1) hx hb dX2_readSymbol_7 (by decide) ?_
  refine lv_istore (lv' := [(5, .int 1), (4, .int 0), (3, .int 0), (2, .int 0), (0, .ref h0), (1, .ref rd)]) hx hb dX2_readSymbol_8 hl (by decide) rfl (fun ls hl => ?_)
  have cut10 : ∀ (fuel : Nat) (k : Nat) (code : Nat) (first : Nat), (k ≤ 15) → (zdec (zcnt ℓ n) f at_ 15 0 0 0 0 = zdec (zcnt ℓ n) f at_ (15 - k) k code first (zoff ℓ n (k + 1))) → (first ≤ code) → (code < 2 ^ k) → (at_ + k ≤ lim.toNatClampNeg) → (15 - k < fuel) → ∀ (H : Heap) (locs : List Loc), va_P (dC, dI) vwCl [(h0, .inr (2, [.ref co, .ref pl, .ref sy])), (co, .inl (cI, 16, .inl c1)), (sy, .inl (cI, ns, .inl s1)), (rd, .inr (0, [.ref b, .int (nI (at_ + k)), .int lim])), (b, .inl (cB, n0, .inl f))] H → va_D A [(h0, .inr (2, [.ref co, .ref pl, .ref sy])), (co, .inl (cI, 16, .inl c1)), (sy, .inl (cI, ns, .inl s1)), (rd, .inr (0, [.ref b, .int (nI (at_ + k)), .int lim])), (b, .inl (cB, n0, .inl f))] → va_S A s.heap H locs → ∀ (ls : Array Slot), lv_has ls 7 [(0, .ref h0), (1, .ref rd), (2, .int (nI code)), (3, .int (nI first)), (4, .int (nI (zoff ℓ n (k + 1)))), (5, .int (nI (k + 1)))] → W p l e (headSpec wsX2_readSymbol rm_X2_readSymbol).room s m ([.ref h0, .ref rd] : List Value).toArray below meth c H locs 0 0 (vx_MQ below (q_X2_readSymbol dC dI cB cI cJ cM h0 co pl sy rd b n0 ns ℓ n c1 s1 f at_ lim A) (x_X2_readSymbol dC dI cB cI cJ cM h0 co pl sy rd b n0 ns ℓ n c1 s1 f at_ lim A) ([.ref h0, .ref rd] : List Value).toArray s 0 0 1 6 A) (F0 m 10 ls []) := by
    intro fuel
    induction fuel with
    | zero => intros; omega
    | succ fuel ih =>
      intro k code first hk hde hfc hcb hat hfuel H locs hP hD hS ls hl
      have hp15 := z_p2 hk
      have hol := zoff_le ℓ 16 n
      have hom := zoff_mono' ℓ n (show k + 1 ≤ 16 by omega)
      refine lv_iload hx hb dX2_readSymbol_10 (lv_at hl 5 rfl) ?_
      refine lv_bipush (v := 15) hx hb dX2_readSymbol_12 (by decide) ?_
      refine lv_icmp_gt (tgt := 77) hx hb dX2_readSymbol_14 (by decide) (fun c14 => ?_) (fun c14 => ?_)
      · have c14 : 15 < (k + 1) := (nI_ltI (a := 15) (b := (k + 1)) (by omega) (by omega)).mp c14
        have hP9 := hP.sub (ws' := [(h0, .inr (2, [.ref co, .ref pl, .ref sy])), (co, .inl (cI, 16, .inl c1)), (sy, .inl (cI, ns, .inl s1)), (rd, .inr (0, [.ref b, .int (nI (at_ + k)), .int lim])), (b, .inl (cB, n0, .inl f))]) [0, 1, 2, 3, 4] rfl
        have hD9 := hD.sub (ws' := [(h0, .inr (2, [.ref co, .ref pl, .ref sy])), (co, .inl (cI, 16, .inl c1)), (sy, .inl (cI, ns, .inl s1)), (rd, .inr (0, [.ref b, .int (nI (at_ + k)), .int lim])), (b, .inl (cB, n0, .inl f))]) [0, 1, 2, 3, 4] (by decide) rfl
        obtain ⟨sa9, hstr9⟩ := zX_X2_31 hE
        exact vx_throwS (own := RX2) (cls := "java/lang/UnsupportedOperationException") (names := ["java/lang/RuntimeException", "java/lang/Exception"]) hx hb hl9 hown (by decide +kernel) (by decide +kernel) (hts (.classLink RX2 29 "java/lang/UnsupportedOperationException") (by decide +kernel)) (hts (.initialized "java/lang/UnsupportedOperationException") (by decide +kernel)) hstr9 (vx_hat (L := vx_atS RX2 33 "java/lang/UnsupportedOperationException" ["java/lang/RuntimeException", "java/lang/Exception"]) (B := zBad "java/lang/UnsupportedOperationException") (fun w hw => hts w ((by decide +kernel : ∀ w ∈ (vx_atS RX2 33 "java/lang/UnsupportedOperationException" ["java/lang/RuntimeException", "java/lang/Exception"]).filter goodWord, w ∈ wsX2_readSymbol) w hw)) (by decide +kernel) (zBad_UnsupportedOperationException hE)) (by decide +kernel) (zE_U hE) (zE_N hE) hS (hl.1.trans hml.symm) dX2_readSymbol_77 dX2_readSymbol_80 dX2_readSymbol_81 dX2_readSymbol_83 dX2_readSymbol_86 (fun x hx => (hEx x hx).elim) (Nat.le_of_ble_eq_true rfl) (Nat.le_of_ble_eq_true rfl) (Nat.le_of_ble_eq_true rfl) (Nat.le_of_ble_eq_true rfl) hlocks (fun t ha hsz hk => ⟨("java/lang/UnsupportedOperationException", nI (at_ + k)), ⟨rfl, zrd_none2 (by rw [hde, show 15 - k = 0 from by omega])⟩, ⟨rfl, hP9.kept (fun k q hq => hk q.1 (hP9 k q hq).lt), va_K.moved ha hK, hD9⟩, Nat.le_trans hS.1 hsz, fun q h1 h2 => (hk q (Nat.lt_of_lt_of_le h1 hS.1)).trans (hS.2.1 q h1 h2)⟩) hS.2.2 (Nat.le_of_ble_eq_true rfl) (Nat.le_of_ble_eq_true rfl)
      · have c14 : ¬ (15 < (k + 1)) := fun h => c14 ((nI_ltI (a := 15) (b := (k + 1)) (by omega) (by omega)).mpr h)
        refine lv_iload_n hx hb dX2_readSymbol_17 rfl (lv_at hl 2 rfl) ?_
        refine lv_iconst (v := 2) hx hb dX2_readSymbol_18 (by decide) ?_
        refine lv_imul hx hb dX2_readSymbol_19 ?_
        refine lv_topi (fun y_1 ey_1 => ?_)
        obtain rfl : y_1 = nI (2 * code) := ey_1.trans ((pk_mul _ _).trans (congrArg nI (Nat.mul_comm _ _)))
        refine lv_aload_n hx hb dX2_readSymbol_20 rfl (lv_at hl 1 rfl) ?_
        have hPc := hP.sub (ws' := [(rd, .inr (0, [.ref b, .int (nI (at_ + k)), .int lim])), (b, .inl (cB, n0, .inl f))]) [3, 4] rfl
        have hDc := hD.sub (ws' := [(rd, .inr (0, [.ref b, .int (nI (at_ + k)), .int lim])), (b, .inl (cB, n0, .inl f))]) [3, 4] (by decide) rfl
        have hFc := va_free (wc := [(rd, .inr (0, [.ref b, .int (nI (at_ + k)), .int lim])), (b, .inl (cB, n0, .inl f))]) hD hS hA [3, 4] rfl
        refine vx_calli (vx_runV (As := []) (rest := [.int (nI (2 * code))]) ⟨hx, hb, hml, hown, hts⟩ (k_X0_readBit l hl9 dC dI cB cI cJ cM rd b n0 f (at_ + k) lim (by omega) (by omega) (by omega) H.size) (cwV 0 hts gX2_readSymbol_X0_readBit rfl rfl rfl (by decide +kernel) ⟨Nat.le_of_ble_eq_true rfl, Nat.le_of_ble_eq_true rfl⟩) ⟨fun a U g mk q => by obtain ⟨q0, q1, qP, qK, qD, qE⟩ := q; exact ⟨q0, q1, qP, va_K.moved (u := U) (U := U.calling g mk a) (Vm.Alike.refl U.vm) qK, qD, zE.blind qE⟩, va_recv hK hPc (ci := 0) (q0 := 0) rfl rfl, fun U hU hW => ⟨rfl, by rw [hU], by rw [hU]; exact hPc, va_K.moved hW.alike hK, hDc.weaken (fun _ _ _ _ => trivial), zE.call hE hS hU hW hFc⟩⟩ rfl rfl hl.1 rfl (lv_room (Nat.le_of_ble_eq_true rfl)) dX2_readSymbol_21 ⟨(show 0 + 1 ≤ 1 by omega), (show 0 + 6 ≤ 6 by omega)⟩) hS (fun q _ h => hFc q h) hFc (fun q _ h => hFc q h) (fun E8 ce9 q9 ux t H1 locs ht hvm hw hB hz1 hk1 hS hce9 hcv9 hcl9 => ?_) (fun r21 u t H1 locs ht hvm hw hB hz1 hk1 hS => ?_)
        · obtain ⟨E9, ux9⟩ := ux
          obtain ⟨hEe, hB9⟩ := hB
          have hB : True ∧ zB dC dI cB cI cJ cM (va_A [(rd, .inr (0, [.ref b, .int (nI (at_ + k)), .int lim])), (b, .inl (cB, n0, .inl f))] H.size) (fun u : Unit => [(rd, .inr (0, [.ref b, .int (nI (at_ + k)), .int lim])), (b, .inl (cB, n0, .inl f))]) ux9 t := ⟨trivial, hB9⟩
          have hP1 : va_P (dC, dI) vwCl [(rd, .inr (0, [.ref b, .int (nI (at_ + k)), .int lim])), (b, .inl (cB, n0, .inl f))] H1 := by rw [← ht]; exact hB.2.1
          have hD1 : va_D (va_A [(rd, .inr (0, [.ref b, .int (nI (at_ + k)), .int lim])), (b, .inl (cB, n0, .inl f))] H.size) [(rd, .inr (0, [.ref b, .int (nI (at_ + k)), .int lim])), (b, .inl (cB, n0, .inl f))] := hB.2.2.2
          obtain ⟨hP, hD⟩ := va_join (wr := [(h0, .inr (2, [.ref co, .ref pl, .ref sy])), (co, .inl (cI, 16, .inl c1)), (sy, .inl (cI, ns, .inl s1))]) (w1 := [(rd, .inr (0, [.ref b, .int (nI (at_ + k)), .int lim])), (b, .inl (cB, n0, .inl f))]) hP hD [3, 4] [0, 1, 2] rfl rfl (by decide) (by decide) hk1 hFc hP1 hD1
          generalize H1 = H at hP hS hce9 ⊢
          try dsimp only at hw hEe
          subst hEe
          have hP : va_P (dC, dI) vwCl [(h0, .inr (2, [.ref co, .ref pl, .ref sy])), (co, .inl (cI, 16, .inl c1)), (sy, .inl (cI, ns, .inl s1)), (rd, .inr (0, [.ref b, .int (nI (at_ + k)), .int lim])), (b, .inl (cB, n0, .inl f))] H := hP
          have hD : va_D A [(h0, .inr (2, [.ref co, .ref pl, .ref sy])), (co, .inl (cI, 16, .inl c1)), (sy, .inl (cI, ns, .inl s1)), (rd, .inr (0, [.ref b, .int (nI (at_ + k)), .int lim])), (b, .inl (cB, n0, .inl f))] := hD
          have hP9 := hP.sub (ws' := [(h0, .inr (2, [.ref co, .ref pl, .ref sy])), (co, .inl (cI, 16, .inl c1)), (sy, .inl (cI, ns, .inl s1)), (rd, .inr (0, [.ref b, .int (nI (at_ + k)), .int lim])), (b, .inl (cB, n0, .inl f))]) [0, 1, 2, 3, 4] rfl
          have hD9 := hD.sub (ws' := [(h0, .inr (2, [.ref co, .ref pl, .ref sy])), (co, .inl (cI, 16, .inl c1)), (sy, .inl (cI, ns, .inl s1)), (rd, .inr (0, [.ref b, .int (nI (at_ + k)), .int lim])), (b, .inl (cB, n0, .inl f))]) [0, 1, 2, 3, 4] (by decide) rfl
          exact vx_out (fun x hx => (hEx x hx).elim) hlocks hce9 hcv9 hcl9 (fun t ht9 ha => ⟨(_, nI (at_ + k)), ⟨hw.1, zrd_none1 hde hw.2⟩, ⟨rfl, by rw [ht9]; exact hP9, va_K.moved ha hK, hD9⟩, hS.F ht9⟩) hS.2.2 (Nat.le_of_ble_eq_true rfl) (Nat.le_of_ble_eq_true rfl)
        have hP1 : va_P (dC, dI) vwCl [(rd, .inr (0, [.ref b, .int (nI ((at_ + k) + 1)), .int lim])), (b, .inl (cB, n0, .inl f))] H1 := by rw [← ht]; exact hB.1
        have hD1 : va_D (va_A [(rd, .inr (0, [.ref b, .int (nI (at_ + k)), .int lim])), (b, .inl (cB, n0, .inl f))] H.size) [(rd, .inr (0, [.ref b, .int (nI ((at_ + k) + 1)), .int lim])), (b, .inl (cB, n0, .inl f))] := hB.2.2
        obtain ⟨hP, hD⟩ := va_join (wr := [(h0, .inr (2, [.ref co, .ref pl, .ref sy])), (co, .inl (cI, 16, .inl c1)), (sy, .inl (cI, ns, .inl s1))]) (w1 := [(rd, .inr (0, [.ref b, .int (nI ((at_ + k) + 1)), .int lim])), (b, .inl (cB, n0, .inl f))]) hP hD [3, 4] [0, 1, 2] rfl rfl (by decide) (by decide) hk1 hFc hP1 hD1
        generalize H1 = H at hP hS ⊢
        try dsimp only at hw
        have hP : va_P (dC, dI) vwCl [(h0, .inr (2, [.ref co, .ref pl, .ref sy])), (co, .inl (cI, 16, .inl c1)), (sy, .inl (cI, ns, .inl s1)), (rd, .inr (0, [.ref b, .int (nI ((at_ + k) + 1)), .int lim])), (b, .inl (cB, n0, .inl f))] H := hP
        have hD : va_D A [(h0, .inr (2, [.ref co, .ref pl, .ref sy])), (co, .inl (cI, 16, .inl c1)), (sy, .inl (cI, ns, .inl s1)), (rd, .inr (0, [.ref b, .int (nI ((at_ + k) + 1)), .int lim])), (b, .inl (cB, n0, .inl f))] := hD
        obtain ⟨hr21, hl21⟩ := hw
        obtain rfl : r21 = nI (zbt f (at_ + k)) := hr21
        have hb2 := zbt_lt f (at_ + k)
        refine W.eq (g2 := F0 m 24 ls [.int (nI (zbt f (at_ + k))), .int (nI (2 * code))]) rfl ?_
        refine lv_iadd hx hb dX2_readSymbol_24 ?_
        refine lv_topi (fun y_2 ey_2 => ?_)
        obtain rfl : y_2 = nI ((2 * code) + (zbt f (at_ + k))) := ey_2.trans (nI_add (2 * code) (zbt f (at_ + k)))
        refine lv_istore_n (lv' := [(2, .int (nI ((2 * code) + (zbt f (at_ + k))))), (0, .ref h0), (1, .ref rd), (3, .int (nI first)), (4, .int (nI (zoff ℓ n (k + 1)))), (5, .int (nI (k + 1)))]) hx hb dX2_readSymbol_25 rfl hl (by decide) rfl (fun ls hl => ?_)
        refine lv_iload_n hx hb dX2_readSymbol_26 rfl (lv_at hl 3 rfl) ?_
        refine lv_iconst (v := 2) hx hb dX2_readSymbol_27 (by decide) ?_
        refine lv_imul hx hb dX2_readSymbol_28 ?_
        refine lv_topi (fun y_3 ey_3 => ?_)
        obtain rfl : y_3 = nI (2 * first) := ey_3.trans ((pk_mul _ _).trans (congrArg nI (Nat.mul_comm _ _)))
        refine lv_istore_n (lv' := [(3, .int (nI (2 * first))), (2, .int (nI ((2 * code) + (zbt f (at_ + k))))), (0, .ref h0), (1, .ref rd), (4, .int (nI (zoff ℓ n (k + 1)))), (5, .int (nI (k + 1)))]) hx hb dX2_readSymbol_29 rfl hl (by decide) rfl (fun ls hl => ?_)
        refine lv_aload_n hx hb dX2_readSymbol_30 rfl (lv_at hl 2 rfl) ?_
        refine va_get (D := (dC, dI)) (ci := 2) (v := .ref co) (C := RX2) (T := TX2) (N := 3) hx hb hts (by decide +kernel) hown hK hP 0 rfl rfl 0 (by decide) (hts (.fieldLink RX2 9 "FixedPress$CodeSet" "codesOf" "[I") (by decide +kernel)) (fun _ h9 => h9) rfl dX2_readSymbol_31 ?_
        refine lv_iload hx hb dX2_readSymbol_34 (lv_at hl 5 rfl) ?_
        refine va_iald hx hb hK hP 1 1 rfl rfl (vp_in_nI (n := k + 1) (by omega) (by omega)) dX2_readSymbol_36 ?_
        rw [nI_clamp (n := k + 1) (by omega)]
        refine lv_topi (fun y_4 ey_4 => ?_)
        obtain rfl : y_4 = nI (zcnt ℓ n (k + 1)) := ey_4.trans (hcs.1 _ (by omega))
        have hcl := zcnt_le ℓ (k + 1) n
        have hop := zoff_p ℓ n (show k + 1 ≠ 0 by omega)
        have hom2 := zoff_mono' ℓ n (show k + 1 + 1 ≤ 16 by omega)
        refine lv_istore (lv' := [(6, .int (nI (zcnt ℓ n (k + 1)))), (3, .int (nI (2 * first))), (2, .int (nI ((2 * code) + (zbt f (at_ + k))))), (0, .ref h0), (1, .ref rd), (4, .int (nI (zoff ℓ n (k + 1)))), (5, .int (nI (k + 1)))]) hx hb dX2_readSymbol_37 hl (by decide) rfl (fun ls hl => ?_)
        refine lv_iload_n hx hb dX2_readSymbol_39 rfl (lv_at hl 2 rfl) ?_
        refine lv_iload_n hx hb dX2_readSymbol_40 rfl (lv_at hl 1 rfl) ?_
        refine lv_isub hx hb dX2_readSymbol_41 ?_
        refine lv_topi (fun y_5 ey_5 => ?_)
        obtain rfl : y_5 = nI (((2 * code) + (zbt f (at_ + k))) - (2 * first)) := ey_5.trans (pk_sub (a := ((2 * code) + (zbt f (at_ + k)))) (b := (2 * first)) (by omega))
        refine lv_iload hx hb dX2_readSymbol_42 (lv_at hl 0 rfl) ?_
        refine lv_icmp_ge (tgt := 59) hx hb dX2_readSymbol_44 (by decide) (fun c44 => ?_) (fun c44 => ?_)
        · have c44 : (zcnt ℓ n (k + 1)) ≤ (((2 * code) + (zbt f (at_ + k))) - (2 * first)) := (nI_leI (a := (zcnt ℓ n (k + 1))) (b := (((2 * code) + (zbt f (at_ + k))) - (2 * first))) (by omega) (by omega)).mp c44
          refine lv_iload_n hx hb dX2_readSymbol_59 rfl (lv_at hl 1 rfl) ?_
          refine lv_iload hx hb dX2_readSymbol_60 (lv_at hl 0 rfl) ?_
          refine lv_iadd hx hb dX2_readSymbol_62 ?_
          refine lv_topi (fun y_6 ey_6 => ?_)
          obtain rfl : y_6 = nI ((2 * first) + (zcnt ℓ n (k + 1))) := ey_6.trans (nI_add (2 * first) (zcnt ℓ n (k + 1)))
          refine lv_istore_n (lv' := [(3, .int (nI ((2 * first) + (zcnt ℓ n (k + 1))))), (6, .int (nI (zcnt ℓ n (k + 1)))), (2, .int (nI ((2 * code) + (zbt f (at_ + k))))), (0, .ref h0), (1, .ref rd), (4, .int (nI (zoff ℓ n (k + 1)))), (5, .int (nI (k + 1)))]) hx hb dX2_readSymbol_63 rfl hl (by decide) rfl (fun ls hl => ?_)
          refine lv_iload hx hb dX2_readSymbol_64 (lv_at hl 5 rfl) ?_
          refine lv_iload hx hb dX2_readSymbol_66 (lv_at hl 1 rfl) ?_
          refine lv_iadd hx hb dX2_readSymbol_68 ?_
          refine lv_topi (fun y_7 ey_7 => ?_)
          obtain rfl : y_7 = nI (zoff ℓ n (k + 1 + 1)) := ey_7.trans ((nI_add _ _).trans (congrArg nI (zoff_p ℓ n (by omega)).symm))
          refine lv_istore (lv' := [(4, .int (nI (zoff ℓ n (k + 1 + 1)))), (3, .int (nI ((2 * first) + (zcnt ℓ n (k + 1))))), (6, .int (nI (zcnt ℓ n (k + 1)))), (2, .int (nI ((2 * code) + (zbt f (at_ + k))))), (0, .ref h0), (1, .ref rd), (5, .int (nI (k + 1)))]) hx hb dX2_readSymbol_69 hl (by decide) rfl (fun ls hl => ?_)
          refine lv_iinc (v := nI (k + 1 + 1)) (lv' := [(5, .int (nI (k + 1 + 1))), (4, .int (nI (zoff ℓ n (k + 1 + 1)))), (3, .int (nI ((2 * first) + (zcnt ℓ n (k + 1))))), (6, .int (nI (zcnt ℓ n (k + 1)))), (2, .int (nI ((2 * code) + (zbt f (at_ + k))))), (0, .ref h0), (1, .ref rd)]) hx hb dX2_readSymbol_71 hl (k := 6) rfl (show nI (k + 1) + Int32.ofInt 1 = _ from nI_add (k + 1) 1) (by decide) rfl (fun ls hl => ?_)
          refine lv_goto (tgt := 10) hx hb dX2_readSymbol_74 (by decide) ?_
          exact ih (k + 1) ((2 * code) + (zbt f (at_ + k))) ((2 * first) + (zcnt ℓ n (k + 1))) (by omega) (by rw [hde, show 15 - k = (15 - (k + 1)) + 1 from by omega, zdec_s (by omega)]; rw [zoff_p ℓ n (show k + 1 ≠ 0 by omega)]) (by omega) (by rw [Nat.pow_succ]; omega) (by omega) (by omega) _ _ hP hD hS _ (lv_sub hl [5, 6, 4, 2, 1, 0] rfl)
        · have c44 : ¬ ((zcnt ℓ n (k + 1)) ≤ (((2 * code) + (zbt f (at_ + k))) - (2 * first))) := fun h => c44 ((nI_leI (a := (zcnt ℓ n (k + 1))) (b := (((2 * code) + (zbt f (at_ + k))) - (2 * first))) (by omega) (by omega)).mpr h)
          refine lv_aload_n hx hb dX2_readSymbol_47 rfl (lv_at hl 3 rfl) ?_
          refine va_get (D := (dC, dI)) (ci := 2) (v := .ref sy) (C := RX2) (T := TX2) (N := 3) hx hb hts (by decide +kernel) hown hK hP 0 rfl rfl 2 (by decide) (hts (.fieldLink RX2 16 "FixedPress$CodeSet" "symbols" "[I") (by decide +kernel)) (fun _ h9 => h9) rfl dX2_readSymbol_48 ?_
          refine lv_iload hx hb dX2_readSymbol_51 (lv_at hl 5 rfl) ?_
          refine lv_iload_n hx hb dX2_readSymbol_53 rfl (lv_at hl 2 rfl) ?_
          refine lv_iadd hx hb dX2_readSymbol_54 ?_
          refine lv_topi (fun y_8 ey_8 => ?_)
          obtain rfl : y_8 = nI ((zoff ℓ n (k + 1)) + ((2 * code) + (zbt f (at_ + k)))) := ey_8.trans (nI_add (zoff ℓ n (k + 1)) ((2 * code) + (zbt f (at_ + k))))
          refine lv_iload_n hx hb dX2_readSymbol_55 rfl (lv_at hl 1 rfl) ?_
          refine lv_isub hx hb dX2_readSymbol_56 ?_
          refine lv_topi (fun y_9 ey_9 => ?_)
          obtain rfl : y_9 = nI (((zoff ℓ n (k + 1)) + ((2 * code) + (zbt f (at_ + k)))) - (2 * first)) := ey_9.trans (pk_sub (a := ((zoff ℓ n (k + 1)) + ((2 * code) + (zbt f (at_ + k))))) (b := (2 * first)) (by omega))
          refine va_iald hx hb hK hP 2 1 rfl rfl (vp_in_nI (n := ((zoff ℓ n (k + 1)) + ((2 * code) + (zbt f (at_ + k)))) - (2 * first)) (by omega) (by omega)) dX2_readSymbol_57 ?_
          rw [nI_clamp (n := ((zoff ℓ n (k + 1)) + ((2 * code) + (zbt f (at_ + k)))) - (2 * first)) (by omega)]
          refine lv_topi (fun y_10 ey_10 => ?_)
          obtain rfl : y_10 = nI (zsym ℓ n (zoff ℓ n (k + 1) + (2 * code + zbt f (at_ + k)) - 2 * first)) := ey_10.trans (hcs.2 _ (by omega))
          have hP9 := hP.sub (ws' := [(h0, .inr (2, [.ref co, .ref pl, .ref sy])), (co, .inl (cI, 16, .inl c1)), (sy, .inl (cI, ns, .inl s1)), (rd, .inr (0, [.ref b, .int (nI ((at_ + k) + 1)), .int lim])), (b, .inl (cB, n0, .inl f))]) [0, 1, 2, 3, 4] rfl
          have hD9 := hD.sub (ws' := [(h0, .inr (2, [.ref co, .ref pl, .ref sy])), (co, .inl (cI, 16, .inl c1)), (sy, .inl (cI, ns, .inl s1)), (rd, .inr (0, [.ref b, .int (nI ((at_ + k) + 1)), .int lim])), (b, .inl (cB, n0, .inl f))]) [0, 1, 2, 3, 4] (by decide) rfl
          exact vx_ret (W.iret (v := (nI (zsym ℓ n (zoff ℓ n (k + 1) + (2 * code + zbt f (at_ + k)) - 2 * first)))) hx hb hr (fun t ht hW => ⟨⟨(nI (zsym ℓ n (zoff ℓ n (k + 1) + (2 * code + zbt f (at_ + k)) - 2 * first))), (zsym ℓ n (zoff ℓ n (k + 1) + (2 * code + zbt f (at_ + k)) - 2 * first), at_ + k + 1), rfl, ⟨zrd_some (fu := 14 - k) (by rw [show 14 - k + 1 = 15 - k from by omega]; exact hde) (by omega) (by omega), rfl, (zsym_spec ℓ n (by omega)).1, by show at_ + k + 1 ≤ _; omega, by show at_ < at_ + k + 1; omega⟩, ⟨by rw [ht]; exact hP9, va_K.moved hW.alike hK, hD9⟩⟩, hS.F ht⟩) hS.2.2 dX2_readSymbol_58)
  exact cut10 (15 - 0 + 1) 0 0 0 (by omega) (rfl) (by omega) (by decide) (by omega) (by omega) _ _ hP hD hS _ (lv_sub hl [4, 5, 3, 2, 1, 0] rfl)
