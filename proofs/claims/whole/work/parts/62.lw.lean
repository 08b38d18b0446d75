abbrev rm_L_feed : Room := { frames := 8, cells := 1, slots := 6, locals := 142 }
abbrev wo_L_feed (dC : Nat → ClassId) (dI : Nat → Nat → Nat) (cB cI cJ cM : ClassId) (h0 tp : Nat) (v2 v3 v4 v5 v6 : Value) (ou : Nat) (of : Nat → Int64) (f : Nat → Int32) (tn : Nat) (x1 x2 x3 x4 x5 : Int32) : va_W := [(h0, .inr (7, [.ref tp, .int (nI tn), v2, v3, v4, v5, v6])), (tp, .inl (cB, 4000, .inl f)), (ou, .inl (cJ, 1, .inr (.inl of)))]
abbrev q_L_feed (dC : Nat → ClassId) (dI : Nat → Nat → Nat) (cB cI cJ cM : ClassId) (h0 tp : Nat) (v2 v3 v4 v5 v6 : Value) (ou : Nat) (of : Nat → Int64) (f : Nat → Int32) (tn : Nat) (x1 x2 x3 x4 x5 : Int32) (A : Nat → Prop) : Array Value → State → Outcome → State → Prop := va_Qi (fun (r : Int32) (u : (Nat → Int32) × Nat × (Nat → Int64)) => (tn + 20 ≤ 4000 ∧ r = 0 ∧ u.1 = zap4 (zap4 (zap4 (zap4 (zap4 f tn x1) (tn + 4) x2) (tn + 8) x3) (tn + 12) x4) (tn + 16) x5 ∧ u.2.1 = tn + 20 ∧ u.2.2 0 = (nI (tn + 20)).toInt64) ∨ (4000 < tn + 20 ∧ r = 1 ∧ u.1 = f ∧ u.2.1 = tn)) (zB dC dI cB cI cJ cM A (fun u : (Nat → Int32) × Nat × (Nat → Int64) => [(h0, .inr (7, [.ref tp, .int (nI u.2.1), v2, v3, v4, v5, v6])), (tp, .inl (cB, 4000, .inl u.1)), (ou, .inl (cJ, 1, .inr (.inl u.2.2)))])) A
set_option maxHeartbeats 8000000 in
set_option maxRecDepth 100000 in
/-- feed, caught -/
theorem k_L_feed (l : Launch) (hl9 : l.stackTraces = false) (dC : Nat → ClassId) (dI : Nat → Nat → Nat) (cB cI cJ cM : ClassId) (h0 tp : Nat) (v2 v3 v4 v5 v6 : Value) (ou : Nat) (of : Nat → Int64) (f : Nat → Int32) (tn : Nat) (x1 x2 x3 x4 x5 : Int32) (h1 : tn ≤ 4000) (sz : Nat) : Met l yL_feed wsL_feed rm_L_feed (va_Pc [.ref h0, .int x1, .int x2, .int x3, .int x4, .int x5, .ref ou] (fun U => U.heap.size = sz ∧ va_P (dC, dI) vwCl (wo_L_feed dC dI cB cI cJ cM h0 tp v2 v3 v4 v5 v6 ou of f tn x1 x2 x3 x4 x5) U.heap ∧ va_K (dC, dI) vwCl (zT cB cI cJ cM) U ∧ va_D (fun _ => True) (wo_L_feed dC dI cB cI cJ cM h0 tp v2 v3 v4 v5 v6 ou of f tn x1 x2 x3 x4 x5) ∧ zE (va_A (wo_L_feed dC dI cB cI cJ cM h0 tp v2 v3 v4 v5 v6 ou of f tn x1 x2 x3 x4 x5) sz) U)) (q_L_feed dC dI cB cI cJ cM h0 tp v2 v3 v4 v5 v6 ou of f tn x1 x2 x3 x4 x5 (va_A (wo_L_feed dC dI cB cI cJ cM h0 tp v2 v3 v4 v5 v6 ou of f tn x1 x2 x3 x4 x5) sz)) 1 6 (va_A (wo_L_feed dC dI cB cI cJ cM h0 tp v2 v3 v4 v5 v6 ou of f tn x1 x2 x3 x4 x5) sz) := by
  refine va_MetW (cc := cL_feed) (maxL := 8) (ret := (some .int)) (hh := [(0, 16, 19, 13)]) (by decide) rfl ?_
  intro p e s m args below meth c s₁ B hml hv
  obtain ⟨rfl, hsz, hP, hK, hD0, hE⟩ := hv
  have hx := B.exec
  have hb := B.bytes
  have hr := B.returns
  have hts := atoms_spec (ws := wsL_feed) B.pre
  have hown : s.vm.findClass RL = some m.cls := findClass_of_methodNamed B.named
  have hlocks := B.notSynchronized
  have htb0 := zz_tab B (hts _ List.mem_cons_self)
  obtain ⟨xt1, htb, hxt1⟩ := zz_tab1 htb0
  simp only [Prod.mk.injEq] at hxt1
  obtain ⟨et11, et12, et13, et14⟩ := hxt1
  subst hsz
  have hD := hD0.self (sz := s.heap.size)
  generalize hAe : va_A (wo_L_feed dC dI cB cI cJ cM h0 tp v2 v3 v4 v5 v6 ou of f tn x1 x2 x3 x4 x5) s.heap.size = A at hD hE ⊢
  have hA : ∀ q : Nat, s.heap.size ≤ q → A q := fun q h => by rw [← hAe]; exact Or.inr h
  have hS : va_S A s.heap s.heap [] := va_S.rf
  have hP : va_P (dC, dI) vwCl [(h0, .inr (7, [.ref tp, .int (nI tn), v2, v3, v4, v5, v6])), (tp, .inl (cB, 4000, .inl f)), (ou, .inl (cJ, 1, .inr (.inl of)))] s.heap := hP
  have hD : va_D A [(h0, .inr (7, [.ref tp, .int (nI tn), v2, v3, v4, v5, v6])), (tp, .inl (cB, 4000, .inl f)), (ou, .inl (cJ, 1, .inr (.inl of)))] := hD
  have hl := lv_entry ([.ref h0, .int x1, .int x2, .int x3, .int x4, .int x5, .ref ou]) (n := 8) (Nat.le_of_ble_eq_true rfl)
  rw [lg_entry_eq]
  generalize (lg_sl ([.ref h0, .int x1, .int x2, .int x3, .int x4, .int x5, .ref ou]) ++ List.replicate (8 - (lg_sl ([.ref h0, .int x1, .int x2, .int x3, .int x4, .int x5, .ref ou])).length) Slot.unset).toArray = ls at hl ⊢
  have hl : lv_has ls 8 [(0, .ref h0), (1, .int x1), (2, .int x2), (3, .int x3), (4, .int x4), (5, .int x5), (6, .ref ou)] := hl
  refine lv_aload hx hb dL_feed_0 (lv_at hl 6 rfl) ?_
  refine lv_iconst (v := 0) hx hb dL_feed_2 (by decide) ?_
  refine lv_aload_n hx hb dL_feed_3 rfl (lv_at hl 0 rfl) ?_
  refine lv_iload_n hx hb dL_feed_4 rfl (lv_at hl 1 rfl) ?_
  refine lv_iload_n hx hb dL_feed_5 rfl (lv_at hl 2 rfl) ?_
  refine lv_iload_n hx hb dL_feed_6 rfl (lv_at hl 3 rfl) ?_
  refine lv_iload hx hb dL_feed_7 (lv_at hl 4 rfl) ?_
  refine lv_iload hx hb dL_feed_9 (lv_at hl 5 rfl) ?_
  have hPc := hP.sub (ws' := [(h0, .inr (7, [.ref tp, .int (nI tn), v2, v3, v4, v5, v6])), (tp, .inl (cB, 4000, .inl f))]) [0, 1] rfl
  have hDc := hD.sub (ws' := [(h0, .inr (7, [.ref tp, .int (nI tn), v2, v3, v4, v5, v6])), (tp, .inl (cB, 4000, .inl f))]) [0, 1] (by decide) rfl
  have hFc := va_free (wc := [(h0, .inr (7, [.ref tp, .int (nI tn), v2, v3, v4, v5, v6])), (tp, .inl (cB, 4000, .inl f))]) hD hS hA [0, 1] rfl
  refine vx_calli (vx_runV (As := [.int x1, .int x2, .int x3, .int x4, .int x5]) (rest := [.int 0, .ref ou]) ⟨hx, hb, hml, hown, hts⟩ (k_X7_feed l hl9 dC dI cB cI cJ cM h0 tp v2 v3 v4 v5 v6 f tn x1 x2 x3 x4 x5 (by omega) s.heap.size) (cwV 5 hts gL_feed_X7_feed rfl rfl rfl (by decide +kernel) ⟨Nat.le_of_ble_eq_true rfl, Nat.le_of_ble_eq_true rfl⟩) ⟨fun a U g mk q => by obtain ⟨q0, q1, qP, qK, qD, qE⟩ := q; exact ⟨q0, q1, qP, va_K.moved (u := U) (U := U.calling g mk a) (Vm.Alike.refl U.vm) qK, qD, zE.blind qE⟩, va_recv hK hPc (ci := 7) (q0 := 0) rfl rfl, fun U hU hW => ⟨rfl, by rw [hU], by rw [hU]; exact hPc, va_K.moved hW.alike hK, hDc.weaken (fun _ _ _ _ => trivial), zE.call hE hS hU hW hFc⟩⟩ rfl rfl hl.1 rfl (lv_room (Nat.le_of_ble_eq_true rfl)) dL_feed_11 ⟨(show 0 + 1 ≤ 1 by omega), (show 0 + 6 ≤ 6 by omega)⟩) hS (fun q _ h => hFc q h) hFc (fun q _ h => hFc q h) (fun E8 ce9 q9 ux t H1 locs ht hvm hw hB hz1 hk1 hS hce9 hcv9 hcl9 => ?_) (fun r11 u t H1 locs ht hvm hw hB hz1 hk1 hS => ?_)
  · obtain ⟨E9, ux9⟩ := ux
    obtain ⟨hEe, hB9⟩ := hB
    have hB : True ∧ zB dC dI cB cI cJ cM (va_A [(h0, .inr (7, [.ref tp, .int (nI tn), v2, v3, v4, v5, v6])), (tp, .inl (cB, 4000, .inl f))] s.heap.size) (fun u : Unit => [(h0, .inr (7, [.ref tp, .int (nI tn), v2, v3, v4, v5, v6])), (tp, .inl (cB, 4000, .inl f))]) ux9 t := ⟨trivial, hB9⟩
    have hP1 : va_P (dC, dI) vwCl [(h0, .inr (7, [.ref tp, .int (nI tn), v2, v3, v4, v5, v6])), (tp, .inl (cB, 4000, .inl f))] H1 := by rw [← ht]; exact hB.2.1
    have hD1 : va_D (va_A [(h0, .inr (7, [.ref tp, .int (nI tn), v2, v3, v4, v5, v6])), (tp, .inl (cB, 4000, .inl f))] s.heap.size) [(h0, .inr (7, [.ref tp, .int (nI tn), v2, v3, v4, v5, v6])), (tp, .inl (cB, 4000, .inl f))] := hB.2.2.2
    obtain ⟨hP, hD⟩ := va_join (wr := [(ou, .inl (cJ, 1, .inr (.inl of)))]) (w1 := [(h0, .inr (7, [.ref tp, .int (nI tn), v2, v3, v4, v5, v6])), (tp, .inl (cB, 4000, .inl f))]) hP hD [0, 1] [2] rfl rfl (by decide) (by decide) hk1 hFc hP1 hD1
    generalize H1 = H at hP hS hce9 ⊢
    try dsimp only at hw hEe
    subst hEe
    have hP : va_P (dC, dI) vwCl [(ou, .inl (cJ, 1, .inr (.inl of))), (h0, .inr (7, [.ref tp, .int (nI tn), v2, v3, v4, v5, v6])), (tp, .inl (cB, 4000, .inl f))] H := hP
    have hD : va_D A [(ou, .inl (cJ, 1, .inr (.inl of))), (h0, .inr (7, [.ref tp, .int (nI tn), v2, v3, v4, v5, v6])), (tp, .inl (cB, 4000, .inl f))] := hD
    have hE8 := hw.1
    subst hE8
    have hX := hw.2
    refine vx_catch (name := "java/lang/IndexOutOfBoundsException") hown [] xt1 [] htb (fun z hz => nomatch hz) (by simp [covers, et11, et12]) (by rw [et14]; decide) (by rw [et14]; exact hts (.classLink RL 13 "java/lang/IndexOutOfBoundsException") (by decide +kernel)) (va_Nw.use rfl (zC_IndexOutOfBoundsException hE)) hce9 hcv9 hcl9 ?_
    rw [et13]
    refine lv_astore (lv' := [(7, .ref q9), (0, .ref h0), (1, .int x1), (2, .int x2), (3, .int x3), (4, .int x4), (5, .int x5), (6, .ref ou)]) hx hb dL_feed_19 hl (by decide) rfl (fun ls hl => ?_)
    refine lv_iconst (v := 1) hx hb dL_feed_21 (by decide) ?_
    have hP9 := hP.sub (ws' := [(h0, .inr (7, [.ref tp, .int (nI tn), v2, v3, v4, v5, v6])), (tp, .inl (cB, 4000, .inl f)), (ou, .inl (cJ, 1, .inr (.inl of)))]) [1, 2, 0] rfl
    have hD9 := hD.sub (ws' := [(h0, .inr (7, [.ref tp, .int (nI tn), v2, v3, v4, v5, v6])), (tp, .inl (cB, 4000, .inl f)), (ou, .inl (cJ, 1, .inr (.inl of)))]) [1, 2, 0] (by decide) rfl
    exact W.iret (v := 1) hx hb hr (fun t ht hW => ⟨⟨1, (f, tn, of), rfl, Or.inr ⟨hX, rfl, rfl, rfl⟩, ⟨by rw [ht]; exact hP9, va_K.moved hW.alike hK, hD9⟩⟩, hS.F ht⟩) hS.2.2 dL_feed_22
  have hP1 : va_P (dC, dI) vwCl [(h0, .inr (7, [.ref tp, .int (nI (tn + 20)), v2, v3, v4, v5, v6])), (tp, .inl (cB, 4000, .inl (zap4 (zap4 (zap4 (zap4 (zap4 f tn x1) (tn + 4) x2) (tn + 8) x3) (tn + 12) x4) (tn + 16) x5)))] H1 := by rw [← ht]; exact hB.1
  have hD1 : va_D (va_A [(h0, .inr (7, [.ref tp, .int (nI tn), v2, v3, v4, v5, v6])), (tp, .inl (cB, 4000, .inl f))] s.heap.size) [(h0, .inr (7, [.ref tp, .int (nI (tn + 20)), v2, v3, v4, v5, v6])), (tp, .inl (cB, 4000, .inl (zap4 (zap4 (zap4 (zap4 (zap4 f tn x1) (tn + 4) x2) (tn + 8) x3) (tn + 12) x4) (tn + 16) x5)))] := hB.2.2
  obtain ⟨hP, hD⟩ := va_join (wr := [(ou, .inl (cJ, 1, .inr (.inl of)))]) (w1 := [(h0, .inr (7, [.ref tp, .int (nI (tn + 20)), v2, v3, v4, v5, v6])), (tp, .inl (cB, 4000, .inl (zap4 (zap4 (zap4 (zap4 (zap4 f tn x1) (tn + 4) x2) (tn + 8) x3) (tn + 12) x4) (tn + 16) x5)))]) hP hD [0, 1] [2] rfl rfl (by decide) (by decide) hk1 hFc hP1 hD1
  generalize H1 = H at hP hS ⊢
  try dsimp only at hw
  have hP : va_P (dC, dI) vwCl [(ou, .inl (cJ, 1, .inr (.inl of))), (h0, .inr (7, [.ref tp, .int (nI (tn + 20)), v2, v3, v4, v5, v6])), (tp, .inl (cB, 4000, .inl (zap4 (zap4 (zap4 (zap4 (zap4 f tn x1) (tn + 4) x2) (tn + 8) x3) (tn + 12) x4) (tn + 16) x5)))] H := hP
  have hD : va_D A [(ou, .inl (cJ, 1, .inr (.inl of))), (h0, .inr (7, [.ref tp, .int (nI (tn + 20)), v2, v3, v4, v5, v6])), (tp, .inl (cB, 4000, .inl (zap4 (zap4 (zap4 (zap4 (zap4 f tn x1) (tn + 4) x2) (tn + 8) x3) (tn + 12) x4) (tn + 16) x5)))] := hD
  obtain ⟨hb11, hr11⟩ := hw
  obtain rfl : r11 = nI (tn + 20) := hr11
  refine W.eq (g2 := F0 m 14 ls [.int (nI (tn + 20)), .int 0, .ref ou]) rfl ?_
  refine lv_i2l hx hb dL_feed_14 rfl ?_
  refine va_last hx hb hK hP hD hS 0 2 rfl rfl (vp_in_nI (n := 0) (by omega) (by omega)) dL_feed_15 (fun H locs hP hD hS => ?_)
  have hP : va_P (dC, dI) vwCl [(ou, .inl (cJ, 1, .inr (.inl (vp_updL of 0 ((nI (tn + 20)).toInt64))))), (h0, .inr (7, [.ref tp, .int (nI (tn + 20)), v2, v3, v4, v5, v6])), (tp, .inl (cB, 4000, .inl (zap4 (zap4 (zap4 (zap4 (zap4 f tn x1) (tn + 4) x2) (tn + 8) x3) (tn + 12) x4) (tn + 16) x5)))] H := hP
  have hD : va_D A [(ou, .inl (cJ, 1, .inr (.inl (vp_updL of 0 ((nI (tn + 20)).toInt64))))), (h0, .inr (7, [.ref tp, .int (nI (tn + 20)), v2, v3, v4, v5, v6])), (tp, .inl (cB, 4000, .inl (zap4 (zap4 (zap4 (zap4 (zap4 f tn x1) (tn + 4) x2) (tn + 8) x3) (tn + 12) x4) (tn + 16) x5)))] := hD
  refine lv_goto (tgt := 23) hx hb dL_feed_16 (by decide) ?_
  refine lv_iconst (v := 0) hx hb dL_feed_23 (by decide) ?_
  have hP9 := hP.sub (ws' := [(h0, .inr (7, [.ref tp, .int (nI (tn + 20)), v2, v3, v4, v5, v6])), (tp, .inl (cB, 4000, .inl (zap4 (zap4 (zap4 (zap4 (zap4 f tn x1) (tn + 4) x2) (tn + 8) x3) (tn + 12) x4) (tn + 16) x5))), (ou, .inl (cJ, 1, .inr (.inl (vp_updL of 0 ((nI (tn + 20)).toInt64)))))]) [1, 2, 0] rfl
  have hD9 := hD.sub (ws' := [(h0, .inr (7, [.ref tp, .int (nI (tn + 20)), v2, v3, v4, v5, v6])), (tp, .inl (cB, 4000, .inl (zap4 (zap4 (zap4 (zap4 (zap4 f tn x1) (tn + 4) x2) (tn + 8) x3) (tn + 12) x4) (tn + 16) x5))), (ou, .inl (cJ, 1, .inr (.inl (vp_updL of 0 ((nI (tn + 20)).toInt64)))))]) [1, 2, 0] (by decide) rfl
  refine W.widen (k := 1) (n := 6) (by omega) (by omega) ?_
  exact W.iret (v := 0) hx hb hr (fun t ht hW => ⟨⟨0, (zap4 (zap4 (zap4 (zap4 (zap4 f tn x1) (tn + 4) x2) (tn + 8) x3) (tn + 12) x4) (tn + 16) x5, tn + 20, vp_updL of 0 ((nI (tn + 20)).toInt64)), rfl, Or.inl ⟨hb11, rfl, rfl, rfl, rfl⟩, ⟨by rw [ht]; exact hP9, va_K.moved hW.alike hK, hD9⟩⟩, hS.F ht⟩) hS.2.2 dL_feed_24

abbrev rm_L_end : Room := { frames := 8, cells := 1, slots := 6, locals := 139 }
abbrev wo_L_end (dC : Nat → ClassId) (dI : Nat → Nat → Nat) (cB cI cJ cM : ClassId) (h0 tp : Nat) (v2 v3 v4 v5 v6 : Value) (ou : Nat) (of : Nat → Int64) (tn : Nat) (k : Int32) : va_W := [(h0, .inr (7, [.ref tp, .int (nI tn), v2, v3, v4, v5, v6])), (ou, .inl (cJ, 1, .inr (.inl of)))]
abbrev q_L_end (dC : Nat → ClassId) (dI : Nat → Nat → Nat) (cB cI cJ cM : ClassId) (h0 tp : Nat) (v2 v3 v4 v5 v6 : Value) (ou : Nat) (of : Nat → Int64) (tn : Nat) (k : Int32) (A : Nat → Prop) : Array Value → State → Outcome → State → Prop := va_Qi (fun (r : Int32) (u : Int32 × (Nat → Int64)) => (0 ≤ k ∧ k ≤ nI tn ∧ r = 0 ∧ u.1 = k ∧ u.2 0 = k.toInt64) ∨ ((k < 0 ∨ nI tn < k) ∧ r = 1 ∧ u.1 = nI tn)) (zB dC dI cB cI cJ cM A (fun u : Int32 × (Nat → Int64) => [(h0, .inr (7, [.ref tp, .int u.1, v2, v3, v4, v5, v6])), (ou, .inl (cJ, 1, .inr (.inl u.2)))])) A
set_option maxHeartbeats 8000000 in
set_option maxRecDepth 100000 in
/-- end, caught -/
theorem k_L_end (l : Launch) (hl9 : l.stackTraces = false) (dC : Nat → ClassId) (dI : Nat → Nat → Nat) (cB cI cJ cM : ClassId) (h0 tp : Nat) (v2 v3 v4 v5 v6 : Value) (ou : Nat) (of : Nat → Int64) (tn : Nat) (k : Int32) (sz : Nat) : Met l yL_end wsL_end rm_L_end (va_Pc [.ref h0, .int k, .ref ou] (fun U => U.heap.size = sz ∧ va_P (dC, dI) vwCl (wo_L_end dC dI cB cI cJ cM h0 tp v2 v3 v4 v5 v6 ou of tn k) U.heap ∧ va_K (dC, dI) vwCl (zT cB cI cJ cM) U ∧ va_D (fun _ => True) (wo_L_end dC dI cB cI cJ cM h0 tp v2 v3 v4 v5 v6 ou of tn k) ∧ zE (va_A (wo_L_end dC dI cB cI cJ cM h0 tp v2 v3 v4 v5 v6 ou of tn k) sz) U)) (q_L_end dC dI cB cI cJ cM h0 tp v2 v3 v4 v5 v6 ou of tn k (va_A (wo_L_end dC dI cB cI cJ cM h0 tp v2 v3 v4 v5 v6 ou of tn k) sz)) 1 6 (va_A (wo_L_end dC dI cB cI cJ cM h0 tp v2 v3 v4 v5 v6 ou of tn k) sz) := by
  refine va_MetW (cc := cL_end) (maxL := 4) (ret := (some .int)) (hh := [(0, 9, 12, 19)]) (by decide) rfl ?_
  intro p e s m args below meth c s₁ B hml hv
  obtain ⟨rfl, hsz, hP, hK, hD0, hE⟩ := hv
  have hx := B.exec
  have hb := B.bytes
  have hr := B.returns
  have hts := atoms_spec (ws := wsL_end) B.pre
  have hown : s.vm.findClass RL = some m.cls := findClass_of_methodNamed B.named
  have hlocks := B.notSynchronized
  have htb0 := zz_tab B (hts _ List.mem_cons_self)
  obtain ⟨xt1, htb, hxt1⟩ := zz_tab1 htb0
  simp only [Prod.mk.injEq] at hxt1
  obtain ⟨et11, et12, et13, et14⟩ := hxt1
  subst hsz
  have hD := hD0.self (sz := s.heap.size)
  generalize hAe : va_A (wo_L_end dC dI cB cI cJ cM h0 tp v2 v3 v4 v5 v6 ou of tn k) s.heap.size = A at hD hE ⊢
  have hA : ∀ q : Nat, s.heap.size ≤ q → A q := fun q h => by rw [← hAe]; exact Or.inr h
  have hS : va_S A s.heap s.heap [] := va_S.rf
  have hP : va_P (dC, dI) vwCl [(h0, .inr (7, [.ref tp, .int (nI tn), v2, v3, v4, v5, v6])), (ou, .inl (cJ, 1, .inr (.inl of)))] s.heap := hP
  have hD : va_D A [(h0, .inr (7, [.ref tp, .int (nI tn), v2, v3, v4, v5, v6])), (ou, .inl (cJ, 1, .inr (.inl of)))] := hD
  have hl := lv_entry ([.ref h0, .int k, .ref ou]) (n := 4) (Nat.le_of_ble_eq_true rfl)
  rw [lg_entry_eq]
  generalize (lg_sl ([.ref h0, .int k, .ref ou]) ++ List.replicate (4 - (lg_sl ([.ref h0, .int k, .ref ou])).length) Slot.unset).toArray = ls at hl ⊢
  have hl : lv_has ls 4 [(0, .ref h0), (1, .int k), (2, .ref ou)] := hl
  refine lv_aload_n hx hb dL_end_0 rfl (lv_at hl 2 rfl) ?_
  refine lv_iconst (v := 0) hx hb dL_end_1 (by decide) ?_
  refine lv_aload_n hx hb dL_end_2 rfl (lv_at hl 0 rfl) ?_
  refine lv_iload_n hx hb dL_end_3 rfl (lv_at hl 1 rfl) ?_
  have hPc := hP.sub (ws' := [(h0, .inr (7, [.ref tp, .int (nI tn), v2, v3, v4, v5, v6]))]) [0] rfl
  have hDc := hD.sub (ws' := [(h0, .inr (7, [.ref tp, .int (nI tn), v2, v3, v4, v5, v6]))]) [0] (by decide) rfl
  have hFc := va_free (wc := [(h0, .inr (7, [.ref tp, .int (nI tn), v2, v3, v4, v5, v6]))]) hD hS hA [0] rfl
  refine vx_calli (vx_runV (As := [.int k]) (rest := [.int 0, .ref ou]) ⟨hx, hb, hml, hown, hts⟩ (k_X7_end l hl9 dC dI cB cI cJ cM h0 tp v2 v3 v4 v5 v6 tn k  s.heap.size) (cwV 1 hts gL_end_X7_end rfl rfl rfl (by decide +kernel) ⟨Nat.le_of_ble_eq_true rfl, Nat.le_of_ble_eq_true rfl⟩) ⟨fun a U g mk q => by obtain ⟨q0, q1, qP, qK, qD, qE⟩ := q; exact ⟨q0, q1, qP, va_K.moved (u := U) (U := U.calling g mk a) (Vm.Alike.refl U.vm) qK, qD, zE.blind qE⟩, va_recv hK hPc (ci := 7) (q0 := 0) rfl rfl, fun U hU hW => ⟨rfl, by rw [hU], by rw [hU]; exact hPc, va_K.moved hW.alike hK, hDc.weaken (fun _ _ _ _ => trivial), zE.call hE hS hU hW hFc⟩⟩ rfl rfl hl.1 rfl (lv_room (Nat.le_of_ble_eq_true rfl)) dL_end_4 ⟨(show 0 + 1 ≤ 1 by omega), (show 0 + 6 ≤ 6 by omega)⟩) hS (fun q _ h => hFc q h) hFc (fun q _ h => hFc q h) (fun E8 ce9 q9 ux t H1 locs ht hvm hw hB hz1 hk1 hS hce9 hcv9 hcl9 => ?_) (fun r4 u t H1 locs ht hvm hw hB hz1 hk1 hS => ?_)
  · obtain ⟨E9, ux9⟩ := ux
    obtain ⟨hEe, hB9⟩ := hB
    have hB : True ∧ zB dC dI cB cI cJ cM (va_A [(h0, .inr (7, [.ref tp, .int (nI tn), v2, v3, v4, v5, v6]))] s.heap.size) (fun u : Unit => [(h0, .inr (7, [.ref tp, .int (nI tn), v2, v3, v4, v5, v6]))]) ux9 t := ⟨trivial, hB9⟩
    have hP1 : va_P (dC, dI) vwCl [(h0, .inr (7, [.ref tp, .int (nI tn), v2, v3, v4, v5, v6]))] H1 := by rw [← ht]; exact hB.2.1
    have hD1 : va_D (va_A [(h0, .inr (7, [.ref tp, .int (nI tn), v2, v3, v4, v5, v6]))] s.heap.size) [(h0, .inr (7, [.ref tp, .int (nI tn), v2, v3, v4, v5, v6]))] := hB.2.2.2
    obtain ⟨hP, hD⟩ := va_join (wr := [(ou, .inl (cJ, 1, .inr (.inl of)))]) (w1 := [(h0, .inr (7, [.ref tp, .int (nI tn), v2, v3, v4, v5, v6]))]) hP hD [0] [1] rfl rfl (by decide) (by decide) hk1 hFc hP1 hD1
    generalize H1 = H at hP hS hce9 ⊢
    try dsimp only at hw hEe
    subst hEe
    have hP : va_P (dC, dI) vwCl [(ou, .inl (cJ, 1, .inr (.inl of))), (h0, .inr (7, [.ref tp, .int (nI tn), v2, v3, v4, v5, v6]))] H := hP
    have hD : va_D A [(ou, .inl (cJ, 1, .inr (.inl of))), (h0, .inr (7, [.ref tp, .int (nI tn), v2, v3, v4, v5, v6]))] := hD
    have hE8 := hw.1
    subst hE8
    have hX := hw.2
    refine vx_catch (name := "java/lang/IllegalArgumentException") hown [] xt1 [] htb (fun z hz => nomatch hz) (by simp [covers, et11, et12]) (by rw [et14]; decide) (by rw [et14]; exact hts (.classLink RL 19 "java/lang/IllegalArgumentException") (by decide +kernel)) (va_Nw.use rfl (zC_IllegalArgumentException hE)) hce9 hcv9 hcl9 ?_
    rw [et13]
    refine lv_astore_n (lv' := [(3, .ref q9), (0, .ref h0), (1, .int k), (2, .ref ou)]) hx hb dL_end_12 rfl hl (by decide) rfl (fun ls hl => ?_)
    refine lv_iconst (v := 1) hx hb dL_end_13 (by decide) ?_
    have hP9 := hP.sub (ws' := [(h0, .inr (7, [.ref tp, .int (nI tn), v2, v3, v4, v5, v6])), (ou, .inl (cJ, 1, .inr (.inl of)))]) [1, 0] rfl
    have hD9 := hD.sub (ws' := [(h0, .inr (7, [.ref tp, .int (nI tn), v2, v3, v4, v5, v6])), (ou, .inl (cJ, 1, .inr (.inl of)))]) [1, 0] (by decide) rfl
    exact W.iret (v := 1) hx hb hr (fun t ht hW => ⟨⟨1, (nI tn, of), rfl, Or.inr ⟨hX, rfl, rfl⟩, ⟨by rw [ht]; exact hP9, va_K.moved hW.alike hK, hD9⟩⟩, hS.F ht⟩) hS.2.2 dL_end_14
  have hP1 : va_P (dC, dI) vwCl [(h0, .inr (7, [.ref tp, .int k, v2, v3, v4, v5, v6]))] H1 := by rw [← ht]; exact hB.1
  have hD1 : va_D (va_A [(h0, .inr (7, [.ref tp, .int (nI tn), v2, v3, v4, v5, v6]))] s.heap.size) [(h0, .inr (7, [.ref tp, .int k, v2, v3, v4, v5, v6]))] := hB.2.2
  obtain ⟨hP, hD⟩ := va_join (wr := [(ou, .inl (cJ, 1, .inr (.inl of)))]) (w1 := [(h0, .inr (7, [.ref tp, .int k, v2, v3, v4, v5, v6]))]) hP hD [0] [1] rfl rfl (by decide) (by decide) hk1 hFc hP1 hD1
  generalize H1 = H at hP hS ⊢
  try dsimp only at hw
  have hP : va_P (dC, dI) vwCl [(ou, .inl (cJ, 1, .inr (.inl of))), (h0, .inr (7, [.ref tp, .int k, v2, v3, v4, v5, v6]))] H := hP
  have hD : va_D A [(ou, .inl (cJ, 1, .inr (.inl of))), (h0, .inr (7, [.ref tp, .int k, v2, v3, v4, v5, v6]))] := hD
  obtain ⟨hr4, hb4, hb5⟩ := hw
  refine W.eq (g2 := F0 m 7 ls [.int r4, .int 0, .ref ou]) rfl ?_
  refine lv_i2l hx hb dL_end_7 rfl ?_
  refine va_last hx hb hK hP hD hS 0 2 rfl rfl (vp_in_nI (n := 0) (by omega) (by omega)) dL_end_8 (fun H locs hP hD hS => ?_)
  have hP : va_P (dC, dI) vwCl [(ou, .inl (cJ, 1, .inr (.inl (vp_updL of 0 r4.toInt64)))), (h0, .inr (7, [.ref tp, .int k, v2, v3, v4, v5, v6]))] H := hP
  have hD : va_D A [(ou, .inl (cJ, 1, .inr (.inl (vp_updL of 0 r4.toInt64)))), (h0, .inr (7, [.ref tp, .int k, v2, v3, v4, v5, v6]))] := hD
  refine lv_goto (tgt := 15) hx hb dL_end_9 (by decide) ?_
  refine lv_iconst (v := 0) hx hb dL_end_15 (by decide) ?_
  have hP9 := hP.sub (ws' := [(h0, .inr (7, [.ref tp, .int k, v2, v3, v4, v5, v6])), (ou, .inl (cJ, 1, .inr (.inl (vp_updL of 0 r4.toInt64))))]) [1, 0] rfl
  have hD9 := hD.sub (ws' := [(h0, .inr (7, [.ref tp, .int k, v2, v3, v4, v5, v6])), (ou, .inl (cJ, 1, .inr (.inl (vp_updL of 0 r4.toInt64))))]) [1, 0] (by decide) rfl
  refine W.widen (k := 1) (n := 6) (by omega) (by omega) ?_
  exact W.iret (v := 0) hx hb hr (fun t ht hW => ⟨⟨0, (k, vp_updL of 0 r4.toInt64), rfl, Or.inl ⟨hb4, hb5, rfl, rfl, by rw [← hr4]; rfl⟩, ⟨by rw [ht]; exact hP9, va_K.moved hW.alike hK, hD9⟩⟩, hS.F ht⟩) hS.2.2 dL_end_16

abbrev rm_L_fill : Room := { frames := 8, cells := 1, slots := 6, locals := 143 }
abbrev wo_L_fill (dC : Nat → ClassId) (dI : Nat → Nat → Nat) (cB cI cJ cM : ClassId) (h0 tp : Nat) (v2 v3 v4 v5 v6 : Value) (ou : Nat) (of : Nat → Int64) (f : Nat → Int32) (tn : Nat) (sd bd k : Int32) : va_W := [(h0, .inr (7, [.ref tp, .int (nI tn), v2, v3, v4, v5, v6])), (tp, .inl (cB, 4000, .inl f)), (ou, .inl (cJ, 1, .inr (.inl of)))]
abbrev q_L_fill (dC : Nat → ClassId) (dI : Nat → Nat → Nat) (cB cI cJ cM : ClassId) (h0 tp : Nat) (v2 v3 v4 v5 v6 : Value) (ou : Nat) (of : Nat → Int64) (f : Nat → Int32) (tn : Nat) (sd bd k : Int32) (A : Nat → Prop) : Array Value → State → Outcome → State → Prop := va_Qi (fun (r : Int32) (u : (Nat → Int32) × Nat × (Nat → Int64)) => (∃ kn, 1 ≤ bd ∧ bd ≤ 256 ∧ k = nI kn ∧ tn + kn ≤ 4000 ∧ r = 0 ∧ u.1 = zfil f tn sd bd kn ∧ u.2.1 = tn + kn ∧ u.2.2 0 = (nI (tn + kn)).toInt64) ∨ ((bd < 1 ∨ 256 < bd ∨ k < 0 ∨ 4000 < k) ∧ r = 1 ∧ u.1 = f ∧ u.2.1 = tn) ∨ (((1 ≤ bd ∧ bd ≤ 256) ∧ (0 ≤ k ∧ k ≤ 4000) ∧ nI (4000 - tn) < k) ∧ r = 2 ∧ u.1 = f ∧ u.2.1 = tn)) (zB dC dI cB cI cJ cM A (fun u : (Nat → Int32) × Nat × (Nat → Int64) => [(h0, .inr (7, [.ref tp, .int (nI u.2.1), v2, v3, v4, v5, v6])), (tp, .inl (cB, 4000, .inl u.1)), (ou, .inl (cJ, 1, .inr (.inl u.2.2)))])) A
set_option maxHeartbeats 8000000 in
set_option maxRecDepth 100000 in
/-- fill, caught -/
theorem k_L_fill (l : Launch) (hl9 : l.stackTraces = false) (dC : Nat → ClassId) (dI : Nat → Nat → Nat) (cB cI cJ cM : ClassId) (h0 tp : Nat) (v2 v3 v4 v5 v6 : Value) (ou : Nat) (of : Nat → Int64) (f : Nat → Int32) (tn : Nat) (sd bd k : Int32) (h1 : tn ≤ 4000) (sz : Nat) : Met l yL_fill wsL_fill rm_L_fill (va_Pc [.ref h0, .int sd, .int bd, .int k, .ref ou] (fun U => U.heap.size = sz ∧ va_P (dC, dI) vwCl (wo_L_fill dC dI cB cI cJ cM h0 tp v2 v3 v4 v5 v6 ou of f tn sd bd k) U.heap ∧ va_K (dC, dI) vwCl (zT cB cI cJ cM) U ∧ va_D (fun _ => True) (wo_L_fill dC dI cB cI cJ cM h0 tp v2 v3 v4 v5 v6 ou of f tn sd bd k) ∧ zE (va_A (wo_L_fill dC dI cB cI cJ cM h0 tp v2 v3 v4 v5 v6 ou of f tn sd bd k) sz) U ∧ va_Nc "java/lang/IndexOutOfBoundsException" "java/lang/IllegalArgumentException" U)) (q_L_fill dC dI cB cI cJ cM h0 tp v2 v3 v4 v5 v6 ou of f tn sd bd k (va_A (wo_L_fill dC dI cB cI cJ cM h0 tp v2 v3 v4 v5 v6 ou of f tn sd bd k) sz)) 1 6 (va_A (wo_L_fill dC dI cB cI cJ cM h0 tp v2 v3 v4 v5 v6 ou of f tn sd bd k) sz) := by
  refine va_MetW (cc := cL_fill) (maxL := 6) (ret := (some .int)) (hh := [(0, 12, 15, 19), (0, 12, 19, 13)]) (by decide) rfl ?_
  intro p e s m args below meth c s₁ B hml hv
  obtain ⟨rfl, hsz, hP, hK, hD0, hE, hnc⟩ := hv
  have hx := B.exec
  have hb := B.bytes
  have hr := B.returns
  have hts := atoms_spec (ws := wsL_fill) B.pre
  have hown : s.vm.findClass RL = some m.cls := findClass_of_methodNamed B.named
  have hlocks := B.notSynchronized
  have htb0 := zz_tab B (hts _ List.mem_cons_self)
  obtain ⟨xt1, xt2, htb, hxt1, hxt2⟩ := zz_tab2 htb0
  simp only [Prod.mk.injEq] at hxt1
  obtain ⟨et11, et12, et13, et14⟩ := hxt1
  simp only [Prod.mk.injEq] at hxt2
  obtain ⟨et21, et22, et23, et24⟩ := hxt2
  subst hsz
  have hD := hD0.self (sz := s.heap.size)
  generalize hAe : va_A (wo_L_fill dC dI cB cI cJ cM h0 tp v2 v3 v4 v5 v6 ou of f tn sd bd k) s.heap.size = A at hD hE ⊢
  have hA : ∀ q : Nat, s.heap.size ≤ q → A q := fun q h => by rw [← hAe]; exact Or.inr h
  have hS : va_S A s.heap s.heap [] := va_S.rf
  have hP : va_P (dC, dI) vwCl [(h0, .inr (7, [.ref tp, .int (nI tn), v2, v3, v4, v5, v6])), (tp, .inl (cB, 4000, .inl f)), (ou, .inl (cJ, 1, .inr (.inl of)))] s.heap := hP
  have hD : va_D A [(h0, .inr (7, [.ref tp, .int (nI tn), v2, v3, v4, v5, v6])), (tp, .inl (cB, 4000, .inl f)), (ou, .inl (cJ, 1, .inr (.inl of)))] := hD
  have hl := lv_entry ([.ref h0, .int sd, .int bd, .int k, .ref ou]) (n := 6) (Nat.le_of_ble_eq_true rfl)
  rw [lg_entry_eq]
  generalize (lg_sl ([.ref h0, .int sd, .int bd, .int k, .ref ou]) ++ List.replicate (6 - (lg_sl ([.ref h0, .int sd, .int bd, .int k, .ref ou])).length) Slot.unset).toArray = ls at hl ⊢
  have hl : lv_has ls 6 [(0, .ref h0), (1, .int sd), (2, .int bd), (3, .int k), (4, .ref ou)] := hl
  refine lv_aload hx hb dL_fill_0 (lv_at hl 4 rfl) ?_
  refine lv_iconst (v := 0) hx hb dL_fill_2 (by decide) ?_
  refine lv_aload_n hx hb dL_fill_3 rfl (lv_at hl 0 rfl) ?_
  refine lv_iload_n hx hb dL_fill_4 rfl (lv_at hl 1 rfl) ?_
  refine lv_iload_n hx hb dL_fill_5 rfl (lv_at hl 2 rfl) ?_
  refine lv_iload_n hx hb dL_fill_6 rfl (lv_at hl 3 rfl) ?_
  have hPc := hP.sub (ws' := [(h0, .inr (7, [.ref tp, .int (nI tn), v2, v3, v4, v5, v6])), (tp, .inl (cB, 4000, .inl f))]) [0, 1] rfl
  have hDc := hD.sub (ws' := [(h0, .inr (7, [.ref tp, .int (nI tn), v2, v3, v4, v5, v6])), (tp, .inl (cB, 4000, .inl f))]) [0, 1] (by decide) rfl
  have hFc := va_free (wc := [(h0, .inr (7, [.ref tp, .int (nI tn), v2, v3, v4, v5, v6])), (tp, .inl (cB, 4000, .inl f))]) hD hS hA [0, 1] rfl
  refine vx_calli (vx_runV (As := [.int sd, .int bd, .int k]) (rest := [.int 0, .ref ou]) ⟨hx, hb, hml, hown, hts⟩ (k_X7_fill l hl9 dC dI cB cI cJ cM h0 tp v2 v3 v4 v5 v6 f tn sd bd k (by omega) s.heap.size) (cwV 3 hts gL_fill_X7_fill rfl rfl rfl (by decide +kernel) ⟨Nat.le_of_ble_eq_true rfl, Nat.le_of_ble_eq_true rfl⟩) ⟨fun a U g mk q => by obtain ⟨q0, q1, qP, qK, qD, qE⟩ := q; exact ⟨q0, q1, qP, va_K.moved (u := U) (U := U.calling g mk a) (Vm.Alike.refl U.vm) qK, qD, zE.blind qE⟩, va_recv hK hPc (ci := 7) (q0 := 0) rfl rfl, fun U hU hW => ⟨rfl, by rw [hU], by rw [hU]; exact hPc, va_K.moved hW.alike hK, hDc.weaken (fun _ _ _ _ => trivial), zE.call hE hS hU hW hFc⟩⟩ rfl rfl hl.1 rfl (lv_room (Nat.le_of_ble_eq_true rfl)) dL_fill_7 ⟨(show 0 + 1 ≤ 1 by omega), (show 0 + 6 ≤ 6 by omega)⟩) hS (fun q _ h => hFc q h) hFc (fun q _ h => hFc q h) (fun E8 ce9 q9 ux t H1 locs ht hvm hw hB hz1 hk1 hS hce9 hcv9 hcl9 => ?_) (fun r7 u t H1 locs ht hvm hw hB hz1 hk1 hS => ?_)
  · obtain ⟨E9, ux9⟩ := ux
    obtain ⟨hEe, hB9⟩ := hB
    have hB : True ∧ zB dC dI cB cI cJ cM (va_A [(h0, .inr (7, [.ref tp, .int (nI tn), v2, v3, v4, v5, v6])), (tp, .inl (cB, 4000, .inl f))] s.heap.size) (fun u : Unit => [(h0, .inr (7, [.ref tp, .int (nI tn), v2, v3, v4, v5, v6])), (tp, .inl (cB, 4000, .inl f))]) ux9 t := ⟨trivial, hB9⟩
    have hP1 : va_P (dC, dI) vwCl [(h0, .inr (7, [.ref tp, .int (nI tn), v2, v3, v4, v5, v6])), (tp, .inl (cB, 4000, .inl f))] H1 := by rw [← ht]; exact hB.2.1
    have hD1 : va_D (va_A [(h0, .inr (7, [.ref tp, .int (nI tn), v2, v3, v4, v5, v6])), (tp, .inl (cB, 4000, .inl f))] s.heap.size) [(h0, .inr (7, [.ref tp, .int (nI tn), v2, v3, v4, v5, v6])), (tp, .inl (cB, 4000, .inl f))] := hB.2.2.2
    obtain ⟨hP, hD⟩ := va_join (wr := [(ou, .inl (cJ, 1, .inr (.inl of)))]) (w1 := [(h0, .inr (7, [.ref tp, .int (nI tn), v2, v3, v4, v5, v6])), (tp, .inl (cB, 4000, .inl f))]) hP hD [0, 1] [2] rfl rfl (by decide) (by decide) hk1 hFc hP1 hD1
    generalize H1 = H at hP hS hce9 ⊢
    try dsimp only at hw hEe
    subst hEe
    have hP : va_P (dC, dI) vwCl [(ou, .inl (cJ, 1, .inr (.inl of))), (h0, .inr (7, [.ref tp, .int (nI tn), v2, v3, v4, v5, v6])), (tp, .inl (cB, 4000, .inl f))] H := hP
    have hD : va_D A [(ou, .inl (cJ, 1, .inr (.inl of))), (h0, .inr (7, [.ref tp, .int (nI tn), v2, v3, v4, v5, v6])), (tp, .inl (cB, 4000, .inl f))] := hD
    rcases hw.1 with hE8 | hE8
    · subst hE8
      have hX := hw.2.1 rfl
      refine vx_catch (name := "java/lang/IllegalArgumentException") hown [] xt1 [xt2] htb (fun z hz => nomatch hz) (by simp [covers, et11, et12]) (by rw [et14]; decide) (by rw [et14]; exact hts (.classLink RL 19 "java/lang/IllegalArgumentException") (by decide +kernel)) (va_Nw.use rfl (zC_IllegalArgumentException hE)) hce9 hcv9 hcl9 ?_
      rw [et13]
      refine lv_astore (lv' := [(5, .ref q9), (0, .ref h0), (1, .int sd), (2, .int bd), (3, .int k), (4, .ref ou)]) hx hb dL_fill_15 hl (by decide) rfl (fun ls hl => ?_)
      refine lv_iconst (v := 1) hx hb dL_fill_17 (by decide) ?_
      have hP9 := hP.sub (ws' := [(h0, .inr (7, [.ref tp, .int (nI tn), v2, v3, v4, v5, v6])), (tp, .inl (cB, 4000, .inl f)), (ou, .inl (cJ, 1, .inr (.inl of)))]) [1, 2, 0] rfl
      have hD9 := hD.sub (ws' := [(h0, .inr (7, [.ref tp, .int (nI tn), v2, v3, v4, v5, v6])), (tp, .inl (cB, 4000, .inl f)), (ou, .inl (cJ, 1, .inr (.inl of)))]) [1, 2, 0] (by decide) rfl
      exact W.iret (v := 1) hx hb hr (fun t ht hW => ⟨⟨1, (f, tn, of), rfl, Or.inr (Or.inl ⟨hX, rfl, rfl, rfl⟩), ⟨by rw [ht]; exact hP9, va_K.moved hW.alike hK, hD9⟩⟩, hS.F ht⟩) hS.2.2 dL_fill_18
    · subst hE8
      have hX := hw.2.2 rfl
      refine vx_catch (name := "java/lang/IndexOutOfBoundsException") hown [xt1] xt2 [] htb (fun z hz => by obtain rfl := List.mem_singleton.mp hz; exact Or.inr ⟨by rw [et14]; decide, "java/lang/IllegalArgumentException", by rw [et14]; exact hts (.classLink RL 19 "java/lang/IllegalArgumentException") (by decide +kernel), hnc⟩) (by simp [covers, et21, et22]) (by rw [et24]; decide) (by rw [et24]; exact hts (.classLink RL 13 "java/lang/IndexOutOfBoundsException") (by decide +kernel)) (va_Nw.use rfl (zC_IndexOutOfBoundsException hE)) hce9 hcv9 hcl9 ?_
      rw [et23]
      refine lv_astore (lv' := [(5, .ref q9), (0, .ref h0), (1, .int sd), (2, .int bd), (3, .int k), (4, .ref ou)]) hx hb dL_fill_19 hl (by decide) rfl (fun ls hl => ?_)
      refine lv_iconst (v := 2) hx hb dL_fill_21 (by decide) ?_
      have hP9 := hP.sub (ws' := [(h0, .inr (7, [.ref tp, .int (nI tn), v2, v3, v4, v5, v6])), (tp, .inl (cB, 4000, .inl f)), (ou, .inl (cJ, 1, .inr (.inl of)))]) [1, 2, 0] rfl
      have hD9 := hD.sub (ws' := [(h0, .inr (7, [.ref tp, .int (nI tn), v2, v3, v4, v5, v6])), (tp, .inl (cB, 4000, .inl f)), (ou, .inl (cJ, 1, .inr (.inl of)))]) [1, 2, 0] (by decide) rfl
      exact W.iret (v := 2) hx hb hr (fun t ht hW => ⟨⟨2, (f, tn, of), rfl, Or.inr (Or.inr ⟨hX, rfl, rfl, rfl⟩), ⟨by rw [ht]; exact hP9, va_K.moved hW.alike hK, hD9⟩⟩, hS.F ht⟩) hS.2.2 dL_fill_22
  obtain ⟨kn, rfl⟩ : ∃ z, z = u := ⟨_, rfl⟩
  have hP1 : va_P (dC, dI) vwCl [(h0, .inr (7, [.ref tp, .int (nI (tn + kn)), v2, v3, v4, v5, v6])), (tp, .inl (cB, 4000, .inl (zfil f tn sd bd kn)))] H1 := by rw [← ht]; exact hB.1
  have hD1 : va_D (va_A [(h0, .inr (7, [.ref tp, .int (nI tn), v2, v3, v4, v5, v6])), (tp, .inl (cB, 4000, .inl f))] s.heap.size) [(h0, .inr (7, [.ref tp, .int (nI (tn + kn)), v2, v3, v4, v5, v6])), (tp, .inl (cB, 4000, .inl (zfil f tn sd bd kn)))] := hB.2.2
  obtain ⟨hP, hD⟩ := va_join (wr := [(ou, .inl (cJ, 1, .inr (.inl of)))]) (w1 := [(h0, .inr (7, [.ref tp, .int (nI (tn + kn)), v2, v3, v4, v5, v6])), (tp, .inl (cB, 4000, .inl (zfil f tn sd bd kn)))]) hP hD [0, 1] [2] rfl rfl (by decide) (by decide) hk1 hFc hP1 hD1
  generalize H1 = H at hP hS ⊢
  try dsimp only at hw
  have hP : va_P (dC, dI) vwCl [(ou, .inl (cJ, 1, .inr (.inl of))), (h0, .inr (7, [.ref tp, .int (nI (tn + kn)), v2, v3, v4, v5, v6])), (tp, .inl (cB, 4000, .inl (zfil f tn sd bd kn)))] H := hP
  have hD : va_D A [(ou, .inl (cJ, 1, .inr (.inl of))), (h0, .inr (7, [.ref tp, .int (nI (tn + kn)), v2, v3, v4, v5, v6])), (tp, .inl (cB, 4000, .inl (zfil f tn sd bd kn)))] := hD
  obtain ⟨hb1, hb2, hb3, hb4, hr7⟩ := hw
  obtain rfl : r7 = nI (tn + kn) := hr7
  refine W.eq (g2 := F0 m 10 ls [.int (nI (tn + kn)), .int 0, .ref ou]) rfl ?_
  refine lv_i2l hx hb dL_fill_10 rfl ?_
  refine va_last hx hb hK hP hD hS 0 2 rfl rfl (vp_in_nI (n := 0) (by omega) (by omega)) dL_fill_11 (fun H locs hP hD hS => ?_)
  have hP : va_P (dC, dI) vwCl [(ou, .inl (cJ, 1, .inr (.inl (vp_updL of 0 ((nI (tn + kn)).toInt64))))), (h0, .inr (7, [.ref tp, .int (nI (tn + kn)), v2, v3, v4, v5, v6])), (tp, .inl (cB, 4000, .inl (zfil f tn sd bd kn)))] H := hP
  have hD : va_D A [(ou, .inl (cJ, 1, .inr (.inl (vp_updL of 0 ((nI (tn + kn)).toInt64))))), (h0, .inr (7, [.ref tp, .int (nI (tn + kn)), v2, v3, v4, v5, v6])), (tp, .inl (cB, 4000, .inl (zfil f tn sd bd kn)))] := hD
  refine lv_goto (tgt := 23) hx hb dL_fill_12 (by decide) ?_
  refine lv_iconst (v := 0) hx hb dL_fill_23 (by decide) ?_
  have hP9 := hP.sub (ws' := [(h0, .inr (7, [.ref tp, .int (nI (tn + kn)), v2, v3, v4, v5, v6])), (tp, .inl (cB, 4000, .inl (zfil f tn sd bd kn))), (ou, .inl (cJ, 1, .inr (.inl (vp_updL of 0 ((nI (tn + kn)).toInt64)))))]) [1, 2, 0] rfl
  have hD9 := hD.sub (ws' := [(h0, .inr (7, [.ref tp, .int (nI (tn + kn)), v2, v3, v4, v5, v6])), (tp, .inl (cB, 4000, .inl (zfil f tn sd bd kn))), (ou, .inl (cJ, 1, .inr (.inl (vp_updL of 0 ((nI (tn + kn)).toInt64)))))]) [1, 2, 0] (by decide) rfl
  refine W.widen (k := 1) (n := 6) (by omega) (by omega) ?_
  exact W.iret (v := 0) hx hb hr (fun t ht hW => ⟨⟨0, (zfil f tn sd bd kn, tn + kn, vp_updL of 0 ((nI (tn + kn)).toInt64)), rfl, Or.inl ⟨kn, hb1, hb2, hb3, hb4, rfl, rfl, rfl, rfl⟩, ⟨by rw [ht]; exact hP9, va_K.moved hW.alike hK, hD9⟩⟩, hS.F ht⟩) hS.2.2 dL_fill_24

abbrev rm_L_back : Room := { frames := 7, cells := 1, slots := 6, locals := 116 }
abbrev wo_L_back (dC : Nat → ClassId) (dI : Nat → Nat → Nat) (cB cI cJ cM : ClassId) (h0 tp rp ou : Nat) (v4 v5 v6 : Value) (of : Nat → Int64) (f g : Nat → Int32) (tn : Int32) (rn : Nat) : va_W := [(h0, .inr (7, [.ref tp, .int tn, .ref rp, .int (nI rn), v4, v5, v6])), (tp, .inl (cB, 4000, .inl f)), (rp, .inl (cB, 8192, .inl g)), (ou, .inl (cJ, 1, .inr (.inl of)))]
abbrev q_L_back (dC : Nat → ClassId) (dI : Nat → Nat → Nat) (cB cI cJ cM : ClassId) (h0 tp rp ou : Nat) (v4 v5 v6 : Value) (of : Nat → Int64) (f g : Nat → Int32) (tn : Int32) (rn : Nat) (A : Nat → Prop) : Array Value → State → Outcome → State → Prop := va_Qi (fun (r : Int32) (u : (Nat → Int32) × Int32 × (Nat → Int64)) => (rn ≤ 4000 ∧ r = 0 ∧ (∀ j, u.1 j = if j < rn then g j else f j) ∧ u.2.1 = nI rn ∧ u.2.2 0 = (nI rn).toInt64) ∨ (4000 < rn ∧ r = 1 ∧ u.1 = f ∧ u.2.1 = tn)) (zB dC dI cB cI cJ cM A (fun u : (Nat → Int32) × Int32 × (Nat → Int64) => [(h0, .inr (7, [.ref tp, .int u.2.1, .ref rp, .int (nI rn), v4, v5, v6])), (tp, .inl (cB, 4000, .inl u.1)), (rp, .inl (cB, 8192, .inl g)), (ou, .inl (cJ, 1, .inr (.inl u.2.2)))])) A
set_option maxHeartbeats 8000000 in
set_option maxRecDepth 100000 in
/-- back, caught -/
theorem k_L_back (l : Launch) (hl9 : l.stackTraces = false) (dC : Nat → ClassId) (dI : Nat → Nat → Nat) (cB cI cJ cM : ClassId) (h0 tp rp ou : Nat) (v4 v5 v6 : Value) (of : Nat → Int64) (f g : Nat → Int32) (tn : Int32) (rn : Nat) (h1 : rn ≤ 8192) (hby : zBy g rn) (sz : Nat) : Met l yL_back wsL_back rm_L_back (va_Pc [.ref h0, .ref ou] (fun U => U.heap.size = sz ∧ va_P (dC, dI) vwCl (wo_L_back dC dI cB cI cJ cM h0 tp rp ou v4 v5 v6 of f g tn rn) U.heap ∧ va_K (dC, dI) vwCl (zT cB cI cJ cM) U ∧ va_D (fun _ => True) (wo_L_back dC dI cB cI cJ cM h0 tp rp ou v4 v5 v6 of f g tn rn) ∧ zE (va_A (wo_L_back dC dI cB cI cJ cM h0 tp rp ou v4 v5 v6 of f g tn rn) sz) U)) (q_L_back dC dI cB cI cJ cM h0 tp rp ou v4 v5 v6 of f g tn rn (va_A (wo_L_back dC dI cB cI cJ cM h0 tp rp ou v4 v5 v6 of f g tn rn) sz)) 1 6 (va_A (wo_L_back dC dI cB cI cJ cM h0 tp rp ou v4 v5 v6 of f g tn rn) sz) := by
  refine va_MetW (cc := cL_back) (maxL := 3) (ret := (some .int)) (hh := [(0, 8, 11, 13)]) (by decide) rfl ?_
  intro p e s m args below meth c s₁ B hml hv
  obtain ⟨rfl, hsz, hP, hK, hD0, hE⟩ := hv
  have hx := B.exec
  have hb := B.bytes
  have hr := B.returns
  have hts := atoms_spec (ws := wsL_back) B.pre
  have hown : s.vm.findClass RL = some m.cls := findClass_of_methodNamed B.named
  have hlocks := B.notSynchronized
  have htb0 := zz_tab B (hts _ List.mem_cons_self)
  obtain ⟨xt1, htb, hxt1⟩ := zz_tab1 htb0
  simp only [Prod.mk.injEq] at hxt1
  obtain ⟨et11, et12, et13, et14⟩ := hxt1
  subst hsz
  have hD := hD0.self (sz := s.heap.size)
  generalize hAe : va_A (wo_L_back dC dI cB cI cJ cM h0 tp rp ou v4 v5 v6 of f g tn rn) s.heap.size = A at hD hE ⊢
  have hA : ∀ q : Nat, s.heap.size ≤ q → A q := fun q h => by rw [← hAe]; exact Or.inr h
  have hS : va_S A s.heap s.heap [] := va_S.rf
  have hP : va_P (dC, dI) vwCl [(h0, .inr (7, [.ref tp, .int tn, .ref rp, .int (nI rn), v4, v5, v6])), (tp, .inl (cB, 4000, .inl f)), (rp, .inl (cB, 8192, .inl g)), (ou, .inl (cJ, 1, .inr (.inl of)))] s.heap := hP
  have hD : va_D A [(h0, .inr (7, [.ref tp, .int tn, .ref rp, .int (nI rn), v4, v5, v6])), (tp, .inl (cB, 4000, .inl f)), (rp, .inl (cB, 8192, .inl g)), (ou, .inl (cJ, 1, .inr (.inl of)))] := hD
  have hl := lv_entry ([.ref h0, .ref ou]) (n := 3) (Nat.le_of_ble_eq_true rfl)
  rw [lg_entry_eq]
  generalize (lg_sl ([.ref h0, .ref ou]) ++ List.replicate (3 - (lg_sl ([.ref h0, .ref ou])).length) Slot.unset).toArray = ls at hl ⊢
  have hl : lv_has ls 3 [(0, .ref h0), (1, .ref ou)] := hl
  refine lv_aload_n hx hb dL_back_0 rfl (lv_at hl 1 rfl) ?_
  refine lv_iconst (v := 0) hx hb dL_back_1 (by decide) ?_
  refine lv_aload_n hx hb dL_back_2 rfl (lv_at hl 0 rfl) ?_
  have hPc := hP.sub (ws' := [(h0, .inr (7, [.ref tp, .int tn, .ref rp, .int (nI rn), v4, v5, v6])), (tp, .inl (cB, 4000, .inl f)), (rp, .inl (cB, 8192, .inl g))]) [0, 1, 2] rfl
  have hDc := hD.sub (ws' := [(h0, .inr (7, [.ref tp, .int tn, .ref rp, .int (nI rn), v4, v5, v6])), (tp, .inl (cB, 4000, .inl f)), (rp, .inl (cB, 8192, .inl g))]) [0, 1, 2] (by decide) rfl
  have hFc := va_free (wc := [(h0, .inr (7, [.ref tp, .int tn, .ref rp, .int (nI rn), v4, v5, v6])), (tp, .inl (cB, 4000, .inl f)), (rp, .inl (cB, 8192, .inl g))]) hD hS hA [0, 1, 2] rfl
  refine vx_calli (vx_runV (As := []) (rest := [.int 0, .ref ou]) ⟨hx, hb, hml, hown, hts⟩ (k_X7_back l hl9 dC dI cB cI cJ cM h0 tp rp v4 v5 v6 f g tn rn (by omega) (hby) s.heap.size) (cwV 0 hts gL_back_X7_back rfl rfl rfl (by decide +kernel) ⟨Nat.le_of_ble_eq_true rfl, Nat.le_of_ble_eq_true rfl⟩) ⟨fun a U g mk q => by obtain ⟨q0, q1, qP, qK, qD, qE⟩ := q; exact ⟨q0, q1, qP, va_K.moved (u := U) (U := U.calling g mk a) (Vm.Alike.refl U.vm) qK, qD, zE.blind qE⟩, va_recv hK hPc (ci := 7) (q0 := 0) rfl rfl, fun U hU hW => ⟨rfl, by rw [hU], by rw [hU]; exact hPc, va_K.moved hW.alike hK, hDc.weaken (fun _ _ _ _ => trivial), zE.call hE hS hU hW hFc⟩⟩ rfl rfl hl.1 rfl (lv_room (Nat.le_of_ble_eq_true rfl)) dL_back_3 ⟨(show 0 + 1 ≤ 1 by omega), (show 0 + 6 ≤ 6 by omega)⟩) hS (fun q _ h => hFc q h) hFc (fun q _ h => hFc q h) (fun E8 ce9 q9 ux t H1 locs ht hvm hw hB hz1 hk1 hS hce9 hcv9 hcl9 => ?_) (fun r3 u t H1 locs ht hvm hw hB hz1 hk1 hS => ?_)
  · obtain ⟨E9, ux9⟩ := ux
    obtain ⟨hEe, hB9⟩ := hB
    have hB : True ∧ zB dC dI cB cI cJ cM (va_A [(h0, .inr (7, [.ref tp, .int tn, .ref rp, .int (nI rn), v4, v5, v6])), (tp, .inl (cB, 4000, .inl f)), (rp, .inl (cB, 8192, .inl g))] s.heap.size) (fun u : Unit => [(h0, .inr (7, [.ref tp, .int tn, .ref rp, .int (nI rn), v4, v5, v6])), (tp, .inl (cB, 4000, .inl f)), (rp, .inl (cB, 8192, .inl g))]) ux9 t := ⟨trivial, hB9⟩
    have hP1 : va_P (dC, dI) vwCl [(h0, .inr (7, [.ref tp, .int tn, .ref rp, .int (nI rn), v4, v5, v6])), (tp, .inl (cB, 4000, .inl f)), (rp, .inl (cB, 8192, .inl g))] H1 := by rw [← ht]; exact hB.2.1
    have hD1 : va_D (va_A [(h0, .inr (7, [.ref tp, .int tn, .ref rp, .int (nI rn), v4, v5, v6])), (tp, .inl (cB, 4000, .inl f)), (rp, .inl (cB, 8192, .inl g))] s.heap.size) [(h0, .inr (7, [.ref tp, .int tn, .ref rp, .int (nI rn), v4, v5, v6])), (tp, .inl (cB, 4000, .inl f)), (rp, .inl (cB, 8192, .inl g))] := hB.2.2.2
    obtain ⟨hP, hD⟩ := va_join (wr := [(ou, .inl (cJ, 1, .inr (.inl of)))]) (w1 := [(h0, .inr (7, [.ref tp, .int tn, .ref rp, .int (nI rn), v4, v5, v6])), (tp, .inl (cB, 4000, .inl f)), (rp, .inl (cB, 8192, .inl g))]) hP hD [0, 1, 2] [3] rfl rfl (by decide) (by decide) hk1 hFc hP1 hD1
    generalize H1 = H at hP hS hce9 ⊢
    try dsimp only at hw hEe
    subst hEe
    have hP : va_P (dC, dI) vwCl [(ou, .inl (cJ, 1, .inr (.inl of))), (h0, .inr (7, [.ref tp, .int tn, .ref rp, .int (nI rn), v4, v5, v6])), (tp, .inl (cB, 4000, .inl f)), (rp, .inl (cB, 8192, .inl g))] H := hP
    have hD : va_D A [(ou, .inl (cJ, 1, .inr (.inl of))), (h0, .inr (7, [.ref tp, .int tn, .ref rp, .int (nI rn), v4, v5, v6])), (tp, .inl (cB, 4000, .inl f)), (rp, .inl (cB, 8192, .inl g))] := hD
    have hE8 := hw.1
    subst hE8
    have hX := hw.2
    refine vx_catch (name := "java/lang/IndexOutOfBoundsException") hown [] xt1 [] htb (fun z hz => nomatch hz) (by simp [covers, et11, et12]) (by rw [et14]; decide) (by rw [et14]; exact hts (.classLink RL 13 "java/lang/IndexOutOfBoundsException") (by decide +kernel)) (va_Nw.use rfl (zC_IndexOutOfBoundsException hE)) hce9 hcv9 hcl9 ?_
    rw [et13]
    refine lv_astore_n (lv' := [(2, .ref q9), (0, .ref h0), (1, .ref ou)]) hx hb dL_back_11 rfl hl (by decide) rfl (fun ls hl => ?_)
    refine lv_iconst (v := 1) hx hb dL_back_12 (by decide) ?_
    have hP9 := hP.sub (ws' := [(h0, .inr (7, [.ref tp, .int tn, .ref rp, .int (nI rn), v4, v5, v6])), (tp, .inl (cB, 4000, .inl f)), (rp, .inl (cB, 8192, .inl g)), (ou, .inl (cJ, 1, .inr (.inl of)))]) [1, 2, 3, 0] rfl
    have hD9 := hD.sub (ws' := [(h0, .inr (7, [.ref tp, .int tn, .ref rp, .int (nI rn), v4, v5, v6])), (tp, .inl (cB, 4000, .inl f)), (rp, .inl (cB, 8192, .inl g)), (ou, .inl (cJ, 1, .inr (.inl of)))]) [1, 2, 3, 0] (by decide) rfl
    exact W.iret (v := 1) hx hb hr (fun t ht hW => ⟨⟨1, (f, tn, of), rfl, Or.inr ⟨hX, rfl, rfl, rfl⟩, ⟨by rw [ht]; exact hP9, va_K.moved hW.alike hK, hD9⟩⟩, hS.F ht⟩) hS.2.2 dL_back_13
  obtain ⟨f9, rfl⟩ : ∃ z, z = u := ⟨_, rfl⟩
  have hP1 : va_P (dC, dI) vwCl [(h0, .inr (7, [.ref tp, .int (nI rn), .ref rp, .int (nI rn), v4, v5, v6])), (tp, .inl (cB, 4000, .inl f9)), (rp, .inl (cB, 8192, .inl g))] H1 := by rw [← ht]; exact hB.1
  have hD1 : va_D (va_A [(h0, .inr (7, [.ref tp, .int tn, .ref rp, .int (nI rn), v4, v5, v6])), (tp, .inl (cB, 4000, .inl f)), (rp, .inl (cB, 8192, .inl g))] s.heap.size) [(h0, .inr (7, [.ref tp, .int (nI rn), .ref rp, .int (nI rn), v4, v5, v6])), (tp, .inl (cB, 4000, .inl f9)), (rp, .inl (cB, 8192, .inl g))] := hB.2.2
  obtain ⟨hP, hD⟩ := va_join (wr := [(ou, .inl (cJ, 1, .inr (.inl of)))]) (w1 := [(h0, .inr (7, [.ref tp, .int (nI rn), .ref rp, .int (nI rn), v4, v5, v6])), (tp, .inl (cB, 4000, .inl f9)), (rp, .inl (cB, 8192, .inl g))]) hP hD [0, 1, 2] [3] rfl rfl (by decide) (by decide) hk1 hFc hP1 hD1
  generalize H1 = H at hP hS ⊢
  try dsimp only at hw
  have hP : va_P (dC, dI) vwCl [(ou, .inl (cJ, 1, .inr (.inl of))), (h0, .inr (7, [.ref tp, .int (nI rn), .ref rp, .int (nI rn), v4, v5, v6])), (tp, .inl (cB, 4000, .inl f9)), (rp, .inl (cB, 8192, .inl g))] H := hP
  have hD : va_D A [(ou, .inl (cJ, 1, .inr (.inl of))), (h0, .inr (7, [.ref tp, .int (nI rn), .ref rp, .int (nI rn), v4, v5, v6])), (tp, .inl (cB, 4000, .inl f9)), (rp, .inl (cB, 8192, .inl g))] := hD
  obtain ⟨hb3, hr3, hc3⟩ := hw
  obtain rfl : r3 = nI rn := hr3
  refine W.eq (g2 := F0 m 6 ls [.int (nI rn), .int 0, .ref ou]) rfl ?_
  refine lv_i2l hx hb dL_back_6 rfl ?_
  refine va_last hx hb hK hP hD hS 0 2 rfl rfl (vp_in_nI (n := 0) (by omega) (by omega)) dL_back_7 (fun H locs hP hD hS => ?_)
  have hP : va_P (dC, dI) vwCl [(ou, .inl (cJ, 1, .inr (.inl (vp_updL of 0 ((nI rn).toInt64))))), (h0, .inr (7, [.ref tp, .int (nI rn), .ref rp, .int (nI rn), v4, v5, v6])), (tp, .inl (cB, 4000, .inl f9)), (rp, .inl (cB, 8192, .inl g))] H := hP
  have hD : va_D A [(ou, .inl (cJ, 1, .inr (.inl (vp_updL of 0 ((nI rn).toInt64))))), (h0, .inr (7, [.ref tp, .int (nI rn), .ref rp, .int (nI rn), v4, v5, v6])), (tp, .inl (cB, 4000, .inl f9)), (rp, .inl (cB, 8192, .inl g))] := hD
  refine lv_goto (tgt := 14) hx hb dL_back_8 (by decide) ?_
  refine lv_iconst (v := 0) hx hb dL_back_14 (by decide) ?_
  have hP9 := hP.sub (ws' := [(h0, .inr (7, [.ref tp, .int (nI rn), .ref rp, .int (nI rn), v4, v5, v6])), (tp, .inl (cB, 4000, .inl f9)), (rp, .inl (cB, 8192, .inl g)), (ou, .inl (cJ, 1, .inr (.inl (vp_updL of 0 ((nI rn).toInt64)))))]) [1, 2, 3, 0] rfl
  have hD9 := hD.sub (ws' := [(h0, .inr (7, [.ref tp, .int (nI rn), .ref rp, .int (nI rn), v4, v5, v6])), (tp, .inl (cB, 4000, .inl f9)), (rp, .inl (cB, 8192, .inl g)), (ou, .inl (cJ, 1, .inr (.inl (vp_updL of 0 ((nI rn).toInt64)))))]) [1, 2, 3, 0] (by decide) rfl
  refine W.widen (k := 1) (n := 6) (by omega) (by omega) ?_
  exact W.iret (v := 0) hx hb hr (fun t ht hW => ⟨⟨0, (f9, nI rn, vp_updL of 0 ((nI rn).toInt64)), rfl, Or.inl ⟨hb3, rfl, hc3, rfl, rfl⟩, ⟨by rw [ht]; exact hP9, va_K.moved hW.alike hK, hD9⟩⟩, hS.F ht⟩) hS.2.2 dL_back_15

abbrev rm_L_patch : Room := { frames := 8, cells := 1, slots := 6, locals := 141 }
abbrev wo_L_patch (dC : Nat → ClassId) (dI : Nat → Nat → Nat) (cB cI cJ cM : ClassId) (h0 tp : Nat) (v2 v3 v4 v5 v6 : Value) (ou : Nat) (of : Nat → Int64) (f : Nat → Int32) (tn : Nat) (i v : Int32) : va_W := [(h0, .inr (7, [.ref tp, .int (nI tn), v2, v3, v4, v5, v6])), (tp, .inl (cB, 4000, .inl f)), (ou, .inl (cJ, 1, .inr (.inl of)))]
abbrev q_L_patch (dC : Nat → ClassId) (dI : Nat → Nat → Nat) (cB cI cJ cM : ClassId) (h0 tp : Nat) (v2 v3 v4 v5 v6 : Value) (ou : Nat) (of : Nat → Int64) (f : Nat → Int32) (tn : Nat) (i v : Int32) (A : Nat → Prop) : Array Value → State → Outcome → State → Prop := va_Qi (fun (r : Int32) (u : (Nat → Int32) × (Nat → Int64)) => (∃ j, j < tn ∧ i = nI j ∧ r = 0 ∧ u.1 = upd f j v.toInt8.toInt32 ∧ u.2 0 = (f j &&& 255).toInt64) ∨ ((i < 0 ∨ nI tn - 1 < i) ∧ r = 1 ∧ u.1 = f)) (zB dC dI cB cI cJ cM A (fun u : (Nat → Int32) × (Nat → Int64) => [(h0, .inr (7, [.ref tp, .int (nI tn), v2, v3, v4, v5, v6])), (tp, .inl (cB, 4000, .inl u.1)), (ou, .inl (cJ, 1, .inr (.inl u.2)))])) A
set_option maxHeartbeats 8000000 in
set_option maxRecDepth 100000 in
/-- patch, caught -/
theorem k_L_patch (l : Launch) (hl9 : l.stackTraces = false) (dC : Nat → ClassId) (dI : Nat → Nat → Nat) (cB cI cJ cM : ClassId) (h0 tp : Nat) (v2 v3 v4 v5 v6 : Value) (ou : Nat) (of : Nat → Int64) (f : Nat → Int32) (tn : Nat) (i v : Int32) (h1 : tn ≤ 4000) (sz : Nat) : Met l yL_patch wsL_patch rm_L_patch (va_Pc [.ref h0, .int i, .int v, .ref ou] (fun U => U.heap.size = sz ∧ va_P (dC, dI) vwCl (wo_L_patch dC dI cB cI cJ cM h0 tp v2 v3 v4 v5 v6 ou of f tn i v) U.heap ∧ va_K (dC, dI) vwCl (zT cB cI cJ cM) U ∧ va_D (fun _ => True) (wo_L_patch dC dI cB cI cJ cM h0 tp v2 v3 v4 v5 v6 ou of f tn i v) ∧ zE (va_A (wo_L_patch dC dI cB cI cJ cM h0 tp v2 v3 v4 v5 v6 ou of f tn i v) sz) U)) (q_L_patch dC dI cB cI cJ cM h0 tp v2 v3 v4 v5 v6 ou of f tn i v (va_A (wo_L_patch dC dI cB cI cJ cM h0 tp v2 v3 v4 v5 v6 ou of f tn i v) sz)) 1 6 (va_A (wo_L_patch dC dI cB cI cJ cM h0 tp v2 v3 v4 v5 v6 ou of f tn i v) sz) := by
  refine va_MetW (cc := cL_patch) (maxL := 5) (ret := (some .int)) (hh := [(0, 10, 13, 19)]) (by decide) rfl ?_
  intro p e s m args below meth c s₁ B hml hv
  obtain ⟨rfl, hsz, hP, hK, hD0, hE⟩ := hv
  have hx := B.exec
  have hb := B.bytes
  have hr := B.returns
  have hts := atoms_spec (ws := wsL_patch) B.pre
  have hown : s.vm.findClass RL = some m.cls := findClass_of_methodNamed B.named
  have hlocks := B.notSynchronized
  have htb0 := zz_tab B (hts _ List.mem_cons_self)
  obtain ⟨xt1, htb, hxt1⟩ := zz_tab1 htb0
  simp only [Prod.mk.injEq] at hxt1
  obtain ⟨et11, et12, et13, et14⟩ := hxt1
  subst hsz
  have hD := hD0.self (sz := s.heap.size)
  generalize hAe : va_A (wo_L_patch dC dI cB cI cJ cM h0 tp v2 v3 v4 v5 v6 ou of f tn i v) s.heap.size = A at hD hE ⊢
  have hA : ∀ q : Nat, s.heap.size ≤ q → A q := fun q h => by rw [← hAe]; exact Or.inr h
  have hS : va_S A s.heap s.heap [] := va_S.rf
  have hP : va_P (dC, dI) vwCl [(h0, .inr (7, [.ref tp, .int (nI tn), v2, v3, v4, v5, v6])), (tp, .inl (cB, 4000, .inl f)), (ou, .inl (cJ, 1, .inr (.inl of)))] s.heap := hP
  have hD : va_D A [(h0, .inr (7, [.ref tp, .int (nI tn), v2, v3, v4, v5, v6])), (tp, .inl (cB, 4000, .inl f)), (ou, .inl (cJ, 1, .inr (.inl of)))] := hD
  have hl := lv_entry ([.ref h0, .int i, .int v, .ref ou]) (n := 5) (Nat.le_of_ble_eq_true rfl)
  rw [lg_entry_eq]
  generalize (lg_sl ([.ref h0, .int i, .int v, .ref ou]) ++ List.replicate (5 - (lg_sl ([.ref h0, .int i, .int v, .ref ou])).length) Slot.unset).toArray = ls at hl ⊢
  have hl : lv_has ls 5 [(0, .ref h0), (1, .int i), (2, .int v), (3, .ref ou)] := hl
  refine lv_aload_n hx hb dL_patch_0 rfl (lv_at hl 3 rfl) ?_
  refine lv_iconst (v := 0) hx hb dL_patch_1 (by decide) ?_
  refine lv_aload_n hx hb dL_patch_2 rfl (lv_at hl 0 rfl) ?_
  refine lv_iload_n hx hb dL_patch_3 rfl (lv_at hl 1 rfl) ?_
  refine lv_iload_n hx hb dL_patch_4 rfl (lv_at hl 2 rfl) ?_
  have hPc := hP.sub (ws' := [(h0, .inr (7, [.ref tp, .int (nI tn), v2, v3, v4, v5, v6])), (tp, .inl (cB, 4000, .inl f))]) [0, 1] rfl
  have hDc := hD.sub (ws' := [(h0, .inr (7, [.ref tp, .int (nI tn), v2, v3, v4, v5, v6])), (tp, .inl (cB, 4000, .inl f))]) [0, 1] (by decide) rfl
  have hFc := va_free (wc := [(h0, .inr (7, [.ref tp, .int (nI tn), v2, v3, v4, v5, v6])), (tp, .inl (cB, 4000, .inl f))]) hD hS hA [0, 1] rfl
  refine vx_calli (vx_runV (As := [.int i, .int v]) (rest := [.int 0, .ref ou]) ⟨hx, hb, hml, hown, hts⟩ (k_X7_patch l hl9 dC dI cB cI cJ cM h0 tp v2 v3 v4 v5 v6 f tn i v (by omega) s.heap.size) (cwV 2 hts gL_patch_X7_patch rfl rfl rfl (by decide +kernel) ⟨Nat.le_of_ble_eq_true rfl, Nat.le_of_ble_eq_true rfl⟩) ⟨fun a U g mk q => by obtain ⟨q0, q1, qP, qK, qD, qE⟩ := q; exact ⟨q0, q1, qP, va_K.moved (u := U) (U := U.calling g mk a) (Vm.Alike.refl U.vm) qK, qD, zE.blind qE⟩, va_recv hK hPc (ci := 7) (q0 := 0) rfl rfl, fun U hU hW => ⟨rfl, by rw [hU], by rw [hU]; exact hPc, va_K.moved hW.alike hK, hDc.weaken (fun _ _ _ _ => trivial), zE.call hE hS hU hW hFc⟩⟩ rfl rfl hl.1 rfl (lv_room (Nat.le_of_ble_eq_true rfl)) dL_patch_5 ⟨(show 0 + 1 ≤ 1 by omega), (show 0 + 6 ≤ 6 by omega)⟩) hS (fun q _ h => hFc q h) hFc (fun q _ h => hFc q h) (fun E8 ce9 q9 ux t H1 locs ht hvm hw hB hz1 hk1 hS hce9 hcv9 hcl9 => ?_) (fun r5 u t H1 locs ht hvm hw hB hz1 hk1 hS => ?_)
  · obtain ⟨E9, ux9⟩ := ux
    obtain ⟨hEe, hB9⟩ := hB
    have hB : True ∧ zB dC dI cB cI cJ cM (va_A [(h0, .inr (7, [.ref tp, .int (nI tn), v2, v3, v4, v5, v6])), (tp, .inl (cB, 4000, .inl f))] s.heap.size) (fun u : Unit => [(h0, .inr (7, [.ref tp, .int (nI tn), v2, v3, v4, v5, v6])), (tp, .inl (cB, 4000, .inl f))]) ux9 t := ⟨trivial, hB9⟩
    have hP1 : va_P (dC, dI) vwCl [(h0, .inr (7, [.ref tp, .int (nI tn), v2, v3, v4, v5, v6])), (tp, .inl (cB, 4000, .inl f))] H1 := by rw [← ht]; exact hB.2.1
    have hD1 : va_D (va_A [(h0, .inr (7, [.ref tp, .int (nI tn), v2, v3, v4, v5, v6])), (tp, .inl (cB, 4000, .inl f))] s.heap.size) [(h0, .inr (7, [.ref tp, .int (nI tn), v2, v3, v4, v5, v6])), (tp, .inl (cB, 4000, .inl f))] := hB.2.2.2
    obtain ⟨hP, hD⟩ := va_join (wr := [(ou, .inl (cJ, 1, .inr (.inl of)))]) (w1 := [(h0, .inr (7, [.ref tp, .int (nI tn), v2, v3, v4, v5, v6])), (tp, .inl (cB, 4000, .inl f))]) hP hD [0, 1] [2] rfl rfl (by decide) (by decide) hk1 hFc hP1 hD1
    generalize H1 = H at hP hS hce9 ⊢
    try dsimp only at hw hEe
    subst hEe
    have hP : va_P (dC, dI) vwCl [(ou, .inl (cJ, 1, .inr (.inl of))), (h0, .inr (7, [.ref tp, .int (nI tn), v2, v3, v4, v5, v6])), (tp, .inl (cB, 4000, .inl f))] H := hP
    have hD : va_D A [(ou, .inl (cJ, 1, .inr (.inl of))), (h0, .inr (7, [.ref tp, .int (nI tn), v2, v3, v4, v5, v6])), (tp, .inl (cB, 4000, .inl f))] := hD
    have hE8 := hw.1
    subst hE8
    have hX := hw.2
    refine vx_catch (name := "java/lang/IllegalArgumentException") hown [] xt1 [] htb (fun z hz => nomatch hz) (by simp [covers, et11, et12]) (by rw [et14]; decide) (by rw [et14]; exact hts (.classLink RL 19 "java/lang/IllegalArgumentException") (by decide +kernel)) (va_Nw.use rfl (zC_IllegalArgumentException hE)) hce9 hcv9 hcl9 ?_
    rw [et13]
    refine lv_astore (lv' := [(4, .ref q9), (0, .ref h0), (1, .int i), (2, .int v), (3, .ref ou)]) hx hb dL_patch_13 hl (by decide) rfl (fun ls hl => ?_)
    refine lv_iconst (v := 1) hx hb dL_patch_15 (by decide) ?_
    have hP9 := hP.sub (ws' := [(h0, .inr (7, [.ref tp, .int (nI tn), v2, v3, v4, v5, v6])), (tp, .inl (cB, 4000, .inl f)), (ou, .inl (cJ, 1, .inr (.inl of)))]) [1, 2, 0] rfl
    have hD9 := hD.sub (ws' := [(h0, .inr (7, [.ref tp, .int (nI tn), v2, v3, v4, v5, v6])), (tp, .inl (cB, 4000, .inl f)), (ou, .inl (cJ, 1, .inr (.inl of)))]) [1, 2, 0] (by decide) rfl
    exact W.iret (v := 1) hx hb hr (fun t ht hW => ⟨⟨1, (f, of), rfl, Or.inr ⟨hX, rfl, rfl⟩, ⟨by rw [ht]; exact hP9, va_K.moved hW.alike hK, hD9⟩⟩, hS.F ht⟩) hS.2.2 dL_patch_16
  obtain ⟨j, rfl⟩ : ∃ z, z = u := ⟨_, rfl⟩
  have hP1 : va_P (dC, dI) vwCl [(h0, .inr (7, [.ref tp, .int (nI tn), v2, v3, v4, v5, v6])), (tp, .inl (cB, 4000, .inl (upd f j v.toInt8.toInt32)))] H1 := by rw [← ht]; exact hB.1
  have hD1 : va_D (va_A [(h0, .inr (7, [.ref tp, .int (nI tn), v2, v3, v4, v5, v6])), (tp, .inl (cB, 4000, .inl f))] s.heap.size) [(h0, .inr (7, [.ref tp, .int (nI tn), v2, v3, v4, v5, v6])), (tp, .inl (cB, 4000, .inl (upd f j v.toInt8.toInt32)))] := hB.2.2
  obtain ⟨hP, hD⟩ := va_join (wr := [(ou, .inl (cJ, 1, .inr (.inl of)))]) (w1 := [(h0, .inr (7, [.ref tp, .int (nI tn), v2, v3, v4, v5, v6])), (tp, .inl (cB, 4000, .inl (upd f j v.toInt8.toInt32)))]) hP hD [0, 1] [2] rfl rfl (by decide) (by decide) hk1 hFc hP1 hD1
  generalize H1 = H at hP hS ⊢
  try dsimp only at hw
  have hP : va_P (dC, dI) vwCl [(ou, .inl (cJ, 1, .inr (.inl of))), (h0, .inr (7, [.ref tp, .int (nI tn), v2, v3, v4, v5, v6])), (tp, .inl (cB, 4000, .inl (upd f j v.toInt8.toInt32)))] H := hP
  have hD : va_D A [(ou, .inl (cJ, 1, .inr (.inl of))), (h0, .inr (7, [.ref tp, .int (nI tn), v2, v3, v4, v5, v6])), (tp, .inl (cB, 4000, .inl (upd f j v.toInt8.toInt32)))] := hD
  obtain ⟨hb1, hb2, hr5⟩ := hw
  obtain rfl : r5 = f j &&& 255 := hr5
  refine W.eq (g2 := F0 m 8 ls [.int (f j &&& 255), .int 0, .ref ou]) rfl ?_
  refine lv_i2l hx hb dL_patch_8 rfl ?_
  refine va_last hx hb hK hP hD hS 0 2 rfl rfl (vp_in_nI (n := 0) (by omega) (by omega)) dL_patch_9 (fun H locs hP hD hS => ?_)
  have hP : va_P (dC, dI) vwCl [(ou, .inl (cJ, 1, .inr (.inl (vp_updL of 0 ((f j &&& 255).toInt64))))), (h0, .inr (7, [.ref tp, .int (nI tn), v2, v3, v4, v5, v6])), (tp, .inl (cB, 4000, .inl (upd f j v.toInt8.toInt32)))] H := hP
  have hD : va_D A [(ou, .inl (cJ, 1, .inr (.inl (vp_updL of 0 ((f j &&& 255).toInt64))))), (h0, .inr (7, [.ref tp, .int (nI tn), v2, v3, v4, v5, v6])), (tp, .inl (cB, 4000, .inl (upd f j v.toInt8.toInt32)))] := hD
  refine lv_goto (tgt := 17) hx hb dL_patch_10 (by decide) ?_
  refine lv_iconst (v := 0) hx hb dL_patch_17 (by decide) ?_
  have hP9 := hP.sub (ws' := [(h0, .inr (7, [.ref tp, .int (nI tn), v2, v3, v4, v5, v6])), (tp, .inl (cB, 4000, .inl (upd f j v.toInt8.toInt32))), (ou, .inl (cJ, 1, .inr (.inl (vp_updL of 0 ((f j &&& 255).toInt64)))))]) [1, 2, 0] rfl
  have hD9 := hD.sub (ws' := [(h0, .inr (7, [.ref tp, .int (nI tn), v2, v3, v4, v5, v6])), (tp, .inl (cB, 4000, .inl (upd f j v.toInt8.toInt32))), (ou, .inl (cJ, 1, .inr (.inl (vp_updL of 0 ((f j &&& 255).toInt64)))))]) [1, 2, 0] (by decide) rfl
  refine W.widen (k := 1) (n := 6) (by omega) (by omega) ?_
  exact W.iret (v := 0) hx hb hr (fun t ht hW => ⟨⟨0, (upd f j v.toInt8.toInt32, vp_updL of 0 ((f j &&& 255).toInt64)), rfl, Or.inl ⟨j, hb1, hb2, rfl, rfl, rfl⟩, ⟨by rw [ht]; exact hP9, va_K.moved hW.alike hK, hD9⟩⟩, hS.F ht⟩) hS.2.2 dL_patch_18

abbrev rm_L_word : Room := { frames := 7, cells := 1, slots := 6, locals := 120 }
abbrev wo_L_word (dC : Nat → ClassId) (dI : Nat → Nat → Nat) (cB cI cJ cM : ClassId) (h0 tp rp ou : Nat) (v1 v4 v5 v6 : Value) (of : Nat → Int64) (f : Nat → Int32) (rn : Nat) (i : Int32) : va_W := [(h0, .inr (7, [.ref tp, v1, .ref rp, .int (nI rn), v4, v5, v6])), (rp, .inl (cB, 8192, .inl f)), (ou, .inl (cJ, 1, .inr (.inl of)))]
abbrev q_L_word (dC : Nat → ClassId) (dI : Nat → Nat → Nat) (cB cI cJ cM : ClassId) (h0 tp rp ou : Nat) (v1 v4 v5 v6 : Value) (of : Nat → Int64) (f : Nat → Int32) (rn : Nat) (i : Int32) (A : Nat → Prop) : Array Value → State → Outcome → State → Prop := va_Qi (fun (r : Int32) (u : Nat → Int64) => (∃ j, j < rn ∧ i = nI j ∧ r = 0 ∧ u 0 = zwd f rn j 8) ∨ ((i < 0 ∨ nI rn ≤ i) ∧ r = 1)) (zB dC dI cB cI cJ cM A (fun u : Nat → Int64 => [(h0, .inr (7, [.ref tp, v1, .ref rp, .int (nI rn), v4, v5, v6])), (rp, .inl (cB, 8192, .inl f)), (ou, .inl (cJ, 1, .inr (.inl u)))])) A
set_option maxHeartbeats 8000000 in
set_option maxRecDepth 100000 in
/-- word, caught -/
theorem k_L_word (l : Launch) (hl9 : l.stackTraces = false) (dC : Nat → ClassId) (dI : Nat → Nat → Nat) (cB cI cJ cM : ClassId) (h0 tp rp ou : Nat) (v1 v4 v5 v6 : Value) (of : Nat → Int64) (f : Nat → Int32) (rn : Nat) (i : Int32) (h1 : rn ≤ 8192) (sz : Nat) : Met l yL_word wsL_word rm_L_word (va_Pc [.ref h0, .int i, .ref ou] (fun U => U.heap.size = sz ∧ va_P (dC, dI) vwCl (wo_L_word dC dI cB cI cJ cM h0 tp rp ou v1 v4 v5 v6 of f rn i) U.heap ∧ va_K (dC, dI) vwCl (zT cB cI cJ cM) U ∧ va_D (fun _ => True) (wo_L_word dC dI cB cI cJ cM h0 tp rp ou v1 v4 v5 v6 of f rn i) ∧ zE (va_A (wo_L_word dC dI cB cI cJ cM h0 tp rp ou v1 v4 v5 v6 of f rn i) sz) U)) (q_L_word dC dI cB cI cJ cM h0 tp rp ou v1 v4 v5 v6 of f rn i (va_A (wo_L_word dC dI cB cI cJ cM h0 tp rp ou v1 v4 v5 v6 of f rn i) sz)) 1 6 (va_A (wo_L_word dC dI cB cI cJ cM h0 tp rp ou v1 v4 v5 v6 of f rn i) sz) := by
  refine va_MetW (cc := cL_word) (maxL := 4) (ret := (some .int)) (hh := [(0, 8, 11, 13)]) (by decide) rfl ?_
  intro p e s m args below meth c s₁ B hml hv
  obtain ⟨rfl, hsz, hP, hK, hD0, hE⟩ := hv
  have hx := B.exec
  have hb := B.bytes
  have hr := B.returns
  have hts := atoms_spec (ws := wsL_word) B.pre
  have hown : s.vm.findClass RL = some m.cls := findClass_of_methodNamed B.named
  have hlocks := B.notSynchronized
  have htb0 := zz_tab B (hts _ List.mem_cons_self)
  obtain ⟨xt1, htb, hxt1⟩ := zz_tab1 htb0
  simp only [Prod.mk.injEq] at hxt1
  obtain ⟨et11, et12, et13, et14⟩ := hxt1
  subst hsz
  have hD := hD0.self (sz := s.heap.size)
  generalize hAe : va_A (wo_L_word dC dI cB cI cJ cM h0 tp rp ou v1 v4 v5 v6 of f rn i) s.heap.size = A at hD hE ⊢
  have hA : ∀ q : Nat, s.heap.size ≤ q → A q := fun q h => by rw [← hAe]; exact Or.inr h
  have hS : va_S A s.heap s.heap [] := va_S.rf
  have hP : va_P (dC, dI) vwCl [(h0, .inr (7, [.ref tp, v1, .ref rp, .int (nI rn), v4, v5, v6])), (rp, .inl (cB, 8192, .inl f)), (ou, .inl (cJ, 1, .inr (.inl of)))] s.heap := hP
  have hD : va_D A [(h0, .inr (7, [.ref tp, v1, .ref rp, .int (nI rn), v4, v5, v6])), (rp, .inl (cB, 8192, .inl f)), (ou, .inl (cJ, 1, .inr (.inl of)))] := hD
  have hl := lv_entry ([.ref h0, .int i, .ref ou]) (n := 4) (Nat.le_of_ble_eq_true rfl)
  rw [lg_entry_eq]
  generalize (lg_sl ([.ref h0, .int i, .ref ou]) ++ List.replicate (4 - (lg_sl ([.ref h0, .int i, .ref ou])).length) Slot.unset).toArray = ls at hl ⊢
  have hl : lv_has ls 4 [(0, .ref h0), (1, .int i), (2, .ref ou)] := hl
  refine lv_aload_n hx hb dL_word_0 rfl (lv_at hl 2 rfl) ?_
  refine lv_iconst (v := 0) hx hb dL_word_1 (by decide) ?_
  refine lv_aload_n hx hb dL_word_2 rfl (lv_at hl 0 rfl) ?_
  refine lv_iload_n hx hb dL_word_3 rfl (lv_at hl 1 rfl) ?_
  have hPc := hP.sub (ws' := [(h0, .inr (7, [.ref tp, v1, .ref rp, .int (nI rn), v4, v5, v6])), (rp, .inl (cB, 8192, .inl f))]) [0, 1] rfl
  have hDc := hD.sub (ws' := [(h0, .inr (7, [.ref tp, v1, .ref rp, .int (nI rn), v4, v5, v6])), (rp, .inl (cB, 8192, .inl f))]) [0, 1] (by decide) rfl
  have hFc := va_free (wc := [(h0, .inr (7, [.ref tp, v1, .ref rp, .int (nI rn), v4, v5, v6])), (rp, .inl (cB, 8192, .inl f))]) hD hS hA [0, 1] rfl
  refine vx_calll (vx_runV (As := [.int i]) (rest := [.int 0, .ref ou]) ⟨hx, hb, hml, hown, hts⟩ (k_X7_word l hl9 dC dI cB cI cJ cM h0 tp rp v1 v4 v5 v6 f rn i (by omega) s.heap.size) (cwV 1 hts gL_word_X7_word rfl rfl rfl (by decide +kernel) ⟨Nat.le_of_ble_eq_true rfl, Nat.le_of_ble_eq_true rfl⟩) ⟨fun a U g mk q => by obtain ⟨q0, q1, qP, qK, qD, qE⟩ := q; exact ⟨q0, q1, qP, va_K.moved (u := U) (U := U.calling g mk a) (Vm.Alike.refl U.vm) qK, qD, zE.blind qE⟩, va_recv hK hPc (ci := 7) (q0 := 0) rfl rfl, fun U hU hW => ⟨rfl, by rw [hU], by rw [hU]; exact hPc, va_K.moved hW.alike hK, hDc.weaken (fun _ _ _ _ => trivial), zE.call hE hS hU hW hFc⟩⟩ rfl rfl hl.1 rfl (lv_room (Nat.le_of_ble_eq_true rfl)) dL_word_4 ⟨(show 0 + 1 ≤ 1 by omega), (show 0 + 6 ≤ 6 by omega)⟩) hS (fun q _ h => hFc q h) hFc (fun q _ h => hFc q h) (fun E8 ce9 q9 ux t H1 locs ht hvm hw hB hz1 hk1 hS hce9 hcv9 hcl9 => ?_) (fun r4 u t H1 locs ht hvm hw hB hz1 hk1 hS => ?_)
  · obtain ⟨E9, ux9⟩ := ux
    obtain ⟨hEe, hB9⟩ := hB
    have hB : True ∧ zB dC dI cB cI cJ cM (va_A [(h0, .inr (7, [.ref tp, v1, .ref rp, .int (nI rn), v4, v5, v6])), (rp, .inl (cB, 8192, .inl f))] s.heap.size) (fun u : Unit => [(h0, .inr (7, [.ref tp, v1, .ref rp, .int (nI rn), v4, v5, v6])), (rp, .inl (cB, 8192, .inl f))]) ux9 t := ⟨trivial, hB9⟩
    have hP1 : va_P (dC, dI) vwCl [(h0, .inr (7, [.ref tp, v1, .ref rp, .int (nI rn), v4, v5, v6])), (rp, .inl (cB, 8192, .inl f))] H1 := by rw [← ht]; exact hB.2.1
    have hD1 : va_D (va_A [(h0, .inr (7, [.ref tp, v1, .ref rp, .int (nI rn), v4, v5, v6])), (rp, .inl (cB, 8192, .inl f))] s.heap.size) [(h0, .inr (7, [.ref tp, v1, .ref rp, .int (nI rn), v4, v5, v6])), (rp, .inl (cB, 8192, .inl f))] := hB.2.2.2
    obtain ⟨hP, hD⟩ := va_join (wr := [(ou, .inl (cJ, 1, .inr (.inl of)))]) (w1 := [(h0, .inr (7, [.ref tp, v1, .ref rp, .int (nI rn), v4, v5, v6])), (rp, .inl (cB, 8192, .inl f))]) hP hD [0, 1] [2] rfl rfl (by decide) (by decide) hk1 hFc hP1 hD1
    generalize H1 = H at hP hS hce9 ⊢
    try dsimp only at hw hEe
    subst hEe
    have hP : va_P (dC, dI) vwCl [(ou, .inl (cJ, 1, .inr (.inl of))), (h0, .inr (7, [.ref tp, v1, .ref rp, .int (nI rn), v4, v5, v6])), (rp, .inl (cB, 8192, .inl f))] H := hP
    have hD : va_D A [(ou, .inl (cJ, 1, .inr (.inl of))), (h0, .inr (7, [.ref tp, v1, .ref rp, .int (nI rn), v4, v5, v6])), (rp, .inl (cB, 8192, .inl f))] := hD
    have hE8 := hw.1
    subst hE8
    have hX := hw.2
    refine vx_catch (name := "java/lang/IndexOutOfBoundsException") hown [] xt1 [] htb (fun z hz => nomatch hz) (by simp [covers, et11, et12]) (by rw [et14]; decide) (by rw [et14]; exact hts (.classLink RL 13 "java/lang/IndexOutOfBoundsException") (by decide +kernel)) (va_Nw.use rfl (zC_IndexOutOfBoundsException hE)) hce9 hcv9 hcl9 ?_
    rw [et13]
    refine lv_astore_n (lv' := [(3, .ref q9), (0, .ref h0), (1, .int i), (2, .ref ou)]) hx hb dL_word_11 rfl hl (by decide) rfl (fun ls hl => ?_)
    refine lv_iconst (v := 1) hx hb dL_word_12 (by decide) ?_
    have hP9 := hP.sub (ws' := [(h0, .inr (7, [.ref tp, v1, .ref rp, .int (nI rn), v4, v5, v6])), (rp, .inl (cB, 8192, .inl f)), (ou, .inl (cJ, 1, .inr (.inl of)))]) [1, 2, 0] rfl
    have hD9 := hD.sub (ws' := [(h0, .inr (7, [.ref tp, v1, .ref rp, .int (nI rn), v4, v5, v6])), (rp, .inl (cB, 8192, .inl f)), (ou, .inl (cJ, 1, .inr (.inl of)))]) [1, 2, 0] (by decide) rfl
    exact W.iret (v := 1) hx hb hr (fun t ht hW => ⟨⟨1, of, rfl, Or.inr ⟨hX, rfl⟩, ⟨by rw [ht]; exact hP9, va_K.moved hW.alike hK, hD9⟩⟩, hS.F ht⟩) hS.2.2 dL_word_13
  have hP1 : va_P (dC, dI) vwCl [(h0, .inr (7, [.ref tp, v1, .ref rp, .int (nI rn), v4, v5, v6])), (rp, .inl (cB, 8192, .inl f))] H1 := by rw [← ht]; exact hB.1
  have hD1 : va_D (va_A [(h0, .inr (7, [.ref tp, v1, .ref rp, .int (nI rn), v4, v5, v6])), (rp, .inl (cB, 8192, .inl f))] s.heap.size) [(h0, .inr (7, [.ref tp, v1, .ref rp, .int (nI rn), v4, v5, v6])), (rp, .inl (cB, 8192, .inl f))] := hB.2.2
  obtain ⟨hP, hD⟩ := va_join (wr := [(ou, .inl (cJ, 1, .inr (.inl of)))]) (w1 := [(h0, .inr (7, [.ref tp, v1, .ref rp, .int (nI rn), v4, v5, v6])), (rp, .inl (cB, 8192, .inl f))]) hP hD [0, 1] [2] rfl rfl (by decide) (by decide) hk1 hFc hP1 hD1
  generalize H1 = H at hP hS ⊢
  try dsimp only at hw
  have hP : va_P (dC, dI) vwCl [(ou, .inl (cJ, 1, .inr (.inl of))), (h0, .inr (7, [.ref tp, v1, .ref rp, .int (nI rn), v4, v5, v6])), (rp, .inl (cB, 8192, .inl f))] H := hP
  have hD : va_D A [(ou, .inl (cJ, 1, .inr (.inl of))), (h0, .inr (7, [.ref tp, v1, .ref rp, .int (nI rn), v4, v5, v6])), (rp, .inl (cB, 8192, .inl f))] := hD
  obtain ⟨j, hb1, hb2, hr4⟩ := hw
  obtain rfl : r4 = zwd f rn j 8 := hr4
  refine W.eq (g2 := F0 m 7 ls [.long (zwd f rn j 8), .int 0, .ref ou]) rfl ?_
  refine va_last hx hb hK hP hD hS 0 2 rfl rfl (vp_in_nI (n := 0) (by omega) (by omega)) dL_word_7 (fun H locs hP hD hS => ?_)
  have hP : va_P (dC, dI) vwCl [(ou, .inl (cJ, 1, .inr (.inl (vp_updL of 0 (zwd f rn j 8))))), (h0, .inr (7, [.ref tp, v1, .ref rp, .int (nI rn), v4, v5, v6])), (rp, .inl (cB, 8192, .inl f))] H := hP
  have hD : va_D A [(ou, .inl (cJ, 1, .inr (.inl (vp_updL of 0 (zwd f rn j 8))))), (h0, .inr (7, [.ref tp, v1, .ref rp, .int (nI rn), v4, v5, v6])), (rp, .inl (cB, 8192, .inl f))] := hD
  refine lv_goto (tgt := 14) hx hb dL_word_8 (by decide) ?_
  refine lv_iconst (v := 0) hx hb dL_word_14 (by decide) ?_
  have hP9 := hP.sub (ws' := [(h0, .inr (7, [.ref tp, v1, .ref rp, .int (nI rn), v4, v5, v6])), (rp, .inl (cB, 8192, .inl f)), (ou, .inl (cJ, 1, .inr (.inl (vp_updL of 0 (zwd f rn j 8)))))]) [1, 2, 0] rfl
  have hD9 := hD.sub (ws' := [(h0, .inr (7, [.ref tp, v1, .ref rp, .int (nI rn), v4, v5, v6])), (rp, .inl (cB, 8192, .inl f)), (ou, .inl (cJ, 1, .inr (.inl (vp_updL of 0 (zwd f rn j 8)))))]) [1, 2, 0] (by decide) rfl
  refine W.widen (k := 1) (n := 6) (by omega) (by omega) ?_
  exact W.iret (v := 0) hx hb hr (fun t ht hW => ⟨⟨0, vp_updL of 0 (zwd f rn j 8), rfl, Or.inl ⟨j, hb1, hb2, rfl, rfl⟩, ⟨by rw [ht]; exact hP9, va_K.moved hW.alike hK, hD9⟩⟩, hS.F ht⟩) hS.2.2 dL_word_15

abbrev rm_L_count : Room := { frames := 8, cells := 1, slots := 6, locals := 139 }
abbrev wo_L_count (dC : Nat → ClassId) (dI : Nat → Nat → Nat) (cB cI cJ cM : ClassId) (h0 tp ou : Nat) (v2 v4 v5 v6 : Value) (of : Nat → Int64) (tn rn k : Int32) : va_W := [(h0, .inr (7, [.ref tp, .int tn, v2, .int rn, v4, v5, v6])), (ou, .inl (cJ, 1, .inr (.inl of)))]
abbrev q_L_count (dC : Nat → ClassId) (dI : Nat → Nat → Nat) (cB cI cJ cM : ClassId) (h0 tp ou : Nat) (v2 v4 v5 v6 : Value) (of : Nat → Int64) (tn rn k : Int32) (A : Nat → Prop) : Array Value → State → Outcome → State → Prop := va_Qi (fun (r : Int32) (u : Nat → Int64) => (0 ≤ k ∧ k ≤ 1 ∧ r = 0 ∧ u 0 = (if k = 0 then tn else rn).toInt64) ∨ ((k < 0 ∨ 1 < k) ∧ r = 1)) (zB dC dI cB cI cJ cM A (fun u : Nat → Int64 => [(h0, .inr (7, [.ref tp, .int tn, v2, .int rn, v4, v5, v6])), (ou, .inl (cJ, 1, .inr (.inl u)))])) A
set_option maxHeartbeats 8000000 in
set_option maxRecDepth 100000 in
/-- count, caught -/
theorem k_L_count (l : Launch) (hl9 : l.stackTraces = false) (dC : Nat → ClassId) (dI : Nat → Nat → Nat) (cB cI cJ cM : ClassId) (h0 tp ou : Nat) (v2 v4 v5 v6 : Value) (of : Nat → Int64) (tn rn k : Int32) (sz : Nat) : Met l yL_count wsL_count rm_L_count (va_Pc [.ref h0, .int k, .ref ou] (fun U => U.heap.size = sz ∧ va_P (dC, dI) vwCl (wo_L_count dC dI cB cI cJ cM h0 tp ou v2 v4 v5 v6 of tn rn k) U.heap ∧ va_K (dC, dI) vwCl (zT cB cI cJ cM) U ∧ va_D (fun _ => True) (wo_L_count dC dI cB cI cJ cM h0 tp ou v2 v4 v5 v6 of tn rn k) ∧ zE (va_A (wo_L_count dC dI cB cI cJ cM h0 tp ou v2 v4 v5 v6 of tn rn k) sz) U)) (q_L_count dC dI cB cI cJ cM h0 tp ou v2 v4 v5 v6 of tn rn k (va_A (wo_L_count dC dI cB cI cJ cM h0 tp ou v2 v4 v5 v6 of tn rn k) sz)) 1 6 (va_A (wo_L_count dC dI cB cI cJ cM h0 tp ou v2 v4 v5 v6 of tn rn k) sz) := by
  refine va_MetW (cc := cL_count) (maxL := 4) (ret := (some .int)) (hh := [(0, 9, 12, 19)]) (by decide) rfl ?_
  intro p e s m args below meth c s₁ B hml hv
  obtain ⟨rfl, hsz, hP, hK, hD0, hE⟩ := hv
  have hx := B.exec
  have hb := B.bytes
  have hr := B.returns
  have hts := atoms_spec (ws := wsL_count) B.pre
  have hown : s.vm.findClass RL = some m.cls := findClass_of_methodNamed B.named
  have hlocks := B.notSynchronized
  have htb0 := zz_tab B (hts _ List.mem_cons_self)
  obtain ⟨xt1, htb, hxt1⟩ := zz_tab1 htb0
  simp only [Prod.mk.injEq] at hxt1
  obtain ⟨et11, et12, et13, et14⟩ := hxt1
  subst hsz
  have hD := hD0.self (sz := s.heap.size)
  generalize hAe : va_A (wo_L_count dC dI cB cI cJ cM h0 tp ou v2 v4 v5 v6 of tn rn k) s.heap.size = A at hD hE ⊢
  have hA : ∀ q : Nat, s.heap.size ≤ q → A q := fun q h => by rw [← hAe]; exact Or.inr h
  have hS : va_S A s.heap s.heap [] := va_S.rf
  have hP : va_P (dC, dI) vwCl [(h0, .inr (7, [.ref tp, .int tn, v2, .int rn, v4, v5, v6])), (ou, .inl (cJ, 1, .inr (.inl of)))] s.heap := hP
  have hD : va_D A [(h0, .inr (7, [.ref tp, .int tn, v2, .int rn, v4, v5, v6])), (ou, .inl (cJ, 1, .inr (.inl of)))] := hD
  have hl := lv_entry ([.ref h0, .int k, .ref ou]) (n := 4) (Nat.le_of_ble_eq_true rfl)
  rw [lg_entry_eq]
  generalize (lg_sl ([.ref h0, .int k, .ref ou]) ++ List.replicate (4 - (lg_sl ([.ref h0, .int k, .ref ou])).length) Slot.unset).toArray = ls at hl ⊢
  have hl : lv_has ls 4 [(0, .ref h0), (1, .int k), (2, .ref ou)] := hl
  refine lv_aload_n hx hb dL_count_0 rfl (lv_at hl 2 rfl) ?_
  refine lv_iconst (v := 0) hx hb dL_count_1 (by decide) ?_
  refine lv_aload_n hx hb dL_count_2 rfl (lv_at hl 0 rfl) ?_
  refine lv_iload_n hx hb dL_count_3 rfl (lv_at hl 1 rfl) ?_
  have hPc := hP.sub (ws' := [(h0, .inr (7, [.ref tp, .int tn, v2, .int rn, v4, v5, v6]))]) [0] rfl
  have hDc := hD.sub (ws' := [(h0, .inr (7, [.ref tp, .int tn, v2, .int rn, v4, v5, v6]))]) [0] (by decide) rfl
  have hFc := va_free (wc := [(h0, .inr (7, [.ref tp, .int tn, v2, .int rn, v4, v5, v6]))]) hD hS hA [0] rfl
  refine vx_calli (vx_runV (As := [.int k]) (rest := [.int 0, .ref ou]) ⟨hx, hb, hml, hown, hts⟩ (k_X7_count l hl9 dC dI cB cI cJ cM h0 tp v2 (.int rn) v4 v5 v6 tn rn k  s.heap.size) (cwV 1 hts gL_count_X7_count rfl rfl rfl (by decide +kernel) ⟨Nat.le_of_ble_eq_true rfl, Nat.le_of_ble_eq_true rfl⟩) ⟨fun a U g mk q => by obtain ⟨q0, q1, qP, qK, qD, qE⟩ := q; exact ⟨q0, q1, qP, va_K.moved (u := U) (U := U.calling g mk a) (Vm.Alike.refl U.vm) qK, qD, zE.blind qE⟩, va_recv hK hPc (ci := 7) (q0 := 0) rfl rfl, fun U hU hW => ⟨rfl, by rw [hU], by rw [hU]; exact hPc, va_K.moved hW.alike hK, hDc.weaken (fun _ _ _ _ => trivial), zE.call hE hS hU hW hFc⟩⟩ rfl rfl hl.1 rfl (lv_room (Nat.le_of_ble_eq_true rfl)) dL_count_4 ⟨(show 0 + 1 ≤ 1 by omega), (show 0 + 6 ≤ 6 by omega)⟩) hS (fun q _ h => hFc q h) hFc (fun q _ h => hFc q h) (fun E8 ce9 q9 ux t H1 locs ht hvm hw hB hz1 hk1 hS hce9 hcv9 hcl9 => ?_) (fun r4 u t H1 locs ht hvm hw hB hz1 hk1 hS => ?_)
  · obtain ⟨E9, ux9⟩ := ux
    obtain ⟨hEe, hB9⟩ := hB
    have hB : True ∧ zB dC dI cB cI cJ cM (va_A [(h0, .inr (7, [.ref tp, .int tn, v2, .int rn, v4, v5, v6]))] s.heap.size) (fun u : Unit => [(h0, .inr (7, [.ref tp, .int tn, v2, .int rn, v4, v5, v6]))]) ux9 t := ⟨trivial, hB9⟩
    have hP1 : va_P (dC, dI) vwCl [(h0, .inr (7, [.ref tp, .int tn, v2, .int rn, v4, v5, v6]))] H1 := by rw [← ht]; exact hB.2.1
    have hD1 : va_D (va_A [(h0, .inr (7, [.ref tp, .int tn, v2, .int rn, v4, v5, v6]))] s.heap.size) [(h0, .inr (7, [.ref tp, .int tn, v2, .int rn, v4, v5, v6]))] := hB.2.2.2
    obtain ⟨hP, hD⟩ := va_join (wr := [(ou, .inl (cJ, 1, .inr (.inl of)))]) (w1 := [(h0, .inr (7, [.ref tp, .int tn, v2, .int rn, v4, v5, v6]))]) hP hD [0] [1] rfl rfl (by decide) (by decide) hk1 hFc hP1 hD1
    generalize H1 = H at hP hS hce9 ⊢
    try dsimp only at hw hEe
    subst hEe
    have hP : va_P (dC, dI) vwCl [(ou, .inl (cJ, 1, .inr (.inl of))), (h0, .inr (7, [.ref tp, .int tn, v2, .int rn, v4, v5, v6]))] H := hP
    have hD : va_D A [(ou, .inl (cJ, 1, .inr (.inl of))), (h0, .inr (7, [.ref tp, .int tn, v2, .int rn, v4, v5, v6]))] := hD
    have hE8 := hw.1
    subst hE8
    have hX := hw.2
    refine vx_catch (name := "java/lang/IllegalArgumentException") hown [] xt1 [] htb (fun z hz => nomatch hz) (by simp [covers, et11, et12]) (by rw [et14]; decide) (by rw [et14]; exact hts (.classLink RL 19 "java/lang/IllegalArgumentException") (by decide +kernel)) (va_Nw.use rfl (zC_IllegalArgumentException hE)) hce9 hcv9 hcl9 ?_
    rw [et13]
    refine lv_astore_n (lv' := [(3, .ref q9), (0, .ref h0), (1, .int k), (2, .ref ou)]) hx hb dL_count_12 rfl hl (by decide) rfl (fun ls hl => ?_)
    refine lv_iconst (v := 1) hx hb dL_count_13 (by decide) ?_
    have hP9 := hP.sub (ws' := [(h0, .inr (7, [.ref tp, .int tn, v2, .int rn, v4, v5, v6])), (ou, .inl (cJ, 1, .inr (.inl of)))]) [1, 0] rfl
    have hD9 := hD.sub (ws' := [(h0, .inr (7, [.ref tp, .int tn, v2, .int rn, v4, v5, v6])), (ou, .inl (cJ, 1, .inr (.inl of)))]) [1, 0] (by decide) rfl
    exact W.iret (v := 1) hx hb hr (fun t ht hW => ⟨⟨1, of, rfl, Or.inr ⟨hX, rfl⟩, ⟨by rw [ht]; exact hP9, va_K.moved hW.alike hK, hD9⟩⟩, hS.F ht⟩) hS.2.2 dL_count_14
  have hP1 : va_P (dC, dI) vwCl [(h0, .inr (7, [.ref tp, .int tn, v2, .int rn, v4, v5, v6]))] H1 := by rw [← ht]; exact hB.1
  have hD1 : va_D (va_A [(h0, .inr (7, [.ref tp, .int tn, v2, .int rn, v4, v5, v6]))] s.heap.size) [(h0, .inr (7, [.ref tp, .int tn, v2, .int rn, v4, v5, v6]))] := hB.2.2
  obtain ⟨hP, hD⟩ := va_join (wr := [(ou, .inl (cJ, 1, .inr (.inl of)))]) (w1 := [(h0, .inr (7, [.ref tp, .int tn, v2, .int rn, v4, v5, v6]))]) hP hD [0] [1] rfl rfl (by decide) (by decide) hk1 hFc hP1 hD1
  generalize H1 = H at hP hS ⊢
  try dsimp only at hw
  have hP : va_P (dC, dI) vwCl [(ou, .inl (cJ, 1, .inr (.inl of))), (h0, .inr (7, [.ref tp, .int tn, v2, .int rn, v4, v5, v6]))] H := hP
  have hD : va_D A [(ou, .inl (cJ, 1, .inr (.inl of))), (h0, .inr (7, [.ref tp, .int tn, v2, .int rn, v4, v5, v6]))] := hD
  obtain ⟨hb1, hr4⟩ := hw
  obtain rfl : r4 = (if k = 0 then tn else rn) := hr4
  refine W.eq (g2 := F0 m 7 ls [.int (if k = 0 then tn else rn), .int 0, .ref ou]) rfl ?_
  refine lv_i2l hx hb dL_count_7 rfl ?_
  refine va_last hx hb hK hP hD hS 0 2 rfl rfl (vp_in_nI (n := 0) (by omega) (by omega)) dL_count_8 (fun H locs hP hD hS => ?_)
  have hP : va_P (dC, dI) vwCl [(ou, .inl (cJ, 1, .inr (.inl (vp_updL of 0 ((if k = 0 then tn else rn).toInt64))))), (h0, .inr (7, [.ref tp, .int tn, v2, .int rn, v4, v5, v6]))] H := hP
  have hD : va_D A [(ou, .inl (cJ, 1, .inr (.inl (vp_updL of 0 ((if k = 0 then tn else rn).toInt64))))), (h0, .inr (7, [.ref tp, .int tn, v2, .int rn, v4, v5, v6]))] := hD
  refine lv_goto (tgt := 15) hx hb dL_count_9 (by decide) ?_
  refine lv_iconst (v := 0) hx hb dL_count_15 (by decide) ?_
  have hP9 := hP.sub (ws' := [(h0, .inr (7, [.ref tp, .int tn, v2, .int rn, v4, v5, v6])), (ou, .inl (cJ, 1, .inr (.inl (vp_updL of 0 ((if k = 0 then tn else rn).toInt64)))))]) [1, 0] rfl
  have hD9 := hD.sub (ws' := [(h0, .inr (7, [.ref tp, .int tn, v2, .int rn, v4, v5, v6])), (ou, .inl (cJ, 1, .inr (.inl (vp_updL of 0 ((if k = 0 then tn else rn).toInt64)))))]) [1, 0] (by decide) rfl
  refine W.widen (k := 1) (n := 6) (by omega) (by omega) ?_
  exact W.iret (v := 0) hx hb hr (fun t ht hW => ⟨⟨0, vp_updL of 0 ((if k = 0 then tn else rn).toInt64), rfl, Or.inl ⟨hb1.1, hb1.2, rfl, rfl⟩, ⟨by rw [ht]; exact hP9, va_K.moved hW.alike hK, hD9⟩⟩, hS.F ht⟩) hS.2.2 dL_count_16
