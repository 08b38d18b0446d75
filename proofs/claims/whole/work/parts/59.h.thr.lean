def RT1 : String := "java/lang/RuntimeException"
abbrev cT1_init : ByteArray := prog_16_method_5_code
def yT1_init : MethodName := ⟨RT1, "<init>", "(Ljava/lang/String;Ljava/lang/Throwable;ZZ)V"⟩
theorem dT1_init_0 : decode cT1_init 0 = .ok (.aload_n 0, 1) := by decide +kernel
theorem dT1_init_1 : decode cT1_init 1 = .ok (.aload_n 1, 1) := by decide +kernel
theorem dT1_init_2 : decode cT1_init 2 = .ok (.aload_n 2, 1) := by decide +kernel
theorem dT1_init_3 : decode cT1_init 3 = .ok (.iload_n 3, 1) := by decide +kernel
theorem dT1_init_4 : decode cT1_init 4 = .ok (.iload 4, 2) := by decide +kernel
theorem dT1_init_6 : decode cT1_init 6 = .ok (.invokespecial 16, 3) := by decide +kernel
theorem dT1_init_9 : decode cT1_init 9 = .ok (.return_, 1) := by decide +kernel
def RT2 : String := "java/lang/Exception"
abbrev cT2_init : ByteArray := prog_12_method_5_code
def yT2_init : MethodName := ⟨RT2, "<init>", "(Ljava/lang/String;Ljava/lang/Throwable;ZZ)V"⟩
theorem dT2_init_0 : decode cT2_init 0 = .ok (.aload_n 0, 1) := by decide +kernel
theorem dT2_init_1 : decode cT2_init 1 = .ok (.aload_n 1, 1) := by decide +kernel
theorem dT2_init_2 : decode cT2_init 2 = .ok (.aload_n 2, 1) := by decide +kernel
theorem dT2_init_3 : decode cT2_init 3 = .ok (.iload_n 3, 1) := by decide +kernel
theorem dT2_init_4 : decode cT2_init 4 = .ok (.iload 4, 2) := by decide +kernel
theorem dT2_init_6 : decode cT2_init 6 = .ok (.invokespecial 16, 3) := by decide +kernel
theorem dT2_init_9 : decode cT2_init 9 = .ok (.return_, 1) := by decide +kernel
def RT3 : String := "java/lang/Throwable"
abbrev cT3_init : ByteArray := prog_19_method_5_code
def yT3_init : MethodName := ⟨RT3, "<init>", "(Ljava/lang/String;Ljava/lang/Throwable;ZZ)V"⟩
theorem dT3_init_0 : decode cT3_init 0 = .ok (.aload_n 0, 1) := by decide +kernel
theorem dT3_init_1 : decode cT3_init 1 = .ok (.invokespecial 1, 3) := by decide +kernel
theorem dT3_init_4 : decode cT3_init 4 = .ok (.aload_n 0, 1) := by decide +kernel
theorem dT3_init_5 : decode cT3_init 5 = .ok (.aload_n 0, 1) := by decide +kernel
theorem dT3_init_6 : decode cT3_init 6 = .ok (.putfield 7, 3) := by decide +kernel
theorem dT3_init_9 : decode cT3_init 9 = .ok (.aload_n 0, 1) := by decide +kernel
theorem dT3_init_10 : decode cT3_init 10 = .ok (.getstatic 13, 3) := by decide +kernel
theorem dT3_init_13 : decode cT3_init 13 = .ok (.putfield 17, 3) := by decide +kernel
theorem dT3_init_16 : decode cT3_init 16 = .ok (.aload_n 0, 1) := by decide +kernel
theorem dT3_init_17 : decode cT3_init 17 = .ok (.getstatic 20, 3) := by decide +kernel
theorem dT3_init_20 : decode cT3_init 20 = .ok (.putfield 24, 3) := by decide +kernel
theorem dT3_init_23 : decode cT3_init 23 = .ok (.iload 4, 2) := by decide +kernel
theorem dT3_init_25 : decode cT3_init 25 = .ok (.ifCond .eq 11, 3) := by decide +kernel
theorem dT3_init_28 : decode cT3_init 28 = .ok (.aload_n 0, 1) := by decide +kernel
theorem dT3_init_29 : decode cT3_init 29 = .ok (.invokevirtual 27, 3) := by decide +kernel
theorem dT3_init_32 : decode cT3_init 32 = .ok (.pop, 1) := by decide +kernel
theorem dT3_init_33 : decode cT3_init 33 = .ok (.goto 8, 3) := by decide +kernel
theorem dT3_init_36 : decode cT3_init 36 = .ok (.aload_n 0, 1) := by decide +kernel
theorem dT3_init_37 : decode cT3_init 37 = .ok (.aconst_null, 1) := by decide +kernel
theorem dT3_init_38 : decode cT3_init 38 = .ok (.putfield 17, 3) := by decide +kernel
theorem dT3_init_41 : decode cT3_init 41 = .ok (.aload_n 0, 1) := by decide +kernel
theorem dT3_init_42 : decode cT3_init 42 = .ok (.aload_n 1, 1) := by decide +kernel
theorem dT3_init_43 : decode cT3_init 43 = .ok (.putfield 31, 3) := by decide +kernel
theorem dT3_init_46 : decode cT3_init 46 = .ok (.aload_n 0, 1) := by decide +kernel
theorem dT3_init_47 : decode cT3_init 47 = .ok (.aload_n 2, 1) := by decide +kernel
theorem dT3_init_48 : decode cT3_init 48 = .ok (.putfield 7, 3) := by decide +kernel
theorem dT3_init_51 : decode cT3_init 51 = .ok (.iload_n 3, 1) := by decide +kernel
theorem dT3_init_52 : decode cT3_init 52 = .ok (.ifCond .ne 8, 3) := by decide +kernel
theorem dT3_init_55 : decode cT3_init 55 = .ok (.aload_n 0, 1) := by decide +kernel
theorem dT3_init_56 : decode cT3_init 56 = .ok (.aconst_null, 1) := by decide +kernel
theorem dT3_init_57 : decode cT3_init 57 = .ok (.putfield 24, 3) := by decide +kernel
theorem dT3_init_60 : decode cT3_init 60 = .ok (.return_, 1) := by decide +kernel
def wsT3_init : List Cond := .code yT3_init cT3_init 5 none :: ([.methodLink RT3 1 objectInit, .instanceMethod objectInit, .code objectInit ⟨#[0xb1]⟩ 1 none, .fieldLink RT3 7 "java/lang/Throwable" "cause" "Ljava/lang/Throwable;", .fieldLink RT3 13 "java/lang/Throwable" "UNASSIGNED_STACK" "[Ljava/lang/StackTraceElement;", .fieldLink RT3 17 "java/lang/Throwable" "stackTrace" "[Ljava/lang/StackTraceElement;", .fieldLink RT3 20 "java/lang/Throwable" "SUPPRESSED_SENTINEL" "Ljava/util/List;", .fieldLink RT3 24 "java/lang/Throwable" "suppressedExceptions" "Ljava/util/List;", .fieldLink RT3 31 "java/lang/Throwable" "detailMessage" "Ljava/lang/String;"] ++ wsX80)
def wsT2_init : List Cond := .code yT2_init cT2_init 5 none :: ([.methodLink RT2 16 yT3_init, .instanceMethod yT3_init, .initialized RT3] ++ wsT3_init)
def wsT1_init : List Cond := .code yT1_init cT1_init 5 none :: ([.methodLink RT1 16 yT2_init, .instanceMethod yT2_init, .initialized RT2] ++ wsT2_init)
abbrev cX8_initb : ByteArray := cX8_init
abbrev yX8_initb : MethodName := yX8_init
def wsX8_initb : List Cond := wsX8_init ++ ([.methodLink RX8 1 yT1_init, .instanceMethod yT1_init, .initialized RT1] ++ wsT1_init)
theorem dX8_initb_0 : decode cX8_initb 0 = .ok (.aload_n 0, 1) := dX8_init_0
theorem dX8_initb_1 : decode cX8_initb 1 = .ok (.aconst_null, 1) := dX8_init_1
theorem dX8_initb_2 : decode cX8_initb 2 = .ok (.aconst_null, 1) := dX8_init_2
theorem dX8_initb_3 : decode cX8_initb 3 = .ok (.iconst 0, 1) := dX8_init_3
theorem dX8_initb_4 : decode cX8_initb 4 = .ok (.iconst 0, 1) := dX8_init_4
theorem dX8_initb_5 : decode cX8_initb 5 = .ok (.invokespecial 1, 3) := dX8_init_5
theorem dX8_initb_8 : decode cX8_initb 8 = .ok (.return_, 1) := dX8_init_8
theorem gT2_init_T3_init : GoodIn wsT2_init wsT3_init := goodIn_sub (fun w hw => List.mem_cons_of_mem _ (List.mem_append_right _ hw)) (by decide +kernel)
theorem gT1_init_T2_init : GoodIn wsT1_init wsT2_init := goodIn_sub (fun w hw => List.mem_cons_of_mem _ (List.mem_append_right _ hw)) (by decide +kernel)
theorem gX8_initb_T1_init : GoodIn wsX8_initb wsT1_init := goodIn_sub (fun w hw => List.mem_append_right _ (List.mem_append_right _ hw)) (by decide +kernel)
abbrev rm_T3_init : Room := { frames := 1, cells := 0, slots := 0, locals := 12 }
abbrev wo_T3_init (dC : Nat → ClassId) (dI : Nat → Nat → Nat) (cB cI cJ cM : ClassId) (h0 : Nat) (v0 v1 v2 v3 v4 v5 : Value) : va_W := [(h0, .inr (8, [v0, v1, v2, v3, v4, v5]))]
abbrev q_T3_init (dC : Nat → ClassId) (dI : Nat → Nat → Nat) (cB cI cJ cM : ClassId) (h0 : Nat) (v0 v1 v2 v3 v4 v5 : Value) (A : Nat → Prop) : Array Value → State → Outcome → State → Prop := va_Qv (fun (u : Unit) => True) (zB dC dI cB cI cJ cM A (fun u : Unit => [(h0, .inr (8, [.null, .null, .null, .null, v4, v5]))])) A
set_option maxHeartbeats 8000000 in
set_option maxRecDepth 100000 in
/-- Throwable(null, null, false, false) -/
theorem k_T3_init (l : Launch) (dC : Nat → ClassId) (dI : Nat → Nat → Nat) (cB cI cJ cM : ClassId) (h0 : Nat) (v0 v1 v2 v3 v4 v5 : Value) (sz : Nat) : Met l yT3_init wsT3_init rm_T3_init (va_Pc [.ref h0, .null, .null, .int 0, .int 0] (fun U => U.heap.size = sz ∧ va_P (dC, dI) vwCl (wo_T3_init dC dI cB cI cJ cM h0 v0 v1 v2 v3 v4 v5) U.heap ∧ va_K (dC, dI) vwCl (zT cB cI cJ cM) U ∧ va_D (fun _ => True) (wo_T3_init dC dI cB cI cJ cM h0 v0 v1 v2 v3 v4 v5) ∧ zE (va_A (wo_T3_init dC dI cB cI cJ cM h0 v0 v1 v2 v3 v4 v5) sz) U)) (q_T3_init dC dI cB cI cJ cM h0 v0 v1 v2 v3 v4 v5 (va_A (wo_T3_init dC dI cB cI cJ cM h0 v0 v1 v2 v3 v4 v5) sz)) 0 0 (va_A (wo_T3_init dC dI cB cI cJ cM h0 v0 v1 v2 v3 v4 v5) sz) := by
  refine Met.ofW (cc := cT3_init) (maxL := 5) (ret := none) (by decide) rfl ?_
  intro p e s m args below meth c s₁ B hml hv
  obtain ⟨rfl, hsz, hP, hK, hD0, hE⟩ := hv
  have hx := B.exec
  have hb := B.bytes
  have hr := B.returns
  have hts := atoms_spec (ws := wsT3_init) B.pre
  have hown : s.vm.findClass RT3 = some m.cls := findClass_of_methodNamed B.named
  have hlocks := B.notSynchronized
  have hin : meth.name = "<init>" := (name_of_methodNamed B.named B.method).1
  subst hsz
  have hD := hD0.self (sz := s.heap.size)
  generalize hAe : va_A (wo_T3_init dC dI cB cI cJ cM h0 v0 v1 v2 v3 v4 v5) s.heap.size = A at hD hE ⊢
  have hA : ∀ q : Nat, s.heap.size ≤ q → A q := fun q h => by rw [← hAe]; exact Or.inr h
  have hS : va_S A s.heap s.heap [] := va_S.rf
  have hP : va_P (dC, dI) vwCl [(h0, .inr (8, [v0, v1, v2, v3, v4, v5]))] s.heap := hP
  have hD : va_D A [(h0, .inr (8, [v0, v1, v2, v3, v4, v5]))] := hD
  have hl := lv_entry ([.ref h0, .null, .null, .int 0, .int 0]) (n := 5) (Nat.le_of_ble_eq_true rfl)
  rw [lg_entry_eq]
  generalize (lg_sl ([.ref h0, .null, .null, .int 0, .int 0]) ++ List.replicate (5 - (lg_sl ([.ref h0, .null, .null, .int 0, .int 0])).length) Slot.unset).toArray = ls at hl ⊢
  have hl : lv_has ls 5 [(0, .ref h0), (1, .null), (2, .null), (3, .int 0), (4, .int 0)] := hl
  refine lv_aload_n hx hb dT3_init_0 rfl (lv_at hl 0 rfl) ?_
  refine W.objInit hx hb hown (hts (.methodLink RT3 1 objectInit) (by decide +kernel)) (hts (.instanceMethod objectInit) (by decide +kernel)) (hts (.code objectInit ⟨#[0xb1]⟩ 1 none) (by decide +kernel)) rfl (by rw [hml]; exact hl.1) rfl dT3_init_1 (Nat.le_of_ble_eq_true rfl) (Nat.le_of_ble_eq_true rfl) ?_
  refine W.eq (g2 := F0 m 4 ls []) rfl ?_
  refine lv_aload_n hx hb dT3_init_4 rfl (lv_at hl 0 rfl) ?_
  refine lv_aload_n hx hb dT3_init_5 rfl (lv_at hl 0 rfl) ?_
  refine va_put (D := (dC, dI)) (ci := 8) (v := .ref h0) (ty := .object "java/lang/Throwable") (C := RX8) (T := TX8) (N := 6) hx hb hts (by decide +kernel) tyX8 tyX8_ok nmX8 hown hK hP hD hS 0 rfl rfl 0 (by decide) (hts (.fieldLink RT3 7 "java/lang/Throwable" "cause" "Ljava/lang/Throwable;") (by decide +kernel)) (fun _ h9 => h9) rfl (by decide +kernel) rfl rfl (Nat.le_of_ble_eq_true rfl) dT3_init_6 (fun H locs hP hD hS => ?_)
  have hP : va_P (dC, dI) vwCl [(h0, .inr (8, [.ref h0, v1, v2, v3, v4, v5]))] H := hP
  have hD : va_D A [(h0, .inr (8, [.ref h0, v1, v2, v3, v4, v5]))] := hD
  refine lv_aload_n hx hb dT3_init_9 rfl (lv_at hl 0 rfl) ?_
  rcases (zE_U hE).1 with hz9 | ⟨t9_10, hz9⟩
  · refine va_gets hx hb hz9 hS hown (hts (.fieldLink RT3 13 "java/lang/Throwable" "UNASSIGNED_STACK" "[Ljava/lang/StackTraceElement;") (by decide +kernel)) (fun _ h9 => h9) dT3_init_10 ?_
    refine va_put (D := (dC, dI)) (ci := 8) (v := .null) (ty := .array (.object "java/lang/StackTraceElement")) (C := RX8) (T := TX8) (N := 6) hx hb hts (by decide +kernel) tyX8 tyX8_ok nmX8 hown hK hP hD hS 0 rfl rfl 1 (by decide) (hts (.fieldLink RT3 17 "java/lang/Throwable" "stackTrace" "[Ljava/lang/StackTraceElement;") (by decide +kernel)) (fun _ h9 => h9) rfl (by decide +kernel) rfl rfl (Nat.le_of_ble_eq_true rfl) dT3_init_13 (fun H locs hP hD hS => ?_)
    have hP : va_P (dC, dI) vwCl [(h0, .inr (8, [.ref h0, .null, v2, v3, v4, v5]))] H := hP
    have hD : va_D A [(h0, .inr (8, [.ref h0, .null, v2, v3, v4, v5]))] := hD
    refine lv_aload_n hx hb dT3_init_16 rfl (lv_at hl 0 rfl) ?_
    rcases (zE_N hE).1 with hz9 | ⟨t9_17, hz9⟩
    · refine va_gets hx hb hz9 hS hown (hts (.fieldLink RT3 20 "java/lang/Throwable" "SUPPRESSED_SENTINEL" "Ljava/util/List;") (by decide +kernel)) (fun _ h9 => h9) dT3_init_17 ?_
      refine va_put (D := (dC, dI)) (ci := 8) (v := .null) (ty := .object "java/util/List") (C := RX8) (T := TX8) (N := 6) hx hb hts (by decide +kernel) tyX8 tyX8_ok nmX8 hown hK hP hD hS 0 rfl rfl 2 (by decide) (hts (.fieldLink RT3 24 "java/lang/Throwable" "suppressedExceptions" "Ljava/util/List;") (by decide +kernel)) (fun _ h9 => h9) rfl (by decide +kernel) rfl rfl (Nat.le_of_ble_eq_true rfl) dT3_init_20 (fun H locs hP hD hS => ?_)
      have hP : va_P (dC, dI) vwCl [(h0, .inr (8, [.ref h0, .null, .null, v3, v4, v5]))] H := hP
      have hD : va_D A [(h0, .inr (8, [.ref h0, .null, .null, v3, v4, v5]))] := hD
      refine lv_iload hx hb dT3_init_23 (lv_at hl 4 rfl) ?_
      refine lv_if_eq (tgt := 36) hx hb dT3_init_25 (by decide) (fun c25 => ?_) (fun c25 => ?_)
      · have c25 : 0 = 0 := (nI_eq (a := 0) (b := 0) (by omega) (by omega)).mp c25
        refine lv_aload_n hx hb dT3_init_36 rfl (lv_at hl 0 rfl) ?_
        refine lv_null hx hb dT3_init_37 ?_
        refine va_put (D := (dC, dI)) (ci := 8) (v := .null) (ty := .array (.object "java/lang/StackTraceElement")) (C := RX8) (T := TX8) (N := 6) hx hb hts (by decide +kernel) tyX8 tyX8_ok nmX8 hown hK hP hD hS 0 rfl rfl 1 (by decide) (hts (.fieldLink RT3 17 "java/lang/Throwable" "stackTrace" "[Ljava/lang/StackTraceElement;") (by decide +kernel)) (fun _ h9 => h9) rfl (by decide +kernel) rfl rfl (Nat.le_of_ble_eq_true rfl) dT3_init_38 (fun H locs hP hD hS => ?_)
        have hP : va_P (dC, dI) vwCl [(h0, .inr (8, [.ref h0, .null, .null, v3, v4, v5]))] H := hP
        have hD : va_D A [(h0, .inr (8, [.ref h0, .null, .null, v3, v4, v5]))] := hD
        refine lv_aload_n hx hb dT3_init_41 rfl (lv_at hl 0 rfl) ?_
        refine lv_aload_nN hx hb dT3_init_42 rfl (lv_at hl 1 rfl) ?_
        refine va_put (D := (dC, dI)) (ci := 8) (v := .null) (ty := .object "java/lang/String") (C := RX8) (T := TX8) (N := 6) hx hb hts (by decide +kernel) tyX8 tyX8_ok nmX8 hown hK hP hD hS 0 rfl rfl 3 (by decide) (hts (.fieldLink RT3 31 "java/lang/Throwable" "detailMessage" "Ljava/lang/String;") (by decide +kernel)) (fun _ h9 => h9) rfl (by decide +kernel) rfl rfl (Nat.le_of_ble_eq_true rfl) dT3_init_43 (fun H locs hP hD hS => ?_)
        have hP : va_P (dC, dI) vwCl [(h0, .inr (8, [.ref h0, .null, .null, .null, v4, v5]))] H := hP
        have hD : va_D A [(h0, .inr (8, [.ref h0, .null, .null, .null, v4, v5]))] := hD
        refine lv_aload_n hx hb dT3_init_46 rfl (lv_at hl 0 rfl) ?_
        refine lv_aload_nN hx hb dT3_init_47 rfl (lv_at hl 2 rfl) ?_
        refine va_put (D := (dC, dI)) (ci := 8) (v := .null) (ty := .object "java/lang/Throwable") (C := RX8) (T := TX8) (N := 6) hx hb hts (by decide +kernel) tyX8 tyX8_ok nmX8 hown hK hP hD hS 0 rfl rfl 0 (by decide) (hts (.fieldLink RT3 7 "java/lang/Throwable" "cause" "Ljava/lang/Throwable;") (by decide +kernel)) (fun _ h9 => h9) rfl (by decide +kernel) rfl rfl (Nat.le_of_ble_eq_true rfl) dT3_init_48 (fun H locs hP hD hS => ?_)
        have hP : va_P (dC, dI) vwCl [(h0, .inr (8, [.null, .null, .null, .null, v4, v5]))] H := hP
        have hD : va_D A [(h0, .inr (8, [.null, .null, .null, .null, v4, v5]))] := hD
        refine lv_iload_n hx hb dT3_init_51 rfl (lv_at hl 3 rfl) ?_
        refine lv_if_ne (tgt := 60) hx hb dT3_init_52 (by decide) (fun c52 => ?_) (fun c52 => ?_)
        · have c52 : ¬ (0 = 0) := fun h => c52 ((nI_eq (a := 0) (b := 0) (by omega) (by omega)).mpr h)
          exfalso; omega
        · have c52 : 0 = 0 := (nI_eq (a := 0) (b := 0) (by omega) (by omega)).mp c52
          refine lv_aload_n hx hb dT3_init_55 rfl (lv_at hl 0 rfl) ?_
          refine lv_null hx hb dT3_init_56 ?_
          refine va_put (D := (dC, dI)) (ci := 8) (v := .null) (ty := .object "java/util/List") (C := RX8) (T := TX8) (N := 6) hx hb hts (by decide +kernel) tyX8 tyX8_ok nmX8 hown hK hP hD hS 0 rfl rfl 2 (by decide) (hts (.fieldLink RT3 24 "java/lang/Throwable" "suppressedExceptions" "Ljava/util/List;") (by decide +kernel)) (fun _ h9 => h9) rfl (by decide +kernel) rfl rfl (Nat.le_of_ble_eq_true rfl) dT3_init_57 (fun H locs hP hD hS => ?_)
          have hP : va_P (dC, dI) vwCl [(h0, .inr (8, [.null, .null, .null, .null, v4, v5]))] H := hP
          have hD : va_D A [(h0, .inr (8, [.null, .null, .null, .null, v4, v5]))] := hD
          have hP9 := hP.sub (ws' := [(h0, .inr (8, [.null, .null, .null, .null, v4, v5]))]) [0] rfl
          have hD9 := hD.sub (ws' := [(h0, .inr (8, [.null, .null, .null, .null, v4, v5]))]) [0] (by decide) rfl
          exact W.vret hx hb hr (fun t ht hW => ⟨⟨(), rfl, trivial, ⟨by rw [ht]; exact hP9, va_K.moved hW.alike hK, hD9⟩⟩, hS.F ht⟩) hS.2.2 dT3_init_60
      · have c25 : ¬ (0 = 0) := fun h => c25 ((nI_eq (a := 0) (b := 0) (by omega) (by omega)).mpr h)
        exfalso; omega
    · refine va_gets hx hb hz9 hS hown (hts (.fieldLink RT3 20 "java/lang/Throwable" "SUPPRESSED_SENTINEL" "Ljava/util/List;") (by decide +kernel)) (fun _ h9 => h9) dT3_init_17 ?_
      refine va_put (D := (dC, dI)) (ci := 8) (v := .ref t9_17) (ty := .object "java/util/List") (C := RX8) (T := TX8) (N := 6) hx hb hts (by decide +kernel) tyX8 tyX8_ok nmX8 hown hK hP hD hS 0 rfl rfl 2 (by decide) (hts (.fieldLink RT3 24 "java/lang/Throwable" "suppressedExceptions" "Ljava/util/List;") (by decide +kernel)) (fun _ h9 => h9) rfl (by decide +kernel) rfl rfl (Nat.le_of_ble_eq_true rfl) dT3_init_20 (fun H locs hP hD hS => ?_)
      have hP : va_P (dC, dI) vwCl [(h0, .inr (8, [.ref h0, .null, .ref t9_17, v3, v4, v5]))] H := hP
      have hD : va_D A [(h0, .inr (8, [.ref h0, .null, .ref t9_17, v3, v4, v5]))] := hD
      refine lv_iload hx hb dT3_init_23 (lv_at hl 4 rfl) ?_
      refine lv_if_eq (tgt := 36) hx hb dT3_init_25 (by decide) (fun c25 => ?_) (fun c25 => ?_)
      · have c25 : 0 = 0 := (nI_eq (a := 0) (b := 0) (by omega) (by omega)).mp c25
        refine lv_aload_n hx hb dT3_init_36 rfl (lv_at hl 0 rfl) ?_
        refine lv_null hx hb dT3_init_37 ?_
        refine va_put (D := (dC, dI)) (ci := 8) (v := .null) (ty := .array (.object "java/lang/StackTraceElement")) (C := RX8) (T := TX8) (N := 6) hx hb hts (by decide +kernel) tyX8 tyX8_ok nmX8 hown hK hP hD hS 0 rfl rfl 1 (by decide) (hts (.fieldLink RT3 17 "java/lang/Throwable" "stackTrace" "[Ljava/lang/StackTraceElement;") (by decide +kernel)) (fun _ h9 => h9) rfl (by decide +kernel) rfl rfl (Nat.le_of_ble_eq_true rfl) dT3_init_38 (fun H locs hP hD hS => ?_)
        have hP : va_P (dC, dI) vwCl [(h0, .inr (8, [.ref h0, .null, .ref t9_17, v3, v4, v5]))] H := hP
        have hD : va_D A [(h0, .inr (8, [.ref h0, .null, .ref t9_17, v3, v4, v5]))] := hD
        refine lv_aload_n hx hb dT3_init_41 rfl (lv_at hl 0 rfl) ?_
        refine lv_aload_nN hx hb dT3_init_42 rfl (lv_at hl 1 rfl) ?_
        refine va_put (D := (dC, dI)) (ci := 8) (v := .null) (ty := .object "java/lang/String") (C := RX8) (T := TX8) (N := 6) hx hb hts (by decide +kernel) tyX8 tyX8_ok nmX8 hown hK hP hD hS 0 rfl rfl 3 (by decide) (hts (.fieldLink RT3 31 "java/lang/Throwable" "detailMessage" "Ljava/lang/String;") (by decide +kernel)) (fun _ h9 => h9) rfl (by decide +kernel) rfl rfl (Nat.le_of_ble_eq_true rfl) dT3_init_43 (fun H locs hP hD hS => ?_)
        have hP : va_P (dC, dI) vwCl [(h0, .inr (8, [.ref h0, .null, .ref t9_17, .null, v4, v5]))] H := hP
        have hD : va_D A [(h0, .inr (8, [.ref h0, .null, .ref t9_17, .null, v4, v5]))] := hD
        refine lv_aload_n hx hb dT3_init_46 rfl (lv_at hl 0 rfl) ?_
        refine lv_aload_nN hx hb dT3_init_47 rfl (lv_at hl 2 rfl) ?_
        refine va_put (D := (dC, dI)) (ci := 8) (v := .null) (ty := .object "java/lang/Throwable") (C := RX8) (T := TX8) (N := 6) hx hb hts (by decide +kernel) tyX8 tyX8_ok nmX8 hown hK hP hD hS 0 rfl rfl 0 (by decide) (hts (.fieldLink RT3 7 "java/lang/Throwable" "cause" "Ljava/lang/Throwable;") (by decide +kernel)) (fun _ h9 => h9) rfl (by decide +kernel) rfl rfl (Nat.le_of_ble_eq_true rfl) dT3_init_48 (fun H locs hP hD hS => ?_)
        have hP : va_P (dC, dI) vwCl [(h0, .inr (8, [.null, .null, .ref t9_17, .null, v4, v5]))] H := hP
        have hD : va_D A [(h0, .inr (8, [.null, .null, .ref t9_17, .null, v4, v5]))] := hD
        refine lv_iload_n hx hb dT3_init_51 rfl (lv_at hl 3 rfl) ?_
        refine lv_if_ne (tgt := 60) hx hb dT3_init_52 (by decide) (fun c52 => ?_) (fun c52 => ?_)
        · have c52 : ¬ (0 = 0) := fun h => c52 ((nI_eq (a := 0) (b := 0) (by omega) (by omega)).mpr h)
          exfalso; omega
        · have c52 : 0 = 0 := (nI_eq (a := 0) (b := 0) (by omega) (by omega)).mp c52
          refine lv_aload_n hx hb dT3_init_55 rfl (lv_at hl 0 rfl) ?_
          refine lv_null hx hb dT3_init_56 ?_
          refine va_put (D := (dC, dI)) (ci := 8) (v := .null) (ty := .object "java/util/List") (C := RX8) (T := TX8) (N := 6) hx hb hts (by decide +kernel) tyX8 tyX8_ok nmX8 hown hK hP hD hS 0 rfl rfl 2 (by decide) (hts (.fieldLink RT3 24 "java/lang/Throwable" "suppressedExceptions" "Ljava/util/List;") (by decide +kernel)) (fun _ h9 => h9) rfl (by decide +kernel) rfl rfl (Nat.le_of_ble_eq_true rfl) dT3_init_57 (fun H locs hP hD hS => ?_)
          have hP : va_P (dC, dI) vwCl [(h0, .inr (8, [.null, .null, .null, .null, v4, v5]))] H := hP
          have hD : va_D A [(h0, .inr (8, [.null, .null, .null, .null, v4, v5]))] := hD
          have hP9 := hP.sub (ws' := [(h0, .inr (8, [.null, .null, .null, .null, v4, v5]))]) [0] rfl
          have hD9 := hD.sub (ws' := [(h0, .inr (8, [.null, .null, .null, .null, v4, v5]))]) [0] (by decide) rfl
          exact W.vret hx hb hr (fun t ht hW => ⟨⟨(), rfl, trivial, ⟨by rw [ht]; exact hP9, va_K.moved hW.alike hK, hD9⟩⟩, hS.F ht⟩) hS.2.2 dT3_init_60
      · have c25 : ¬ (0 = 0) := fun h => c25 ((nI_eq (a := 0) (b := 0) (by omega) (by omega)).mpr h)
        exfalso; omega
  · refine va_gets hx hb hz9 hS hown (hts (.fieldLink RT3 13 "java/lang/Throwable" "UNASSIGNED_STACK" "[Ljava/lang/StackTraceElement;") (by decide +kernel)) (fun _ h9 => h9) dT3_init_10 ?_
    refine va_put (D := (dC, dI)) (ci := 8) (v := .ref t9_10) (ty := .array (.object "java/lang/StackTraceElement")) (C := RX8) (T := TX8) (N := 6) hx hb hts (by decide +kernel) tyX8 tyX8_ok nmX8 hown hK hP hD hS 0 rfl rfl 1 (by decide) (hts (.fieldLink RT3 17 "java/lang/Throwable" "stackTrace" "[Ljava/lang/StackTraceElement;") (by decide +kernel)) (fun _ h9 => h9) rfl (by decide +kernel) rfl rfl (Nat.le_of_ble_eq_true rfl) dT3_init_13 (fun H locs hP hD hS => ?_)
    have hP : va_P (dC, dI) vwCl [(h0, .inr (8, [.ref h0, .ref t9_10, v2, v3, v4, v5]))] H := hP
    have hD : va_D A [(h0, .inr (8, [.ref h0, .ref t9_10, v2, v3, v4, v5]))] := hD
    refine lv_aload_n hx hb dT3_init_16 rfl (lv_at hl 0 rfl) ?_
    rcases (zE_N hE).1 with hz9 | ⟨t9_17, hz9⟩
    · refine va_gets hx hb hz9 hS hown (hts (.fieldLink RT3 20 "java/lang/Throwable" "SUPPRESSED_SENTINEL" "Ljava/util/List;") (by decide +kernel)) (fun _ h9 => h9) dT3_init_17 ?_
      refine va_put (D := (dC, dI)) (ci := 8) (v := .null) (ty := .object "java/util/List") (C := RX8) (T := TX8) (N := 6) hx hb hts (by decide +kernel) tyX8 tyX8_ok nmX8 hown hK hP hD hS 0 rfl rfl 2 (by decide) (hts (.fieldLink RT3 24 "java/lang/Throwable" "suppressedExceptions" "Ljava/util/List;") (by decide +kernel)) (fun _ h9 => h9) rfl (by decide +kernel) rfl rfl (Nat.le_of_ble_eq_true rfl) dT3_init_20 (fun H locs hP hD hS => ?_)
      have hP : va_P (dC, dI) vwCl [(h0, .inr (8, [.ref h0, .ref t9_10, .null, v3, v4, v5]))] H := hP
      have hD : va_D A [(h0, .inr (8, [.ref h0, .ref t9_10, .null, v3, v4, v5]))] := hD
      refine lv_iload hx hb dT3_init_23 (lv_at hl 4 rfl) ?_
      refine lv_if_eq (tgt := 36) hx hb dT3_init_25 (by decide) (fun c25 => ?_) (fun c25 => ?_)
      · have c25 : 0 = 0 := (nI_eq (a := 0) (b := 0) (by omega) (by omega)).mp c25
        refine lv_aload_n hx hb dT3_init_36 rfl (lv_at hl 0 rfl) ?_
        refine lv_null hx hb dT3_init_37 ?_
        refine va_put (D := (dC, dI)) (ci := 8) (v := .null) (ty := .array (.object "java/lang/StackTraceElement")) (C := RX8) (T := TX8) (N := 6) hx hb hts (by decide +kernel) tyX8 tyX8_ok nmX8 hown hK hP hD hS 0 rfl rfl 1 (by decide) (hts (.fieldLink RT3 17 "java/lang/Throwable" "stackTrace" "[Ljava/lang/StackTraceElement;") (by decide +kernel)) (fun _ h9 => h9) rfl (by decide +kernel) rfl rfl (Nat.le_of_ble_eq_true rfl) dT3_init_38 (fun H locs hP hD hS => ?_)
        have hP : va_P (dC, dI) vwCl [(h0, .inr (8, [.ref h0, .null, .null, v3, v4, v5]))] H := hP
        have hD : va_D A [(h0, .inr (8, [.ref h0, .null, .null, v3, v4, v5]))] := hD
        refine lv_aload_n hx hb dT3_init_41 rfl (lv_at hl 0 rfl) ?_
        refine lv_aload_nN hx hb dT3_init_42 rfl (lv_at hl 1 rfl) ?_
        refine va_put (D := (dC, dI)) (ci := 8) (v := .null) (ty := .object "java/lang/String") (C := RX8) (T := TX8) (N := 6) hx hb hts (by decide +kernel) tyX8 tyX8_ok nmX8 hown hK hP hD hS 0 rfl rfl 3 (by decide) (hts (.fieldLink RT3 31 "java/lang/Throwable" "detailMessage" "Ljava/lang/String;") (by decide +kernel)) (fun _ h9 => h9) rfl (by decide +kernel) rfl rfl (Nat.le_of_ble_eq_true rfl) dT3_init_43 (fun H locs hP hD hS => ?_)
        have hP : va_P (dC, dI) vwCl [(h0, .inr (8, [.ref h0, .null, .null, .null, v4, v5]))] H := hP
        have hD : va_D A [(h0, .inr (8, [.ref h0, .null, .null, .null, v4, v5]))] := hD
        refine lv_aload_n hx hb dT3_init_46 rfl (lv_at hl 0 rfl) ?_
        refine lv_aload_nN hx hb dT3_init_47 rfl (lv_at hl 2 rfl) ?_
        refine va_put (D := (dC, dI)) (ci := 8) (v := .null) (ty := .object "java/lang/Throwable") (C := RX8) (T := TX8) (N := 6) hx hb hts (by decide +kernel) tyX8 tyX8_ok nmX8 hown hK hP hD hS 0 rfl rfl 0 (by decide) (hts (.fieldLink RT3 7 "java/lang/Throwable" "cause" "Ljava/lang/Throwable;") (by decide +kernel)) (fun _ h9 => h9) rfl (by decide +kernel) rfl rfl (Nat.le_of_ble_eq_true rfl) dT3_init_48 (fun H locs hP hD hS => ?_)
        have hP : va_P (dC, dI) vwCl [(h0, .inr (8, [.null, .null, .null, .null, v4, v5]))] H := hP
        have hD : va_D A [(h0, .inr (8, [.null, .null, .null, .null, v4, v5]))] := hD
        refine lv_iload_n hx hb dT3_init_51 rfl (lv_at hl 3 rfl) ?_
        refine lv_if_ne (tgt := 60) hx hb dT3_init_52 (by decide) (fun c52 => ?_) (fun c52 => ?_)
        · have c52 : ¬ (0 = 0) := fun h => c52 ((nI_eq (a := 0) (b := 0) (by omega) (by omega)).mpr h)
          exfalso; omega
        · have c52 : 0 = 0 := (nI_eq (a := 0) (b := 0) (by omega) (by omega)).mp c52
          refine lv_aload_n hx hb dT3_init_55 rfl (lv_at hl 0 rfl) ?_
          refine lv_null hx hb dT3_init_56 ?_
          refine va_put (D := (dC, dI)) (ci := 8) (v := .null) (ty := .object "java/util/List") (C := RX8) (T := TX8) (N := 6) hx hb hts (by decide +kernel) tyX8 tyX8_ok nmX8 hown hK hP hD hS 0 rfl rfl 2 (by decide) (hts (.fieldLink RT3 24 "java/lang/Throwable" "suppressedExceptions" "Ljava/util/List;") (by decide +kernel)) (fun _ h9 => h9) rfl (by decide +kernel) rfl rfl (Nat.le_of_ble_eq_true rfl) dT3_init_57 (fun H locs hP hD hS => ?_)
          have hP : va_P (dC, dI) vwCl [(h0, .inr (8, [.null, .null, .null, .null, v4, v5]))] H := hP
          have hD : va_D A [(h0, .inr (8, [.null, .null, .null, .null, v4, v5]))] := hD
          have hP9 := hP.sub (ws' := [(h0, .inr (8, [.null, .null, .null, .null, v4, v5]))]) [0] rfl
          have hD9 := hD.sub (ws' := [(h0, .inr (8, [.null, .null, .null, .null, v4, v5]))]) [0] (by decide) rfl
          exact W.vret hx hb hr (fun t ht hW => ⟨⟨(), rfl, trivial, ⟨by rw [ht]; exact hP9, va_K.moved hW.alike hK, hD9⟩⟩, hS.F ht⟩) hS.2.2 dT3_init_60
      · have c25 : ¬ (0 = 0) := fun h => c25 ((nI_eq (a := 0) (b := 0) (by omega) (by omega)).mpr h)
        exfalso; omega
    · refine va_gets hx hb hz9 hS hown (hts (.fieldLink RT3 20 "java/lang/Throwable" "SUPPRESSED_SENTINEL" "Ljava/util/List;") (by decide +kernel)) (fun _ h9 => h9) dT3_init_17 ?_
      refine va_put (D := (dC, dI)) (ci := 8) (v := .ref t9_17) (ty := .object "java/util/List") (C := RX8) (T := TX8) (N := 6) hx hb hts (by decide +kernel) tyX8 tyX8_ok nmX8 hown hK hP hD hS 0 rfl rfl 2 (by decide) (hts (.fieldLink RT3 24 "java/lang/Throwable" "suppressedExceptions" "Ljava/util/List;") (by decide +kernel)) (fun _ h9 => h9) rfl (by decide +kernel) rfl rfl (Nat.le_of_ble_eq_true rfl) dT3_init_20 (fun H locs hP hD hS => ?_)
      have hP : va_P (dC, dI) vwCl [(h0, .inr (8, [.ref h0, .ref t9_10, .ref t9_17, v3, v4, v5]))] H := hP
      have hD : va_D A [(h0, .inr (8, [.ref h0, .ref t9_10, .ref t9_17, v3, v4, v5]))] := hD
      refine lv_iload hx hb dT3_init_23 (lv_at hl 4 rfl) ?_
      refine lv_if_eq (tgt := 36) hx hb dT3_init_25 (by decide) (fun c25 => ?_) (fun c25 => ?_)
      · have c25 : 0 = 0 := (nI_eq (a := 0) (b := 0) (by omega) (by omega)).mp c25
        refine lv_aload_n hx hb dT3_init_36 rfl (lv_at hl 0 rfl) ?_
        refine lv_null hx hb dT3_init_37 ?_
        refine va_put (D := (dC, dI)) (ci := 8) (v := .null) (ty := .array (.object "java/lang/StackTraceElement")) (C := RX8) (T := TX8) (N := 6) hx hb hts (by decide +kernel) tyX8 tyX8_ok nmX8 hown hK hP hD hS 0 rfl rfl 1 (by decide) (hts (.fieldLink RT3 17 "java/lang/Throwable" "stackTrace" "[Ljava/lang/StackTraceElement;") (by decide +kernel)) (fun _ h9 => h9) rfl (by decide +kernel) rfl rfl (Nat.le_of_ble_eq_true rfl) dT3_init_38 (fun H locs hP hD hS => ?_)
        have hP : va_P (dC, dI) vwCl [(h0, .inr (8, [.ref h0, .null, .ref t9_17, v3, v4, v5]))] H := hP
        have hD : va_D A [(h0, .inr (8, [.ref h0, .null, .ref t9_17, v3, v4, v5]))] := hD
        refine lv_aload_n hx hb dT3_init_41 rfl (lv_at hl 0 rfl) ?_
        refine lv_aload_nN hx hb dT3_init_42 rfl (lv_at hl 1 rfl) ?_
        refine va_put (D := (dC, dI)) (ci := 8) (v := .null) (ty := .object "java/lang/String") (C := RX8) (T := TX8) (N := 6) hx hb hts (by decide +kernel) tyX8 tyX8_ok nmX8 hown hK hP hD hS 0 rfl rfl 3 (by decide) (hts (.fieldLink RT3 31 "java/lang/Throwable" "detailMessage" "Ljava/lang/String;") (by decide +kernel)) (fun _ h9 => h9) rfl (by decide +kernel) rfl rfl (Nat.le_of_ble_eq_true rfl) dT3_init_43 (fun H locs hP hD hS => ?_)
        have hP : va_P (dC, dI) vwCl [(h0, .inr (8, [.ref h0, .null, .ref t9_17, .null, v4, v5]))] H := hP
        have hD : va_D A [(h0, .inr (8, [.ref h0, .null, .ref t9_17, .null, v4, v5]))] := hD
        refine lv_aload_n hx hb dT3_init_46 rfl (lv_at hl 0 rfl) ?_
        refine lv_aload_nN hx hb dT3_init_47 rfl (lv_at hl 2 rfl) ?_
        refine va_put (D := (dC, dI)) (ci := 8) (v := .null) (ty := .object "java/lang/Throwable") (C := RX8) (T := TX8) (N := 6) hx hb hts (by decide +kernel) tyX8 tyX8_ok nmX8 hown hK hP hD hS 0 rfl rfl 0 (by decide) (hts (.fieldLink RT3 7 "java/lang/Throwable" "cause" "Ljava/lang/Throwable;") (by decide +kernel)) (fun _ h9 => h9) rfl (by decide +kernel) rfl rfl (Nat.le_of_ble_eq_true rfl) dT3_init_48 (fun H locs hP hD hS => ?_)
        have hP : va_P (dC, dI) vwCl [(h0, .inr (8, [.null, .null, .ref t9_17, .null, v4, v5]))] H := hP
        have hD : va_D A [(h0, .inr (8, [.null, .null, .ref t9_17, .null, v4, v5]))] := hD
        refine lv_iload_n hx hb dT3_init_51 rfl (lv_at hl 3 rfl) ?_
        refine lv_if_ne (tgt := 60) hx hb dT3_init_52 (by decide) (fun c52 => ?_) (fun c52 => ?_)
        · have c52 : ¬ (0 = 0) := fun h => c52 ((nI_eq (a := 0) (b := 0) (by omega) (by omega)).mpr h)
          exfalso; omega
        · have c52 : 0 = 0 := (nI_eq (a := 0) (b := 0) (by omega) (by omega)).mp c52
          refine lv_aload_n hx hb dT3_init_55 rfl (lv_at hl 0 rfl) ?_
          refine lv_null hx hb dT3_init_56 ?_
          refine va_put (D := (dC, dI)) (ci := 8) (v := .null) (ty := .object "java/util/List") (C := RX8) (T := TX8) (N := 6) hx hb hts (by decide +kernel) tyX8 tyX8_ok nmX8 hown hK hP hD hS 0 rfl rfl 2 (by decide) (hts (.fieldLink RT3 24 "java/lang/Throwable" "suppressedExceptions" "Ljava/util/List;") (by decide +kernel)) (fun _ h9 => h9) rfl (by decide +kernel) rfl rfl (Nat.le_of_ble_eq_true rfl) dT3_init_57 (fun H locs hP hD hS => ?_)
          have hP : va_P (dC, dI) vwCl [(h0, .inr (8, [.null, .null, .null, .null, v4, v5]))] H := hP
          have hD : va_D A [(h0, .inr (8, [.null, .null, .null, .null, v4, v5]))] := hD
          have hP9 := hP.sub (ws' := [(h0, .inr (8, [.null, .null, .null, .null, v4, v5]))]) [0] rfl
          have hD9 := hD.sub (ws' := [(h0, .inr (8, [.null, .null, .null, .null, v4, v5]))]) [0] (by decide) rfl
          exact W.vret hx hb hr (fun t ht hW => ⟨⟨(), rfl, trivial, ⟨by rw [ht]; exact hP9, va_K.moved hW.alike hK, hD9⟩⟩, hS.F ht⟩) hS.2.2 dT3_init_60
      · have c25 : ¬ (0 = 0) := fun h => c25 ((nI_eq (a := 0) (b := 0) (by omega) (by omega)).mpr h)
        exfalso; omega

abbrev rm_T2_init : Room := { frames := 2, cells := 0, slots := 0, locals := 36 }
abbrev wo_T2_init (dC : Nat → ClassId) (dI : Nat → Nat → Nat) (cB cI cJ cM : ClassId) (h0 : Nat) (v0 v1 v2 v3 v4 v5 : Value) : va_W := [(h0, .inr (8, [v0, v1, v2, v3, v4, v5]))]
abbrev q_T2_init (dC : Nat → ClassId) (dI : Nat → Nat → Nat) (cB cI cJ cM : ClassId) (h0 : Nat) (v0 v1 v2 v3 v4 v5 : Value) (A : Nat → Prop) : Array Value → State → Outcome → State → Prop := va_Qv (fun (u : Unit) => True) (zB dC dI cB cI cJ cM A (fun u : Unit => [(h0, .inr (8, [.null, .null, .null, .null, v4, v5]))])) A
set_option maxHeartbeats 8000000 in
set_option maxRecDepth 100000 in
theorem k_T2_init (l : Launch) (dC : Nat → ClassId) (dI : Nat → Nat → Nat) (cB cI cJ cM : ClassId) (h0 : Nat) (v0 v1 v2 v3 v4 v5 : Value) (sz : Nat) : Met l yT2_init wsT2_init rm_T2_init (va_Pc [.ref h0, .null, .null, .int 0, .int 0] (fun U => U.heap.size = sz ∧ va_P (dC, dI) vwCl (wo_T2_init dC dI cB cI cJ cM h0 v0 v1 v2 v3 v4 v5) U.heap ∧ va_K (dC, dI) vwCl (zT cB cI cJ cM) U ∧ va_D (fun _ => True) (wo_T2_init dC dI cB cI cJ cM h0 v0 v1 v2 v3 v4 v5) ∧ zE (va_A (wo_T2_init dC dI cB cI cJ cM h0 v0 v1 v2 v3 v4 v5) sz) U)) (q_T2_init dC dI cB cI cJ cM h0 v0 v1 v2 v3 v4 v5 (va_A (wo_T2_init dC dI cB cI cJ cM h0 v0 v1 v2 v3 v4 v5) sz)) 0 0 (va_A (wo_T2_init dC dI cB cI cJ cM h0 v0 v1 v2 v3 v4 v5) sz) := by
  refine Met.ofW (cc := cT2_init) (maxL := 5) (ret := none) (by decide) rfl ?_
  intro p e s m args below meth c s₁ B hml hv
  obtain ⟨rfl, hsz, hP, hK, hD0, hE⟩ := hv
  have hx := B.exec
  have hb := B.bytes
  have hr := B.returns
  have hts := atoms_spec (ws := wsT2_init) B.pre
  have hown : s.vm.findClass RT2 = some m.cls := findClass_of_methodNamed B.named
  have hlocks := B.notSynchronized
  have hin : meth.name = "<init>" := (name_of_methodNamed B.named B.method).1
  subst hsz
  have hD := hD0.self (sz := s.heap.size)
  generalize hAe : va_A (wo_T2_init dC dI cB cI cJ cM h0 v0 v1 v2 v3 v4 v5) s.heap.size = A at hD hE ⊢
  have hA : ∀ q : Nat, s.heap.size ≤ q → A q := fun q h => by rw [← hAe]; exact Or.inr h
  have hS : va_S A s.heap s.heap [] := va_S.rf
  have hP : va_P (dC, dI) vwCl [(h0, .inr (8, [v0, v1, v2, v3, v4, v5]))] s.heap := hP
  have hD : va_D A [(h0, .inr (8, [v0, v1, v2, v3, v4, v5]))] := hD
  have hl := lv_entry ([.ref h0, .null, .null, .int 0, .int 0]) (n := 5) (Nat.le_of_ble_eq_true rfl)
  rw [lg_entry_eq]
  generalize (lg_sl ([.ref h0, .null, .null, .int 0, .int 0]) ++ List.replicate (5 - (lg_sl ([.ref h0, .null, .null, .int 0, .int 0])).length) Slot.unset).toArray = ls at hl ⊢
  have hl : lv_has ls 5 [(0, .ref h0), (1, .null), (2, .null), (3, .int 0), (4, .int 0)] := hl
  refine lv_aload_n hx hb dT2_init_0 rfl (lv_at hl 0 rfl) ?_
  refine lv_aload_nN hx hb dT2_init_1 rfl (lv_at hl 1 rfl) ?_
  refine lv_aload_nN hx hb dT2_init_2 rfl (lv_at hl 2 rfl) ?_
  refine lv_iload_n hx hb dT2_init_3 rfl (lv_at hl 3 rfl) ?_
  refine lv_iload hx hb dT2_init_4 (lv_at hl 4 rfl) ?_
  have hPc := hP.sub (ws' := [(h0, .inr (8, [v0, v1, v2, v3, v4, v5]))]) [0] rfl
  have hDc := hD.sub (ws' := [(h0, .inr (8, [v0, v1, v2, v3, v4, v5]))]) [0] (by decide) rfl
  have hFc := va_free (wc := [(h0, .inr (8, [v0, v1, v2, v3, v4, v5]))]) hD hS hA [0] rfl
  refine va_callv (va_runI (As := [.null, .null, .int 0, .int 0]) (rest := []) ⟨hx, hb, hml, hown, hts⟩ (k_T3_init l dC dI cB cI cJ cM h0 v0 v1 v2 v3 v4 v5  s.heap.size) (cwI 4 hts gT2_init_T3_init rfl rfl rfl (hts (.initialized RT3) (by decide +kernel)) (hts (.methodLink RT2 16 yT3_init) (by decide +kernel)) (hts (.instanceMethod yT3_init) (by decide +kernel)) rfl (by decide +kernel) ⟨Nat.le_of_ble_eq_true rfl, Nat.le_of_ble_eq_true rfl⟩) ⟨fun a U g mk q => by obtain ⟨q0, q1, qP, qK, qD, qE⟩ := q; exact ⟨q0, q1, qP, va_K.moved (u := U) (U := U.calling g mk a) (Vm.Alike.refl U.vm) qK, qD, zE.blind qE⟩, fun U hU hW => ⟨rfl, by rw [hU], by rw [hU]; exact hPc, va_K.moved hW.alike hK, hDc.weaken (fun _ _ _ _ => trivial), zE.call hE hS hU hW hFc⟩⟩ rfl rfl hl.1 rfl (lv_room (Nat.le_of_ble_eq_true rfl)) dT2_init_6 ⟨(show 0 + 0 ≤ 0 by omega), (show 0 + 0 ≤ 0 by omega)⟩) hS (fun q _ h => hFc q h) hFc (fun u t H1 locs ht hvm hw hB hz1 hk1 hS => ?_)
  have hP1 : va_P (dC, dI) vwCl [(h0, .inr (8, [.null, .null, .null, .null, v4, v5]))] H1 := by rw [← ht]; exact hB.1
  have hD1 : va_D (va_A [(h0, .inr (8, [v0, v1, v2, v3, v4, v5]))] s.heap.size) [(h0, .inr (8, [.null, .null, .null, .null, v4, v5]))] := hB.2.2
  obtain ⟨hP, hD⟩ := va_join (wr := []) (w1 := [(h0, .inr (8, [.null, .null, .null, .null, v4, v5]))]) hP hD [0] [] rfl rfl (by decide) (by decide) hk1 hFc hP1 hD1
  generalize H1 = H at hP hS ⊢
  try dsimp only at hw
  have hP : va_P (dC, dI) vwCl [(h0, .inr (8, [.null, .null, .null, .null, v4, v5]))] H := hP
  have hD : va_D A [(h0, .inr (8, [.null, .null, .null, .null, v4, v5]))] := hD
  refine W.eq (g2 := F0 m 9 ls []) rfl ?_
  have hP9 := hP.sub (ws' := [(h0, .inr (8, [.null, .null, .null, .null, v4, v5]))]) [0] rfl
  have hD9 := hD.sub (ws' := [(h0, .inr (8, [.null, .null, .null, .null, v4, v5]))]) [0] (by decide) rfl
  exact W.vret hx hb hr (fun t ht hW => ⟨⟨(), rfl, trivial, ⟨by rw [ht]; exact hP9, va_K.moved hW.alike hK, hD9⟩⟩, hS.F ht⟩) hS.2.2 dT2_init_9

abbrev rm_T1_init : Room := { frames := 3, cells := 0, slots := 0, locals := 60 }
abbrev wo_T1_init (dC : Nat → ClassId) (dI : Nat → Nat → Nat) (cB cI cJ cM : ClassId) (h0 : Nat) (v0 v1 v2 v3 v4 v5 : Value) : va_W := [(h0, .inr (8, [v0, v1, v2, v3, v4, v5]))]
abbrev q_T1_init (dC : Nat → ClassId) (dI : Nat → Nat → Nat) (cB cI cJ cM : ClassId) (h0 : Nat) (v0 v1 v2 v3 v4 v5 : Value) (A : Nat → Prop) : Array Value → State → Outcome → State → Prop := va_Qv (fun (u : Unit) => True) (zB dC dI cB cI cJ cM A (fun u : Unit => [(h0, .inr (8, [.null, .null, .null, .null, v4, v5]))])) A
set_option maxHeartbeats 8000000 in
set_option maxRecDepth 100000 in
theorem k_T1_init (l : Launch) (dC : Nat → ClassId) (dI : Nat → Nat → Nat) (cB cI cJ cM : ClassId) (h0 : Nat) (v0 v1 v2 v3 v4 v5 : Value) (sz : Nat) : Met l yT1_init wsT1_init rm_T1_init (va_Pc [.ref h0, .null, .null, .int 0, .int 0] (fun U => U.heap.size = sz ∧ va_P (dC, dI) vwCl (wo_T1_init dC dI cB cI cJ cM h0 v0 v1 v2 v3 v4 v5) U.heap ∧ va_K (dC, dI) vwCl (zT cB cI cJ cM) U ∧ va_D (fun _ => True) (wo_T1_init dC dI cB cI cJ cM h0 v0 v1 v2 v3 v4 v5) ∧ zE (va_A (wo_T1_init dC dI cB cI cJ cM h0 v0 v1 v2 v3 v4 v5) sz) U)) (q_T1_init dC dI cB cI cJ cM h0 v0 v1 v2 v3 v4 v5 (va_A (wo_T1_init dC dI cB cI cJ cM h0 v0 v1 v2 v3 v4 v5) sz)) 0 0 (va_A (wo_T1_init dC dI cB cI cJ cM h0 v0 v1 v2 v3 v4 v5) sz) := by
  refine Met.ofW (cc := cT1_init) (maxL := 5) (ret := none) (by decide) rfl ?_
  intro p e s m args below meth c s₁ B hml hv
  obtain ⟨rfl, hsz, hP, hK, hD0, hE⟩ := hv
  have hx := B.exec
  have hb := B.bytes
  have hr := B.returns
  have hts := atoms_spec (ws := wsT1_init) B.pre
  have hown : s.vm.findClass RT1 = some m.cls := findClass_of_methodNamed B.named
  have hlocks := B.notSynchronized
  have hin : meth.name = "<init>" := (name_of_methodNamed B.named B.method).1
  subst hsz
  have hD := hD0.self (sz := s.heap.size)
  generalize hAe : va_A (wo_T1_init dC dI cB cI cJ cM h0 v0 v1 v2 v3 v4 v5) s.heap.size = A at hD hE ⊢
  have hA : ∀ q : Nat, s.heap.size ≤ q → A q := fun q h => by rw [← hAe]; exact Or.inr h
  have hS : va_S A s.heap s.heap [] := va_S.rf
  have hP : va_P (dC, dI) vwCl [(h0, .inr (8, [v0, v1, v2, v3, v4, v5]))] s.heap := hP
  have hD : va_D A [(h0, .inr (8, [v0, v1, v2, v3, v4, v5]))] := hD
  have hl := lv_entry ([.ref h0, .null, .null, .int 0, .int 0]) (n := 5) (Nat.le_of_ble_eq_true rfl)
  rw [lg_entry_eq]
  generalize (lg_sl ([.ref h0, .null, .null, .int 0, .int 0]) ++ List.replicate (5 - (lg_sl ([.ref h0, .null, .null, .int 0, .int 0])).length) Slot.unset).toArray = ls at hl ⊢
  have hl : lv_has ls 5 [(0, .ref h0), (1, .null), (2, .null), (3, .int 0), (4, .int 0)] := hl
  refine lv_aload_n hx hb dT1_init_0 rfl (lv_at hl 0 rfl) ?_
  refine lv_aload_nN hx hb dT1_init_1 rfl (lv_at hl 1 rfl) ?_
  refine lv_aload_nN hx hb dT1_init_2 rfl (lv_at hl 2 rfl) ?_
  refine lv_iload_n hx hb dT1_init_3 rfl (lv_at hl 3 rfl) ?_
  refine lv_iload hx hb dT1_init_4 (lv_at hl 4 rfl) ?_
  have hPc := hP.sub (ws' := [(h0, .inr (8, [v0, v1, v2, v3, v4, v5]))]) [0] rfl
  have hDc := hD.sub (ws' := [(h0, .inr (8, [v0, v1, v2, v3, v4, v5]))]) [0] (by decide) rfl
  have hFc := va_free (wc := [(h0, .inr (8, [v0, v1, v2, v3, v4, v5]))]) hD hS hA [0] rfl
  refine va_callv (va_runI (As := [.null, .null, .int 0, .int 0]) (rest := []) ⟨hx, hb, hml, hown, hts⟩ (k_T2_init l dC dI cB cI cJ cM h0 v0 v1 v2 v3 v4 v5  s.heap.size) (cwI 4 hts gT1_init_T2_init rfl rfl rfl (hts (.initialized RT2) (by decide +kernel)) (hts (.methodLink RT1 16 yT2_init) (by decide +kernel)) (hts (.instanceMethod yT2_init) (by decide +kernel)) rfl (by decide +kernel) ⟨Nat.le_of_ble_eq_true rfl, Nat.le_of_ble_eq_true rfl⟩) ⟨fun a U g mk q => by obtain ⟨q0, q1, qP, qK, qD, qE⟩ := q; exact ⟨q0, q1, qP, va_K.moved (u := U) (U := U.calling g mk a) (Vm.Alike.refl U.vm) qK, qD, zE.blind qE⟩, fun U hU hW => ⟨rfl, by rw [hU], by rw [hU]; exact hPc, va_K.moved hW.alike hK, hDc.weaken (fun _ _ _ _ => trivial), zE.call hE hS hU hW hFc⟩⟩ rfl rfl hl.1 rfl (lv_room (Nat.le_of_ble_eq_true rfl)) dT1_init_6 ⟨(show 0 + 0 ≤ 0 by omega), (show 0 + 0 ≤ 0 by omega)⟩) hS (fun q _ h => hFc q h) hFc (fun u t H1 locs ht hvm hw hB hz1 hk1 hS => ?_)
  have hP1 : va_P (dC, dI) vwCl [(h0, .inr (8, [.null, .null, .null, .null, v4, v5]))] H1 := by rw [← ht]; exact hB.1
  have hD1 : va_D (va_A [(h0, .inr (8, [v0, v1, v2, v3, v4, v5]))] s.heap.size) [(h0, .inr (8, [.null, .null, .null, .null, v4, v5]))] := hB.2.2
  obtain ⟨hP, hD⟩ := va_join (wr := []) (w1 := [(h0, .inr (8, [.null, .null, .null, .null, v4, v5]))]) hP hD [0] [] rfl rfl (by decide) (by decide) hk1 hFc hP1 hD1
  generalize H1 = H at hP hS ⊢
  try dsimp only at hw
  have hP : va_P (dC, dI) vwCl [(h0, .inr (8, [.null, .null, .null, .null, v4, v5]))] H := hP
  have hD : va_D A [(h0, .inr (8, [.null, .null, .null, .null, v4, v5]))] := hD
  refine W.eq (g2 := F0 m 9 ls []) rfl ?_
  have hP9 := hP.sub (ws' := [(h0, .inr (8, [.null, .null, .null, .null, v4, v5]))]) [0] rfl
  have hD9 := hD.sub (ws' := [(h0, .inr (8, [.null, .null, .null, .null, v4, v5]))]) [0] (by decide) rfl
  exact W.vret hx hb hr (fun t ht hW => ⟨⟨(), rfl, trivial, ⟨by rw [ht]; exact hP9, va_K.moved hW.alike hK, hD9⟩⟩, hS.F ht⟩) hS.2.2 dT1_init_9

abbrev rm_X8_initb : Room := { frames := 4, cells := 0, slots := 0, locals := 84 }
abbrev wo_X8_initb (dC : Nat → ClassId) (dI : Nat → Nat → Nat) (cB cI cJ cM : ClassId) (h0 : Nat) (v0 v1 v2 v3 v4 v5 : Value) : va_W := [(h0, .inr (8, [v0, v1, v2, v3, v4, v5]))]
abbrev q_X8_initb (dC : Nat → ClassId) (dI : Nat → Nat → Nat) (cB cI cJ cM : ClassId) (h0 : Nat) (v0 v1 v2 v3 v4 v5 : Value) (A : Nat → Prop) : Array Value → State → Outcome → State → Prop := va_Qv (fun (u : Unit) => True) (zB dC dI cB cI cJ cM A (fun u : Unit => [(h0, .inr (8, [.null, .null, .null, .null, v4, v5]))])) A
set_option maxHeartbeats 8000000 in
set_option maxRecDepth 100000 in
/-- Broken() -/
theorem k_X8_initb (l : Launch) (dC : Nat → ClassId) (dI : Nat → Nat → Nat) (cB cI cJ cM : ClassId) (h0 : Nat) (v0 v1 v2 v3 v4 v5 : Value) (sz : Nat) : Met l yX8_initb wsX8_initb rm_X8_initb (va_Pc [.ref h0] (fun U => U.heap.size = sz ∧ va_P (dC, dI) vwCl (wo_X8_initb dC dI cB cI cJ cM h0 v0 v1 v2 v3 v4 v5) U.heap ∧ va_K (dC, dI) vwCl (zT cB cI cJ cM) U ∧ va_D (fun _ => True) (wo_X8_initb dC dI cB cI cJ cM h0 v0 v1 v2 v3 v4 v5) ∧ zE (va_A (wo_X8_initb dC dI cB cI cJ cM h0 v0 v1 v2 v3 v4 v5) sz) U)) (q_X8_initb dC dI cB cI cJ cM h0 v0 v1 v2 v3 v4 v5 (va_A (wo_X8_initb dC dI cB cI cJ cM h0 v0 v1 v2 v3 v4 v5) sz)) 0 0 (va_A (wo_X8_initb dC dI cB cI cJ cM h0 v0 v1 v2 v3 v4 v5) sz) := by
  refine Met.ofW (cc := cX8_initb) (maxL := 1) (ret := none) (by decide) rfl ?_
  intro p e s m args below meth c s₁ B hml hv
  obtain ⟨rfl, hsz, hP, hK, hD0, hE⟩ := hv
  have hx := B.exec
  have hb := B.bytes
  have hr := B.returns
  have hts := atoms_spec (ws := wsX8_initb) B.pre
  have hown : s.vm.findClass RX8 = some m.cls := findClass_of_methodNamed B.named
  have hlocks := B.notSynchronized
  have hin : meth.name = "<init>" := (name_of_methodNamed B.named B.method).1
  subst hsz
  have hD := hD0.self (sz := s.heap.size)
  generalize hAe : va_A (wo_X8_initb dC dI cB cI cJ cM h0 v0 v1 v2 v3 v4 v5) s.heap.size = A at hD hE ⊢
  have hA : ∀ q : Nat, s.heap.size ≤ q → A q := fun q h => by rw [← hAe]; exact Or.inr h
  have hS : va_S A s.heap s.heap [] := va_S.rf
  have hP : va_P (dC, dI) vwCl [(h0, .inr (8, [v0, v1, v2, v3, v4, v5]))] s.heap := hP
  have hD : va_D A [(h0, .inr (8, [v0, v1, v2, v3, v4, v5]))] := hD
  have hl := lv_entry ([.ref h0]) (n := 1) (Nat.le_of_ble_eq_true rfl)
  rw [lg_entry_eq]
  generalize (lg_sl ([.ref h0]) ++ List.replicate (1 - (lg_sl ([.ref h0])).length) Slot.unset).toArray = ls at hl ⊢
  have hl : lv_has ls 1 [(0, .ref h0)] := hl
  refine lv_aload_n hx hb dX8_initb_0 rfl (lv_at hl 0 rfl) ?_
  refine lv_null hx hb dX8_initb_1 ?_
  refine lv_null hx hb dX8_initb_2 ?_
  refine lv_iconst (v := 0) hx hb dX8_initb_3 (by decide) ?_
  refine lv_iconst (v := 0) hx hb dX8_initb_4 (by decide) ?_
  have hPc := hP.sub (ws' := [(h0, .inr (8, [v0, v1, v2, v3, v4, v5]))]) [0] rfl
  have hDc := hD.sub (ws' := [(h0, .inr (8, [v0, v1, v2, v3, v4, v5]))]) [0] (by decide) rfl
  have hFc := va_free (wc := [(h0, .inr (8, [v0, v1, v2, v3, v4, v5]))]) hD hS hA [0] rfl
  refine va_callv (va_runI (As := [.null, .null, .int 0, .int 0]) (rest := []) ⟨hx, hb, hml, hown, hts⟩ (k_T1_init l dC dI cB cI cJ cM h0 v0 v1 v2 v3 v4 v5  s.heap.size) (cwI 4 hts gX8_initb_T1_init rfl rfl rfl (hts (.initialized RT1) (by decide +kernel)) (hts (.methodLink RX8 1 yT1_init) (by decide +kernel)) (hts (.instanceMethod yT1_init) (by decide +kernel)) rfl (by decide +kernel) ⟨Nat.le_of_ble_eq_true rfl, Nat.le_of_ble_eq_true rfl⟩) ⟨fun a U g mk q => by obtain ⟨q0, q1, qP, qK, qD, qE⟩ := q; exact ⟨q0, q1, qP, va_K.moved (u := U) (U := U.calling g mk a) (Vm.Alike.refl U.vm) qK, qD, zE.blind qE⟩, fun U hU hW => ⟨rfl, by rw [hU], by rw [hU]; exact hPc, va_K.moved hW.alike hK, hDc.weaken (fun _ _ _ _ => trivial), zE.call hE hS hU hW hFc⟩⟩ rfl rfl hl.1 rfl (lv_room (Nat.le_of_ble_eq_true rfl)) dX8_initb_5 ⟨(show 0 + 0 ≤ 0 by omega), (show 0 + 0 ≤ 0 by omega)⟩) hS (fun q _ h => hFc q h) hFc (fun u t H1 locs ht hvm hw hB hz1 hk1 hS => ?_)
  have hP1 : va_P (dC, dI) vwCl [(h0, .inr (8, [.null, .null, .null, .null, v4, v5]))] H1 := by rw [← ht]; exact hB.1
  have hD1 : va_D (va_A [(h0, .inr (8, [v0, v1, v2, v3, v4, v5]))] s.heap.size) [(h0, .inr (8, [.null, .null, .null, .null, v4, v5]))] := hB.2.2
  obtain ⟨hP, hD⟩ := va_join (wr := []) (w1 := [(h0, .inr (8, [.null, .null, .null, .null, v4, v5]))]) hP hD [0] [] rfl rfl (by decide) (by decide) hk1 hFc hP1 hD1
  generalize H1 = H at hP hS ⊢
  try dsimp only at hw
  have hP : va_P (dC, dI) vwCl [(h0, .inr (8, [.null, .null, .null, .null, v4, v5]))] H := hP
  have hD : va_D A [(h0, .inr (8, [.null, .null, .null, .null, v4, v5]))] := hD
  refine W.eq (g2 := F0 m 8 ls []) rfl ?_
  have hP9 := hP.sub (ws' := [(h0, .inr (8, [.null, .null, .null, .null, v4, v5]))]) [0] rfl
  have hD9 := hD.sub (ws' := [(h0, .inr (8, [.null, .null, .null, .null, v4, v5]))]) [0] (by decide) rfl
  exact W.vret hx hb hr (fun t ht hW => ⟨⟨(), rfl, trivial, ⟨by rw [ht]; exact hP9, va_K.moved hW.alike hK, hD9⟩⟩, hS.F ht⟩) hS.2.2 dX8_initb_8
