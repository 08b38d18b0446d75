theorem zz_inner (c : ClassId) (K : Nat) : Jvm.Free.Multi.innerC c K (defaultValue .int) = vp_cell c (K, .inl (fun _ => 0)) := by
  show ({ cls := c, slots := Array.replicate K (.int 0), vm := .none } : Cell) = { cls := c, slots := Array.ofFn (n := K) (fun _ => Value.int 0), vm := .none }
  congr 1
  apply Array.ext
  · simp
  · intro i h1 h2
    simp
section ZMna
variable {p : Program} {l : Launch} {e : Env} {R : Room} {s : State} {m : MethodId} {args : Array Value} {below : List Frame} {meth : Method} {c : Code} {H : Heap} {locs : List Loc} {cells slots : Nat} {Q : State → Prop}
variable {cc : ByteArray} {pc : Nat} {ls : Array Slot} {rest : List Value} {D : va_G} {cl : List vw_C} {A : Nat → Prop} {H0 : Heap} {cB cI cJ cM : ClassId}
theorem zz_mna3 {X : va_W} (hexec : p.tables.exec = Jvm.exec) (hb : c.code = cc) {own : String} {index : Nat} (hown : s.vm.findClass own = some m.cls) (hclink : (Cond.classLink own index "[[I").before args s = true) (hover : (Cond.arrayOver (.array .int)).before args s = true) (harr : (Cond.arrayClass .int).before args s = true)
    (hK : va_K D cl (zT cB cI cJ cM) s) (hP : va_P D cl X H) (hD : va_D A X) (hS : va_S A H0 H locs) (hA : ∀ q, H0.size ≤ q → A q) {k : Int32} {K' : Nat} (hk : ¬ k < 0) (hM : k.toNatClampNeg = K') (hb2 : K' * 4 ≤ 536870912) (hcells : cells + 4 ≤ R.cells) (hslots : slots + (3 + 3 * K') ≤ R.slots) (hdg : decode cc pc = .ok (.multianewarray index 2, 4))
    (kk : ∀ (q r0 r1 r2 : Nat) (H1 : Heap), va_P D cl (X ++ [(q, .inl (cM, 3, .inr (.inr (.inr (.inr (zr3 r0 r1 r2)))))), (r0, .inl (cI, K', .inl (fun _ => 0))), (r1, .inl (cI, K', .inl (fun _ => 0))), (r2, .inl (cI, K', .inl (fun _ => 0)))]) H1 → va_D A (X ++ [(q, .inl (cM, 3, .inr (.inr (.inr (.inr (zr3 r0 r1 r2)))))), (r0, .inl (cI, K', .inl (fun _ => 0))), (r1, .inl (cI, K', .inl (fun _ => 0))), (r2, .inl (cI, K', .inl (fun _ => 0)))]) → va_S A H0 H1 locs →
      W p l e R s m args below meth c H1 locs (cells + 4) (slots + (3 + 3 * K')) Q (F0 m (pc + 4) ls (.ref q :: rest))) : W p l e R s m args below meth c H locs cells slots Q (F0 m pc ls (.int k :: .int 3 :: rest)) := by
  have hP0 : va_P D cl (X ++ va_pl [] (fun _ => Sum.inl (cI, 0, .inl (fun _ => 0)))) H := by
    show va_P D cl (X ++ []) H
    rw [List.append_nil]
    exact hP
  have hD0 : va_D A (X ++ va_pl [] (fun _ => Sum.inl (cI, 0, .inl (fun _ => 0)))) := by
    show va_D A (X ++ [])
    rw [List.append_nil]
    exact hD
  refine va_mna (X := X) (L := []) (f := fun _ => Sum.inl (cI, 0, .inl (fun _ => 0))) (ty := .int) (cy := cI) (N' := 3) (K' := K') (z := (K', .inl (fun _ => 0))) hexec hb hown hclink (va_AOA.of hover) harr (hK.2 1 _ rfl).2 hK hP0 hD0 hS hA (by decide) hk (by decide) hM (by decide) hb2 (by omega) (by decide) (by decide) (by omega) (by omega) (fun c => zz_inner c K') hdg ?_
  intro q r cA H1 hinj hnot hK9 hP1 hD1 hS1
  have e9 : cM = cA := zUniq hK9 (i := 3) (j := 4) rfl rfl rfl
  subst e9
  have ew : ((X ++ [(q, (.inl (cM, 3, .inr (.inr (.inr (.inr (fun i => if i < 3 then some (r i) else none)))))))]) ++ va_pl ([] ++ (List.range 3).map r) (vr_up (fun _ => Sum.inl (cI, 0, .inl (fun _ => 0))) ((List.range 3).map r) (.inl (cI, (K', .inl (fun _ => 0))))) : va_W) = X ++ [(q, .inl (cM, 3, .inr (.inr (.inr (.inr (zr3 (r 0) (r 1) (r 2))))))), (r 0, .inl (cI, K', .inl (fun _ => 0))), (r 1, .inl (cI, K', .inl (fun _ => 0))), (r 2, .inl (cI, K', .inl (fun _ => 0)))] := by
    have ef : (fun i => if i < 3 then some (r i) else none) = zr3 (r 0) (r 1) (r 2) := by
      funext i
      unfold zr3
      by_cases c3 : i < 3
      · rw [if_pos c3, if_pos c3]
        rcases (show i = 0 ∨ i = 1 ∨ i = 2 by omega) with rfl | rfl | rfl <;> rfl
      · rw [if_neg c3, if_neg c3]
    rw [ef, List.append_assoc]
    congr 1
    show _ :: _ = _ :: _
    congr 1
    show [(r 0, vr_up _ [r 0, r 1, r 2] _ (r 0)), (r 1, vr_up _ [r 0, r 1, r 2] _ (r 1)), (r 2, vr_up _ [r 0, r 1, r 2] _ (r 2))] = _
    rw [vr_up_in (by simp), vr_up_in (by simp), vr_up_in (by simp)]
  rw [ew] at hP1 hD1
  have h := kk q (r 0) (r 1) (r 2) H1 hP1 hD1 hS1
  rw [show cells + 1 + 3 = cells + 4 from rfl, show slots + 3 + 3 * K' = slots + (3 + 3 * K') from Nat.add_assoc _ _ _]
  exact h
end ZMna
theorem zr3_0 (a b c : Nat) : zr3 a b c 0 = some a := rfl
theorem zr3_1 (a b c : Nat) : zr3 a b c 1 = some b := rfl
theorem zr3_2 (a b c : Nat) : zr3 a b c 2 = some c := rfl
def zpl0 (k : Nat) : Int32 := nI (tn_LENGTHS_ORDER k)
