/-! rows for tableswitch, for a thrown field, for an array of arrays -/
def zz_tgt (pc : Nat) (default low high : Int) (offsets : Array Int) (k : Int) : Option Nat :=
  if k < low ∨ k > high then (if 0 ≤ (pc : Int) + default then some ((pc : Int) + default).toNat else none)
  else match offsets[(k - low).toNat]? with
    | none => none
    | some off => if 0 ≤ (pc : Int) + off then some ((pc : Int) + off).toNat else none
section ZZ
variable {p : Program} {l : Launch} {e : Env} {R : Room} {s : State} {m : MethodId} {args : Array Value} {below : List Frame} {meth : Method} {c : Code} {H : Heap} {locs : List Loc} {cells slots : Nat} {Q : State → Prop}
variable {cc : ByteArray} {pc : Nat} {ls : Array Slot} {rest : List Value} {D : va_G} {cl : List vw_C} {A : Nat → Prop} {a : Nat} {tys : List (ClassId × FieldType)} {ws : va_W} {H0 : Heap}
theorem zz_tsw (hexec : p.tables.exec = Jvm.exec) (hb : c.code = cc) {k : Int32} {default low high : Int} {offsets : Array Int} {len tgt : Nat} (hd : decode cc pc = .ok (.tableswitch default low high offsets, len)) (ht : zz_tgt pc default low high offsets k.toInt = some tgt) (kk : W p l e R s m args below meth c H locs cells slots Q (F0 m tgt ls rest)) : W p l e R s m args below meth c H locs cells slots Q (F0 m pc ls (.int k :: rest)) := by
  intro T hT X
  obtain ⟨t, a1, b1⟩ := kk T hT X
  refine ⟨t, ?_, b1⟩
  have hd' : decode c.code pc = .ok (.tableswitch default low high offsets, len) := by rw [hb]; exact hd
  unfold zz_tgt at ht
  split at ht
  · rename_i hout
    split at ht
    · rename_i hoff
      have ht := Option.some.inj ht
      refine X.tableswitchOut hexec (g := F0 m pc ls (.int k :: rest)) rfl (k := k) (rest := rest) rfl hd' hout hoff t ?_
      show Steps p.tables e below (T.setTop { method := m, pc := ((pc : Int) + default).toNat, locals := ls, stack := rest, locked := none }) t
      rw [ht]
      exact a1
    · cases ht
  · rename_i hin
    split at ht
    · cases ht
    · rename_i off hoffs
      split at ht
      · rename_i hoff
        have ht := Option.some.inj ht
        refine X.tableswitchIn hexec (g := F0 m pc ls (.int k :: rest)) rfl (k := k) (rest := rest) rfl hd' hin hoffs hoff t ?_
        show Steps p.tables e below (T.setTop { method := m, pc := ((pc : Int) + off).toNat, locals := ls, stack := rest, locked := none }) t
        rw [ht]
        exact a1
      · cases ht
theorem zz_athrow {Qc : Array Value → State → Outcome → State → Prop} {XC : String → State → State → Prop} {free : Addr → Prop} {E : String} {ce : Cell} {q : Addr} {mc ms mx nx : Nat} (hexec : p.tables.exec = Jvm.exec) (hb : c.code = cc) (hout : ∀ x ∈ c.exceptionTable.toList, covers x pc = false) (hlocks : meth.locks = false) (hcell : H[q]? = some ce) (hv : ce.vm = .none) (hcl : s.vm.findClass E = some ce.cls) (hd : decode cc pc = .ok (.athrow, 1))
    (hx : ∀ t : State, t.heap = H → s.vm.Alike t.vm → XC E s t) (hf : ∀ z ∈ locs, free z.base) (hc : cells ≤ mx) (hs : slots ≤ nx) : W p l e R s m args below meth c H locs cells slots (vx_MQ below Qc XC args s mc ms mx nx free) (F0 m pc ls (.ref q :: rest)) := by
  intro T hT X
  obtain ⟨st1, hrun, hend, hW, hsm⟩ := X.athrowLeaves hexec (g := F0 m pc ls (.ref q :: rest)) rfl rfl rfl hout rfl (by rw [hb]; exact hd) hlocks
  have hcell9 : (T.setFrames (.throwing q :: below)).heap[q]? = some ce := by
    show T.heap[q]? = some ce
    rw [hT]; exact hcell
  exact ⟨_, st1, .threw q, hrun, hend, Or.inr ⟨q, rfl, E, ce, locs, hx _ hT hW.alike, hcell9, hv, hcl, hW, hsm.mono hc hs, hf⟩⟩
theorem zz_recv {q0 ci : Nat} {q : vw_C} {fs : List Value} (hK : va_K D cl tys s) (hP : va_P D cl ws H) (hc : cl[ci]? = some q) (he : ws[q0]? = some (a, .inr (ci, fs))) : ∃ cell : Cell, H[a]? = some cell ∧ cell.vm = .none ∧ s.vm.findClass q.1 = some cell.cls := by
  obtain ⟨q', h1, cell, g1, g2, g3, -⟩ := hP q0 _ he
  exact ⟨cell, g1, g3, by rw [g2]; exact (hK.1 ci q hc).2.1⟩
theorem zz_aldA (hexec : p.tables.exec = Jvm.exec) (hb : c.code = cc) (hK : va_K D cl tys s) (hP : va_P D cl ws H) (q0 t0 : Nat) {cA : ClassId} {n : Nat} {f : Nat → Option Nat} (ha : ws[q0]? = some (a, .inl (cA, n, .inr (.inr (.inr (.inr f)))))) (ht : tys[t0]? = some (cA, .array .int)) {i : Int32} (hin : vp_in i n) (hdg : decode cc pc = .ok (.aaload, 1))
    (kk : W p l e R s m args below meth c H locs cells slots Q (F0 m (pc + 1) ls (va_rf (f i.toNatClampNeg) :: rest))) : W p l e R s m args below meth c H locs cells slots Q (F0 m pc ls (.int i :: .ref a :: rest)) := by
  have hlt : i.toNatClampNeg < n := Nat.not_le.mp fun q => hin (Or.inr q)
  exact W.aald (v := va_rf (f i.toNatClampNeg)) (ty := .array .int) hexec hb (hP q0 _ ha) ((hK.2 t0 _ ht).1 n (fun j => va_rf (f j))) rfl (fun q => by cases q) (by show ¬ (i < 0 ∨ (arrV _ _ _).slots.size ≤ _); rw [arrV_size]; exact hin) (by show (arrV _ _ _).slots[_]? = _; rw [arrV_read _ _ hlt]) rfl rfl hdg kk
end ZZ
