/-! numbers, bits -/
theorem zs_u : ∀ n, n < 32 → (((nI n).toUInt32 &&& Int32.toUInt32 31).toBitVec % 32).toNat = n := by decide +kernel
theorem zs_l : ∀ n, n < 32 → ((nI n &&& 31).toBitVec.smod 32).toNat = n := by decide +kernel
theorem z_or (a b : Nat) : nI a ||| nI b = nI (a ||| b) := by
  apply Int32.toBitVec_inj.1
  show BitVec.ofNat 32 a ||| BitVec.ofNat 32 b = BitVec.ofNat 32 (a ||| b)
  apply BitVec.eq_of_getLsbD_eq
  intro i hi
  simp [hi]
theorem z_nat (x : Int32) : nI x.toBitVec.toNat = x := by
  apply Int32.toBitVec_inj.1
  show BitVec.ofNat 32 x.toBitVec.toNat = x.toBitVec
  simp
theorem z_lt {a : Nat} (ha : a < 2 ^ 31) (x : Int32) : nI a < x ↔ a < x.toNatClampNeg := by
  rw [Int32.lt_iff_toInt_lt, nI_toInt ha]
  show _ ↔ a < x.toInt.toNat
  omega
/-- bit i of a row of bytes -/
def zbt (f : Nat → Int32) (i : Nat) : Nat := (f (i / 8)).toBitVec.toNat / 2 ^ (i % 8) % 2
theorem zbt_lt (f : Nat → Int32) (i : Nat) : zbt f i < 2 := Nat.mod_lt _ (by decide)
theorem z_ush {n k : Nat} (hn : n < 2 ^ 32) (hk : k < 32) : ((nI n).toUInt32 >>> ((nI k).toUInt32 &&& Int32.toUInt32 31)).toInt32 = nI (n / 2 ^ k) := pk_ushrN hn (nI k) k (zs_u k hk)
theorem z_bit (x : Int32) {k : Nat} (hk : k < 32) : ((x.toUInt32 >>> ((nI k).toUInt32 &&& Int32.toUInt32 31)).toInt32 &&& 1) = nI (x.toBitVec.toNat / 2 ^ k % 2) := by
  rw [pk_and _ (m := 1) 1 (by decide), pk_ushr x (nI k) k (zs_u k hk)]
/-- the number of k bits from bit a on, the lowest first -/
def zbv (f : Nat → Int32) (a : Nat) : Nat → Nat
  | 0 => 0
  | k + 1 => zbv f a k + zbt f (a + k) * 2 ^ k
theorem zbv_lt (f : Nat → Int32) (a : Nat) : ∀ k, zbv f a k < 2 ^ k
  | 0 => Nat.zero_lt_one
  | k + 1 => by
    have h := zbv_lt f a k
    have h2 := zbt_lt f (a + k)
    have h3 : zbt f (a + k) * 2 ^ k ≤ 1 * 2 ^ k := Nat.mul_le_mul_right _ (by omega)
    show zbv f a k + zbt f (a + k) * 2 ^ k < 2 ^ k * 2
    omega
theorem z_shl {b i : Nat} (hi : i < 32) (h : b * 2 ^ i < 2 ^ 32) : nI b <<< (nI i &&& 31) = nI (b * 2 ^ i) := pk_shlN _ i (zs_l i hi) h
theorem z_orsh {v b i : Nat} (hi : i < 32) (hv : v < 2 ^ i) (h : b * 2 ^ i < 2 ^ 32) : nI v ||| (nI b <<< (nI i &&& 31)) = nI (v + b * 2 ^ i) := by
  rw [z_shl hi h, z_or, Nat.or_comm, Nat.mul_comm, ← Nat.two_pow_add_eq_or_of_lt hv, Nat.add_comm]
theorem z_p16 {i : Nat} (h : i < 16) : 2 ^ i ≤ 32768 := Nat.le_trans (Nat.pow_le_pow_right (by decide) (by omega : i ≤ 15)) (by decide)
theorem z_m8b : ∀ i, i < 32 → ((-8 : Int32).toBitVec).getLsbD i = decide (3 ≤ i) := by decide +kernel
theorem z_m8 {n : Nat} (h : n < 2 ^ 20) : nI n &&& (-8) = nI (n / 8 * 8) := by
  apply Int32.toBitVec_inj.1
  show BitVec.ofNat 32 n &&& (-8 : Int32).toBitVec = BitVec.ofNat 32 (n / 8 * 8)
  apply BitVec.eq_of_getLsbD_eq
  intro i hi
  rw [BitVec.getLsbD_and, z_m8b i hi, BitVec.getLsbD_ofNat, BitVec.getLsbD_ofNat, show n / 8 * 8 = (n / 2 ^ 3) * 2 ^ 3 from rfl, Nat.testBit_mul_two_pow]
  rcases Nat.lt_or_ge i 3 with h3 | h3
  · simp [Nat.not_le.mpr h3]
  · have e := Nat.testBit_div_two_pow (n := 3) n (i - 3)
    rw [Nat.sub_add_cancel h3] at e
    simp [hi, h3]
    exact e.symm
/-! a stream of bits: the number V of its L bits, the first the lowest -/
def zby (x : Nat) : Int32 := (nI x).toInt8.toInt32
def zOut (g : Nat → Int32) (V L : Nat) : Prop := V < 2 ^ L ∧ ∀ j, j < L / 8 → g j = zby (V / 2 ^ (8 * j))
theorem zpush_lt {V L v k : Nat} (h : V < 2 ^ L) (hv : v < 2 ^ k) : V + v * 2 ^ L < 2 ^ (L + k) := by
  have h1 : (v + 1) * 2 ^ L ≤ 2 ^ k * 2 ^ L := Nat.mul_le_mul_right _ hv
  rw [Nat.pow_add, Nat.mul_comm (2 ^ L)]
  rw [Nat.add_mul] at h1
  omega
theorem z_hb {W L a : Nat} (h : W < 2 ^ L) (h2 : L ≤ a + 20) : W / 2 ^ a < 1048576 := by
  refine Nat.div_lt_of_lt_mul ?_
  refine Nat.lt_of_lt_of_le h ?_
  rw [show (1048576 : Nat) = 2 ^ 20 from rfl, ← Nat.pow_add]
  exact Nat.pow_le_pow_right (by decide) h2
theorem z_dd (W a : Nat) : W / 2 ^ (8 * a) / 2 ^ 8 = W / 2 ^ (8 * (a + 1)) := by
  rw [Nat.div_div_eq_div_mul, ← Nat.pow_add, show 8 * a + 8 = 8 * (a + 1) from by omega]
theorem z_push_div {V L v : Nat} : (V + v * 2 ^ L) / 2 ^ (8 * (L / 8)) = V / 2 ^ (8 * (L / 8)) + v * 2 ^ (L % 8) := by
  have e : 2 ^ L = 2 ^ (L % 8) * 2 ^ (8 * (L / 8)) := by rw [← Nat.pow_add]; congr 1; omega
  rw [e, ← Nat.mul_assoc, Nat.add_mul_div_right _ _ (Nat.two_pow_pos _)]
theorem z_held {V L v k : Nat} (h : V < 2 ^ L) (hv : v < 2 ^ k) (hk : k ≤ 13) : nI (V / 2 ^ (8 * (L / 8))) ||| (nI v <<< (nI (L % 8) &&& 31)) = nI ((V + v * 2 ^ L) / 2 ^ (8 * (L / 8))) := by
  have h1 : V / 2 ^ (8 * (L / 8)) < 2 ^ (L % 8) := by
    refine Nat.div_lt_of_lt_mul ?_
    rw [← Nat.pow_add, show 8 * (L / 8) + L % 8 = L from by omega]
    exact h
  have h2 : v * 2 ^ (L % 8) < 2 ^ 32 := by
    have a1 : v < 8192 := Nat.lt_of_lt_of_le hv (Nat.pow_le_pow_right (by decide) hk)
    have a2 : 2 ^ (L % 8) ≤ 128 := Nat.pow_le_pow_right (n := 2) (by decide) (by omega : L % 8 ≤ 7)
    have a3 : v * 2 ^ (L % 8) ≤ 8192 * 128 := Nat.mul_le_mul (by omega) a2
    omega
  rw [z_orsh (by omega) h1 h2, z_push_div]
theorem z_updby {g : Nat → Int32} {W len : Nat} (h : ∀ j, j < len → g j = zby (W / 2 ^ (8 * j))) : ∀ j, j < len + 1 → upd g len (vp_nar .byte ((nI (W / 2 ^ (8 * len))).toInt8.toInt32)) j = zby (W / 2 ^ (8 * j)) := by
  intro j hj
  by_cases e : j = len
  · subst e
    rw [pk_us, pk_vb]
    rfl
  · rw [pk_un e]
    exact h j (by omega)
/-- a code c of k bits, the highest first, put behind the stream -/
def zhi (V L c : Nat) : Nat → Nat
  | 0 => V
  | k + 1 => zhi (V + (c / 2 ^ k % 2) * 2 ^ L) (L + 1) c k
theorem zby_add (x y : Nat) : zby (x + y * 256) = zby x := by
  unfold zby
  congr 1
  apply Int8.toBitVec_inj.1
  show (BitVec.ofNat 32 (x + y * 256)).signExtend 8 = (BitVec.ofNat 32 x).signExtend 8
  rw [BitVec.signExtend_eq_setWidth_of_le _ (by decide), BitVec.signExtend_eq_setWidth_of_le _ (by decide)]
  apply BitVec.eq_of_toNat_eq
  simp only [BitVec.toNat_setWidth, BitVec.toNat_ofNat]
  omega
theorem z_pushb {V L v j : Nat} (h : j < L / 8) : zby ((V + v * 2 ^ L) / 2 ^ (8 * j)) = zby (V / 2 ^ (8 * j)) := by
  have e : 2 ^ L = (2 ^ (L - 8 * j - 8) * 256) * 2 ^ (8 * j) := by
    rw [show (256 : Nat) = 2 ^ 8 from rfl, ← Nat.pow_add, ← Nat.pow_add]
    congr 1
    omega
  rw [e, ← Nat.mul_assoc, Nat.add_mul_div_right _ _ (Nat.two_pow_pos _), ← Nat.mul_assoc, zby_add]
theorem z_pushby {g : Nat → Int32} {V L v : Nat} (h : zOut g V L) : ∀ j, j < L / 8 → g j = zby ((V + v * 2 ^ L) / 2 ^ (8 * j)) := fun j hj => by rw [z_pushb hj]; exact h.2 j hj
theorem zva_b (N : Nat) (cA : ClassId) : vp_cell cA (N, .inl (fun _ => 0)) = arrV cA N (fun _ => defaultValue .byte) := rfl
theorem zva_i (N : Nat) (cA : ClassId) : vp_cell cA (N, .inl (fun _ => 0)) = arrV cA N (fun _ => defaultValue .int) := rfl
theorem zva_j (N : Nat) (cA : ClassId) : vp_cell cA (N, .inr (.inl (fun _ => 0))) = arrV cA N (fun _ => defaultValue .long) := rfl
