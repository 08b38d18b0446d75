/-! the reference reads whole bytes ahead -/
theorem zbv_add (f : Nat → Int32) (a k : Nat) : ∀ j, zbv f a (k + j) = zbv f a k + zbv f (a + k) j * 2 ^ k
  | 0 => by rw [zbv, Nat.zero_mul]; rfl
  | j + 1 => by
    have e := zbv_add f a k j
    show zbv f a (k + j) + zbt f (a + (k + j)) * 2 ^ (k + j) = zbv f a k + (zbv f (a + k) j + zbt f (a + k + j) * 2 ^ j) * 2 ^ k
    rw [e, Nat.add_mul, Nat.pow_add, Nat.add_assoc a k j, Nat.mul_assoc, Nat.mul_comm (2 ^ j) (2 ^ k), Nat.add_assoc]
theorem zbv_split (f : Nat → Int32) (a : Nat) {n h : Nat} (hn : n ≤ h) : zbv f a h = zbv f a n + zbv f (a + n) (h - n) * 2 ^ n := by
  have e := zbv_add f a n (h - n)
  rw [show n + (h - n) = h from by omega] at e
  exact e
theorem zbv_mod (f : Nat → Int32) (a : Nat) {n h : Nat} (hn : n ≤ h) : zbv f a h % 2 ^ n = zbv f a n := by
  rw [zbv_split f a hn, Nat.add_mul_mod_self_right, Nat.mod_eq_of_lt (zbv_lt f a n)]
theorem zbv_div (f : Nat → Int32) (a : Nat) {n h : Nat} (hn : n ≤ h) : zbv f a h / 2 ^ n = zbv f (a + n) (h - n) := by
  rw [zbv_split f a hn, Nat.add_mul_div_right _ _ (Nat.two_pow_pos n), Nat.div_eq_of_lt (zbv_lt f a n), Nat.zero_add]
theorem z_b255 (f : Nat → Int32) (q : Nat) : f q &&& 255 = nI (zbv f (8 * q) 8) := (zu8_eq (f q)).trans (congrArg nI (z_bv8 rfl).symm)
theorem z_take {f : Nat → Int32} {ps hb q : Nat} (h : ps + hb = 8 * q) (h16 : hb < 16) : nI (zbv f ps hb) ||| ((f q &&& 255) <<< (nI hb &&& 31)) = nI (zbv f ps (hb + 8)) := by
  have h1 := zbv_lt f ps hb
  have h2 := zbv_lt f (8 * q) 8
  have h3 : 2 ^ hb ≤ 32768 := Nat.le_trans (Nat.pow_le_pow_right (by decide) (by omega : hb ≤ 15)) (by decide)
  have h4 : zbv f (8 * q) 8 * 2 ^ hb ≤ 256 * 32768 := Nat.mul_le_mul (by omega) h3
  rw [z_b255, z_orsh (by omega) h1 (by omega), zbv_add f ps hb 8, h]
theorem z_msk {a n : Nat} (h : n ≤ 16) (ha : a < 2 ^ 31) : nI a &&& ((1 : Int32) <<< (nI n &&& 31) - 1) = nI (a % 2 ^ n) := by
  have h3 : 2 ^ n ≤ 65536 := Nat.le_trans (Nat.pow_le_pow_right (by decide) h) (by decide)
  have e : (1 : Int32) <<< (nI n &&& 31) = nI (2 ^ n) := (z_shl (b := 1) (i := n) (by omega) (by omega)).trans (congrArg nI (Nat.one_mul _))
  have hp := Nat.two_pow_pos n
  rw [e, show nI (2 ^ n) - 1 = nI (2 ^ n - 1) from pk_sub (a := 2 ^ n) (b := 1) hp]
  refine pk_andN (by omega) n ?_
  show (BitVec.ofNat 32 (2 ^ n - 1)).toNat = _
  rw [BitVec.toNat_ofNat, Nat.mod_eq_of_lt (by omega)]
theorem zbv_24 {f : Nat → Int32} {a k : Nat} (h : k ≤ 24) : zbv f a k < 16777216 := Nat.lt_of_lt_of_le (zbv_lt f a k) (Nat.le_trans (Nat.pow_le_pow_right (by decide) h) (by decide))
/-- the reference's held bits where bit ps is next -/
abbrev zat (ps : Nat) : Nat := (ps + 7) / 8
abbrev zhb (ps : Nat) : Nat := (ps + 7) / 8 * 8 - ps
/-! its sets of codes: the count of the length 0 is cleared -/
def zCR (ℓ : Nat → Nat) (n : Nat) (co sy : Nat → Int32) : Prop := (∀ k, k ≠ 0 → k < 16 → co k = nI (zcnt ℓ n k)) ∧ (∀ j, j < zoff ℓ n 16 → sy j = nI (zsym ℓ n j))
theorem zoff_one (ℓ : Nat → Nat) (n : Nat) : ∀ K, zoff ℓ (n + 1) K = zoff ℓ n K + (if ℓ n ≠ 0 ∧ ℓ n < K then 1 else 0)
  | 0 => by simp [zoff]
  | K + 1 => by
    have h := zoff_one ℓ n K
    rw [zoff_s, zoff_s, zcnt_s, h]
    by_cases h0 : K = 0
    · subst h0
      simp only [if_pos]
      split <;> split <;> omega
    · rw [if_neg h0, if_neg h0]
      by_cases e : ℓ n = K
      · rw [if_pos e, if_neg (by omega), if_pos (by omega)]
        omega
      · rw [if_neg e]
        by_cases e2 : ℓ n ≠ 0 ∧ ℓ n < K
        · rw [if_pos e2, if_pos (by omega)]
          omega
        · rw [if_neg e2, if_neg (by omega)]
          omega
theorem zoff_all {ℓ : Nat → Nat} : ∀ {n : Nat}, (∀ i, i < n → ℓ i ≤ 15) → zoff ℓ n 16 + zcnt ℓ n 0 = n
  | 0, _ => by rw [zoff_0]; rfl
  | n + 1, h => by
    have e := zoff_all (n := n) (fun i hi => h i (by omega))
    have h15 := h n (by omega)
    rw [zoff_one, zcnt_s]
    by_cases c : ℓ n = 0
    · rw [if_pos c, if_neg (by omega)]
      omega
    · rw [if_neg c, if_pos (by omega)]
      omega
/-- the symbols of the lengths below k, and those of length k below s, are in their places -/
def zSy (ℓ : Nat → Nat) (n : Nat) (g : Nat → Int32) (k s : Nat) : Prop := ∀ t, t < n → ℓ t ≠ 0 → (ℓ t < k ∨ (ℓ t = k ∧ t < s)) → g (zpos ℓ n t) = nI t
theorem zSy_0 (ℓ : Nat → Nat) (n : Nat) (g : Nat → Int32) : zSy ℓ n g 1 0 := fun t _ h0 h => absurd h (by omega)
theorem zSy_s {ℓ : Nat → Nat} {n : Nat} {g : Nat → Int32} {k s : Nat} (h : zSy ℓ n g k s) (hs : s < n) (hk : ℓ s = k) (h0 : k ≠ 0) : zSy ℓ n (upd g (zoff ℓ n k + zcnt ℓ s k) (nI s)) k (s + 1) := by
  intro t ht h1 h2
  subst hk
  show upd g (zpos ℓ n s) (nI s) (zpos ℓ n t) = nI t
  by_cases e : t = s
  · subst e
    exact pk_us
  · rw [pk_un (fun q => e (zpos_inj ℓ ht hs h1 h0 q))]
    exact h t ht h1 (by omega)
theorem zSy_n {ℓ : Nat → Nat} {n : Nat} {g : Nat → Int32} {k s : Nat} (h : zSy ℓ n g k s) (hk : ℓ s ≠ k) : zSy ℓ n g k (s + 1) := by
  intro t ht h1 h2
  refine h t ht h1 ?_
  by_cases e : t = s
  · subst e
    omega
  · omega
theorem zSy_k {ℓ : Nat → Nat} {n : Nat} {g : Nat → Int32} {k : Nat} (h : zSy ℓ n g k n) : zSy ℓ n g (k + 1) 0 := by
  intro t ht h1 h2
  exact h t ht h1 (by omega)
theorem zSy_all {ℓ : Nat → Nat} {n : Nat} {g : Nat → Int32} (h : zSy ℓ n g 16 0) (h15 : ∀ i, i < n → ℓ i ≤ 15) : ∀ j, j < zoff ℓ n 16 → g j = nI (zsym ℓ n j) := zsym_all (fun s hs h0 => h s hs h0 (Or.inl (by have := h15 s hs; omega)))
theorem zoff_cl {ℓ : Nat → Nat} {n k s : Nat} (hs : s < n) (hk : ℓ s = k) (h0 : k ≠ 0) (h16 : k < 16) : zoff ℓ n k + zcnt ℓ s k < n := by
  have h1 := zpos_lt16 ℓ hs (by omega) (by omega)
  have h2 := zoff_le ℓ 16 n
  unfold zpos at h1
  rw [hk] at h1
  omega
/-! the lengths of the length codes, first all 0 -/
def zc2 (f : Nat → Int32) (a i k : Nat) : Nat := if ziv k < i then zbv f (a + 3 * ziv k) 3 else 0
theorem zc2_s {f : Nat → Int32} {a i : Nat} {g : Nat → Int32} (h : ∀ k, k < 19 → g k = nI (zc2 f a i k)) (hi : i < 19) : ∀ k, k < 19 → upd g (tn_LENGTHS_ORDER i) (nI (zbv f (a + 3 * i) 3)) k = nI (zc2 f a (i + 1) k) := by
  intro k hk
  by_cases e : k = tn_LENGTHS_ORDER i
  · subst e
    rw [pk_us]
    unfold zc2
    rw [(z_iv1 i hi).1, if_pos (by omega)]
  · rw [pk_un e, h k hk]
    unfold zc2
    have : ziv k ≠ i := fun q => e (by rw [← (z_iv2 k hk).1, q])
    by_cases c : ziv k < i
    · rw [if_pos c, if_pos (by omega)]
    · rw [if_neg c, if_neg (by omega)]
theorem zc2_all {f : Nat → Int32} {a td : Nat} {g : Nat → Int32} (h : ∀ k, k < 19 → g k = nI (zc2 f a td k)) : zLn g (zcl f a td) 19 := fun k hk => ⟨h k hk, zcl_le f a td k⟩
/-! the sum at the end, byte by byte -/
theorem z_byeq (x y : Int32) : x.toInt8.toInt32 = y.toInt8.toInt32 ↔ x.toBitVec.toNat % 256 = y.toBitVec.toNat % 256 := by
  have hi : ∀ a b : Int8, a.toInt32 = b.toInt32 → a = b := fun a b h => by
    have := congrArg Int32.toInt8 h
    rw [Int8.toInt8_toInt32, Int8.toInt8_toInt32] at this
    exact this
  have hn : ∀ z : Int32, z.toInt8.toBitVec.toNat = z.toBitVec.toNat % 256 := fun z => by
    show (z.toBitVec.signExtend 8).toNat = _
    rw [BitVec.signExtend_eq_setWidth_of_le _ (by decide), BitVec.toNat_setWidth]
  constructor
  · intro h
    rw [← hn, ← hn, hi _ _ h]
  · intro h
    have : x.toInt8 = y.toInt8 := Int8.toBitVec_inj.1 (BitVec.eq_of_toNat_eq (by rw [hn, hn]; exact h))
    rw [this]
theorem zdu_s {f : Nat → Int32} {a j V : Nat} (h : zdu f a j = nI V) (hV : V < 2 ^ 24) : zdu f a (j + 1) = nI (V * 256 + (f (a + j)).toBitVec.toNat % 256) := by
  show (zdu f a j <<< ((8 : Int32) &&& 31)) ||| (f (a + j) &&& 255) = _
  rw [h, zu8_eq]
  have e : nI V <<< ((8 : Int32) &&& 31) = nI (V * 256) := z_shl (b := V) (i := 8) (by decide) (by omega)
  have h8 := zu8_lt (f (a + j))
  rw [e, z_or, Nat.mul_comm, show 256 = 2 ^ 8 from rfl, ← Nat.two_pow_add_eq_or_of_lt h8]
  rfl
theorem zdu_4 (f : Nat → Int32) (a : Nat) : zdu f a 4 = nI ((((f a).toBitVec.toNat % 256 * 256 + (f (a + 1)).toBitVec.toNat % 256) * 256 + (f (a + 2)).toBitVec.toNat % 256) * 256 + (f (a + 3)).toBitVec.toNat % 256) := by
  have h1 : zdu f a 1 = nI ((f a).toBitVec.toNat % 256) := by
    have h := zdu_s (f := f) (a := a) (j := 0) (V := 0) rfl (by omega)
    rw [Nat.zero_mul, Nat.zero_add, Nat.add_zero] at h
    rw [Nat.zero_add] at h
    exact h
  have h2 : zdu f a 2 = _ := zdu_s (j := 1) h1 (by omega)
  have h3 : zdu f a 3 = _ := zdu_s (j := 2) h2 (by omega)
  have h4 : zdu f a 4 = _ := zdu_s (j := 3) h3 (by omega)
  exact h4
theorem zdu_eq {f : Nat → Int32} {a : Nat} {x : Int32} (hby : ∀ k, k < 4 → ∃ z : Int32, f (a + k) = z.toInt8.toInt32) : zdu f a 4 = x ↔ ∀ k, k < 4 → (x.toUInt32 >>> ((nI (24 - 8 * k)).toUInt32 &&& Int32.toUInt32 31)).toInt32.toInt8.toInt32 = f (a + k) := by
  have hf : ∀ k, k < 4 → f (a + k) = (f (a + k)).toInt8.toInt32 := fun k hk => by
    obtain ⟨z, e⟩ := hby k hk
    rw [e, Int8.toInt8_toInt32]
  have hs : ∀ k, k < 4 → ((x.toUInt32 >>> ((nI (24 - 8 * k)).toUInt32 &&& Int32.toUInt32 31)).toInt32.toInt8.toInt32 = f (a + k) ↔ x.toBitVec.toNat / 2 ^ (24 - 8 * k) % 256 = (f (a + k)).toBitVec.toNat % 256) := fun k hk => by
    rw [hf k hk, z_byeq, pk_ushr x (nI (24 - 8 * k)) (24 - 8 * k) (zs_u _ (by omega)), ← hf k hk]
  have hx := x.toBitVec.isLt
  rw [zdu_4]
  constructor
  · intro h k hk
    rw [hs k hk]
    have hn : x.toBitVec.toNat = (((f a).toBitVec.toNat % 256 * 256 + (f (a + 1)).toBitVec.toNat % 256) * 256 + (f (a + 2)).toBitVec.toNat % 256) * 256 + (f (a + 3)).toBitVec.toNat % 256 := by
      rw [← h]
      show (BitVec.ofNat 32 _).toNat = _
      rw [BitVec.toNat_ofNat, Nat.mod_eq_of_lt (by omega)]
    rw [hn]
    rcases (show k = 0 ∨ k = 1 ∨ k = 2 ∨ k = 3 by omega) with rfl | rfl | rfl | rfl
    · show _ / 16777216 % 256 = (f a).toBitVec.toNat % 256
      omega
    · show _ / 65536 % 256 = _
      omega
    · show _ / 256 % 256 = _
      omega
    · show _ / 1 % 256 = _
      omega
  · intro h
    have h0 := (hs 0 (by decide)).mp (h 0 (by decide))
    have h1 := (hs 1 (by decide)).mp (h 1 (by decide))
    have h2 := (hs 2 (by decide)).mp (h 2 (by decide))
    have h3 := (hs 3 (by decide)).mp (h 3 (by decide))
    replace h0 : x.toBitVec.toNat / 16777216 % 256 = (f a).toBitVec.toNat % 256 := h0
    replace h1 : x.toBitVec.toNat / 65536 % 256 = (f (a + 1)).toBitVec.toNat % 256 := h1
    replace h2 : x.toBitVec.toNat / 256 % 256 = (f (a + 2)).toBitVec.toNat % 256 := h2
    replace h3 : x.toBitVec.toNat / 1 % 256 = (f (a + 3)).toBitVec.toNat % 256 := h3
    rw [← h0, ← h1, ← h2, ← h3]
    refine Eq.trans (congrArg nI ?_) (z_nat x)
    omega
theorem zbv_1 (f : Nat → Int32) (a : Nat) : zbv f a 1 = zbt f a := by
  show 0 + zbt f (a + 0) * 2 ^ 0 = _
  rw [Nat.pow_zero, Nat.mul_one, Nat.zero_add, Nat.add_zero]
theorem z_or1 {c b : Nat} (h : b < 2) : nI (2 * c) ||| nI b = nI (2 * c + b) := by
  rw [z_or, Nat.mul_comm 2 c]
  have e := Nat.two_pow_add_eq_or_of_lt (i := 1) (b := b) (by omega) c
  rw [Nat.mul_comm] at e
  exact congrArg nI e.symm
theorem z_nu1 : ∀ X, X < 256 → ((((0 : Int64) <<< ((8 : Int32).toInt64 &&& 63)) ||| (nI X).toInt64) <<< ((8 : Int32).toInt64 &&& 63)) = (nI (X * 256)).toInt64 := by decide +kernel
theorem z_or64 (x y : Int32) : x.toInt64 ||| y.toInt64 = (x ||| y).toInt64 := by
  apply Int64.toBitVec_inj.1
  show x.toBitVec.signExtend 64 ||| y.toBitVec.signExtend 64 = (x ||| y).toBitVec.signExtend 64
  rw [Int32.toBitVec_or, BitVec.signExtend_or]
theorem z_num (f : Nat → Int32) (a : Nat) : (((((0 : Int64) <<< ((8 : Int32).toInt64 &&& 63)) ||| (f (a + 1) &&& 255).toInt64) <<< ((8 : Int32).toInt64 &&& 63)) ||| (f (a + 0) &&& 255).toInt64).toInt32 = nI (zbv f (a * 8) 16) := by
  have hX := zbv_lt f (8 * (a + 1)) 8
  have hY := zbv_lt f (8 * (a + 0)) 8
  rw [z_b255 f (a + 1), z_b255 f (a + 0), z_nu1 _ hX, z_or64, Int32.toInt32_toInt64, z_or]
  have e := zbv_add f (a * 8) 8 8
  rw [show a * 8 + 8 = 8 * (a + 1) from by omega, show a * 8 = 8 * (a + 0) from by omega] at e
  rw [show a * 8 = 8 * (a + 0) from by omega, show (16 : Nat) = 8 + 8 from rfl, e]
  congr 1
  have e2 := Nat.two_pow_add_eq_or_of_lt (i := 8) hY (zbv f (8 * (a + 1)) 8)
  rw [Nat.mul_comm (zbv f (8 * (a + 1)) 8) 256, show (256 : Nat) = 2 ^ 8 from rfl, ← e2]
  omega
theorem zfl_1 {i : Nat} (h : i < 144) : zfl i = 8 := if_pos h
theorem zfl_2 {i : Nat} (h : ¬ i < 144) (h2 : i < 256) : zfl i = 9 := by unfold zfl; rw [if_neg h, if_pos h2]
theorem zfl_3 {i : Nat} (h : ¬ i < 256) (h2 : i < 280) : zfl i = 7 := by unfold zfl; rw [if_neg (by omega), if_neg h, if_pos h2]
theorem zfl_4 {i : Nat} (h : ¬ i < 280) : zfl i = 8 := by unfold zfl; rw [if_neg (by omega), if_neg (by omega), if_neg h]
theorem zfl_s {g : Nat → Int32} {L : Nat → Nat} {i x : Nat} (h : ∀ k, k < i → g k = nI (L k)) (hx : L i = x) : ∀ k, k < i + 1 → upd g i (nI x) k = nI (L k) := by
  intro k hk
  by_cases e : k = i
  · subst e
    rw [pk_us, hx]
  · rw [pk_un e]
    exact h k (by omega)
theorem zfl_le (i : Nat) : zfl i ≤ 15 := by unfold zfl; split <;> (try split) <;> (try split) <;> decide
theorem z_afl : zallow zfl 288 := ⟨0, by decide +kernel, Or.inl rfl⟩
theorem z_afd : zallow zfd 32 := ⟨0, by decide +kernel, Or.inl rfl⟩
theorem z_or256 {a b : Nat} (h : b < 256) : nI (a * 2 ^ 8) ||| nI b = nI (a * 256 + b) := by
  rw [z_or, Nat.mul_comm a, ← Nat.two_pow_add_eq_or_of_lt (i := 8) h]
theorem z_a32 {a b : Nat} (ha : a < 256) (hb : b < 256) : nI (a * 256 + b) &&& 32 = nI b &&& 32 := by
  have e : a * 256 + b = 256 * a + b := by omega
  apply Int32.toBitVec_inj.1
  show BitVec.ofNat 32 (a * 256 + b) &&& (32 : Int32).toBitVec = BitVec.ofNat 32 b &&& (32 : Int32).toBitVec
  apply BitVec.eq_of_getLsbD_eq
  intro i hi
  rw [BitVec.getLsbD_and, BitVec.getLsbD_and, BitVec.getLsbD_ofNat, BitVec.getLsbD_ofNat]
  rcases Nat.lt_or_ge i 8 with c | c
  · have t : (a * 256 + b).testBit i = b.testBit i := by
      have h1 := Nat.testBit_mod_two_pow (a * 256 + b) 8 i
      have h2 := Nat.testBit_mod_two_pow b 8 i
      rw [show (a * 256 + b) % 2 ^ 8 = b % 2 ^ 8 from by omega] at h1
      rw [h1] at h2
      simpa [c] using h2
    rw [t]
  · have t : (32 : Int32).toBitVec.getLsbD i = false := by
      have : ∀ j, j < 32 → 8 ≤ j → (32 : Int32).toBitVec.getLsbD j = false := by decide +kernel
      exact this i hi c
    rw [t, Bool.and_false, Bool.and_false]
