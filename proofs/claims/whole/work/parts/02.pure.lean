/-! Numbers: an Int64 and an Int32 by their integers (zL, zI); p2 n is 2^n as an integer. -/
def zL (z : Int) : Int64 := Int64.ofInt z
def zI (z : Int) : Int32 := Int32.ofInt z
def p2 (n : Nat) : Int := ((2 ^ n : Nat) : Int)
theorem p2_pos (n : Nat) : 0 < p2 n := by
  have := Nat.two_pow_pos n
  unfold p2
  omega
theorem p2_add (a b : Nat) : p2 (a + b) = p2 a * p2 b := by
  unfold p2
  rw [Nat.pow_add, Int.natCast_mul]
theorem zL_of (x : Int64) : zL x.toInt = x := Int64.ofInt_toInt x
theorem zI_of (x : Int32) : zI x.toInt = x := Int32.ofInt_toInt x
theorem zL_add (a b : Int) : zL a + zL b = zL (a + b) := (Int64.ofInt_add a b).symm
theorem zL_sub (a b : Int) : zL a - zL b = zL (a - b) := (Int64.ofInt_sub a b).symm
theorem zL_mul (a b : Int) : zL a * zL b = zL (a * b) := (Int64.ofInt_mul a b).symm
theorem zL_neg (a : Int) : -zL a = zL (-a) := (Int64.ofInt_neg a).symm
theorem zI_add (a b : Int) : zI a + zI b = zI (a + b) := (Int32.ofInt_add a b).symm
theorem zI_sub (a b : Int) : zI a - zI b = zI (a - b) := (Int32.ofInt_sub a b).symm
theorem zI_mul (a b : Int) : zI a * zI b = zI (a * b) := (Int32.ofInt_mul a b).symm
theorem zI_neg (a : Int) : -zI a = zI (-a) := (Int32.ofInt_neg a).symm
theorem zL_int {z : Int} (h1 : -9223372036854775808 ≤ z) (h2 : z < 9223372036854775808) : (zL z).toInt = z := Int64.toInt_ofInt_of_le (by omega) (by omega)
theorem zI_int {z : Int} (h1 : -2147483648 ≤ z) (h2 : z < 2147483648) : (zI z).toInt = z := Int32.toInt_ofInt_of_le (by omega) (by omega)
theorem zI_lo (x : Int32) : -2147483648 ≤ x.toInt := by
  have := x.le_toInt
  omega
theorem zI_hi (x : Int32) : x.toInt < 2147483648 := by
  have := x.toInt_lt
  omega
theorem zL_i (z : Int) : (zL z).toInt32 = zI z := Int64.toInt32_ofInt
theorem zI_l {z : Int} (h1 : -2147483648 ≤ z) (h2 : z < 2147483648) : (zI z).toInt64 = zL z := by
  rw [← Int64.ofInt_int32ToInt, zI_int h1 h2]
  rfl
theorem zI_x (x : Int32) : x.toInt64 = zL x.toInt := (Int64.ofInt_int32ToInt x).symm
theorem zL_le {a b : Int} (a1 : -9223372036854775808 ≤ a) (a2 : a < 9223372036854775808) (b1 : -9223372036854775808 ≤ b) (b2 : b < 9223372036854775808) : zL a ≤ zL b ↔ a ≤ b := by
  rw [Int64.le_iff_toInt_le, zL_int a1 a2, zL_int b1 b2]
theorem zL_lt {a b : Int} (a1 : -9223372036854775808 ≤ a) (a2 : a < 9223372036854775808) (b1 : -9223372036854775808 ≤ b) (b2 : b < 9223372036854775808) : zL a < zL b ↔ a < b := by
  rw [Int64.lt_iff_toInt_lt, zL_int a1 a2, zL_int b1 b2]
theorem zL_eq {a b : Int} (a1 : -9223372036854775808 ≤ a) (a2 : a < 9223372036854775808) (b1 : -9223372036854775808 ≤ b) (b2 : b < 9223372036854775808) : zL a = zL b ↔ a = b := by
  rw [← Int64.toInt_inj, zL_int a1 a2, zL_int b1 b2]
theorem zI_le {a b : Int} (a1 : -2147483648 ≤ a) (a2 : a < 2147483648) (b1 : -2147483648 ≤ b) (b2 : b < 2147483648) : zI a ≤ zI b ↔ a ≤ b := by
  rw [Int32.le_iff_toInt_le, zI_int a1 a2, zI_int b1 b2]
theorem zI_lt {a b : Int} (a1 : -2147483648 ≤ a) (a2 : a < 2147483648) (b1 : -2147483648 ≤ b) (b2 : b < 2147483648) : zI a < zI b ↔ a < b := by
  rw [Int32.lt_iff_toInt_lt, zI_int a1 a2, zI_int b1 b2]
theorem zI_eq {a b : Int} (a1 : -2147483648 ≤ a) (a2 : a < 2147483648) (b1 : -2147483648 ≤ b) (b2 : b < 2147483648) : zI a = zI b ↔ a = b := by
  rw [← Int32.toInt_inj, zI_int a1 a2, zI_int b1 b2]
theorem bv_mask (w k : Nat) (hk : k ≤ w) (z : Int) : BitVec.ofInt w z &&& BitVec.ofNat w (2 ^ k - 1) = BitVec.ofInt w (z % p2 k) := by
  have hpw : 2 ^ k ≤ 2 ^ w := Nat.pow_le_pow_right (by decide) hk
  have h0 : 0 < 2 ^ k := Nat.two_pow_pos k
  have h0' := p2_pos k
  have h1' := p2_pos w
  have hle : p2 k ≤ p2 w := by unfold p2; omega
  have h1 : 0 ≤ z % p2 w := Int.emod_nonneg _ (by omega)
  have h2 : 0 ≤ z % p2 k := Int.emod_nonneg _ (by omega)
  have h3 : z % p2 k < p2 k := Int.emod_lt_of_pos _ h0'
  apply BitVec.eq_of_toNat_eq
  rw [BitVec.toNat_and, BitVec.toNat_ofInt, BitVec.toNat_ofInt, BitVec.toNat_ofNat, Nat.mod_eq_of_lt (show 2 ^ k - 1 < 2 ^ w by omega), Nat.and_two_pow_sub_one_eq_mod]
  show (z % p2 w).toNat % 2 ^ k = (z % p2 k % p2 w).toNat
  rw [Int.emod_eq_of_lt h2 (by omega)]
  apply Int.ofNat_inj.mp
  rw [Int.natCast_emod, Int.toNat_of_nonneg h1, Int.toNat_of_nonneg h2]
  show z % p2 w % p2 k = z % p2 k
  exact Int.emod_emod_of_dvd z (Int.natCast_dvd_natCast.mpr (Nat.pow_dvd_pow 2 hk))
theorem bv_shl (w k : Nat) (z : Int) : BitVec.ofInt w z <<< k = BitVec.ofInt w (z * p2 k) := by
  rw [BitVec.ofInt_mul, BitVec.shiftLeft_eq_mul_twoPow]
  congr 1
  apply BitVec.eq_of_toNat_eq
  unfold p2
  rw [BitVec.ofInt_natCast, BitVec.toNat_ofNat, BitVec.toNat_twoPow]
theorem bv_split {w : Nat} (x m : BitVec w) : (x &&& ~~~m) + (x &&& m) = x := by
  rw [BitVec.add_eq_or_of_and_eq_zero]
  · apply BitVec.eq_of_getLsbD_eq
    intro i hi
    rw [BitVec.getLsbD_or, BitVec.getLsbD_and, BitVec.getLsbD_and, BitVec.getLsbD_not]
    cases x.getLsbD i <;> cases m.getLsbD i <;> simp [hi]
  · apply BitVec.eq_of_getLsbD_eq
    intro i hi
    rw [BitVec.getLsbD_and, BitVec.getLsbD_and, BitVec.getLsbD_and, BitVec.getLsbD_not]
    cases x.getLsbD i <;> cases m.getLsbD i <;> simp
theorem bv_or (w k : Nat) (hk : k ≤ w) (x y : Int) (hx : x % p2 k = 0) (hy0 : 0 ≤ y) (hy : y < p2 k) : BitVec.ofInt w x ||| BitVec.ofInt w y = BitVec.ofInt w (x + y) := by
  have h1 := bv_mask w k hk y
  rw [Int.emod_eq_of_lt hy0 hy] at h1
  have h2 := bv_mask w k hk x
  rw [hx] at h2
  rw [BitVec.ofInt_add, BitVec.add_eq_or_of_and_eq_zero]
  calc BitVec.ofInt w x &&& BitVec.ofInt w y = BitVec.ofInt w x &&& (BitVec.ofInt w y &&& BitVec.ofNat w (2 ^ k - 1)) := by rw [h1]
    _ = (BitVec.ofInt w x &&& BitVec.ofNat w (2 ^ k - 1)) &&& BitVec.ofInt w y := by rw [BitVec.and_comm (BitVec.ofInt w y), BitVec.and_assoc]
    _ = 0#w := by rw [h2]; simp
theorem zL_mask (z : Int) (k : Nat) (hk : k ≤ 64) {m : Int64} (hm : m.toBitVec = BitVec.ofNat 64 (2 ^ k - 1)) {P : Int} (hP : p2 k = P) : zL z &&& m = zL (z % P) := by
  subst hP
  apply Int64.toBitVec_inj.mp
  rw [Int64.toBitVec_and, hm]
  exact bv_mask 64 k hk z
theorem zI_mask (z : Int) (k : Nat) (hk : k ≤ 32) {m : Int32} (hm : m.toBitVec = BitVec.ofNat 32 (2 ^ k - 1)) {P : Int} (hP : p2 k = P) : zI z &&& m = zI (z % P) := by
  subst hP
  apply Int32.toBitVec_inj.mp
  rw [Int32.toBitVec_and, hm]
  exact bv_mask 32 k hk z
theorem zI_or (k : Nat) (hk : k ≤ 32) (x y : Int) {P : Int} (hP : p2 k = P) (hx : x % P = 0) (hy0 : 0 ≤ y) (hy : y < P) : zI x ||| zI y = zI (x + y) := by
  subst hP
  apply Int32.toBitVec_inj.mp
  rw [Int32.toBitVec_or]
  exact bv_or 32 k hk x y hx hy0 hy
theorem zL_amt : ∀ k, k < 64 → (((zI (k : Nat)).toInt64 &&& 63).toBitVec.smod 64).toNat = k := by decide +kernel
theorem zI_amt : ∀ k, k < 32 → ((zI (k : Nat) &&& 31).toBitVec.smod 32).toNat = k := by decide +kernel
theorem zU_amt : ∀ k, k < 32 → (((zI (k : Nat)).toUInt32 &&& Int32.toUInt32 31).toBitVec % 32).toNat = k := by decide +kernel
theorem zL_shl (z : Int) (k : Nat) (hk : k < 64) {y : Int32} (hy : zI (k : Nat) = y) {P : Int} (hP : p2 k = P) : zL z <<< (y.toInt64 &&& 63) = zL (z * P) := by
  subst hy hP
  apply Int64.toBitVec_inj.mp
  show (zL z).toBitVec <<< (((zI (k : Nat)).toInt64 &&& 63).toBitVec.smod 64).toNat = _
  rw [zL_amt k hk]
  exact bv_shl 64 k z
theorem zI_shl (z : Int) (k : Nat) (hk : k < 32) {y : Int32} (hy : zI (k : Nat) = y) {P : Int} (hP : p2 k = P) : zI z <<< (y &&& 31) = zI (z * P) := by
  subst hy hP
  apply Int32.toBitVec_inj.mp
  show (zI z).toBitVec <<< ((zI (k : Nat) &&& 31).toBitVec.smod 32).toNat = _
  rw [zI_amt k hk]
  exact bv_shl 32 k z
theorem zL_shr {z : Int} (h1 : 0 ≤ z) (h2 : z < 9223372036854775808) (k : Nat) (hk : k < 64) {y : Int32} (hy : zI (k : Nat) = y) {P : Int} (hP : p2 k = P) : zL z >>> (y.toInt64 &&& 63) = zL (z / P) := by
  subst hy hP
  have hp := p2_pos k
  have a1 : 0 ≤ z / p2 k := Int.ediv_nonneg h1 (by omega)
  have a2 : z / p2 k ≤ z := Int.ediv_le_self _ h1
  apply Int64.toInt_inj.mp
  have e : (zL z >>> ((zI (k : Nat)).toInt64 &&& 63)).toInt = (zL z).toInt >>> k := by
    show ((zL z).toBitVec.sshiftRight (((zI (k : Nat)).toInt64 &&& 63).toBitVec.smod 64).toNat).toInt = _
    rw [zL_amt k hk, BitVec.toInt_sshiftRight]
    rfl
  rw [e, Int.shiftRight_eq_div_pow, zL_int (by omega) h2, zL_int (by omega) (by omega)]
  rfl
theorem zI_shr {z : Int} (h1 : -2147483648 ≤ z) (h2 : z < 2147483648) (k : Nat) (hk : k < 32) {y : Int32} (hy : zI (k : Nat) = y) {P : Int} (hP : p2 k = P) (h3 : -2147483648 ≤ z / P) (h4 : z / P < 2147483648) : zI z >>> (y &&& 31) = zI (z / P) := by
  subst hy hP
  apply Int32.toInt_inj.mp
  rw [pk_shr (zI z) (zI (k : Nat) &&& 31) k (zI_amt k hk), Int.shiftRight_eq_div_pow, zI_int h1 h2, zI_int h3 h4]
  rfl
theorem zI_ushr (x : Int32) (k : Nat) (hk : k < 32) {y : Int32} (hy : zI (k : Nat) = y) {P : Int} (hP : p2 k = P) : (x.toUInt32 >>> (y.toUInt32 &&& Int32.toUInt32 31)).toInt32 = zI (x.toInt % 4294967296 / P) := by
  subst hy hP
  apply Int32.toBitVec_inj.mp
  apply BitVec.eq_of_toNat_eq
  rw [pk_ushr x (zI (k : Nat)) k (zU_amt k hk)]
  show _ = (BitVec.ofInt 32 (x.toInt % 4294967296 / p2 k)).toNat
  have e : (x.toBitVec.toNat : Int) = x.toInt % 4294967296 := by
    have h := BitVec.toInt_eq_toNat_bmod x.toBitVec
    have h2 := x.toBitVec.isLt
    rw [Int32.toInt_toBitVec] at h
    have e9 : ∀ y : Int, y.bmod (2 ^ 32) % 4294967296 = y % 4294967296 := fun y => Int.bmod_emod (x := y) (m := 2 ^ 32)
    rw [h, e9]
    omega
  rw [← e, BitVec.toNat_ofInt]
  have e2 : (x.toBitVec.toNat : Int) / p2 k = ((x.toBitVec.toNat / 2 ^ k : Nat) : Int) := rfl
  rw [e2]
  have h3 : x.toBitVec.toNat / 2 ^ k ≤ x.toBitVec.toNat := Nat.div_le_self _ _
  have h4 := x.toBitVec.isLt
  have e3 : ((x.toBitVec.toNat / 2 ^ k : Nat) : Int) % ((2 ^ 32 : Nat) : Int) = ((x.toBitVec.toNat / 2 ^ k : Nat) : Int) := by
    generalize x.toBitVec.toNat / 2 ^ k = d at h3 ⊢
    omega
  rw [e3]
  rfl
theorem zL_nmask (z : Int) (k : Nat) (hk : k < 64) {m : Int64} (hm : m = zL (-p2 k)) : zL z &&& m = zL (z / p2 k * p2 k) := by
  have hM : (zL (p2 k - 1)).toBitVec = BitVec.ofNat 64 (2 ^ k - 1) := by
    show BitVec.ofInt 64 (p2 k - 1) = _
    have : p2 k - 1 = ((2 ^ k - 1 : Nat) : Int) := by
      have := Nat.two_pow_pos k
      unfold p2
      omega
    rw [this, BitVec.ofInt_natCast]
  have hn : m = ~~~(zL (p2 k - 1)) := by
    rw [hm, Int64.not_eq_neg_add, zL_neg]
    show _ = zL _ - zL 1
    rw [zL_sub]
    congr 1
    omega
  have hs : (zL z &&& m) + (zL z &&& zL (p2 k - 1)) = zL z := by
    rw [hn]
    apply Int64.toBitVec_inj.mp
    exact bv_split _ _
  rw [zL_mask z k (by omega) hM rfl] at hs
  have h2 : (zL z &&& m) = zL z - zL (z % p2 k) := Int64.eq_sub_iff_add_eq.mpr hs
  rw [h2, zL_sub]
  congr 1
  have := Int.ediv_mul_self z (p2 k)
  omega
theorem zI_dif (x : Int32) {B M1 M2 : Int32} (h1 : B ||| M2 = M1) (h2 : B &&& M2 = 0) : x &&& B = (x &&& M1) - (x &&& M2) := by
  apply Int32.eq_sub_iff_add_eq.mpr
  apply Int32.toBitVec_inj.mp
  subst h1
  have h3 : B.toBitVec &&& M2.toBitVec = 0#32 := congrArg Int32.toBitVec h2
  show (x.toBitVec &&& B.toBitVec) + (x.toBitVec &&& M2.toBitVec) = x.toBitVec &&& (B.toBitVec ||| M2.toBitVec)
  rw [BitVec.add_eq_or_of_and_eq_zero]
  · apply BitVec.eq_of_getLsbD_eq
    intro i hi
    rw [BitVec.getLsbD_or, BitVec.getLsbD_and, BitVec.getLsbD_and, BitVec.getLsbD_and, BitVec.getLsbD_or]
    cases x.toBitVec.getLsbD i <;> cases B.toBitVec.getLsbD i <;> cases M2.toBitVec.getLsbD i <;> rfl
  · calc (x.toBitVec &&& B.toBitVec) &&& (x.toBitVec &&& M2.toBitVec) = (x.toBitVec &&& x.toBitVec) &&& (B.toBitVec &&& M2.toBitVec) := by
          apply BitVec.eq_of_getLsbD_eq
          intro i hi
          simp only [BitVec.getLsbD_and]
          cases x.toBitVec.getLsbD i <;> cases B.toBitVec.getLsbD i <;> cases M2.toBitVec.getLsbD i <;> rfl
      _ = 0#32 := by rw [h3]; simp
theorem zI_m1 (z : Int) : zI z &&& (-1) = zI z := by
  apply Int32.toBitVec_inj.mp
  show (zI z).toBitVec &&& (-1 : Int32).toBitVec = (zI z).toBitVec
  have : (-1 : Int32).toBitVec = BitVec.allOnes 32 := by decide
  rw [this, BitVec.and_allOnes]
theorem zI_14 (z : Int) : zI z &&& 16384 = zI (z / 16384 % 2 * 16384) := by
  rw [zI_dif (zI z) (M1 := 32767) (M2 := 16383) (by decide) (by decide), zI_mask z 15 (by decide) rfl (P := 32768) rfl, zI_mask z 14 (by decide) rfl (P := 16384) rfl, zI_sub]
  congr 1
  omega
theorem zI_248 (z : Int) : zI z &&& 248 = zI (z % 256 / 8 * 8) := by
  rw [zI_dif (zI z) (M1 := 255) (M2 := 7) (by decide) (by decide), zI_mask z 8 (by decide) rfl (P := 256) rfl, zI_mask z 3 (by decide) rfl (P := 8) rfl, zI_sub]
  congr 1
  omega
theorem zI_56 (z : Int) : zI z &&& 56 = zI (z % 64 / 8 * 8) := by
  rw [zI_dif (zI z) (M1 := 63) (M2 := 7) (by decide) (by decide), zI_mask z 6 (by decide) rfl (P := 64) rfl, zI_mask z 3 (by decide) rfl (P := 8) rfl, zI_sub]
  congr 1
  omega
theorem zI_m8 (z : Int) : zI z &&& (-8) = zI (z / 8 * 8) := by
  rw [zI_dif (zI z) (M1 := -1) (M2 := 7) (by decide) (by decide), zI_m1, zI_mask z 3 (by decide) rfl (P := 8) rfl, zI_sub]
  congr 1
  omega
theorem zI_m15 (z : Int) : zI z &&& (-32768) = zI (z / 32768 * 32768) := by
  rw [zI_dif (zI z) (M1 := -1) (M2 := 32767) (by decide) (by decide), zI_m1, zI_mask z 15 (by decide) rfl (P := 32768) rfl, zI_sub]
  congr 1
  omega
