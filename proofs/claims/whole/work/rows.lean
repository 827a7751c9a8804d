section
/-! Numbers: an Int64 and an Int32 by their integers (zL, zI); p2 n is 2^n as an integer. -/
def zL (z : Int) : Int64 := Int64.ofInt z
def zI (z : Int) : Int32 := Int32.ofInt z
def p2 (n : Nat) : Int := ((2 ^ n : Nat) : Int)
theorem p2_pos (n : Nat) : 0 < p2 n := by
  have := Nat.two_pow_pos n
  unfold p2
  omega
theorem p2_add (a b : Nat) : p2 (a + b) = p2 a * p2 b := by
  unfold p2
  rw [Nat.pow_add, Int.natCast_mul]
theorem zL_of (x : Int64) : zL x.toInt = x := Int64.ofInt_toInt x
theorem zI_of (x : Int32) : zI x.toInt = x := Int32.ofInt_toInt x
theorem zL_add (a b : Int) : zL a + zL b = zL (a + b) := (Int64.ofInt_add a b).symm
theorem zL_sub (a b : Int) : zL a - zL b = zL (a - b) := (Int64.ofInt_sub a b).symm
theorem zL_mul (a b : Int) : zL a * zL b = zL (a * b) := (Int64.ofInt_mul a b).symm
theorem zL_neg (a : Int) : -zL a = zL (-a) := (Int64.ofInt_neg a).symm
theorem zI_add (a b : Int) : zI a + zI b = zI (a + b) := (Int32.ofInt_add a b).symm
theorem zI_sub (a b : Int) : zI a - zI b = zI (a - b) := (Int32.ofInt_sub a b).symm
theorem zI_mul (a b : Int) : zI a * zI b = zI (a * b) := (Int32.ofInt_mul a b).symm
theorem zI_neg (a : Int) : -zI a = zI (-a) := (Int32.ofInt_neg a).symm
theorem zL_int {z : Int} (h1 : -9223372036854775808 ≤ z) (h2 : z < 9223372036854775808) : (zL z).toInt = z := Int64.toInt_ofInt_of_le (by omega) (by omega)
theorem zI_int {z : Int} (h1 : -2147483648 ≤ z) (h2 : z < 2147483648) : (zI z).toInt = z := Int32.toInt_ofInt_of_le (by omega) (by omega)
theorem zI_lo (x : Int32) : -2147483648 ≤ x.toInt := by
  have := x.le_toInt
  omega
theorem zI_hi (x : Int32) : x.toInt < 2147483648 := by
  have := x.toInt_lt
  omega
theorem zL_i (z : Int) : (zL z).toInt32 = zI z := Int64.toInt32_ofInt
theorem zI_l {z : Int} (h1 : -2147483648 ≤ z) (h2 : z < 2147483648) : (zI z).toInt64 = zL z := by
  rw [← Int64.ofInt_int32ToInt, zI_int h1 h2]
  rfl
theorem zI_x (x : Int32) : x.toInt64 = zL x.toInt := (Int64.ofInt_int32ToInt x).symm
theorem zL_le {a b : Int} (a1 : -9223372036854775808 ≤ a) (a2 : a < 9223372036854775808) (b1 : -9223372036854775808 ≤ b) (b2 : b < 9223372036854775808) : zL a ≤ zL b ↔ a ≤ b := by
  rw [Int64.le_iff_toInt_le, zL_int a1 a2, zL_int b1 b2]
theorem zL_lt {a b : Int} (a1 : -9223372036854775808 ≤ a) (a2 : a < 9223372036854775808) (b1 : -9223372036854775808 ≤ b) (b2 : b < 9223372036854775808) : zL a < zL b ↔ a < b := by
  rw [Int64.lt_iff_toInt_lt, zL_int a1 a2, zL_int b1 b2]
theorem zL_eq {a b : Int} (a1 : -9223372036854775808 ≤ a) (a2 : a < 9223372036854775808) (b1 : -9223372036854775808 ≤ b) (b2 : b < 9223372036854775808) : zL a = zL b ↔ a = b := by
  rw [← Int64.toInt_inj, zL_int a1 a2, zL_int b1 b2]
theorem zI_le {a b : Int} (a1 : -2147483648 ≤ a) (a2 : a < 2147483648) (b1 : -2147483648 ≤ b) (b2 : b < 2147483648) : zI a ≤ zI b ↔ a ≤ b := by
  rw [Int32.le_iff_toInt_le, zI_int a1 a2, zI_int b1 b2]
theorem zI_lt {a b : Int} (a1 : -2147483648 ≤ a) (a2 : a < 2147483648) (b1 : -2147483648 ≤ b) (b2 : b < 2147483648) : zI a < zI b ↔ a < b := by
  rw [Int32.lt_iff_toInt_lt, zI_int a1 a2, zI_int b1 b2]
theorem zI_eq {a b : Int} (a1 : -2147483648 ≤ a) (a2 : a < 2147483648) (b1 : -2147483648 ≤ b) (b2 : b < 2147483648) : zI a = zI b ↔ a = b := by
  rw [← Int32.toInt_inj, zI_int a1 a2, zI_int b1 b2]
theorem bv_mask (w k : Nat) (hk : k ≤ w) (z : Int) : BitVec.ofInt w z &&& BitVec.ofNat w (2 ^ k - 1) = BitVec.ofInt w (z % p2 k) := by
  have hpw : 2 ^ k ≤ 2 ^ w := Nat.pow_le_pow_right (by decide) hk
  have h0 : 0 < 2 ^ k := Nat.two_pow_pos k
  have h0' := p2_pos k
  have h1' := p2_pos w
  have hle : p2 k ≤ p2 w := by unfold p2; omega
  have h1 : 0 ≤ z % p2 w := Int.emod_nonneg _ (by omega)
  have h2 : 0 ≤ z % p2 k := Int.emod_nonneg _ (by omega)
  have h3 : z % p2 k < p2 k := Int.emod_lt_of_pos _ h0'
  apply BitVec.eq_of_toNat_eq
  rw [BitVec.toNat_and, BitVec.toNat_ofInt, BitVec.toNat_ofInt, BitVec.toNat_ofNat, Nat.mod_eq_of_lt (show 2 ^ k - 1 < 2 ^ w by omega), Nat.and_two_pow_sub_one_eq_mod]
  show (z % p2 w).toNat % 2 ^ k = (z % p2 k % p2 w).toNat
  rw [Int.emod_eq_of_lt h2 (by omega)]
  apply Int.ofNat_inj.mp
  rw [Int.natCast_emod, Int.toNat_of_nonneg h1, Int.toNat_of_nonneg h2]
  show z % p2 w % p2 k = z % p2 k
  exact Int.emod_emod_of_dvd z (Int.natCast_dvd_natCast.mpr (Nat.pow_dvd_pow 2 hk))
theorem bv_shl (w k : Nat) (z : Int) : BitVec.ofInt w z <<< k = BitVec.ofInt w (z * p2 k) := by
  rw [BitVec.ofInt_mul, BitVec.shiftLeft_eq_mul_twoPow]
  congr 1
  apply BitVec.eq_of_toNat_eq
  unfold p2
  rw [BitVec.ofInt_natCast, BitVec.toNat_ofNat, BitVec.toNat_twoPow]
theorem bv_split {w : Nat} (x m : BitVec w) : (x &&& ~~~m) + (x &&& m) = x := by
  rw [BitVec.add_eq_or_of_and_eq_zero]
  · apply BitVec.eq_of_getLsbD_eq
    intro i hi
    rw [BitVec.getLsbD_or, BitVec.getLsbD_and, BitVec.getLsbD_and, BitVec.getLsbD_not]
    cases x.getLsbD i <;> cases m.getLsbD i <;> simp [hi]
  · apply BitVec.eq_of_getLsbD_eq
    intro i hi
    rw [BitVec.getLsbD_and, BitVec.getLsbD_and, BitVec.getLsbD_and, BitVec.getLsbD_not]
    cases x.getLsbD i <;> cases m.getLsbD i <;> simp
theorem bv_or (w k : Nat) (hk : k ≤ w) (x y : Int) (hx : x % p2 k = 0) (hy0 : 0 ≤ y) (hy : y < p2 k) : BitVec.ofInt w x ||| BitVec.ofInt w y = BitVec.ofInt w (x + y) := by
  have h1 := bv_mask w k hk y
  rw [Int.emod_eq_of_lt hy0 hy] at h1
  have h2 := bv_mask w k hk x
  rw [hx] at h2
  rw [BitVec.ofInt_add, BitVec.add_eq_or_of_and_eq_zero]
  calc BitVec.ofInt w x &&& BitVec.ofInt w y = BitVec.ofInt w x &&& (BitVec.ofInt w y &&& BitVec.ofNat w (2 ^ k - 1)) := by rw [h1]
    _ = (BitVec.ofInt w x &&& BitVec.ofNat w (2 ^ k - 1)) &&& BitVec.ofInt w y := by rw [BitVec.and_comm (BitVec.ofInt w y), BitVec.and_assoc]
    _ = 0#w := by rw [h2]; simp
theorem zL_mask (z : Int) (k : Nat) (hk : k ≤ 64) {m : Int64} (hm : m.toBitVec = BitVec.ofNat 64 (2 ^ k - 1)) {P : Int} (hP : p2 k = P) : zL z &&& m = zL (z % P) := by
  subst hP
  apply Int64.toBitVec_inj.mp
  rw [Int64.toBitVec_and, hm]
  exact bv_mask 64 k hk z
theorem zI_mask (z : Int) (k : Nat) (hk : k ≤ 32) {m : Int32} (hm : m.toBitVec = BitVec.ofNat 32 (2 ^ k - 1)) {P : Int} (hP : p2 k = P) : zI z &&& m = zI (z % P) := by
  subst hP
  apply Int32.toBitVec_inj.mp
  rw [Int32.toBitVec_and, hm]
  exact bv_mask 32 k hk z
theorem zI_or (k : Nat) (hk : k ≤ 32) (x y : Int) {P : Int} (hP : p2 k = P) (hx : x % P = 0) (hy0 : 0 ≤ y) (hy : y < P) : zI x ||| zI y = zI (x + y) := by
  subst hP
  apply Int32.toBitVec_inj.mp
  rw [Int32.toBitVec_or]
  exact bv_or 32 k hk x y hx hy0 hy
theorem zL_amt : ∀ k, k < 64 → (((zI (k : Nat)).toInt64 &&& 63).toBitVec.smod 64).toNat = k := by decide +kernel
theorem zI_amt : ∀ k, k < 32 → ((zI (k : Nat) &&& 31).toBitVec.smod 32).toNat = k := by decide +kernel
theorem zU_amt : ∀ k, k < 32 → (((zI (k : Nat)).toUInt32 &&& Int32.toUInt32 31).toBitVec % 32).toNat = k := by decide +kernel
theorem zL_shl (z : Int) (k : Nat) (hk : k < 64) {y : Int32} (hy : zI (k : Nat) = y) {P : Int} (hP : p2 k = P) : zL z <<< (y.toInt64 &&& 63) = zL (z * P) := by
  subst hy hP
  apply Int64.toBitVec_inj.mp
  show (zL z).toBitVec <<< (((zI (k : Nat)).toInt64 &&& 63).toBitVec.smod 64).toNat = _
  rw [zL_amt k hk]
  exact bv_shl 64 k z
theorem zI_shl (z : Int) (k : Nat) (hk : k < 32) {y : Int32} (hy : zI (k : Nat) = y) {P : Int} (hP : p2 k = P) : zI z <<< (y &&& 31) = zI (z * P) := by
  subst hy hP
  apply Int32.toBitVec_inj.mp
  show (zI z).toBitVec <<< ((zI (k : Nat) &&& 31).toBitVec.smod 32).toNat = _
  rw [zI_amt k hk]
  exact bv_shl 32 k z
theorem zL_shr {z : Int} (h1 : 0 ≤ z) (h2 : z < 9223372036854775808) (k : Nat) (hk : k < 64) {y : Int32} (hy : zI (k : Nat) = y) {P : Int} (hP : p2 k = P) : zL z >>> (y.toInt64 &&& 63) = zL (z / P) := by
  subst hy hP
  have hp := p2_pos k
  have a1 : 0 ≤ z / p2 k := Int.ediv_nonneg h1 (by omega)
  have a2 : z / p2 k ≤ z := Int.ediv_le_self _ h1
  apply Int64.toInt_inj.mp
  have e : (zL z >>> ((zI (k : Nat)).toInt64 &&& 63)).toInt = (zL z).toInt >>> k := by
    show ((zL z).toBitVec.sshiftRight (((zI (k : Nat)).toInt64 &&& 63).toBitVec.smod 64).toNat).toInt = _
    rw [zL_amt k hk, BitVec.toInt_sshiftRight]
    rfl
  rw [e, Int.shiftRight_eq_div_pow, zL_int (by omega) h2, zL_int (by omega) (by omega)]
  rfl
theorem zI_shr {z : Int} (h1 : -2147483648 ≤ z) (h2 : z < 2147483648) (k : Nat) (hk : k < 32) {y : Int32} (hy : zI (k : Nat) = y) {P : Int} (hP : p2 k = P) (h3 : -2147483648 ≤ z / P) (h4 : z / P < 2147483648) : zI z >>> (y &&& 31) = zI (z / P) := by
  subst hy hP
  apply Int32.toInt_inj.mp
  rw [pk_shr (zI z) (zI (k : Nat) &&& 31) k (zI_amt k hk), Int.shiftRight_eq_div_pow, zI_int h1 h2, zI_int h3 h4]
  rfl
theorem zI_ushr (x : Int32) (k : Nat) (hk : k < 32) {y : Int32} (hy : zI (k : Nat) = y) {P : Int} (hP : p2 k = P) : (x.toUInt32 >>> (y.toUInt32 &&& Int32.toUInt32 31)).toInt32 = zI (x.toInt % 4294967296 / P) := by
  subst hy hP
  apply Int32.toBitVec_inj.mp
  apply BitVec.eq_of_toNat_eq
  rw [pk_ushr x (zI (k : Nat)) k (zU_amt k hk)]
  show _ = (BitVec.ofInt 32 (x.toInt % 4294967296 / p2 k)).toNat
  have e : (x.toBitVec.toNat : Int) = x.toInt % 4294967296 := by
    have h := BitVec.toInt_eq_toNat_bmod x.toBitVec
    have h2 := x.toBitVec.isLt
    rw [Int32.toInt_toBitVec] at h
    have e9 : ∀ y : Int, y.bmod (2 ^ 32) % 4294967296 = y % 4294967296 := fun y => Int.bmod_emod (x := y) (m := 2 ^ 32)
    rw [h, e9]
    omega
  rw [← e, BitVec.toNat_ofInt]
  have e2 : (x.toBitVec.toNat : Int) / p2 k = ((x.toBitVec.toNat / 2 ^ k : Nat) : Int) := rfl
  rw [e2]
  have h3 : x.toBitVec.toNat / 2 ^ k ≤ x.toBitVec.toNat := Nat.div_le_self _ _
  have h4 := x.toBitVec.isLt
  have e3 : ((x.toBitVec.toNat / 2 ^ k : Nat) : Int) % ((2 ^ 32 : Nat) : Int) = ((x.toBitVec.toNat / 2 ^ k : Nat) : Int) := by
    generalize x.toBitVec.toNat / 2 ^ k = d at h3 ⊢
    omega
  rw [e3]
  rfl
theorem zL_nmask (z : Int) (k : Nat) (hk : k < 64) {m : Int64} (hm : m = zL (-p2 k)) : zL z &&& m = zL (z / p2 k * p2 k) := by
  have hM : (zL (p2 k - 1)).toBitVec = BitVec.ofNat 64 (2 ^ k - 1) := by
    show BitVec.ofInt 64 (p2 k - 1) = _
    have : p2 k - 1 = ((2 ^ k - 1 : Nat) : Int) := by
      have := Nat.two_pow_pos k
      unfold p2
      omega
    rw [this, BitVec.ofInt_natCast]
  have hn : m = ~~~(zL (p2 k - 1)) := by
    rw [hm, Int64.not_eq_neg_add, zL_neg]
    show _ = zL _ - zL 1
    rw [zL_sub]
    congr 1
    omega
  have hs : (zL z &&& m) + (zL z &&& zL (p2 k - 1)) = zL z := by
    rw [hn]
    apply Int64.toBitVec_inj.mp
    exact bv_split _ _
  rw [zL_mask z k (by omega) hM rfl] at hs
  have h2 : (zL z &&& m) = zL z - zL (z % p2 k) := Int64.eq_sub_iff_add_eq.mpr hs
  rw [h2, zL_sub]
  congr 1
  have := Int.ediv_mul_self z (p2 k)
  omega
theorem zI_dif (x : Int32) {B M1 M2 : Int32} (h1 : B ||| M2 = M1) (h2 : B &&& M2 = 0) : x &&& B = (x &&& M1) - (x &&& M2) := by
  apply Int32.eq_sub_iff_add_eq.mpr
  apply Int32.toBitVec_inj.mp
  subst h1
  have h3 : B.toBitVec &&& M2.toBitVec = 0#32 := congrArg Int32.toBitVec h2
  show (x.toBitVec &&& B.toBitVec) + (x.toBitVec &&& M2.toBitVec) = x.toBitVec &&& (B.toBitVec ||| M2.toBitVec)
  rw [BitVec.add_eq_or_of_and_eq_zero]
  · apply BitVec.eq_of_getLsbD_eq
    intro i hi
    rw [BitVec.getLsbD_or, BitVec.getLsbD_and, BitVec.getLsbD_and, BitVec.getLsbD_and, BitVec.getLsbD_or]
    cases x.toBitVec.getLsbD i <;> cases B.toBitVec.getLsbD i <;> cases M2.toBitVec.getLsbD i <;> rfl
  · calc (x.toBitVec &&& B.toBitVec) &&& (x.toBitVec &&& M2.toBitVec) = (x.toBitVec &&& x.toBitVec) &&& (B.toBitVec &&& M2.toBitVec) := by
          apply BitVec.eq_of_getLsbD_eq
          intro i hi
          simp only [BitVec.getLsbD_and]
          cases x.toBitVec.getLsbD i <;> cases B.toBitVec.getLsbD i <;> cases M2.toBitVec.getLsbD i <;> rfl
      _ = 0#32 := by rw [h3]; simp
theorem zI_m1 (z : Int) : zI z &&& (-1) = zI z := by
  apply Int32.toBitVec_inj.mp
  show (zI z).toBitVec &&& (-1 : Int32).toBitVec = (zI z).toBitVec
  have : (-1 : Int32).toBitVec = BitVec.allOnes 32 := by decide
  rw [this, BitVec.and_allOnes]
theorem zI_14 (z : Int) : zI z &&& 16384 = zI (z / 16384 % 2 * 16384) := by
  rw [zI_dif (zI z) (M1 := 32767) (M2 := 16383) (by decide) (by decide), zI_mask z 15 (by decide) rfl (P := 32768) rfl, zI_mask z 14 (by decide) rfl (P := 16384) rfl, zI_sub]
  congr 1
  omega
theorem zI_248 (z : Int) : zI z &&& 248 = zI (z % 256 / 8 * 8) := by
  rw [zI_dif (zI z) (M1 := 255) (M2 := 7) (by decide) (by decide), zI_mask z 8 (by decide) rfl (P := 256) rfl, zI_mask z 3 (by decide) rfl (P := 8) rfl, zI_sub]
  congr 1
  omega
theorem zI_56 (z : Int) : zI z &&& 56 = zI (z % 64 / 8 * 8) := by
  rw [zI_dif (zI z) (M1 := 63) (M2 := 7) (by decide) (by decide), zI_mask z 6 (by decide) rfl (P := 64) rfl, zI_mask z 3 (by decide) rfl (P := 8) rfl, zI_sub]
  congr 1
  omega
theorem zI_m8 (z : Int) : zI z &&& (-8) = zI (z / 8 * 8) := by
  rw [zI_dif (zI z) (M1 := -1) (M2 := 7) (by decide) (by decide), zI_m1, zI_mask z 3 (by decide) rfl (P := 8) rfl, zI_sub]
  congr 1
  omega
theorem zI_m15 (z : Int) : zI z &&& (-32768) = zI (z / 32768 * 32768) := by
  rw [zI_dif (zI z) (M1 := -1) (M2 := 32767) (by decide) (by decide), zI_m1, zI_mask z 15 (by decide) rfl (P := 32768) rfl, zI_sub]
  congr 1
  omega
end
section
/-! The numbers behind bounds: z is a META as an integer, a an address (0 to 2^32 - 1), b and t bounds asked for. -/
def kIE (z : Int) : Int := z / 16384 % 2
def kE (z : Int) : Nat := if kIE z = 0 then 0 else if z / 256 % 8 * 8 + z % 8 < 26 then (z / 256 % 8 * 8 + z % 8).toNat else 26
def kB (z : Int) : Int := if kIE z = 0 then z % 256 else z % 256 / 8 * 8
def kT6 (z : Int) : Int := if kIE z = 0 then z / 256 % 64 else z / 256 % 64 / 8 * 8
def kT (z : Int) : Int := (kB z / 64 + kIE z + (if kT6 z < kB z % 64 then 1 else 0)) % 4 * 64 + kT6 z
def kEd (z : Int) : Int := (kB z / 32 + 7) % 8
def kBl (x ed : Int) : Int := if x / 32 < ed then 1 else 0
def kPl (z a x : Int) : Int := (a / p2 (kE z + 8) + kBl x (kEd z) - kBl (a / p2 (kE z) % 256) (kEd z)) * p2 (kE z + 8) + x * p2 (kE z)
def kBase (z a : Int) : Int := kPl z a (kB z) % 4294967296
def kTop0 (z a : Int) : Int := kPl z a (kT z) % 8589934592
def kTop (z a : Int) : Int := if kE z < 25 ∧ 1 < (kTop0 z a / 2147483648 - kBase z a / 2147483648) % 4 then (kTop0 z a + 4294967296) % 8589934592 else kTop0 z a
theorem kIE_01 (z : Int) : kIE z = 0 ∨ kIE z = 1 := by unfold kIE; omega
theorem kE_le (z : Int) : kE z ≤ 26 := by
  unfold kE
  split
  · omega
  · split
    · omega
    · omega
theorem kB_in (z : Int) : 0 ≤ kB z ∧ kB z < 256 := by
  unfold kB
  split <;> omega
theorem kT6_in (z : Int) : 0 ≤ kT6 z ∧ kT6 z < 64 := by
  unfold kT6
  split <;> omega
theorem kT_in (z : Int) : 0 ≤ kT z ∧ kT z < 256 := by
  have := kT6_in z
  unfold kT
  omega
theorem kEd_in (z : Int) : 0 ≤ kEd z ∧ kEd z < 8 := by
  unfold kEd
  omega
theorem kBase_in (z a : Int) : 0 ≤ kBase z a ∧ kBase z a < 4294967296 := by
  unfold kBase
  omega
theorem kTop0_in (z a : Int) : 0 ≤ kTop0 z a ∧ kTop0 z a < 8589934592 := by
  unfold kTop0
  omega
theorem kTop_in (z a : Int) : 0 ≤ kTop z a ∧ kTop z a < 8589934592 := by
  have := kTop0_in z a
  unfold kTop
  split <;> omega
/-- only the low fifteen bits of a META say its bounds -/
theorem k_low {z z' : Int} (h : z % 32768 = z' % 32768) : kIE z = kIE z' ∧ kE z = kE z' ∧ kB z = kB z' ∧ kT z = kT z' := by
  have h1 : kIE z = kIE z' := by unfold kIE; omega
  have h2 : z / 256 % 8 = z' / 256 % 8 := by omega
  have h3 : z % 8 = z' % 8 := by omega
  have h4 : z % 256 = z' % 256 := by omega
  have h5 : z / 256 % 64 = z' / 256 % 64 := by omega
  have e1 : kE z = kE z' := by unfold kE; rw [h1, h2, h3]
  have e2 : kB z = kB z' := by unfold kB; rw [h1, h4]
  have e3 : kT6 z = kT6 z' := by unfold kT6; rw [h1, h5]
  exact ⟨h1, e1, e2, by unfold kT; rw [h1, e2, e3]⟩
theorem k_low2 {z z' : Int} (h : z % 32768 = z' % 32768) (a : Int) : kBase z a = kBase z' a ∧ kTop z a = kTop z' a := by
  obtain ⟨h1, h2, h3, h4⟩ := k_low h
  have h5 : kEd z = kEd z' := by unfold kEd; rw [h3]
  have h6 : ∀ x, kPl z a x = kPl z' a x := fun x => by unfold kPl; rw [h2, h5]
  have h7 : kBase z a = kBase z' a := by unfold kBase; rw [h6, h3]
  have h8 : kTop0 z a = kTop0 z' a := by unfold kTop0; rw [h6, h4]
  exact ⟨h7, by unfold kTop; rw [h2, h7, h8]⟩
/-- a remainder by 256 P, where P divides all but a rest below P -/
theorem k_mm {P y r : Int} (hP : 0 < P) (h0 : 0 ≤ r) (h1 : r < P) : (P * y + r) % (P * 256) = P * (y % 256) + r := by
  have e : P * y + r = (P * (y % 256) + r) + (P * 256) * (y / 256) := by
    have h := Int.mul_ediv_add_emod y 256
    have : P * y = P * (256 * (y / 256) + y % 256) := by rw [h]
    rw [this, Int.mul_add, Int.mul_assoc]
    omega
  have a1 : 0 ≤ P * (y % 256) := Int.mul_nonneg (by omega) (by omega)
  have a2 : P * (y % 256) ≤ P * 255 := Int.mul_le_mul_of_nonneg_left (by omega) (by omega)
  rw [e, Int.add_mul_emod_self_left, Int.emod_eq_of_lt (by omega) (by omega)]
/-- the window of the one writing and the block of the other give the same place -/
theorem k_win {e : Nat} {a x ed : Int} (hx0 : 0 ≤ x) (hx : x < 256) (h0 : 0 ≤ ed) (h8 : ed < 8) :
    (a - (a - ed * p2 (e + 5)) % p2 (e + 8)) + (x * p2 e - (a - (a - ed * p2 (e + 5)) % p2 (e + 8))) % p2 (e + 8) = (a / p2 (e + 8) + kBl x ed - kBl (a / p2 e % 256) ed) * p2 (e + 8) + x * p2 e := by
  have hP := p2_pos e
  have q5 : p2 (e + 5) = p2 e * 32 := p2_add e 5
  have q8 : p2 (e + 8) = p2 e * 256 := p2_add e 8
  rw [q5, q8, ← Int.ediv_ediv_of_nonneg (show 0 ≤ p2 e by omega)]
  generalize p2 e = P at hP ⊢
  have hv := Int.mul_ediv_add_emod a P
  have r0 : 0 ≤ a % P := Int.emod_nonneg _ (by omega)
  have r1 : a % P < P := Int.emod_lt_of_pos _ hP
  generalize a / P = v at hv ⊢
  generalize a % P = r at hv r0 r1
  subst hv
  have e1 : P * v + r - ed * (P * 32) = P * (v - 32 * ed) + r := by
    rw [Int.mul_sub, Int.mul_left_comm ed P 32, Int.mul_comm ed 32]
    omega
  rw [e1, k_mm hP r0 r1]
  have e2 : P * v + r - (P * ((v - 32 * ed) % 256) + r) = P * (v - (v - 32 * ed) % 256) := by
    rw [Int.mul_sub]
    omega
  rw [e2]
  have e3 : x * P - P * (v - (v - 32 * ed) % 256) = P * (x - (v - (v - 32 * ed) % 256)) + 0 := by
    rw [Int.mul_sub P x, Int.mul_comm x P]
    omega
  rw [e3, k_mm hP (by omega) hP]
  have e4 : (v - (v - 32 * ed) % 256) + (x - (v - (v - 32 * ed) % 256)) % 256 = (v / 256 + kBl x ed - kBl (v % 256) ed) * 256 + x := by
    unfold kBl
    split <;> split <;> omega
  have e5 : P * (v - (v - 32 * ed) % 256) + (P * ((x - (v - (v - 32 * ed) % 256)) % 256) + 0) = P * ((v - (v - 32 * ed) % 256) + (x - (v - (v - 32 * ed) % 256)) % 256) := by
    rw [Int.mul_add]
    omega
  rw [e5, e4, Int.mul_add, Int.mul_comm x P, Int.mul_comm P ((v / 256 + kBl x ed - kBl (v % 256) ed) * 256), Int.mul_assoc, Int.mul_comm 256 P]
/-! packing -/
def kL (n : Int) : Nat := if n ≤ 0 then 0 else n.toNat.log2 + 1
theorem kL_lt {n : Int} (h0 : 0 ≤ n) : n < p2 (kL n) := by
  unfold kL
  split
  · have : n = 0 := by omega
    subst this
    exact p2_pos 0
  · have h := @Nat.lt_log2_self n.toNat
    unfold p2
    omega
theorem kL_ge {n : Int} {i : Nat} (h : i < kL n) : p2 i ≤ n := by
  unfold kL at h
  split at h
  · omega
  · rename_i h0
    have h1 : i ≤ n.toNat.log2 := by omega
    have h2 := (Nat.le_log2 (show n.toNat ≠ 0 by omega)).mp h1
    unfold p2
    omega
theorem kL_le {n : Int} {k : Nat} (h : n < p2 k) : kL n ≤ k := by
  refine Nat.le_of_not_lt fun hk => ?_
  have := kL_ge hk
  omega
def kRd (e : Nat) (b : Int) : Int := b / p2 (e + 3) * p2 (e + 3)
def kRu (e : Nat) (t : Int) : Int := (t + p2 (e + 3) - 1) / p2 (e + 3) * p2 (e + 3)
def kUn (e : Nat) (b t : Int) : Int := (t + p2 (e + 3) - 1) / p2 (e + 3) - b / p2 (e + 3)
def kF (b t : Int) : Nat := if 16 ≤ kUn (kL ((t - b) / 128)) b t then kL ((t - b) / 128) + 1 else kL ((t - b) / 128)
def kPk (b t : Int) : Int := if t - b ≤ 63 then t % 64 * 256 + b % 256 else 16384 + (kRu (kF b t) t / p2 (kF b t) % 64 + (kF b t : Int) / 8) * 256 + (kRd (kF b t) b / p2 (kF b t) % 256 + (kF b t : Int) % 8)
def kTo (b t : Int) : Int := if t - b ≤ 63 then t else kRu (kF b t) t
def kFr (b t : Int) : Int := if t - b ≤ 63 then b else kRd (kF b t) b
theorem k_27 {e : Nat} (h : e ≤ 26) : e = 0 ∨ e = 1 ∨ e = 2 ∨ e = 3 ∨ e = 4 ∨ e = 5 ∨ e = 6 ∨ e = 7 ∨ e = 8 ∨ e = 9 ∨ e = 10 ∨ e = 11 ∨ e = 12 ∨ e = 13 ∨ e = 14 ∨ e = 15 ∨ e = 16 ∨ e = 17 ∨ e = 18 ∨ e = 19 ∨ e = 20 ∨ e = 21 ∨ e = 22 ∨ e = 23 ∨ e = 24 ∨ e = 25 ∨ e = 26 := by omega
theorem kF_aux {e : Nat} (he : e ≤ 26) {b t : Int} (h0 : 0 ≤ b) (h1 : 63 < t - b) (h2 : t ≤ 4294967296) (hlt : (t - b) / 128 < p2 e) (hge : e = 0 ∨ p2 (e - 1) ≤ (t - b) / 128) :
    (16 ≤ kUn e b t → e + 1 ≤ 26 ∧ 8 ≤ kUn (e + 1) b t ∧ kUn (e + 1) b t ≤ 15) ∧ (¬ 16 ≤ kUn e b t → 8 ≤ kUn e b t ∧ kUn e b t ≤ 15) := by
  unfold kUn p2 at *
  rcases k_27 he with rfl | rfl | rfl | rfl | rfl | rfl | rfl | rfl | rfl | rfl | rfl | rfl | rfl | rfl | rfl | rfl | rfl | rfl | rfl | rfl | rfl | rfl | rfl | rfl | rfl | rfl | rfl <;> simp only [Nat.reduceAdd, Nat.reduceSub, Nat.reducePow] at * <;> omega
theorem kF_fit {b t : Int} (h0 : 0 ≤ b) (h1 : 63 < t - b) (h2 : t ≤ 4294967296) : kF b t ≤ 26 ∧ 8 ≤ kUn (kF b t) b t ∧ kUn (kF b t) b t ≤ 15 := by
  have hn : 0 ≤ (t - b) / 128 := by omega
  have hlt := kL_lt hn
  have he : kL ((t - b) / 128) ≤ 26 := kL_le (show (t - b) / 128 < 67108864 by omega)
  have hge : kL ((t - b) / 128) = 0 ∨ p2 (kL ((t - b) / 128) - 1) ≤ (t - b) / 128 := by
    rcases Nat.eq_zero_or_pos (kL ((t - b) / 128)) with h | h
    · exact Or.inl h
    · exact Or.inr (kL_ge (by omega))
  obtain ⟨a1, a2⟩ := kF_aux he h0 h1 h2 hlt hge
  unfold kF
  split
  · rename_i h
    exact a1 h
  · rename_i h
    exact ⟨he, a2 h⟩
theorem k_c1 {u w : Int} (h8 : 8 ≤ w - u) (h15 : w - u ≤ 15) : (8 * (u % 32) / 64 + 1 + (if 8 * (w % 8) < 8 * (u % 32) % 64 then 1 else 0)) % 4 * 64 + 8 * (w % 8) = 8 * (w % 32) := by
  have c1 : 8 * (u % 32) / 64 = (u / 8) % 4 := by omega
  have c2 : 8 * (u % 32) % 64 = 8 * (u % 8) := by omega
  have c3 : 8 * (w % 32) = (w / 8) % 4 * 64 + 8 * (w % 8) := by omega
  rw [c1, c2, c3]
  split
  · have c4 : w / 8 = u / 8 + 2 := by omega
    rw [c4]
    omega
  · have c4 : w / 8 = u / 8 + 1 := by omega
    rw [c4]
    omega
theorem k_c2 {b t : Int} (h0 : b ≤ t) (h : t - b ≤ 63) : (b % 256 / 64 + 0 + (if t % 64 < b % 256 % 64 then 1 else 0)) % 4 * 64 + t % 64 = t % 256 := by
  have c1 : b % 256 / 64 = (b / 64) % 4 := by omega
  have c2 : b % 256 % 64 = b % 64 := by omega
  have c3 : t % 256 = (t / 64) % 4 * 64 + t % 64 := by omega
  rw [c1, c2, c3]
  split
  · have c4 : t / 64 = b / 64 + 1 := by omega
    rw [c4]
    omega
  · have c4 : t / 64 = b / 64 := by omega
    rw [c4]
    omega
theorem k_c3 {B T : Int} (h0 : B ≤ T) (h : T - B ≤ 5) : B / 8 + (if T % 8 < (B % 8 + 7) % 8 then 1 else 0) - (if B % 8 < (B % 8 + 7) % 8 then 1 else 0) = T / 8 := by
  split <;> split <;> omega
theorem k_c4 {b t : Int} (h0 : b ≤ t) (h : t - b ≤ 63) : (b / 256 + kBl (t % 256) ((b % 256 / 32 + 7) % 8) - kBl (b / 1 % 256) ((b % 256 / 32 + 7) % 8)) * 256 + t % 256 * 1 = t := by
  have c1 : t % 256 / 32 = (t / 32) % 8 := by omega
  have c2 : b % 256 / 32 = (b / 32) % 8 := by omega
  have c3 : b / 1 % 256 / 32 = (b / 32) % 8 := by omega
  have c4 : b / 256 = (b / 32) / 8 := by omega
  have c5 : t = (t / 32) / 8 * 256 + t % 256 := by omega
  have c6 := k_c3 (B := b / 32) (T := t / 32) (by omega) (by omega)
  unfold kBl
  rw [c1, c2, c3, c4, c6]
  omega
theorem k_c5 {b t : Int} (h0 : b ≤ t) (h : t - b ≤ 63) : (t / 2147483648 - b / 2147483648) % 4 ≤ 1 := by
  omega
theorem k_rt1 {e : Nat} (he : e ≤ 26) {z u w : Int} (hz : z % 32768 = 16384 + (8 * w % 64 + (e : Int) / 8) * 256 + (8 * u % 256 + (e : Int) % 8)) (h8 : 8 ≤ w - u) (h15 : w - u ≤ 15) : kIE z = 1 ∧ kE z = e ∧ kB z = 8 * (u % 32) ∧ kT z = 8 * (w % 32) := by
  have h1 : kIE z = 1 := by unfold kIE; omega
  have a1 : z / 256 % 8 = (e : Int) / 8 := by omega
  have a2 : z % 8 = (e : Int) % 8 := by omega
  have a3 : z % 256 = 8 * u % 256 + (e : Int) % 8 := by omega
  have a4 : z / 256 % 64 = 8 * w % 64 + (e : Int) / 8 := by omega
  have hn : ¬ kIE z = 0 := by omega
  have b1 : kE z = e := by
    unfold kE
    rw [if_neg hn, a1, a2]
    split <;> omega
  have b2 : kB z = 8 * (u % 32) := by
    unfold kB
    rw [if_neg hn, a3]
    omega
  have b3 : kT6 z = 8 * (w % 8) := by
    unfold kT6
    rw [if_neg hn, a4]
    have c1 : 8 * w % 64 = 8 * (w % 8) := by omega
    rw [c1]
    have c2 : 0 ≤ (e : Int) / 8 ∧ (e : Int) / 8 < 8 := by omega
    generalize (e : Int) / 8 = f at c2
    clear hz a1 a2 a3 a4 h1 hn b1 b2 c1
    omega
  refine ⟨h1, b1, b2, ?_⟩
  unfold kT
  rw [h1, b2, b3]
  exact k_c1 h8 h15
theorem k_rt2 {e : Nat} {z b u w x : Int} (hu : u = b / p2 (e + 3)) (hE : kE z = e) (hB : kB z = 8 * (u % 32)) (hx : x = 8 * (w % 32)) (h0 : 0 ≤ w - u) (h15 : w - u ≤ 15) : kPl z b x = w * p2 (e + 3) := by
  have hP := p2_pos e
  have q3 : p2 (e + 3) = p2 e * 8 := p2_add e 3
  have q8 : p2 (e + 8) = p2 e * 256 := p2_add e 8
  have hv : u = b / p2 e / 8 := by rw [hu, q3, Int.ediv_ediv_of_nonneg (by omega)]
  have hd : kEd z = (8 * (u % 32) / 32 + 7) % 8 := by unfold kEd; rw [hB]
  unfold kPl
  rw [hE, q8, q3, ← Int.ediv_ediv_of_nonneg (show 0 ≤ p2 e by omega), hx, hd]
  generalize p2 e = P at *
  generalize b / P = v at *
  have e4 : (v / 256 + kBl (8 * (w % 32)) ((8 * (u % 32) / 32 + 7) % 8) - kBl (v % 256) ((8 * (u % 32) / 32 + 7) % 8)) * 256 + 8 * (w % 32) = w * 8 := by
    unfold kBl
    subst hv
    split <;> split <;> omega
  generalize v / 256 + kBl (8 * (w % 32)) ((8 * (u % 32) / 32 + 7) % 8) - kBl (v % 256) ((8 * (u % 32) / 32 + 7) % 8) = k at *
  have e5 : k * (P * 256) + 8 * (w % 32) * P = (k * 256 + 8 * (w % 32)) * P := by
    rw [Int.add_mul, Int.mul_assoc k 256 P, Int.mul_comm 256 P]
  rw [e5, e4, Int.mul_assoc, Int.mul_comm 8 P]
theorem k_rt3 {e : Nat} (he : e ≤ 26) {b t u w : Int} (hb : 0 ≤ b) (hb2 : b < 4294967296) (ht : t ≤ 4294967296) (hbt : b ≤ t) (hu : u = b / p2 (e + 3)) (hw : w = (t + p2 (e + 3) - 1) / p2 (e + 3)) (h15 : w - u ≤ 15) :
    (0 ≤ u * p2 (e + 3) ∧ u * p2 (e + 3) < 4294967296) ∧ (0 ≤ w * p2 (e + 3) ∧ w * p2 (e + 3) ≤ 4294967296) ∧ (e < 25 → (w * p2 (e + 3) / 2147483648 - u * p2 (e + 3) / 2147483648) % 4 ≤ 1) := by
  unfold p2 at *
  rcases k_27 he with rfl | rfl | rfl | rfl | rfl | rfl | rfl | rfl | rfl | rfl | rfl | rfl | rfl | rfl | rfl | rfl | rfl | rfl | rfl | rfl | rfl | rfl | rfl | rfl | rfl | rfl | rfl <;> simp only [Nat.reduceAdd, Nat.reduceSub, Nat.reducePow] at * <;> omega
/-- what was packed is read back: BASE and TOP of the packed bounds, seen from their own start -/
theorem k_rt {b t z : Int} (h0 : 0 ≤ b) (hb : b < 4294967296) (hbt : b ≤ t) (ht : t ≤ 4294967296) (hz : z % 32768 = kPk b t) : kBase z b = kFr b t ∧ kTop z b = kTo b t := by
  by_cases hs : t - b ≤ 63
  · unfold kPk at hz
    rw [if_pos hs] at hz
    have h1 : kIE z = 0 := by unfold kIE; omega
    have b1 : kE z = 0 := by unfold kE; rw [if_pos h1]
    have b2 : kB z = b % 256 := by
      unfold kB
      rw [if_pos h1]
      omega
    have b3 : kT6 z = t % 64 := by
      unfold kT6
      rw [if_pos h1]
      omega
    have b4 : kT z = t % 256 := by
      unfold kT
      rw [h1, b2, b3]
      exact k_c2 hbt hs
    have b5 : kEd z = (b % 256 / 32 + 7) % 8 := by unfold kEd; rw [b2]
    have q0 : p2 0 = 1 := rfl
    have q8 : p2 (0 + 8) = 256 := rfl
    have c1 : kPl z b (b % 256) = b := by
      unfold kPl
      rw [b1, b5, q8, q0]
      exact k_c4 (Int.le_refl b) (by omega)
    have c2 : kPl z b (t % 256) = t := by
      unfold kPl
      rw [b1, b5, q8, q0]
      exact k_c4 hbt hs
    have d1 : kBase z b = b := by
      unfold kBase
      rw [b2, c1]
      omega
    have d2 : kTop0 z b = t := by
      unfold kTop0
      rw [b4, c2]
      omega
    refine ⟨by rw [d1]; unfold kFr; rw [if_pos hs], ?_⟩
    unfold kTop kTo
    have hn : ¬ (kE z < 25 ∧ 1 < (t / 2147483648 - b / 2147483648) % 4) := by
      have := k_c5 hbt hs
      rintro ⟨x1, x2⟩
      omega
    rw [d1, d2, if_pos hs, if_neg hn]
  · obtain ⟨he, h8, h15⟩ := kF_fit h0 (by omega) ht
    unfold kPk at hz
    rw [if_neg hs] at hz
    unfold kTo kFr
    rw [if_neg hs, if_neg hs]
    generalize kF b t = e at *
    unfold kUn at h8 h15
    obtain ⟨u, hu⟩ : ∃ u, u = b / p2 (e + 3) := ⟨_, rfl⟩
    obtain ⟨w, hw⟩ : ∃ w, w = (t + p2 (e + 3) - 1) / p2 (e + 3) := ⟨_, rfl⟩
    have q3 : p2 (e + 3) = p2 e * 8 := p2_add e 3
    have hP := p2_pos e
    have f1 : kRu e t = w * p2 (e + 3) := by unfold kRu; rw [hw]
    have f2 : kRd e b = u * p2 (e + 3) := by unfold kRd; rw [hu]
    have f3 : kRu e t / p2 e = 8 * w := by
      rw [f1, q3, Int.mul_comm (p2 e) 8, ← Int.mul_assoc, Int.mul_ediv_cancel _ (by omega)]
      omega
    have f4 : kRd e b / p2 e = 8 * u := by
      rw [f2, q3, Int.mul_comm (p2 e) 8, ← Int.mul_assoc, Int.mul_ediv_cancel _ (by omega)]
      omega
    rw [← hu, ← hw] at h8 h15
    rw [f3, f4] at hz
    obtain ⟨g1, g2, g3, g4⟩ := k_rt1 he hz h8 h15
    obtain ⟨m1, m2, m3⟩ := k_rt3 he h0 hb ht hbt hu hw h15
    have p1 := k_rt2 hu g2 g3 (x := kB z) (w := u) g3 (by omega) (by omega)
    have p3 := k_rt2 hu g2 g3 (x := kT z) (w := w) g4 (by omega) h15
    have d1 : kBase z b = u * p2 (e + 3) := by
      unfold kBase
      rw [p1]
      omega
    have d2 : kTop0 z b = w * p2 (e + 3) := by
      unfold kTop0
      rw [p3]
      omega
    refine ⟨by rw [d1, f2], ?_⟩
    unfold kTop
    rw [d1, d2, g2, f1, if_neg]
    rintro ⟨x1, x2⟩
    have := m3 x1
    omega
theorem kTo_le {b t : Int} (h0 : 0 ≤ b) (hbt : b ≤ t) (ht : t ≤ 4294967296) : kTo b t ≤ 4294967296 := by
  unfold kTo
  split
  · exact ht
  · obtain ⟨he, h8, h15⟩ := kF_fit h0 (by omega) ht
    by_cases hb : b < 4294967296
    · exact (k_rt3 he h0 hb ht hbt rfl rfl h15).2.1.2
    · omega
end
