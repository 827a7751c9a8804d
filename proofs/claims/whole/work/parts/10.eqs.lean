/-! The pure functions of the class and of the reference, as javac wrote them, in the numbers of 03.maths. -/
theorem zx_tb (n : Nat) : (lN n).toBitVec = BitVec.ofNat 64 n := rfl
theorem zx_nat {r : Nat} (hr : r < 4294967296) : (4294967296 + r) ^^^ 4294967296 = r := by
  apply Nat.eq_of_testBit_eq
  intro i
  have e : (4294967296 : Nat) = 2 ^ 32 := rfl
  rw [e] at hr ⊢
  rw [Nat.testBit_xor, Nat.testBit_two_pow]
  rcases Nat.lt_trichotomy i 32 with h | h | h
  · rw [Nat.testBit_two_pow_add_gt h]
    simp [show ¬ 32 = i by omega]
  · subst h
    rw [Nat.testBit_two_pow_add_eq]
    simp
  · have a1 : 2 ^ (32 + 1) ≤ 2 ^ i := Nat.pow_le_pow_right (by decide) h
    have a2 : (2 : Nat) ^ (32 + 1) = 8589934592 := rfl
    have a3 : (2 : Nat) ^ 32 = 4294967296 := rfl
    rw [Nat.testBit_lt_two_pow (show 2 ^ 32 + r < 2 ^ i by omega), Nat.testBit_lt_two_pow (show r < 2 ^ i by omega)]
    simp [show ¬ 32 = i by omega]
theorem zx_lo {r : Nat} (hr : r < 4294967296) : zL ((r : Nat) + 4294967296 : Int) ^^^ (4294967296 : Int64) = zL (r : Nat) := by
  apply Int64.toBitVec_inj.mp
  rw [Int64.toBitVec_xor]
  show BitVec.ofInt 64 ((r : Nat) + 4294967296 : Int) ^^^ 4294967296#64 = BitVec.ofInt 64 (r : Nat)
  have e1 : ((r : Nat) + 4294967296 : Int) = ((4294967296 + r : Nat) : Int) := by omega
  rw [e1, BitVec.ofInt_natCast, BitVec.ofInt_natCast]
  apply BitVec.eq_of_toNat_eq
  rw [BitVec.toNat_xor, BitVec.toNat_ofNat, BitVec.toNat_ofNat, BitVec.toNat_ofNat, Nat.mod_eq_of_lt (by omega), Nat.mod_eq_of_lt (show 4294967296 < 2 ^ 64 by decide), zx_nat hr, Nat.mod_eq_of_lt (by omega)]
theorem zL_x32 {t : Int} (h0 : 0 ≤ t) (h1 : t < 8589934592) : zL t ^^^ (4294967296 : Int64) = zL ((t + 4294967296) % 8589934592) := by
  obtain ⟨n, rfl⟩ := Int.eq_ofNat_of_zero_le h0
  by_cases h : n < 4294967296
  · have e := zx_lo h
    have e2 : ((n : Int) + 4294967296) % 8589934592 = (n : Int) + 4294967296 := by omega
    rw [e2, ← e]
    apply Int64.toBitVec_inj.mp
    rw [Int64.toBitVec_xor, Int64.toBitVec_xor, BitVec.xor_assoc, BitVec.xor_self, BitVec.xor_zero]
  · obtain ⟨r, rfl⟩ : ∃ r : Nat, n = r + 4294967296 := ⟨n - 4294967296, by omega⟩
    have e := zx_lo (r := r) (by omega)
    have e2 : (((r + 4294967296 : Nat) : Int) + 4294967296) % 8589934592 = (r : Int) := by omega
    rw [e2, ← e]
    rfl
def kA (a : Int32) : Int := a.toInt % 4294967296
theorem kA_in (a : Int32) : 0 ≤ kA a ∧ kA a < 4294967296 := by unfold kA; omega
theorem zs_8 (x : Int32) : x >>> ((8 : Int32) &&& 31) = zI (x.toInt / 256) := by
  have h1 := zI_lo x
  have h2 := zI_hi x
  have h := zI_shr (z := x.toInt) h1 h2 8 (by decide) (y := 8) (by decide) (P := 256) rfl (by omega) (by omega)
  rwa [zI_of] at h
theorem zs_14 (x : Int32) : x >>> ((14 : Int32) &&& 31) = zI (x.toInt / 16384) := by
  have h1 := zI_lo x
  have h2 := zI_hi x
  have h := zI_shr (z := x.toInt) h1 h2 14 (by decide) (y := 14) (by decide) (P := 16384) rfl (by omega) (by omega)
  rwa [zI_of] at h
theorem zs_16 (x : Int32) : x >>> ((16 : Int32) &&& 31) = zI (x.toInt / 65536) := by
  have h1 := zI_lo x
  have h2 := zI_hi x
  have h := zI_shr (z := x.toInt) h1 h2 16 (by decide) (y := 16) (by decide) (P := 65536) rfl (by omega) (by omega)
  rwa [zI_of] at h
theorem zs_5 {v : Int} (h0 : 0 ≤ v) (h1 : v < 65536) : zI v >>> ((5 : Int32) &&& 31) = zI (v / 32) := zI_shr (by omega) (by omega) 5 (by decide) (y := 5) (by decide) (P := 32) rfl (by omega) (by omega)
theorem zs_6 {v : Int} (h0 : 0 ≤ v) (h1 : v < 65536) : zI v >>> ((6 : Int32) &&& 31) = zI (v / 64) := zI_shr (by omega) (by omega) 6 (by decide) (y := 6) (by decide) (P := 64) rfl (by omega) (by omega)
theorem zs_3 {v : Int} (h0 : 0 ≤ v) (h1 : v < 65536) : zI v >>> ((3 : Int32) &&& 31) = zI (v / 8) := zI_shr (by omega) (by omega) 3 (by decide) (y := 3) (by decide) (P := 8) rfl (by omega) (by omega)
theorem zm_1 (z : Int) : zI z &&& (1 : Int32) = zI (z % 2) := zI_mask z 1 (by decide) rfl (P := 2) rfl
theorem zm_3 (z : Int) : zI z &&& (3 : Int32) = zI (z % 4) := zI_mask z 2 (by decide) rfl (P := 4) rfl
theorem zm_7 (z : Int) : zI z &&& (7 : Int32) = zI (z % 8) := zI_mask z 3 (by decide) rfl (P := 8) rfl
theorem zm_15 (z : Int) : zI z &&& (15 : Int32) = zI (z % 16) := zI_mask z 4 (by decide) rfl (P := 16) rfl
theorem zm_63 (z : Int) : zI z &&& (63 : Int32) = zI (z % 64) := zI_mask z 6 (by decide) rfl (P := 64) rfl
theorem zm_255 (z : Int) : zI z &&& (255 : Int32) = zI (z % 256) := zI_mask z 8 (by decide) rfl (P := 256) rfl
theorem zm_32767 (z : Int) : zI z &&& (32767 : Int32) = zI (z % 32768) := zI_mask z 15 (by decide) rfl (P := 32768) rfl
theorem zh_3 (z : Int) : zI z <<< ((3 : Int32) &&& 31) = zI (z * 8) := zI_shl z 3 (by decide) (by decide) (P := 8) rfl
theorem zh_6 (z : Int) : zI z <<< ((6 : Int32) &&& 31) = zI (z * 64) := zI_shl z 6 (by decide) (by decide) (P := 64) rfl
theorem zh_8 (z : Int) : zI z <<< ((8 : Int32) &&& 31) = zI (z * 256) := zI_shl z 8 (by decide) (by decide) (P := 256) rfl
theorem z_14 (x : Int32) : (x &&& (16384 : Int32)) = 0 ↔ kIE x.toInt = 0 := by
  have e : x &&& (16384 : Int32) = zI (x.toInt / 16384 % 2 * 16384) := by
    have h := zI_14 x.toInt
    rwa [zI_of] at h
  have e0 : (0 : Int32) = zI 0 := by decide
  rw [e, e0, zI_eq (by omega) (by omega) (by omega) (by omega)]
  unfold kIE
  omega
theorem z_14v (x : Int32) : (x >>> ((14 : Int32) &&& 31)) &&& (1 : Int32) = zI (kIE x.toInt) := by
  rw [zs_14, zm_1]
  rfl
theorem z_14' (x : Int32) : ((x >>> ((14 : Int32) &&& 31)) &&& (1 : Int32)) = 0 ↔ kIE x.toInt = 0 := by
  have h := kIE_01 x.toInt
  have e0 : (0 : Int32) = zI 0 := by decide
  rw [z_14v, e0, zI_eq (by omega) (by omega) (by omega) (by omega)]
theorem z_7 (x : Int32) : x &&& (7 : Int32) = zI (x.toInt % 8) := by
  have h := zm_7 x.toInt
  rwa [zI_of] at h
theorem z_255 (x : Int32) : x &&& (255 : Int32) = zI (x.toInt % 256) := by
  have h := zm_255 x.toInt
  rwa [zI_of] at h
theorem z_248 (x : Int32) : x &&& (248 : Int32) = zI (x.toInt % 256 / 8 * 8) := by
  have h := zI_248 x.toInt
  rwa [zI_of] at h
theorem z_e (x : Int32) : (((x >>> ((8 : Int32) &&& 31)) &&& (7 : Int32)) <<< ((3 : Int32) &&& 31)) + (x &&& (7 : Int32)) = zI (x.toInt / 256 % 8 * 8 + x.toInt % 8) := by
  rw [zs_8, zm_7, zh_3, z_7, zI_add]
theorem z_e' (x : Int32) : ((8 : Int32) * ((x >>> ((8 : Int32) &&& 31)) &&& (7 : Int32))) + (x &&& (7 : Int32)) = zI (x.toInt / 256 % 8 * 8 + x.toInt % 8) := by
  have e8 : (8 : Int32) = zI 8 := by decide
  rw [zs_8, zm_7, z_7]
  rw [e8, zI_mul, zI_add, Int.mul_comm 8]
theorem z_26 {v : Int} (h0 : 0 ≤ v) (h1 : v < 64) : (26 : Int32) ≤ zI v ↔ ¬ v < 26 := by
  have e : (26 : Int32) = zI 26 := by decide
  rw [e, zI_le (by omega) (by omega) (by omega) (by omega)]
  omega
theorem eC_exp (x : Int32) : fC_exponentOf x = zI (kE x.toInt) := by
  unfold fC_exponentOf kE
  rw [z_e x]
  have b0 : 0 ≤ x.toInt / 256 % 8 * 8 + x.toInt % 8 := by omega
  have b1 : x.toInt / 256 % 8 * 8 + x.toInt % 8 < 64 := by omega
  by_cases h : kIE x.toInt = 0
  · rw [if_pos ((z_14 x).mpr h), if_pos h]
    rfl
  · rw [if_neg (mt (z_14 x).mp h), if_neg h]
    by_cases h2 : x.toInt / 256 % 8 * 8 + x.toInt % 8 < 26
    · rw [if_neg (fun h3 => (z_26 b0 b1).mp h3 h2), if_pos h2, Int.toNat_of_nonneg b0]
    · rw [if_pos ((z_26 b0 b1).mpr h2), if_neg h2]
      rfl
theorem eM_scale (x : Int32) : fM_scale x = zI (kE x.toInt) := by
  unfold fM_scale kE
  rw [z_e' x]
  have b0 : 0 ≤ x.toInt / 256 % 8 * 8 + x.toInt % 8 := by omega
  have b1 : x.toInt / 256 % 8 * 8 + x.toInt % 8 < 64 := by omega
  by_cases h : kIE x.toInt = 0
  · rw [if_pos ((z_14' x).mpr h), if_pos h]
    rfl
  · rw [if_neg (mt (z_14' x).mp h), if_neg h]
    by_cases h2 : x.toInt / 256 % 8 * 8 + x.toInt % 8 < 26
    · rw [if_neg (fun h3 => (z_26 b0 b1).mp h3 h2), if_pos h2, Int.toNat_of_nonneg b0]
    · rw [if_pos ((z_26 b0 b1).mpr h2), if_neg h2]
      rfl
theorem eC_base (x : Int32) : fC_baseMantissa x = zI (kB x.toInt) := by
  unfold fC_baseMantissa kB
  by_cases h : kIE x.toInt = 0
  · rw [if_pos ((z_14 x).mpr h), if_pos h, z_255]
  · rw [if_neg (mt (z_14 x).mp h), if_neg h, z_255, zI_m8]
theorem eM_bottom (x : Int32) : fM_bottom x = zI (kB x.toInt) := by
  unfold fM_bottom kB
  by_cases h : kIE x.toInt = 0
  · rw [if_pos ((z_14' x).mpr h), if_pos h, z_255]
  · rw [if_neg (mt (z_14' x).mp h), if_neg h, z_248]
theorem z_T {h t : Int} (t0 : 0 ≤ t) (t1 : t < 64) : ((zI h &&& (3 : Int32)) <<< ((6 : Int32) &&& 31)) ||| zI t = zI (h % 4 * 64 + t) := by
  rw [zm_3, zh_6, zI_or 6 (by decide) _ _ (P := 64) rfl (by omega) t0 t1]
theorem z_1 : (1 : Int32) = zI 1 := by decide
theorem z_0 : (0 : Int32) = zI 0 := by decide
theorem eC_top (x : Int32) : fC_topMantissa x = zI (kT x.toInt) := by
  have hb := kB_in x.toInt
  have ht := kT6_in x.toInt
  unfold fC_topMantissa kT
  rw [eC_base, zm_63, zs_8, zm_63, zs_6 hb.1 (by omega), zI_m8]
  by_cases h : kIE x.toInt = 0
  · have e6 : x.toInt / 256 % 64 = kT6 x.toInt := by unfold kT6; rw [if_pos h]
    rw [if_pos ((z_14 x).mpr h), e6, h]
    by_cases h2 : kT6 x.toInt < kB x.toInt % 64
    · rw [if_neg (fun h3 => absurd ((zI_le (by omega) (by omega) (by omega) (by omega)).mp h3) (by omega)), if_pos h2, z_1, zI_add, z_T ht.1 ht.2]
      congr 1
      omega
    · rw [if_pos ((zI_le (by omega) (by omega) (by omega) (by omega)).mpr (by omega)), if_neg h2, z_T ht.1 ht.2]
      congr 1
      omega
  · have h1 : kIE x.toInt = 1 := by
      have := kIE_01 x.toInt
      omega
    have e6 : x.toInt / 256 % 64 / 8 * 8 = kT6 x.toInt := by unfold kT6; rw [if_neg h]
    rw [if_neg (mt (z_14 x).mp h), e6, h1]
    by_cases h2 : kT6 x.toInt < kB x.toInt % 64
    · rw [if_neg (fun h3 => absurd ((zI_le (by omega) (by omega) (by omega) (by omega)).mp h3) (by omega)), if_pos h2, z_1, zI_add, zI_add, z_T ht.1 ht.2]
    · rw [if_pos ((zI_le (by omega) (by omega) (by omega) (by omega)).mpr (by omega)), if_neg h2, z_1, zI_add, z_T ht.1 ht.2]
      congr 1
      omega
theorem eM_roof (x : Int32) : fM_roof x = zI (kT x.toInt) := by
  have hb := kB_in x.toInt
  have ht := kT6_in x.toInt
  unfold fM_roof kT
  rw [eM_bottom, zm_63, z_14v, zs_8, zm_63, zI_56, zs_6 hb.1 (by omega)]
  by_cases h : kIE x.toInt = 0
  · have e6 : x.toInt / 256 % 64 = kT6 x.toInt := by unfold kT6; rw [if_pos h]
    rw [h, e6, ← z_0, if_pos rfl]
    by_cases h2 : kT6 x.toInt < kB x.toInt % 64
    · rw [if_neg (fun h3 => absurd ((zI_le (by omega) (by omega) (by omega) (by omega)).mp h3) (by omega)), if_pos h2, z_1, z_0, zI_add, zI_add, z_T ht.1 ht.2]
      congr 1
      omega
    · rw [if_pos ((zI_le (by omega) (by omega) (by omega) (by omega)).mpr (by omega)), if_neg h2, z_0, zI_add, zI_add, z_T ht.1 ht.2]
  · have h1 : kIE x.toInt = 1 := by
      have := kIE_01 x.toInt
      omega
    have e6 : x.toInt / 256 % 64 / 8 * 8 = kT6 x.toInt := by unfold kT6; rw [if_neg h]
    rw [h1, e6, ← z_1, if_neg (by decide)]
    by_cases h2 : kT6 x.toInt < kB x.toInt % 64
    · rw [if_neg (fun h3 => absurd ((zI_le (by omega) (by omega) (by omega) (by omega)).mp h3) (by omega)), if_pos h2, z_1, zI_add, zI_add, z_T ht.1 ht.2]
    · rw [if_pos ((zI_le (by omega) (by omega) (by omega) (by omega)).mpr (by omega)), if_neg h2, z_1, z_0, zI_add, zI_add, z_T ht.1 ht.2]
      congr 1
      omega
theorem eC_uns (a : Int32) : fC_unsigned a = zL (kA a) := by
  unfold fC_unsigned kA
  rw [zI_x, zL_mask a.toInt 32 (by decide) rfl (P := 4294967296) rfl]
theorem eM_low (a : Int32) : fM_low a = zL (kA a) := eC_uns a
theorem eC_below {v d : Int} (v0 : 0 ≤ v) (v1 : v < 256) (d0 : 0 ≤ d) (d1 : d < 8) : fC_below (zI v) (zI d) = zI (kBl v d) := by
  unfold fC_below kBl
  rw [zs_5 v0 (by omega)]
  by_cases h : v / 32 < d
  · rw [if_neg (fun h3 => absurd ((zI_le (by omega) (by omega) (by omega) (by omega)).mp h3) (by omega)), if_pos h]
    rfl
  · rw [if_pos ((zI_le (by omega) (by omega) (by omega) (by omega)).mpr (by omega)), if_neg h]
    rfl
theorem kBl_01 (v d : Int) : 0 ≤ kBl v d ∧ kBl v d ≤ 1 := by
  unfold kBl
  split <;> omega
theorem eC_placed (x a : Int32) {v : Int} (v0 : 0 ≤ v) (v1 : v < 256) : fC_placed x a (zI v) = zL (kPl x.toInt (kA a) v) := by
  have hb := kB_in x.toInt
  have he := kE_le x.toInt
  have ha := kA_in a
  have hd := kEd_in x.toInt
  have g1 := kBl_01 v (kEd x.toInt)
  have g2 := kBl_01 (kA a / p2 (kE x.toInt) % 256) (kEd x.toInt)
  unfold fC_placed kPl
  rw [eC_exp, eC_base, eC_uns]
  have e8 : zI (kE x.toInt) + (8 : Int32) = zI ((kE x.toInt + 8 : Nat) : Int) := by
    show _ + zI 8 = _
    rw [zI_add]
    congr 1
  have ed : ((zI (kB x.toInt) >>> ((5 : Int32) &&& 31)) - (1 : Int32)) &&& (7 : Int32) = zI (kEd x.toInt) := by
    rw [zs_5 hb.1 (by omega), z_1, zI_sub, zm_7]
    congr 1
    unfold kEd
    omega
  rw [e8, ed, zL_shr ha.1 (by omega) (kE x.toInt + 8) (by omega) rfl rfl, zL_shr ha.1 (by omega) (kE x.toInt) (by omega) rfl rfl, zL_i, zm_255, eC_below v0 v1 hd.1 hd.2, eC_below (by omega) (by omega) hd.1 hd.2, zI_l (z := kBl v (kEd x.toInt)) (by omega) (by omega), zI_l (z := kBl (kA a / p2 (kE x.toInt) % 256) (kEd x.toInt)) (by omega) (by omega), zI_l (z := v) (by omega) (by omega), zL_add, zL_sub, zL_shl _ (kE x.toInt + 8) (by omega) rfl rfl, zL_shl _ (kE x.toInt) (by omega) rfl rfl, zL_add]
theorem eC_baseOf (x a : Int32) : fC_baseOf x a = zL (kBase x.toInt (kA a)) := by
  have hb := kB_in x.toInt
  unfold fC_baseOf kBase
  rw [eC_base, eC_placed x a hb.1 hb.2, zL_mask _ 32 (by decide) rfl (P := 4294967296) rfl]
theorem eC_topOf (x a : Int32) : fC_topOf x a = zL (kTop x.toInt (kA a)) := by
  have hb := kB_in x.toInt
  have ht := kT_in x.toInt
  have he := kE_le x.toInt
  have i0 := kTop0_in x.toInt (kA a)
  have i1 := kBase_in x.toInt (kA a)
  have e0 : fC_placed x a (fC_topMantissa x) &&& (8589934591 : Int64) = zL (kTop0 x.toInt (kA a)) := by
    rw [eC_top, eC_placed x a ht.1 ht.2, zL_mask _ 33 (by decide) rfl (P := 8589934592) rfl]
    rfl
  have e1 : fC_placed x a (fC_baseMantissa x) &&& (4294967295 : Int64) = zL (kBase x.toInt (kA a)) := eC_baseOf x a
  have e25 : (25 : Int32) = zI 25 := by decide
  have e3 : ∀ z : Int, zL z &&& (3 : Int64) = zL (z % 4) := fun z => zL_mask z 2 (by decide) rfl (P := 4) rfl
  have e11 : (1 : Int64) = zL 1 := by decide
  unfold fC_topOf kTop
  rw [e0, e1, eC_exp, e25, zL_shr i0.1 (by omega) 31 (by decide) (y := 31) (by decide) (P := 2147483648) rfl, zL_shr i1.1 (by omega) 31 (by decide) (y := 31) (by decide) (P := 2147483648) rfl, zL_sub, e3, e11, zL_x32 i0.1 i0.2]
  by_cases h : kE x.toInt < 25
  · rw [if_neg (fun h3 => absurd ((zI_le (by omega) (by omega) (by omega) (by omega)).mp h3) (by omega))]
    by_cases h2 : 1 < (kTop0 x.toInt (kA a) / 2147483648 - kBase x.toInt (kA a) / 2147483648) % 4
    · rw [if_neg (fun h3 => absurd ((zL_le (by omega) (by omega) (by omega) (by omega)).mp h3) (by omega)), if_pos ⟨h, h2⟩]
    · rw [if_pos ((zL_le (by omega) (by omega) (by omega) (by omega)).mpr (by omega)), if_neg (fun h3 => h2 h3.2)]
  · rw [if_pos ((zI_le (by omega) (by omega) (by omega) (by omega)).mpr (by omega)), if_neg (fun h3 => h h3.1)]
