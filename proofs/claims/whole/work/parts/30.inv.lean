/-! What every state keeps, and the metas that are written. -/
def zInv (tg ad mt : Nat → Int32) : Prop := ∀ i, i < 32 → (tg i = 0 ∨ tg i = 1) ∧ (tg i = 1 → kTop (mt i).toInt (kA (ad i)) ≤ 4294967296)
theorem zS_at (d x : Int32) (f : Nat → Int32) (i : Nat) : zS d x f i = if d = 0 then f i else if i = d.toNatClampNeg then x else f i := by
  unfold zS
  split
  · rfl
  · rfl
theorem zInv_set {tg ad mt : Nat → Int32} {d y a z : Int32} (h : zInv tg ad mt) (hy : y = 0 ∨ y = 1) (ht : y = 1 → kTop z.toInt (kA a) ≤ 4294967296) : zInv (zS d y tg) (zS d a ad) (zS d z mt) := by
  intro i hi
  rw [zS_at, zS_at, zS_at]
  by_cases h0 : d = 0
  · rw [if_pos h0, if_pos h0, if_pos h0]
    exact h i hi
  · rw [if_neg h0, if_neg h0, if_neg h0]
    by_cases h1 : i = d.toNatClampNeg
    · rw [if_pos h1, if_pos h1, if_pos h1]
      exact ⟨hy, ht⟩
    · rw [if_neg h1, if_neg h1, if_neg h1]
      exact h i hi
theorem zInv_at {tg ad mt : Nat → Int32} (h : zInv tg ad mt) {r : Int32} (hr : vp_in r 32) : (tg r.toNatClampNeg = 0 ∨ tg r.toNatClampNeg = 1) ∧ (tg r.toNatClampNeg = 1 → kTop (mt r.toNatClampNeg).toInt (kA (ad r.toNatClampNeg)) ≤ 4294967296) := by
  refine h _ ?_
  rw [vp_in_iff] at hr
  rw [← Int32.toNat_toInt]
  omega
theorem z_15 (x : Int32) : x &&& (32767 : Int32) = zI (x.toInt % 32768) := by
  have h := zm_32767 x.toInt
  rwa [zI_of] at h
theorem z_low {x y : Int32} (h : x &&& (32767 : Int32) = y &&& (32767 : Int32)) : x.toInt % 32768 = y.toInt % 32768 := by
  rw [z_15, z_15, zI_eq (by omega) (by omega) (by omega) (by omega)] at h
  exact h
theorem z_lowT {x y : Int32} (h : x &&& (32767 : Int32) = y &&& (32767 : Int32)) (a : Int) : kTop x.toInt a = kTop y.toInt a := (k_low2 (z_low h) a).2
theorem g_983 : ∀ i, i < 32 → ((-983041 : Int32).toBitVec).getLsbD i = !(decide (16 ≤ i) && decide (i < 20)) := by decide +kernel
theorem g_15 : ∀ i, i < 32 → ((32767 : Int32).toBitVec).getLsbD i = decide (i < 15) := by decide +kernel
theorem g_F : ∀ i, i < 32 → ((1048575 : Int32).toBitVec).getLsbD i = decide (i < 20) := by decide +kernel
theorem g_m1 : ∀ i, i < 32 → ((-1 : Int32).toBitVec).getLsbD i = true := by decide +kernel
theorem g_20 : ∀ i, i < 32 → ((-1048577 : Int32).toBitVec).getLsbD i = !decide (i = 20) := by decide +kernel
theorem g_m2 : ∀ i, i < 32 → ((-2 : Int32).toBitVec).getLsbD i = !decide (i = 0) := by decide +kernel
theorem g_p15 : ∀ i, i < 32 → ((15 : Int32).toBitVec).getLsbD i = decide (i < 4) := by decide +kernel
theorem s_16 : (((16 : Int32) &&& 31).toBitVec.smod 32).toNat = 16 := by decide
theorem s_20 : (((20 : Int32) &&& 31).toBitVec.smod 32).toNat = 20 := by decide
theorem v_20 (x : Int32) : (fC_permsOf x).toBitVec = x.toBitVec >>> 20 := by
  have hs : (((20 : Int32).toUInt32 &&& Int32.toUInt32 31).toBitVec % 32).toNat = 20 := by decide
  show (x.toUInt32 >>> ((20 : Int32).toUInt32 &&& Int32.toUInt32 31)).toInt32.toBitVec = _
  rw [← hs]
  exact UInt32.toBitVec_shiftRight _ _
theorem w_type (z t : Int32) : fC_withType z t &&& (32767 : Int32) = z &&& (32767 : Int32) := by
  apply Int32.toBitVec_inj.mp
  show ((z.toBitVec &&& (-983041 : Int32).toBitVec) ||| (t.toBitVec <<< (((16 : Int32) &&& 31).toBitVec.smod 32).toNat)) &&& (32767 : Int32).toBitVec = z.toBitVec &&& (32767 : Int32).toBitVec
  rw [s_16]
  apply BitVec.eq_of_getLsbD_eq
  intro i hi
  rw [BitVec.getLsbD_and, BitVec.getLsbD_or, BitVec.getLsbD_and, BitVec.getLsbD_shiftLeft, BitVec.getLsbD_and, g_983 i hi, g_15 i hi]
  by_cases h : i < 15
  · simp [h, show i < 16 by omega, show ¬ 16 ≤ i by omega]
  · simp [h]
theorem w_20 (z : Int32) : (z &&& (-1048577 : Int32)) &&& (32767 : Int32) = z &&& (32767 : Int32) := by
  apply Int32.toBitVec_inj.mp
  show (z.toBitVec &&& (-1048577 : Int32).toBitVec) &&& (32767 : Int32).toBitVec = z.toBitVec &&& (32767 : Int32).toBitVec
  apply BitVec.eq_of_getLsbD_eq
  intro i hi
  rw [BitVec.getLsbD_and, BitVec.getLsbD_and, BitVec.getLsbD_and, g_20 i hi, g_15 i hi]
  by_cases h : i < 15
  · simp [h, show ¬ i = 20 by omega]
  · simp [h]
theorem w_keep (z y : Int32) : (z &&& (((y ^^^ (-1 : Int32)) <<< ((20 : Int32) &&& 31)) ^^^ (-1 : Int32))) &&& (32767 : Int32) = z &&& (32767 : Int32) := by
  apply Int32.toBitVec_inj.mp
  show (z.toBitVec &&& (((y.toBitVec ^^^ (-1 : Int32).toBitVec) <<< (((20 : Int32) &&& 31).toBitVec.smod 32).toNat) ^^^ (-1 : Int32).toBitVec)) &&& (32767 : Int32).toBitVec = z.toBitVec &&& (32767 : Int32).toBitVec
  rw [s_20]
  apply BitVec.eq_of_getLsbD_eq
  intro i hi
  rw [BitVec.getLsbD_and, BitVec.getLsbD_and, BitVec.getLsbD_xor, BitVec.getLsbD_shiftLeft, BitVec.getLsbD_and, g_m1 i hi, g_15 i hi]
  by_cases h : i < 15
  · simp [h, show i < 20 by omega]
  · simp [h]
theorem m_keep (z y : Int32) : fM_withPerms z (fM_perms z &&& y) = z &&& (((y ^^^ (-1 : Int32)) <<< ((20 : Int32) &&& 31)) ^^^ (-1 : Int32)) := by
  apply Int32.toBitVec_inj.mp
  show (z.toBitVec &&& (1048575 : Int32).toBitVec) ||| (((fC_permsOf z).toBitVec &&& y.toBitVec) <<< (((20 : Int32) &&& 31).toBitVec.smod 32).toNat) = z.toBitVec &&& (((y.toBitVec ^^^ (-1 : Int32).toBitVec) <<< (((20 : Int32) &&& 31).toBitVec.smod 32).toNat) ^^^ (-1 : Int32).toBitVec)
  rw [s_20, v_20]
  apply BitVec.eq_of_getLsbD_eq
  intro i hi
  rw [BitVec.getLsbD_or, BitVec.getLsbD_and, BitVec.getLsbD_shiftLeft, BitVec.getLsbD_and, BitVec.getLsbD_ushiftRight, BitVec.getLsbD_and, BitVec.getLsbD_xor, BitVec.getLsbD_shiftLeft, BitVec.getLsbD_xor, g_F i hi, g_m1 i hi]
  by_cases h : i < 20
  · simp [h]
  · rw [g_m1 (i - 20) (by omega), show 20 + (i - 20) = i by omega]
    simp [h, hi]
theorem m_unseal1 (z : Int32) : fM_withPerms (fC_withType z (15 : Int32)) (fM_perms z) = fC_withType z (15 : Int32) := by
  apply Int32.toBitVec_inj.mp
  show (((z.toBitVec &&& (-983041 : Int32).toBitVec) ||| ((15 : Int32).toBitVec <<< (((16 : Int32) &&& 31).toBitVec.smod 32).toNat)) &&& (1048575 : Int32).toBitVec) ||| ((fC_permsOf z).toBitVec <<< (((20 : Int32) &&& 31).toBitVec.smod 32).toNat) = (z.toBitVec &&& (-983041 : Int32).toBitVec) ||| ((15 : Int32).toBitVec <<< (((16 : Int32) &&& 31).toBitVec.smod 32).toNat)
  rw [s_16, s_20, v_20]
  apply BitVec.eq_of_getLsbD_eq
  intro i hi
  rw [BitVec.getLsbD_or, BitVec.getLsbD_and, BitVec.getLsbD_or, BitVec.getLsbD_and, BitVec.getLsbD_shiftLeft, BitVec.getLsbD_shiftLeft, BitVec.getLsbD_ushiftRight, g_983 i hi, g_F i hi]
  by_cases h : i < 20
  · simp [h]
  · rw [g_p15 (i - 16) (by omega), show 20 + (i - 20) = i by omega]
    simp [h, hi, show ¬ i - 16 < 4 by omega]
theorem m_unseal2 (z : Int32) : fM_withPerms (fC_withType z (15 : Int32)) (fM_perms z &&& (-2 : Int32)) = fC_withType z (15 : Int32) &&& (-1048577 : Int32) := by
  apply Int32.toBitVec_inj.mp
  show (((z.toBitVec &&& (-983041 : Int32).toBitVec) ||| ((15 : Int32).toBitVec <<< (((16 : Int32) &&& 31).toBitVec.smod 32).toNat)) &&& (1048575 : Int32).toBitVec) ||| (((fC_permsOf z).toBitVec &&& (-2 : Int32).toBitVec) <<< (((20 : Int32) &&& 31).toBitVec.smod 32).toNat) = ((z.toBitVec &&& (-983041 : Int32).toBitVec) ||| ((15 : Int32).toBitVec <<< (((16 : Int32) &&& 31).toBitVec.smod 32).toNat)) &&& (-1048577 : Int32).toBitVec
  rw [s_16, s_20, v_20]
  apply BitVec.eq_of_getLsbD_eq
  intro i hi
  rw [BitVec.getLsbD_or, BitVec.getLsbD_and, BitVec.getLsbD_or, BitVec.getLsbD_and, BitVec.getLsbD_shiftLeft, BitVec.getLsbD_shiftLeft, BitVec.getLsbD_and, BitVec.getLsbD_ushiftRight, BitVec.getLsbD_and, BitVec.getLsbD_or, BitVec.getLsbD_and, BitVec.getLsbD_shiftLeft, g_983 i hi, g_F i hi, g_20 i hi]
  by_cases h : i < 20
  · simp [h, show ¬ i = 20 by omega]
  · rw [g_p15 (i - 16) (by omega), g_m2 (i - 20) (by omega), show 20 + (i - 20) = i by omega]
    by_cases h2 : i = 20
    · simp [h2]
    · simp [h, hi, h2, show ¬ i - 16 < 4 by omega, show ¬ i - 20 = 0 by omega]
theorem kPk_in {b t : Int} (h0 : 0 ≤ b) (hbt : b ≤ t) (ht : t ≤ 4294967296) : 0 ≤ kPk b t ∧ kPk b t < 32768 := by
  unfold kPk
  by_cases h : t - b ≤ 63
  · rw [if_pos h]
    omega
  · rw [if_neg h]
    have he := kF_le h0 hbt ht h
    have g8 := kRu_8 (kF b t) t
    have d8 := kRd_8 (kF b t) b
    generalize kRu (kF b t) t / p2 (kF b t) = U at *
    generalize kRd (kF b t) b / p2 (kF b t) = D at *
    generalize kF b t = e at *
    omega
theorem kX_in (b t : Int) : kX b t = 0 ∨ kX b t = 32768 := by
  unfold kX
  split
  · exact Or.inr rfl
  · exact Or.inl rfl
theorem kX_ex (b t : Int) : kX b t = 0 ↔ zEx b t = 0 := by
  unfold kX zEx
  split
  · exact ⟨fun h => absurd h (by decide), fun h => absurd h (by decide)⟩
  · exact ⟨fun _ => rfl, fun _ => rfl⟩
theorem pk_low {b t : Int} (h0 : 0 ≤ b) (hbt : b ≤ t) (ht : t ≤ 4294967296) : fC_packed (zL b) (zL t) &&& (32767 : Int32) = zI (kPk b t) := by
  have h1 := kPk_in h0 hbt ht
  have h2 := kX_in b t
  rw [eC_packed h0 hbt ht, zm_32767]
  congr 1
  omega
theorem pk_x {b t : Int} (h0 : 0 ≤ b) (hbt : b ≤ t) (ht : t ≤ 4294967296) : (fC_packed (zL b) (zL t) &&& (32768 : Int32)) = 0 ↔ zEx b t = 0 := by
  have h1 := kPk_in h0 hbt ht
  have h2 := kX_in b t
  rw [← kX_ex]
  have e : fC_packed (zL b) (zL t) &&& (32768 : Int32) = zI (kX b t) := by
    rw [eC_packed h0 hbt ht, zI_dif _ (M1 := 65535) (M2 := 32767) (by decide) (by decide), zI_mask _ 16 (by decide) rfl (P := 65536) rfl, zm_32767, zI_sub]
    congr 1
    omega
  have e0 : (0 : Int32) = zI 0 := by decide
  rw [e, e0]
  exact zI_eq (by omega) (by omega) (by omega) (by omega)
theorem z_min (a n : Int32) : (if (4294967296 : Int64) < (fC_unsigned a + fC_unsigned n) then (4294967296 : Int64) else (fC_unsigned a + fC_unsigned n)) = zL (kNt a n) := by
  have h1 := kA_in a
  have h2 := kA_in n
  have e : (4294967296 : Int64) = zL 4294967296 := by decide
  rw [eC_uns, eC_uns, zL_add, e]
  unfold kNt
  by_cases h : kA a + kA n < 4294967296
  · rw [if_neg (fun h3 => absurd ((zL_lt (by omega) (by omega) (by omega) (by omega)).mp h3) (by omega)), if_pos h]
  · rw [if_neg h]
    by_cases h3 : (4294967296 : Int) < kA a + kA n
    · rw [if_pos ((zL_lt (by omega) (by omega) (by omega) (by omega)).mpr h3)]
    · rw [if_neg (fun h4 => h3 ((zL_lt (by omega) (by omega) (by omega) (by omega)).mp h4))]
      congr 1
      omega
theorem m_narrow (z a n : Int32) : ((z &&& (-32768 : Int32)) ||| (fC_packed (fC_unsigned a) (if (4294967296 : Int64) < (fC_unsigned a + fC_unsigned n) then (4294967296 : Int64) else (fC_unsigned a + fC_unsigned n)) &&& (32767 : Int32))) = (z &&& (-32768 : Int32)) ||| zI (kPk (kA a) (kNt a n)) := by
  have h1 := kA_in a
  have h2 := kNt_in a n
  rw [z_min, eC_uns, pk_low h1.1 h2.1 h2.2]
theorem w_narrow (z : Int32) {p : Int} (p0 : 0 ≤ p) (p1 : p < 32768) : ((z &&& (-32768 : Int32)) ||| zI p).toInt % 32768 = p := by
  have e : z &&& (-32768 : Int32) = zI (z.toInt / 32768 * 32768) := by
    have h := zI_m15 z.toInt
    rwa [zI_of] at h
  have h1 := zI_lo z
  have h2 := zI_hi z
  rw [e, zI_or 15 (by decide) _ _ (P := 32768) rfl (by omega) p0 p1, zI_int (by omega) (by omega)]
  omega
theorem w_root (y : Int32) {p : Int} (p0 : 0 ≤ p) (p1 : p < 32768) : (((y <<< ((20 : Int32) &&& 31)) ||| (983040 : Int32)) ||| zI p).toInt % 32768 = p := by
  have e : y <<< ((20 : Int32) &&& 31) = zI (y.toInt * 1048576) := by
    have h := zI_shl y.toInt 20 (by decide) (y := 20) (by decide) (P := 1048576) rfl
    rwa [zI_of] at h
  have c : (983040 : Int32) = zI 983040 := by decide
  have h : ((y <<< ((20 : Int32) &&& 31)) ||| (983040 : Int32)) ||| zI p = zI (y.toInt * 1048576 + 983040 + p) := by
    rw [e, c, zI_or 20 (by decide) _ _ (P := 1048576) rfl (by omega) (by omega) (by omega), zI_or 15 (by decide) _ _ (P := 32768) rfl (by omega) p0 p1]
  have h2 : (((y <<< ((20 : Int32) &&& 31)) ||| (983040 : Int32)) ||| zI p) &&& (32767 : Int32) = zI p := by
    rw [h, zm_32767]
    congr 1
    omega
  rw [z_15, zI_eq (by omega) (by omega) (by omega) (by omega)] at h2
  exact h2
theorem top_le {z : Int32} {b t : Int} (h0 : 0 ≤ b) (hb : b < 4294967296) (hbt : b ≤ t) (ht : t ≤ 4294967296) (hz : z.toInt % 32768 = kPk b t) : kTop z.toInt b ≤ 4294967296 := by
  rw [(k_rt h0 hb hbt ht hz).2]
  exact kTo_le h0 hbt ht
theorem t_in (tg ad mt : Nat → Int32) (r : Int32) : fC_topIn tg ad mt r = zL (kTop (mt r.toNatClampNeg).toInt (kA (ad r.toNatClampNeg))) := eC_topOf _ _
theorem o_tag {tg ad mt : Nat → Int32} {r : Int32} (h : ¬ fC_isOpenWithTag tg ad mt r = 0) : ¬ tg r.toNatClampNeg = 0 := by
  intro h2
  unfold fC_isOpenWithTag at h
  rw [if_pos h2] at h
  exact h rfl
