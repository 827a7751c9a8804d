/-! The same answers: the reference's words in the class's. -/
theorem e_type (z : Int32) : fM_type z = fC_typeOf z := by
  have h1 := zI_lo z
  have h2 := zI_hi z
  unfold fM_type fC_typeOf
  rw [zs_16, zm_15, zI_ushr z 16 (by decide) (y := 16) (by decide) (P := 65536) rfl, zm_15]
  congr 1
  omega
theorem e_perms (z : Int32) : fM_perms z = fC_permsOf z := rfl
theorem e_low (z : Int32) : fM_low z = fC_unsigned z := rfl
theorem e_wt (z y : Int32) : fM_withType z y = fC_withType z y := rfl
theorem z_pw (z : Int32) : ∃ w : Nat, w < 4096 ∧ fC_permsOf z = zI (w : Nat) := by
  have h1 := zI_lo z
  have h2 := zI_hi z
  refine ⟨(z.toInt % 4294967296 / 1048576).toNat, by omega, ?_⟩
  unfold fC_permsOf
  rw [zI_ushr z 20 (by decide) (y := 20) (by decide) (P := 1048576) rfl]
  congr 1
  omega
theorem z_hasB {w : Nat} (hw : w < 4096) (p : Nat) (hp : p < 12) {y m M1 M2 : Int32} (hy : zI (p : Nat) = y) {P : Int} (hP : p2 p = P) (h1 : m ||| M2 = M1) (h2 : m &&& M2 = 0) (hM1 : M1.toBitVec = BitVec.ofNat 32 (2 ^ (p + 1) - 1)) (hM2 : M2.toBitVec = BitVec.ofNat 32 (2 ^ p - 1)) : ((zI (w : Nat) >>> (y &&& 31)) &&& (1 : Int32)) = (1 : Int32) ↔ ¬ (zI (w : Nat) &&& m) = 0 := by
  subst hP
  have hp0 := p2_pos p
  have q1 : p2 (p + 1) = p2 p * 2 := p2_add p 1
  have b0 : 0 ≤ (w : Int) / p2 p := Int.ediv_nonneg (by omega) (by omega)
  have b1 : (w : Int) / p2 p ≤ w := Int.ediv_le_self _ (by omega)
  have e1 : (w : Int) % p2 (p + 1) - (w : Int) % p2 p = (w : Int) / p2 p % 2 * p2 p := by
    have f1 : (w : Int) % (p2 p * 2) = w - p2 p * 2 * (w / (p2 p * 2)) := Int.emod_def _ _
    have f2 : (w : Int) % p2 p = w - p2 p * (w / p2 p) := Int.emod_def _ _
    have f3 : (w : Int) / (p2 p * 2) = w / p2 p / 2 := (Int.ediv_ediv_of_nonneg (show 0 ≤ p2 p by omega)).symm
    have f4 : (w : Int) / p2 p % 2 = w / p2 p - 2 * (w / p2 p / 2) := Int.emod_def _ _
    rw [q1, f1, f2, f3, f4]
    generalize (w : Int) / p2 p = v
    generalize v / 2 = u
    generalize p2 p = P
    rw [Int.sub_mul, Int.mul_comm v P, Int.mul_comm 2 u, Int.mul_assoc u 2 P, Int.mul_comm 2 P, Int.mul_comm u]
    omega
  have c1 : 0 ≤ (w : Int) / p2 p % 2 ∧ (w : Int) / p2 p % 2 < 2 := by omega
  have hle : p2 p ≤ 4096 := p2_le (show p ≤ 12 by omega)
  have c2 : 0 ≤ (w : Int) / p2 p % 2 * p2 p := Int.mul_nonneg c1.1 (by omega)
  have c3 : (w : Int) / p2 p % 2 * p2 p ≤ 1 * p2 p := Int.mul_le_mul_of_nonneg_right (by omega) (by omega)
  rw [zI_shr (by omega) (by omega) p (by omega) hy rfl (by omega) (by omega), zm_1, zI_dif (zI (w : Nat)) h1 h2, zI_mask _ (p + 1) (by omega) hM1 rfl, zI_mask _ p (by omega) hM2 rfl, zI_sub, e1, z_1, z_0, zI_eq (by omega) (by omega) (by omega) (by omega), zI_eq (by omega) (by omega) (by omega) (by omega)]
  rcases (show (w : Int) / p2 p % 2 = 0 ∨ (w : Int) / p2 p % 2 = 1 by omega) with h | h
  · rw [h]
    simp
  · rw [h]
    omega
theorem z_has1 (w : Nat) (hw : w < 4096) : ((zI (w : Nat) >>> ((1 : Int32) &&& 31)) &&& (1 : Int32)) = (1 : Int32) ↔ ¬ (zI (w : Nat) &&& (2 : Int32)) = 0 := z_hasB hw 1 (by decide) (M1 := 3) (M2 := 1) (by decide) rfl (by decide) (by decide) (by decide) (by decide)
theorem z_has7 (w : Nat) (hw : w < 4096) : ((zI (w : Nat) >>> ((7 : Int32) &&& 31)) &&& (1 : Int32)) = (1 : Int32) ↔ ¬ (zI (w : Nat) &&& (128 : Int32)) = 0 := z_hasB hw 7 (by decide) (M1 := 255) (M2 := 127) (by decide) rfl (by decide) (by decide) (by decide) (by decide)
theorem z_has9 (w : Nat) (hw : w < 4096) : ((zI (w : Nat) >>> ((9 : Int32) &&& 31)) &&& (1 : Int32)) = (1 : Int32) ↔ ¬ (zI (w : Nat) &&& (512 : Int32)) = 0 := z_hasB hw 9 (by decide) (M1 := 1023) (M2 := 511) (by decide) rfl (by decide) (by decide) (by decide) (by decide)
theorem z_has0 (w : Nat) (hw : w < 4096) : ((zI (w : Nat) >>> ((0 : Int32) &&& 31)) &&& (1 : Int32)) = (1 : Int32) ↔ ¬ (zI (w : Nat) &&& (1 : Int32)) = 0 := z_hasB hw 0 (by decide) (M1 := 1) (M2 := 0) (by decide) rfl (by decide) (by decide) (by decide) (by decide)
theorem e_has0 (tg ad mt : Nat → Int32) (r : Int32) : fM_has tg ad mt r (0 : Int32) = fC_hasPerm tg ad mt r (1 : Int32) := by
  obtain ⟨w, hw, e⟩ := z_pw (mt r.toNatClampNeg)
  unfold fM_has fC_hasPerm
  rw [e_perms, e]
  by_cases h : (zI (w : Nat) &&& (1 : Int32)) = 0
  · rw [if_neg (fun h2 => (z_has0 w hw).mp h2 h), if_pos h]
  · rw [if_pos ((z_has0 w hw).mpr h), if_neg h]
theorem e_has1 (tg ad mt : Nat → Int32) (r : Int32) : fM_has tg ad mt r (1 : Int32) = fC_hasPerm tg ad mt r (2 : Int32) := by
  obtain ⟨w, hw, e⟩ := z_pw (mt r.toNatClampNeg)
  unfold fM_has fC_hasPerm
  rw [e_perms, e]
  by_cases h : (zI (w : Nat) &&& (2 : Int32)) = 0
  · rw [if_neg (fun h2 => (z_has1 w hw).mp h2 h), if_pos h]
  · rw [if_pos ((z_has1 w hw).mpr h), if_neg h]
theorem e_has7 (tg ad mt : Nat → Int32) (r : Int32) : fM_has tg ad mt r (7 : Int32) = fC_hasPerm tg ad mt r (128 : Int32) := by
  obtain ⟨w, hw, e⟩ := z_pw (mt r.toNatClampNeg)
  unfold fM_has fC_hasPerm
  rw [e_perms, e]
  by_cases h : (zI (w : Nat) &&& (128 : Int32)) = 0
  · rw [if_neg (fun h2 => (z_has7 w hw).mp h2 h), if_pos h]
  · rw [if_pos ((z_has7 w hw).mpr h), if_neg h]
theorem e_has9 (tg ad mt : Nat → Int32) (r : Int32) : fM_has tg ad mt r (9 : Int32) = fC_hasPerm tg ad mt r (512 : Int32) := by
  obtain ⟨w, hw, e⟩ := z_pw (mt r.toNatClampNeg)
  unfold fM_has fC_hasPerm
  rw [e_perms, e]
  by_cases h : (zI (w : Nat) &&& (512 : Int32)) = 0
  · rw [if_neg (fun h2 => (z_has9 w hw).mp h2 h), if_pos h]
  · rw [if_pos ((z_has9 w hw).mpr h), if_neg h]
theorem e_open (tg ad mt : Nat → Int32) (r : Int32) : fM_isOpen tg ad mt r = if fC_typeOf (mt r.toNatClampNeg) = (15 : Int32) then 1 else 0 := by
  unfold fM_isOpen
  rw [e_type]
theorem e_in1 (tg ad mt : Nat → Int32) (r : Int32) (x : Int64) : fM_isIn (mt r.toNatClampNeg) (ad r.toNatClampNeg) x (1 : Int32) = fC_isInBounds tg ad mt r x (1 : Int64) := by
  unfold fM_isIn fC_isInBounds fC_baseIn fC_topIn
  rw [e_base, e_top]
  rfl
theorem e_inn (tg ad mt : Nat → Int32) (r : Int32) (x : Int64) (n : Int32) : fM_isIn (mt r.toNatClampNeg) (ad r.toNatClampNeg) x n = fC_isInBounds tg ad mt r x n.toInt64 := by
  unfold fM_isIn fC_isInBounds fC_baseIn fC_topIn
  rw [e_base, e_top]
theorem e_wi (tg ad mt : Nat → Int32) (r y : Int32) : fM_isWithin tg ad mt y r = fC_isWithin tg ad mt y (fC_baseIn tg ad mt r) (fC_topIn tg ad mt r) (fC_permsOf (mt r.toNatClampNeg)) := by
  unfold fM_isWithin fC_isWithin fC_baseIn fC_topIn
  rw [e_base, e_base, e_top, e_top]
  rfl
theorem zx_rb (x : Int32) : (if zRb x = 0 then x else 0) = x := by
  by_cases h : x = 0
  · subst h
    decide
  · unfold zRb
    rw [if_neg h, if_pos rfl]

theorem t_keep (tg ad mt : Nat → Int32) (d r y : Int32) : tM_keep tg ad mt d r y = fC_isOpenWithTag tg ad mt r := by
  simp only [tM_keep, fC_isOpenWithTag, e_open]
  by_cases h1 : tg r.toNatClampNeg = 0
  · simp [h1]
  · skip
    by_cases h2 : ¬ fC_typeOf (mt r.toNatClampNeg) = (15 : Int32)
    · simp [h1, h2]
    · simp [h1, h2]
theorem t_gate (tg ad mt : Nat → Int32) (d r : Int32) : tM_gate tg ad mt d r = tC_gate tg ad mt d r := by
  simp only [tM_gate, tC_gate, fC_isOpenWithTag, e_open, e_has1]
  by_cases h1 : tg r.toNatClampNeg = 0
  · simp [h1]
  · skip
    by_cases h2 : ¬ fC_typeOf (mt r.toNatClampNeg) = (15 : Int32)
    · simp [h1, h2]
    · skip
      by_cases h3 : fC_hasPerm tg ad mt r (2 : Int32) = 0
      · simp [h1, h2, h3]
      · simp [h1, h2, h3]
theorem t_moveS (tg ad mt : Nat → Int32) (d r x : Int32) : tM_moveS tg ad mt d r x = tC_moveS tg ad mt d r x := by
  unfold tM_moveS tC_moveS fC_baseIn fC_topIn
  rw [e_base, e_base, e_top, e_top]
  by_cases h : fC_baseOf (mt r.toNatClampNeg) (ad r.toNatClampNeg) = fC_baseOf (mt r.toNatClampNeg) x
  · rw [if_pos h, if_pos h.symm]
    by_cases h2 : fC_topOf (mt r.toNatClampNeg) (ad r.toNatClampNeg) = fC_topOf (mt r.toNatClampNeg) x
    · rw [if_pos h2, if_pos h2.symm]
    · rw [if_neg h2, if_neg (fun h3 => h2 h3.symm)]
  · rw [if_neg h, if_neg (fun h3 => h h3.symm)]
theorem t_move (tg ad mt : Nat → Int32) (d r x : Int32) : tM_move tg ad mt d r x = tC_move tg ad mt d r x := by
  simp only [tM_move, tC_move, fC_isOpenWithTag, e_open, t_moveS]
  by_cases h1 : tg r.toNatClampNeg = 0
  · simp [h1]
  · skip
    by_cases h2 : ¬ fC_typeOf (mt r.toNatClampNeg) = (15 : Int32)
    · simp [h1, h2]
    · skip
      by_cases h3 : tC_moveS tg ad mt d r x = 0
      · simp [h1, h2, h3]
      · simp [h1, h2, h3]
theorem t_seal (tg ad mt : Nat → Int32) (d r y : Int32) : tM_seal tg ad mt d r y = tC_seal tg ad mt d r y := by
  simp only [tM_seal, tC_seal, fC_isOpenWithTag, fC_isKey, e_open, e_has7, e_in1 tg ad mt, e_low]
  by_cases h1 : tg r.toNatClampNeg = 0
  · simp [h1]
  · skip
    by_cases h2 : ¬ fC_typeOf (mt r.toNatClampNeg) = (15 : Int32)
    · simp [h1, h2]
    · skip
      by_cases h3 : tg y.toNatClampNeg = 0
      · simp [h1, h2, h3]
      · skip
        by_cases h4 : ¬ fC_typeOf (mt y.toNatClampNeg) = (15 : Int32)
        · simp [h1, h2, h3, h4]
        · skip
          by_cases h5 : fC_hasPerm tg ad mt y (128 : Int32) = 0
          · simp [h1, h2, h3, h4, h5]
          · skip
            by_cases h6 : fC_isInBounds tg ad mt y (fC_unsigned (ad y.toNatClampNeg)) (1 : Int64) = 0
            · simp [h1, h2, h3, h4, h5, h6]
            · skip
              by_cases h7 : (12 : Int64) ≤ fC_unsigned (ad y.toNatClampNeg)
              · simp [h1, h2, h3, h4, h5, h6, h7]
              · simp [h1, h2, h3, h4, h5, h6, h7]
theorem t_unseal (tg ad mt : Nat → Int32) (d r y : Int32) : tM_unseal tg ad mt d r y = tC_unseal tg ad mt d r y := by
  simp only [tM_unseal, tC_unseal, fC_isOpenWithTag, fC_isKey, e_open, e_has9, e_in1 tg ad mt, e_low, e_type]
  generalize fC_typeOf (mt r.toNatClampNeg) = G0
  by_cases h1 : tg r.toNatClampNeg = 0
  · simp [h1]
  · skip
    by_cases h2 : (12 : Int32) ≤ G0
    · simp [h1, h2]
    · skip
      by_cases h3 : ¬ G0 = ad y.toNatClampNeg
      · simp [h1, h2, h3]
      · skip
        by_cases h4 : tg y.toNatClampNeg = 0
        · simp [h1, h2, h3, h4]
        · skip
          by_cases h5 : ¬ fC_typeOf (mt y.toNatClampNeg) = (15 : Int32)
          · simp [h1, h2, h3, h4, h5]
          · skip
            by_cases h6 : fC_hasPerm tg ad mt y (512 : Int32) = 0
            · simp [h1, h2, h3, h4, h5, h6]
            · skip
              by_cases h7 : fC_isInBounds tg ad mt y (fC_unsigned (ad y.toNatClampNeg)) (1 : Int64) = 0
              · simp [h1, h2, h3, h4, h5, h6, h7]
              · simp [h1, h2, h3, h4, h5, h6, h7]
theorem t_build (tg ad mt : Nat → Int32) (d r y : Int32) : tM_build tg ad mt d r y = tC_build tg ad mt d r y := by
  have a1 : fC_topOf (mt y.toNatClampNeg) (ad y.toNatClampNeg) = fC_topIn tg ad mt y := rfl
  have a2 : fC_baseOf (mt y.toNatClampNeg) (ad y.toNatClampNeg) = fC_baseIn tg ad mt y := rfl
  simp only [tM_build, tC_build, fC_isOpenWithTag, e_open, e_base, e_top, e_wi, a1, a2]
  by_cases h1 : tg r.toNatClampNeg = 0
  · simp [h1]
  · skip
    by_cases h2 : ¬ fC_typeOf (mt r.toNatClampNeg) = (15 : Int32)
    · simp [h1, h2]
    · simp [h1, h2]
theorem u_build (tg ad mt : Nat → Int32) (d r y : Int32) : uM_build tg ad mt d r y = uC_build tg ad mt d r y := by
  unfold uM_build uC_build
  rw [e_type]
