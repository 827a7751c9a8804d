/-! Packing, and the reference's windows, in numbers. -/
theorem zn_add (e k : Nat) {y : Int32} (hy : y = zI (k : Nat)) : zI (e : Nat) + y = zI ((e + k : Nat) : Int) := by
  rw [hy, zI_add]
  congr 1
theorem z_1l : (1 : Int64) = zL 1 := by decide
theorem kRd_in (e : Nat) (b : Int) : b - p2 (e + 3) < kRd e b ∧ kRd e b ≤ b := by
  have hp := p2_pos (e + 3)
  have h1 := Int.ediv_mul_self b (p2 (e + 3))
  have h2 := Int.emod_nonneg b (show p2 (e + 3) ≠ 0 by omega)
  have h3 := Int.emod_lt_of_pos b hp
  unfold kRd
  omega
theorem kRu_in (e : Nat) (t : Int) : t ≤ kRu e t ∧ kRu e t < t + p2 (e + 3) := by
  have hp := p2_pos (e + 3)
  have h1 := Int.ediv_mul_self (t + p2 (e + 3) - 1) (p2 (e + 3))
  have h2 := Int.emod_nonneg (t + p2 (e + 3) - 1) (show p2 (e + 3) ≠ 0 by omega)
  have h3 := Int.emod_lt_of_pos (t + p2 (e + 3) - 1) hp
  unfold kRu
  omega
theorem kRd_0 (e : Nat) {b : Int} (h : 0 ≤ b) : 0 ≤ kRd e b := by
  have hp := p2_pos (e + 3)
  exact Int.mul_nonneg (Int.ediv_nonneg h (by omega)) (by omega)
theorem kUn_eq (e : Nat) (b t : Int) : (kRu e t - kRd e b) / p2 (e + 3) = kUn e b t := by
  have hp := p2_pos (e + 3)
  unfold kRu kRd kUn
  rw [← Int.sub_mul, Int.mul_ediv_cancel _ (by omega)]
theorem eC_rd (n : Int) {e : Nat} (he : e ≤ 27) : fC_roundedDown (zL n) (zI (e : Nat)) = zL (kRd e n) := by
  unfold fC_roundedDown kRd
  rw [zn_add e 3 (by decide), z_1l, zL_shl 1 (e + 3) (by omega) rfl rfl, zL_neg, Int.one_mul]
  exact zL_nmask n (e + 3) (by omega) rfl
theorem eC_ru (n : Int) {e : Nat} (he : e ≤ 27) : fC_roundedUp (zL n) (zI (e : Nat)) = zL (kRu e n) := by
  unfold fC_roundedUp
  rw [zn_add e 3 (by decide), z_1l, zL_shl 1 (e + 3) (by omega) rfl rfl, Int.one_mul, zL_add, zL_sub, eC_rd _ he]
  rfl
theorem p2_29 {e : Nat} (h : e ≤ 26) : p2 (e + 3) ≤ 536870912 := p2_le (show e + 3 ≤ 29 by omega)
theorem eC_fit {b t : Int} (h0 : 0 ≤ b) (hbt : b ≤ t) (ht : t ≤ 4294967296) : fC_fittingExponent (zL b) (zL t) = zI (kF b t : Nat) := by
  have hn : kL ((t - b) / 128) ≤ 26 := kL_le (show (t - b) / 128 < 67108864 by omega)
  have hp := p2_29 hn
  have r1 := kRd_in (kL ((t - b) / 128)) b
  have r2 := kRu_in (kL ((t - b) / 128)) t
  have e7 : zL (t - b) >>> ((7 : Int32).toInt64 &&& 63) = zL ((t - b) / 128) := zL_shr (by omega) (by omega) 7 (by decide) (y := 7) (by decide) (P := 128) rfl
  have e16 : (16 : Int64) = zL 16 := by decide
  have hU : 0 ≤ kUn (kL ((t - b) / 128)) b t ∧ kUn (kL ((t - b) / 128)) b t ≤ kRu (kL ((t - b) / 128)) t - kRd (kL ((t - b) / 128)) b := by
    rw [← kUn_eq]
    have hp0 := p2_pos (kL ((t - b) / 128) + 3)
    exact ⟨Int.ediv_nonneg (by omega) (by omega), Int.ediv_le_self _ (by omega)⟩
  have q0 := kRd_0 (kL ((t - b) / 128)) h0
  unfold fC_fittingExponent kF
  rw [zL_sub, e7, eC_bits (by omega) (by omega), eC_ru _ (by omega), eC_rd _ (by omega), zn_add _ 3 (by decide), zn_add _ 1 (by decide), zL_sub, zL_shr (by omega) (by omega) (kL ((t - b) / 128) + 3) (by omega) rfl rfl, kUn_eq, e16]
  by_cases h : 16 ≤ kUn (kL ((t - b) / 128)) b t
  · rw [if_neg (fun h3 => absurd ((zL_lt (by omega) (by omega) (by omega) (by omega)).mp h3) (by omega)), if_pos h]
  · rw [if_pos ((zL_lt (by omega) (by omega) (by omega) (by omega)).mpr (by omega)), if_neg h]
theorem kF_le {b t : Int} (h0 : 0 ≤ b) (hbt : b ≤ t) (ht : t ≤ 4294967296) (h : ¬ t - b ≤ 63) : kF b t ≤ 26 := (kF_fit h0 (by omega) ht).1
theorem kRu_8 (e : Nat) (t : Int) : kRu e t / p2 e % 8 = 0 := by
  have hp := p2_pos e
  have q3 : p2 (e + 3) = p2 e * 8 := p2_add e 3
  unfold kRu
  rw [show (t + p2 (e + 3) - 1) / p2 (e + 3) * p2 (e + 3) = ((t + p2 (e + 3) - 1) / p2 (e + 3) * 8) * p2 e by rw [Int.mul_assoc, Int.mul_comm 8 (p2 e), ← q3], Int.mul_ediv_cancel _ (by omega)]
  omega
theorem kRd_8 (e : Nat) (t : Int) : kRd e t / p2 e % 8 = 0 := by
  have hp := p2_pos e
  have q3 : p2 (e + 3) = p2 e * 8 := p2_add e 3
  unfold kRd
  rw [show t / p2 (e + 3) * p2 (e + 3) = (t / p2 (e + 3) * 8) * p2 e by rw [Int.mul_assoc, Int.mul_comm 8 (p2 e), ← q3], Int.mul_ediv_cancel _ (by omega)]
  omega
/-- EXACT beside the packed bounds -/
def kX (b t : Int) : Int := if kFr b t = b ∧ kTo b t = t then 32768 else 0
theorem z_pk {T B e c : Int} (hT : T % 8 = 0) (hB : B % 8 = 0) (e0 : 0 ≤ e) (e1 : e ≤ 26) (hc : c % 16384 = 0) :
    ((zI c ||| (((zI T &&& (63 : Int32)) ||| (zI e >>> ((3 : Int32) &&& 31))) <<< ((8 : Int32) &&& 31))) ||| ((zI B &&& (255 : Int32)) ||| (zI e &&& (7 : Int32)))) = zI (c + (T % 64 + e / 8) * 256 + (B % 256 + e % 8)) := by
  rw [zm_63, zs_3 e0 (by omega), zI_or 3 (by decide) _ _ (P := 8) rfl (by omega) (by omega) (by omega), zh_8, zI_or 14 (by decide) _ _ (P := 16384) rfl hc (by omega) (by omega), zm_255, zm_7, zI_or 3 (by decide) _ _ (P := 8) rfl (by omega) (by omega) (by omega), zI_or 8 (by decide) _ _ (P := 256) rfl (by omega) (by omega) (by omega)]
theorem eC_packed {b t : Int} (h0 : 0 ≤ b) (hbt : b ≤ t) (ht : t ≤ 4294967296) : fC_packed (zL b) (zL t) = zI (kPk b t + kX b t) := by
  have e63 : (63 : Int64) = zL 63 := by decide
  by_cases h : t - b ≤ 63
  · have m1 : zL t &&& (63 : Int64) = zL (t % 64) := zL_mask t 6 (by decide) rfl (P := 64) rfl
    have m2 : zL b &&& (255 : Int64) = zL (b % 256) := zL_mask b 8 (by decide) rfl (P := 256) rfl
    have e15 : (32768 : Int32) = zI 32768 := by decide
    unfold fC_packed kPk kX kFr kTo
    rw [m1, m2, e63, zL_sub, if_neg (fun h3 => absurd ((zL_lt (by omega) (by omega) (by omega) (by omega)).mp h3) (by omega)), zL_i, zL_i, zh_8, e15, zI_or 15 (by decide) _ _ (P := 32768) rfl (by omega) (by omega) (by omega), zI_or 8 (by decide) _ _ (P := 256) rfl (by omega) (by omega) (by omega), if_pos h, if_pos h, if_pos h, if_pos ⟨rfl, rfl⟩]
    congr 1
    omega
  · have he := kF_le h0 hbt ht h
    have hp := p2_29 he
    have r1 := kRd_in (kF b t) b
    have r2 := kRu_in (kF b t) t
    have r0 := kRd_0 (kF b t) h0
    have c1 : (0 : Int32) ||| (16384 : Int32) = zI 16384 := by decide
    have c2 : (32768 : Int32) ||| (16384 : Int32) = zI 49152 := by decide
    have g8 := kRu_8 (kF b t) t
    have d8 := kRd_8 (kF b t) b
    have hc : (63 : Int64) < zL t - zL b := by
      rw [zL_sub, e63]
      exact (zL_lt (by omega) (by omega) (by omega) (by omega)).mpr (by omega)
    unfold fC_packed
    rw [if_pos hc, eC_fit h0 hbt ht, eC_ru _ (by omega), eC_rd _ (by omega), zL_shr (by omega) (by omega) (kF b t) (by omega) rfl rfl, zL_shr (by omega) (by omega) (kF b t) (by omega) rfl rfl, zL_i, zL_i, c1, c2, z_pk g8 d8 (by omega) (by omega) (by omega), z_pk g8 d8 (by omega) (by omega) (by omega)]
    unfold kPk kX kFr kTo
    rw [if_neg h, if_neg h, if_neg h]
    by_cases x1 : kRd (kF b t) b = b
    · rw [if_pos (by rw [x1])]
      by_cases x2 : kRu (kF b t) t = t
      · rw [if_pos (by rw [x2]), if_pos ⟨x1, x2⟩]
        congr 1
        omega
      · rw [if_neg (fun h3 => x2 ((zL_eq (by omega) (by omega) (by omega) (by omega)).mp h3)), if_neg (fun h3 => x2 h3.2)]
        congr 1
        omega
    · rw [if_neg (fun h3 => x1 ((zL_eq (by omega) (by omega) (by omega) (by omega)).mp h3)), if_neg (fun h3 => x1 h3.1)]
      congr 1
      omega
theorem z_ed : ∀ b : Nat, b < 256 → (zI (b : Nat) / (32 : Int32) + (7 : Int32)) - (zI (b : Nat) / (32 : Int32) + (7 : Int32)) / (8 : Int32) * (8 : Int32) = zI (((b / 32 + 7) % 8 : Nat) : Int) := by decide +kernel
theorem eM_ed (x : Int32) : ((fM_bottom x / (32 : Int32)) + (7 : Int32)) - ((fM_bottom x / (32 : Int32)) + (7 : Int32)) / (8 : Int32) * (8 : Int32) = zI (kEd x.toInt) := by
  have hb := kB_in x.toInt
  rw [eM_bottom]
  unfold kEd
  obtain ⟨n, hn⟩ := Int.eq_ofNat_of_zero_le hb.1
  rw [hn]
  rw [z_ed n (by omega)]
  congr 1
def kWin (z a : Int) : Int := a - (a - kEd z * p2 (kE z + 5)) % p2 (kE z + 8)
theorem kWin_in (z : Int) {a : Int} (h0 : 0 ≤ a) (h1 : a < 4294967296) : -17179869184 < kWin z a ∧ kWin z a < 4294967296 := by
  have he := kE_le z
  have hp := p2_pos (kE z + 8)
  have hq := p2_le (show kE z + 8 ≤ 34 by omega)
  have h3 : p2 34 = 17179869184 := rfl
  have m0 := Int.emod_nonneg (a - kEd z * p2 (kE z + 5)) (show p2 (kE z + 8) ≠ 0 by omega)
  have m1 := Int.emod_lt_of_pos (a - kEd z * p2 (kE z + 5)) hp
  unfold kWin
  omega
theorem kEd_p (z : Int) : 0 ≤ kEd z * p2 (kE z + 5) ∧ kEd z * p2 (kE z + 5) ≤ 15032385536 := by
  have he := kE_le z
  have hd := kEd_in z
  have hp := p2_pos (kE z + 5)
  have hq := p2_le (show kE z + 5 ≤ 31 by omega)
  have h3 : p2 31 = 2147483648 := rfl
  have a1 : 0 ≤ kEd z * p2 (kE z + 5) := Int.mul_nonneg hd.1 (by omega)
  have a2 : kEd z * p2 (kE z + 5) ≤ 7 * p2 (kE z + 5) := Int.mul_le_mul_of_nonneg_right (by omega) (by omega)
  omega
theorem eM_window (x a : Int32) : fM_window x a = zL (kWin x.toInt (kA a)) := by
  have he := kE_le x.toInt
  have hd := kEd_in x.toInt
  have ha := kA_in a
  have hk := kEd_p x.toInt
  have hp := p2_pos (kE x.toInt + 8)
  have hq := p2_le (show kE x.toInt + 8 ≤ 34 by omega)
  have h3 : p2 34 = 17179869184 := rfl
  unfold fM_window kWin
  rw [eM_ed, eM_low, eM_scale, zn_add _ 5 (by decide), zn_add _ 8 (by decide), zI_l (by omega) (by omega), zL_shl _ (kE x.toInt + 5) (by omega) rfl rfl, z_1l, zL_shl 1 (kE x.toInt + 8) (by omega) rfl rfl, Int.one_mul, zL_sub, eJ_floorMod (by omega) (by omega) (by omega) (by omega), zL_sub]
theorem eM_inw {v k : Int} {e : Nat} (he : e ≤ 26) (v0 : 0 ≤ v) (v1 : v < 256) (k0 : -17179869184 < k) (k1 : k < 4294967296) : fM_inWindow (zI v) (zI (e : Nat)) (zL k) = zL (k + (v * p2 e - k) % p2 (e + 8)) := by
  have hp := p2_pos (e + 8)
  have hq := p2_le (show e + 8 ≤ 34 by omega)
  have h3 : p2 34 = 17179869184 := rfl
  have hp0 := p2_pos e
  have hq0 := p2_le (show e ≤ 26 by omega)
  have h4 : p2 26 = 67108864 := rfl
  have a1 : 0 ≤ v * p2 e := Int.mul_nonneg v0 (by omega)
  have a2 : v * p2 e ≤ 255 * p2 e := Int.mul_le_mul_of_nonneg_right (by omega) (by omega)
  unfold fM_inWindow
  rw [zn_add _ 8 (by decide), zI_l (by omega) (by omega), zL_shl _ e (by omega) rfl rfl, z_1l, zL_shl 1 (e + 8) (by omega) rfl rfl, Int.one_mul, zL_sub, eJ_floorMod (by omega) (by omega) (by omega) (by omega), zL_add]
theorem kWin_pl (z a : Int) {v : Int} (v0 : 0 ≤ v) (v1 : v < 256) : kWin z a + (v * p2 (kE z) - kWin z a) % p2 (kE z + 8) = kPl z a v := by
  have hd := kEd_in z
  unfold kWin kPl
  exact k_win v0 v1 hd.1 hd.2
theorem eM_base (x a : Int32) : fM_base x a = zL (kBase x.toInt (kA a)) := by
  have hb := kB_in x.toInt
  have ha := kA_in a
  have hw := kWin_in x.toInt ha.1 ha.2
  unfold fM_base kBase
  rw [eM_window, eM_bottom, eM_scale, eM_inw (kE_le _) hb.1 hb.2 hw.1 hw.2, kWin_pl _ _ hb.1 hb.2, zL_mask _ 32 (by decide) rfl (P := 4294967296) rfl]
theorem eM_top (x a : Int32) : fM_top x a = zL (kTop x.toInt (kA a)) := by
  have hb := kB_in x.toInt
  have ht := kT_in x.toInt
  have he := kE_le x.toInt
  have ha := kA_in a
  have hw := kWin_in x.toInt ha.1 ha.2
  have i0 := kTop0_in x.toInt (kA a)
  have i1 := kBase_in x.toInt (kA a)
  have e0 : fM_inWindow (fM_roof x) (fM_scale x) (fM_window x a) &&& (8589934591 : Int64) = zL (kTop0 x.toInt (kA a)) := by
    rw [eM_window, eM_roof, eM_scale, eM_inw (kE_le _) ht.1 ht.2 hw.1 hw.2, kWin_pl _ _ ht.1 ht.2, zL_mask _ 33 (by decide) rfl (P := 8589934592) rfl]
    rfl
  have e25 : (25 : Int32) = zI 25 := by decide
  unfold fM_top kTop
  rw [e0, eM_base, eM_scale, e25, zL_shr i0.1 (by omega) 31 (by decide) (y := 31) (by decide) (P := 2147483648) rfl, zL_shr i1.1 (by omega) 31 (by decide) (y := 31) (by decide) (P := 2147483648) rfl, zL_i, zL_i, zI_sub, zm_3, z_1, zL_x32 i0.1 i0.2]
  by_cases h : kE x.toInt < 25
  · rw [if_neg (fun h3 => absurd ((zI_le (by omega) (by omega) (by omega) (by omega)).mp h3) (by omega))]
    by_cases h2 : 1 < (kTop0 x.toInt (kA a) / 2147483648 - kBase x.toInt (kA a) / 2147483648) % 4
    · rw [if_neg (fun h3 => absurd ((zI_le (by omega) (by omega) (by omega) (by omega)).mp h3) (by omega)), if_pos ⟨h, h2⟩]
    · rw [if_pos ((zI_le (by omega) (by omega) (by omega) (by omega)).mpr (by omega)), if_neg (fun h3 => h2 h3.2)]
  · rw [if_pos ((zI_le (by omega) (by omega) (by omega) (by omega)).mpr (by omega)), if_neg (fun h3 => h h3.1)]
theorem e_base (x a : Int32) : fM_base x a = fC_baseOf x a := by rw [eM_base, eC_baseOf]
theorem e_top (x a : Int32) : fM_top x a = fC_topOf x a := by rw [eM_top, eC_topOf]
