/-! The same codes and results. -/
theorem zrb_1 {x : Int32} (h : x = 0) : ¬ zRb x = 0 := by
  subst h
  decide
theorem z_rgL {α : Type} (x : Int32) (c v : α) : (if x < 0 then c else if x ≤ 31 then v else c) = if fC_isRegister x = 0 then c else v := by
  have e31 : (31 : Int32).toInt = 31 := by decide
  have e32 : (32 : Int32).toInt = 32 := by decide
  unfold fC_isRegister
  by_cases h1 : x < 0
  · rw [if_pos h1, if_pos h1, if_pos rfl]
  · rw [if_neg h1, if_neg h1]
    by_cases h2 : x ≤ 31
    · have h3 : ¬ (32 : Int32) ≤ x := by
        intro h3
        rw [Int32.le_iff_toInt_le] at h2 h3
        omega
      rw [if_pos h2, if_neg h3, if_neg (show ¬ (1 : Int32) = 0 by decide)]
    · have h3 : (32 : Int32) ≤ x := by
        rw [Int32.le_iff_toInt_le] at *
        omega
      rw [if_neg h2, if_pos h3, if_pos rfl]
theorem x_put (tg ad mt : Nat → Int32) (d a z : Int32) : xM_put tg ad mt d a z = xC_put tg ad mt d a z := zx_rb _
theorem x_keep (tg ad mt : Nat → Int32) (d r y : Int32) : xM_keep tg ad mt d r y = xC_keep tg ad mt d r y := by
  unfold xM_keep
  rw [ite_self]
  exact zx_rb _
theorem x_gate (tg ad mt : Nat → Int32) (d r : Int32) : xM_gate tg ad mt d r = xC_gate tg ad mt d r := by
  unfold xM_gate
  rw [ite_self]
  exact zx_rb _
theorem x_move (tg ad mt : Nat → Int32) (d r x : Int32) : xM_move tg ad mt d r x = xC_move tg ad mt d r x := zx_rb _
theorem x_seal (tg ad mt : Nat → Int32) (d r y : Int32) : xM_seal tg ad mt d r y = xC_seal tg ad mt d r y := zx_rb _
theorem xu_3 (tg ad mt : Nat → Int32) (d r y : Int32) : xC_unseal tg ad mt d r y = zx3 d r y := by
  unfold xC_unseal
  rw [ite_self]
  rfl
theorem x_unseal (tg ad mt : Nat → Int32) (d r y : Int32) : xM_unseal tg ad mt d r y = xC_unseal tg ad mt d r y := by
  rw [xu_3]
  exact zx_rb _
theorem x_build (tg ad mt : Nat → Int32) (d r y : Int32) : xM_build tg ad mt d r y = xC_build tg ad mt d r y := zx_rb _
theorem x_narrow (tg ad mt : Nat → Int32) (d r n y : Int32) : xM_narrow tg ad mt d r n y = xC_narrow tg ad mt d r n y := by
  unfold xM_narrow
  rw [ite_self]
  exact zx_rb _
theorem xs_2 (tg ad mt : Nat → Int32) (r y : Int32) : xC_subset tg ad mt r y = zx2 r y := by
  unfold xC_subset zx2
  simp only [ite_self]
  by_cases h1 : fC_isRegister r = 0
  · simp [h1]
  · simp [h1]
theorem x_subset (tg ad mt : Nat → Int32) (r y : Int32) : xM_subset tg ad mt r y = xC_subset tg ad mt r y := by
  rw [xs_2]
  unfold xM_subset
  simp only [ite_self]
  exact zx_rb _
theorem x_reaches (tg ad mt : Nat → Int32) (r x n : Int32) : xM_reaches tg ad mt r x n = xC_reaches tg ad mt r x n := by
  unfold xM_reaches xC_reaches zx1 zRb
  by_cases h1 : fC_isRegister r = 0
  · simp [h1]
  · simp [h1]
theorem z_sw8 {α : Type} (y : Int32) (c v : α) : (if y < 0 then c else if y ≤ (7 : Int32) then v else c) = if y = 0 then v else if y = 1 then v else if y = 2 then v else if y = 3 then v else if y = 4 then v else if y = 5 then v else if y = 6 then v else if y = 7 then v else c := by
  by_cases h0 : y = 0
  · subst h0
    rfl
  by_cases h1 : y = 1
  · subst h1
    rfl
  by_cases h2 : y = 2
  · subst h2
    rfl
  by_cases h3 : y = 3
  · subst h3
    rfl
  by_cases h4 : y = 4
  · subst h4
    rfl
  by_cases h5 : y = 5
  · subst h5
    rfl
  by_cases h6 : y = 6
  · subst h6
    rfl
  by_cases h7 : y = 7
  · subst h7
    rfl
  rw [if_neg h0, if_neg h1, if_neg h2, if_neg h3, if_neg h4, if_neg h5, if_neg h6, if_neg h7]
  have e7 : (7 : Int32).toInt = 7 := by decide
  have e0 : (0 : Int32).toInt = 0 := by decide
  rcases zz_sw8 h0 h1 h2 h3 h4 h5 h6 h7 with h | h
  · rw [if_pos (Int32.lt_iff_toInt_lt.mpr (by omega))]
  · rw [if_neg (fun g => absurd (Int32.lt_iff_toInt_lt.mp g) (by omega)), if_neg (fun g => absurd (Int32.le_iff_toInt_le.mp g) (by omega))]
theorem x_told (tg ad mt : Nat → Int32) (r y : Int32) : xM_told tg ad mt r y = xC_told tg ad mt r y := by
  unfold xM_told xC_told
  simp only [ite_self]
  rw [z_rgL, z_sw8]
theorem r_told (tg ad mt : Nat → Int32) (r y : Int32) (h : xC_told tg ad mt r y = 0) : rM_told tg ad mt r y = fC_told tg ad mt r y := by
  unfold xC_told at h
  unfold rM_told fC_told
  rw [z_rgL]
  by_cases hr : fC_isRegister r = 0
  · rw [if_pos hr] at h
    exact absurd h (by decide)
  rw [if_neg hr, if_neg hr]
  rw [if_neg hr] at h
  by_cases h0 : y = 0
  · subst h0
    rfl
  by_cases h1 : y = 1
  · subst h1
    rfl
  by_cases h2 : y = 2
  · subst h2
    rfl
  by_cases h3 : y = 3
  · subst h3
    exact e_base _ _
  by_cases h4 : y = 4
  · subst h4
    show fM_top _ _ - fM_base _ _ = fC_topOf _ _ - fC_baseOf _ _
    rw [e_base, e_top]
  by_cases h5 : y = 5
  · subst h5
    rfl
  by_cases h6 : y = 6
  · subst h6
    show (fM_type _).toInt64 = (fC_typeOf _).toInt64
    rw [e_type]
  by_cases h7 : y = 7
  · subst h7
    show fM_low _ - fM_base _ _ = fC_unsigned _ - fC_baseOf _ _
    rw [e_base, e_low]
  rw [if_neg h0, if_neg h1, if_neg h2, if_neg h3, if_neg h4, if_neg h5, if_neg h6, if_neg h7] at h
  exact absurd h (by decide)
theorem r_keep (tg ad mt : Nat → Int32) (d r y : Int32) (h : xC_keep tg ad mt d r y = 0) : zBl (rM_keep tg ad mt d r y) = zBl (zSr d (fC_isOpenWithTag tg ad mt r)) := by
  have h2 : zx2 d r = 0 := h
  unfold rM_keep
  rw [if_neg (zrb_1 h2), t_keep]
  by_cases h3 : zSr d (fC_isOpenWithTag tg ad mt r) = 0
  · rw [if_pos h3, h3]
  · rw [if_neg h3]
    unfold zBl
    rw [if_neg h3]
    rfl
theorem r_gate (tg ad mt : Nat → Int32) (d r : Int32) (h : xC_gate tg ad mt d r = 0) : zBl (rM_gate tg ad mt d r) = zBl (zSr d (tC_gate tg ad mt d r)) := by
  have h2 : zx2 d r = 0 := h
  unfold rM_gate
  rw [if_neg (zrb_1 h2), t_gate]
  by_cases h3 : zSr d (tC_gate tg ad mt d r) = 0
  · rw [if_pos h3, h3]
  · rw [if_neg h3]
    unfold zBl
    rw [if_neg h3]
    rfl
theorem r_move (tg ad mt : Nat → Int32) (d r x : Int32) (h : xC_move tg ad mt d r x = 0) : zBl (rM_move tg ad mt d r x) = zBl (zSr d (tC_move tg ad mt d r x)) := by
  have h2 : zx2 d r = 0 := h
  unfold rM_move
  rw [if_neg (zrb_1 h2), t_move]
theorem r_seal (tg ad mt : Nat → Int32) (d r y : Int32) (h : xC_seal tg ad mt d r y = 0) : zBl (rM_seal tg ad mt d r y) = zBl (zSr d (tC_seal tg ad mt d r y)) := by
  have h2 : zx3 d r y = 0 := h
  unfold rM_seal
  rw [if_neg (zrb_1 h2), t_seal]
theorem r_unseal (tg ad mt : Nat → Int32) (d r y : Int32) (h : xC_unseal tg ad mt d r y = 0) : zBl (rM_unseal tg ad mt d r y) = zBl (zSr d (tC_unseal tg ad mt d r y)) := by
  rw [xu_3] at h
  unfold rM_unseal
  rw [if_neg (zrb_1 h), t_unseal]
theorem r_build (tg ad mt : Nat → Int32) (d r y : Int32) (h : xC_build tg ad mt d r y = 0) : zBl (rM_build tg ad mt d r y) = zBl (zSr d (tC_build tg ad mt d r y)) := by
  have h2 : zx3 d r y = 0 := h
  unfold rM_build
  rw [if_neg (zrb_1 h2), t_build]
theorem r_subset (tg ad mt : Nat → Int32) (r y : Int32) (h : xC_subset tg ad mt r y = 0) : zBl (rM_subset tg ad mt r y) = zBl (fC_subset tg ad mt r y) := by
  rw [xs_2] at h
  have h1 := h
  unfold zx2 at h1
  have a1 : ¬ fC_isRegister y = 0 := by
    intro g
    rw [if_pos g] at h1
    exact absurd h1 (by decide)
  have a2 : ¬ fC_isRegister r = 0 := by
    intro g
    rw [if_neg a1, if_pos g] at h1
    exact absurd h1 (by decide)
  unfold rM_subset fC_subset
  rw [if_neg (zrb_1 h), if_neg a1, if_neg a2, e_wi]
theorem r_reaches (tg ad mt : Nat → Int32) (r x n : Int32) (h : xC_reaches tg ad mt r x n = 0) : zBl (rM_reaches tg ad mt r x n) = zBl (fC_isInBounds tg ad mt r (fC_unsigned x) n.toInt64) := by
  unfold xC_reaches at h
  have a1 : ¬ fC_isRegister r = 0 := by
    intro g
    rw [if_pos g] at h
    exact absurd h (by decide)
  rw [if_neg a1] at h
  have a2 : ¬ n < 0 := by
    intro g
    rw [if_pos g] at h
    exact absurd h (by decide)
  rw [if_neg a2] at h
  have a3 : n ≤ (4096 : Int32) := Decidable.byContradiction (fun g => by
    rw [if_neg g] at h
    exact absurd h (by decide))
  have h1 : zx1 r = 0 := by
    unfold zx1
    rw [if_neg a1]
  unfold rM_reaches
  rw [if_neg (zrb_1 h1), if_neg a2, if_pos a3, e_inn tg ad mt, e_low]
  by_cases h3 : fC_isInBounds tg ad mt r (fC_unsigned x) n.toInt64 = 0
  · rw [if_pos h3, h3]
  · rw [if_neg h3]
    unfold zBl
    rw [if_neg h3]
    rfl
theorem z_L0 : (0 : Int64).toInt = 0 := by decide
theorem z_L32 : (4294967296 : Int64).toInt = 4294967296 := by decide
theorem z_fits (b : Int32) (n : Int64) : fC_fitsSpace b n = 0 ↔ ¬ (0 ≤ n.toInt ∧ kA b + n.toInt ≤ 4294967296) := by
  have hb := kA_in b
  have e : (4294967296 : Int64) - zL (kA b) = zL (4294967296 - kA b) := zL_sub 4294967296 (kA b)
  have e2 : (zL (4294967296 - kA b)).toInt = 4294967296 - kA b := zL_int (by omega) (by omega)
  have e0 := z_L0
  unfold fC_fitsSpace
  rw [eC_uns, e]
  by_cases h1 : n < 0
  · have h1' := Int64.lt_iff_toInt_lt.mp h1
    rw [if_pos h1]
    constructor
    · intro _
      omega
    · intro _
      rfl
  · have h1' : ¬ n.toInt < (0 : Int64).toInt := fun g => h1 (Int64.lt_iff_toInt_lt.mpr g)
    rw [if_neg h1]
    by_cases h2 : zL (4294967296 - kA b) < n
    · have h2' := Int64.lt_iff_toInt_lt.mp h2
      rw [if_pos h2]
      constructor
      · intro _
        omega
      · intro _
        rfl
    · have h2' : ¬ (zL (4294967296 - kA b)).toInt < n.toInt := fun g => h2 (Int64.lt_iff_toInt_lt.mpr g)
      rw [if_neg h2]
      constructor
      · intro g
        exact absurd g (by decide)
      · intro g
        omega
theorem y_ln (b : Int32) (n : Int64) : fC_unsigned b + n = zL (kA b + n.toInt) := by
  rw [eC_uns]
  have h := zL_add (kA b) n.toInt
  rwa [zL_of] at h
theorem y_p1 {α : Type} (b : Int32) (n : Int64) (c v : α) : (if n < (0 : Int64) then c else (if (4294967296 : Int64) < n then c else (if ((fM_low b) + n) ≤ (4294967296 : Int64) then v else c))) = if fC_fitsSpace b n = 0 then c else v := by
  have hb := kA_in b
  have e0 := z_L0
  have e1 := z_L32
  rw [e_low, y_ln]
  by_cases hf : 0 ≤ n.toInt ∧ kA b + n.toInt ≤ 4294967296
  · have e2 : (zL (kA b + n.toInt)).toInt = kA b + n.toInt := zL_int (by omega) (by omega)
    rw [if_neg (fun g => absurd (Int64.lt_iff_toInt_lt.mp g) (by omega)), if_neg (fun g => absurd (Int64.lt_iff_toInt_lt.mp g) (by omega)), if_pos (Int64.le_iff_toInt_le.mpr (by omega)), if_neg (fun g => (z_fits b n).mp g hf)]
  · rw [if_pos ((z_fits b n).mpr hf)]
    by_cases h1 : n < 0
    · rw [if_pos h1]
    · have h1' : ¬ n.toInt < (0 : Int64).toInt := fun g => h1 (Int64.lt_iff_toInt_lt.mpr g)
      rw [if_neg h1]
      by_cases h2 : (4294967296 : Int64) < n
      · rw [if_pos h2]
      · have h2' : ¬ (4294967296 : Int64).toInt < n.toInt := fun g => h2 (Int64.lt_iff_toInt_lt.mpr g)
        have e2 : (zL (kA b + n.toInt)).toInt = kA b + n.toInt := zL_int (by omega) (by omega)
        rw [if_neg h2, if_neg (fun g => absurd (Int64.le_iff_toInt_le.mp g) (by omega))]
theorem y_p2 {α : Type} (b : Int32) (n : Int64) (c v : α) : (if n < (0 : Int64) then c else (if (4294967296 : Int64) < n then c else (if (4294967296 : Int64) < ((fM_low b) + n) then c else v))) = if fC_fitsSpace b n = 0 then c else v := by
  rw [← y_p1]
  by_cases h : (4294967296 : Int64) < ((fM_low b) + n)
  · rw [if_pos h, if_neg (fun g => absurd (Int64.le_iff_toInt_le.mp g) (by have := Int64.lt_iff_toInt_lt.mp h; omega))]
  · rw [if_neg h, if_pos (Int64.le_iff_toInt_le.mpr (by have h2 : ¬ (4294967296 : Int64).toInt < ((fM_low b) + n).toInt := fun g => h (Int64.lt_iff_toInt_lt.mpr g); omega))]
theorem y_p3 {α : Type} (n : Int64) (c v : α) : (if n < (0 : Int64) then c else (if n ≤ (4294967296 : Int64) then v else c)) = if fC_fitsSpace 0 n = 0 then c else v := by
  have hb : kA 0 = 0 := by decide
  have e0 := z_L0
  have e1 := z_L32
  by_cases hf : 0 ≤ n.toInt ∧ kA 0 + n.toInt ≤ 4294967296
  · rw [if_neg (fun g => absurd (Int64.lt_iff_toInt_lt.mp g) (by omega)), if_pos (Int64.le_iff_toInt_le.mpr (by omega)), if_neg (fun g => (z_fits 0 n).mp g hf)]
  · rw [if_pos ((z_fits 0 n).mpr hf)]
    by_cases h1 : n < 0
    · rw [if_pos h1]
    · have h1' : ¬ n.toInt < (0 : Int64).toInt := fun g => h1 (Int64.lt_iff_toInt_lt.mpr g)
      rw [if_neg h1, if_neg (fun g => absurd (Int64.le_iff_toInt_le.mp g) (by omega))]
theorem x_pack (tg ad mt : Nat → Int32) (b : Int32) (n : Int64) : xM_packI tg ad mt b n = xC_pack tg ad mt b n := by
  unfold xM_packI xC_pack
  rw [ite_self, y_p1]
theorem z_fit {b : Int32} {n : Int64} (h : ¬ fC_fitsSpace b n = 0) : 0 ≤ n.toInt ∧ kA b + n.toInt ≤ 4294967296 := Decidable.byContradiction (fun g => h ((z_fits b n).mpr g))
theorem r_pack (tg ad mt : Nat → Int32) (b : Int32) (n : Int64) (h : xC_pack tg ad mt b n = 0) : rM_packI tg ad mt b n = fC_packed (fC_unsigned b) (fC_unsigned b + n) := by
  have hb := kA_in b
  unfold xC_pack at h
  have a1 : ¬ fC_fitsSpace b n = 0 := by
    intro g
    rw [if_pos g] at h
    exact absurd h (by decide)
  have f := z_fit a1
  have h1 := kPk_in hb.1 (show kA b ≤ kA b + n.toInt by omega) f.2
  unfold rM_packI
  rw [y_p1, if_neg a1, y_ln, eC_uns, eC_packed hb.1 (by omega) f.2]
  by_cases hx : zEx (kA b) (kA b + n.toInt) = 0
  · rw [if_pos hx, (kX_ex _ _).mpr hx, Int.add_zero]
    exact Int32.or_zero
  · have hk : kX (kA b) (kA b + n.toInt) = 32768 := (kX_in _ _).resolve_left (fun g => hx ((kX_ex _ _).mp g))
    have e : (32768 : Int32) = zI 32768 := by decide
    rw [if_neg hx, hk, Int32.or_comm, e, zI_or 15 (by decide) _ _ (P := 32768) rfl (by decide) h1.1 h1.2, Int.add_comm]
theorem r_bound (tg ad mt : Nat → Int32) (z a y : Int32) : rM_bound tg ad mt z a y = fC_bound tg ad mt z a y := by
  have h : (z &&& (32767 : Int32)) &&& (32767 : Int32) = z &&& (32767 : Int32) := by
    rw [Int32.and_assoc]
    rfl
  have k := k_low2 (z_low h) (kA a)
  unfold rM_bound fC_bound
  rw [eM_base, eM_top, eC_baseOf, eC_topOf, k.1, k.2]
theorem x_rounded (tg ad mt : Nat → Int32) (n : Int64) (y : Int32) : xM_rounded tg ad mt n y = xC_rounded tg ad mt n y := by
  unfold xM_rounded xC_rounded
  simp only [ite_self]
  exact y_p3 _ _ _
theorem pk_m {b t : Int} (h0 : 0 ≤ b) (hbt : b ≤ t) (ht : t ≤ 4294967296) : (fC_packed (zL b) (zL t)).toInt % 32768 = kPk b t := by
  have h1 := kPk_in h0 hbt ht
  have h := pk_low h0 hbt ht
  rw [z_15, zI_eq (by omega) (by omega) (by omega) (by omega)] at h
  exact h
theorem r_rounded (tg ad mt : Nat → Int32) (n : Int64) (y : Int32) (h : xC_rounded tg ad mt n y = 0) : rM_rounded tg ad mt n y = fC_rounded tg ad mt n y := by
  unfold xC_rounded at h
  simp only [ite_self] at h
  have a1 : ¬ fC_fitsSpace 0 n = 0 := by
    intro g
    rw [if_pos g] at h
    exact absurd h (by decide)
  have f := z_fit a1
  have k0 : kA 0 = 0 := by decide
  have hn0 := f.1
  have hn1 : n.toInt ≤ 4294967296 := by omega
  have m := pk_m (Int.le_refl 0) hn0 hn1
  have h1 := kPk_in (Int.le_refl 0) hn0 hn1
  have en : fC_packed (0 : Int64) n = fC_packed (zL 0) (zL n.toInt) := by
    rw [zL_of]
    rfl
  have k := k_rt (Int.le_refl 0) (by decide) hn0 hn1 m
  have f0 : kFr 0 n.toInt = 0 := by
    unfold kFr
    split
    · rfl
    · have g1 := kRd_in (kF 0 n.toInt) 0
      have g2 := kRd_0 (kF 0 n.toInt) (Int.le_refl 0)
      omega
  have kz : (zI (kPk 0 n.toInt)).toInt = kPk 0 n.toInt := zI_int (by omega) (by omega)
  have lo := k_low (z := kPk 0 n.toInt) (z' := (fC_packed (zL 0) (zL n.toInt)).toInt) (by rw [m]; omega)
  unfold rM_rounded fC_rounded
  rw [y_p3, if_neg a1, if_neg a1, en]
  by_cases hy : y = 0
  · rw [if_pos hy, if_pos hy, eC_topOf, k0, k.2, f0, Int.sub_zero]
  · rw [if_neg hy, if_neg hy, eM_scale, eC_exp, kz, lo.2.1]
    by_cases hi : kIE (fC_packed (zL 0) (zL n.toInt)).toInt = 0
    · rw [if_pos ((z_14 _).mpr hi)]
      rw [← lo.1] at hi
      unfold kIE at hi
      rw [zs_14, kz, show kPk 0 n.toInt / 16384 = 0 by omega, if_pos (by decide)]
    · rw [if_neg (fun g => hi ((z_14 _).mp g))]
      rw [← lo.1] at hi
      unfold kIE at hi
      rw [zs_14, kz, show kPk 0 n.toInt / 16384 = 1 by omega, if_neg (by decide)]
theorem x_root (tg ad mt : Nat → Int32) (nr r b : Int32) (n : Int64) (y : Int32) (in8 : nr ≤ (8 : Int32)) : xM_root tg ad mt nr r b n y = xC_root tg ad mt nr r b n y := by
  have e31 : (31 : Int32).toInt = 31 := by decide
  have e32 : (32 : Int32).toInt = 32 := by decide
  have e8 : (8 : Int32).toInt = 8 := by decide
  have i8 := Int32.le_iff_toInt_le.mp in8
  unfold xM_root xC_root
  rw [y_p2]
  by_cases h1 : r < 1
  · rw [if_pos h1, if_pos h1]
  · rw [if_neg h1, if_neg h1]
    by_cases h2 : r ≤ 31
    · have h2' := Int32.le_iff_toInt_le.mp h2
      rw [if_pos h2, if_pos (Int32.lt_iff_toInt_lt.mpr (show r.toInt < (32 : Int32).toInt by omega))]
      by_cases h3 : nr = 8
      · subst h3
        rfl
      · have h4 : nr < 8 := Int32.lt_iff_toInt_lt.mpr (by
          have h5 : ¬ nr.toInt = (8 : Int32).toInt := fun g => h3 (Int32.toInt_inj.mp g)
          omega)
        rw [if_neg h3, if_pos h4]
    · have h2' : ¬ r.toInt ≤ (31 : Int32).toInt := fun g => h2 (Int32.le_iff_toInt_le.mpr g)
      rw [if_neg h2, if_neg (fun g => absurd (Int32.lt_iff_toInt_lt.mp g) (by omega))]
