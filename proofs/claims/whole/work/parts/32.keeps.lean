/-! The metas, the tags of narrow, and what every writer keeps. -/
theorem m_unseal (tg ad mt : Nat → Int32) (d r y : Int32) : fM_withPerms (fM_withType (mt r.toNatClampNeg) (15 : Int32)) (uM_unseal tg ad mt d r y) = mC_unseal tg ad mt d r y := by
  unfold uM_unseal mC_unseal
  rw [e_has0, e_wt]
  by_cases h : fC_hasPerm tg ad mt y (1 : Int32) = 0
  · rw [if_pos h, if_pos h, m_unseal2]
  · rw [if_neg h, if_neg h, m_unseal1]
theorem t_narrow {tg ad mt : Nat → Int32} (hI : zInv tg ad mt) (d r n y : Int32) (hr : vp_in r 32) : tM_narrow tg ad mt d r n y = tC_narrow tg ad mt d r n y := by
  have hz := zInv_at hI hr
  have ha := kA_in (ad r.toNatClampNeg)
  have hn := kA_in n
  have hk := kNt_in (ad r.toNatClampNeg) n
  have e32 : (4294967296 : Int64) = zL 4294967296 := by decide
  have n10 : ¬ (1 : Int32) = 0 := by decide
  unfold tM_narrow tC_narrow
  rw [z_min, eC_uns (ad r.toNatClampNeg)]
  have hx := pk_x ha.1 hk.1 hk.2
  rw [← eC_uns (ad r.toNatClampNeg)] at hx ⊢
  unfold fC_isOpenWithTag fC_isInBounds
  rw [e_open, e_base, e_top, e_low, e_low]
  by_cases h1 : tg r.toNatClampNeg = 0
  · rw [if_pos h1, if_pos h1, if_pos rfl]
  · have h1' : tg r.toNatClampNeg = 1 := hz.1.resolve_left h1
    have ht := hz.2 h1'
    have hi := kTop_in (mt r.toNatClampNeg).toInt (kA (ad r.toNatClampNeg))
    rw [if_neg h1, if_neg h1]
    by_cases h2 : fC_typeOf (mt r.toNatClampNeg) = (15 : Int32)
    · rw [if_pos h2, if_neg n10]
      by_cases h3 : fC_unsigned (ad r.toNatClampNeg) < fC_baseIn tg ad mt r
      · have h3' : fC_unsigned (ad r.toNatClampNeg) < fC_baseOf (mt r.toNatClampNeg) (ad r.toNatClampNeg) := h3
        rw [if_neg n10, if_pos h3, if_pos h3', if_pos rfl]
      · have h3' : ¬ fC_unsigned (ad r.toNatClampNeg) < fC_baseOf (mt r.toNatClampNeg) (ad r.toNatClampNeg) := h3
        rw [if_neg n10, if_neg h3, if_neg h3']
        by_cases h4 : fC_topIn tg ad mt r < fC_unsigned (ad r.toNatClampNeg) + fC_unsigned n
        · have h4' : fC_topOf (mt r.toNatClampNeg) (ad r.toNatClampNeg) < fC_unsigned (ad r.toNatClampNeg) + fC_unsigned n := h4
          rw [if_pos h4, if_pos h4', if_pos rfl]
        · have h4' : ¬ fC_topOf (mt r.toNatClampNeg) (ad r.toNatClampNeg) < fC_unsigned (ad r.toNatClampNeg) + fC_unsigned n := h4
          have h5 : ¬ (4294967296 : Int64) < fC_unsigned (ad r.toNatClampNeg) + fC_unsigned n := by
            rw [eC_topOf, eC_uns, eC_uns, zL_add, zL_lt (by omega) (by omega) (by omega) (by omega)] at h4'
            rw [eC_uns, eC_uns, zL_add, e32, zL_lt (by omega) (by omega) (by omega) (by omega)]
            omega
          rw [if_neg h4, if_neg h4', if_neg h5, if_neg n10]
          by_cases h6 : zEx (kA (ad r.toNatClampNeg)) (kNt (ad r.toNatClampNeg) n) = 0
          · rw [if_pos h6, if_pos (hx.mpr h6)]
          · rw [if_neg h6, if_neg (fun g => h6 (hx.mp g)), ite_self]
    · rw [if_neg h2, if_pos rfl, if_pos rfl]
theorem r_narrow {tg ad mt : Nat → Int32} (hI : zInv tg ad mt) (d r n y : Int32) (h : xC_narrow tg ad mt d r n y = 0) : zBl (rM_narrow tg ad mt d r n y) = zBl (zSr d (tC_narrow tg ad mt d r n y)) := by
  have h2 : zx2 d r = 0 := h
  have hr : ¬ fC_isRegister r = 0 := by
    intro g
    unfold zx2 at h2
    rw [if_pos g] at h2
    exact absurd h2 (by decide)
  unfold rM_narrow
  rw [if_neg (zrb_1 h2), ite_self, t_narrow hI d r n y (zz_reg hr)]
theorem v_keep {tg ad mt : Nat → Int32} {d r y : Int32} (h : xC_keep tg ad mt d r y = 0) : vp_in r 32 := by
  refine zz_reg (fun g => ?_)
  unfold xC_keep at h
  rw [if_pos g] at h
  exact absurd h (by decide)
theorem v_seal {tg ad mt : Nat → Int32} {d r y : Int32} (h : xC_seal tg ad mt d r y = 0) : vp_in r 32 := by
  refine zz_reg (fun g => ?_)
  unfold xC_seal at h
  rw [if_pos g] at h
  exact absurd h (by decide)
theorem b_open (tg ad mt : Nat → Int32) (r : Int32) : fC_isOpenWithTag tg ad mt r = 0 ∨ (fC_isOpenWithTag tg ad mt r = 1 ∧ ¬ tg r.toNatClampNeg = 0) := by
  unfold fC_isOpenWithTag
  by_cases h1 : tg r.toNatClampNeg = 0
  · exact Or.inl (if_pos h1)
  · rw [if_neg h1]
    split
    · exact Or.inr ⟨rfl, h1⟩
    · exact Or.inl rfl
theorem b_if (p : Prop) [Decidable p] (x : Int32) (hx : x = 0 ∨ x = 1) : (if p then (0 : Int32) else x) = 0 ∨ (if p then (0 : Int32) else x) = 1 := by
  split
  · exact Or.inl rfl
  · exact hx
theorem b_ifn {p : Prop} [Decidable p] {x : Int32} (h : (if p then (0 : Int32) else x) = 1) : ¬ p ∧ x = 1 := by
  by_cases hp : p
  · rw [if_pos hp] at h
    exact absurd h (by decide)
  · rw [if_neg hp] at h
    exact ⟨hp, h⟩
theorem i_at {tg ad mt : Nat → Int32} (hI : zInv tg ad mt) {r : Int32} (hr : vp_in r 32) (h : ¬ tg r.toNatClampNeg = 0) : kTop (mt r.toNatClampNeg).toInt (kA (ad r.toNatClampNeg)) ≤ 4294967296 := (zInv_at hI hr).2 ((zInv_at hI hr).1.resolve_left h)
theorem i_put {tg ad mt : Nat → Int32} (hI : zInv tg ad mt) (d a z : Int32) : zInv (zS d 0 tg) (zS d a ad) (zS d z mt) := zInv_set hI (Or.inl rfl) (fun h => absurd h (by decide))
theorem i_keep {tg ad mt : Nat → Int32} (hI : zInv tg ad mt) {d r y : Int32} (h : xC_keep tg ad mt d r y = 0) : zInv (zS d (fC_isOpenWithTag tg ad mt r) tg) (zS d (ad r.toNatClampNeg) ad) (zS d ((mt r.toNatClampNeg) &&& (((y ^^^ (-1 : Int32)) <<< ((20 : Int32) &&& 31)) ^^^ (-1 : Int32))) mt) := by
  have b := b_open tg ad mt r
  refine zInv_set hI (b.elim Or.inl (fun g => Or.inr g.1)) (fun g => ?_)
  rw [z_lowT (w_keep _ _)]
  refine i_at hI (v_keep h) ?_
  rcases b with b | b
  · rw [b] at g
    exact absurd g (by decide)
  · exact b.2
theorem tw_gate {tg ad mt : Nat → Int32} {d r : Int32} : (tC_gate tg ad mt d r = 0 ∨ tC_gate tg ad mt d r = 1) ∧ (tC_gate tg ad mt d r = 1 → ¬ tg r.toNatClampNeg = 0) := by
  unfold tC_gate
  refine ⟨b_if _ _ (b_if _ _ (Or.inr rfl)), fun g => ?_⟩
  exact o_tag (b_ifn g).1
theorem i_gate {tg ad mt : Nat → Int32} (hI : zInv tg ad mt) {d r : Int32} (h : xC_gate tg ad mt d r = 0) : zInv (zS d (tC_gate tg ad mt d r) tg) (zS d (ad r.toNatClampNeg) ad) (zS d (fC_withType (mt r.toNatClampNeg) (14 : Int32)) mt) := by
  refine zInv_set hI tw_gate.1 (fun g => ?_)
  rw [z_lowT (w_type _ _)]
  exact i_at hI (v_keep (tg := tg) (ad := ad) (mt := mt) (y := 0) h) (tw_gate.2 g)
theorem tw_seal {tg ad mt : Nat → Int32} {d r y : Int32} : (tC_seal tg ad mt d r y = 0 ∨ tC_seal tg ad mt d r y = 1) ∧ (tC_seal tg ad mt d r y = 1 → ¬ tg r.toNatClampNeg = 0) := by
  unfold tC_seal
  refine ⟨b_if _ _ (b_if _ _ (b_if _ _ (Or.inr rfl))), fun g => ?_⟩
  exact o_tag (b_ifn g).1
theorem i_seal {tg ad mt : Nat → Int32} (hI : zInv tg ad mt) {d r y : Int32} (h : xC_seal tg ad mt d r y = 0) : zInv (zS d (tC_seal tg ad mt d r y) tg) (zS d (ad r.toNatClampNeg) ad) (zS d (fC_withType (mt r.toNatClampNeg) ((ad y.toNatClampNeg) &&& (15 : Int32))) mt) := by
  refine zInv_set hI tw_seal.1 (fun g => ?_)
  rw [z_lowT (w_type _ _)]
  exact i_at hI (v_seal h) (tw_seal.2 g)
theorem tw_unseal {tg ad mt : Nat → Int32} {d r y : Int32} : (tC_unseal tg ad mt d r y = 0 ∨ tC_unseal tg ad mt d r y = 1) ∧ (tC_unseal tg ad mt d r y = 1 → ¬ tg r.toNatClampNeg = 0) := by
  unfold tC_unseal
  refine ⟨b_if _ _ (b_if _ _ ?_), fun g => (b_ifn g).1⟩
  split
  · exact b_if _ _ (Or.inr rfl)
  · exact Or.inl rfl
theorem w_unseal (tg ad mt : Nat → Int32) (d r y : Int32) : mC_unseal tg ad mt d r y &&& (32767 : Int32) = (mt r.toNatClampNeg) &&& (32767 : Int32) := by
  unfold mC_unseal
  split
  · rw [w_20, w_type]
  · rw [w_type]
theorem i_unseal {tg ad mt : Nat → Int32} (hI : zInv tg ad mt) {d r y : Int32} (h : xC_unseal tg ad mt d r y = 0) : zInv (zS d (tC_unseal tg ad mt d r y) tg) (zS d (ad r.toNatClampNeg) ad) (zS d (mC_unseal tg ad mt d r y) mt) := by
  refine zInv_set hI tw_unseal.1 (fun g => ?_)
  rw [z_lowT (w_unseal _ _ _ _ _ _)]
  rw [xu_3] at h
  exact i_at hI (v_seal (tg := tg) (ad := ad) (mt := mt) h) (tw_unseal.2 g)
theorem i_move {tg ad mt : Nat → Int32} (hI : zInv tg ad mt) {d r x : Int32} (h : xC_move tg ad mt d r x = 0) : zInv (zS d (tC_move tg ad mt d r x) tg) (zS d x ad) (zS d (mt r.toNatClampNeg) mt) := by
  have b : tC_move tg ad mt d r x = 0 ∨ tC_move tg ad mt d r x = 1 := by
    unfold tC_move
    exact b_if _ _ (b_if _ _ (Or.inr rfl))
  refine zInv_set hI b (fun g => ?_)
  unfold tC_move at g
  have g1 := b_ifn g
  have g2 := (b_ifn g1.2).1
  have i1 := i_at hI (v_keep (tg := tg) (ad := ad) (mt := mt) (y := 0) h) (o_tag g1.1)
  have j1 := kTop_in (mt r.toNatClampNeg).toInt (kA x)
  have j2 := kTop_in (mt r.toNatClampNeg).toInt (kA (ad r.toNatClampNeg))
  unfold tC_moveS at g2
  by_cases h1 : fC_baseOf (mt r.toNatClampNeg) x = fC_baseIn tg ad mt r
  · rw [if_pos h1] at g2
    by_cases h2 : fC_topOf (mt r.toNatClampNeg) x = fC_topIn tg ad mt r
    · rw [t_in, eC_topOf, zL_eq (by omega) (by omega) (by omega) (by omega)] at h2
      omega
    · rw [if_neg h2] at g2
      exact absurd rfl g2
  · rw [if_neg h1] at g2
    exact absurd rfl g2
theorem i_build {tg ad mt : Nat → Int32} (hI : zInv tg ad mt) {d r y : Int32} (h : xC_build tg ad mt d r y = 0) : zInv (zS d (tC_build tg ad mt d r y) tg) (zS d (ad y.toNatClampNeg) ad) (zS d (fC_withType (mt y.toNatClampNeg) (uC_build tg ad mt d r y)) mt) := by
  have b : tC_build tg ad mt d r y = 0 ∨ tC_build tg ad mt d r y = 1 := by
    unfold tC_build
    exact b_if _ _ (b_if _ _ (b_if _ _ (Or.inr rfl)))
  refine zInv_set hI b (fun g => ?_)
  rw [z_lowT (w_type _ _)]
  unfold tC_build at g
  have g1 := b_ifn g
  have g2 := b_ifn (b_ifn g1.2).2
  have i1 := i_at hI (v_seal (tg := tg) (ad := ad) (mt := mt) h) (o_tag g1.1)
  have j1 := kTop_in (mt y.toNatClampNeg).toInt (kA (ad y.toNatClampNeg))
  have j2 := kTop_in (mt r.toNatClampNeg).toInt (kA (ad r.toNatClampNeg))
  have g3 := g2.1
  unfold fC_isWithin at g3
  have g4 : ¬ fC_topIn tg ad mt r < fC_topIn tg ad mt y := by
    intro h4
    by_cases h1 : fC_baseIn tg ad mt y < fC_baseIn tg ad mt r
    · rw [if_pos h1] at g3
      exact g3 rfl
    · rw [if_neg h1, if_pos h4] at g3
      exact g3 rfl
  rw [t_in, t_in, zL_lt (by omega) (by omega) (by omega) (by omega)] at g4
  omega
theorem i_narrow {tg ad mt : Nat → Int32} (hI : zInv tg ad mt) (d r n y : Int32) : zInv (zS d (tC_narrow tg ad mt d r n y) tg) (zS d (ad r.toNatClampNeg) ad) (zS d (((mt r.toNatClampNeg) &&& (-32768 : Int32)) ||| zI (kPk (kA (ad r.toNatClampNeg)) (kNt (ad r.toNatClampNeg) n))) mt) := by
  have b : tC_narrow tg ad mt d r n y = 0 ∨ tC_narrow tg ad mt d r n y = 1 := by
    unfold tC_narrow
    refine b_if _ _ (b_if _ _ ?_)
    split
    · exact Or.inr rfl
    · exact b_if _ _ (Or.inr rfl)
  have h1 := kA_in (ad r.toNatClampNeg)
  have h2 := kNt_in (ad r.toNatClampNeg) n
  have p := kPk_in h1.1 h2.1 h2.2
  exact zInv_set hI b (fun _ => top_le h1.1 h1.2 h2.1 h2.2 (w_narrow _ p.1 p.2))
theorem v_root {tg ad mt : Nat → Int32} {nr r b : Int32} {n : Int64} {y : Int32} (h : xC_root tg ad mt nr r b n y = 0) : ¬ r < 1 ∧ ¬ fC_fitsSpace b n = 0 ∧ nr < 8 := by
  unfold xC_root at h
  have a1 : ¬ r < 1 := by
    intro g
    rw [if_pos g] at h
    exact absurd h (by decide)
  rw [if_neg a1] at h
  have a2 : r < 32 := Decidable.byContradiction (fun g => by
    rw [if_neg g] at h
    exact absurd h (by decide))
  rw [if_pos a2] at h
  have a3 : ¬ fC_fitsSpace b n = 0 := by
    intro g
    rw [if_pos g] at h
    exact absurd h (by decide)
  rw [if_neg a3] at h
  have a4 : ¬ y < 0 := by
    intro g
    rw [if_pos g] at h
    exact absurd h (by decide)
  rw [if_neg a4] at h
  have a5 : y ≤ 4095 := Decidable.byContradiction (fun g => by
    rw [if_neg g] at h
    exact absurd h (by decide))
  rw [if_pos a5] at h
  have a6 : nr < 8 := Decidable.byContradiction (fun g => by
    rw [if_neg g] at h
    exact absurd h (by decide))
  exact ⟨a1, a3, a6⟩
theorem m_root {b : Int32} {n : Int64} (h : ¬ fC_fitsSpace b n = 0) : fC_packed (fC_unsigned b) (fC_unsigned b + n) &&& (32767 : Int32) = zI (kPk (kA b) (kA b + n.toInt)) := by
  have hb := kA_in b
  have f := z_fit h
  rw [y_ln, eC_uns, pk_low hb.1 (by omega) f.2]
theorem zS_self {r : Int32} (h : ¬ r < 1) (x : Int32) (f : Nat → Int32) : zS r x f r.toNatClampNeg = x := by
  rw [zS_at]
  have h0 : ¬ r = 0 := by
    intro g
    subst g
    exact h (by decide)
  rw [if_neg h0, if_pos rfl]
theorem g_rootB {r : Int32} (h : ¬ r < 1) (tg ad mt : Nat → Int32) (b : Int32) : fM_base (mt r.toNatClampNeg) b = fC_baseIn tg (zS r b ad) mt r := by
  unfold fC_baseIn
  rw [zS_self h, e_base]
theorem g_rootT {r : Int32} (h : ¬ r < 1) (tg ad mt : Nat → Int32) (b : Int32) : fM_top (mt r.toNatClampNeg) b = fC_topIn tg (zS r b ad) mt r := by
  unfold fC_topIn
  rw [zS_self h, e_top]
theorem i_root {tg ad mt : Nat → Int32} (hI : zInv tg ad mt) (r b : Int32) (n : Int64) (y : Int32) (h : ¬ fC_fitsSpace b n = 0) : zInv (zS r 1 tg) (zS r b ad) (zS r (((y <<< ((20 : Int32) &&& 31)) ||| (983040 : Int32)) ||| zI (kPk (kA b) (kA b + n.toInt))) mt) := by
  have hb := kA_in b
  have f := z_fit h
  have p := kPk_in hb.1 (show kA b ≤ kA b + n.toInt by omega) f.2
  exact zInv_set hI (Or.inr rfl) (fun _ => top_le hb.1 hb.2 (by omega) f.2 (w_root _ p.1 p.2))
theorem r_root {tg ad mt : Nat → Int32} {nr r b : Int32} {n : Int64} {y : Int32} (in8 : nr ≤ (8 : Int32)) (h : xC_root tg ad mt nr r b n y = 0) : rM_root tg ad mt nr r b n y = (fM_base ((zS r (((y <<< ((20 : Int32) &&& 31)) ||| (983040 : Int32)) ||| (zI (kPk (kA b) (kA b + n.toInt)))) mt) r.toNatClampNeg) b).toInt32 := by
  have hx := x_root tg ad mt nr r b n y in8
  rw [h] at hx
  unfold xM_root at hx
  unfold rM_root
  by_cases a1 : r < 1
  · rw [if_pos a1] at hx
    exact absurd hx (by decide)
  rw [if_neg a1] at hx ⊢
  have a2 : r ≤ 31 := Decidable.byContradiction (fun g => by
    rw [if_neg g] at hx
    exact absurd hx (by decide))
  rw [if_pos a2] at hx ⊢
  rw [y_p2] at hx ⊢
  by_cases a3 : fC_fitsSpace b n = 0
  · rw [if_pos a3] at hx
    exact absurd hx (by decide)
  rw [if_neg a3] at hx ⊢
  by_cases a4 : y < 0
  · rw [if_pos a4] at hx
    exact absurd hx (by decide)
  rw [if_neg a4] at hx ⊢
  have a5 : y ≤ 4095 := Decidable.byContradiction (fun g => by
    rw [if_neg g] at hx
    exact absurd hx (by decide))
  rw [if_pos a5] at hx ⊢
  by_cases a6 : nr = 8
  · rw [if_pos a6] at hx
    exact absurd hx (by decide)
  rw [if_neg a6]
theorem n_root {nr : Int32} {N : Nat} (hN : nr = zI (N : Nat)) (hN8 : N ≤ 8) (h : nr < 8) : nr + 1 = zI ((N + 1 : Nat) : Int) ∧ N + 1 ≤ 8 := by
  have e8 : (8 : Int32) = zI 8 := by decide
  have e1 : (1 : Int32) = zI 1 := by decide
  rw [hN, e8, zI_lt (by omega) (by omega) (by omega) (by omega)] at h
  refine ⟨?_, by omega⟩
  rw [hN, e1, zI_add]
  congr 1
theorem n_8 {nr : Int32} {N : Nat} (hN : nr = zI (N : Nat)) (hN8 : N ≤ 8) : ¬ nr < (0 : Int32) ∧ nr ≤ (8 : Int32) := by
  have e8 : (8 : Int32) = zI 8 := by decide
  have e0 : (0 : Int32) = zI 0 := by decide
  rw [hN, e8, e0, zI_lt (by omega) (by omega) (by omega) (by omega), zI_le (by omega) (by omega) (by omega) (by omega)]
  omega
theorem i_zero (mt : Nat → Int32) : zInv (fun _ => 0) (fun _ => 0) mt := fun _ _ => ⟨Or.inl rfl, fun h => absurd (show (0 : Int32) = 1 from h) (by decide)⟩
