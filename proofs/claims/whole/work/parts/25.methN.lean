/-! The reference's other public methods. -/
theorem zz_r31 {r : Int32} (h1 : ¬ r < 0) (h2 : r ≤ (31 : Int32)) : vp_in r 32 := by
  rw [vp_in_iff]
  rw [Int32.lt_iff_toInt_lt] at h1
  rw [Int32.le_iff_toInt_le] at h2
  have e0 : (0 : Int32).toInt = 0 := by decide
  have e32 : (31 : Int32).toInt = 31 := by decide
  omega
theorem zz_r31' {r : Int32} (h1 : ¬ r < (1 : Int32)) (h2 : r ≤ (31 : Int32)) : vp_in r 32 := by
  rw [vp_in_iff]
  rw [Int32.lt_iff_toInt_lt] at h1
  rw [Int32.le_iff_toInt_le] at h2
  have e0 : (1 : Int32).toInt = 1 := by decide
  have e32 : (31 : Int32).toInt = 31 := by decide
  omega
theorem zz_r8n {r : Int32} (h1 : ¬ r < (0 : Int32)) (h2 : r ≤ (8 : Int32)) (h3 : ¬ r = (8 : Int32)) : vp_in r 8 := by
  rw [vp_in_iff]
  rw [Int32.lt_iff_toInt_lt] at h1
  rw [Int32.le_iff_toInt_le] at h2
  rw [← Int32.toInt_inj] at h3
  have e0 : (0 : Int32).toInt = 0 := by decide
  have e32 : (8 : Int32).toInt = 8 := by decide
  omega
theorem zz_sw7 {y : Int32} (h0 : ¬ y = (0 : Int32)) (h1 : ¬ y = (1 : Int32)) (h2 : ¬ y = (2 : Int32)) (h3 : ¬ y = (3 : Int32)) (h4 : ¬ y = (4 : Int32)) (h5 : ¬ y = (5 : Int32)) (h6 : ¬ y = (6 : Int32)) : y.toInt < 0 ∨ 6 < y.toInt := by
  rw [← Int32.toInt_inj] at h0 h1 h2 h3 h4 h5 h6
  have e0 : (0 : Int32).toInt = 0 := by decide
  have e1 : (1 : Int32).toInt = 1 := by decide
  have e2 : (2 : Int32).toInt = 2 := by decide
  have e3 : (3 : Int32).toInt = 3 := by decide
  have e4 : (4 : Int32).toInt = 4 := by decide
  have e5 : (5 : Int32).toInt = 5 := by decide
  have e6 : (6 : Int32).toInt = 6 := by decide
  omega
theorem z_ln (b : Int32) (n : Int64) : fM_low b + n = zL (kA b + n.toInt) := by
  have h := zL_add (kA b) n.toInt
  rw [zL_of] at h
  rw [eM_low]
  exact h
theorem z_n0 {n : Int64} (h : ¬ n < (0 : Int64)) : 0 ≤ n.toInt := by
  rw [Int64.lt_iff_toInt_lt] at h
  have e0 : (0 : Int64).toInt = 0 := by decide
  omega
theorem z_n32 {n : Int64} (h : n ≤ (4294967296 : Int64)) : n.toInt ≤ 4294967296 := by
  rw [Int64.le_iff_toInt_le] at h
  have e0 : (4294967296 : Int64).toInt = 4294967296 := by decide
  omega
theorem z_n32' {n : Int64} (h : ¬ (4294967296 : Int64) < n) : n.toInt ≤ 4294967296 := by
  rw [Int64.lt_iff_toInt_lt] at h
  have e0 : (4294967296 : Int64).toInt = 4294967296 := by decide
  omega
theorem z_pp {b : Int32} {n : Int64} (h1 : ¬ n < (0 : Int64)) (h2 : ¬ (4294967296 : Int64) < n) (h3 : fM_low b + n ≤ (4294967296 : Int64)) : kA b + n.toInt ≤ 4294967296 := by
  have a1 := kA_in b
  have a2 := z_n0 h1
  have a3 := z_n32' h2
  have e : (4294967296 : Int64) = zL 4294967296 := by decide
  rw [z_ln, e, zL_le (by omega) (by omega) (by omega) (by omega)] at h3
  exact h3
theorem z_pp' {b : Int32} {n : Int64} (h1 : ¬ n < (0 : Int64)) (h2 : ¬ (4294967296 : Int64) < n) (h3 : ¬ (4294967296 : Int64) < fM_low b + n) : kA b + n.toInt ≤ 4294967296 := by
  have a1 := kA_in b
  have a2 := z_n0 h1
  have a3 := z_n32' h2
  have e : (4294967296 : Int64) = zL 4294967296 := by decide
  rw [z_ln, e, zL_lt (by omega) (by omega) (by omega) (by omega)] at h3
  omega
theorem z_p1 {b : Int32} {n : Int64} (h1 : ¬ n < (0 : Int64)) : kA b ≤ kA b + n.toInt := by
  have := z_n0 h1
  omega

def tM_narrow (tg : Nat → Int32) (ad : Nat → Int32) (mt : Nat → Int32) (d : Int32) (r : Int32) (n : Int32) (y : Int32) : Int32 := if (tg r.toNatClampNeg) = 0 then (0 : Int32) else (if (fM_isOpen tg ad mt r) = 0 then (0 : Int32) else (if (fM_low (ad r.toNatClampNeg)) < (fM_base (mt r.toNatClampNeg) (ad r.toNatClampNeg)) then (0 : Int32) else (if (fM_top (mt r.toNatClampNeg) (ad r.toNatClampNeg)) < ((fM_low (ad r.toNatClampNeg)) + (fM_low n)) then (0 : Int32) else (if (4294967296 : Int64) < ((fM_low (ad r.toNatClampNeg)) + (fM_low n)) then (0 : Int32) else (if (zEx (kA (ad r.toNatClampNeg)) (kNt (ad r.toNatClampNeg) n)) = 0 then (if y = 0 then (1 : Int32) else (0 : Int32)) else (1 : Int32))))))
theorem btM_narrow (tg : Nat → Int32) (ad : Nat → Int32) (mt : Nat → Int32) (d : Int32) (r : Int32) (n : Int32) (y : Int32) : tM_narrow tg ad mt d r n y = 0 ∨ tM_narrow tg ad mt d r n y = 1 := by
  unfold tM_narrow
  repeat' split
  all_goals first | exact Or.inl rfl | exact Or.inr rfl
def xM_narrow (tg : Nat → Int32) (ad : Nat → Int32) (mt : Nat → Int32) (d : Int32) (r : Int32) (n : Int32) (y : Int32) : Int32 := if (zRb (zx2 d r)) = 0 then (zx2 d r) else (if (4294967296 : Int64) ≤ ((fM_low (ad r.toNatClampNeg)) + (fM_low n)) then 0 else 0)
def rM_narrow (tg : Nat → Int32) (ad : Nat → Int32) (mt : Nat → Int32) (d : Int32) (r : Int32) (n : Int32) (y : Int32) : Int32 := if (zRb (zx2 d r)) = 0 then (0 : Int32) else (if (4294967296 : Int64) ≤ ((fM_low (ad r.toNatClampNeg)) + (fM_low n)) then (zSr d (tM_narrow tg ad mt d r n y)) else (zSr d (tM_narrow tg ad mt d r n y)))
set_option maxHeartbeats 4000000 in
set_option maxRecDepth 100000 in
theorem kM_narrow (l : Launch) {D : va_G} {q : Nat → Nat} {k : Nat → ClassId} {tg : Nat → Int32} {ad : Nat → Int32} {mt : Nat → Int32} {rb : Nat → Int64} {rt : Nat → Int64} {rp : Nat → Int32} {nr : Int32} {th : Int32} {pk : Int32} {ex : Int32} {ro : Int64} {A : Nat → Prop} (sz : Nat) (hA0 : ∀ q, sz ≤ q → A q) (d : Int32) (r : Int32) (n : Int32) (y : Int32) : Met l yM_narrow wM_narrow { frames := 4, cells := 1, slots := 2, locals := 99 } (va_Pc [.ref (q 0), .int d, .int r, .int n, .int y] (fun U => U.heap.size = sz ∧ va_P D zCl (mW q k tg ad mt rb rt rp nr th pk ex ro) U.heap ∧ va_K D zCl (zT k) U ∧ va_D A (mW q k tg ad mt rb rt rp nr th pk ex ro))) (va_Qi (fun v9 (_ : Unit) => xM_narrow tg ad mt d r n y = 0 → v9 = rM_narrow tg ad mt d r n y) (fun _ t => va_P D zCl (if xM_narrow tg ad mt d r n y = 0 then mW q k (zS d (tM_narrow tg ad mt d r n y) tg) (zS d (ad r.toNatClampNeg) ad) (zS d (((mt r.toNatClampNeg) &&& (-32768 : Int32)) ||| (zI (kPk (kA (ad r.toNatClampNeg)) (kNt (ad r.toNatClampNeg) n)))) mt) rb rt rp nr 0 (zI (kPk (kA (ad r.toNatClampNeg)) (kNt (ad r.toNatClampNeg) n))) (zEx (kA (ad r.toNatClampNeg)) (kNt (ad r.toNatClampNeg) n)) (zL (kTo (kA (ad r.toNatClampNeg)) (kNt (ad r.toNatClampNeg) n) - kFr (kA (ad r.toNatClampNeg)) (kNt (ad r.toNatClampNeg) n))) else mW q k tg ad mt rb rt rp nr (xM_narrow tg ad mt d r n y) pk ex ro) t.heap ∧ va_K D zCl (zT k) t ∧ va_D A (if xM_narrow tg ad mt d r n y = 0 then mW q k (zS d (tM_narrow tg ad mt d r n y) tg) (zS d (ad r.toNatClampNeg) ad) (zS d (((mt r.toNatClampNeg) &&& (-32768 : Int32)) ||| (zI (kPk (kA (ad r.toNatClampNeg)) (kNt (ad r.toNatClampNeg) n)))) mt) rb rt rp nr 0 (zI (kPk (kA (ad r.toNatClampNeg)) (kNt (ad r.toNatClampNeg) n))) (zEx (kA (ad r.toNatClampNeg)) (kNt (ad r.toNatClampNeg) n)) (zL (kTo (kA (ad r.toNatClampNeg)) (kNt (ad r.toNatClampNeg) n) - kFr (kA (ad r.toNatClampNeg)) (kNt (ad r.toNatClampNeg) n))) else mW q k tg ad mt rb rt rp nr (xM_narrow tg ad mt d r n y) pk ex ro)) A) 1 2 A := by
  refine Met.ofW (cc := cM_narrow) (maxL := 10) (ret := (some .boolean)) (by decide) rfl ?_
  intro p e s m args below meth c s₁ B hml hv
  obtain ⟨rfl, hsz, hP, hK, hD⟩ := hv
  have hx := B.exec
  have hb := B.bytes
  have hr := B.returns
  have hts := atoms_spec (ws := wM_narrow) B.pre
  have hq : ∀ w ∈ wA, w.before _ s = true := fun w h => hts w (List.mem_cons_of_mem _ h)
  have hown : s.vm.findClass "CapUnitModel" = some m.cls := findClass_of_methodNamed B.named
  have hlocks := B.notSynchronized
  have hS : va_S A s.heap s.heap [] := va_S.rf
  have hl := lv_entry ([.ref (q 0), .int d, .int r, .int n, .int y]) (n := 10) (Nat.le_of_ble_eq_true rfl)
  rw [lg_entry_eq]
  generalize (lg_sl ([.ref (q 0), .int d, .int r, .int n, .int y]) ++ List.replicate (10 - (lg_sl ([.ref (q 0), .int d, .int r, .int n, .int y])).length) Slot.unset).toArray = ls at hl ⊢
  have hl : lv_has ls 10 [(0, .ref (q 0)), (1, .int d), (2, .int r), (3, .int n), (4, .int y)] := hl
  have hA : ∀ q, s.heap.size ≤ q → A q := fun q h => hA0 q (by omega)
  refine lv_aload_n hx hb dM_narrow_0 rfl (lv_at hl 0 rfl) ?_
  refine lv_iconst (v := 2) hx hb dM_narrow_1 (by decide) ?_
  refine zn_i hx hb (hq _ q_42) hK hP hD hS hA (N' := 2) (by decide) (by decide) (by decide) (Nat.le_of_ble_eq_true rfl) (Nat.le_of_ble_eq_true rfl) dM_narrow_2 (fun a2 H hP hD hS => ?_)
  refine lv_dup hx hb dM_narrow_4 rfl ?_
  refine lv_iconst (v := 0) hx hb dM_narrow_5 (by decide) ?_
  refine lv_iload_n hx hb dM_narrow_6 rfl (lv_at hl 1 rfl) ?_
  refine va_iast hx hb hK hP hD hS 7 1 rfl rfl (show ¬ ((0 : Int32) < 0 ∨ 2 ≤ (0 : Int32).toNatClampNeg) by decide) dM_narrow_7 (fun H locs hP hD hS => ?_)
  have hP : va_P D zCl (mW q k tg ad mt rb rt rp nr th pk ex ro ++ [(a2, .inl (k 1, 2, .inl (upd (fun _ => (0 : Int32)) 0 d)))]) H := hP
  have hD : va_D A (mW q k tg ad mt rb rt rp nr th pk ex ro ++ [(a2, .inl (k 1, 2, .inl (upd (fun _ => (0 : Int32)) 0 d)))]) := hD
  refine lv_dup hx hb dM_narrow_8 rfl ?_
  refine lv_iconst (v := 1) hx hb dM_narrow_9 (by decide) ?_
  refine lv_iload_n hx hb dM_narrow_10 rfl (lv_at hl 2 rfl) ?_
  refine va_iast hx hb hK hP hD hS 7 1 rfl rfl (show ¬ ((1 : Int32) < 0 ∨ 2 ≤ (1 : Int32).toNatClampNeg) by decide) dM_narrow_11 (fun H locs hP hD hS => ?_)
  have hP : va_P D zCl (mW q k tg ad mt rb rt rp nr th pk ex ro ++ [(a2, .inl (k 1, 2, .inl (upd (upd (fun _ => (0 : Int32)) 0 d) 1 r)))]) H := hP
  have hD : va_D A (mW q k tg ad mt rb rt rp nr th pk ex ro ++ [(a2, .inl (k 1, 2, .inl (upd (upd (fun _ => (0 : Int32)) 0 d) 1 r)))]) := hD
  refine va_calli (va_runV (C := "CapUnitModel") (b := q 0) (As := [.ref a2]) (rest := []) ⟨hx, hb, hml, hown, hq⟩ (kM_is2 l a2 d r) (cwV 1 hq (wA_V q_462 q_464 sM_is q_2 q_465) rfl rfl rfl (by decide +kernel) ⟨Nat.le_of_ble_eq_true rfl, Nat.le_of_ble_eq_true rfl⟩) (zw_pre (c := zCl[1]) (q0 := 0) hK hP hD rfl rfl) rfl rfl hl.1 rfl (lv_room (Nat.le_of_ble_eq_true rfl)) dM_narrow_12 ⟨Nat.le_of_ble_eq_true rfl, Nat.le_of_ble_eq_true rfl⟩) hS (fun _ _ h9 => h9) (fun _ h9 => h9) (fun v9 u9 t9 H locs ht9 hvm9 hv9 hB9 hz9 hk9 hS => ?_)
  obtain ⟨hP, -, hD⟩ := hB9
  rw [ht9] at hP
  subst hv9
  clear hz9 hk9
  refine lv_if_ne (tgt := 20) hx hb dM_narrow_15 rfl (fun h1 => ?_) (fun h1 => ?_)
  · have e9 := zz_rb0 h1
    rw [e9] at hP hD
    have g9 := zz_x2 e9
    refine lv_aload_n hx hb dM_narrow_20 rfl (lv_at hl 0 rfl) ?_
    refine va_get (D := D) (ci := 1) (v := .ref (q 2)) (C := "CapUnitModel") (T := TM) (N := 11) hx hb hq uM_in hown hK hP 0 rfl rfl 1 (by decide) (hq _ q_371) (fun _ h9 => h9) rfl dM_narrow_21 ?_
    refine lv_iload_n hx hb dM_narrow_24 rfl (lv_at hl 2 rfl) ?_
    refine va_iald hx hb hK hP 2 1 rfl rfl (i := r) g9.2 dM_narrow_25 ?_
    refine zc_l (va_runS (As := [.int (ad r.toNatClampNeg)]) (rest := []) ⟨hx, hb, hml, hown, hq⟩ (kM_low l H (ad r.toNatClampNeg)) (va_cwS 1 hq (wA_S q_417 q_418 q_2 q_419) rfl rfl rfl (by decide +kernel) ⟨Nat.le_of_ble_eq_true rfl, Nat.le_of_ble_eq_true rfl⟩) ⟨fun a U g mk q => q, fun U hU hW => ⟨rfl, hU⟩⟩ rfl rfl hl.1 rfl (lv_room (Nat.le_of_ble_eq_true rfl)) dM_narrow_26 ⟨Nat.le_of_ble_eq_true rfl, Nat.le_of_ble_eq_true rfl⟩) hS (fun locs hS => ?_)
    refine lv_lstore (lv' := [(5, .long (fM_low (ad r.toNatClampNeg))), (0, .ref (q 0)), (1, .int d), (2, .int r), (3, .int n), (4, .int y)]) hx hb dM_narrow_29 hl (by decide) rfl (fun ls hl => ?_)
    refine lv_lload hx hb dM_narrow_31 (lv_at hl 0 rfl) ?_
    refine lv_iload_n hx hb dM_narrow_33 rfl (lv_at hl 4 rfl) ?_
    refine zc_l (va_runS (As := [.int n]) (rest := [.long (fM_low (ad r.toNatClampNeg))]) ⟨hx, hb, hml, hown, hq⟩ (kM_low l H n) (va_cwS 1 hq (wA_S q_417 q_418 q_2 q_419) rfl rfl rfl (by decide +kernel) ⟨Nat.le_of_ble_eq_true rfl, Nat.le_of_ble_eq_true rfl⟩) ⟨fun a U g mk q => q, fun U hU hW => ⟨rfl, hU⟩⟩ rfl rfl hl.1 rfl (lv_room (Nat.le_of_ble_eq_true rfl)) dM_narrow_34 ⟨Nat.le_of_ble_eq_true rfl, Nat.le_of_ble_eq_true rfl⟩) hS (fun locs hS => ?_)
    refine lv_ladd hx hb dM_narrow_37 ?_
    refine lv_lstore (lv' := [(7, .long ((fM_low (ad r.toNatClampNeg)) + (fM_low n))), (5, .long (fM_low (ad r.toNatClampNeg))), (0, .ref (q 0)), (1, .int d), (2, .int r), (3, .int n), (4, .int y)]) hx hb dM_narrow_38 hl (by decide) rfl (fun ls hl => ?_)
    refine lv_aload_n hx hb dM_narrow_40 rfl (lv_at hl 2 rfl) ?_
    refine lv_lload hx hb dM_narrow_41 (lv_at hl 1 rfl) ?_
    refine zt_l (show (fM_low (ad r.toNatClampNeg)) = zL (kA (ad r.toNatClampNeg)) by exact eM_low _) ?_
    refine lv_lload hx hb dM_narrow_43 (lv_at hl 0 rfl) ?_
    refine lv_ldc2 (v := 4294967296) hx hb hown (hts (.constantLong "CapUnitModel" 72 4294967296) (by decide +kernel)) dM_narrow_45 ?_
    refine W.lcmp hx hb dM_narrow_48 ?_
    refine lv_if_ge (tgt := 57) hx hb dM_narrow_49 rfl (fun h2 => ?_) (fun h2 => ?_)
    · have h2 := (lg_cmp_ge _ _).mp h2
      refine lv_ldc2 (v := 4294967296) hx hb hown (hts (.constantLong "CapUnitModel" 72 4294967296) (by decide +kernel)) dM_narrow_57 ?_
      refine zt_l (show (4294967296 : Int64) = zL (kNt (ad r.toNatClampNeg) n) by exact z_nt2 h2) ?_
      refine va_callv (va_runV (C := "CapUnitModel") (b := q 0) (As := [.long (zL (kA (ad r.toNatClampNeg))), .long (zL (kNt (ad r.toNatClampNeg) n))]) (rest := []) ⟨hx, hb, hml, hown, hq⟩ (kM_packJ l (kA (ad r.toNatClampNeg)) (kNt (ad r.toNatClampNeg) n) (kA_in (ad r.toNatClampNeg)).1 (kNt_in (ad r.toNatClampNeg) n).1 (kNt_in (ad r.toNatClampNeg) n).2) (cwV 2 hq (wA_V q_421 q_423 sM_packJ q_2 q_424) rfl rfl rfl (by decide +kernel) ⟨Nat.le_of_ble_eq_true rfl, Nat.le_of_ble_eq_true rfl⟩) (zw_pre (c := zCl[1]) (q0 := 0) hK hP hD rfl rfl) rfl rfl hl.1 rfl (lv_room (Nat.le_of_ble_eq_true rfl)) dM_narrow_60 ⟨Nat.le_of_ble_eq_true rfl, Nat.le_of_ble_eq_true rfl⟩) hS (fun _ _ h9 => h9) (fun _ h9 => h9) (fun u9 t9 H locs ht9 hvm9 hv9 hB9 hz9 hk9 hS => ?_)
      obtain ⟨hP, -, hD⟩ := hB9
      rw [ht9] at hP
      clear hz9 hk9
      refine zj_i (A0 := A) (H0 := s.heap) (tM_narrow tg ad mt d r n y) 148 [] (fun locs hS => ?_) (fun J9 => ?_)
      · refine lv_istore (lv' := [(9, .int (tM_narrow tg ad mt d r n y)), (7, .long ((fM_low (ad r.toNatClampNeg)) + (fM_low n))), (5, .long (fM_low (ad r.toNatClampNeg))), (0, .ref (q 0)), (1, .int d), (2, .int r), (3, .int n), (4, .int y)]) hx hb dM_narrow_148 hl (by decide) rfl (fun ls hl => ?_)
        refine lv_aload_n hx hb dM_narrow_150 rfl (lv_at hl 3 rfl) ?_
        refine lv_iload_n hx hb dM_narrow_151 rfl (lv_at hl 4 rfl) ?_
        refine lv_iload hx hb dM_narrow_152 (lv_at hl 0 rfl) ?_
        refine lv_aload_n hx hb dM_narrow_154 rfl (lv_at hl 3 rfl) ?_
        refine va_get (D := D) (ci := 1) (v := .ref (q 2)) (C := "CapUnitModel") (T := TM) (N := 11) hx hb hq uM_in hown hK hP 0 rfl rfl 1 (by decide) (hq _ q_371) (fun _ h9 => h9) rfl dM_narrow_155 ?_
        refine lv_iload_n hx hb dM_narrow_158 rfl (lv_at hl 5 rfl) ?_
        refine va_iald hx hb hK hP 2 1 rfl rfl (i := r) g9.2 dM_narrow_159 ?_
        refine lv_aload_n hx hb dM_narrow_160 rfl (lv_at hl 3 rfl) ?_
        refine va_get (D := D) (ci := 1) (v := .ref (q 3)) (C := "CapUnitModel") (T := TM) (N := 11) hx hb hq uM_in hown hK hP 0 rfl rfl 2 (by decide) (hq _ q_372) (fun _ h9 => h9) rfl dM_narrow_161 ?_
        refine lv_iload_n hx hb dM_narrow_164 rfl (lv_at hl 5 rfl) ?_
        refine va_iald hx hb hK hP 3 1 rfl rfl (i := r) g9.2 dM_narrow_165 ?_
        refine lv_sipush (v := -32768) hx hb dM_narrow_166 (by decide) ?_
        refine lv_iand hx hb dM_narrow_169 ?_
        refine lv_aload_n hx hb dM_narrow_170 rfl (lv_at hl 3 rfl) ?_
        refine va_get (D := D) (ci := 1) (v := .int (zI (kPk (kA (ad r.toNatClampNeg)) (kNt (ad r.toNatClampNeg) n)))) (C := "CapUnitModel") (T := TM) (N := 11) hx hb hq uM_in hown hK hP 0 rfl rfl 8 (by decide) (hq _ q_378) (fun _ h9 => h9) rfl dM_narrow_171 ?_
        refine lv_ior hx hb dM_narrow_174 ?_
        refine va_calli (va_runV (C := "CapUnitModel") (b := q 0) (As := [.int d, .int (tM_narrow tg ad mt d r n y), .int (ad r.toNatClampNeg), .int (((mt r.toNatClampNeg) &&& (-32768 : Int32)) ||| (zI (kPk (kA (ad r.toNatClampNeg)) (kNt (ad r.toNatClampNeg) n))))]) (rest := []) ⟨hx, hb, hml, hown, hq⟩ (kM_set l d (tM_narrow tg ad mt d r n y) (ad r.toNatClampNeg) (((mt r.toNatClampNeg) &&& (-32768 : Int32)) ||| (zI (kPk (kA (ad r.toNatClampNeg)) (kNt (ad r.toNatClampNeg) n)))) g9.1 (btM_narrow tg ad mt d r n y)) (cwV 4 hq (wA_V q_429 q_431 sM_set q_2 q_432) rfl rfl rfl (by decide +kernel) ⟨Nat.le_of_ble_eq_true rfl, Nat.le_of_ble_eq_true rfl⟩) (zw_pre (c := zCl[1]) (q0 := 0) hK hP hD rfl rfl) rfl rfl hl.1 rfl (lv_room (Nat.le_of_ble_eq_true rfl)) dM_narrow_175 ⟨Nat.le_of_ble_eq_true rfl, Nat.le_of_ble_eq_true rfl⟩) hS (fun _ _ h9 => h9) (fun _ h9 => h9) (fun v9 u9 t9 H locs ht9 hvm9 hv9 hB9 hz9 hk9 hS => ?_)
        obtain ⟨hP, -, hD⟩ := hB9
        rw [ht9] at hP
        subst hv9
        clear hz9 hk9
        have hX9 : xM_narrow tg ad mt d r n y = 0 := by unfold xM_narrow; rw [if_neg h1, if_pos h2]
        rw [if_pos hX9]
        refine W.widen (k := 1) (n := 2) (by decide) (by decide) ?_
        exact W.zret (v := zSr d (tM_narrow tg ad mt d r n y)) hx hb hr (zz_nar (zSr_b (btM_narrow tg ad mt d r n y))) (fun t9 ht hW => ⟨⟨_, (), rfl, (fun _ => (by unfold rM_narrow; rw [if_neg h1, if_pos h2])), by rw [ht]; exact hP, va_K.moved hW.alike hK, hD⟩, hS.F ht⟩) hS.2.2 dM_narrow_178
      · refine lv_aload_n hx hb dM_narrow_63 rfl (lv_at hl 2 rfl) ?_
        refine va_get (D := D) (ci := 1) (v := .ref (q 1)) (C := "CapUnitModel") (T := TM) (N := 11) hx hb hq uM_in hown hK hP 0 rfl rfl 0 (by decide) (hq _ q_370) (fun _ h9 => h9) rfl dM_narrow_64 ?_
        refine lv_iload_n hx hb dM_narrow_67 rfl (lv_at hl 4 rfl) ?_
        refine va_zald hx hb hK hP 1 0 rfl rfl (i := r) g9.2 dM_narrow_68 ?_
        refine lv_if_eq (tgt := 147) hx hb dM_narrow_69 rfl (fun h3 => ?_) (fun h3 => ?_)
        · refine lv_iconst (v := 0) hx hb dM_narrow_147 (by decide) ?_
          exact J9 _ _ (by unfold tM_narrow; rw [if_pos h3]) hS
        · refine lv_aload_n hx hb dM_narrow_72 rfl (lv_at hl 2 rfl) ?_
          refine lv_iload_n hx hb dM_narrow_73 rfl (lv_at hl 4 rfl) ?_
          refine zc_i (va_runV (C := "CapUnitModel") (b := q 0) (As := [.int r]) (rest := []) ⟨hx, hb, hml, hown, hq⟩ (kM_isOpen l hP r g9.2) (cwV 1 hq (wA_V q_470 q_472 sM_isOpen q_2 q_473) rfl rfl rfl (by decide +kernel) ⟨Nat.le_of_ble_eq_true rfl, Nat.le_of_ble_eq_true rfl⟩) (zr_pre (c := zCl[1]) (q0 := 0) hK hP rfl rfl) rfl rfl hl.1 rfl (lv_room (Nat.le_of_ble_eq_true rfl)) dM_narrow_74 ⟨Nat.le_of_ble_eq_true rfl, Nat.le_of_ble_eq_true rfl⟩) hS (fun locs hS => ?_)
          refine lv_if_eq (tgt := 147) hx hb dM_narrow_77 rfl (fun h4 => ?_) (fun h4 => ?_)
          · refine lv_iconst (v := 0) hx hb dM_narrow_147 (by decide) ?_
            exact J9 _ _ (by unfold tM_narrow; rw [if_neg h3, if_pos h4]) hS
          · refine lv_aload_n hx hb dM_narrow_80 rfl (lv_at hl 2 rfl) ?_
            refine va_get (D := D) (ci := 1) (v := .ref (q 3)) (C := "CapUnitModel") (T := TM) (N := 11) hx hb hq uM_in hown hK hP 0 rfl rfl 2 (by decide) (hq _ q_372) (fun _ h9 => h9) rfl dM_narrow_81 ?_
            refine lv_iload_n hx hb dM_narrow_84 rfl (lv_at hl 4 rfl) ?_
            refine va_iald hx hb hK hP 3 1 rfl rfl (i := r) g9.2 dM_narrow_85 ?_
            refine lv_aload_n hx hb dM_narrow_86 rfl (lv_at hl 2 rfl) ?_
            refine va_get (D := D) (ci := 1) (v := .ref (q 2)) (C := "CapUnitModel") (T := TM) (N := 11) hx hb hq uM_in hown hK hP 0 rfl rfl 1 (by decide) (hq _ q_371) (fun _ h9 => h9) rfl dM_narrow_87 ?_
            refine lv_iload_n hx hb dM_narrow_90 rfl (lv_at hl 4 rfl) ?_
            refine va_iald hx hb hK hP 2 1 rfl rfl (i := r) g9.2 dM_narrow_91 ?_
            refine zc_l (va_runS (As := [.int (mt r.toNatClampNeg), .int (ad r.toNatClampNeg)]) (rest := []) ⟨hx, hb, hml, hown, hq⟩ (kM_base l H (mt r.toNatClampNeg) (ad r.toNatClampNeg)) (va_cwS 2 hq (wA_S q_433 q_434 q_2 q_435) rfl rfl rfl (by decide +kernel) ⟨Nat.le_of_ble_eq_true rfl, Nat.le_of_ble_eq_true rfl⟩) ⟨fun a U g mk q => q, fun U hU hW => ⟨rfl, hU⟩⟩ rfl rfl hl.1 rfl (lv_room (Nat.le_of_ble_eq_true rfl)) dM_narrow_92 ⟨Nat.le_of_ble_eq_true rfl, Nat.le_of_ble_eq_true rfl⟩) hS (fun locs hS => ?_)
            refine lv_lload hx hb dM_narrow_95 (lv_at hl 1 rfl) ?_
            refine W.lcmp hx hb dM_narrow_97 ?_
            refine lv_if_gt (tgt := 147) hx hb dM_narrow_98 rfl (fun h5 => ?_) (fun h5 => ?_)
            · have h5 := (lg_cmp_gt _ _).mp h5
              refine lv_iconst (v := 0) hx hb dM_narrow_147 (by decide) ?_
              exact J9 _ _ (by unfold tM_narrow; rw [if_neg h3, if_neg h4, if_pos h5]) hS
            · have h5 := Not.imp h5 (lg_cmp_gt _ _).mpr
              refine lv_lload hx hb dM_narrow_101 (lv_at hl 0 rfl) ?_
              refine lv_aload_n hx hb dM_narrow_103 rfl (lv_at hl 2 rfl) ?_
              refine va_get (D := D) (ci := 1) (v := .ref (q 3)) (C := "CapUnitModel") (T := TM) (N := 11) hx hb hq uM_in hown hK hP 0 rfl rfl 2 (by decide) (hq _ q_372) (fun _ h9 => h9) rfl dM_narrow_104 ?_
              refine lv_iload_n hx hb dM_narrow_107 rfl (lv_at hl 4 rfl) ?_
              refine va_iald hx hb hK hP 3 1 rfl rfl (i := r) g9.2 dM_narrow_108 ?_
              refine lv_aload_n hx hb dM_narrow_109 rfl (lv_at hl 2 rfl) ?_
              refine va_get (D := D) (ci := 1) (v := .ref (q 2)) (C := "CapUnitModel") (T := TM) (N := 11) hx hb hq uM_in hown hK hP 0 rfl rfl 1 (by decide) (hq _ q_371) (fun _ h9 => h9) rfl dM_narrow_110 ?_
              refine lv_iload_n hx hb dM_narrow_113 rfl (lv_at hl 4 rfl) ?_
              refine va_iald hx hb hK hP 2 1 rfl rfl (i := r) g9.2 dM_narrow_114 ?_
              refine zc_l (va_runS (As := [.int (mt r.toNatClampNeg), .int (ad r.toNatClampNeg)]) (rest := [.long ((fM_low (ad r.toNatClampNeg)) + (fM_low n))]) ⟨hx, hb, hml, hown, hq⟩ (kM_top l H (mt r.toNatClampNeg) (ad r.toNatClampNeg)) (va_cwS 2 hq (wA_S q_451 q_452 q_2 q_453) rfl rfl rfl (by decide +kernel) ⟨Nat.le_of_ble_eq_true rfl, Nat.le_of_ble_eq_true rfl⟩) ⟨fun a U g mk q => q, fun U hU hW => ⟨rfl, hU⟩⟩ rfl rfl hl.1 rfl (lv_room (Nat.le_of_ble_eq_true rfl)) dM_narrow_115 ⟨Nat.le_of_ble_eq_true rfl, Nat.le_of_ble_eq_true rfl⟩) hS (fun locs hS => ?_)
              refine W.lcmp hx hb dM_narrow_118 ?_
              refine lv_if_gt (tgt := 147) hx hb dM_narrow_119 rfl (fun h6 => ?_) (fun h6 => ?_)
              · have h6 := (lg_cmp_gt _ _).mp h6
                refine lv_iconst (v := 0) hx hb dM_narrow_147 (by decide) ?_
                exact J9 _ _ (by unfold tM_narrow; rw [if_neg h3, if_neg h4, if_neg h5, if_pos h6]) hS
              · have h6 := Not.imp h6 (lg_cmp_gt _ _).mpr
                refine lv_lload hx hb dM_narrow_122 (lv_at hl 0 rfl) ?_
                refine lv_ldc2 (v := 4294967296) hx hb hown (hts (.constantLong "CapUnitModel" 72 4294967296) (by decide +kernel)) dM_narrow_124 ?_
                refine W.lcmp hx hb dM_narrow_127 ?_
                refine lv_if_gt (tgt := 147) hx hb dM_narrow_128 rfl (fun h7 => ?_) (fun h7 => ?_)
                · have h7 := (lg_cmp_gt _ _).mp h7
                  refine lv_iconst (v := 0) hx hb dM_narrow_147 (by decide) ?_
                  exact J9 _ _ (by unfold tM_narrow; rw [if_neg h3, if_neg h4, if_neg h5, if_neg h6, if_pos h7]) hS
                · have h7 := Not.imp h7 (lg_cmp_gt _ _).mpr
                  refine lv_aload_n hx hb dM_narrow_131 rfl (lv_at hl 2 rfl) ?_
                  refine va_get (D := D) (ci := 1) (v := .int (zEx (kA (ad r.toNatClampNeg)) (kNt (ad r.toNatClampNeg) n))) (C := "CapUnitModel") (T := TM) (N := 11) hx hb hq uM_in hown hK hP 0 rfl rfl 9 (by decide) (hq _ q_379) (fun _ h9 => h9) rfl dM_narrow_132 ?_
                  refine lv_if_ne (tgt := 143) hx hb dM_narrow_135 rfl (fun h8 => ?_) (fun h8 => ?_)
                  · refine lv_iconst (v := 1) hx hb dM_narrow_143 (by decide) ?_
                    refine lv_goto (tgt := 148) hx hb dM_narrow_144 rfl ?_
                    exact J9 _ _ (by unfold tM_narrow; rw [if_neg h3, if_neg h4, if_neg h5, if_neg h6, if_neg h7, if_neg h8]) hS
                  · refine lv_iload hx hb dM_narrow_138 (lv_at hl 6 rfl) ?_
                    refine lv_if_ne (tgt := 147) hx hb dM_narrow_140 rfl (fun h9 => ?_) (fun h9 => ?_)
                    · refine lv_iconst (v := 0) hx hb dM_narrow_147 (by decide) ?_
                      exact J9 _ _ (by unfold tM_narrow; rw [if_neg h3, if_neg h4, if_neg h5, if_neg h6, if_neg h7, if_pos h8, if_neg h9]) hS
                    · refine lv_iconst (v := 1) hx hb dM_narrow_143 (by decide) ?_
                      refine lv_goto (tgt := 148) hx hb dM_narrow_144 rfl ?_
                      exact J9 _ _ (by unfold tM_narrow; rw [if_neg h3, if_neg h4, if_neg h5, if_neg h6, if_neg h7, if_pos h8, if_pos h9]) hS
    · have h2 := Not.imp h2 (lg_cmp_ge _ _).mpr
      refine lv_lload hx hb dM_narrow_52 (lv_at hl 0 rfl) ?_
      refine lv_goto (tgt := 60) hx hb dM_narrow_54 rfl ?_
      refine zt_l (show ((fM_low (ad r.toNatClampNeg)) + (fM_low n)) = zL (kNt (ad r.toNatClampNeg) n) by exact z_nt1 h2) ?_
      refine va_callv (va_runV (C := "CapUnitModel") (b := q 0) (As := [.long (zL (kA (ad r.toNatClampNeg))), .long (zL (kNt (ad r.toNatClampNeg) n))]) (rest := []) ⟨hx, hb, hml, hown, hq⟩ (kM_packJ l (kA (ad r.toNatClampNeg)) (kNt (ad r.toNatClampNeg) n) (kA_in (ad r.toNatClampNeg)).1 (kNt_in (ad r.toNatClampNeg) n).1 (kNt_in (ad r.toNatClampNeg) n).2) (cwV 2 hq (wA_V q_421 q_423 sM_packJ q_2 q_424) rfl rfl rfl (by decide +kernel) ⟨Nat.le_of_ble_eq_true rfl, Nat.le_of_ble_eq_true rfl⟩) (zw_pre (c := zCl[1]) (q0 := 0) hK hP hD rfl rfl) rfl rfl hl.1 rfl (lv_room (Nat.le_of_ble_eq_true rfl)) dM_narrow_60 ⟨Nat.le_of_ble_eq_true rfl, Nat.le_of_ble_eq_true rfl⟩) hS (fun _ _ h9 => h9) (fun _ h9 => h9) (fun u9 t9 H locs ht9 hvm9 hv9 hB9 hz9 hk9 hS => ?_)
      obtain ⟨hP, -, hD⟩ := hB9
      rw [ht9] at hP
      clear hz9 hk9
      refine zj_i (A0 := A) (H0 := s.heap) (tM_narrow tg ad mt d r n y) 148 [] (fun locs hS => ?_) (fun J9 => ?_)
      · refine lv_istore (lv' := [(9, .int (tM_narrow tg ad mt d r n y)), (7, .long ((fM_low (ad r.toNatClampNeg)) + (fM_low n))), (5, .long (fM_low (ad r.toNatClampNeg))), (0, .ref (q 0)), (1, .int d), (2, .int r), (3, .int n), (4, .int y)]) hx hb dM_narrow_148 hl (by decide) rfl (fun ls hl => ?_)
        refine lv_aload_n hx hb dM_narrow_150 rfl (lv_at hl 3 rfl) ?_
        refine lv_iload_n hx hb dM_narrow_151 rfl (lv_at hl 4 rfl) ?_
        refine lv_iload hx hb dM_narrow_152 (lv_at hl 0 rfl) ?_
        refine lv_aload_n hx hb dM_narrow_154 rfl (lv_at hl 3 rfl) ?_
        refine va_get (D := D) (ci := 1) (v := .ref (q 2)) (C := "CapUnitModel") (T := TM) (N := 11) hx hb hq uM_in hown hK hP 0 rfl rfl 1 (by decide) (hq _ q_371) (fun _ h9 => h9) rfl dM_narrow_155 ?_
        refine lv_iload_n hx hb dM_narrow_158 rfl (lv_at hl 5 rfl) ?_
        refine va_iald hx hb hK hP 2 1 rfl rfl (i := r) g9.2 dM_narrow_159 ?_
        refine lv_aload_n hx hb dM_narrow_160 rfl (lv_at hl 3 rfl) ?_
        refine va_get (D := D) (ci := 1) (v := .ref (q 3)) (C := "CapUnitModel") (T := TM) (N := 11) hx hb hq uM_in hown hK hP 0 rfl rfl 2 (by decide) (hq _ q_372) (fun _ h9 => h9) rfl dM_narrow_161 ?_
        refine lv_iload_n hx hb dM_narrow_164 rfl (lv_at hl 5 rfl) ?_
        refine va_iald hx hb hK hP 3 1 rfl rfl (i := r) g9.2 dM_narrow_165 ?_
        refine lv_sipush (v := -32768) hx hb dM_narrow_166 (by decide) ?_
        refine lv_iand hx hb dM_narrow_169 ?_
        refine lv_aload_n hx hb dM_narrow_170 rfl (lv_at hl 3 rfl) ?_
        refine va_get (D := D) (ci := 1) (v := .int (zI (kPk (kA (ad r.toNatClampNeg)) (kNt (ad r.toNatClampNeg) n)))) (C := "CapUnitModel") (T := TM) (N := 11) hx hb hq uM_in hown hK hP 0 rfl rfl 8 (by decide) (hq _ q_378) (fun _ h9 => h9) rfl dM_narrow_171 ?_
        refine lv_ior hx hb dM_narrow_174 ?_
        refine va_calli (va_runV (C := "CapUnitModel") (b := q 0) (As := [.int d, .int (tM_narrow tg ad mt d r n y), .int (ad r.toNatClampNeg), .int (((mt r.toNatClampNeg) &&& (-32768 : Int32)) ||| (zI (kPk (kA (ad r.toNatClampNeg)) (kNt (ad r.toNatClampNeg) n))))]) (rest := []) ⟨hx, hb, hml, hown, hq⟩ (kM_set l d (tM_narrow tg ad mt d r n y) (ad r.toNatClampNeg) (((mt r.toNatClampNeg) &&& (-32768 : Int32)) ||| (zI (kPk (kA (ad r.toNatClampNeg)) (kNt (ad r.toNatClampNeg) n)))) g9.1 (btM_narrow tg ad mt d r n y)) (cwV 4 hq (wA_V q_429 q_431 sM_set q_2 q_432) rfl rfl rfl (by decide +kernel) ⟨Nat.le_of_ble_eq_true rfl, Nat.le_of_ble_eq_true rfl⟩) (zw_pre (c := zCl[1]) (q0 := 0) hK hP hD rfl rfl) rfl rfl hl.1 rfl (lv_room (Nat.le_of_ble_eq_true rfl)) dM_narrow_175 ⟨Nat.le_of_ble_eq_true rfl, Nat.le_of_ble_eq_true rfl⟩) hS (fun _ _ h9 => h9) (fun _ h9 => h9) (fun v9 u9 t9 H locs ht9 hvm9 hv9 hB9 hz9 hk9 hS => ?_)
        obtain ⟨hP, -, hD⟩ := hB9
        rw [ht9] at hP
        subst hv9
        clear hz9 hk9
        have hX9 : xM_narrow tg ad mt d r n y = 0 := by unfold xM_narrow; rw [if_neg h1, if_neg h2]
        rw [if_pos hX9]
        refine W.widen (k := 1) (n := 2) (by decide) (by decide) ?_
        exact W.zret (v := zSr d (tM_narrow tg ad mt d r n y)) hx hb hr (zz_nar (zSr_b (btM_narrow tg ad mt d r n y))) (fun t9 ht hW => ⟨⟨_, (), rfl, (fun _ => (by unfold rM_narrow; rw [if_neg h1, if_neg h2])), by rw [ht]; exact hP, va_K.moved hW.alike hK, hD⟩, hS.F ht⟩) hS.2.2 dM_narrow_178
      · refine lv_aload_n hx hb dM_narrow_63 rfl (lv_at hl 2 rfl) ?_
        refine va_get (D := D) (ci := 1) (v := .ref (q 1)) (C := "CapUnitModel") (T := TM) (N := 11) hx hb hq uM_in hown hK hP 0 rfl rfl 0 (by decide) (hq _ q_370) (fun _ h9 => h9) rfl dM_narrow_64 ?_
        refine lv_iload_n hx hb dM_narrow_67 rfl (lv_at hl 4 rfl) ?_
        refine va_zald hx hb hK hP 1 0 rfl rfl (i := r) g9.2 dM_narrow_68 ?_
        refine lv_if_eq (tgt := 147) hx hb dM_narrow_69 rfl (fun h10 => ?_) (fun h10 => ?_)
        · refine lv_iconst (v := 0) hx hb dM_narrow_147 (by decide) ?_
          exact J9 _ _ (by unfold tM_narrow; rw [if_pos h10]) hS
        · refine lv_aload_n hx hb dM_narrow_72 rfl (lv_at hl 2 rfl) ?_
          refine lv_iload_n hx hb dM_narrow_73 rfl (lv_at hl 4 rfl) ?_
          refine zc_i (va_runV (C := "CapUnitModel") (b := q 0) (As := [.int r]) (rest := []) ⟨hx, hb, hml, hown, hq⟩ (kM_isOpen l hP r g9.2) (cwV 1 hq (wA_V q_470 q_472 sM_isOpen q_2 q_473) rfl rfl rfl (by decide +kernel) ⟨Nat.le_of_ble_eq_true rfl, Nat.le_of_ble_eq_true rfl⟩) (zr_pre (c := zCl[1]) (q0 := 0) hK hP rfl rfl) rfl rfl hl.1 rfl (lv_room (Nat.le_of_ble_eq_true rfl)) dM_narrow_74 ⟨Nat.le_of_ble_eq_true rfl, Nat.le_of_ble_eq_true rfl⟩) hS (fun locs hS => ?_)
          refine lv_if_eq (tgt := 147) hx hb dM_narrow_77 rfl (fun h11 => ?_) (fun h11 => ?_)
          · refine lv_iconst (v := 0) hx hb dM_narrow_147 (by decide) ?_
            exact J9 _ _ (by unfold tM_narrow; rw [if_neg h10, if_pos h11]) hS
          · refine lv_aload_n hx hb dM_narrow_80 rfl (lv_at hl 2 rfl) ?_
            refine va_get (D := D) (ci := 1) (v := .ref (q 3)) (C := "CapUnitModel") (T := TM) (N := 11) hx hb hq uM_in hown hK hP 0 rfl rfl 2 (by decide) (hq _ q_372) (fun _ h9 => h9) rfl dM_narrow_81 ?_
            refine lv_iload_n hx hb dM_narrow_84 rfl (lv_at hl 4 rfl) ?_
            refine va_iald hx hb hK hP 3 1 rfl rfl (i := r) g9.2 dM_narrow_85 ?_
            refine lv_aload_n hx hb dM_narrow_86 rfl (lv_at hl 2 rfl) ?_
            refine va_get (D := D) (ci := 1) (v := .ref (q 2)) (C := "CapUnitModel") (T := TM) (N := 11) hx hb hq uM_in hown hK hP 0 rfl rfl 1 (by decide) (hq _ q_371) (fun _ h9 => h9) rfl dM_narrow_87 ?_
            refine lv_iload_n hx hb dM_narrow_90 rfl (lv_at hl 4 rfl) ?_
            refine va_iald hx hb hK hP 2 1 rfl rfl (i := r) g9.2 dM_narrow_91 ?_
            refine zc_l (va_runS (As := [.int (mt r.toNatClampNeg), .int (ad r.toNatClampNeg)]) (rest := []) ⟨hx, hb, hml, hown, hq⟩ (kM_base l H (mt r.toNatClampNeg) (ad r.toNatClampNeg)) (va_cwS 2 hq (wA_S q_433 q_434 q_2 q_435) rfl rfl rfl (by decide +kernel) ⟨Nat.le_of_ble_eq_true rfl, Nat.le_of_ble_eq_true rfl⟩) ⟨fun a U g mk q => q, fun U hU hW => ⟨rfl, hU⟩⟩ rfl rfl hl.1 rfl (lv_room (Nat.le_of_ble_eq_true rfl)) dM_narrow_92 ⟨Nat.le_of_ble_eq_true rfl, Nat.le_of_ble_eq_true rfl⟩) hS (fun locs hS => ?_)
            refine lv_lload hx hb dM_narrow_95 (lv_at hl 1 rfl) ?_
            refine W.lcmp hx hb dM_narrow_97 ?_
            refine lv_if_gt (tgt := 147) hx hb dM_narrow_98 rfl (fun h12 => ?_) (fun h12 => ?_)
            · have h12 := (lg_cmp_gt _ _).mp h12
              refine lv_iconst (v := 0) hx hb dM_narrow_147 (by decide) ?_
              exact J9 _ _ (by unfold tM_narrow; rw [if_neg h10, if_neg h11, if_pos h12]) hS
            · have h12 := Not.imp h12 (lg_cmp_gt _ _).mpr
              refine lv_lload hx hb dM_narrow_101 (lv_at hl 0 rfl) ?_
              refine lv_aload_n hx hb dM_narrow_103 rfl (lv_at hl 2 rfl) ?_
              refine va_get (D := D) (ci := 1) (v := .ref (q 3)) (C := "CapUnitModel") (T := TM) (N := 11) hx hb hq uM_in hown hK hP 0 rfl rfl 2 (by decide) (hq _ q_372) (fun _ h9 => h9) rfl dM_narrow_104 ?_
              refine lv_iload_n hx hb dM_narrow_107 rfl (lv_at hl 4 rfl) ?_
              refine va_iald hx hb hK hP 3 1 rfl rfl (i := r) g9.2 dM_narrow_108 ?_
              refine lv_aload_n hx hb dM_narrow_109 rfl (lv_at hl 2 rfl) ?_
              refine va_get (D := D) (ci := 1) (v := .ref (q 2)) (C := "CapUnitModel") (T := TM) (N := 11) hx hb hq uM_in hown hK hP 0 rfl rfl 1 (by decide) (hq _ q_371) (fun _ h9 => h9) rfl dM_narrow_110 ?_
              refine lv_iload_n hx hb dM_narrow_113 rfl (lv_at hl 4 rfl) ?_
              refine va_iald hx hb hK hP 2 1 rfl rfl (i := r) g9.2 dM_narrow_114 ?_
              refine zc_l (va_runS (As := [.int (mt r.toNatClampNeg), .int (ad r.toNatClampNeg)]) (rest := [.long ((fM_low (ad r.toNatClampNeg)) + (fM_low n))]) ⟨hx, hb, hml, hown, hq⟩ (kM_top l H (mt r.toNatClampNeg) (ad r.toNatClampNeg)) (va_cwS 2 hq (wA_S q_451 q_452 q_2 q_453) rfl rfl rfl (by decide +kernel) ⟨Nat.le_of_ble_eq_true rfl, Nat.le_of_ble_eq_true rfl⟩) ⟨fun a U g mk q => q, fun U hU hW => ⟨rfl, hU⟩⟩ rfl rfl hl.1 rfl (lv_room (Nat.le_of_ble_eq_true rfl)) dM_narrow_115 ⟨Nat.le_of_ble_eq_true rfl, Nat.le_of_ble_eq_true rfl⟩) hS (fun locs hS => ?_)
              refine W.lcmp hx hb dM_narrow_118 ?_
              refine lv_if_gt (tgt := 147) hx hb dM_narrow_119 rfl (fun h13 => ?_) (fun h13 => ?_)
              · have h13 := (lg_cmp_gt _ _).mp h13
                refine lv_iconst (v := 0) hx hb dM_narrow_147 (by decide) ?_
                exact J9 _ _ (by unfold tM_narrow; rw [if_neg h10, if_neg h11, if_neg h12, if_pos h13]) hS
              · have h13 := Not.imp h13 (lg_cmp_gt _ _).mpr
                refine lv_lload hx hb dM_narrow_122 (lv_at hl 0 rfl) ?_
                refine lv_ldc2 (v := 4294967296) hx hb hown (hts (.constantLong "CapUnitModel" 72 4294967296) (by decide +kernel)) dM_narrow_124 ?_
                refine W.lcmp hx hb dM_narrow_127 ?_
                refine lv_if_gt (tgt := 147) hx hb dM_narrow_128 rfl (fun h14 => ?_) (fun h14 => ?_)
                · have h14 := (lg_cmp_gt _ _).mp h14
                  refine lv_iconst (v := 0) hx hb dM_narrow_147 (by decide) ?_
                  exact J9 _ _ (by unfold tM_narrow; rw [if_neg h10, if_neg h11, if_neg h12, if_neg h13, if_pos h14]) hS
                · have h14 := Not.imp h14 (lg_cmp_gt _ _).mpr
                  refine lv_aload_n hx hb dM_narrow_131 rfl (lv_at hl 2 rfl) ?_
                  refine va_get (D := D) (ci := 1) (v := .int (zEx (kA (ad r.toNatClampNeg)) (kNt (ad r.toNatClampNeg) n))) (C := "CapUnitModel") (T := TM) (N := 11) hx hb hq uM_in hown hK hP 0 rfl rfl 9 (by decide) (hq _ q_379) (fun _ h9 => h9) rfl dM_narrow_132 ?_
                  refine lv_if_ne (tgt := 143) hx hb dM_narrow_135 rfl (fun h15 => ?_) (fun h15 => ?_)
                  · refine lv_iconst (v := 1) hx hb dM_narrow_143 (by decide) ?_
                    refine lv_goto (tgt := 148) hx hb dM_narrow_144 rfl ?_
                    exact J9 _ _ (by unfold tM_narrow; rw [if_neg h10, if_neg h11, if_neg h12, if_neg h13, if_neg h14, if_neg h15]) hS
                  · refine lv_iload hx hb dM_narrow_138 (lv_at hl 6 rfl) ?_
                    refine lv_if_ne (tgt := 147) hx hb dM_narrow_140 rfl (fun h16 => ?_) (fun h16 => ?_)
                    · refine lv_iconst (v := 0) hx hb dM_narrow_147 (by decide) ?_
                      exact J9 _ _ (by unfold tM_narrow; rw [if_neg h10, if_neg h11, if_neg h12, if_neg h13, if_neg h14, if_pos h15, if_neg h16]) hS
                    · refine lv_iconst (v := 1) hx hb dM_narrow_143 (by decide) ?_
                      refine lv_goto (tgt := 148) hx hb dM_narrow_144 rfl ?_
                      exact J9 _ _ (by unfold tM_narrow; rw [if_neg h10, if_neg h11, if_neg h12, if_neg h13, if_neg h14, if_pos h15, if_pos h16]) hS
  · have e9 := zz_rb1 h1
    refine lv_iconst (v := 0) hx hb dM_narrow_18 (by decide) ?_
    have hX9 : xM_narrow tg ad mt d r n y = zx2 d r := by unfold xM_narrow; rw [if_pos h1]
    have hN9 : ¬ xM_narrow tg ad mt d r n y = 0 := by rw [hX9]; exact e9
    rw [if_neg hN9, hX9]
    refine W.widen (k := 1) (n := 2) (by decide) (by decide) ?_
    exact W.zret (v := (0 : Int32)) hx hb hr (by decide) (fun t9 ht hW => ⟨⟨_, (), rfl, (fun h9 => absurd h9 e9), by rw [ht]; exact hP, va_K.moved hW.alike hK, hD⟩, hS.F ht⟩) hS.2.2 dM_narrow_19
def xM_told (tg : Nat → Int32) (ad : Nat → Int32) (mt : Nat → Int32) (r : Int32) (y : Int32) : Int32 := if r < 0 then (1 : Int32) else (if r ≤ (31 : Int32) then (if y < 0 then (2 : Int32) else (if y ≤ (7 : Int32) then (if y = (0 : Int32) then (if (tg r.toNatClampNeg) = 0 then 0 else 0) else (if y = (1 : Int32) then 0 else (if y = (2 : Int32) then 0 else (if y = (3 : Int32) then 0 else (if y = (4 : Int32) then 0 else (if y = (5 : Int32) then 0 else (if y = (6 : Int32) then 0 else 0))))))) else (2 : Int32))) else (1 : Int32))
def rM_told (tg : Nat → Int32) (ad : Nat → Int32) (mt : Nat → Int32) (r : Int32) (y : Int32) : Int64 := if r < 0 then (0 : Int64) else (if r ≤ (31 : Int32) then (if y < 0 then (0 : Int64) else (if y ≤ (7 : Int32) then (if y = (0 : Int32) then (if (tg r.toNatClampNeg) = 0 then (0 : Int64) else (1 : Int64)) else (if y = (1 : Int32) then ((ad r.toNatClampNeg).toInt64) else (if y = (2 : Int32) then (((mt r.toNatClampNeg) ^^^ (1000194 : Int32)).toInt64) else (if y = (3 : Int32) then (fM_base (mt r.toNatClampNeg) (ad r.toNatClampNeg)) else (if y = (4 : Int32) then ((fM_top (mt r.toNatClampNeg) (ad r.toNatClampNeg)) - (fM_base (mt r.toNatClampNeg) (ad r.toNatClampNeg))) else (if y = (5 : Int32) then ((fM_perms (mt r.toNatClampNeg)).toInt64) else (if y = (6 : Int32) then ((fM_type (mt r.toNatClampNeg)).toInt64) else ((fM_low (ad r.toNatClampNeg)) - (fM_base (mt r.toNatClampNeg) (ad r.toNatClampNeg)))))))))) else (0 : Int64))) else (0 : Int64))
set_option maxHeartbeats 4000000 in
set_option maxRecDepth 100000 in
theorem kM_told (l : Launch) {D : va_G} {q : Nat → Nat} {k : Nat → ClassId} {tg : Nat → Int32} {ad : Nat → Int32} {mt : Nat → Int32} {rb : Nat → Int64} {rt : Nat → Int64} {rp : Nat → Int32} {nr : Int32} {th : Int32} {pk : Int32} {ex : Int32} {ro : Int64} {A : Nat → Prop} (r : Int32) (y : Int32) : Met l yM_told wM_told { frames := 4, cells := 0, slots := 0, locals := 99 } (va_Pc [.ref (q 0), .int r, .int y] (fun U => va_P D zCl (mW q k tg ad mt rb rt rp nr th pk ex ro) U.heap ∧ va_K D zCl (zT k) U ∧ va_D A (mW q k tg ad mt rb rt rp nr th pk ex ro))) (va_Ql (fun v9 (_ : Unit) => xM_told tg ad mt r y = 0 → v9 = rM_told tg ad mt r y) (fun _ t => va_P D zCl (if xM_told tg ad mt r y = 0 then mW q k tg ad mt rb rt rp nr 0 pk ex ro else mW q k tg ad mt rb rt rp nr (xM_told tg ad mt r y) pk ex ro) t.heap ∧ va_K D zCl (zT k) t ∧ va_D A (if xM_told tg ad mt r y = 0 then mW q k tg ad mt rb rt rp nr 0 pk ex ro else mW q k tg ad mt rb rt rp nr (xM_told tg ad mt r y) pk ex ro)) A) 0 0 A := by
  refine Met.ofW (cc := cM_told) (maxL := 5) (ret := (some .long)) (by decide) rfl ?_
  intro p e s m args below meth c s₁ B hml hv
  obtain ⟨rfl, hP, hK, hD⟩ := hv
  have hx := B.exec
  have hb := B.bytes
  have hr := B.returns
  have hts := atoms_spec (ws := wM_told) B.pre
  have hq : ∀ w ∈ wA, w.before _ s = true := fun w h => hts w (List.mem_cons_of_mem _ h)
  have hown : s.vm.findClass "CapUnitModel" = some m.cls := findClass_of_methodNamed B.named
  have hlocks := B.notSynchronized
  have hS : va_S A s.heap s.heap [] := va_S.rf
  have hl := lv_entry ([.ref (q 0), .int r, .int y]) (n := 5) (Nat.le_of_ble_eq_true rfl)
  rw [lg_entry_eq]
  generalize (lg_sl ([.ref (q 0), .int r, .int y]) ++ List.replicate (5 - (lg_sl ([.ref (q 0), .int r, .int y])).length) Slot.unset).toArray = ls at hl ⊢
  have hl : lv_has ls 5 [(0, .ref (q 0)), (1, .int r), (2, .int y)] := hl
  refine lv_iload_n hx hb dM_told_0 rfl (lv_at hl 1 rfl) ?_
  refine lv_if_lt (tgt := 10) hx hb dM_told_1 rfl (fun h1 => ?_) (fun h1 => ?_)
  · refine lv_aload_n hx hb dM_told_10 rfl (lv_at hl 0 rfl) ?_
    refine lv_iconst (v := 1) hx hb dM_told_11 (by decide) ?_
    refine va_calli (va_runV (C := "CapUnitModel") (b := q 0) (As := [.int (1 : Int32)]) (rest := []) ⟨hx, hb, hml, hown, hq⟩ (kM_fail l (1 : Int32)) (cwV 1 hq (wA_V q_412 q_414 sM_fail q_2 q_415) rfl rfl rfl (by decide +kernel) ⟨Nat.le_of_ble_eq_true rfl, Nat.le_of_ble_eq_true rfl⟩) (zw_pre (c := zCl[1]) (q0 := 0) hK hP hD rfl rfl) rfl rfl hl.1 rfl (lv_room (Nat.le_of_ble_eq_true rfl)) dM_told_12 ⟨Nat.le_of_ble_eq_true rfl, Nat.le_of_ble_eq_true rfl⟩) hS (fun _ _ h9 => h9) (fun _ h9 => h9) (fun v9 u9 t9 H locs ht9 hvm9 hv9 hB9 hz9 hk9 hS => ?_)
    obtain ⟨hP, -, hD⟩ := hB9
    rw [ht9] at hP
    subst hv9
    clear hz9 hk9
    refine lv_i2l hx hb dM_told_15 rfl ?_
    have hX9 : xM_told tg ad mt r y = (1 : Int32) := by unfold xM_told; rw [if_pos h1]
    have hN9 : ¬ xM_told tg ad mt r y = 0 := by rw [hX9]; decide
    rw [if_neg hN9, hX9]
    exact W.lret (v := (0 : Int32).toInt64) hx hb hr (fun t9 ht hW => ⟨⟨_, (), rfl, (fun h9 => absurd h9 (by decide)), by rw [ht]; exact hP, va_K.moved hW.alike hK, hD⟩, hS.F ht⟩) hS.2.2 dM_told_16
  · refine lv_iload_n hx hb dM_told_4 rfl (lv_at hl 1 rfl) ?_
    refine lv_bipush (v := 31) hx hb dM_told_5 (by decide) ?_
    refine lv_icmp_le (tgt := 17) hx hb dM_told_7 rfl (fun h2 => ?_) (fun h2 => ?_)
    · have gr := zz_r31 h1 h2
      refine lv_iload_n hx hb dM_told_17 rfl (lv_at hl 2 rfl) ?_
      refine lv_if_lt (tgt := 27) hx hb dM_told_18 rfl (fun h3 => ?_) (fun h3 => ?_)
      · refine lv_aload_n hx hb dM_told_27 rfl (lv_at hl 0 rfl) ?_
        refine lv_iconst (v := 2) hx hb dM_told_28 (by decide) ?_
        refine va_calli (va_runV (C := "CapUnitModel") (b := q 0) (As := [.int (2 : Int32)]) (rest := []) ⟨hx, hb, hml, hown, hq⟩ (kM_fail l (2 : Int32)) (cwV 1 hq (wA_V q_412 q_414 sM_fail q_2 q_415) rfl rfl rfl (by decide +kernel) ⟨Nat.le_of_ble_eq_true rfl, Nat.le_of_ble_eq_true rfl⟩) (zw_pre (c := zCl[1]) (q0 := 0) hK hP hD rfl rfl) rfl rfl hl.1 rfl (lv_room (Nat.le_of_ble_eq_true rfl)) dM_told_29 ⟨Nat.le_of_ble_eq_true rfl, Nat.le_of_ble_eq_true rfl⟩) hS (fun _ _ h9 => h9) (fun _ h9 => h9) (fun v9 u9 t9 H locs ht9 hvm9 hv9 hB9 hz9 hk9 hS => ?_)
        obtain ⟨hP, -, hD⟩ := hB9
        rw [ht9] at hP
        subst hv9
        clear hz9 hk9
        refine lv_i2l hx hb dM_told_32 rfl ?_
        have hX9 : xM_told tg ad mt r y = (2 : Int32) := by unfold xM_told; rw [if_neg h1, if_pos h2, if_pos h3]
        have hN9 : ¬ xM_told tg ad mt r y = 0 := by rw [hX9]; decide
        rw [if_neg hN9, hX9]
        exact W.lret (v := (0 : Int32).toInt64) hx hb hr (fun t9 ht hW => ⟨⟨_, (), rfl, (fun h9 => absurd h9 (by decide)), by rw [ht]; exact hP, va_K.moved hW.alike hK, hD⟩, hS.F ht⟩) hS.2.2 dM_told_33
      · refine lv_iload_n hx hb dM_told_21 rfl (lv_at hl 2 rfl) ?_
        refine lv_bipush (v := 7) hx hb dM_told_22 (by decide) ?_
        refine lv_icmp_le (tgt := 34) hx hb dM_told_24 rfl (fun h4 => ?_) (fun h4 => ?_)
        · refine lv_aload_n hx hb dM_told_34 rfl (lv_at hl 0 rfl) ?_
          refine lv_iconst (v := 0) hx hb dM_told_35 (by decide) ?_
          refine va_put (D := D) (ci := 1) (v := .int (0 : Int32)) (ty := .int) (C := "CapUnitModel") (T := TM) (N := 11) hx hb hq uM_in tyM tyM_ok nmM hown hK hP hD hS 0 rfl rfl 7 (by decide) (hq _ q_377) (fun _ h9 => h9) rfl (by decide +kernel) (by rfl) (by rfl) (Nat.le_of_ble_eq_true rfl) dM_told_36 (fun H locs hP hD hS => ?_)
          have hP : va_P D zCl (mW q k tg ad mt rb rt rp nr 0 pk ex ro) H := hP
          have hD : va_D A (mW q k tg ad mt rb rt rp nr 0 pk ex ro) := hD
          refine lv_aload_n hx hb dM_told_39 rfl (lv_at hl 0 rfl) ?_
          refine va_get (D := D) (ci := 1) (v := .ref (q 2)) (C := "CapUnitModel") (T := TM) (N := 11) hx hb hq uM_in hown hK hP 0 rfl rfl 1 (by decide) (hq _ q_371) (fun _ h9 => h9) rfl dM_told_40 ?_
          refine lv_iload_n hx hb dM_told_43 rfl (lv_at hl 1 rfl) ?_
          refine va_iald hx hb hK hP 2 1 rfl rfl (i := r) gr dM_told_44 ?_
          refine lv_istore_n (lv' := [(3, .int (ad r.toNatClampNeg)), (0, .ref (q 0)), (1, .int r), (2, .int y)]) hx hb dM_told_45 rfl hl (by decide) rfl (fun ls hl => ?_)
          refine lv_aload_n hx hb dM_told_46 rfl (lv_at hl 1 rfl) ?_
          refine va_get (D := D) (ci := 1) (v := .ref (q 3)) (C := "CapUnitModel") (T := TM) (N := 11) hx hb hq uM_in hown hK hP 0 rfl rfl 2 (by decide) (hq _ q_372) (fun _ h9 => h9) rfl dM_told_47 ?_
          refine lv_iload_n hx hb dM_told_50 rfl (lv_at hl 2 rfl) ?_
          refine va_iald hx hb hK hP 3 1 rfl rfl (i := r) gr dM_told_51 ?_
          refine lv_istore (lv' := [(4, .int (mt r.toNatClampNeg)), (3, .int (ad r.toNatClampNeg)), (0, .ref (q 0)), (1, .int r), (2, .int y)]) hx hb dM_told_52 hl (by decide) rfl (fun ls hl => ?_)
          refine lv_iload_n hx hb dM_told_54 rfl (lv_at hl 4 rfl) ?_
          by_cases h5 : y = (0 : Int32)
          · refine lv_tableIn (x := y) (off := 41) (tgt := 96) hx hb dM_told_55 (by rw [h5]; decide) (by rw [h5]; decide) (by rw [h5]; rfl) rfl ?_
            refine lv_aload_n hx hb dM_told_96 rfl (lv_at hl 2 rfl) ?_
            refine va_get (D := D) (ci := 1) (v := .ref (q 1)) (C := "CapUnitModel") (T := TM) (N := 11) hx hb hq uM_in hown hK hP 0 rfl rfl 0 (by decide) (hq _ q_370) (fun _ h9 => h9) rfl dM_told_97 ?_
            refine lv_iload_n hx hb dM_told_100 rfl (lv_at hl 3 rfl) ?_
            refine va_zald hx hb hK hP 1 0 rfl rfl (i := r) gr dM_told_101 ?_
            refine lv_if_eq (tgt := 109) hx hb dM_told_102 rfl (fun h6 => ?_) (fun h6 => ?_)
            · refine lv_lconst (v := 0) hx hb dM_told_109 (by decide) ?_
              have hX9 : xM_told tg ad mt r y = 0 := by unfold xM_told; rw [if_neg h1, if_pos h2, if_neg h3, if_pos h4, if_pos h5, if_pos h6]
              rw [if_pos hX9]
              exact W.lret (v := (0 : Int64)) hx hb hr (fun t9 ht hW => ⟨⟨_, (), rfl, (fun _ => (by unfold rM_told; rw [if_neg h1, if_pos h2, if_neg h3, if_pos h4, if_pos h5, if_pos h6])), by rw [ht]; exact hP, va_K.moved hW.alike hK, hD⟩, hS.F ht⟩) hS.2.2 dM_told_110
            · refine lv_lconst (v := 1) hx hb dM_told_105 (by decide) ?_
              refine lv_goto (tgt := 110) hx hb dM_told_106 rfl ?_
              have hX9 : xM_told tg ad mt r y = 0 := by unfold xM_told; rw [if_neg h1, if_pos h2, if_neg h3, if_pos h4, if_pos h5, if_neg h6]
              rw [if_pos hX9]
              exact W.lret (v := (1 : Int64)) hx hb hr (fun t9 ht hW => ⟨⟨_, (), rfl, (fun _ => (by unfold rM_told; rw [if_neg h1, if_pos h2, if_neg h3, if_pos h4, if_pos h5, if_neg h6])), by rw [ht]; exact hP, va_K.moved hW.alike hK, hD⟩, hS.F ht⟩) hS.2.2 dM_told_110
          · by_cases h7 : y = (1 : Int32)
            · refine lv_tableIn (x := y) (off := 56) (tgt := 111) hx hb dM_told_55 (by rw [h7]; decide) (by rw [h7]; decide) (by rw [h7]; rfl) rfl ?_
              refine lv_iload_n hx hb dM_told_111 rfl (lv_at hl 1 rfl) ?_
              refine lv_i2l hx hb dM_told_112 rfl ?_
              have hX9 : xM_told tg ad mt r y = 0 := by unfold xM_told; rw [if_neg h1, if_pos h2, if_neg h3, if_pos h4, if_neg h5, if_pos h7]
              rw [if_pos hX9]
              exact W.lret (v := (ad r.toNatClampNeg).toInt64) hx hb hr (fun t9 ht hW => ⟨⟨_, (), rfl, (fun _ => (by unfold rM_told; rw [if_neg h1, if_pos h2, if_neg h3, if_pos h4, if_neg h5, if_pos h7])), by rw [ht]; exact hP, va_K.moved hW.alike hK, hD⟩, hS.F ht⟩) hS.2.2 dM_told_113
            · by_cases h8 : y = (2 : Int32)
              · refine lv_tableIn (x := y) (off := 59) (tgt := 114) hx hb dM_told_55 (by rw [h8]; decide) (by rw [h8]; decide) (by rw [h8]; rfl) rfl ?_
                refine lv_iload hx hb dM_told_114 (lv_at hl 0 rfl) ?_
                refine lv_ldc (v := 1000194) hx hb hown (hts (.constant "CapUnitModel" 30 1000194) (by decide +kernel)) dM_told_116 ?_
                refine lv_ixor hx hb dM_told_118 ?_
                refine lv_i2l hx hb dM_told_119 rfl ?_
                have hX9 : xM_told tg ad mt r y = 0 := by unfold xM_told; rw [if_neg h1, if_pos h2, if_neg h3, if_pos h4, if_neg h5, if_neg h7, if_pos h8]
                rw [if_pos hX9]
                exact W.lret (v := ((mt r.toNatClampNeg) ^^^ (1000194 : Int32)).toInt64) hx hb hr (fun t9 ht hW => ⟨⟨_, (), rfl, (fun _ => (by unfold rM_told; rw [if_neg h1, if_pos h2, if_neg h3, if_pos h4, if_neg h5, if_neg h7, if_pos h8])), by rw [ht]; exact hP, va_K.moved hW.alike hK, hD⟩, hS.F ht⟩) hS.2.2 dM_told_120
              · by_cases h9 : y = (3 : Int32)
                · refine lv_tableIn (x := y) (off := 66) (tgt := 121) hx hb dM_told_55 (by rw [h9]; decide) (by rw [h9]; decide) (by rw [h9]; rfl) rfl ?_
                  refine lv_iload hx hb dM_told_121 (lv_at hl 0 rfl) ?_
                  refine lv_iload_n hx hb dM_told_123 rfl (lv_at hl 1 rfl) ?_
                  refine zc_l (va_runS (As := [.int (mt r.toNatClampNeg), .int (ad r.toNatClampNeg)]) (rest := []) ⟨hx, hb, hml, hown, hq⟩ (kM_base l H (mt r.toNatClampNeg) (ad r.toNatClampNeg)) (va_cwS 2 hq (wA_S q_433 q_434 q_2 q_435) rfl rfl rfl (by decide +kernel) ⟨Nat.le_of_ble_eq_true rfl, Nat.le_of_ble_eq_true rfl⟩) ⟨fun a U g mk q => q, fun U hU hW => ⟨rfl, hU⟩⟩ rfl rfl hl.1 rfl (lv_room (Nat.le_of_ble_eq_true rfl)) dM_told_124 ⟨Nat.le_of_ble_eq_true rfl, Nat.le_of_ble_eq_true rfl⟩) hS (fun locs hS => ?_)
                  have hX9 : xM_told tg ad mt r y = 0 := by unfold xM_told; rw [if_neg h1, if_pos h2, if_neg h3, if_pos h4, if_neg h5, if_neg h7, if_neg h8, if_pos h9]
                  rw [if_pos hX9]
                  exact W.lret (v := fM_base (mt r.toNatClampNeg) (ad r.toNatClampNeg)) hx hb hr (fun t9 ht hW => ⟨⟨_, (), rfl, (fun _ => (by unfold rM_told; rw [if_neg h1, if_pos h2, if_neg h3, if_pos h4, if_neg h5, if_neg h7, if_neg h8, if_pos h9])), by rw [ht]; exact hP, va_K.moved hW.alike hK, hD⟩, hS.F ht⟩) hS.2.2 dM_told_127
                · by_cases h10 : y = (4 : Int32)
                  · refine lv_tableIn (x := y) (off := 73) (tgt := 128) hx hb dM_told_55 (by rw [h10]; decide) (by rw [h10]; decide) (by rw [h10]; rfl) rfl ?_
                    refine lv_iload hx hb dM_told_128 (lv_at hl 0 rfl) ?_
                    refine lv_iload_n hx hb dM_told_130 rfl (lv_at hl 1 rfl) ?_
                    refine zc_l (va_runS (As := [.int (mt r.toNatClampNeg), .int (ad r.toNatClampNeg)]) (rest := []) ⟨hx, hb, hml, hown, hq⟩ (kM_top l H (mt r.toNatClampNeg) (ad r.toNatClampNeg)) (va_cwS 2 hq (wA_S q_451 q_452 q_2 q_453) rfl rfl rfl (by decide +kernel) ⟨Nat.le_of_ble_eq_true rfl, Nat.le_of_ble_eq_true rfl⟩) ⟨fun a U g mk q => q, fun U hU hW => ⟨rfl, hU⟩⟩ rfl rfl hl.1 rfl (lv_room (Nat.le_of_ble_eq_true rfl)) dM_told_131 ⟨Nat.le_of_ble_eq_true rfl, Nat.le_of_ble_eq_true rfl⟩) hS (fun locs hS => ?_)
                    refine lv_iload hx hb dM_told_134 (lv_at hl 0 rfl) ?_
                    refine lv_iload_n hx hb dM_told_136 rfl (lv_at hl 1 rfl) ?_
                    refine zc_l (va_runS (As := [.int (mt r.toNatClampNeg), .int (ad r.toNatClampNeg)]) (rest := [.long (fM_top (mt r.toNatClampNeg) (ad r.toNatClampNeg))]) ⟨hx, hb, hml, hown, hq⟩ (kM_base l H (mt r.toNatClampNeg) (ad r.toNatClampNeg)) (va_cwS 2 hq (wA_S q_433 q_434 q_2 q_435) rfl rfl rfl (by decide +kernel) ⟨Nat.le_of_ble_eq_true rfl, Nat.le_of_ble_eq_true rfl⟩) ⟨fun a U g mk q => q, fun U hU hW => ⟨rfl, hU⟩⟩ rfl rfl hl.1 rfl (lv_room (Nat.le_of_ble_eq_true rfl)) dM_told_137 ⟨Nat.le_of_ble_eq_true rfl, Nat.le_of_ble_eq_true rfl⟩) hS (fun locs hS => ?_)
                    refine lv_lsub hx hb dM_told_140 ?_
                    have hX9 : xM_told tg ad mt r y = 0 := by unfold xM_told; rw [if_neg h1, if_pos h2, if_neg h3, if_pos h4, if_neg h5, if_neg h7, if_neg h8, if_neg h9, if_pos h10]
                    rw [if_pos hX9]
                    exact W.lret (v := (fM_top (mt r.toNatClampNeg) (ad r.toNatClampNeg)) - (fM_base (mt r.toNatClampNeg) (ad r.toNatClampNeg))) hx hb hr (fun t9 ht hW => ⟨⟨_, (), rfl, (fun _ => (by unfold rM_told; rw [if_neg h1, if_pos h2, if_neg h3, if_pos h4, if_neg h5, if_neg h7, if_neg h8, if_neg h9, if_pos h10])), by rw [ht]; exact hP, va_K.moved hW.alike hK, hD⟩, hS.F ht⟩) hS.2.2 dM_told_141
                  · by_cases h11 : y = (5 : Int32)
                    · refine lv_tableIn (x := y) (off := 87) (tgt := 142) hx hb dM_told_55 (by rw [h11]; decide) (by rw [h11]; decide) (by rw [h11]; rfl) rfl ?_
                      refine lv_iload hx hb dM_told_142 (lv_at hl 0 rfl) ?_
                      refine zc_i (va_runS (As := [.int (mt r.toNatClampNeg)]) (rest := []) ⟨hx, hb, hml, hown, hq⟩ (kM_perms l H (mt r.toNatClampNeg)) (va_cwS 1 hq (wA_S q_485 q_486 q_2 q_487) rfl rfl rfl (by decide +kernel) ⟨Nat.le_of_ble_eq_true rfl, Nat.le_of_ble_eq_true rfl⟩) ⟨fun a U g mk q => q, fun U hU hW => ⟨rfl, hU⟩⟩ rfl rfl hl.1 rfl (lv_room (Nat.le_of_ble_eq_true rfl)) dM_told_144 ⟨Nat.le_of_ble_eq_true rfl, Nat.le_of_ble_eq_true rfl⟩) hS (fun locs hS => ?_)
                      refine lv_i2l hx hb dM_told_147 rfl ?_
                      have hX9 : xM_told tg ad mt r y = 0 := by unfold xM_told; rw [if_neg h1, if_pos h2, if_neg h3, if_pos h4, if_neg h5, if_neg h7, if_neg h8, if_neg h9, if_neg h10, if_pos h11]
                      rw [if_pos hX9]
                      exact W.lret (v := (fM_perms (mt r.toNatClampNeg)).toInt64) hx hb hr (fun t9 ht hW => ⟨⟨_, (), rfl, (fun _ => (by unfold rM_told; rw [if_neg h1, if_pos h2, if_neg h3, if_pos h4, if_neg h5, if_neg h7, if_neg h8, if_neg h9, if_neg h10, if_pos h11])), by rw [ht]; exact hP, va_K.moved hW.alike hK, hD⟩, hS.F ht⟩) hS.2.2 dM_told_148
                    · by_cases h12 : y = (6 : Int32)
                      · refine lv_tableIn (x := y) (off := 94) (tgt := 149) hx hb dM_told_55 (by rw [h12]; decide) (by rw [h12]; decide) (by rw [h12]; rfl) rfl ?_
                        refine lv_iload hx hb dM_told_149 (lv_at hl 0 rfl) ?_
                        refine zc_i (va_runS (As := [.int (mt r.toNatClampNeg)]) (rest := []) ⟨hx, hb, hml, hown, hq⟩ (kM_type l H (mt r.toNatClampNeg)) (va_cwS 1 hq (wA_S q_474 q_475 q_2 q_476) rfl rfl rfl (by decide +kernel) ⟨Nat.le_of_ble_eq_true rfl, Nat.le_of_ble_eq_true rfl⟩) ⟨fun a U g mk q => q, fun U hU hW => ⟨rfl, hU⟩⟩ rfl rfl hl.1 rfl (lv_room (Nat.le_of_ble_eq_true rfl)) dM_told_151 ⟨Nat.le_of_ble_eq_true rfl, Nat.le_of_ble_eq_true rfl⟩) hS (fun locs hS => ?_)
                        refine lv_i2l hx hb dM_told_154 rfl ?_
                        have hX9 : xM_told tg ad mt r y = 0 := by unfold xM_told; rw [if_neg h1, if_pos h2, if_neg h3, if_pos h4, if_neg h5, if_neg h7, if_neg h8, if_neg h9, if_neg h10, if_neg h11, if_pos h12]
                        rw [if_pos hX9]
                        exact W.lret (v := (fM_type (mt r.toNatClampNeg)).toInt64) hx hb hr (fun t9 ht hW => ⟨⟨_, (), rfl, (fun _ => (by unfold rM_told; rw [if_neg h1, if_pos h2, if_neg h3, if_pos h4, if_neg h5, if_neg h7, if_neg h8, if_neg h9, if_neg h10, if_neg h11, if_pos h12])), by rw [ht]; exact hP, va_K.moved hW.alike hK, hD⟩, hS.F ht⟩) hS.2.2 dM_told_155
                      · refine lv_tableOut (tgt := 156) hx hb dM_told_55 (zz_sw7 h5 h7 h8 h9 h10 h11 h12) rfl ?_
                        refine lv_iload_n hx hb dM_told_156 rfl (lv_at hl 1 rfl) ?_
                        refine zc_l (va_runS (As := [.int (ad r.toNatClampNeg)]) (rest := []) ⟨hx, hb, hml, hown, hq⟩ (kM_low l H (ad r.toNatClampNeg)) (va_cwS 1 hq (wA_S q_417 q_418 q_2 q_419) rfl rfl rfl (by decide +kernel) ⟨Nat.le_of_ble_eq_true rfl, Nat.le_of_ble_eq_true rfl⟩) ⟨fun a U g mk q => q, fun U hU hW => ⟨rfl, hU⟩⟩ rfl rfl hl.1 rfl (lv_room (Nat.le_of_ble_eq_true rfl)) dM_told_157 ⟨Nat.le_of_ble_eq_true rfl, Nat.le_of_ble_eq_true rfl⟩) hS (fun locs hS => ?_)
                        refine lv_iload hx hb dM_told_160 (lv_at hl 0 rfl) ?_
                        refine lv_iload_n hx hb dM_told_162 rfl (lv_at hl 1 rfl) ?_
                        refine zc_l (va_runS (As := [.int (mt r.toNatClampNeg), .int (ad r.toNatClampNeg)]) (rest := [.long (fM_low (ad r.toNatClampNeg))]) ⟨hx, hb, hml, hown, hq⟩ (kM_base l H (mt r.toNatClampNeg) (ad r.toNatClampNeg)) (va_cwS 2 hq (wA_S q_433 q_434 q_2 q_435) rfl rfl rfl (by decide +kernel) ⟨Nat.le_of_ble_eq_true rfl, Nat.le_of_ble_eq_true rfl⟩) ⟨fun a U g mk q => q, fun U hU hW => ⟨rfl, hU⟩⟩ rfl rfl hl.1 rfl (lv_room (Nat.le_of_ble_eq_true rfl)) dM_told_163 ⟨Nat.le_of_ble_eq_true rfl, Nat.le_of_ble_eq_true rfl⟩) hS (fun locs hS => ?_)
                        refine lv_lsub hx hb dM_told_166 ?_
                        have hX9 : xM_told tg ad mt r y = 0 := by unfold xM_told; rw [if_neg h1, if_pos h2, if_neg h3, if_pos h4, if_neg h5, if_neg h7, if_neg h8, if_neg h9, if_neg h10, if_neg h11, if_neg h12]
                        rw [if_pos hX9]
                        exact W.lret (v := (fM_low (ad r.toNatClampNeg)) - (fM_base (mt r.toNatClampNeg) (ad r.toNatClampNeg))) hx hb hr (fun t9 ht hW => ⟨⟨_, (), rfl, (fun _ => (by unfold rM_told; rw [if_neg h1, if_pos h2, if_neg h3, if_pos h4, if_neg h5, if_neg h7, if_neg h8, if_neg h9, if_neg h10, if_neg h11, if_neg h12])), by rw [ht]; exact hP, va_K.moved hW.alike hK, hD⟩, hS.F ht⟩) hS.2.2 dM_told_167
        · refine lv_aload_n hx hb dM_told_27 rfl (lv_at hl 0 rfl) ?_
          refine lv_iconst (v := 2) hx hb dM_told_28 (by decide) ?_
          refine va_calli (va_runV (C := "CapUnitModel") (b := q 0) (As := [.int (2 : Int32)]) (rest := []) ⟨hx, hb, hml, hown, hq⟩ (kM_fail l (2 : Int32)) (cwV 1 hq (wA_V q_412 q_414 sM_fail q_2 q_415) rfl rfl rfl (by decide +kernel) ⟨Nat.le_of_ble_eq_true rfl, Nat.le_of_ble_eq_true rfl⟩) (zw_pre (c := zCl[1]) (q0 := 0) hK hP hD rfl rfl) rfl rfl hl.1 rfl (lv_room (Nat.le_of_ble_eq_true rfl)) dM_told_29 ⟨Nat.le_of_ble_eq_true rfl, Nat.le_of_ble_eq_true rfl⟩) hS (fun _ _ h9 => h9) (fun _ h9 => h9) (fun v9 u9 t9 H locs ht9 hvm9 hv9 hB9 hz9 hk9 hS => ?_)
          obtain ⟨hP, -, hD⟩ := hB9
          rw [ht9] at hP
          subst hv9
          clear hz9 hk9
          refine lv_i2l hx hb dM_told_32 rfl ?_
          have hX9 : xM_told tg ad mt r y = (2 : Int32) := by unfold xM_told; rw [if_neg h1, if_pos h2, if_neg h3, if_neg h4]
          have hN9 : ¬ xM_told tg ad mt r y = 0 := by rw [hX9]; decide
          rw [if_neg hN9, hX9]
          exact W.lret (v := (0 : Int32).toInt64) hx hb hr (fun t9 ht hW => ⟨⟨_, (), rfl, (fun h9 => absurd h9 (by decide)), by rw [ht]; exact hP, va_K.moved hW.alike hK, hD⟩, hS.F ht⟩) hS.2.2 dM_told_33
    · refine lv_aload_n hx hb dM_told_10 rfl (lv_at hl 0 rfl) ?_
      refine lv_iconst (v := 1) hx hb dM_told_11 (by decide) ?_
      refine va_calli (va_runV (C := "CapUnitModel") (b := q 0) (As := [.int (1 : Int32)]) (rest := []) ⟨hx, hb, hml, hown, hq⟩ (kM_fail l (1 : Int32)) (cwV 1 hq (wA_V q_412 q_414 sM_fail q_2 q_415) rfl rfl rfl (by decide +kernel) ⟨Nat.le_of_ble_eq_true rfl, Nat.le_of_ble_eq_true rfl⟩) (zw_pre (c := zCl[1]) (q0 := 0) hK hP hD rfl rfl) rfl rfl hl.1 rfl (lv_room (Nat.le_of_ble_eq_true rfl)) dM_told_12 ⟨Nat.le_of_ble_eq_true rfl, Nat.le_of_ble_eq_true rfl⟩) hS (fun _ _ h9 => h9) (fun _ h9 => h9) (fun v9 u9 t9 H locs ht9 hvm9 hv9 hB9 hz9 hk9 hS => ?_)
      obtain ⟨hP, -, hD⟩ := hB9
      rw [ht9] at hP
      subst hv9
      clear hz9 hk9
      refine lv_i2l hx hb dM_told_15 rfl ?_
      have hX9 : xM_told tg ad mt r y = (1 : Int32) := by unfold xM_told; rw [if_neg h1, if_neg h2]
      have hN9 : ¬ xM_told tg ad mt r y = 0 := by rw [hX9]; decide
      rw [if_neg hN9, hX9]
      exact W.lret (v := (0 : Int32).toInt64) hx hb hr (fun t9 ht hW => ⟨⟨_, (), rfl, (fun h9 => absurd h9 (by decide)), by rw [ht]; exact hP, va_K.moved hW.alike hK, hD⟩, hS.F ht⟩) hS.2.2 dM_told_16
def xM_reaches (tg : Nat → Int32) (ad : Nat → Int32) (mt : Nat → Int32) (r : Int32) (x : Int32) (n : Int32) : Int32 := if (zRb (zx1 r)) = 0 then (zx1 r) else (if n < 0 then (2 : Int32) else (if n ≤ (4096 : Int32) then (if (fM_isIn (mt r.toNatClampNeg) (ad r.toNatClampNeg) (fM_low x) n) = 0 then 0 else 0) else (2 : Int32)))
def rM_reaches (tg : Nat → Int32) (ad : Nat → Int32) (mt : Nat → Int32) (r : Int32) (x : Int32) (n : Int32) : Int32 := if (zRb (zx1 r)) = 0 then (0 : Int32) else (if n < 0 then (0 : Int32) else (if n ≤ (4096 : Int32) then (if (fM_isIn (mt r.toNatClampNeg) (ad r.toNatClampNeg) (fM_low x) n) = 0 then (0 : Int32) else (1 : Int32)) else (0 : Int32)))
set_option maxHeartbeats 4000000 in
set_option maxRecDepth 100000 in
theorem kM_reaches (l : Launch) {D : va_G} {q : Nat → Nat} {k : Nat → ClassId} {tg : Nat → Int32} {ad : Nat → Int32} {mt : Nat → Int32} {rb : Nat → Int64} {rt : Nat → Int64} {rp : Nat → Int32} {nr : Int32} {th : Int32} {pk : Int32} {ex : Int32} {ro : Int64} {A : Nat → Prop} (sz : Nat) (hA0 : ∀ q, sz ≤ q → A q) (r : Int32) (x : Int32) (n : Int32) : Met l yM_reaches wM_reaches { frames := 5, cells := 1, slots := 1, locals := 123 } (va_Pc [.ref (q 0), .int r, .int x, .int n] (fun U => U.heap.size = sz ∧ va_P D zCl (mW q k tg ad mt rb rt rp nr th pk ex ro) U.heap ∧ va_K D zCl (zT k) U ∧ va_D A (mW q k tg ad mt rb rt rp nr th pk ex ro))) (va_Qi (fun v9 (_ : Unit) => xM_reaches tg ad mt r x n = 0 → v9 = rM_reaches tg ad mt r x n) (fun _ t => va_P D zCl (if xM_reaches tg ad mt r x n = 0 then mW q k tg ad mt rb rt rp nr 0 pk ex ro else mW q k tg ad mt rb rt rp nr (xM_reaches tg ad mt r x n) pk ex ro) t.heap ∧ va_K D zCl (zT k) t ∧ va_D A (if xM_reaches tg ad mt r x n = 0 then mW q k tg ad mt rb rt rp nr 0 pk ex ro else mW q k tg ad mt rb rt rp nr (xM_reaches tg ad mt r x n) pk ex ro)) A) 1 1 A := by
  refine Met.ofW (cc := cM_reaches) (maxL := 4) (ret := (some .boolean)) (by decide) rfl ?_
  intro p e s m args below meth c s₁ B hml hv
  obtain ⟨rfl, hsz, hP, hK, hD⟩ := hv
  have hx := B.exec
  have hb := B.bytes
  have hr := B.returns
  have hts := atoms_spec (ws := wM_reaches) B.pre
  have hq : ∀ w ∈ wA, w.before _ s = true := fun w h => hts w (List.mem_cons_of_mem _ h)
  have hown : s.vm.findClass "CapUnitModel" = some m.cls := findClass_of_methodNamed B.named
  have hlocks := B.notSynchronized
  have hS : va_S A s.heap s.heap [] := va_S.rf
  have hl := lv_entry ([.ref (q 0), .int r, .int x, .int n]) (n := 4) (Nat.le_of_ble_eq_true rfl)
  rw [lg_entry_eq]
  generalize (lg_sl ([.ref (q 0), .int r, .int x, .int n]) ++ List.replicate (4 - (lg_sl ([.ref (q 0), .int r, .int x, .int n])).length) Slot.unset).toArray = ls at hl ⊢
  have hl : lv_has ls 4 [(0, .ref (q 0)), (1, .int r), (2, .int x), (3, .int n)] := hl
  have hA : ∀ q, s.heap.size ≤ q → A q := fun q h => hA0 q (by omega)
  refine lv_aload_n hx hb dM_reaches_0 rfl (lv_at hl 0 rfl) ?_
  refine lv_iconst (v := 1) hx hb dM_reaches_1 (by decide) ?_
  refine zn_i hx hb (hq _ q_42) hK hP hD hS hA (N' := 1) (by decide) (by decide) (by decide) (Nat.le_of_ble_eq_true rfl) (Nat.le_of_ble_eq_true rfl) dM_reaches_2 (fun a2 H hP hD hS => ?_)
  refine lv_dup hx hb dM_reaches_4 rfl ?_
  refine lv_iconst (v := 0) hx hb dM_reaches_5 (by decide) ?_
  refine lv_iload_n hx hb dM_reaches_6 rfl (lv_at hl 1 rfl) ?_
  refine va_iast hx hb hK hP hD hS 7 1 rfl rfl (show ¬ ((0 : Int32) < 0 ∨ 1 ≤ (0 : Int32).toNatClampNeg) by decide) dM_reaches_7 (fun H locs hP hD hS => ?_)
  have hP : va_P D zCl (mW q k tg ad mt rb rt rp nr th pk ex ro ++ [(a2, .inl (k 1, 1, .inl (upd (fun _ => (0 : Int32)) 0 r)))]) H := hP
  have hD : va_D A (mW q k tg ad mt rb rt rp nr th pk ex ro ++ [(a2, .inl (k 1, 1, .inl (upd (fun _ => (0 : Int32)) 0 r)))]) := hD
  refine va_calli (va_runV (C := "CapUnitModel") (b := q 0) (As := [.ref a2]) (rest := []) ⟨hx, hb, hml, hown, hq⟩ (kM_is1 l a2 r) (cwV 1 hq (wA_V q_462 q_464 sM_is q_2 q_465) rfl rfl rfl (by decide +kernel) ⟨Nat.le_of_ble_eq_true rfl, Nat.le_of_ble_eq_true rfl⟩) (zw_pre (c := zCl[1]) (q0 := 0) hK hP hD rfl rfl) rfl rfl hl.1 rfl (lv_room (Nat.le_of_ble_eq_true rfl)) dM_reaches_8 ⟨Nat.le_of_ble_eq_true rfl, Nat.le_of_ble_eq_true rfl⟩) hS (fun _ _ h9 => h9) (fun _ h9 => h9) (fun v9 u9 t9 H locs ht9 hvm9 hv9 hB9 hz9 hk9 hS => ?_)
  obtain ⟨hP, -, hD⟩ := hB9
  rw [ht9] at hP
  subst hv9
  clear hz9 hk9
  refine lv_if_ne (tgt := 16) hx hb dM_reaches_11 rfl (fun h1 => ?_) (fun h1 => ?_)
  · have e9 := zz_rb0 h1
    rw [e9] at hP hD
    have g9 := zz_x1 e9
    refine lv_aload_n hx hb dM_reaches_16 rfl (lv_at hl 0 rfl) ?_
    refine lv_iload_n hx hb dM_reaches_17 rfl (lv_at hl 3 rfl) ?_
    refine lv_if_lt (tgt := 28) hx hb dM_reaches_18 rfl (fun h2 => ?_) (fun h2 => ?_)
    · refine lv_iconst (v := 2) hx hb dM_reaches_28 (by decide) ?_
      refine lv_goto (tgt := 33) hx hb dM_reaches_29 rfl ?_
      refine va_put (D := D) (ci := 1) (v := .int (2 : Int32)) (ty := .int) (C := "CapUnitModel") (T := TM) (N := 11) hx hb hq uM_in tyM tyM_ok nmM hown hK hP hD hS 0 rfl rfl 7 (by decide) (hq _ q_377) (fun _ h9 => h9) rfl (by decide +kernel) (by rfl) (by rfl) (Nat.le_of_ble_eq_true rfl) dM_reaches_33 (fun H locs hP hD hS => ?_)
      have hP : va_P D zCl (mW q k tg ad mt rb rt rp nr (2 : Int32) pk ex ro) H := hP
      have hD : va_D A (mW q k tg ad mt rb rt rp nr (2 : Int32) pk ex ro) := hD
      refine lv_aload_n hx hb dM_reaches_36 rfl (lv_at hl 0 rfl) ?_
      refine va_get (D := D) (ci := 1) (v := .int (2 : Int32)) (C := "CapUnitModel") (T := TM) (N := 11) hx hb hq uM_in hown hK hP 0 rfl rfl 7 (by decide) (hq _ q_377) (fun _ h9 => h9) rfl dM_reaches_37 ?_
      refine lv_if_ne (tgt := 70) hx hb dM_reaches_40 rfl (fun _ => ?_) (fun h => absurd h (by decide))
      refine lv_iconst (v := 0) hx hb dM_reaches_70 (by decide) ?_
      have hX9 : xM_reaches tg ad mt r x n = (2 : Int32) := by unfold xM_reaches; rw [if_neg h1, if_pos h2]
      have hN9 : ¬ xM_reaches tg ad mt r x n = 0 := by rw [hX9]; decide
      rw [if_neg hN9, hX9]
      refine W.widen (k := 1) (n := 1) (by decide) (by decide) ?_
      exact W.zret (v := (0 : Int32)) hx hb hr (by decide) (fun t9 ht hW => ⟨⟨_, (), rfl, (fun h9 => absurd h9 (by decide)), by rw [ht]; exact hP, va_K.moved hW.alike hK, hD⟩, hS.F ht⟩) hS.2.2 dM_reaches_71
    · refine lv_iload_n hx hb dM_reaches_21 rfl (lv_at hl 3 rfl) ?_
      refine lv_sipush (v := 4096) hx hb dM_reaches_22 (by decide) ?_
      refine lv_icmp_le (tgt := 32) hx hb dM_reaches_25 rfl (fun h4 => ?_) (fun h4 => ?_)
      · refine lv_iconst (v := 0) hx hb dM_reaches_32 (by decide) ?_
        refine va_put (D := D) (ci := 1) (v := .int (0 : Int32)) (ty := .int) (C := "CapUnitModel") (T := TM) (N := 11) hx hb hq uM_in tyM tyM_ok nmM hown hK hP hD hS 0 rfl rfl 7 (by decide) (hq _ q_377) (fun _ h9 => h9) rfl (by decide +kernel) (by rfl) (by rfl) (Nat.le_of_ble_eq_true rfl) dM_reaches_33 (fun H locs hP hD hS => ?_)
        have hP : va_P D zCl (mW q k tg ad mt rb rt rp nr 0 pk ex ro) H := hP
        have hD : va_D A (mW q k tg ad mt rb rt rp nr 0 pk ex ro) := hD
        refine lv_aload_n hx hb dM_reaches_36 rfl (lv_at hl 0 rfl) ?_
        refine va_get (D := D) (ci := 1) (v := .int 0) (C := "CapUnitModel") (T := TM) (N := 11) hx hb hq uM_in hown hK hP 0 rfl rfl 7 (by decide) (hq _ q_377) (fun _ h9 => h9) rfl dM_reaches_37 ?_
        refine lv_if_ne (tgt := 70) hx hb dM_reaches_40 rfl (fun h => absurd h (by decide)) (fun _ => ?_)
        refine lv_aload_n hx hb dM_reaches_43 rfl (lv_at hl 0 rfl) ?_
        refine va_get (D := D) (ci := 1) (v := .ref (q 3)) (C := "CapUnitModel") (T := TM) (N := 11) hx hb hq uM_in hown hK hP 0 rfl rfl 2 (by decide) (hq _ q_372) (fun _ h9 => h9) rfl dM_reaches_44 ?_
        refine lv_iload_n hx hb dM_reaches_47 rfl (lv_at hl 1 rfl) ?_
        refine va_iald hx hb hK hP 3 1 rfl rfl (i := r) g9 dM_reaches_48 ?_
        refine lv_aload_n hx hb dM_reaches_49 rfl (lv_at hl 0 rfl) ?_
        refine va_get (D := D) (ci := 1) (v := .ref (q 2)) (C := "CapUnitModel") (T := TM) (N := 11) hx hb hq uM_in hown hK hP 0 rfl rfl 1 (by decide) (hq _ q_371) (fun _ h9 => h9) rfl dM_reaches_50 ?_
        refine lv_iload_n hx hb dM_reaches_53 rfl (lv_at hl 1 rfl) ?_
        refine va_iald hx hb hK hP 2 1 rfl rfl (i := r) g9 dM_reaches_54 ?_
        refine lv_iload_n hx hb dM_reaches_55 rfl (lv_at hl 2 rfl) ?_
        refine zc_l (va_runS (As := [.int x]) (rest := [.int (ad r.toNatClampNeg), .int (mt r.toNatClampNeg)]) ⟨hx, hb, hml, hown, hq⟩ (kM_low l H x) (va_cwS 1 hq (wA_S q_417 q_418 q_2 q_419) rfl rfl rfl (by decide +kernel) ⟨Nat.le_of_ble_eq_true rfl, Nat.le_of_ble_eq_true rfl⟩) ⟨fun a U g mk q => q, fun U hU hW => ⟨rfl, hU⟩⟩ rfl rfl hl.1 rfl (lv_room (Nat.le_of_ble_eq_true rfl)) dM_reaches_56 ⟨Nat.le_of_ble_eq_true rfl, Nat.le_of_ble_eq_true rfl⟩) hS (fun locs hS => ?_)
        refine lv_iload_n hx hb dM_reaches_59 rfl (lv_at hl 3 rfl) ?_
        refine zc_i (va_runS (As := [.int (mt r.toNatClampNeg), .int (ad r.toNatClampNeg), .long (fM_low x), .int n]) (rest := []) ⟨hx, hb, hml, hown, hq⟩ (kM_isIn l H (mt r.toNatClampNeg) (ad r.toNatClampNeg) (fM_low x) n) (va_cwS 4 hq (wA_S q_500 q_501 q_2 q_502) rfl rfl rfl (by decide +kernel) ⟨Nat.le_of_ble_eq_true rfl, Nat.le_of_ble_eq_true rfl⟩) ⟨fun a U g mk q => q, fun U hU hW => ⟨rfl, hU⟩⟩ rfl rfl hl.1 rfl (lv_room (Nat.le_of_ble_eq_true rfl)) dM_reaches_60 ⟨Nat.le_of_ble_eq_true rfl, Nat.le_of_ble_eq_true rfl⟩) hS (fun locs hS => ?_)
        refine lv_if_eq (tgt := 70) hx hb dM_reaches_63 rfl (fun h6 => ?_) (fun h6 => ?_)
        · refine lv_iconst (v := 0) hx hb dM_reaches_70 (by decide) ?_
          have hX9 : xM_reaches tg ad mt r x n = 0 := by unfold xM_reaches; rw [if_neg h1, if_neg h2, if_pos h4, if_pos h6]
          rw [if_pos hX9]
          refine W.widen (k := 1) (n := 1) (by decide) (by decide) ?_
          exact W.zret (v := (0 : Int32)) hx hb hr (by decide) (fun t9 ht hW => ⟨⟨_, (), rfl, (fun _ => (by unfold rM_reaches; rw [if_neg h1, if_neg h2, if_pos h4, if_pos h6])), by rw [ht]; exact hP, va_K.moved hW.alike hK, hD⟩, hS.F ht⟩) hS.2.2 dM_reaches_71
        · refine lv_iconst (v := 1) hx hb dM_reaches_66 (by decide) ?_
          refine lv_goto (tgt := 71) hx hb dM_reaches_67 rfl ?_
          have hX9 : xM_reaches tg ad mt r x n = 0 := by unfold xM_reaches; rw [if_neg h1, if_neg h2, if_pos h4, if_neg h6]
          rw [if_pos hX9]
          refine W.widen (k := 1) (n := 1) (by decide) (by decide) ?_
          exact W.zret (v := (1 : Int32)) hx hb hr (by decide) (fun t9 ht hW => ⟨⟨_, (), rfl, (fun _ => (by unfold rM_reaches; rw [if_neg h1, if_neg h2, if_pos h4, if_neg h6])), by rw [ht]; exact hP, va_K.moved hW.alike hK, hD⟩, hS.F ht⟩) hS.2.2 dM_reaches_71
      · refine lv_iconst (v := 2) hx hb dM_reaches_28 (by decide) ?_
        refine lv_goto (tgt := 33) hx hb dM_reaches_29 rfl ?_
        refine va_put (D := D) (ci := 1) (v := .int (2 : Int32)) (ty := .int) (C := "CapUnitModel") (T := TM) (N := 11) hx hb hq uM_in tyM tyM_ok nmM hown hK hP hD hS 0 rfl rfl 7 (by decide) (hq _ q_377) (fun _ h9 => h9) rfl (by decide +kernel) (by rfl) (by rfl) (Nat.le_of_ble_eq_true rfl) dM_reaches_33 (fun H locs hP hD hS => ?_)
        have hP : va_P D zCl (mW q k tg ad mt rb rt rp nr (2 : Int32) pk ex ro) H := hP
        have hD : va_D A (mW q k tg ad mt rb rt rp nr (2 : Int32) pk ex ro) := hD
        refine lv_aload_n hx hb dM_reaches_36 rfl (lv_at hl 0 rfl) ?_
        refine va_get (D := D) (ci := 1) (v := .int (2 : Int32)) (C := "CapUnitModel") (T := TM) (N := 11) hx hb hq uM_in hown hK hP 0 rfl rfl 7 (by decide) (hq _ q_377) (fun _ h9 => h9) rfl dM_reaches_37 ?_
        refine lv_if_ne (tgt := 70) hx hb dM_reaches_40 rfl (fun _ => ?_) (fun h => absurd h (by decide))
        refine lv_iconst (v := 0) hx hb dM_reaches_70 (by decide) ?_
        have hX9 : xM_reaches tg ad mt r x n = (2 : Int32) := by unfold xM_reaches; rw [if_neg h1, if_neg h2, if_neg h4]
        have hN9 : ¬ xM_reaches tg ad mt r x n = 0 := by rw [hX9]; decide
        rw [if_neg hN9, hX9]
        refine W.widen (k := 1) (n := 1) (by decide) (by decide) ?_
        exact W.zret (v := (0 : Int32)) hx hb hr (by decide) (fun t9 ht hW => ⟨⟨_, (), rfl, (fun h9 => absurd h9 (by decide)), by rw [ht]; exact hP, va_K.moved hW.alike hK, hD⟩, hS.F ht⟩) hS.2.2 dM_reaches_71
  · have e9 := zz_rb1 h1
    refine lv_iconst (v := 0) hx hb dM_reaches_14 (by decide) ?_
    have hX9 : xM_reaches tg ad mt r x n = zx1 r := by unfold xM_reaches; rw [if_pos h1]
    have hN9 : ¬ xM_reaches tg ad mt r x n = 0 := by rw [hX9]; exact e9
    rw [if_neg hN9, hX9]
    refine W.widen (k := 1) (n := 1) (by decide) (by decide) ?_
    exact W.zret (v := (0 : Int32)) hx hb hr (by decide) (fun t9 ht hW => ⟨⟨_, (), rfl, (fun h9 => absurd h9 e9), by rw [ht]; exact hP, va_K.moved hW.alike hK, hD⟩, hS.F ht⟩) hS.2.2 dM_reaches_15
def xM_packI (tg : Nat → Int32) (ad : Nat → Int32) (mt : Nat → Int32) (b : Int32) (n : Int64) : Int32 := if n < (0 : Int64) then (1 : Int32) else (if (4294967296 : Int64) < n then (1 : Int32) else (if ((fM_low b) + n) ≤ (4294967296 : Int64) then (if (zEx (kA b) (kA b + n.toInt)) = 0 then 0 else 0) else (1 : Int32)))
def rM_packI (tg : Nat → Int32) (ad : Nat → Int32) (mt : Nat → Int32) (b : Int32) (n : Int64) : Int32 := if n < (0 : Int64) then (0 : Int32) else (if (4294967296 : Int64) < n then (0 : Int32) else (if ((fM_low b) + n) ≤ (4294967296 : Int64) then (if (zEx (kA b) (kA b + n.toInt)) = 0 then ((zI (kPk (kA b) (kA b + n.toInt))) ||| (0 : Int32)) else ((zI (kPk (kA b) (kA b + n.toInt))) ||| (32768 : Int32))) else (0 : Int32)))
set_option maxHeartbeats 4000000 in
set_option maxRecDepth 100000 in
theorem kM_packI (l : Launch) {D : va_G} {q : Nat → Nat} {k : Nat → ClassId} {tg : Nat → Int32} {ad : Nat → Int32} {mt : Nat → Int32} {rb : Nat → Int64} {rt : Nat → Int64} {rp : Nat → Int32} {nr : Int32} {th : Int32} {pk : Int32} {ex : Int32} {ro : Int64} {A : Nat → Prop} (b : Int32) (n : Int64) : Met l yM_packI wM_packI { frames := 1, cells := 0, slots := 0, locals := 35 } (va_Pc [.ref (q 0), .int b, .long n] (fun U => va_P D zCl (mW q k tg ad mt rb rt rp nr th pk ex ro) U.heap ∧ va_K D zCl (zT k) U ∧ va_D A (mW q k tg ad mt rb rt rp nr th pk ex ro))) (va_Qi (fun v9 (_ : Unit) => xM_packI tg ad mt b n = 0 → v9 = rM_packI tg ad mt b n) (fun _ t => va_P D zCl (if xM_packI tg ad mt b n = 0 then mW q k tg ad mt rb rt rp nr 0 (zI (kPk (kA b) (kA b + n.toInt))) (zEx (kA b) (kA b + n.toInt)) (zL (kTo (kA b) (kA b + n.toInt) - kFr (kA b) (kA b + n.toInt))) else mW q k tg ad mt rb rt rp nr (xM_packI tg ad mt b n) pk ex ro) t.heap ∧ va_K D zCl (zT k) t ∧ va_D A (if xM_packI tg ad mt b n = 0 then mW q k tg ad mt rb rt rp nr 0 (zI (kPk (kA b) (kA b + n.toInt))) (zEx (kA b) (kA b + n.toInt)) (zL (kTo (kA b) (kA b + n.toInt) - kFr (kA b) (kA b + n.toInt))) else mW q k tg ad mt rb rt rp nr (xM_packI tg ad mt b n) pk ex ro)) A) 0 0 A := by
  refine Met.ofW (cc := cM_packI) (maxL := 4) (ret := (some .int)) (by decide) rfl ?_
  intro p e s m args below meth c s₁ B hml hv
  obtain ⟨rfl, hP, hK, hD⟩ := hv
  have hx := B.exec
  have hb := B.bytes
  have hr := B.returns
  have hts := atoms_spec (ws := wM_packI) B.pre
  have hq : ∀ w ∈ wA, w.before _ s = true := fun w h => hts w (List.mem_cons_of_mem _ h)
  have hown : s.vm.findClass "CapUnitModel" = some m.cls := findClass_of_methodNamed B.named
  have hlocks := B.notSynchronized
  have hS : va_S A s.heap s.heap [] := va_S.rf
  have hl := lv_entry ([.ref (q 0), .int b, .long n]) (n := 4) (Nat.le_of_ble_eq_true rfl)
  rw [lg_entry_eq]
  generalize (lg_sl ([.ref (q 0), .int b, .long n]) ++ List.replicate (4 - (lg_sl ([.ref (q 0), .int b, .long n])).length) Slot.unset).toArray = ls at hl ⊢
  have hl : lv_has ls 4 [(0, .ref (q 0)), (1, .int b), (2, .long n)] := hl
  refine lv_lload_n hx hb dM_packI_0 rfl (lv_at hl 2 rfl) ?_
  refine lv_lconst (v := 0) hx hb dM_packI_1 (by decide) ?_
  refine W.lcmp hx hb dM_packI_2 ?_
  refine lv_if_lt (tgt := 27) hx hb dM_packI_3 rfl (fun h1 => ?_) (fun h1 => ?_)
  · have h1 := (lg_cmp_lt _ _).mp h1
    refine lv_aload_n hx hb dM_packI_27 rfl (lv_at hl 0 rfl) ?_
    refine lv_iconst (v := 1) hx hb dM_packI_28 (by decide) ?_
    refine va_calli (va_runV (C := "CapUnitModel") (b := q 0) (As := [.int (1 : Int32)]) (rest := []) ⟨hx, hb, hml, hown, hq⟩ (kM_fail l (1 : Int32)) (cwV 1 hq (wA_V q_412 q_414 sM_fail q_2 q_415) rfl rfl rfl (by decide +kernel) ⟨Nat.le_of_ble_eq_true rfl, Nat.le_of_ble_eq_true rfl⟩) (zw_pre (c := zCl[1]) (q0 := 0) hK hP hD rfl rfl) rfl rfl hl.1 rfl (lv_room (Nat.le_of_ble_eq_true rfl)) dM_packI_29 ⟨Nat.le_of_ble_eq_true rfl, Nat.le_of_ble_eq_true rfl⟩) hS (fun _ _ h9 => h9) (fun _ h9 => h9) (fun v9 u9 t9 H locs ht9 hvm9 hv9 hB9 hz9 hk9 hS => ?_)
    obtain ⟨hP, -, hD⟩ := hB9
    rw [ht9] at hP
    subst hv9
    clear hz9 hk9
    have hX9 : xM_packI tg ad mt b n = (1 : Int32) := by unfold xM_packI; rw [if_pos h1]
    have hN9 : ¬ xM_packI tg ad mt b n = 0 := by rw [hX9]; decide
    rw [if_neg hN9, hX9]
    exact W.iret (v := (0 : Int32)) hx hb hr (fun t9 ht hW => ⟨⟨_, (), rfl, (fun h9 => absurd h9 (by decide)), by rw [ht]; exact hP, va_K.moved hW.alike hK, hD⟩, hS.F ht⟩) hS.2.2 dM_packI_32
  · have h1 := Not.imp h1 (lg_cmp_lt _ _).mpr
    refine lv_lload_n hx hb dM_packI_6 rfl (lv_at hl 2 rfl) ?_
    refine lv_ldc2 (v := 4294967296) hx hb hown (hts (.constantLong "CapUnitModel" 72 4294967296) (by decide +kernel)) dM_packI_7 ?_
    refine W.lcmp hx hb dM_packI_10 ?_
    refine lv_if_gt (tgt := 27) hx hb dM_packI_11 rfl (fun h2 => ?_) (fun h2 => ?_)
    · have h2 := (lg_cmp_gt _ _).mp h2
      refine lv_aload_n hx hb dM_packI_27 rfl (lv_at hl 0 rfl) ?_
      refine lv_iconst (v := 1) hx hb dM_packI_28 (by decide) ?_
      refine va_calli (va_runV (C := "CapUnitModel") (b := q 0) (As := [.int (1 : Int32)]) (rest := []) ⟨hx, hb, hml, hown, hq⟩ (kM_fail l (1 : Int32)) (cwV 1 hq (wA_V q_412 q_414 sM_fail q_2 q_415) rfl rfl rfl (by decide +kernel) ⟨Nat.le_of_ble_eq_true rfl, Nat.le_of_ble_eq_true rfl⟩) (zw_pre (c := zCl[1]) (q0 := 0) hK hP hD rfl rfl) rfl rfl hl.1 rfl (lv_room (Nat.le_of_ble_eq_true rfl)) dM_packI_29 ⟨Nat.le_of_ble_eq_true rfl, Nat.le_of_ble_eq_true rfl⟩) hS (fun _ _ h9 => h9) (fun _ h9 => h9) (fun v9 u9 t9 H locs ht9 hvm9 hv9 hB9 hz9 hk9 hS => ?_)
      obtain ⟨hP, -, hD⟩ := hB9
      rw [ht9] at hP
      subst hv9
      clear hz9 hk9
      have hX9 : xM_packI tg ad mt b n = (1 : Int32) := by unfold xM_packI; rw [if_neg h1, if_pos h2]
      have hN9 : ¬ xM_packI tg ad mt b n = 0 := by rw [hX9]; decide
      rw [if_neg hN9, hX9]
      exact W.iret (v := (0 : Int32)) hx hb hr (fun t9 ht hW => ⟨⟨_, (), rfl, (fun h9 => absurd h9 (by decide)), by rw [ht]; exact hP, va_K.moved hW.alike hK, hD⟩, hS.F ht⟩) hS.2.2 dM_packI_32
    · have h2 := Not.imp h2 (lg_cmp_gt _ _).mpr
      refine lv_iload_n hx hb dM_packI_14 rfl (lv_at hl 1 rfl) ?_
      refine zc_l (va_runS (As := [.int b]) (rest := []) ⟨hx, hb, hml, hown, hq⟩ (kM_low l s.heap b) (va_cwS 1 hq (wA_S q_417 q_418 q_2 q_419) rfl rfl rfl (by decide +kernel) ⟨Nat.le_of_ble_eq_true rfl, Nat.le_of_ble_eq_true rfl⟩) ⟨fun a U g mk q => q, fun U hU hW => ⟨rfl, hU⟩⟩ rfl rfl hl.1 rfl (lv_room (Nat.le_of_ble_eq_true rfl)) dM_packI_15 ⟨Nat.le_of_ble_eq_true rfl, Nat.le_of_ble_eq_true rfl⟩) hS (fun locs hS => ?_)
      refine lv_lload_n hx hb dM_packI_18 rfl (lv_at hl 2 rfl) ?_
      refine lv_ladd hx hb dM_packI_19 ?_
      refine lv_ldc2 (v := 4294967296) hx hb hown (hts (.constantLong "CapUnitModel" 72 4294967296) (by decide +kernel)) dM_packI_20 ?_
      refine W.lcmp hx hb dM_packI_23 ?_
      refine lv_if_le (tgt := 33) hx hb dM_packI_24 rfl (fun h3 => ?_) (fun h3 => ?_)
      · have h3 := (lg_cmp_le _ _).mp h3
        refine lv_aload_n hx hb dM_packI_33 rfl (lv_at hl 0 rfl) ?_
        refine lv_iconst (v := 0) hx hb dM_packI_34 (by decide) ?_
        refine va_put (D := D) (ci := 1) (v := .int (0 : Int32)) (ty := .int) (C := "CapUnitModel") (T := TM) (N := 11) hx hb hq uM_in tyM tyM_ok nmM hown hK hP hD hS 0 rfl rfl 7 (by decide) (hq _ q_377) (fun _ h9 => h9) rfl (by decide +kernel) (by rfl) (by rfl) (Nat.le_of_ble_eq_true rfl) dM_packI_35 (fun H locs hP hD hS => ?_)
        have hP : va_P D zCl (mW q k tg ad mt rb rt rp nr 0 pk ex ro) H := hP
        have hD : va_D A (mW q k tg ad mt rb rt rp nr 0 pk ex ro) := hD
        refine lv_aload_n hx hb dM_packI_38 rfl (lv_at hl 0 rfl) ?_
        refine lv_iload_n hx hb dM_packI_39 rfl (lv_at hl 1 rfl) ?_
        refine zc_l (va_runS (As := [.int b]) (rest := [.ref (q 0)]) ⟨hx, hb, hml, hown, hq⟩ (kM_low l H b) (va_cwS 1 hq (wA_S q_417 q_418 q_2 q_419) rfl rfl rfl (by decide +kernel) ⟨Nat.le_of_ble_eq_true rfl, Nat.le_of_ble_eq_true rfl⟩) ⟨fun a U g mk q => q, fun U hU hW => ⟨rfl, hU⟩⟩ rfl rfl hl.1 rfl (lv_room (Nat.le_of_ble_eq_true rfl)) dM_packI_40 ⟨Nat.le_of_ble_eq_true rfl, Nat.le_of_ble_eq_true rfl⟩) hS (fun locs hS => ?_)
        refine zt_l (show (fM_low b) = zL (kA b) by exact eM_low _) ?_
        refine lv_iload_n hx hb dM_packI_43 rfl (lv_at hl 1 rfl) ?_
        refine zc_l (va_runS (As := [.int b]) (rest := [.long (zL (kA b)), .ref (q 0)]) ⟨hx, hb, hml, hown, hq⟩ (kM_low l H b) (va_cwS 1 hq (wA_S q_417 q_418 q_2 q_419) rfl rfl rfl (by decide +kernel) ⟨Nat.le_of_ble_eq_true rfl, Nat.le_of_ble_eq_true rfl⟩) ⟨fun a U g mk q => q, fun U hU hW => ⟨rfl, hU⟩⟩ rfl rfl hl.1 rfl (lv_room (Nat.le_of_ble_eq_true rfl)) dM_packI_44 ⟨Nat.le_of_ble_eq_true rfl, Nat.le_of_ble_eq_true rfl⟩) hS (fun locs hS => ?_)
        refine lv_lload_n hx hb dM_packI_47 rfl (lv_at hl 2 rfl) ?_
        refine lv_ladd hx hb dM_packI_48 ?_
        refine zt_l (show ((fM_low b) + n) = zL (kA b + n.toInt) by exact z_ln _ _) ?_
        refine va_callv (va_runV (C := "CapUnitModel") (b := q 0) (As := [.long (zL (kA b)), .long (zL (kA b + n.toInt))]) (rest := []) ⟨hx, hb, hml, hown, hq⟩ (kM_packJ l (kA b) (kA b + n.toInt) (kA_in b).1 (z_p1 h1) (z_pp h1 h2 h3)) (cwV 2 hq (wA_V q_421 q_423 sM_packJ q_2 q_424) rfl rfl rfl (by decide +kernel) ⟨Nat.le_of_ble_eq_true rfl, Nat.le_of_ble_eq_true rfl⟩) (zw_pre (c := zCl[1]) (q0 := 0) hK hP hD rfl rfl) rfl rfl hl.1 rfl (lv_room (Nat.le_of_ble_eq_true rfl)) dM_packI_49 ⟨Nat.le_of_ble_eq_true rfl, Nat.le_of_ble_eq_true rfl⟩) hS (fun _ _ h9 => h9) (fun _ h9 => h9) (fun u9 t9 H locs ht9 hvm9 hv9 hB9 hz9 hk9 hS => ?_)
        obtain ⟨hP, -, hD⟩ := hB9
        rw [ht9] at hP
        clear hz9 hk9
        refine lv_aload_n hx hb dM_packI_52 rfl (lv_at hl 0 rfl) ?_
        refine va_get (D := D) (ci := 1) (v := .int (zI (kPk (kA b) (kA b + n.toInt)))) (C := "CapUnitModel") (T := TM) (N := 11) hx hb hq uM_in hown hK hP 0 rfl rfl 8 (by decide) (hq _ q_378) (fun _ h9 => h9) rfl dM_packI_53 ?_
        refine lv_aload_n hx hb dM_packI_56 rfl (lv_at hl 0 rfl) ?_
        refine va_get (D := D) (ci := 1) (v := .int (zEx (kA b) (kA b + n.toInt))) (C := "CapUnitModel") (T := TM) (N := 11) hx hb hq uM_in hown hK hP 0 rfl rfl 9 (by decide) (hq _ q_379) (fun _ h9 => h9) rfl dM_packI_57 ?_
        refine lv_if_eq (tgt := 68) hx hb dM_packI_60 rfl (fun h4 => ?_) (fun h4 => ?_)
        · refine lv_iconst (v := 0) hx hb dM_packI_68 (by decide) ?_
          refine lv_ior hx hb dM_packI_69 ?_
          have hX9 : xM_packI tg ad mt b n = 0 := by unfold xM_packI; rw [if_neg h1, if_neg h2, if_pos h3, if_pos h4]
          rw [if_pos hX9]
          exact W.iret (v := (zI (kPk (kA b) (kA b + n.toInt))) ||| (0 : Int32)) hx hb hr (fun t9 ht hW => ⟨⟨_, (), rfl, (fun _ => (by unfold rM_packI; rw [if_neg h1, if_neg h2, if_pos h3, if_pos h4])), by rw [ht]; exact hP, va_K.moved hW.alike hK, hD⟩, hS.F ht⟩) hS.2.2 dM_packI_70
        · refine lv_ldc (v := 32768) hx hb hown (hts (.constant "CapUnitModel" 143 32768) (by decide +kernel)) dM_packI_63 ?_
          refine lv_goto (tgt := 69) hx hb dM_packI_65 rfl ?_
          refine lv_ior hx hb dM_packI_69 ?_
          have hX9 : xM_packI tg ad mt b n = 0 := by unfold xM_packI; rw [if_neg h1, if_neg h2, if_pos h3, if_neg h4]
          rw [if_pos hX9]
          exact W.iret (v := (zI (kPk (kA b) (kA b + n.toInt))) ||| (32768 : Int32)) hx hb hr (fun t9 ht hW => ⟨⟨_, (), rfl, (fun _ => (by unfold rM_packI; rw [if_neg h1, if_neg h2, if_pos h3, if_neg h4])), by rw [ht]; exact hP, va_K.moved hW.alike hK, hD⟩, hS.F ht⟩) hS.2.2 dM_packI_70
      · have h3 := Not.imp h3 (lg_cmp_le _ _).mpr
        refine lv_aload_n hx hb dM_packI_27 rfl (lv_at hl 0 rfl) ?_
        refine lv_iconst (v := 1) hx hb dM_packI_28 (by decide) ?_
        refine va_calli (va_runV (C := "CapUnitModel") (b := q 0) (As := [.int (1 : Int32)]) (rest := []) ⟨hx, hb, hml, hown, hq⟩ (kM_fail l (1 : Int32)) (cwV 1 hq (wA_V q_412 q_414 sM_fail q_2 q_415) rfl rfl rfl (by decide +kernel) ⟨Nat.le_of_ble_eq_true rfl, Nat.le_of_ble_eq_true rfl⟩) (zw_pre (c := zCl[1]) (q0 := 0) hK hP hD rfl rfl) rfl rfl hl.1 rfl (lv_room (Nat.le_of_ble_eq_true rfl)) dM_packI_29 ⟨Nat.le_of_ble_eq_true rfl, Nat.le_of_ble_eq_true rfl⟩) hS (fun _ _ h9 => h9) (fun _ h9 => h9) (fun v9 u9 t9 H locs ht9 hvm9 hv9 hB9 hz9 hk9 hS => ?_)
        obtain ⟨hP, -, hD⟩ := hB9
        rw [ht9] at hP
        subst hv9
        clear hz9 hk9
        have hX9 : xM_packI tg ad mt b n = (1 : Int32) := by unfold xM_packI; rw [if_neg h1, if_neg h2, if_neg h3]
        have hN9 : ¬ xM_packI tg ad mt b n = 0 := by rw [hX9]; decide
        rw [if_neg hN9, hX9]
        exact W.iret (v := (0 : Int32)) hx hb hr (fun t9 ht hW => ⟨⟨_, (), rfl, (fun h9 => absurd h9 (by decide)), by rw [ht]; exact hP, va_K.moved hW.alike hK, hD⟩, hS.F ht⟩) hS.2.2 dM_packI_32
theorem xM_packI0 {tg ad mt : Nat → Int32} {n : Int64} (h : 0 ≤ n.toInt ∧ n.toInt ≤ 4294967296) : xM_packI tg ad mt 0 n = 0 := by
  have e0 : (0 : Int64).toInt = 0 := by decide
  have e1 : (4294967296 : Int64).toInt = 4294967296 := by decide
  have e : (4294967296 : Int64) = zL 4294967296 := by decide
  have a0 : kA 0 = 0 := by decide
  have h1 : ¬ n < (0 : Int64) := by rw [Int64.lt_iff_toInt_lt]; omega
  have h2 : ¬ (4294967296 : Int64) < n := by rw [Int64.lt_iff_toInt_lt]; omega
  have h3 : fM_low 0 + n ≤ (4294967296 : Int64) := by rw [z_ln, e, zL_le (by omega) (by omega) (by omega) (by omega)]; omega
  unfold xM_packI
  rw [if_neg h1, if_neg h2, if_pos h3]
  split <;> rfl
theorem kM_packI0 (l : Launch) {D : va_G} {q : Nat → Nat} {k : Nat → ClassId} {tg : Nat → Int32} {ad : Nat → Int32} {mt : Nat → Int32} {rb : Nat → Int64} {rt : Nat → Int64} {rp : Nat → Int32} {nr : Int32} {th : Int32} {pk : Int32} {ex : Int32} {ro : Int64} {A : Nat → Prop} (n : Int64) (h : 0 ≤ n.toInt ∧ n.toInt ≤ 4294967296) : Met l yM_packI wM_packI { frames := 1, cells := 0, slots := 0, locals := 35 } (va_Pc [.ref (q 0), .int 0, .long n] (fun U => va_P D zCl (mW q k tg ad mt rb rt rp nr th pk ex ro) U.heap ∧ va_K D zCl (zT k) U ∧ va_D A (mW q k tg ad mt rb rt rp nr th pk ex ro))) (va_Qi (fun v9 (_ : Unit) => xM_packI tg ad mt 0 n = 0 → v9 = rM_packI tg ad mt 0 n) (fun _ t => va_P D zCl (mW q k tg ad mt rb rt rp nr 0 (zI (kPk 0 n.toInt)) (zEx 0 n.toInt) (zL (kTo 0 n.toInt - kFr 0 n.toInt))) t.heap ∧ va_K D zCl (zT k) t ∧ va_D A (mW q k tg ad mt rb rt rp nr 0 (zI (kPk 0 n.toInt)) (zEx 0 n.toInt) (zL (kTo 0 n.toInt - kFr 0 n.toInt)))) A) 0 0 A := by
  have h9 := kM_packI l (D := D) (q := q) (k := k) (tg := tg) (ad := ad) (mt := mt) (rb := rb) (rt := rt) (rp := rp) (nr := nr) (th := th) (pk := pk) (ex := ex) (ro := ro) (A := A) 0 n
  rw [if_pos (xM_packI0 h)] at h9
  have a0 : kA 0 = 0 := by decide
  rw [a0, Int.zero_add] at h9
  exact h9
def xM_bound (tg : Nat → Int32) (ad : Nat → Int32) (mt : Nat → Int32) (z : Int32) (a : Int32) (y : Int32) : Int32 := if y = 0 then 0 else 0
def rM_bound (tg : Nat → Int32) (ad : Nat → Int32) (mt : Nat → Int32) (z : Int32) (a : Int32) (y : Int32) : Int64 := if y = 0 then (fM_base (z &&& (32767 : Int32)) a) else (fM_top (z &&& (32767 : Int32)) a)
set_option maxHeartbeats 4000000 in
set_option maxRecDepth 100000 in
theorem kM_bound (l : Launch) {D : va_G} {q : Nat → Nat} {k : Nat → ClassId} {tg : Nat → Int32} {ad : Nat → Int32} {mt : Nat → Int32} {rb : Nat → Int64} {rt : Nat → Int64} {rp : Nat → Int32} {nr : Int32} {th : Int32} {pk : Int32} {ex : Int32} {ro : Int64} {A : Nat → Prop} (z : Int32) (a : Int32) (y : Int32) : Met l yM_bound wM_bound { frames := 4, cells := 0, slots := 0, locals := 99 } (va_Pc [.ref (q 0), .int z, .int a, .int y] (fun U => va_P D zCl (mW q k tg ad mt rb rt rp nr th pk ex ro) U.heap ∧ va_K D zCl (zT k) U ∧ va_D A (mW q k tg ad mt rb rt rp nr th pk ex ro))) (va_Ql (fun v9 (_ : Unit) => xM_bound tg ad mt z a y = 0 → v9 = rM_bound tg ad mt z a y) (fun _ t => va_P D zCl (if xM_bound tg ad mt z a y = 0 then mW q k tg ad mt rb rt rp nr 0 pk ex ro else mW q k tg ad mt rb rt rp nr (xM_bound tg ad mt z a y) pk ex ro) t.heap ∧ va_K D zCl (zT k) t ∧ va_D A (if xM_bound tg ad mt z a y = 0 then mW q k tg ad mt rb rt rp nr 0 pk ex ro else mW q k tg ad mt rb rt rp nr (xM_bound tg ad mt z a y) pk ex ro)) A) 0 0 A := by
  refine Met.ofW (cc := cM_bound) (maxL := 4) (ret := (some .long)) (by decide) rfl ?_
  intro p e s m args below meth c s₁ B hml hv
  obtain ⟨rfl, hP, hK, hD⟩ := hv
  have hx := B.exec
  have hb := B.bytes
  have hr := B.returns
  have hts := atoms_spec (ws := wM_bound) B.pre
  have hq : ∀ w ∈ wA, w.before _ s = true := fun w h => hts w (List.mem_cons_of_mem _ h)
  have hown : s.vm.findClass "CapUnitModel" = some m.cls := findClass_of_methodNamed B.named
  have hlocks := B.notSynchronized
  have hS : va_S A s.heap s.heap [] := va_S.rf
  have hl := lv_entry ([.ref (q 0), .int z, .int a, .int y]) (n := 4) (Nat.le_of_ble_eq_true rfl)
  rw [lg_entry_eq]
  generalize (lg_sl ([.ref (q 0), .int z, .int a, .int y]) ++ List.replicate (4 - (lg_sl ([.ref (q 0), .int z, .int a, .int y])).length) Slot.unset).toArray = ls at hl ⊢
  have hl : lv_has ls 4 [(0, .ref (q 0)), (1, .int z), (2, .int a), (3, .int y)] := hl
  refine lv_aload_n hx hb dM_bound_0 rfl (lv_at hl 0 rfl) ?_
  refine lv_iconst (v := 0) hx hb dM_bound_1 (by decide) ?_
  refine va_put (D := D) (ci := 1) (v := .int (0 : Int32)) (ty := .int) (C := "CapUnitModel") (T := TM) (N := 11) hx hb hq uM_in tyM tyM_ok nmM hown hK hP hD hS 0 rfl rfl 7 (by decide) (hq _ q_377) (fun _ h9 => h9) rfl (by decide +kernel) (by rfl) (by rfl) (Nat.le_of_ble_eq_true rfl) dM_bound_2 (fun H locs hP hD hS => ?_)
  have hP : va_P D zCl (mW q k tg ad mt rb rt rp nr 0 pk ex ro) H := hP
  have hD : va_D A (mW q k tg ad mt rb rt rp nr 0 pk ex ro) := hD
  refine lv_iload_n hx hb dM_bound_5 rfl (lv_at hl 3 rfl) ?_
  refine lv_if_eq (tgt := 21) hx hb dM_bound_6 rfl (fun h1 => ?_) (fun h1 => ?_)
  · refine lv_iload_n hx hb dM_bound_21 rfl (lv_at hl 1 rfl) ?_
    refine lv_sipush (v := 32767) hx hb dM_bound_22 (by decide) ?_
    refine lv_iand hx hb dM_bound_25 ?_
    refine lv_iload_n hx hb dM_bound_26 rfl (lv_at hl 2 rfl) ?_
    refine zc_l (va_runS (As := [.int (z &&& (32767 : Int32)), .int a]) (rest := []) ⟨hx, hb, hml, hown, hq⟩ (kM_base l H (z &&& (32767 : Int32)) a) (va_cwS 2 hq (wA_S q_433 q_434 q_2 q_435) rfl rfl rfl (by decide +kernel) ⟨Nat.le_of_ble_eq_true rfl, Nat.le_of_ble_eq_true rfl⟩) ⟨fun a U g mk q => q, fun U hU hW => ⟨rfl, hU⟩⟩ rfl rfl hl.1 rfl (lv_room (Nat.le_of_ble_eq_true rfl)) dM_bound_27 ⟨Nat.le_of_ble_eq_true rfl, Nat.le_of_ble_eq_true rfl⟩) hS (fun locs hS => ?_)
    have hX9 : xM_bound tg ad mt z a y = 0 := by unfold xM_bound; rw [if_pos h1]
    rw [if_pos hX9]
    exact W.lret (v := fM_base (z &&& (32767 : Int32)) a) hx hb hr (fun t9 ht hW => ⟨⟨_, (), rfl, (fun _ => (by unfold rM_bound; rw [if_pos h1])), by rw [ht]; exact hP, va_K.moved hW.alike hK, hD⟩, hS.F ht⟩) hS.2.2 dM_bound_30
  · refine lv_iload_n hx hb dM_bound_9 rfl (lv_at hl 1 rfl) ?_
    refine lv_sipush (v := 32767) hx hb dM_bound_10 (by decide) ?_
    refine lv_iand hx hb dM_bound_13 ?_
    refine lv_iload_n hx hb dM_bound_14 rfl (lv_at hl 2 rfl) ?_
    refine zc_l (va_runS (As := [.int (z &&& (32767 : Int32)), .int a]) (rest := []) ⟨hx, hb, hml, hown, hq⟩ (kM_top l H (z &&& (32767 : Int32)) a) (va_cwS 2 hq (wA_S q_451 q_452 q_2 q_453) rfl rfl rfl (by decide +kernel) ⟨Nat.le_of_ble_eq_true rfl, Nat.le_of_ble_eq_true rfl⟩) ⟨fun a U g mk q => q, fun U hU hW => ⟨rfl, hU⟩⟩ rfl rfl hl.1 rfl (lv_room (Nat.le_of_ble_eq_true rfl)) dM_bound_15 ⟨Nat.le_of_ble_eq_true rfl, Nat.le_of_ble_eq_true rfl⟩) hS (fun locs hS => ?_)
    refine lv_goto (tgt := 30) hx hb dM_bound_18 rfl ?_
    have hX9 : xM_bound tg ad mt z a y = 0 := by unfold xM_bound; rw [if_neg h1]
    rw [if_pos hX9]
    exact W.lret (v := fM_top (z &&& (32767 : Int32)) a) hx hb hr (fun t9 ht hW => ⟨⟨_, (), rfl, (fun _ => (by unfold rM_bound; rw [if_neg h1])), by rw [ht]; exact hP, va_K.moved hW.alike hK, hD⟩, hS.F ht⟩) hS.2.2 dM_bound_30
def xM_rounded (tg : Nat → Int32) (ad : Nat → Int32) (mt : Nat → Int32) (n : Int64) (y : Int32) : Int32 := if n < (0 : Int64) then (1 : Int32) else (if n ≤ (4294967296 : Int64) then (if y = 0 then 0 else (if ((zI (kPk 0 n.toInt)) >>> ((14 : Int32) &&& 31)) = 0 then 0 else 0)) else (1 : Int32))
def rM_rounded (tg : Nat → Int32) (ad : Nat → Int32) (mt : Nat → Int32) (n : Int64) (y : Int32) : Int64 := if n < (0 : Int64) then (0 : Int64) else (if n ≤ (4294967296 : Int64) then (if y = 0 then (zL (kTo 0 n.toInt - kFr 0 n.toInt)) else (if ((zI (kPk 0 n.toInt)) >>> ((14 : Int32) &&& 31)) = 0 then (1 : Int64) else ((1 : Int64) <<< (((fM_scale (zI (kPk 0 n.toInt))) + (3 : Int32)).toInt64 &&& 63)))) else (0 : Int64))
set_option maxHeartbeats 4000000 in
set_option maxRecDepth 100000 in
theorem kM_rounded (l : Launch) {D : va_G} {q : Nat → Nat} {k : Nat → ClassId} {tg : Nat → Int32} {ad : Nat → Int32} {mt : Nat → Int32} {rb : Nat → Int64} {rt : Nat → Int64} {rp : Nat → Int32} {nr : Int32} {th : Int32} {pk : Int32} {ex : Int32} {ro : Int64} {A : Nat → Prop} (n : Int64) (y : Int32) : Met l yM_rounded wM_rounded { frames := 2, cells := 0, slots := 0, locals := 58 } (va_Pc [.ref (q 0), .long n, .int y] (fun U => va_P D zCl (mW q k tg ad mt rb rt rp nr th pk ex ro) U.heap ∧ va_K D zCl (zT k) U ∧ va_D A (mW q k tg ad mt rb rt rp nr th pk ex ro))) (va_Ql (fun v9 (_ : Unit) => xM_rounded tg ad mt n y = 0 → v9 = rM_rounded tg ad mt n y) (fun _ t => va_P D zCl (if xM_rounded tg ad mt n y = 0 then mW q k tg ad mt rb rt rp nr 0 (zI (kPk 0 n.toInt)) (zEx 0 n.toInt) (zL (kTo 0 n.toInt - kFr 0 n.toInt)) else mW q k tg ad mt rb rt rp nr (xM_rounded tg ad mt n y) pk ex ro) t.heap ∧ va_K D zCl (zT k) t ∧ va_D A (if xM_rounded tg ad mt n y = 0 then mW q k tg ad mt rb rt rp nr 0 (zI (kPk 0 n.toInt)) (zEx 0 n.toInt) (zL (kTo 0 n.toInt - kFr 0 n.toInt)) else mW q k tg ad mt rb rt rp nr (xM_rounded tg ad mt n y) pk ex ro)) A) 0 0 A := by
  refine Met.ofW (cc := cM_rounded) (maxL := 4) (ret := (some .long)) (by decide) rfl ?_
  intro p e s m args below meth c s₁ B hml hv
  obtain ⟨rfl, hP, hK, hD⟩ := hv
  have hx := B.exec
  have hb := B.bytes
  have hr := B.returns
  have hts := atoms_spec (ws := wM_rounded) B.pre
  have hq : ∀ w ∈ wA, w.before _ s = true := fun w h => hts w (List.mem_cons_of_mem _ h)
  have hown : s.vm.findClass "CapUnitModel" = some m.cls := findClass_of_methodNamed B.named
  have hlocks := B.notSynchronized
  have hS : va_S A s.heap s.heap [] := va_S.rf
  have hl := lv_entry ([.ref (q 0), .long n, .int y]) (n := 4) (Nat.le_of_ble_eq_true rfl)
  rw [lg_entry_eq]
  generalize (lg_sl ([.ref (q 0), .long n, .int y]) ++ List.replicate (4 - (lg_sl ([.ref (q 0), .long n, .int y])).length) Slot.unset).toArray = ls at hl ⊢
  have hl : lv_has ls 4 [(0, .ref (q 0)), (1, .long n), (3, .int y)] := hl
  refine lv_lload_n hx hb dM_rounded_0 rfl (lv_at hl 1 rfl) ?_
  refine lv_lconst (v := 0) hx hb dM_rounded_1 (by decide) ?_
  refine W.lcmp hx hb dM_rounded_2 ?_
  refine lv_if_lt (tgt := 14) hx hb dM_rounded_3 rfl (fun h1 => ?_) (fun h1 => ?_)
  · have h1 := (lg_cmp_lt _ _).mp h1
    refine lv_aload_n hx hb dM_rounded_14 rfl (lv_at hl 0 rfl) ?_
    refine lv_iconst (v := 1) hx hb dM_rounded_15 (by decide) ?_
    refine va_calli (va_runV (C := "CapUnitModel") (b := q 0) (As := [.int (1 : Int32)]) (rest := []) ⟨hx, hb, hml, hown, hq⟩ (kM_fail l (1 : Int32)) (cwV 1 hq (wA_V q_412 q_414 sM_fail q_2 q_415) rfl rfl rfl (by decide +kernel) ⟨Nat.le_of_ble_eq_true rfl, Nat.le_of_ble_eq_true rfl⟩) (zw_pre (c := zCl[1]) (q0 := 0) hK hP hD rfl rfl) rfl rfl hl.1 rfl (lv_room (Nat.le_of_ble_eq_true rfl)) dM_rounded_16 ⟨Nat.le_of_ble_eq_true rfl, Nat.le_of_ble_eq_true rfl⟩) hS (fun _ _ h9 => h9) (fun _ h9 => h9) (fun v9 u9 t9 H locs ht9 hvm9 hv9 hB9 hz9 hk9 hS => ?_)
    obtain ⟨hP, -, hD⟩ := hB9
    rw [ht9] at hP
    subst hv9
    clear hz9 hk9
    refine lv_i2l hx hb dM_rounded_19 rfl ?_
    have hX9 : xM_rounded tg ad mt n y = (1 : Int32) := by unfold xM_rounded; rw [if_pos h1]
    have hN9 : ¬ xM_rounded tg ad mt n y = 0 := by rw [hX9]; decide
    rw [if_neg hN9, hX9]
    exact W.lret (v := (0 : Int32).toInt64) hx hb hr (fun t9 ht hW => ⟨⟨_, (), rfl, (fun h9 => absurd h9 (by decide)), by rw [ht]; exact hP, va_K.moved hW.alike hK, hD⟩, hS.F ht⟩) hS.2.2 dM_rounded_20
  · have h1 := Not.imp h1 (lg_cmp_lt _ _).mpr
    refine lv_lload_n hx hb dM_rounded_6 rfl (lv_at hl 1 rfl) ?_
    refine lv_ldc2 (v := 4294967296) hx hb hown (hts (.constantLong "CapUnitModel" 72 4294967296) (by decide +kernel)) dM_rounded_7 ?_
    refine W.lcmp hx hb dM_rounded_10 ?_
    refine lv_if_le (tgt := 21) hx hb dM_rounded_11 rfl (fun h2 => ?_) (fun h2 => ?_)
    · have h2 := (lg_cmp_le _ _).mp h2
      have hr9 : 0 ≤ n.toInt ∧ n.toInt ≤ 4294967296 := ⟨z_n0 h1, z_n32 h2⟩
      refine lv_aload_n hx hb dM_rounded_21 rfl (lv_at hl 0 rfl) ?_
      refine lv_iconst (v := 0) hx hb dM_rounded_22 (by decide) ?_
      refine va_put (D := D) (ci := 1) (v := .int (0 : Int32)) (ty := .int) (C := "CapUnitModel") (T := TM) (N := 11) hx hb hq uM_in tyM tyM_ok nmM hown hK hP hD hS 0 rfl rfl 7 (by decide) (hq _ q_377) (fun _ h9 => h9) rfl (by decide +kernel) (by rfl) (by rfl) (Nat.le_of_ble_eq_true rfl) dM_rounded_23 (fun H locs hP hD hS => ?_)
      have hP : va_P D zCl (mW q k tg ad mt rb rt rp nr 0 pk ex ro) H := hP
      have hD : va_D A (mW q k tg ad mt rb rt rp nr 0 pk ex ro) := hD
      refine lv_aload_n hx hb dM_rounded_26 rfl (lv_at hl 0 rfl) ?_
      refine lv_iconst (v := 0) hx hb dM_rounded_27 (by decide) ?_
      refine lv_lload_n hx hb dM_rounded_28 rfl (lv_at hl 1 rfl) ?_
      refine va_calli (va_runV (C := "CapUnitModel") (b := q 0) (As := [.int (0 : Int32), .long n]) (rest := []) ⟨hx, hb, hml, hown, hq⟩ (kM_packI0 l n hr9) (cwV 2 hq (wA_V q_549 q_537 q_538 q_2 q_539) rfl rfl rfl (by decide +kernel) ⟨Nat.le_of_ble_eq_true rfl, Nat.le_of_ble_eq_true rfl⟩) (zw_pre (c := zCl[1]) (q0 := 0) hK hP hD rfl rfl) rfl rfl hl.1 rfl (lv_room (Nat.le_of_ble_eq_true rfl)) dM_rounded_29 ⟨Nat.le_of_ble_eq_true rfl, Nat.le_of_ble_eq_true rfl⟩) hS (fun _ _ h9 => h9) (fun _ h9 => h9) (fun v9 u9 t9 H locs ht9 hvm9 hv9 hB9 hz9 hk9 hS => ?_)
      obtain ⟨hP, -, hD⟩ := hB9
      rw [ht9] at hP
      clear hz9 hk9
      refine lv_pop hx hb dM_rounded_32 rfl ?_
      refine lv_iload_n hx hb dM_rounded_33 rfl (lv_at hl 2 rfl) ?_
      refine lv_if_ne (tgt := 44) hx hb dM_rounded_34 rfl (fun h3 => ?_) (fun h3 => ?_)
      · refine lv_aload_n hx hb dM_rounded_44 rfl (lv_at hl 0 rfl) ?_
        refine va_get (D := D) (ci := 1) (v := .int (zI (kPk 0 n.toInt))) (C := "CapUnitModel") (T := TM) (N := 11) hx hb hq uM_in hown hK hP 0 rfl rfl 8 (by decide) (hq _ q_378) (fun _ h9 => h9) rfl dM_rounded_45 ?_
        refine lv_bipush (v := 14) hx hb dM_rounded_48 (by decide) ?_
        refine lv_ishr hx hb dM_rounded_50 ?_
        refine lv_if_ne (tgt := 58) hx hb dM_rounded_51 rfl (fun h4 => ?_) (fun h4 => ?_)
        · refine lv_lconst (v := 1) hx hb dM_rounded_58 (by decide) ?_
          refine lv_aload_n hx hb dM_rounded_59 rfl (lv_at hl 0 rfl) ?_
          refine va_get (D := D) (ci := 1) (v := .int (zI (kPk 0 n.toInt))) (C := "CapUnitModel") (T := TM) (N := 11) hx hb hq uM_in hown hK hP 0 rfl rfl 8 (by decide) (hq _ q_378) (fun _ h9 => h9) rfl dM_rounded_60 ?_
          refine zc_i (va_runS (As := [.int (zI (kPk 0 n.toInt))]) (rest := [.long (1 : Int64)]) ⟨hx, hb, hml, hown, hq⟩ (kM_scale l H (zI (kPk 0 n.toInt))) (va_cwS 1 hq (wA_S q_439 q_440 q_2 q_441) rfl rfl rfl (by decide +kernel) ⟨Nat.le_of_ble_eq_true rfl, Nat.le_of_ble_eq_true rfl⟩) ⟨fun a U g mk q => q, fun U hU hW => ⟨rfl, hU⟩⟩ rfl rfl hl.1 rfl (lv_room (Nat.le_of_ble_eq_true rfl)) dM_rounded_63 ⟨Nat.le_of_ble_eq_true rfl, Nat.le_of_ble_eq_true rfl⟩) hS (fun locs hS => ?_)
          refine lv_iconst (v := 3) hx hb dM_rounded_66 (by decide) ?_
          refine lv_iadd hx hb dM_rounded_67 ?_
          refine lv_lshl hx hb dM_rounded_68 rfl ?_
          have hX9 : xM_rounded tg ad mt n y = 0 := by unfold xM_rounded; rw [if_neg h1, if_pos h2, if_neg h3, if_neg h4]
          rw [if_pos hX9]
          exact W.lret (v := (1 : Int64) <<< (((fM_scale (zI (kPk 0 n.toInt))) + (3 : Int32)).toInt64 &&& 63)) hx hb hr (fun t9 ht hW => ⟨⟨_, (), rfl, (fun _ => (by unfold rM_rounded; rw [if_neg h1, if_pos h2, if_neg h3, if_neg h4])), by rw [ht]; exact hP, va_K.moved hW.alike hK, hD⟩, hS.F ht⟩) hS.2.2 dM_rounded_69
        · refine lv_lconst (v := 1) hx hb dM_rounded_54 (by decide) ?_
          refine lv_goto (tgt := 69) hx hb dM_rounded_55 rfl ?_
          have hX9 : xM_rounded tg ad mt n y = 0 := by unfold xM_rounded; rw [if_neg h1, if_pos h2, if_neg h3, if_pos h4]
          rw [if_pos hX9]
          exact W.lret (v := (1 : Int64)) hx hb hr (fun t9 ht hW => ⟨⟨_, (), rfl, (fun _ => (by unfold rM_rounded; rw [if_neg h1, if_pos h2, if_neg h3, if_pos h4])), by rw [ht]; exact hP, va_K.moved hW.alike hK, hD⟩, hS.F ht⟩) hS.2.2 dM_rounded_69
      · refine lv_aload_n hx hb dM_rounded_37 rfl (lv_at hl 0 rfl) ?_
        refine va_get (D := D) (ci := 1) (v := .long (zL (kTo 0 n.toInt - kFr 0 n.toInt))) (C := "CapUnitModel") (T := TM) (N := 11) hx hb hq uM_in hown hK hP 0 rfl rfl 10 (by decide) (hq _ q_380) (fun _ h9 => h9) rfl dM_rounded_38 ?_
        refine lv_goto (tgt := 69) hx hb dM_rounded_41 rfl ?_
        have hX9 : xM_rounded tg ad mt n y = 0 := by unfold xM_rounded; rw [if_neg h1, if_pos h2, if_pos h3]
        rw [if_pos hX9]
        exact W.lret (v := zL (kTo 0 n.toInt - kFr 0 n.toInt)) hx hb hr (fun t9 ht hW => ⟨⟨_, (), rfl, (fun _ => (by unfold rM_rounded; rw [if_neg h1, if_pos h2, if_pos h3])), by rw [ht]; exact hP, va_K.moved hW.alike hK, hD⟩, hS.F ht⟩) hS.2.2 dM_rounded_69
    · have h2 := Not.imp h2 (lg_cmp_le _ _).mpr
      refine lv_aload_n hx hb dM_rounded_14 rfl (lv_at hl 0 rfl) ?_
      refine lv_iconst (v := 1) hx hb dM_rounded_15 (by decide) ?_
      refine va_calli (va_runV (C := "CapUnitModel") (b := q 0) (As := [.int (1 : Int32)]) (rest := []) ⟨hx, hb, hml, hown, hq⟩ (kM_fail l (1 : Int32)) (cwV 1 hq (wA_V q_412 q_414 sM_fail q_2 q_415) rfl rfl rfl (by decide +kernel) ⟨Nat.le_of_ble_eq_true rfl, Nat.le_of_ble_eq_true rfl⟩) (zw_pre (c := zCl[1]) (q0 := 0) hK hP hD rfl rfl) rfl rfl hl.1 rfl (lv_room (Nat.le_of_ble_eq_true rfl)) dM_rounded_16 ⟨Nat.le_of_ble_eq_true rfl, Nat.le_of_ble_eq_true rfl⟩) hS (fun _ _ h9 => h9) (fun _ h9 => h9) (fun v9 u9 t9 H locs ht9 hvm9 hv9 hB9 hz9 hk9 hS => ?_)
      obtain ⟨hP, -, hD⟩ := hB9
      rw [ht9] at hP
      subst hv9
      clear hz9 hk9
      refine lv_i2l hx hb dM_rounded_19 rfl ?_
      have hX9 : xM_rounded tg ad mt n y = (1 : Int32) := by unfold xM_rounded; rw [if_neg h1, if_neg h2]
      have hN9 : ¬ xM_rounded tg ad mt n y = 0 := by rw [hX9]; decide
      rw [if_neg hN9, hX9]
      exact W.lret (v := (0 : Int32).toInt64) hx hb hr (fun t9 ht hW => ⟨⟨_, (), rfl, (fun h9 => absurd h9 (by decide)), by rw [ht]; exact hP, va_K.moved hW.alike hK, hD⟩, hS.F ht⟩) hS.2.2 dM_rounded_20
def xM_root (tg : Nat → Int32) (ad : Nat → Int32) (mt : Nat → Int32) (nr : Int32) (r : Int32) (b : Int32) (n : Int64) (y : Int32) : Int32 := if r < (1 : Int32) then (1 : Int32) else (if r ≤ (31 : Int32) then (if n < (0 : Int64) then (2 : Int32) else (if (4294967296 : Int64) < n then (2 : Int32) else (if (4294967296 : Int64) < ((fM_low b) + n) then (2 : Int32) else (if y < 0 then (2 : Int32) else (if y ≤ (4095 : Int32) then (if nr = (8 : Int32) then (3 : Int32) else 0) else (2 : Int32)))))) else (1 : Int32))
def rM_root (tg : Nat → Int32) (ad : Nat → Int32) (mt : Nat → Int32) (nr : Int32) (r : Int32) (b : Int32) (n : Int64) (y : Int32) : Int32 := if r < (1 : Int32) then (0 : Int32) else (if r ≤ (31 : Int32) then (if n < (0 : Int64) then (0 : Int32) else (if (4294967296 : Int64) < n then (0 : Int32) else (if (4294967296 : Int64) < ((fM_low b) + n) then (0 : Int32) else (if y < 0 then (0 : Int32) else (if y ≤ (4095 : Int32) then (if nr = (8 : Int32) then (0 : Int32) else ((fM_base ((zS r (((y <<< ((20 : Int32) &&& 31)) ||| (983040 : Int32)) ||| (zI (kPk (kA b) (kA b + n.toInt)))) mt) r.toNatClampNeg) b).toInt32)) else (0 : Int32)))))) else (0 : Int32))
set_option maxHeartbeats 4000000 in
set_option maxRecDepth 100000 in
theorem kM_root (l : Launch) {D : va_G} {q : Nat → Nat} {k : Nat → ClassId} {tg : Nat → Int32} {ad : Nat → Int32} {mt : Nat → Int32} {rb : Nat → Int64} {rt : Nat → Int64} {rp : Nat → Int32} {nr : Int32} {th : Int32} {pk : Int32} {ex : Int32} {ro : Int64} {A : Nat → Prop} (r : Int32) (b : Int32) (n : Int64) (y : Int32) (in0 : ¬ nr < (0 : Int32)) (in8 : nr ≤ (8 : Int32)) : Met l yM_root wM_root { frames := 4, cells := 0, slots := 0, locals := 99 } (va_Pc [.ref (q 0), .int r, .int b, .long n, .int y] (fun U => va_P D zCl (mW q k tg ad mt rb rt rp nr th pk ex ro) U.heap ∧ va_K D zCl (zT k) U ∧ va_D A (mW q k tg ad mt rb rt rp nr th pk ex ro))) (va_Qi (fun v9 (_ : Unit) => xM_root tg ad mt nr r b n y = 0 → v9 = rM_root tg ad mt nr r b n y) (fun _ t => va_P D zCl (if xM_root tg ad mt nr r b n y = 0 then mW q k (zS r (1 : Int32) tg) (zS r b ad) (zS r (((y <<< ((20 : Int32) &&& 31)) ||| (983040 : Int32)) ||| (zI (kPk (kA b) (kA b + n.toInt)))) mt) (vp_updL rb nr.toNatClampNeg (fM_base ((zS r (((y <<< ((20 : Int32) &&& 31)) ||| (983040 : Int32)) ||| (zI (kPk (kA b) (kA b + n.toInt)))) mt) r.toNatClampNeg) b)) (vp_updL rt nr.toNatClampNeg (fM_top ((zS r (((y <<< ((20 : Int32) &&& 31)) ||| (983040 : Int32)) ||| (zI (kPk (kA b) (kA b + n.toInt)))) mt) r.toNatClampNeg) b)) (upd rp nr.toNatClampNeg y) (nr + (1 : Int32)) 0 (zI (kPk (kA b) (kA b + n.toInt))) (zEx (kA b) (kA b + n.toInt)) (zL (kTo (kA b) (kA b + n.toInt) - kFr (kA b) (kA b + n.toInt))) else mW q k tg ad mt rb rt rp nr (xM_root tg ad mt nr r b n y) pk ex ro) t.heap ∧ va_K D zCl (zT k) t ∧ va_D A (if xM_root tg ad mt nr r b n y = 0 then mW q k (zS r (1 : Int32) tg) (zS r b ad) (zS r (((y <<< ((20 : Int32) &&& 31)) ||| (983040 : Int32)) ||| (zI (kPk (kA b) (kA b + n.toInt)))) mt) (vp_updL rb nr.toNatClampNeg (fM_base ((zS r (((y <<< ((20 : Int32) &&& 31)) ||| (983040 : Int32)) ||| (zI (kPk (kA b) (kA b + n.toInt)))) mt) r.toNatClampNeg) b)) (vp_updL rt nr.toNatClampNeg (fM_top ((zS r (((y <<< ((20 : Int32) &&& 31)) ||| (983040 : Int32)) ||| (zI (kPk (kA b) (kA b + n.toInt)))) mt) r.toNatClampNeg) b)) (upd rp nr.toNatClampNeg y) (nr + (1 : Int32)) 0 (zI (kPk (kA b) (kA b + n.toInt))) (zEx (kA b) (kA b + n.toInt)) (zL (kTo (kA b) (kA b + n.toInt) - kFr (kA b) (kA b + n.toInt))) else mW q k tg ad mt rb rt rp nr (xM_root tg ad mt nr r b n y) pk ex ro)) A) 0 0 A := by
  refine Met.ofW (cc := cM_root) (maxL := 6) (ret := (some .int)) (by decide) rfl ?_
  intro p e s m args below meth c s₁ B hml hv
  obtain ⟨rfl, hP, hK, hD⟩ := hv
  have hx := B.exec
  have hb := B.bytes
  have hr := B.returns
  have hts := atoms_spec (ws := wM_root) B.pre
  have hq : ∀ w ∈ wA, w.before _ s = true := fun w h => hts w (List.mem_cons_of_mem _ h)
  have hown : s.vm.findClass "CapUnitModel" = some m.cls := findClass_of_methodNamed B.named
  have hlocks := B.notSynchronized
  have hS : va_S A s.heap s.heap [] := va_S.rf
  have hl := lv_entry ([.ref (q 0), .int r, .int b, .long n, .int y]) (n := 6) (Nat.le_of_ble_eq_true rfl)
  rw [lg_entry_eq]
  generalize (lg_sl ([.ref (q 0), .int r, .int b, .long n, .int y]) ++ List.replicate (6 - (lg_sl ([.ref (q 0), .int r, .int b, .long n, .int y])).length) Slot.unset).toArray = ls at hl ⊢
  have hl : lv_has ls 6 [(0, .ref (q 0)), (1, .int r), (2, .int b), (3, .long n), (5, .int y)] := hl
  refine lv_iload_n hx hb dM_root_0 rfl (lv_at hl 1 rfl) ?_
  refine lv_iconst (v := 1) hx hb dM_root_1 (by decide) ?_
  refine lv_icmp_lt (tgt := 11) hx hb dM_root_2 rfl (fun h1 => ?_) (fun h1 => ?_)
  · refine lv_aload_n hx hb dM_root_11 rfl (lv_at hl 0 rfl) ?_
    refine lv_iconst (v := 1) hx hb dM_root_12 (by decide) ?_
    refine va_calli (va_runV (C := "CapUnitModel") (b := q 0) (As := [.int (1 : Int32)]) (rest := []) ⟨hx, hb, hml, hown, hq⟩ (kM_fail l (1 : Int32)) (cwV 1 hq (wA_V q_412 q_414 sM_fail q_2 q_415) rfl rfl rfl (by decide +kernel) ⟨Nat.le_of_ble_eq_true rfl, Nat.le_of_ble_eq_true rfl⟩) (zw_pre (c := zCl[1]) (q0 := 0) hK hP hD rfl rfl) rfl rfl hl.1 rfl (lv_room (Nat.le_of_ble_eq_true rfl)) dM_root_13 ⟨Nat.le_of_ble_eq_true rfl, Nat.le_of_ble_eq_true rfl⟩) hS (fun _ _ h9 => h9) (fun _ h9 => h9) (fun v9 u9 t9 H locs ht9 hvm9 hv9 hB9 hz9 hk9 hS => ?_)
    obtain ⟨hP, -, hD⟩ := hB9
    rw [ht9] at hP
    subst hv9
    clear hz9 hk9
    have hX9 : xM_root tg ad mt nr r b n y = (1 : Int32) := by unfold xM_root; rw [if_pos h1]
    have hN9 : ¬ xM_root tg ad mt nr r b n y = 0 := by rw [hX9]; decide
    rw [if_neg hN9, hX9]
    exact W.iret (v := (0 : Int32)) hx hb hr (fun t9 ht hW => ⟨⟨_, (), rfl, (fun h9 => absurd h9 (by decide)), by rw [ht]; exact hP, va_K.moved hW.alike hK, hD⟩, hS.F ht⟩) hS.2.2 dM_root_16
  · refine lv_iload_n hx hb dM_root_5 rfl (lv_at hl 1 rfl) ?_
    refine lv_bipush (v := 31) hx hb dM_root_6 (by decide) ?_
    refine lv_icmp_le (tgt := 17) hx hb dM_root_8 rfl (fun h2 => ?_) (fun h2 => ?_)
    · have gr := zz_r31' h1 h2
      refine lv_lload_n hx hb dM_root_17 rfl (lv_at hl 3 rfl) ?_
      refine lv_lconst (v := 0) hx hb dM_root_18 (by decide) ?_
      refine W.lcmp hx hb dM_root_19 ?_
      refine lv_if_lt (tgt := 57) hx hb dM_root_20 rfl (fun h3 => ?_) (fun h3 => ?_)
      · have h3 := (lg_cmp_lt _ _).mp h3
        refine lv_aload_n hx hb dM_root_57 rfl (lv_at hl 0 rfl) ?_
        refine lv_iconst (v := 2) hx hb dM_root_58 (by decide) ?_
        refine va_calli (va_runV (C := "CapUnitModel") (b := q 0) (As := [.int (2 : Int32)]) (rest := []) ⟨hx, hb, hml, hown, hq⟩ (kM_fail l (2 : Int32)) (cwV 1 hq (wA_V q_412 q_414 sM_fail q_2 q_415) rfl rfl rfl (by decide +kernel) ⟨Nat.le_of_ble_eq_true rfl, Nat.le_of_ble_eq_true rfl⟩) (zw_pre (c := zCl[1]) (q0 := 0) hK hP hD rfl rfl) rfl rfl hl.1 rfl (lv_room (Nat.le_of_ble_eq_true rfl)) dM_root_59 ⟨Nat.le_of_ble_eq_true rfl, Nat.le_of_ble_eq_true rfl⟩) hS (fun _ _ h9 => h9) (fun _ h9 => h9) (fun v9 u9 t9 H locs ht9 hvm9 hv9 hB9 hz9 hk9 hS => ?_)
        obtain ⟨hP, -, hD⟩ := hB9
        rw [ht9] at hP
        subst hv9
        clear hz9 hk9
        have hX9 : xM_root tg ad mt nr r b n y = (2 : Int32) := by unfold xM_root; rw [if_neg h1, if_pos h2, if_pos h3]
        have hN9 : ¬ xM_root tg ad mt nr r b n y = 0 := by rw [hX9]; decide
        rw [if_neg hN9, hX9]
        exact W.iret (v := (0 : Int32)) hx hb hr (fun t9 ht hW => ⟨⟨_, (), rfl, (fun h9 => absurd h9 (by decide)), by rw [ht]; exact hP, va_K.moved hW.alike hK, hD⟩, hS.F ht⟩) hS.2.2 dM_root_62
      · have h3 := Not.imp h3 (lg_cmp_lt _ _).mpr
        refine lv_lload_n hx hb dM_root_23 rfl (lv_at hl 3 rfl) ?_
        refine lv_ldc2 (v := 4294967296) hx hb hown (hts (.constantLong "CapUnitModel" 72 4294967296) (by decide +kernel)) dM_root_24 ?_
        refine W.lcmp hx hb dM_root_27 ?_
        refine lv_if_gt (tgt := 57) hx hb dM_root_28 rfl (fun h4 => ?_) (fun h4 => ?_)
        · have h4 := (lg_cmp_gt _ _).mp h4
          refine lv_aload_n hx hb dM_root_57 rfl (lv_at hl 0 rfl) ?_
          refine lv_iconst (v := 2) hx hb dM_root_58 (by decide) ?_
          refine va_calli (va_runV (C := "CapUnitModel") (b := q 0) (As := [.int (2 : Int32)]) (rest := []) ⟨hx, hb, hml, hown, hq⟩ (kM_fail l (2 : Int32)) (cwV 1 hq (wA_V q_412 q_414 sM_fail q_2 q_415) rfl rfl rfl (by decide +kernel) ⟨Nat.le_of_ble_eq_true rfl, Nat.le_of_ble_eq_true rfl⟩) (zw_pre (c := zCl[1]) (q0 := 0) hK hP hD rfl rfl) rfl rfl hl.1 rfl (lv_room (Nat.le_of_ble_eq_true rfl)) dM_root_59 ⟨Nat.le_of_ble_eq_true rfl, Nat.le_of_ble_eq_true rfl⟩) hS (fun _ _ h9 => h9) (fun _ h9 => h9) (fun v9 u9 t9 H locs ht9 hvm9 hv9 hB9 hz9 hk9 hS => ?_)
          obtain ⟨hP, -, hD⟩ := hB9
          rw [ht9] at hP
          subst hv9
          clear hz9 hk9
          have hX9 : xM_root tg ad mt nr r b n y = (2 : Int32) := by unfold xM_root; rw [if_neg h1, if_pos h2, if_neg h3, if_pos h4]
          have hN9 : ¬ xM_root tg ad mt nr r b n y = 0 := by rw [hX9]; decide
          rw [if_neg hN9, hX9]
          exact W.iret (v := (0 : Int32)) hx hb hr (fun t9 ht hW => ⟨⟨_, (), rfl, (fun h9 => absurd h9 (by decide)), by rw [ht]; exact hP, va_K.moved hW.alike hK, hD⟩, hS.F ht⟩) hS.2.2 dM_root_62
        · have h4 := Not.imp h4 (lg_cmp_gt _ _).mpr
          refine lv_iload_n hx hb dM_root_31 rfl (lv_at hl 2 rfl) ?_
          refine zc_l (va_runS (As := [.int b]) (rest := []) ⟨hx, hb, hml, hown, hq⟩ (kM_low l s.heap b) (va_cwS 1 hq (wA_S q_417 q_418 q_2 q_419) rfl rfl rfl (by decide +kernel) ⟨Nat.le_of_ble_eq_true rfl, Nat.le_of_ble_eq_true rfl⟩) ⟨fun a U g mk q => q, fun U hU hW => ⟨rfl, hU⟩⟩ rfl rfl hl.1 rfl (lv_room (Nat.le_of_ble_eq_true rfl)) dM_root_32 ⟨Nat.le_of_ble_eq_true rfl, Nat.le_of_ble_eq_true rfl⟩) hS (fun locs hS => ?_)
          refine lv_lload_n hx hb dM_root_35 rfl (lv_at hl 3 rfl) ?_
          refine lv_ladd hx hb dM_root_36 ?_
          refine lv_ldc2 (v := 4294967296) hx hb hown (hts (.constantLong "CapUnitModel" 72 4294967296) (by decide +kernel)) dM_root_37 ?_
          refine W.lcmp hx hb dM_root_40 ?_
          refine lv_if_gt (tgt := 57) hx hb dM_root_41 rfl (fun h5 => ?_) (fun h5 => ?_)
          · have h5 := (lg_cmp_gt _ _).mp h5
            refine lv_aload_n hx hb dM_root_57 rfl (lv_at hl 0 rfl) ?_
            refine lv_iconst (v := 2) hx hb dM_root_58 (by decide) ?_
            refine va_calli (va_runV (C := "CapUnitModel") (b := q 0) (As := [.int (2 : Int32)]) (rest := []) ⟨hx, hb, hml, hown, hq⟩ (kM_fail l (2 : Int32)) (cwV 1 hq (wA_V q_412 q_414 sM_fail q_2 q_415) rfl rfl rfl (by decide +kernel) ⟨Nat.le_of_ble_eq_true rfl, Nat.le_of_ble_eq_true rfl⟩) (zw_pre (c := zCl[1]) (q0 := 0) hK hP hD rfl rfl) rfl rfl hl.1 rfl (lv_room (Nat.le_of_ble_eq_true rfl)) dM_root_59 ⟨Nat.le_of_ble_eq_true rfl, Nat.le_of_ble_eq_true rfl⟩) hS (fun _ _ h9 => h9) (fun _ h9 => h9) (fun v9 u9 t9 H locs ht9 hvm9 hv9 hB9 hz9 hk9 hS => ?_)
            obtain ⟨hP, -, hD⟩ := hB9
            rw [ht9] at hP
            subst hv9
            clear hz9 hk9
            have hX9 : xM_root tg ad mt nr r b n y = (2 : Int32) := by unfold xM_root; rw [if_neg h1, if_pos h2, if_neg h3, if_neg h4, if_pos h5]
            have hN9 : ¬ xM_root tg ad mt nr r b n y = 0 := by rw [hX9]; decide
            rw [if_neg hN9, hX9]
            exact W.iret (v := (0 : Int32)) hx hb hr (fun t9 ht hW => ⟨⟨_, (), rfl, (fun h9 => absurd h9 (by decide)), by rw [ht]; exact hP, va_K.moved hW.alike hK, hD⟩, hS.F ht⟩) hS.2.2 dM_root_62
          · have h5 := Not.imp h5 (lg_cmp_gt _ _).mpr
            refine lv_iload hx hb dM_root_44 (lv_at hl 4 rfl) ?_
            refine lv_if_lt (tgt := 57) hx hb dM_root_46 rfl (fun h6 => ?_) (fun h6 => ?_)
            · refine lv_aload_n hx hb dM_root_57 rfl (lv_at hl 0 rfl) ?_
              refine lv_iconst (v := 2) hx hb dM_root_58 (by decide) ?_
              refine va_calli (va_runV (C := "CapUnitModel") (b := q 0) (As := [.int (2 : Int32)]) (rest := []) ⟨hx, hb, hml, hown, hq⟩ (kM_fail l (2 : Int32)) (cwV 1 hq (wA_V q_412 q_414 sM_fail q_2 q_415) rfl rfl rfl (by decide +kernel) ⟨Nat.le_of_ble_eq_true rfl, Nat.le_of_ble_eq_true rfl⟩) (zw_pre (c := zCl[1]) (q0 := 0) hK hP hD rfl rfl) rfl rfl hl.1 rfl (lv_room (Nat.le_of_ble_eq_true rfl)) dM_root_59 ⟨Nat.le_of_ble_eq_true rfl, Nat.le_of_ble_eq_true rfl⟩) hS (fun _ _ h9 => h9) (fun _ h9 => h9) (fun v9 u9 t9 H locs ht9 hvm9 hv9 hB9 hz9 hk9 hS => ?_)
              obtain ⟨hP, -, hD⟩ := hB9
              rw [ht9] at hP
              subst hv9
              clear hz9 hk9
              have hX9 : xM_root tg ad mt nr r b n y = (2 : Int32) := by unfold xM_root; rw [if_neg h1, if_pos h2, if_neg h3, if_neg h4, if_neg h5, if_pos h6]
              have hN9 : ¬ xM_root tg ad mt nr r b n y = 0 := by rw [hX9]; decide
              rw [if_neg hN9, hX9]
              exact W.iret (v := (0 : Int32)) hx hb hr (fun t9 ht hW => ⟨⟨_, (), rfl, (fun h9 => absurd h9 (by decide)), by rw [ht]; exact hP, va_K.moved hW.alike hK, hD⟩, hS.F ht⟩) hS.2.2 dM_root_62
            · refine lv_iload hx hb dM_root_49 (lv_at hl 4 rfl) ?_
              refine lv_sipush (v := 4095) hx hb dM_root_51 (by decide) ?_
              refine lv_icmp_le (tgt := 63) hx hb dM_root_54 rfl (fun h7 => ?_) (fun h7 => ?_)
              · refine lv_aload_n hx hb dM_root_63 rfl (lv_at hl 0 rfl) ?_
                refine va_get (D := D) (ci := 1) (v := .int nr) (C := "CapUnitModel") (T := TM) (N := 11) hx hb hq uM_in hown hK hP 0 rfl rfl 6 (by decide) (hq _ q_376) (fun _ h9 => h9) rfl dM_root_64 ?_
                refine lv_bipush (v := 8) hx hb dM_root_67 (by decide) ?_
                refine lv_icmp_ne (tgt := 78) hx hb dM_root_69 rfl (fun h8 => ?_) (fun h8 => ?_)
                · have gnr := zz_r8n in0 in8 h8
                  refine lv_aload_n hx hb dM_root_78 rfl (lv_at hl 0 rfl) ?_
                  refine lv_iconst (v := 0) hx hb dM_root_79 (by decide) ?_
                  refine va_put (D := D) (ci := 1) (v := .int (0 : Int32)) (ty := .int) (C := "CapUnitModel") (T := TM) (N := 11) hx hb hq uM_in tyM tyM_ok nmM hown hK hP hD hS 0 rfl rfl 7 (by decide) (hq _ q_377) (fun _ h9 => h9) rfl (by decide +kernel) (by rfl) (by rfl) (Nat.le_of_ble_eq_true rfl) dM_root_80 (fun H locs hP hD hS => ?_)
                  have hP : va_P D zCl (mW q k tg ad mt rb rt rp nr 0 pk ex ro) H := hP
                  have hD : va_D A (mW q k tg ad mt rb rt rp nr 0 pk ex ro) := hD
                  refine lv_aload_n hx hb dM_root_83 rfl (lv_at hl 0 rfl) ?_
                  refine lv_iload_n hx hb dM_root_84 rfl (lv_at hl 2 rfl) ?_
                  refine zc_l (va_runS (As := [.int b]) (rest := [.ref (q 0)]) ⟨hx, hb, hml, hown, hq⟩ (kM_low l H b) (va_cwS 1 hq (wA_S q_417 q_418 q_2 q_419) rfl rfl rfl (by decide +kernel) ⟨Nat.le_of_ble_eq_true rfl, Nat.le_of_ble_eq_true rfl⟩) ⟨fun a U g mk q => q, fun U hU hW => ⟨rfl, hU⟩⟩ rfl rfl hl.1 rfl (lv_room (Nat.le_of_ble_eq_true rfl)) dM_root_85 ⟨Nat.le_of_ble_eq_true rfl, Nat.le_of_ble_eq_true rfl⟩) hS (fun locs hS => ?_)
                  refine zt_l (show (fM_low b) = zL (kA b) by exact eM_low _) ?_
                  refine lv_iload_n hx hb dM_root_88 rfl (lv_at hl 2 rfl) ?_
                  refine zc_l (va_runS (As := [.int b]) (rest := [.long (zL (kA b)), .ref (q 0)]) ⟨hx, hb, hml, hown, hq⟩ (kM_low l H b) (va_cwS 1 hq (wA_S q_417 q_418 q_2 q_419) rfl rfl rfl (by decide +kernel) ⟨Nat.le_of_ble_eq_true rfl, Nat.le_of_ble_eq_true rfl⟩) ⟨fun a U g mk q => q, fun U hU hW => ⟨rfl, hU⟩⟩ rfl rfl hl.1 rfl (lv_room (Nat.le_of_ble_eq_true rfl)) dM_root_89 ⟨Nat.le_of_ble_eq_true rfl, Nat.le_of_ble_eq_true rfl⟩) hS (fun locs hS => ?_)
                  refine lv_lload_n hx hb dM_root_92 rfl (lv_at hl 3 rfl) ?_
                  refine lv_ladd hx hb dM_root_93 ?_
                  refine zt_l (show ((fM_low b) + n) = zL (kA b + n.toInt) by exact z_ln _ _) ?_
                  refine va_callv (va_runV (C := "CapUnitModel") (b := q 0) (As := [.long (zL (kA b)), .long (zL (kA b + n.toInt))]) (rest := []) ⟨hx, hb, hml, hown, hq⟩ (kM_packJ l (kA b) (kA b + n.toInt) (kA_in b).1 (z_p1 h3) (z_pp' h3 h4 h5)) (cwV 2 hq (wA_V q_421 q_423 sM_packJ q_2 q_424) rfl rfl rfl (by decide +kernel) ⟨Nat.le_of_ble_eq_true rfl, Nat.le_of_ble_eq_true rfl⟩) (zw_pre (c := zCl[1]) (q0 := 0) hK hP hD rfl rfl) rfl rfl hl.1 rfl (lv_room (Nat.le_of_ble_eq_true rfl)) dM_root_94 ⟨Nat.le_of_ble_eq_true rfl, Nat.le_of_ble_eq_true rfl⟩) hS (fun _ _ h9 => h9) (fun _ h9 => h9) (fun u9 t9 H locs ht9 hvm9 hv9 hB9 hz9 hk9 hS => ?_)
                  obtain ⟨hP, -, hD⟩ := hB9
                  rw [ht9] at hP
                  clear hz9 hk9
                  refine lv_aload_n hx hb dM_root_97 rfl (lv_at hl 0 rfl) ?_
                  refine lv_iload_n hx hb dM_root_98 rfl (lv_at hl 1 rfl) ?_
                  refine lv_iconst (v := 1) hx hb dM_root_99 (by decide) ?_
                  refine lv_iload_n hx hb dM_root_100 rfl (lv_at hl 2 rfl) ?_
                  refine lv_iload hx hb dM_root_101 (lv_at hl 4 rfl) ?_
                  refine lv_bipush (v := 20) hx hb dM_root_103 (by decide) ?_
                  refine lv_ishl hx hb dM_root_105 ?_
                  refine lv_ldc (v := 983040) hx hb hown (hts (.constant "CapUnitModel" 110 983040) (by decide +kernel)) dM_root_106 ?_
                  refine lv_ior hx hb dM_root_108 ?_
                  refine lv_aload_n hx hb dM_root_109 rfl (lv_at hl 0 rfl) ?_
                  refine va_get (D := D) (ci := 1) (v := .int (zI (kPk (kA b) (kA b + n.toInt)))) (C := "CapUnitModel") (T := TM) (N := 11) hx hb hq uM_in hown hK hP 0 rfl rfl 8 (by decide) (hq _ q_378) (fun _ h9 => h9) rfl dM_root_110 ?_
                  refine lv_ior hx hb dM_root_113 ?_
                  refine va_calli (va_runV (C := "CapUnitModel") (b := q 0) (As := [.int r, .int (1 : Int32), .int b, .int (((y <<< ((20 : Int32) &&& 31)) ||| (983040 : Int32)) ||| (zI (kPk (kA b) (kA b + n.toInt))))]) (rest := []) ⟨hx, hb, hml, hown, hq⟩ (kM_set l r (1 : Int32) b (((y <<< ((20 : Int32) &&& 31)) ||| (983040 : Int32)) ||| (zI (kPk (kA b) (kA b + n.toInt)))) gr (Or.inr rfl)) (cwV 4 hq (wA_V q_429 q_431 sM_set q_2 q_432) rfl rfl rfl (by decide +kernel) ⟨Nat.le_of_ble_eq_true rfl, Nat.le_of_ble_eq_true rfl⟩) (zw_pre (c := zCl[1]) (q0 := 0) hK hP hD rfl rfl) rfl rfl hl.1 rfl (lv_room (Nat.le_of_ble_eq_true rfl)) dM_root_114 ⟨Nat.le_of_ble_eq_true rfl, Nat.le_of_ble_eq_true rfl⟩) hS (fun _ _ h9 => h9) (fun _ h9 => h9) (fun v9 u9 t9 H locs ht9 hvm9 hv9 hB9 hz9 hk9 hS => ?_)
                  obtain ⟨hP, -, hD⟩ := hB9
                  rw [ht9] at hP
                  subst hv9
                  clear hz9 hk9
                  refine lv_pop hx hb dM_root_117 rfl ?_
                  refine lv_aload_n hx hb dM_root_118 rfl (lv_at hl 0 rfl) ?_
                  refine va_get (D := D) (ci := 1) (v := .ref (q 4)) (C := "CapUnitModel") (T := TM) (N := 11) hx hb hq uM_in hown hK hP 0 rfl rfl 3 (by decide) (hq _ q_373) (fun _ h9 => h9) rfl dM_root_119 ?_
                  refine lv_aload_n hx hb dM_root_122 rfl (lv_at hl 0 rfl) ?_
                  refine va_get (D := D) (ci := 1) (v := .int nr) (C := "CapUnitModel") (T := TM) (N := 11) hx hb hq uM_in hown hK hP 0 rfl rfl 6 (by decide) (hq _ q_376) (fun _ h9 => h9) rfl dM_root_123 ?_
                  refine lv_aload_n hx hb dM_root_126 rfl (lv_at hl 0 rfl) ?_
                  refine va_get (D := D) (ci := 1) (v := .ref (q 3)) (C := "CapUnitModel") (T := TM) (N := 11) hx hb hq uM_in hown hK hP 0 rfl rfl 2 (by decide) (hq _ q_372) (fun _ h9 => h9) rfl dM_root_127 ?_
                  refine lv_iload_n hx hb dM_root_130 rfl (lv_at hl 1 rfl) ?_
                  refine va_iald hx hb hK hP 3 1 rfl rfl (i := r) gr dM_root_131 ?_
                  refine lv_iload_n hx hb dM_root_132 rfl (lv_at hl 2 rfl) ?_
                  refine zc_l (va_runS (As := [.int ((zS r (((y <<< ((20 : Int32) &&& 31)) ||| (983040 : Int32)) ||| (zI (kPk (kA b) (kA b + n.toInt)))) mt) r.toNatClampNeg), .int b]) (rest := [.int nr, .ref (q 4)]) ⟨hx, hb, hml, hown, hq⟩ (kM_base l H ((zS r (((y <<< ((20 : Int32) &&& 31)) ||| (983040 : Int32)) ||| (zI (kPk (kA b) (kA b + n.toInt)))) mt) r.toNatClampNeg) b) (va_cwS 2 hq (wA_S q_433 q_434 q_2 q_435) rfl rfl rfl (by decide +kernel) ⟨Nat.le_of_ble_eq_true rfl, Nat.le_of_ble_eq_true rfl⟩) ⟨fun a U g mk q => q, fun U hU hW => ⟨rfl, hU⟩⟩ rfl rfl hl.1 rfl (lv_room (Nat.le_of_ble_eq_true rfl)) dM_root_133 ⟨Nat.le_of_ble_eq_true rfl, Nat.le_of_ble_eq_true rfl⟩) hS (fun locs hS => ?_)
                  refine va_last hx hb hK hP hD hS 4 2 rfl rfl gnr dM_root_136 (fun H locs hP hD hS => ?_)
                  have hP : va_P D zCl (mW q k (zS r (1 : Int32) tg) (zS r b ad) (zS r (((y <<< ((20 : Int32) &&& 31)) ||| (983040 : Int32)) ||| (zI (kPk (kA b) (kA b + n.toInt)))) mt) (vp_updL rb nr.toNatClampNeg (fM_base ((zS r (((y <<< ((20 : Int32) &&& 31)) ||| (983040 : Int32)) ||| (zI (kPk (kA b) (kA b + n.toInt)))) mt) r.toNatClampNeg) b)) rt rp nr 0 (zI (kPk (kA b) (kA b + n.toInt))) (zEx (kA b) (kA b + n.toInt)) (zL (kTo (kA b) (kA b + n.toInt) - kFr (kA b) (kA b + n.toInt)))) H := hP
                  have hD : va_D A (mW q k (zS r (1 : Int32) tg) (zS r b ad) (zS r (((y <<< ((20 : Int32) &&& 31)) ||| (983040 : Int32)) ||| (zI (kPk (kA b) (kA b + n.toInt)))) mt) (vp_updL rb nr.toNatClampNeg (fM_base ((zS r (((y <<< ((20 : Int32) &&& 31)) ||| (983040 : Int32)) ||| (zI (kPk (kA b) (kA b + n.toInt)))) mt) r.toNatClampNeg) b)) rt rp nr 0 (zI (kPk (kA b) (kA b + n.toInt))) (zEx (kA b) (kA b + n.toInt)) (zL (kTo (kA b) (kA b + n.toInt) - kFr (kA b) (kA b + n.toInt)))) := hD
                  refine lv_aload_n hx hb dM_root_137 rfl (lv_at hl 0 rfl) ?_
                  refine va_get (D := D) (ci := 1) (v := .ref (q 5)) (C := "CapUnitModel") (T := TM) (N := 11) hx hb hq uM_in hown hK hP 0 rfl rfl 4 (by decide) (hq _ q_374) (fun _ h9 => h9) rfl dM_root_138 ?_
                  refine lv_aload_n hx hb dM_root_141 rfl (lv_at hl 0 rfl) ?_
                  refine va_get (D := D) (ci := 1) (v := .int nr) (C := "CapUnitModel") (T := TM) (N := 11) hx hb hq uM_in hown hK hP 0 rfl rfl 6 (by decide) (hq _ q_376) (fun _ h9 => h9) rfl dM_root_142 ?_
                  refine lv_aload_n hx hb dM_root_145 rfl (lv_at hl 0 rfl) ?_
                  refine va_get (D := D) (ci := 1) (v := .ref (q 3)) (C := "CapUnitModel") (T := TM) (N := 11) hx hb hq uM_in hown hK hP 0 rfl rfl 2 (by decide) (hq _ q_372) (fun _ h9 => h9) rfl dM_root_146 ?_
                  refine lv_iload_n hx hb dM_root_149 rfl (lv_at hl 1 rfl) ?_
                  refine va_iald hx hb hK hP 3 1 rfl rfl (i := r) gr dM_root_150 ?_
                  refine lv_iload_n hx hb dM_root_151 rfl (lv_at hl 2 rfl) ?_
                  refine zc_l (va_runS (As := [.int ((zS r (((y <<< ((20 : Int32) &&& 31)) ||| (983040 : Int32)) ||| (zI (kPk (kA b) (kA b + n.toInt)))) mt) r.toNatClampNeg), .int b]) (rest := [.int nr, .ref (q 5)]) ⟨hx, hb, hml, hown, hq⟩ (kM_top l H ((zS r (((y <<< ((20 : Int32) &&& 31)) ||| (983040 : Int32)) ||| (zI (kPk (kA b) (kA b + n.toInt)))) mt) r.toNatClampNeg) b) (va_cwS 2 hq (wA_S q_451 q_452 q_2 q_453) rfl rfl rfl (by decide +kernel) ⟨Nat.le_of_ble_eq_true rfl, Nat.le_of_ble_eq_true rfl⟩) ⟨fun a U g mk q => q, fun U hU hW => ⟨rfl, hU⟩⟩ rfl rfl hl.1 rfl (lv_room (Nat.le_of_ble_eq_true rfl)) dM_root_152 ⟨Nat.le_of_ble_eq_true rfl, Nat.le_of_ble_eq_true rfl⟩) hS (fun locs hS => ?_)
                  refine va_last hx hb hK hP hD hS 5 2 rfl rfl gnr dM_root_155 (fun H locs hP hD hS => ?_)
                  have hP : va_P D zCl (mW q k (zS r (1 : Int32) tg) (zS r b ad) (zS r (((y <<< ((20 : Int32) &&& 31)) ||| (983040 : Int32)) ||| (zI (kPk (kA b) (kA b + n.toInt)))) mt) (vp_updL rb nr.toNatClampNeg (fM_base ((zS r (((y <<< ((20 : Int32) &&& 31)) ||| (983040 : Int32)) ||| (zI (kPk (kA b) (kA b + n.toInt)))) mt) r.toNatClampNeg) b)) (vp_updL rt nr.toNatClampNeg (fM_top ((zS r (((y <<< ((20 : Int32) &&& 31)) ||| (983040 : Int32)) ||| (zI (kPk (kA b) (kA b + n.toInt)))) mt) r.toNatClampNeg) b)) rp nr 0 (zI (kPk (kA b) (kA b + n.toInt))) (zEx (kA b) (kA b + n.toInt)) (zL (kTo (kA b) (kA b + n.toInt) - kFr (kA b) (kA b + n.toInt)))) H := hP
                  have hD : va_D A (mW q k (zS r (1 : Int32) tg) (zS r b ad) (zS r (((y <<< ((20 : Int32) &&& 31)) ||| (983040 : Int32)) ||| (zI (kPk (kA b) (kA b + n.toInt)))) mt) (vp_updL rb nr.toNatClampNeg (fM_base ((zS r (((y <<< ((20 : Int32) &&& 31)) ||| (983040 : Int32)) ||| (zI (kPk (kA b) (kA b + n.toInt)))) mt) r.toNatClampNeg) b)) (vp_updL rt nr.toNatClampNeg (fM_top ((zS r (((y <<< ((20 : Int32) &&& 31)) ||| (983040 : Int32)) ||| (zI (kPk (kA b) (kA b + n.toInt)))) mt) r.toNatClampNeg) b)) rp nr 0 (zI (kPk (kA b) (kA b + n.toInt))) (zEx (kA b) (kA b + n.toInt)) (zL (kTo (kA b) (kA b + n.toInt) - kFr (kA b) (kA b + n.toInt)))) := hD
                  refine lv_aload_n hx hb dM_root_156 rfl (lv_at hl 0 rfl) ?_
                  refine va_get (D := D) (ci := 1) (v := .ref (q 6)) (C := "CapUnitModel") (T := TM) (N := 11) hx hb hq uM_in hown hK hP 0 rfl rfl 5 (by decide) (hq _ q_375) (fun _ h9 => h9) rfl dM_root_157 ?_
                  refine lv_aload_n hx hb dM_root_160 rfl (lv_at hl 0 rfl) ?_
                  refine va_get (D := D) (ci := 1) (v := .int nr) (C := "CapUnitModel") (T := TM) (N := 11) hx hb hq uM_in hown hK hP 0 rfl rfl 6 (by decide) (hq _ q_376) (fun _ h9 => h9) rfl dM_root_161 ?_
                  refine lv_iload hx hb dM_root_164 (lv_at hl 4 rfl) ?_
                  refine va_iast hx hb hK hP hD hS 6 1 rfl rfl gnr dM_root_166 (fun H locs hP hD hS => ?_)
                  have hP : va_P D zCl (mW q k (zS r (1 : Int32) tg) (zS r b ad) (zS r (((y <<< ((20 : Int32) &&& 31)) ||| (983040 : Int32)) ||| (zI (kPk (kA b) (kA b + n.toInt)))) mt) (vp_updL rb nr.toNatClampNeg (fM_base ((zS r (((y <<< ((20 : Int32) &&& 31)) ||| (983040 : Int32)) ||| (zI (kPk (kA b) (kA b + n.toInt)))) mt) r.toNatClampNeg) b)) (vp_updL rt nr.toNatClampNeg (fM_top ((zS r (((y <<< ((20 : Int32) &&& 31)) ||| (983040 : Int32)) ||| (zI (kPk (kA b) (kA b + n.toInt)))) mt) r.toNatClampNeg) b)) (upd rp nr.toNatClampNeg y) nr 0 (zI (kPk (kA b) (kA b + n.toInt))) (zEx (kA b) (kA b + n.toInt)) (zL (kTo (kA b) (kA b + n.toInt) - kFr (kA b) (kA b + n.toInt)))) H := hP
                  have hD : va_D A (mW q k (zS r (1 : Int32) tg) (zS r b ad) (zS r (((y <<< ((20 : Int32) &&& 31)) ||| (983040 : Int32)) ||| (zI (kPk (kA b) (kA b + n.toInt)))) mt) (vp_updL rb nr.toNatClampNeg (fM_base ((zS r (((y <<< ((20 : Int32) &&& 31)) ||| (983040 : Int32)) ||| (zI (kPk (kA b) (kA b + n.toInt)))) mt) r.toNatClampNeg) b)) (vp_updL rt nr.toNatClampNeg (fM_top ((zS r (((y <<< ((20 : Int32) &&& 31)) ||| (983040 : Int32)) ||| (zI (kPk (kA b) (kA b + n.toInt)))) mt) r.toNatClampNeg) b)) (upd rp nr.toNatClampNeg y) nr 0 (zI (kPk (kA b) (kA b + n.toInt))) (zEx (kA b) (kA b + n.toInt)) (zL (kTo (kA b) (kA b + n.toInt) - kFr (kA b) (kA b + n.toInt)))) := hD
                  refine lv_aload_n hx hb dM_root_167 rfl (lv_at hl 0 rfl) ?_
                  refine lv_dup hx hb dM_root_168 rfl ?_
                  refine va_get (D := D) (ci := 1) (v := .int nr) (C := "CapUnitModel") (T := TM) (N := 11) hx hb hq uM_in hown hK hP 0 rfl rfl 6 (by decide) (hq _ q_376) (fun _ h9 => h9) rfl dM_root_169 ?_
                  refine lv_iconst (v := 1) hx hb dM_root_172 (by decide) ?_
                  refine lv_iadd hx hb dM_root_173 ?_
                  refine va_put (D := D) (ci := 1) (v := .int (nr + (1 : Int32))) (ty := .int) (C := "CapUnitModel") (T := TM) (N := 11) hx hb hq uM_in tyM tyM_ok nmM hown hK hP hD hS 0 rfl rfl 6 (by decide) (hq _ q_376) (fun _ h9 => h9) rfl (by decide +kernel) (by rfl) (by rfl) (Nat.le_of_ble_eq_true rfl) dM_root_174 (fun H locs hP hD hS => ?_)
                  have hP : va_P D zCl (mW q k (zS r (1 : Int32) tg) (zS r b ad) (zS r (((y <<< ((20 : Int32) &&& 31)) ||| (983040 : Int32)) ||| (zI (kPk (kA b) (kA b + n.toInt)))) mt) (vp_updL rb nr.toNatClampNeg (fM_base ((zS r (((y <<< ((20 : Int32) &&& 31)) ||| (983040 : Int32)) ||| (zI (kPk (kA b) (kA b + n.toInt)))) mt) r.toNatClampNeg) b)) (vp_updL rt nr.toNatClampNeg (fM_top ((zS r (((y <<< ((20 : Int32) &&& 31)) ||| (983040 : Int32)) ||| (zI (kPk (kA b) (kA b + n.toInt)))) mt) r.toNatClampNeg) b)) (upd rp nr.toNatClampNeg y) (nr + (1 : Int32)) 0 (zI (kPk (kA b) (kA b + n.toInt))) (zEx (kA b) (kA b + n.toInt)) (zL (kTo (kA b) (kA b + n.toInt) - kFr (kA b) (kA b + n.toInt)))) H := hP
                  have hD : va_D A (mW q k (zS r (1 : Int32) tg) (zS r b ad) (zS r (((y <<< ((20 : Int32) &&& 31)) ||| (983040 : Int32)) ||| (zI (kPk (kA b) (kA b + n.toInt)))) mt) (vp_updL rb nr.toNatClampNeg (fM_base ((zS r (((y <<< ((20 : Int32) &&& 31)) ||| (983040 : Int32)) ||| (zI (kPk (kA b) (kA b + n.toInt)))) mt) r.toNatClampNeg) b)) (vp_updL rt nr.toNatClampNeg (fM_top ((zS r (((y <<< ((20 : Int32) &&& 31)) ||| (983040 : Int32)) ||| (zI (kPk (kA b) (kA b + n.toInt)))) mt) r.toNatClampNeg) b)) (upd rp nr.toNatClampNeg y) (nr + (1 : Int32)) 0 (zI (kPk (kA b) (kA b + n.toInt))) (zEx (kA b) (kA b + n.toInt)) (zL (kTo (kA b) (kA b + n.toInt) - kFr (kA b) (kA b + n.toInt)))) := hD
                  refine lv_aload_n hx hb dM_root_177 rfl (lv_at hl 0 rfl) ?_
                  refine va_get (D := D) (ci := 1) (v := .ref (q 3)) (C := "CapUnitModel") (T := TM) (N := 11) hx hb hq uM_in hown hK hP 0 rfl rfl 2 (by decide) (hq _ q_372) (fun _ h9 => h9) rfl dM_root_178 ?_
                  refine lv_iload_n hx hb dM_root_181 rfl (lv_at hl 1 rfl) ?_
                  refine va_iald hx hb hK hP 3 1 rfl rfl (i := r) gr dM_root_182 ?_
                  refine lv_iload_n hx hb dM_root_183 rfl (lv_at hl 2 rfl) ?_
                  refine zc_l (va_runS (As := [.int ((zS r (((y <<< ((20 : Int32) &&& 31)) ||| (983040 : Int32)) ||| (zI (kPk (kA b) (kA b + n.toInt)))) mt) r.toNatClampNeg), .int b]) (rest := []) ⟨hx, hb, hml, hown, hq⟩ (kM_base l H ((zS r (((y <<< ((20 : Int32) &&& 31)) ||| (983040 : Int32)) ||| (zI (kPk (kA b) (kA b + n.toInt)))) mt) r.toNatClampNeg) b) (va_cwS 2 hq (wA_S q_433 q_434 q_2 q_435) rfl rfl rfl (by decide +kernel) ⟨Nat.le_of_ble_eq_true rfl, Nat.le_of_ble_eq_true rfl⟩) ⟨fun a U g mk q => q, fun U hU hW => ⟨rfl, hU⟩⟩ rfl rfl hl.1 rfl (lv_room (Nat.le_of_ble_eq_true rfl)) dM_root_184 ⟨Nat.le_of_ble_eq_true rfl, Nat.le_of_ble_eq_true rfl⟩) hS (fun locs hS => ?_)
                  refine lv_l2i hx hb dM_root_187 rfl ?_
                  have hX9 : xM_root tg ad mt nr r b n y = 0 := by unfold xM_root; rw [if_neg h1, if_pos h2, if_neg h3, if_neg h4, if_neg h5, if_neg h6, if_pos h7, if_neg h8]
                  rw [if_pos hX9]
                  exact W.iret (v := (fM_base ((zS r (((y <<< ((20 : Int32) &&& 31)) ||| (983040 : Int32)) ||| (zI (kPk (kA b) (kA b + n.toInt)))) mt) r.toNatClampNeg) b).toInt32) hx hb hr (fun t9 ht hW => ⟨⟨_, (), rfl, (fun _ => (by unfold rM_root; rw [if_neg h1, if_pos h2, if_neg h3, if_neg h4, if_neg h5, if_neg h6, if_pos h7, if_neg h8])), by rw [ht]; exact hP, va_K.moved hW.alike hK, hD⟩, hS.F ht⟩) hS.2.2 dM_root_188
                · refine lv_aload_n hx hb dM_root_72 rfl (lv_at hl 0 rfl) ?_
                  refine lv_iconst (v := 3) hx hb dM_root_73 (by decide) ?_
                  refine va_calli (va_runV (C := "CapUnitModel") (b := q 0) (As := [.int (3 : Int32)]) (rest := []) ⟨hx, hb, hml, hown, hq⟩ (kM_fail l (3 : Int32)) (cwV 1 hq (wA_V q_412 q_414 sM_fail q_2 q_415) rfl rfl rfl (by decide +kernel) ⟨Nat.le_of_ble_eq_true rfl, Nat.le_of_ble_eq_true rfl⟩) (zw_pre (c := zCl[1]) (q0 := 0) hK hP hD rfl rfl) rfl rfl hl.1 rfl (lv_room (Nat.le_of_ble_eq_true rfl)) dM_root_74 ⟨Nat.le_of_ble_eq_true rfl, Nat.le_of_ble_eq_true rfl⟩) hS (fun _ _ h9 => h9) (fun _ h9 => h9) (fun v9 u9 t9 H locs ht9 hvm9 hv9 hB9 hz9 hk9 hS => ?_)
                  obtain ⟨hP, -, hD⟩ := hB9
                  rw [ht9] at hP
                  subst hv9
                  clear hz9 hk9
                  have hX9 : xM_root tg ad mt nr r b n y = (3 : Int32) := by unfold xM_root; rw [if_neg h1, if_pos h2, if_neg h3, if_neg h4, if_neg h5, if_neg h6, if_pos h7, if_pos h8]
                  have hN9 : ¬ xM_root tg ad mt nr r b n y = 0 := by rw [hX9]; decide
                  rw [if_neg hN9, hX9]
                  exact W.iret (v := (0 : Int32)) hx hb hr (fun t9 ht hW => ⟨⟨_, (), rfl, (fun h9 => absurd h9 (by decide)), by rw [ht]; exact hP, va_K.moved hW.alike hK, hD⟩, hS.F ht⟩) hS.2.2 dM_root_77
              · refine lv_aload_n hx hb dM_root_57 rfl (lv_at hl 0 rfl) ?_
                refine lv_iconst (v := 2) hx hb dM_root_58 (by decide) ?_
                refine va_calli (va_runV (C := "CapUnitModel") (b := q 0) (As := [.int (2 : Int32)]) (rest := []) ⟨hx, hb, hml, hown, hq⟩ (kM_fail l (2 : Int32)) (cwV 1 hq (wA_V q_412 q_414 sM_fail q_2 q_415) rfl rfl rfl (by decide +kernel) ⟨Nat.le_of_ble_eq_true rfl, Nat.le_of_ble_eq_true rfl⟩) (zw_pre (c := zCl[1]) (q0 := 0) hK hP hD rfl rfl) rfl rfl hl.1 rfl (lv_room (Nat.le_of_ble_eq_true rfl)) dM_root_59 ⟨Nat.le_of_ble_eq_true rfl, Nat.le_of_ble_eq_true rfl⟩) hS (fun _ _ h9 => h9) (fun _ h9 => h9) (fun v9 u9 t9 H locs ht9 hvm9 hv9 hB9 hz9 hk9 hS => ?_)
                obtain ⟨hP, -, hD⟩ := hB9
                rw [ht9] at hP
                subst hv9
                clear hz9 hk9
                have hX9 : xM_root tg ad mt nr r b n y = (2 : Int32) := by unfold xM_root; rw [if_neg h1, if_pos h2, if_neg h3, if_neg h4, if_neg h5, if_neg h6, if_neg h7]
                have hN9 : ¬ xM_root tg ad mt nr r b n y = 0 := by rw [hX9]; decide
                rw [if_neg hN9, hX9]
                exact W.iret (v := (0 : Int32)) hx hb hr (fun t9 ht hW => ⟨⟨_, (), rfl, (fun h9 => absurd h9 (by decide)), by rw [ht]; exact hP, va_K.moved hW.alike hK, hD⟩, hS.F ht⟩) hS.2.2 dM_root_62
    · refine lv_aload_n hx hb dM_root_11 rfl (lv_at hl 0 rfl) ?_
      refine lv_iconst (v := 1) hx hb dM_root_12 (by decide) ?_
      refine va_calli (va_runV (C := "CapUnitModel") (b := q 0) (As := [.int (1 : Int32)]) (rest := []) ⟨hx, hb, hml, hown, hq⟩ (kM_fail l (1 : Int32)) (cwV 1 hq (wA_V q_412 q_414 sM_fail q_2 q_415) rfl rfl rfl (by decide +kernel) ⟨Nat.le_of_ble_eq_true rfl, Nat.le_of_ble_eq_true rfl⟩) (zw_pre (c := zCl[1]) (q0 := 0) hK hP hD rfl rfl) rfl rfl hl.1 rfl (lv_room (Nat.le_of_ble_eq_true rfl)) dM_root_13 ⟨Nat.le_of_ble_eq_true rfl, Nat.le_of_ble_eq_true rfl⟩) hS (fun _ _ h9 => h9) (fun _ h9 => h9) (fun v9 u9 t9 H locs ht9 hvm9 hv9 hB9 hz9 hk9 hS => ?_)
      obtain ⟨hP, -, hD⟩ := hB9
      rw [ht9] at hP
      subst hv9
      clear hz9 hk9
      have hX9 : xM_root tg ad mt nr r b n y = (1 : Int32) := by unfold xM_root; rw [if_neg h1, if_neg h2]
      have hN9 : ¬ xM_root tg ad mt nr r b n y = 0 := by rw [hX9]; decide
      rw [if_neg hN9, hX9]
      exact W.iret (v := (0 : Int32)) hx hb hr (fun t9 ht hW => ⟨⟨_, (), rfl, (fun h9 => absurd h9 (by decide)), by rw [ht]; exact hP, va_K.moved hW.alike hK, hD⟩, hS.F ht⟩) hS.2.2 dM_root_16
