/-! The reference's public methods. -/
theorem zz_rb0 {x : Int32} (h : ¬ zRb x = 0) : x = 0 := by
  unfold zRb at h
  split at h
  · assumption
  · exact absurd rfl h
theorem zz_rb1 {x : Int32} (h : zRb x = 0) : ¬ x = 0 := by
  unfold zRb at h
  split at h
  · exact absurd h (by decide)
  · assumption
theorem zz_x1 {d : Int32} (h : zx1 d = 0) : vp_in d 32 := by
  unfold zx1 at h
  split at h
  · exact absurd h (by decide)
  · exact zz_reg (by assumption)
theorem zz_x2 {d r : Int32} (h : zx2 d r = 0) : vp_in d 32 ∧ vp_in r 32 := by
  unfold zx2 at h
  split at h
  · exact absurd h (by decide)
  · split at h
    · exact absurd h (by decide)
    · exact ⟨zz_reg (by assumption), zz_reg (by assumption)⟩
theorem zz_x3 {d r y : Int32} (h : zx3 d r y = 0) : vp_in d 32 ∧ vp_in r 32 ∧ vp_in y 32 := by
  unfold zx3 at h
  split at h
  · exact absurd h (by decide)
  · split at h
    · exact absurd h (by decide)
    · split at h
      · exact absurd h (by decide)
      · exact ⟨zz_reg (by assumption), zz_reg (by assumption), zz_reg (by assumption)⟩
def kNt (a n : Int32) : Int := if kA a + kA n < 4294967296 then kA a + kA n else 4294967296
theorem kNt_in (a n : Int32) : kA a ≤ kNt a n ∧ kNt a n ≤ 4294967296 := by
  have := kA_in a
  have := kA_in n
  unfold kNt
  split <;> omega
theorem z_nt1 {a n : Int32} (h : ¬ (4294967296 : Int64) ≤ fM_low a + fM_low n) : fM_low a + fM_low n = zL (kNt a n) := by
  have := kA_in a
  have := kA_in n
  have e : (4294967296 : Int64) = zL 4294967296 := by decide
  rw [e, eM_low, eM_low, zL_add, zL_le (by omega) (by omega) (by omega) (by omega)] at h
  rw [eM_low, eM_low, zL_add]
  unfold kNt
  rw [if_pos (by omega)]
theorem z_nt2 {a n : Int32} (h : (4294967296 : Int64) ≤ fM_low a + fM_low n) : (4294967296 : Int64) = zL (kNt a n) := by
  have := kA_in a
  have := kA_in n
  have e : (4294967296 : Int64) = zL 4294967296 := by decide
  rw [e, eM_low, eM_low, zL_add, zL_le (by omega) (by omega) (by omega) (by omega)] at h
  unfold kNt
  rw [if_neg (by omega), e]

def xM_put (tg : Nat → Int32) (ad : Nat → Int32) (mt : Nat → Int32) (d : Int32) (a : Int32) (z : Int32) : Int32 := if (zRb (zx1 d)) = 0 then (zx1 d) else 0
set_option maxHeartbeats 4000000 in
set_option maxRecDepth 100000 in
theorem kM_put (l : Launch) {D : va_G} {q : Nat → Nat} {k : Nat → ClassId} {tg : Nat → Int32} {ad : Nat → Int32} {mt : Nat → Int32} {rb : Nat → Int64} {rt : Nat → Int64} {rp : Nat → Int32} {nr : Int32} {th : Int32} {pk : Int32} {ex : Int32} {ro : Int64} {A : Nat → Prop} (sz : Nat) (hA0 : ∀ q, sz ≤ q → A q) (d : Int32) (a : Int32) (z : Int32) : Met l yM_put wM_put { frames := 1, cells := 1, slots := 1, locals := 25 } (va_Pc [.ref (q 0), .int d, .int a, .int z] (fun U => U.heap.size = sz ∧ va_P D zCl (mW q k tg ad mt rb rt rp nr th pk ex ro) U.heap ∧ va_K D zCl (zT k) U ∧ va_D A (mW q k tg ad mt rb rt rp nr th pk ex ro))) (va_Qv (fun _ : Unit => True) (fun _ t => va_P D zCl (if xM_put tg ad mt d a z = 0 then mW q k (zS d (0 : Int32) tg) (zS d a ad) (zS d (z ^^^ (1000194 : Int32)) mt) rb rt rp nr 0 pk ex ro else mW q k tg ad mt rb rt rp nr (xM_put tg ad mt d a z) pk ex ro) t.heap ∧ va_K D zCl (zT k) t ∧ va_D A (if xM_put tg ad mt d a z = 0 then mW q k (zS d (0 : Int32) tg) (zS d a ad) (zS d (z ^^^ (1000194 : Int32)) mt) rb rt rp nr 0 pk ex ro else mW q k tg ad mt rb rt rp nr (xM_put tg ad mt d a z) pk ex ro)) A) 1 1 A := by
  refine Met.ofW (cc := cM_put) (maxL := 4) (ret := none) (by decide) rfl ?_
  intro p e s m args below meth c s₁ B hml hv
  obtain ⟨rfl, hsz, hP, hK, hD⟩ := hv
  have hx := B.exec
  have hb := B.bytes
  have hr := B.returns
  have hts := atoms_spec (ws := wM_put) B.pre
  have hq : ∀ w ∈ wA, w.before _ s = true := fun w h => hts w (List.mem_cons_of_mem _ h)
  have hown : s.vm.findClass "CapUnitModel" = some m.cls := findClass_of_methodNamed B.named
  have hlocks := B.notSynchronized
  have hS : va_S A s.heap s.heap [] := va_S.rf
  have hl := lv_entry ([.ref (q 0), .int d, .int a, .int z]) (n := 4) (Nat.le_of_ble_eq_true rfl)
  rw [lg_entry_eq]
  generalize (lg_sl ([.ref (q 0), .int d, .int a, .int z]) ++ List.replicate (4 - (lg_sl ([.ref (q 0), .int d, .int a, .int z])).length) Slot.unset).toArray = ls at hl ⊢
  have hl : lv_has ls 4 [(0, .ref (q 0)), (1, .int d), (2, .int a), (3, .int z)] := hl
  have hA : ∀ q, s.heap.size ≤ q → A q := fun q h => hA0 q (by omega)
  refine lv_aload_n hx hb dM_put_0 rfl (lv_at hl 0 rfl) ?_
  refine lv_iconst (v := 1) hx hb dM_put_1 (by decide) ?_
  refine zn_i hx hb (hq _ q_42) hK hP hD hS hA (N' := 1) (by decide) (by decide) (by decide) (Nat.le_of_ble_eq_true rfl) (Nat.le_of_ble_eq_true rfl) dM_put_2 (fun a2 H hP hD hS => ?_)
  refine lv_dup hx hb dM_put_4 rfl ?_
  refine lv_iconst (v := 0) hx hb dM_put_5 (by decide) ?_
  refine lv_iload_n hx hb dM_put_6 rfl (lv_at hl 1 rfl) ?_
  refine va_iast hx hb hK hP hD hS 7 1 rfl rfl (show ¬ ((0 : Int32) < 0 ∨ 1 ≤ (0 : Int32).toNatClampNeg) by decide) dM_put_7 (fun H locs hP hD hS => ?_)
  have hP : va_P D zCl (mW q k tg ad mt rb rt rp nr th pk ex ro ++ [(a2, .inl (k 1, 1, .inl (upd (fun _ => (0 : Int32)) 0 d)))]) H := hP
  have hD : va_D A (mW q k tg ad mt rb rt rp nr th pk ex ro ++ [(a2, .inl (k 1, 1, .inl (upd (fun _ => (0 : Int32)) 0 d)))]) := hD
  refine va_calli (va_runV (C := "CapUnitModel") (b := q 0) (As := [.ref a2]) (rest := []) ⟨hx, hb, hml, hown, hq⟩ (kM_is1 l a2 d) (cwV 1 hq (wA_V q_462 q_464 sM_is q_2 q_465) rfl rfl rfl (by decide +kernel) ⟨Nat.le_of_ble_eq_true rfl, Nat.le_of_ble_eq_true rfl⟩) (zw_pre (c := zCl[1]) (q0 := 0) hK hP hD rfl rfl) rfl rfl hl.1 rfl (lv_room (Nat.le_of_ble_eq_true rfl)) dM_put_8 ⟨Nat.le_of_ble_eq_true rfl, Nat.le_of_ble_eq_true rfl⟩) hS (fun _ _ h9 => h9) (fun _ h9 => h9) (fun v9 u9 t9 H locs ht9 hvm9 hv9 hB9 hz9 hk9 hS => ?_)
  obtain ⟨hP, -, hD⟩ := hB9
  rw [ht9] at hP
  subst hv9
  clear hz9 hk9
  refine lv_if_eq (tgt := 26) hx hb dM_put_11 rfl (fun h1 => ?_) (fun h1 => ?_)
  · have e9 := zz_rb1 h1
    have hX9 : xM_put tg ad mt d a z = zx1 d := by unfold xM_put; rw [if_pos h1]
    have hN9 : ¬ xM_put tg ad mt d a z = 0 := by rw [hX9]; exact e9
    rw [if_neg hN9, hX9]
    refine W.widen (k := 1) (n := 1) (by decide) (by decide) ?_
    exact W.vret hx hb hr (fun t9 ht hW => ⟨⟨(), rfl, trivial, by rw [ht]; exact hP, va_K.moved hW.alike hK, hD⟩, hS.F ht⟩) hS.2.2 dM_put_26
  · have e9 := zz_rb0 h1
    rw [e9] at hP hD
    have g9 := zz_x1 e9
    refine lv_aload_n hx hb dM_put_14 rfl (lv_at hl 0 rfl) ?_
    refine lv_iload_n hx hb dM_put_15 rfl (lv_at hl 1 rfl) ?_
    refine lv_iconst (v := 0) hx hb dM_put_16 (by decide) ?_
    refine lv_iload_n hx hb dM_put_17 rfl (lv_at hl 2 rfl) ?_
    refine lv_iload_n hx hb dM_put_18 rfl (lv_at hl 3 rfl) ?_
    refine lv_ldc (v := 1000194) hx hb hown (hts (.constant "CapUnitModel" 30 1000194) (by decide +kernel)) dM_put_19 ?_
    refine lv_ixor hx hb dM_put_21 ?_
    refine va_calli (va_runV (C := "CapUnitModel") (b := q 0) (As := [.int d, .int (0 : Int32), .int a, .int (z ^^^ (1000194 : Int32))]) (rest := []) ⟨hx, hb, hml, hown, hq⟩ (kM_set l d (0 : Int32) a (z ^^^ (1000194 : Int32)) g9 (Or.inl rfl)) (cwV 4 hq (wA_V q_429 q_431 sM_set q_2 q_432) rfl rfl rfl (by decide +kernel) ⟨Nat.le_of_ble_eq_true rfl, Nat.le_of_ble_eq_true rfl⟩) (zw_pre (c := zCl[1]) (q0 := 0) hK hP hD rfl rfl) rfl rfl hl.1 rfl (lv_room (Nat.le_of_ble_eq_true rfl)) dM_put_22 ⟨Nat.le_of_ble_eq_true rfl, Nat.le_of_ble_eq_true rfl⟩) hS (fun _ _ h9 => h9) (fun _ h9 => h9) (fun v9 u9 t9 H locs ht9 hvm9 hv9 hB9 hz9 hk9 hS => ?_)
    obtain ⟨hP, -, hD⟩ := hB9
    rw [ht9] at hP
    subst hv9
    clear hz9 hk9
    refine lv_pop hx hb dM_put_25 rfl ?_
    have hX9 : xM_put tg ad mt d a z = 0 := by unfold xM_put; rw [if_neg h1]
    rw [if_pos hX9]
    refine W.widen (k := 1) (n := 1) (by decide) (by decide) ?_
    exact W.vret hx hb hr (fun t9 ht hW => ⟨⟨(), rfl, trivial, by rw [ht]; exact hP, va_K.moved hW.alike hK, hD⟩, hS.F ht⟩) hS.2.2 dM_put_26
def tM_keep (tg : Nat → Int32) (ad : Nat → Int32) (mt : Nat → Int32) (d : Int32) (r : Int32) (y : Int32) : Int32 := if (tg r.toNatClampNeg) = 0 then (0 : Int32) else (if (fM_isOpen tg ad mt r) = 0 then (0 : Int32) else (1 : Int32))
theorem btM_keep (tg : Nat → Int32) (ad : Nat → Int32) (mt : Nat → Int32) (d : Int32) (r : Int32) (y : Int32) : tM_keep tg ad mt d r y = 0 ∨ tM_keep tg ad mt d r y = 1 := by
  unfold tM_keep
  repeat' split
  all_goals first | exact Or.inl rfl | exact Or.inr rfl
def xM_keep (tg : Nat → Int32) (ad : Nat → Int32) (mt : Nat → Int32) (d : Int32) (r : Int32) (y : Int32) : Int32 := if (zRb (zx2 d r)) = 0 then (zx2 d r) else (if (zSr d (tM_keep tg ad mt d r y)) = 0 then 0 else 0)
def rM_keep (tg : Nat → Int32) (ad : Nat → Int32) (mt : Nat → Int32) (d : Int32) (r : Int32) (y : Int32) : Int32 := if (zRb (zx2 d r)) = 0 then (0 : Int32) else (if (zSr d (tM_keep tg ad mt d r y)) = 0 then (0 : Int32) else (1 : Int32))
set_option maxHeartbeats 4000000 in
set_option maxRecDepth 100000 in
theorem kM_keep (l : Launch) {D : va_G} {q : Nat → Nat} {k : Nat → ClassId} {tg : Nat → Int32} {ad : Nat → Int32} {mt : Nat → Int32} {rb : Nat → Int64} {rt : Nat → Int64} {rp : Nat → Int32} {nr : Int32} {th : Int32} {pk : Int32} {ex : Int32} {ro : Int64} {A : Nat → Prop} (sz : Nat) (hA0 : ∀ q, sz ≤ q → A q) (d : Int32) (r : Int32) (y : Int32) : Met l yM_keep wM_keep { frames := 2, cells := 1, slots := 2, locals := 41 } (va_Pc [.ref (q 0), .int d, .int r, .int y] (fun U => U.heap.size = sz ∧ va_P D zCl (mW q k tg ad mt rb rt rp nr th pk ex ro) U.heap ∧ va_K D zCl (zT k) U ∧ va_D A (mW q k tg ad mt rb rt rp nr th pk ex ro))) (va_Qi (fun v9 (_ : Unit) => xM_keep tg ad mt d r y = 0 → v9 = rM_keep tg ad mt d r y) (fun _ t => va_P D zCl (if xM_keep tg ad mt d r y = 0 then mW q k (zS d (tM_keep tg ad mt d r y) tg) (zS d (ad r.toNatClampNeg) ad) (zS d (fM_withPerms (mt r.toNatClampNeg) ((fM_perms (mt r.toNatClampNeg)) &&& y)) mt) rb rt rp nr 0 pk ex ro else mW q k tg ad mt rb rt rp nr (xM_keep tg ad mt d r y) pk ex ro) t.heap ∧ va_K D zCl (zT k) t ∧ va_D A (if xM_keep tg ad mt d r y = 0 then mW q k (zS d (tM_keep tg ad mt d r y) tg) (zS d (ad r.toNatClampNeg) ad) (zS d (fM_withPerms (mt r.toNatClampNeg) ((fM_perms (mt r.toNatClampNeg)) &&& y)) mt) rb rt rp nr 0 pk ex ro else mW q k tg ad mt rb rt rp nr (xM_keep tg ad mt d r y) pk ex ro)) A) 1 2 A := by
  refine Met.ofW (cc := cM_keep) (maxL := 4) (ret := (some .boolean)) (by decide) rfl ?_
  intro p e s m args below meth c s₁ B hml hv
  obtain ⟨rfl, hsz, hP, hK, hD⟩ := hv
  have hx := B.exec
  have hb := B.bytes
  have hr := B.returns
  have hts := atoms_spec (ws := wM_keep) B.pre
  have hq : ∀ w ∈ wA, w.before _ s = true := fun w h => hts w (List.mem_cons_of_mem _ h)
  have hown : s.vm.findClass "CapUnitModel" = some m.cls := findClass_of_methodNamed B.named
  have hlocks := B.notSynchronized
  have hS : va_S A s.heap s.heap [] := va_S.rf
  have hl := lv_entry ([.ref (q 0), .int d, .int r, .int y]) (n := 4) (Nat.le_of_ble_eq_true rfl)
  rw [lg_entry_eq]
  generalize (lg_sl ([.ref (q 0), .int d, .int r, .int y]) ++ List.replicate (4 - (lg_sl ([.ref (q 0), .int d, .int r, .int y])).length) Slot.unset).toArray = ls at hl ⊢
  have hl : lv_has ls 4 [(0, .ref (q 0)), (1, .int d), (2, .int r), (3, .int y)] := hl
  have hA : ∀ q, s.heap.size ≤ q → A q := fun q h => hA0 q (by omega)
  refine lv_aload_n hx hb dM_keep_0 rfl (lv_at hl 0 rfl) ?_
  refine lv_iconst (v := 2) hx hb dM_keep_1 (by decide) ?_
  refine zn_i hx hb (hq _ q_42) hK hP hD hS hA (N' := 2) (by decide) (by decide) (by decide) (Nat.le_of_ble_eq_true rfl) (Nat.le_of_ble_eq_true rfl) dM_keep_2 (fun a2 H hP hD hS => ?_)
  refine lv_dup hx hb dM_keep_4 rfl ?_
  refine lv_iconst (v := 0) hx hb dM_keep_5 (by decide) ?_
  refine lv_iload_n hx hb dM_keep_6 rfl (lv_at hl 1 rfl) ?_
  refine va_iast hx hb hK hP hD hS 7 1 rfl rfl (show ¬ ((0 : Int32) < 0 ∨ 2 ≤ (0 : Int32).toNatClampNeg) by decide) dM_keep_7 (fun H locs hP hD hS => ?_)
  have hP : va_P D zCl (mW q k tg ad mt rb rt rp nr th pk ex ro ++ [(a2, .inl (k 1, 2, .inl (upd (fun _ => (0 : Int32)) 0 d)))]) H := hP
  have hD : va_D A (mW q k tg ad mt rb rt rp nr th pk ex ro ++ [(a2, .inl (k 1, 2, .inl (upd (fun _ => (0 : Int32)) 0 d)))]) := hD
  refine lv_dup hx hb dM_keep_8 rfl ?_
  refine lv_iconst (v := 1) hx hb dM_keep_9 (by decide) ?_
  refine lv_iload_n hx hb dM_keep_10 rfl (lv_at hl 2 rfl) ?_
  refine va_iast hx hb hK hP hD hS 7 1 rfl rfl (show ¬ ((1 : Int32) < 0 ∨ 2 ≤ (1 : Int32).toNatClampNeg) by decide) dM_keep_11 (fun H locs hP hD hS => ?_)
  have hP : va_P D zCl (mW q k tg ad mt rb rt rp nr th pk ex ro ++ [(a2, .inl (k 1, 2, .inl (upd (upd (fun _ => (0 : Int32)) 0 d) 1 r)))]) H := hP
  have hD : va_D A (mW q k tg ad mt rb rt rp nr th pk ex ro ++ [(a2, .inl (k 1, 2, .inl (upd (upd (fun _ => (0 : Int32)) 0 d) 1 r)))]) := hD
  refine va_calli (va_runV (C := "CapUnitModel") (b := q 0) (As := [.ref a2]) (rest := []) ⟨hx, hb, hml, hown, hq⟩ (kM_is2 l a2 d r) (cwV 1 hq (wA_V q_462 q_464 sM_is q_2 q_465) rfl rfl rfl (by decide +kernel) ⟨Nat.le_of_ble_eq_true rfl, Nat.le_of_ble_eq_true rfl⟩) (zw_pre (c := zCl[1]) (q0 := 0) hK hP hD rfl rfl) rfl rfl hl.1 rfl (lv_room (Nat.le_of_ble_eq_true rfl)) dM_keep_12 ⟨Nat.le_of_ble_eq_true rfl, Nat.le_of_ble_eq_true rfl⟩) hS (fun _ _ h9 => h9) (fun _ h9 => h9) (fun v9 u9 t9 H locs ht9 hvm9 hv9 hB9 hz9 hk9 hS => ?_)
  obtain ⟨hP, -, hD⟩ := hB9
  rw [ht9] at hP
  subst hv9
  clear hz9 hk9
  refine lv_if_eq (tgt := 78) hx hb dM_keep_15 rfl (fun h1 => ?_) (fun h1 => ?_)
  · have e9 := zz_rb1 h1
    refine lv_iconst (v := 0) hx hb dM_keep_78 (by decide) ?_
    have hX9 : xM_keep tg ad mt d r y = zx2 d r := by unfold xM_keep; rw [if_pos h1]
    have hN9 : ¬ xM_keep tg ad mt d r y = 0 := by rw [hX9]; exact e9
    rw [if_neg hN9, hX9]
    refine W.widen (k := 1) (n := 2) (by decide) (by decide) ?_
    exact W.zret (v := (0 : Int32)) hx hb hr (by decide) (fun t9 ht hW => ⟨⟨_, (), rfl, (fun h9 => absurd h9 e9), by rw [ht]; exact hP, va_K.moved hW.alike hK, hD⟩, hS.F ht⟩) hS.2.2 dM_keep_79
  · have e9 := zz_rb0 h1
    rw [e9] at hP hD
    have g9 := zz_x2 e9
    refine lv_aload_n hx hb dM_keep_18 rfl (lv_at hl 0 rfl) ?_
    refine lv_iload_n hx hb dM_keep_19 rfl (lv_at hl 1 rfl) ?_
    refine zj_i (A0 := A) (H0 := s.heap) (tM_keep tg ad mt d r y) 42 [.int d, .ref (q 0)] (fun locs hS => ?_) (fun J9 => ?_)
    · refine lv_aload_n hx hb dM_keep_42 rfl (lv_at hl 0 rfl) ?_
      refine va_get (D := D) (ci := 1) (v := .ref (q 2)) (C := "CapUnitModel") (T := TM) (N := 11) hx hb hq uM_in hown hK hP 0 rfl rfl 1 (by decide) (hq _ q_371) (fun _ h9 => h9) rfl dM_keep_43 ?_
      refine lv_iload_n hx hb dM_keep_46 rfl (lv_at hl 2 rfl) ?_
      refine va_iald hx hb hK hP 2 1 rfl rfl (i := r) g9.2 dM_keep_47 ?_
      refine lv_aload_n hx hb dM_keep_48 rfl (lv_at hl 0 rfl) ?_
      refine va_get (D := D) (ci := 1) (v := .ref (q 3)) (C := "CapUnitModel") (T := TM) (N := 11) hx hb hq uM_in hown hK hP 0 rfl rfl 2 (by decide) (hq _ q_372) (fun _ h9 => h9) rfl dM_keep_49 ?_
      refine lv_iload_n hx hb dM_keep_52 rfl (lv_at hl 2 rfl) ?_
      refine va_iald hx hb hK hP 3 1 rfl rfl (i := r) g9.2 dM_keep_53 ?_
      refine lv_aload_n hx hb dM_keep_54 rfl (lv_at hl 0 rfl) ?_
      refine va_get (D := D) (ci := 1) (v := .ref (q 3)) (C := "CapUnitModel") (T := TM) (N := 11) hx hb hq uM_in hown hK hP 0 rfl rfl 2 (by decide) (hq _ q_372) (fun _ h9 => h9) rfl dM_keep_55 ?_
      refine lv_iload_n hx hb dM_keep_58 rfl (lv_at hl 2 rfl) ?_
      refine va_iald hx hb hK hP 3 1 rfl rfl (i := r) g9.2 dM_keep_59 ?_
      refine zc_i (va_runS (As := [.int (mt r.toNatClampNeg)]) (rest := [.int (mt r.toNatClampNeg), .int (ad r.toNatClampNeg), .int (tM_keep tg ad mt d r y), .int d, .ref (q 0)]) ⟨hx, hb, hml, hown, hq⟩ (kM_perms l H (mt r.toNatClampNeg)) (va_cwS 1 hq (wA_S q_485 q_486 q_2 q_487) rfl rfl rfl (by decide +kernel) ⟨Nat.le_of_ble_eq_true rfl, Nat.le_of_ble_eq_true rfl⟩) ⟨fun a U g mk q => q, fun U hU hW => ⟨rfl, hU⟩⟩ rfl rfl hl.1 rfl (lv_room (Nat.le_of_ble_eq_true rfl)) dM_keep_60 ⟨Nat.le_of_ble_eq_true rfl, Nat.le_of_ble_eq_true rfl⟩) hS (fun locs hS => ?_)
      refine lv_iload_n hx hb dM_keep_63 rfl (lv_at hl 3 rfl) ?_
      refine lv_iand hx hb dM_keep_64 ?_
      refine zc_i (va_runS (As := [.int (mt r.toNatClampNeg), .int ((fM_perms (mt r.toNatClampNeg)) &&& y)]) (rest := [.int (ad r.toNatClampNeg), .int (tM_keep tg ad mt d r y), .int d, .ref (q 0)]) ⟨hx, hb, hml, hown, hq⟩ (kM_withPerms l H (mt r.toNatClampNeg) ((fM_perms (mt r.toNatClampNeg)) &&& y)) (va_cwS 2 hq (wA_S q_488 q_489 q_2 q_490) rfl rfl rfl (by decide +kernel) ⟨Nat.le_of_ble_eq_true rfl, Nat.le_of_ble_eq_true rfl⟩) ⟨fun a U g mk q => q, fun U hU hW => ⟨rfl, hU⟩⟩ rfl rfl hl.1 rfl (lv_room (Nat.le_of_ble_eq_true rfl)) dM_keep_65 ⟨Nat.le_of_ble_eq_true rfl, Nat.le_of_ble_eq_true rfl⟩) hS (fun locs hS => ?_)
      refine va_calli (va_runV (C := "CapUnitModel") (b := q 0) (As := [.int d, .int (tM_keep tg ad mt d r y), .int (ad r.toNatClampNeg), .int (fM_withPerms (mt r.toNatClampNeg) ((fM_perms (mt r.toNatClampNeg)) &&& y))]) (rest := []) ⟨hx, hb, hml, hown, hq⟩ (kM_set l d (tM_keep tg ad mt d r y) (ad r.toNatClampNeg) (fM_withPerms (mt r.toNatClampNeg) ((fM_perms (mt r.toNatClampNeg)) &&& y)) g9.1 (btM_keep tg ad mt d r y)) (cwV 4 hq (wA_V q_429 q_431 sM_set q_2 q_432) rfl rfl rfl (by decide +kernel) ⟨Nat.le_of_ble_eq_true rfl, Nat.le_of_ble_eq_true rfl⟩) (zw_pre (c := zCl[1]) (q0 := 0) hK hP hD rfl rfl) rfl rfl hl.1 rfl (lv_room (Nat.le_of_ble_eq_true rfl)) dM_keep_68 ⟨Nat.le_of_ble_eq_true rfl, Nat.le_of_ble_eq_true rfl⟩) hS (fun _ _ h9 => h9) (fun _ h9 => h9) (fun v9 u9 t9 H locs ht9 hvm9 hv9 hB9 hz9 hk9 hS => ?_)
      obtain ⟨hP, -, hD⟩ := hB9
      rw [ht9] at hP
      subst hv9
      clear hz9 hk9
      refine lv_if_eq (tgt := 78) hx hb dM_keep_71 rfl (fun h2 => ?_) (fun h2 => ?_)
      · refine lv_iconst (v := 0) hx hb dM_keep_78 (by decide) ?_
        have hX9 : xM_keep tg ad mt d r y = 0 := by unfold xM_keep; rw [if_neg h1, if_pos h2]
        rw [if_pos hX9]
        refine W.widen (k := 1) (n := 2) (by decide) (by decide) ?_
        exact W.zret (v := (0 : Int32)) hx hb hr (by decide) (fun t9 ht hW => ⟨⟨_, (), rfl, (fun _ => (by unfold rM_keep; rw [if_neg h1, if_pos h2])), by rw [ht]; exact hP, va_K.moved hW.alike hK, hD⟩, hS.F ht⟩) hS.2.2 dM_keep_79
      · refine lv_iconst (v := 1) hx hb dM_keep_74 (by decide) ?_
        refine lv_goto (tgt := 79) hx hb dM_keep_75 rfl ?_
        have hX9 : xM_keep tg ad mt d r y = 0 := by unfold xM_keep; rw [if_neg h1, if_neg h2]
        rw [if_pos hX9]
        refine W.widen (k := 1) (n := 2) (by decide) (by decide) ?_
        exact W.zret (v := (1 : Int32)) hx hb hr (by decide) (fun t9 ht hW => ⟨⟨_, (), rfl, (fun _ => (by unfold rM_keep; rw [if_neg h1, if_neg h2])), by rw [ht]; exact hP, va_K.moved hW.alike hK, hD⟩, hS.F ht⟩) hS.2.2 dM_keep_79
    · refine lv_aload_n hx hb dM_keep_20 rfl (lv_at hl 0 rfl) ?_
      refine va_get (D := D) (ci := 1) (v := .ref (q 1)) (C := "CapUnitModel") (T := TM) (N := 11) hx hb hq uM_in hown hK hP 0 rfl rfl 0 (by decide) (hq _ q_370) (fun _ h9 => h9) rfl dM_keep_21 ?_
      refine lv_iload_n hx hb dM_keep_24 rfl (lv_at hl 2 rfl) ?_
      refine va_zald hx hb hK hP 1 0 rfl rfl (i := r) g9.2 dM_keep_25 ?_
      refine lv_if_eq (tgt := 41) hx hb dM_keep_26 rfl (fun h3 => ?_) (fun h3 => ?_)
      · refine lv_iconst (v := 0) hx hb dM_keep_41 (by decide) ?_
        exact J9 _ _ (by unfold tM_keep; rw [if_pos h3]) hS
      · refine lv_aload_n hx hb dM_keep_29 rfl (lv_at hl 0 rfl) ?_
        refine lv_iload_n hx hb dM_keep_30 rfl (lv_at hl 2 rfl) ?_
        refine zc_i (va_runV (C := "CapUnitModel") (b := q 0) (As := [.int r]) (rest := [.int d, .ref (q 0)]) ⟨hx, hb, hml, hown, hq⟩ (kM_isOpen l hP r g9.2) (cwV 1 hq (wA_V q_470 q_472 sM_isOpen q_2 q_473) rfl rfl rfl (by decide +kernel) ⟨Nat.le_of_ble_eq_true rfl, Nat.le_of_ble_eq_true rfl⟩) (zr_pre (c := zCl[1]) (q0 := 0) hK hP rfl rfl) rfl rfl hl.1 rfl (lv_room (Nat.le_of_ble_eq_true rfl)) dM_keep_31 ⟨Nat.le_of_ble_eq_true rfl, Nat.le_of_ble_eq_true rfl⟩) hS (fun locs hS => ?_)
        refine lv_if_eq (tgt := 41) hx hb dM_keep_34 rfl (fun h4 => ?_) (fun h4 => ?_)
        · refine lv_iconst (v := 0) hx hb dM_keep_41 (by decide) ?_
          exact J9 _ _ (by unfold tM_keep; rw [if_neg h3, if_pos h4]) hS
        · refine lv_iconst (v := 1) hx hb dM_keep_37 (by decide) ?_
          refine lv_goto (tgt := 42) hx hb dM_keep_38 rfl ?_
          exact J9 _ _ (by unfold tM_keep; rw [if_neg h3, if_neg h4]) hS
def tM_gate (tg : Nat → Int32) (ad : Nat → Int32) (mt : Nat → Int32) (d : Int32) (r : Int32) : Int32 := if (tg r.toNatClampNeg) = 0 then (0 : Int32) else (if (fM_isOpen tg ad mt r) = 0 then (0 : Int32) else (if (fM_has tg ad mt r (1 : Int32)) = 0 then (0 : Int32) else (1 : Int32)))
theorem btM_gate (tg : Nat → Int32) (ad : Nat → Int32) (mt : Nat → Int32) (d : Int32) (r : Int32) : tM_gate tg ad mt d r = 0 ∨ tM_gate tg ad mt d r = 1 := by
  unfold tM_gate
  repeat' split
  all_goals first | exact Or.inl rfl | exact Or.inr rfl
def xM_gate (tg : Nat → Int32) (ad : Nat → Int32) (mt : Nat → Int32) (d : Int32) (r : Int32) : Int32 := if (zRb (zx2 d r)) = 0 then (zx2 d r) else (if (zSr d (tM_gate tg ad mt d r)) = 0 then 0 else 0)
def rM_gate (tg : Nat → Int32) (ad : Nat → Int32) (mt : Nat → Int32) (d : Int32) (r : Int32) : Int32 := if (zRb (zx2 d r)) = 0 then (0 : Int32) else (if (zSr d (tM_gate tg ad mt d r)) = 0 then (0 : Int32) else (1 : Int32))
set_option maxHeartbeats 4000000 in
set_option maxRecDepth 100000 in
theorem kM_gate (l : Launch) {D : va_G} {q : Nat → Nat} {k : Nat → ClassId} {tg : Nat → Int32} {ad : Nat → Int32} {mt : Nat → Int32} {rb : Nat → Int64} {rt : Nat → Int64} {rp : Nat → Int32} {nr : Int32} {th : Int32} {pk : Int32} {ex : Int32} {ro : Int64} {A : Nat → Prop} (sz : Nat) (hA0 : ∀ q, sz ≤ q → A q) (d : Int32) (r : Int32) : Met l yM_gate wM_gate { frames := 2, cells := 1, slots := 2, locals := 42 } (va_Pc [.ref (q 0), .int d, .int r] (fun U => U.heap.size = sz ∧ va_P D zCl (mW q k tg ad mt rb rt rp nr th pk ex ro) U.heap ∧ va_K D zCl (zT k) U ∧ va_D A (mW q k tg ad mt rb rt rp nr th pk ex ro))) (va_Qi (fun v9 (_ : Unit) => xM_gate tg ad mt d r = 0 → v9 = rM_gate tg ad mt d r) (fun _ t => va_P D zCl (if xM_gate tg ad mt d r = 0 then mW q k (zS d (tM_gate tg ad mt d r) tg) (zS d (ad r.toNatClampNeg) ad) (zS d (fM_withType (mt r.toNatClampNeg) (14 : Int32)) mt) rb rt rp nr 0 pk ex ro else mW q k tg ad mt rb rt rp nr (xM_gate tg ad mt d r) pk ex ro) t.heap ∧ va_K D zCl (zT k) t ∧ va_D A (if xM_gate tg ad mt d r = 0 then mW q k (zS d (tM_gate tg ad mt d r) tg) (zS d (ad r.toNatClampNeg) ad) (zS d (fM_withType (mt r.toNatClampNeg) (14 : Int32)) mt) rb rt rp nr 0 pk ex ro else mW q k tg ad mt rb rt rp nr (xM_gate tg ad mt d r) pk ex ro)) A) 1 2 A := by
  refine Met.ofW (cc := cM_gate) (maxL := 3) (ret := (some .boolean)) (by decide) rfl ?_
  intro p e s m args below meth c s₁ B hml hv
  obtain ⟨rfl, hsz, hP, hK, hD⟩ := hv
  have hx := B.exec
  have hb := B.bytes
  have hr := B.returns
  have hts := atoms_spec (ws := wM_gate) B.pre
  have hq : ∀ w ∈ wA, w.before _ s = true := fun w h => hts w (List.mem_cons_of_mem _ h)
  have hown : s.vm.findClass "CapUnitModel" = some m.cls := findClass_of_methodNamed B.named
  have hlocks := B.notSynchronized
  have hS : va_S A s.heap s.heap [] := va_S.rf
  have hl := lv_entry ([.ref (q 0), .int d, .int r]) (n := 3) (Nat.le_of_ble_eq_true rfl)
  rw [lg_entry_eq]
  generalize (lg_sl ([.ref (q 0), .int d, .int r]) ++ List.replicate (3 - (lg_sl ([.ref (q 0), .int d, .int r])).length) Slot.unset).toArray = ls at hl ⊢
  have hl : lv_has ls 3 [(0, .ref (q 0)), (1, .int d), (2, .int r)] := hl
  have hA : ∀ q, s.heap.size ≤ q → A q := fun q h => hA0 q (by omega)
  refine lv_aload_n hx hb dM_gate_0 rfl (lv_at hl 0 rfl) ?_
  refine lv_iconst (v := 2) hx hb dM_gate_1 (by decide) ?_
  refine zn_i hx hb (hq _ q_42) hK hP hD hS hA (N' := 2) (by decide) (by decide) (by decide) (Nat.le_of_ble_eq_true rfl) (Nat.le_of_ble_eq_true rfl) dM_gate_2 (fun a2 H hP hD hS => ?_)
  refine lv_dup hx hb dM_gate_4 rfl ?_
  refine lv_iconst (v := 0) hx hb dM_gate_5 (by decide) ?_
  refine lv_iload_n hx hb dM_gate_6 rfl (lv_at hl 1 rfl) ?_
  refine va_iast hx hb hK hP hD hS 7 1 rfl rfl (show ¬ ((0 : Int32) < 0 ∨ 2 ≤ (0 : Int32).toNatClampNeg) by decide) dM_gate_7 (fun H locs hP hD hS => ?_)
  have hP : va_P D zCl (mW q k tg ad mt rb rt rp nr th pk ex ro ++ [(a2, .inl (k 1, 2, .inl (upd (fun _ => (0 : Int32)) 0 d)))]) H := hP
  have hD : va_D A (mW q k tg ad mt rb rt rp nr th pk ex ro ++ [(a2, .inl (k 1, 2, .inl (upd (fun _ => (0 : Int32)) 0 d)))]) := hD
  refine lv_dup hx hb dM_gate_8 rfl ?_
  refine lv_iconst (v := 1) hx hb dM_gate_9 (by decide) ?_
  refine lv_iload_n hx hb dM_gate_10 rfl (lv_at hl 2 rfl) ?_
  refine va_iast hx hb hK hP hD hS 7 1 rfl rfl (show ¬ ((1 : Int32) < 0 ∨ 2 ≤ (1 : Int32).toNatClampNeg) by decide) dM_gate_11 (fun H locs hP hD hS => ?_)
  have hP : va_P D zCl (mW q k tg ad mt rb rt rp nr th pk ex ro ++ [(a2, .inl (k 1, 2, .inl (upd (upd (fun _ => (0 : Int32)) 0 d) 1 r)))]) H := hP
  have hD : va_D A (mW q k tg ad mt rb rt rp nr th pk ex ro ++ [(a2, .inl (k 1, 2, .inl (upd (upd (fun _ => (0 : Int32)) 0 d) 1 r)))]) := hD
  refine va_calli (va_runV (C := "CapUnitModel") (b := q 0) (As := [.ref a2]) (rest := []) ⟨hx, hb, hml, hown, hq⟩ (kM_is2 l a2 d r) (cwV 1 hq (wA_V q_462 q_464 sM_is q_2 q_465) rfl rfl rfl (by decide +kernel) ⟨Nat.le_of_ble_eq_true rfl, Nat.le_of_ble_eq_true rfl⟩) (zw_pre (c := zCl[1]) (q0 := 0) hK hP hD rfl rfl) rfl rfl hl.1 rfl (lv_room (Nat.le_of_ble_eq_true rfl)) dM_gate_12 ⟨Nat.le_of_ble_eq_true rfl, Nat.le_of_ble_eq_true rfl⟩) hS (fun _ _ h9 => h9) (fun _ h9 => h9) (fun v9 u9 t9 H locs ht9 hvm9 hv9 hB9 hz9 hk9 hS => ?_)
  obtain ⟨hP, -, hD⟩ := hB9
  rw [ht9] at hP
  subst hv9
  clear hz9 hk9
  refine lv_if_eq (tgt := 78) hx hb dM_gate_15 rfl (fun h1 => ?_) (fun h1 => ?_)
  · have e9 := zz_rb1 h1
    refine lv_iconst (v := 0) hx hb dM_gate_78 (by decide) ?_
    have hX9 : xM_gate tg ad mt d r = zx2 d r := by unfold xM_gate; rw [if_pos h1]
    have hN9 : ¬ xM_gate tg ad mt d r = 0 := by rw [hX9]; exact e9
    rw [if_neg hN9, hX9]
    refine W.widen (k := 1) (n := 2) (by decide) (by decide) ?_
    exact W.zret (v := (0 : Int32)) hx hb hr (by decide) (fun t9 ht hW => ⟨⟨_, (), rfl, (fun h9 => absurd h9 e9), by rw [ht]; exact hP, va_K.moved hW.alike hK, hD⟩, hS.F ht⟩) hS.2.2 dM_gate_79
  · have e9 := zz_rb0 h1
    rw [e9] at hP hD
    have g9 := zz_x2 e9
    refine lv_aload_n hx hb dM_gate_18 rfl (lv_at hl 0 rfl) ?_
    refine lv_iload_n hx hb dM_gate_19 rfl (lv_at hl 1 rfl) ?_
    refine zj_i (A0 := A) (H0 := s.heap) (tM_gate tg ad mt d r) 51 [.int d, .ref (q 0)] (fun locs hS => ?_) (fun J9 => ?_)
    · refine lv_aload_n hx hb dM_gate_51 rfl (lv_at hl 0 rfl) ?_
      refine va_get (D := D) (ci := 1) (v := .ref (q 2)) (C := "CapUnitModel") (T := TM) (N := 11) hx hb hq uM_in hown hK hP 0 rfl rfl 1 (by decide) (hq _ q_371) (fun _ h9 => h9) rfl dM_gate_52 ?_
      refine lv_iload_n hx hb dM_gate_55 rfl (lv_at hl 2 rfl) ?_
      refine va_iald hx hb hK hP 2 1 rfl rfl (i := r) g9.2 dM_gate_56 ?_
      refine lv_aload_n hx hb dM_gate_57 rfl (lv_at hl 0 rfl) ?_
      refine va_get (D := D) (ci := 1) (v := .ref (q 3)) (C := "CapUnitModel") (T := TM) (N := 11) hx hb hq uM_in hown hK hP 0 rfl rfl 2 (by decide) (hq _ q_372) (fun _ h9 => h9) rfl dM_gate_58 ?_
      refine lv_iload_n hx hb dM_gate_61 rfl (lv_at hl 2 rfl) ?_
      refine va_iald hx hb hK hP 3 1 rfl rfl (i := r) g9.2 dM_gate_62 ?_
      refine lv_bipush (v := 14) hx hb dM_gate_63 (by decide) ?_
      refine zc_i (va_runS (As := [.int (mt r.toNatClampNeg), .int (14 : Int32)]) (rest := [.int (ad r.toNatClampNeg), .int (tM_gate tg ad mt d r), .int d, .ref (q 0)]) ⟨hx, hb, hml, hown, hq⟩ (kM_withType l H (mt r.toNatClampNeg) (14 : Int32)) (va_cwS 2 hq (wA_S q_504 q_505 q_2 q_506) rfl rfl rfl (by decide +kernel) ⟨Nat.le_of_ble_eq_true rfl, Nat.le_of_ble_eq_true rfl⟩) ⟨fun a U g mk q => q, fun U hU hW => ⟨rfl, hU⟩⟩ rfl rfl hl.1 rfl (lv_room (Nat.le_of_ble_eq_true rfl)) dM_gate_65 ⟨Nat.le_of_ble_eq_true rfl, Nat.le_of_ble_eq_true rfl⟩) hS (fun locs hS => ?_)
      refine va_calli (va_runV (C := "CapUnitModel") (b := q 0) (As := [.int d, .int (tM_gate tg ad mt d r), .int (ad r.toNatClampNeg), .int (fM_withType (mt r.toNatClampNeg) (14 : Int32))]) (rest := []) ⟨hx, hb, hml, hown, hq⟩ (kM_set l d (tM_gate tg ad mt d r) (ad r.toNatClampNeg) (fM_withType (mt r.toNatClampNeg) (14 : Int32)) g9.1 (btM_gate tg ad mt d r)) (cwV 4 hq (wA_V q_429 q_431 sM_set q_2 q_432) rfl rfl rfl (by decide +kernel) ⟨Nat.le_of_ble_eq_true rfl, Nat.le_of_ble_eq_true rfl⟩) (zw_pre (c := zCl[1]) (q0 := 0) hK hP hD rfl rfl) rfl rfl hl.1 rfl (lv_room (Nat.le_of_ble_eq_true rfl)) dM_gate_68 ⟨Nat.le_of_ble_eq_true rfl, Nat.le_of_ble_eq_true rfl⟩) hS (fun _ _ h9 => h9) (fun _ h9 => h9) (fun v9 u9 t9 H locs ht9 hvm9 hv9 hB9 hz9 hk9 hS => ?_)
      obtain ⟨hP, -, hD⟩ := hB9
      rw [ht9] at hP
      subst hv9
      clear hz9 hk9
      refine lv_if_eq (tgt := 78) hx hb dM_gate_71 rfl (fun h2 => ?_) (fun h2 => ?_)
      · refine lv_iconst (v := 0) hx hb dM_gate_78 (by decide) ?_
        have hX9 : xM_gate tg ad mt d r = 0 := by unfold xM_gate; rw [if_neg h1, if_pos h2]
        rw [if_pos hX9]
        refine W.widen (k := 1) (n := 2) (by decide) (by decide) ?_
        exact W.zret (v := (0 : Int32)) hx hb hr (by decide) (fun t9 ht hW => ⟨⟨_, (), rfl, (fun _ => (by unfold rM_gate; rw [if_neg h1, if_pos h2])), by rw [ht]; exact hP, va_K.moved hW.alike hK, hD⟩, hS.F ht⟩) hS.2.2 dM_gate_79
      · refine lv_iconst (v := 1) hx hb dM_gate_74 (by decide) ?_
        refine lv_goto (tgt := 79) hx hb dM_gate_75 rfl ?_
        have hX9 : xM_gate tg ad mt d r = 0 := by unfold xM_gate; rw [if_neg h1, if_neg h2]
        rw [if_pos hX9]
        refine W.widen (k := 1) (n := 2) (by decide) (by decide) ?_
        exact W.zret (v := (1 : Int32)) hx hb hr (by decide) (fun t9 ht hW => ⟨⟨_, (), rfl, (fun _ => (by unfold rM_gate; rw [if_neg h1, if_neg h2])), by rw [ht]; exact hP, va_K.moved hW.alike hK, hD⟩, hS.F ht⟩) hS.2.2 dM_gate_79
    · refine lv_aload_n hx hb dM_gate_20 rfl (lv_at hl 0 rfl) ?_
      refine va_get (D := D) (ci := 1) (v := .ref (q 1)) (C := "CapUnitModel") (T := TM) (N := 11) hx hb hq uM_in hown hK hP 0 rfl rfl 0 (by decide) (hq _ q_370) (fun _ h9 => h9) rfl dM_gate_21 ?_
      refine lv_iload_n hx hb dM_gate_24 rfl (lv_at hl 2 rfl) ?_
      refine va_zald hx hb hK hP 1 0 rfl rfl (i := r) g9.2 dM_gate_25 ?_
      refine lv_if_eq (tgt := 50) hx hb dM_gate_26 rfl (fun h3 => ?_) (fun h3 => ?_)
      · refine lv_iconst (v := 0) hx hb dM_gate_50 (by decide) ?_
        exact J9 _ _ (by unfold tM_gate; rw [if_pos h3]) hS
      · refine lv_aload_n hx hb dM_gate_29 rfl (lv_at hl 0 rfl) ?_
        refine lv_iload_n hx hb dM_gate_30 rfl (lv_at hl 2 rfl) ?_
        refine zc_i (va_runV (C := "CapUnitModel") (b := q 0) (As := [.int r]) (rest := [.int d, .ref (q 0)]) ⟨hx, hb, hml, hown, hq⟩ (kM_isOpen l hP r g9.2) (cwV 1 hq (wA_V q_470 q_472 sM_isOpen q_2 q_473) rfl rfl rfl (by decide +kernel) ⟨Nat.le_of_ble_eq_true rfl, Nat.le_of_ble_eq_true rfl⟩) (zr_pre (c := zCl[1]) (q0 := 0) hK hP rfl rfl) rfl rfl hl.1 rfl (lv_room (Nat.le_of_ble_eq_true rfl)) dM_gate_31 ⟨Nat.le_of_ble_eq_true rfl, Nat.le_of_ble_eq_true rfl⟩) hS (fun locs hS => ?_)
        refine lv_if_eq (tgt := 50) hx hb dM_gate_34 rfl (fun h4 => ?_) (fun h4 => ?_)
        · refine lv_iconst (v := 0) hx hb dM_gate_50 (by decide) ?_
          exact J9 _ _ (by unfold tM_gate; rw [if_neg h3, if_pos h4]) hS
        · refine lv_aload_n hx hb dM_gate_37 rfl (lv_at hl 0 rfl) ?_
          refine lv_iload_n hx hb dM_gate_38 rfl (lv_at hl 2 rfl) ?_
          refine lv_iconst (v := 1) hx hb dM_gate_39 (by decide) ?_
          refine zc_i (va_runV (C := "CapUnitModel") (b := q 0) (As := [.int r, .int (1 : Int32)]) (rest := [.int d, .ref (q 0)]) ⟨hx, hb, hml, hown, hq⟩ (kM_has l hP r (1 : Int32) g9.2) (cwV 2 hq (wA_V q_496 q_498 sM_has q_2 q_499) rfl rfl rfl (by decide +kernel) ⟨Nat.le_of_ble_eq_true rfl, Nat.le_of_ble_eq_true rfl⟩) (zr_pre (c := zCl[1]) (q0 := 0) hK hP rfl rfl) rfl rfl hl.1 rfl (lv_room (Nat.le_of_ble_eq_true rfl)) dM_gate_40 ⟨Nat.le_of_ble_eq_true rfl, Nat.le_of_ble_eq_true rfl⟩) hS (fun locs hS => ?_)
          refine lv_if_eq (tgt := 50) hx hb dM_gate_43 rfl (fun h5 => ?_) (fun h5 => ?_)
          · refine lv_iconst (v := 0) hx hb dM_gate_50 (by decide) ?_
            exact J9 _ _ (by unfold tM_gate; rw [if_neg h3, if_neg h4, if_pos h5]) hS
          · refine lv_iconst (v := 1) hx hb dM_gate_46 (by decide) ?_
            refine lv_goto (tgt := 51) hx hb dM_gate_47 rfl ?_
            exact J9 _ _ (by unfold tM_gate; rw [if_neg h3, if_neg h4, if_neg h5]) hS
def tM_moveS (tg : Nat → Int32) (ad : Nat → Int32) (mt : Nat → Int32) (d : Int32) (r : Int32) (x : Int32) : Int32 := if (fM_base (mt r.toNatClampNeg) (ad r.toNatClampNeg)) = (fM_base (mt r.toNatClampNeg) x) then (if (fM_top (mt r.toNatClampNeg) (ad r.toNatClampNeg)) = (fM_top (mt r.toNatClampNeg) x) then (1 : Int32) else (0 : Int32)) else (0 : Int32)
theorem btM_moveS (tg : Nat → Int32) (ad : Nat → Int32) (mt : Nat → Int32) (d : Int32) (r : Int32) (x : Int32) : tM_moveS tg ad mt d r x = 0 ∨ tM_moveS tg ad mt d r x = 1 := by
  unfold tM_moveS
  repeat' split
  all_goals first | exact Or.inl rfl | exact Or.inr rfl
def tM_move (tg : Nat → Int32) (ad : Nat → Int32) (mt : Nat → Int32) (d : Int32) (r : Int32) (x : Int32) : Int32 := if (tg r.toNatClampNeg) = 0 then (0 : Int32) else (if (fM_isOpen tg ad mt r) = 0 then (0 : Int32) else (if (tM_moveS tg ad mt d r x) = 0 then (0 : Int32) else (1 : Int32)))
theorem btM_move (tg : Nat → Int32) (ad : Nat → Int32) (mt : Nat → Int32) (d : Int32) (r : Int32) (x : Int32) : tM_move tg ad mt d r x = 0 ∨ tM_move tg ad mt d r x = 1 := by
  unfold tM_move
  repeat' split
  all_goals first | exact Or.inl rfl | exact Or.inr rfl
def xM_move (tg : Nat → Int32) (ad : Nat → Int32) (mt : Nat → Int32) (d : Int32) (r : Int32) (x : Int32) : Int32 := if (zRb (zx2 d r)) = 0 then (zx2 d r) else 0
def rM_move (tg : Nat → Int32) (ad : Nat → Int32) (mt : Nat → Int32) (d : Int32) (r : Int32) (x : Int32) : Int32 := if (zRb (zx2 d r)) = 0 then (0 : Int32) else (zSr d (tM_move tg ad mt d r x))
set_option maxHeartbeats 4000000 in
set_option maxRecDepth 100000 in
theorem kM_move (l : Launch) {D : va_G} {q : Nat → Nat} {k : Nat → ClassId} {tg : Nat → Int32} {ad : Nat → Int32} {mt : Nat → Int32} {rb : Nat → Int64} {rt : Nat → Int64} {rp : Nat → Int32} {nr : Int32} {th : Int32} {pk : Int32} {ex : Int32} {ro : Int64} {A : Nat → Prop} (sz : Nat) (hA0 : ∀ q, sz ≤ q → A q) (d : Int32) (r : Int32) (x : Int32) : Met l yM_move wM_move { frames := 4, cells := 1, slots := 2, locals := 99 } (va_Pc [.ref (q 0), .int d, .int r, .int x] (fun U => U.heap.size = sz ∧ va_P D zCl (mW q k tg ad mt rb rt rp nr th pk ex ro) U.heap ∧ va_K D zCl (zT k) U ∧ va_D A (mW q k tg ad mt rb rt rp nr th pk ex ro))) (va_Qi (fun v9 (_ : Unit) => xM_move tg ad mt d r x = 0 → v9 = rM_move tg ad mt d r x) (fun _ t => va_P D zCl (if xM_move tg ad mt d r x = 0 then mW q k (zS d (tM_move tg ad mt d r x) tg) (zS d x ad) (zS d (mt r.toNatClampNeg) mt) rb rt rp nr 0 pk ex ro else mW q k tg ad mt rb rt rp nr (xM_move tg ad mt d r x) pk ex ro) t.heap ∧ va_K D zCl (zT k) t ∧ va_D A (if xM_move tg ad mt d r x = 0 then mW q k (zS d (tM_move tg ad mt d r x) tg) (zS d x ad) (zS d (mt r.toNatClampNeg) mt) rb rt rp nr 0 pk ex ro else mW q k tg ad mt rb rt rp nr (xM_move tg ad mt d r x) pk ex ro)) A) 1 2 A := by
  refine Met.ofW (cc := cM_move) (maxL := 5) (ret := (some .boolean)) (by decide) rfl ?_
  intro p e s m args below meth c s₁ B hml hv
  obtain ⟨rfl, hsz, hP, hK, hD⟩ := hv
  have hx := B.exec
  have hb := B.bytes
  have hr := B.returns
  have hts := atoms_spec (ws := wM_move) B.pre
  have hq : ∀ w ∈ wA, w.before _ s = true := fun w h => hts w (List.mem_cons_of_mem _ h)
  have hown : s.vm.findClass "CapUnitModel" = some m.cls := findClass_of_methodNamed B.named
  have hlocks := B.notSynchronized
  have hS : va_S A s.heap s.heap [] := va_S.rf
  have hl := lv_entry ([.ref (q 0), .int d, .int r, .int x]) (n := 5) (Nat.le_of_ble_eq_true rfl)
  rw [lg_entry_eq]
  generalize (lg_sl ([.ref (q 0), .int d, .int r, .int x]) ++ List.replicate (5 - (lg_sl ([.ref (q 0), .int d, .int r, .int x])).length) Slot.unset).toArray = ls at hl ⊢
  have hl : lv_has ls 5 [(0, .ref (q 0)), (1, .int d), (2, .int r), (3, .int x)] := hl
  have hA : ∀ q, s.heap.size ≤ q → A q := fun q h => hA0 q (by omega)
  refine lv_aload_n hx hb dM_move_0 rfl (lv_at hl 0 rfl) ?_
  refine lv_iconst (v := 2) hx hb dM_move_1 (by decide) ?_
  refine zn_i hx hb (hq _ q_42) hK hP hD hS hA (N' := 2) (by decide) (by decide) (by decide) (Nat.le_of_ble_eq_true rfl) (Nat.le_of_ble_eq_true rfl) dM_move_2 (fun a2 H hP hD hS => ?_)
  refine lv_dup hx hb dM_move_4 rfl ?_
  refine lv_iconst (v := 0) hx hb dM_move_5 (by decide) ?_
  refine lv_iload_n hx hb dM_move_6 rfl (lv_at hl 1 rfl) ?_
  refine va_iast hx hb hK hP hD hS 7 1 rfl rfl (show ¬ ((0 : Int32) < 0 ∨ 2 ≤ (0 : Int32).toNatClampNeg) by decide) dM_move_7 (fun H locs hP hD hS => ?_)
  have hP : va_P D zCl (mW q k tg ad mt rb rt rp nr th pk ex ro ++ [(a2, .inl (k 1, 2, .inl (upd (fun _ => (0 : Int32)) 0 d)))]) H := hP
  have hD : va_D A (mW q k tg ad mt rb rt rp nr th pk ex ro ++ [(a2, .inl (k 1, 2, .inl (upd (fun _ => (0 : Int32)) 0 d)))]) := hD
  refine lv_dup hx hb dM_move_8 rfl ?_
  refine lv_iconst (v := 1) hx hb dM_move_9 (by decide) ?_
  refine lv_iload_n hx hb dM_move_10 rfl (lv_at hl 2 rfl) ?_
  refine va_iast hx hb hK hP hD hS 7 1 rfl rfl (show ¬ ((1 : Int32) < 0 ∨ 2 ≤ (1 : Int32).toNatClampNeg) by decide) dM_move_11 (fun H locs hP hD hS => ?_)
  have hP : va_P D zCl (mW q k tg ad mt rb rt rp nr th pk ex ro ++ [(a2, .inl (k 1, 2, .inl (upd (upd (fun _ => (0 : Int32)) 0 d) 1 r)))]) H := hP
  have hD : va_D A (mW q k tg ad mt rb rt rp nr th pk ex ro ++ [(a2, .inl (k 1, 2, .inl (upd (upd (fun _ => (0 : Int32)) 0 d) 1 r)))]) := hD
  refine va_calli (va_runV (C := "CapUnitModel") (b := q 0) (As := [.ref a2]) (rest := []) ⟨hx, hb, hml, hown, hq⟩ (kM_is2 l a2 d r) (cwV 1 hq (wA_V q_462 q_464 sM_is q_2 q_465) rfl rfl rfl (by decide +kernel) ⟨Nat.le_of_ble_eq_true rfl, Nat.le_of_ble_eq_true rfl⟩) (zw_pre (c := zCl[1]) (q0 := 0) hK hP hD rfl rfl) rfl rfl hl.1 rfl (lv_room (Nat.le_of_ble_eq_true rfl)) dM_move_12 ⟨Nat.le_of_ble_eq_true rfl, Nat.le_of_ble_eq_true rfl⟩) hS (fun _ _ h9 => h9) (fun _ h9 => h9) (fun v9 u9 t9 H locs ht9 hvm9 hv9 hB9 hz9 hk9 hS => ?_)
  obtain ⟨hP, -, hD⟩ := hB9
  rw [ht9] at hP
  subst hv9
  clear hz9 hk9
  refine lv_if_ne (tgt := 20) hx hb dM_move_15 rfl (fun h1 => ?_) (fun h1 => ?_)
  · have e9 := zz_rb0 h1
    rw [e9] at hP hD
    have g9 := zz_x2 e9
    refine zj_i (A0 := A) (H0 := s.heap) (tM_moveS tg ad mt d r x) 83 [] (fun locs hS => ?_) (fun J9 => ?_)
    · refine lv_istore (lv' := [(4, .int (tM_moveS tg ad mt d r x)), (0, .ref (q 0)), (1, .int d), (2, .int r), (3, .int x)]) hx hb dM_move_83 hl (by decide) rfl (fun ls hl => ?_)
      refine lv_aload_n hx hb dM_move_85 rfl (lv_at hl 1 rfl) ?_
      refine lv_iload_n hx hb dM_move_86 rfl (lv_at hl 2 rfl) ?_
      refine zj_i (A0 := A) (H0 := s.heap) (tM_move tg ad mt d r x) 114 [.int d, .ref (q 0)] (fun locs hS => ?_) (fun J9 => ?_)
      · refine lv_iload_n hx hb dM_move_114 rfl (lv_at hl 4 rfl) ?_
        refine lv_aload_n hx hb dM_move_115 rfl (lv_at hl 1 rfl) ?_
        refine va_get (D := D) (ci := 1) (v := .ref (q 3)) (C := "CapUnitModel") (T := TM) (N := 11) hx hb hq uM_in hown hK hP 0 rfl rfl 2 (by decide) (hq _ q_372) (fun _ h9 => h9) rfl dM_move_116 ?_
        refine lv_iload_n hx hb dM_move_119 rfl (lv_at hl 3 rfl) ?_
        refine va_iald hx hb hK hP 3 1 rfl rfl (i := r) g9.2 dM_move_120 ?_
        refine va_calli (va_runV (C := "CapUnitModel") (b := q 0) (As := [.int d, .int (tM_move tg ad mt d r x), .int x, .int (mt r.toNatClampNeg)]) (rest := []) ⟨hx, hb, hml, hown, hq⟩ (kM_set l d (tM_move tg ad mt d r x) x (mt r.toNatClampNeg) g9.1 (btM_move tg ad mt d r x)) (cwV 4 hq (wA_V q_429 q_431 sM_set q_2 q_432) rfl rfl rfl (by decide +kernel) ⟨Nat.le_of_ble_eq_true rfl, Nat.le_of_ble_eq_true rfl⟩) (zw_pre (c := zCl[1]) (q0 := 0) hK hP hD rfl rfl) rfl rfl hl.1 rfl (lv_room (Nat.le_of_ble_eq_true rfl)) dM_move_121 ⟨Nat.le_of_ble_eq_true rfl, Nat.le_of_ble_eq_true rfl⟩) hS (fun _ _ h9 => h9) (fun _ h9 => h9) (fun v9 u9 t9 H locs ht9 hvm9 hv9 hB9 hz9 hk9 hS => ?_)
        obtain ⟨hP, -, hD⟩ := hB9
        rw [ht9] at hP
        subst hv9
        clear hz9 hk9
        have hX9 : xM_move tg ad mt d r x = 0 := by unfold xM_move; rw [if_neg h1]
        rw [if_pos hX9]
        refine W.widen (k := 1) (n := 2) (by decide) (by decide) ?_
        exact W.zret (v := zSr d (tM_move tg ad mt d r x)) hx hb hr (zz_nar (zSr_b (btM_move tg ad mt d r x))) (fun t9 ht hW => ⟨⟨_, (), rfl, (fun _ => (by unfold rM_move; rw [if_neg h1])), by rw [ht]; exact hP, va_K.moved hW.alike hK, hD⟩, hS.F ht⟩) hS.2.2 dM_move_124
      · refine lv_aload_n hx hb dM_move_87 rfl (lv_at hl 1 rfl) ?_
        refine va_get (D := D) (ci := 1) (v := .ref (q 1)) (C := "CapUnitModel") (T := TM) (N := 11) hx hb hq uM_in hown hK hP 0 rfl rfl 0 (by decide) (hq _ q_370) (fun _ h9 => h9) rfl dM_move_88 ?_
        refine lv_iload_n hx hb dM_move_91 rfl (lv_at hl 3 rfl) ?_
        refine va_zald hx hb hK hP 1 0 rfl rfl (i := r) g9.2 dM_move_92 ?_
        refine lv_if_eq (tgt := 113) hx hb dM_move_93 rfl (fun h2 => ?_) (fun h2 => ?_)
        · refine lv_iconst (v := 0) hx hb dM_move_113 (by decide) ?_
          exact J9 _ _ (by unfold tM_move; rw [if_pos h2]) hS
        · refine lv_aload_n hx hb dM_move_96 rfl (lv_at hl 1 rfl) ?_
          refine lv_iload_n hx hb dM_move_97 rfl (lv_at hl 3 rfl) ?_
          refine zc_i (va_runV (C := "CapUnitModel") (b := q 0) (As := [.int r]) (rest := [.int d, .ref (q 0)]) ⟨hx, hb, hml, hown, hq⟩ (kM_isOpen l hP r g9.2) (cwV 1 hq (wA_V q_470 q_472 sM_isOpen q_2 q_473) rfl rfl rfl (by decide +kernel) ⟨Nat.le_of_ble_eq_true rfl, Nat.le_of_ble_eq_true rfl⟩) (zr_pre (c := zCl[1]) (q0 := 0) hK hP rfl rfl) rfl rfl hl.1 rfl (lv_room (Nat.le_of_ble_eq_true rfl)) dM_move_98 ⟨Nat.le_of_ble_eq_true rfl, Nat.le_of_ble_eq_true rfl⟩) hS (fun locs hS => ?_)
          refine lv_if_eq (tgt := 113) hx hb dM_move_101 rfl (fun h3 => ?_) (fun h3 => ?_)
          · refine lv_iconst (v := 0) hx hb dM_move_113 (by decide) ?_
            exact J9 _ _ (by unfold tM_move; rw [if_neg h2, if_pos h3]) hS
          · refine lv_iload hx hb dM_move_104 (lv_at hl 0 rfl) ?_
            refine lv_if_eq (tgt := 113) hx hb dM_move_106 rfl (fun h4 => ?_) (fun h4 => ?_)
            · refine lv_iconst (v := 0) hx hb dM_move_113 (by decide) ?_
              exact J9 _ _ (by unfold tM_move; rw [if_neg h2, if_neg h3, if_pos h4]) hS
            · refine lv_iconst (v := 1) hx hb dM_move_109 (by decide) ?_
              refine lv_goto (tgt := 114) hx hb dM_move_110 rfl ?_
              exact J9 _ _ (by unfold tM_move; rw [if_neg h2, if_neg h3, if_neg h4]) hS
    · refine lv_aload_n hx hb dM_move_20 rfl (lv_at hl 0 rfl) ?_
      refine va_get (D := D) (ci := 1) (v := .ref (q 3)) (C := "CapUnitModel") (T := TM) (N := 11) hx hb hq uM_in hown hK hP 0 rfl rfl 2 (by decide) (hq _ q_372) (fun _ h9 => h9) rfl dM_move_21 ?_
      refine lv_iload_n hx hb dM_move_24 rfl (lv_at hl 2 rfl) ?_
      refine va_iald hx hb hK hP 3 1 rfl rfl (i := r) g9.2 dM_move_25 ?_
      refine lv_aload_n hx hb dM_move_26 rfl (lv_at hl 0 rfl) ?_
      refine va_get (D := D) (ci := 1) (v := .ref (q 2)) (C := "CapUnitModel") (T := TM) (N := 11) hx hb hq uM_in hown hK hP 0 rfl rfl 1 (by decide) (hq _ q_371) (fun _ h9 => h9) rfl dM_move_27 ?_
      refine lv_iload_n hx hb dM_move_30 rfl (lv_at hl 2 rfl) ?_
      refine va_iald hx hb hK hP 2 1 rfl rfl (i := r) g9.2 dM_move_31 ?_
      refine zc_l (va_runS (As := [.int (mt r.toNatClampNeg), .int (ad r.toNatClampNeg)]) (rest := []) ⟨hx, hb, hml, hown, hq⟩ (kM_base l H (mt r.toNatClampNeg) (ad r.toNatClampNeg)) (va_cwS 2 hq (wA_S q_433 q_434 q_2 q_435) rfl rfl rfl (by decide +kernel) ⟨Nat.le_of_ble_eq_true rfl, Nat.le_of_ble_eq_true rfl⟩) ⟨fun a U g mk q => q, fun U hU hW => ⟨rfl, hU⟩⟩ rfl rfl hl.1 rfl (lv_room (Nat.le_of_ble_eq_true rfl)) dM_move_32 ⟨Nat.le_of_ble_eq_true rfl, Nat.le_of_ble_eq_true rfl⟩) hS (fun locs hS => ?_)
      refine lv_aload_n hx hb dM_move_35 rfl (lv_at hl 0 rfl) ?_
      refine va_get (D := D) (ci := 1) (v := .ref (q 3)) (C := "CapUnitModel") (T := TM) (N := 11) hx hb hq uM_in hown hK hP 0 rfl rfl 2 (by decide) (hq _ q_372) (fun _ h9 => h9) rfl dM_move_36 ?_
      refine lv_iload_n hx hb dM_move_39 rfl (lv_at hl 2 rfl) ?_
      refine va_iald hx hb hK hP 3 1 rfl rfl (i := r) g9.2 dM_move_40 ?_
      refine lv_iload_n hx hb dM_move_41 rfl (lv_at hl 3 rfl) ?_
      refine zc_l (va_runS (As := [.int (mt r.toNatClampNeg), .int x]) (rest := [.long (fM_base (mt r.toNatClampNeg) (ad r.toNatClampNeg))]) ⟨hx, hb, hml, hown, hq⟩ (kM_base l H (mt r.toNatClampNeg) x) (va_cwS 2 hq (wA_S q_433 q_434 q_2 q_435) rfl rfl rfl (by decide +kernel) ⟨Nat.le_of_ble_eq_true rfl, Nat.le_of_ble_eq_true rfl⟩) ⟨fun a U g mk q => q, fun U hU hW => ⟨rfl, hU⟩⟩ rfl rfl hl.1 rfl (lv_room (Nat.le_of_ble_eq_true rfl)) dM_move_42 ⟨Nat.le_of_ble_eq_true rfl, Nat.le_of_ble_eq_true rfl⟩) hS (fun locs hS => ?_)
      refine W.lcmp hx hb dM_move_45 ?_
      refine lv_if_ne (tgt := 82) hx hb dM_move_46 rfl (fun h5 => ?_) (fun h5 => ?_)
      · have h5 := Not.imp h5 (lg_cmp_eq _ _).mpr
        refine lv_iconst (v := 0) hx hb dM_move_82 (by decide) ?_
        exact J9 _ _ (by unfold tM_moveS; rw [if_neg h5]) hS
      · have h5 := (lg_cmp_eq _ _).mp h5
        refine lv_aload_n hx hb dM_move_49 rfl (lv_at hl 0 rfl) ?_
        refine va_get (D := D) (ci := 1) (v := .ref (q 3)) (C := "CapUnitModel") (T := TM) (N := 11) hx hb hq uM_in hown hK hP 0 rfl rfl 2 (by decide) (hq _ q_372) (fun _ h9 => h9) rfl dM_move_50 ?_
        refine lv_iload_n hx hb dM_move_53 rfl (lv_at hl 2 rfl) ?_
        refine va_iald hx hb hK hP 3 1 rfl rfl (i := r) g9.2 dM_move_54 ?_
        refine lv_aload_n hx hb dM_move_55 rfl (lv_at hl 0 rfl) ?_
        refine va_get (D := D) (ci := 1) (v := .ref (q 2)) (C := "CapUnitModel") (T := TM) (N := 11) hx hb hq uM_in hown hK hP 0 rfl rfl 1 (by decide) (hq _ q_371) (fun _ h9 => h9) rfl dM_move_56 ?_
        refine lv_iload_n hx hb dM_move_59 rfl (lv_at hl 2 rfl) ?_
        refine va_iald hx hb hK hP 2 1 rfl rfl (i := r) g9.2 dM_move_60 ?_
        refine zc_l (va_runS (As := [.int (mt r.toNatClampNeg), .int (ad r.toNatClampNeg)]) (rest := []) ⟨hx, hb, hml, hown, hq⟩ (kM_top l H (mt r.toNatClampNeg) (ad r.toNatClampNeg)) (va_cwS 2 hq (wA_S q_451 q_452 q_2 q_453) rfl rfl rfl (by decide +kernel) ⟨Nat.le_of_ble_eq_true rfl, Nat.le_of_ble_eq_true rfl⟩) ⟨fun a U g mk q => q, fun U hU hW => ⟨rfl, hU⟩⟩ rfl rfl hl.1 rfl (lv_room (Nat.le_of_ble_eq_true rfl)) dM_move_61 ⟨Nat.le_of_ble_eq_true rfl, Nat.le_of_ble_eq_true rfl⟩) hS (fun locs hS => ?_)
        refine lv_aload_n hx hb dM_move_64 rfl (lv_at hl 0 rfl) ?_
        refine va_get (D := D) (ci := 1) (v := .ref (q 3)) (C := "CapUnitModel") (T := TM) (N := 11) hx hb hq uM_in hown hK hP 0 rfl rfl 2 (by decide) (hq _ q_372) (fun _ h9 => h9) rfl dM_move_65 ?_
        refine lv_iload_n hx hb dM_move_68 rfl (lv_at hl 2 rfl) ?_
        refine va_iald hx hb hK hP 3 1 rfl rfl (i := r) g9.2 dM_move_69 ?_
        refine lv_iload_n hx hb dM_move_70 rfl (lv_at hl 3 rfl) ?_
        refine zc_l (va_runS (As := [.int (mt r.toNatClampNeg), .int x]) (rest := [.long (fM_top (mt r.toNatClampNeg) (ad r.toNatClampNeg))]) ⟨hx, hb, hml, hown, hq⟩ (kM_top l H (mt r.toNatClampNeg) x) (va_cwS 2 hq (wA_S q_451 q_452 q_2 q_453) rfl rfl rfl (by decide +kernel) ⟨Nat.le_of_ble_eq_true rfl, Nat.le_of_ble_eq_true rfl⟩) ⟨fun a U g mk q => q, fun U hU hW => ⟨rfl, hU⟩⟩ rfl rfl hl.1 rfl (lv_room (Nat.le_of_ble_eq_true rfl)) dM_move_71 ⟨Nat.le_of_ble_eq_true rfl, Nat.le_of_ble_eq_true rfl⟩) hS (fun locs hS => ?_)
        refine W.lcmp hx hb dM_move_74 ?_
        refine lv_if_ne (tgt := 82) hx hb dM_move_75 rfl (fun h6 => ?_) (fun h6 => ?_)
        · have h6 := Not.imp h6 (lg_cmp_eq _ _).mpr
          refine lv_iconst (v := 0) hx hb dM_move_82 (by decide) ?_
          exact J9 _ _ (by unfold tM_moveS; rw [if_pos h5, if_neg h6]) hS
        · have h6 := (lg_cmp_eq _ _).mp h6
          refine lv_iconst (v := 1) hx hb dM_move_78 (by decide) ?_
          refine lv_goto (tgt := 83) hx hb dM_move_79 rfl ?_
          exact J9 _ _ (by unfold tM_moveS; rw [if_pos h5, if_pos h6]) hS
  · have e9 := zz_rb1 h1
    refine lv_iconst (v := 0) hx hb dM_move_18 (by decide) ?_
    have hX9 : xM_move tg ad mt d r x = zx2 d r := by unfold xM_move; rw [if_pos h1]
    have hN9 : ¬ xM_move tg ad mt d r x = 0 := by rw [hX9]; exact e9
    rw [if_neg hN9, hX9]
    refine W.widen (k := 1) (n := 2) (by decide) (by decide) ?_
    exact W.zret (v := (0 : Int32)) hx hb hr (by decide) (fun t9 ht hW => ⟨⟨_, (), rfl, (fun h9 => absurd h9 e9), by rw [ht]; exact hP, va_K.moved hW.alike hK, hD⟩, hS.F ht⟩) hS.2.2 dM_move_19
def tM_seal (tg : Nat → Int32) (ad : Nat → Int32) (mt : Nat → Int32) (d : Int32) (r : Int32) (y : Int32) : Int32 := if (tg r.toNatClampNeg) = 0 then (0 : Int32) else (if (tg y.toNatClampNeg) = 0 then (0 : Int32) else (if (fM_isOpen tg ad mt r) = 0 then (0 : Int32) else (if (fM_isOpen tg ad mt y) = 0 then (0 : Int32) else (if (fM_has tg ad mt y (7 : Int32)) = 0 then (0 : Int32) else (if (fM_isIn (mt y.toNatClampNeg) (ad y.toNatClampNeg) (fM_low (ad y.toNatClampNeg)) (1 : Int32)) = 0 then (0 : Int32) else (if (12 : Int64) ≤ (fM_low (ad y.toNatClampNeg)) then (0 : Int32) else (1 : Int32)))))))
theorem btM_seal (tg : Nat → Int32) (ad : Nat → Int32) (mt : Nat → Int32) (d : Int32) (r : Int32) (y : Int32) : tM_seal tg ad mt d r y = 0 ∨ tM_seal tg ad mt d r y = 1 := by
  unfold tM_seal
  repeat' split
  all_goals first | exact Or.inl rfl | exact Or.inr rfl
def xM_seal (tg : Nat → Int32) (ad : Nat → Int32) (mt : Nat → Int32) (d : Int32) (r : Int32) (y : Int32) : Int32 := if (zRb (zx3 d r y)) = 0 then (zx3 d r y) else 0
def rM_seal (tg : Nat → Int32) (ad : Nat → Int32) (mt : Nat → Int32) (d : Int32) (r : Int32) (y : Int32) : Int32 := if (zRb (zx3 d r y)) = 0 then (0 : Int32) else (zSr d (tM_seal tg ad mt d r y))
set_option maxHeartbeats 4000000 in
set_option maxRecDepth 100000 in
theorem kM_seal (l : Launch) {D : va_G} {q : Nat → Nat} {k : Nat → ClassId} {tg : Nat → Int32} {ad : Nat → Int32} {mt : Nat → Int32} {rb : Nat → Int64} {rt : Nat → Int64} {rp : Nat → Int32} {nr : Int32} {th : Int32} {pk : Int32} {ex : Int32} {ro : Int64} {A : Nat → Prop} (sz : Nat) (hA0 : ∀ q, sz ≤ q → A q) (d : Int32) (r : Int32) (y : Int32) : Met l yM_seal wM_seal { frames := 5, cells := 1, slots := 3, locals := 123 } (va_Pc [.ref (q 0), .int d, .int r, .int y] (fun U => U.heap.size = sz ∧ va_P D zCl (mW q k tg ad mt rb rt rp nr th pk ex ro) U.heap ∧ va_K D zCl (zT k) U ∧ va_D A (mW q k tg ad mt rb rt rp nr th pk ex ro))) (va_Qi (fun v9 (_ : Unit) => xM_seal tg ad mt d r y = 0 → v9 = rM_seal tg ad mt d r y) (fun _ t => va_P D zCl (if xM_seal tg ad mt d r y = 0 then mW q k (zS d (tM_seal tg ad mt d r y) tg) (zS d (ad r.toNatClampNeg) ad) (zS d (fM_withType (mt r.toNatClampNeg) ((ad y.toNatClampNeg) &&& (15 : Int32))) mt) rb rt rp nr 0 pk ex ro else mW q k tg ad mt rb rt rp nr (xM_seal tg ad mt d r y) pk ex ro) t.heap ∧ va_K D zCl (zT k) t ∧ va_D A (if xM_seal tg ad mt d r y = 0 then mW q k (zS d (tM_seal tg ad mt d r y) tg) (zS d (ad r.toNatClampNeg) ad) (zS d (fM_withType (mt r.toNatClampNeg) ((ad y.toNatClampNeg) &&& (15 : Int32))) mt) rb rt rp nr 0 pk ex ro else mW q k tg ad mt rb rt rp nr (xM_seal tg ad mt d r y) pk ex ro)) A) 1 3 A := by
  refine Met.ofW (cc := cM_seal) (maxL := 5) (ret := (some .boolean)) (by decide) rfl ?_
  intro p e s m args below meth c s₁ B hml hv
  obtain ⟨rfl, hsz, hP, hK, hD⟩ := hv
  have hx := B.exec
  have hb := B.bytes
  have hr := B.returns
  have hts := atoms_spec (ws := wM_seal) B.pre
  have hq : ∀ w ∈ wA, w.before _ s = true := fun w h => hts w (List.mem_cons_of_mem _ h)
  have hown : s.vm.findClass "CapUnitModel" = some m.cls := findClass_of_methodNamed B.named
  have hlocks := B.notSynchronized
  have hS : va_S A s.heap s.heap [] := va_S.rf
  have hl := lv_entry ([.ref (q 0), .int d, .int r, .int y]) (n := 5) (Nat.le_of_ble_eq_true rfl)
  rw [lg_entry_eq]
  generalize (lg_sl ([.ref (q 0), .int d, .int r, .int y]) ++ List.replicate (5 - (lg_sl ([.ref (q 0), .int d, .int r, .int y])).length) Slot.unset).toArray = ls at hl ⊢
  have hl : lv_has ls 5 [(0, .ref (q 0)), (1, .int d), (2, .int r), (3, .int y)] := hl
  have hA : ∀ q, s.heap.size ≤ q → A q := fun q h => hA0 q (by omega)
  refine lv_aload_n hx hb dM_seal_0 rfl (lv_at hl 0 rfl) ?_
  refine lv_iconst (v := 3) hx hb dM_seal_1 (by decide) ?_
  refine zn_i hx hb (hq _ q_42) hK hP hD hS hA (N' := 3) (by decide) (by decide) (by decide) (Nat.le_of_ble_eq_true rfl) (Nat.le_of_ble_eq_true rfl) dM_seal_2 (fun a2 H hP hD hS => ?_)
  refine lv_dup hx hb dM_seal_4 rfl ?_
  refine lv_iconst (v := 0) hx hb dM_seal_5 (by decide) ?_
  refine lv_iload_n hx hb dM_seal_6 rfl (lv_at hl 1 rfl) ?_
  refine va_iast hx hb hK hP hD hS 7 1 rfl rfl (show ¬ ((0 : Int32) < 0 ∨ 3 ≤ (0 : Int32).toNatClampNeg) by decide) dM_seal_7 (fun H locs hP hD hS => ?_)
  have hP : va_P D zCl (mW q k tg ad mt rb rt rp nr th pk ex ro ++ [(a2, .inl (k 1, 3, .inl (upd (fun _ => (0 : Int32)) 0 d)))]) H := hP
  have hD : va_D A (mW q k tg ad mt rb rt rp nr th pk ex ro ++ [(a2, .inl (k 1, 3, .inl (upd (fun _ => (0 : Int32)) 0 d)))]) := hD
  refine lv_dup hx hb dM_seal_8 rfl ?_
  refine lv_iconst (v := 1) hx hb dM_seal_9 (by decide) ?_
  refine lv_iload_n hx hb dM_seal_10 rfl (lv_at hl 2 rfl) ?_
  refine va_iast hx hb hK hP hD hS 7 1 rfl rfl (show ¬ ((1 : Int32) < 0 ∨ 3 ≤ (1 : Int32).toNatClampNeg) by decide) dM_seal_11 (fun H locs hP hD hS => ?_)
  have hP : va_P D zCl (mW q k tg ad mt rb rt rp nr th pk ex ro ++ [(a2, .inl (k 1, 3, .inl (upd (upd (fun _ => (0 : Int32)) 0 d) 1 r)))]) H := hP
  have hD : va_D A (mW q k tg ad mt rb rt rp nr th pk ex ro ++ [(a2, .inl (k 1, 3, .inl (upd (upd (fun _ => (0 : Int32)) 0 d) 1 r)))]) := hD
  refine lv_dup hx hb dM_seal_12 rfl ?_
  refine lv_iconst (v := 2) hx hb dM_seal_13 (by decide) ?_
  refine lv_iload_n hx hb dM_seal_14 rfl (lv_at hl 3 rfl) ?_
  refine va_iast hx hb hK hP hD hS 7 1 rfl rfl (show ¬ ((2 : Int32) < 0 ∨ 3 ≤ (2 : Int32).toNatClampNeg) by decide) dM_seal_15 (fun H locs hP hD hS => ?_)
  have hP : va_P D zCl (mW q k tg ad mt rb rt rp nr th pk ex ro ++ [(a2, .inl (k 1, 3, .inl (upd (upd (upd (fun _ => (0 : Int32)) 0 d) 1 r) 2 y)))]) H := hP
  have hD : va_D A (mW q k tg ad mt rb rt rp nr th pk ex ro ++ [(a2, .inl (k 1, 3, .inl (upd (upd (upd (fun _ => (0 : Int32)) 0 d) 1 r) 2 y)))]) := hD
  refine va_calli (va_runV (C := "CapUnitModel") (b := q 0) (As := [.ref a2]) (rest := []) ⟨hx, hb, hml, hown, hq⟩ (kM_is3 l a2 d r y) (cwV 1 hq (wA_V q_462 q_464 sM_is q_2 q_465) rfl rfl rfl (by decide +kernel) ⟨Nat.le_of_ble_eq_true rfl, Nat.le_of_ble_eq_true rfl⟩) (zw_pre (c := zCl[1]) (q0 := 0) hK hP hD rfl rfl) rfl rfl hl.1 rfl (lv_room (Nat.le_of_ble_eq_true rfl)) dM_seal_16 ⟨Nat.le_of_ble_eq_true rfl, Nat.le_of_ble_eq_true rfl⟩) hS (fun _ _ h9 => h9) (fun _ h9 => h9) (fun v9 u9 t9 H locs ht9 hvm9 hv9 hB9 hz9 hk9 hS => ?_)
  obtain ⟨hP, -, hD⟩ := hB9
  rw [ht9] at hP
  subst hv9
  clear hz9 hk9
  refine lv_if_ne (tgt := 24) hx hb dM_seal_19 rfl (fun h1 => ?_) (fun h1 => ?_)
  · have e9 := zz_rb0 h1
    rw [e9] at hP hD
    have g9 := zz_x3 e9
    refine lv_aload_n hx hb dM_seal_24 rfl (lv_at hl 0 rfl) ?_
    refine va_get (D := D) (ci := 1) (v := .ref (q 2)) (C := "CapUnitModel") (T := TM) (N := 11) hx hb hq uM_in hown hK hP 0 rfl rfl 1 (by decide) (hq _ q_371) (fun _ h9 => h9) rfl dM_seal_25 ?_
    refine lv_iload_n hx hb dM_seal_28 rfl (lv_at hl 3 rfl) ?_
    refine va_iald hx hb hK hP 2 1 rfl rfl (i := y) g9.2.2 dM_seal_29 ?_
    refine lv_istore (lv' := [(4, .int (ad y.toNatClampNeg)), (0, .ref (q 0)), (1, .int d), (2, .int r), (3, .int y)]) hx hb dM_seal_30 hl (by decide) rfl (fun ls hl => ?_)
    refine lv_aload_n hx hb dM_seal_32 rfl (lv_at hl 1 rfl) ?_
    refine lv_iload_n hx hb dM_seal_33 rfl (lv_at hl 2 rfl) ?_
    refine zj_i (A0 := A) (H0 := s.heap) (tM_seal tg ad mt d r y) 115 [.int d, .ref (q 0)] (fun locs hS => ?_) (fun J9 => ?_)
    · refine lv_aload_n hx hb dM_seal_115 rfl (lv_at hl 1 rfl) ?_
      refine va_get (D := D) (ci := 1) (v := .ref (q 2)) (C := "CapUnitModel") (T := TM) (N := 11) hx hb hq uM_in hown hK hP 0 rfl rfl 1 (by decide) (hq _ q_371) (fun _ h9 => h9) rfl dM_seal_116 ?_
      refine lv_iload_n hx hb dM_seal_119 rfl (lv_at hl 3 rfl) ?_
      refine va_iald hx hb hK hP 2 1 rfl rfl (i := r) g9.2.1 dM_seal_120 ?_
      refine lv_aload_n hx hb dM_seal_121 rfl (lv_at hl 1 rfl) ?_
      refine va_get (D := D) (ci := 1) (v := .ref (q 3)) (C := "CapUnitModel") (T := TM) (N := 11) hx hb hq uM_in hown hK hP 0 rfl rfl 2 (by decide) (hq _ q_372) (fun _ h9 => h9) rfl dM_seal_122 ?_
      refine lv_iload_n hx hb dM_seal_125 rfl (lv_at hl 3 rfl) ?_
      refine va_iald hx hb hK hP 3 1 rfl rfl (i := r) g9.2.1 dM_seal_126 ?_
      refine lv_iload hx hb dM_seal_127 (lv_at hl 0 rfl) ?_
      refine lv_bipush (v := 15) hx hb dM_seal_129 (by decide) ?_
      refine lv_iand hx hb dM_seal_131 ?_
      refine zc_i (va_runS (As := [.int (mt r.toNatClampNeg), .int ((ad y.toNatClampNeg) &&& (15 : Int32))]) (rest := [.int (ad r.toNatClampNeg), .int (tM_seal tg ad mt d r y), .int d, .ref (q 0)]) ⟨hx, hb, hml, hown, hq⟩ (kM_withType l H (mt r.toNatClampNeg) ((ad y.toNatClampNeg) &&& (15 : Int32))) (va_cwS 2 hq (wA_S q_504 q_505 q_2 q_506) rfl rfl rfl (by decide +kernel) ⟨Nat.le_of_ble_eq_true rfl, Nat.le_of_ble_eq_true rfl⟩) ⟨fun a U g mk q => q, fun U hU hW => ⟨rfl, hU⟩⟩ rfl rfl hl.1 rfl (lv_room (Nat.le_of_ble_eq_true rfl)) dM_seal_132 ⟨Nat.le_of_ble_eq_true rfl, Nat.le_of_ble_eq_true rfl⟩) hS (fun locs hS => ?_)
      refine va_calli (va_runV (C := "CapUnitModel") (b := q 0) (As := [.int d, .int (tM_seal tg ad mt d r y), .int (ad r.toNatClampNeg), .int (fM_withType (mt r.toNatClampNeg) ((ad y.toNatClampNeg) &&& (15 : Int32)))]) (rest := []) ⟨hx, hb, hml, hown, hq⟩ (kM_set l d (tM_seal tg ad mt d r y) (ad r.toNatClampNeg) (fM_withType (mt r.toNatClampNeg) ((ad y.toNatClampNeg) &&& (15 : Int32))) g9.1 (btM_seal tg ad mt d r y)) (cwV 4 hq (wA_V q_429 q_431 sM_set q_2 q_432) rfl rfl rfl (by decide +kernel) ⟨Nat.le_of_ble_eq_true rfl, Nat.le_of_ble_eq_true rfl⟩) (zw_pre (c := zCl[1]) (q0 := 0) hK hP hD rfl rfl) rfl rfl hl.1 rfl (lv_room (Nat.le_of_ble_eq_true rfl)) dM_seal_135 ⟨Nat.le_of_ble_eq_true rfl, Nat.le_of_ble_eq_true rfl⟩) hS (fun _ _ h9 => h9) (fun _ h9 => h9) (fun v9 u9 t9 H locs ht9 hvm9 hv9 hB9 hz9 hk9 hS => ?_)
      obtain ⟨hP, -, hD⟩ := hB9
      rw [ht9] at hP
      subst hv9
      clear hz9 hk9
      have hX9 : xM_seal tg ad mt d r y = 0 := by unfold xM_seal; rw [if_neg h1]
      rw [if_pos hX9]
      refine W.widen (k := 1) (n := 3) (by decide) (by decide) ?_
      exact W.zret (v := zSr d (tM_seal tg ad mt d r y)) hx hb hr (zz_nar (zSr_b (btM_seal tg ad mt d r y))) (fun t9 ht hW => ⟨⟨_, (), rfl, (fun _ => (by unfold rM_seal; rw [if_neg h1])), by rw [ht]; exact hP, va_K.moved hW.alike hK, hD⟩, hS.F ht⟩) hS.2.2 dM_seal_138
    · refine lv_aload_n hx hb dM_seal_34 rfl (lv_at hl 1 rfl) ?_
      refine va_get (D := D) (ci := 1) (v := .ref (q 1)) (C := "CapUnitModel") (T := TM) (N := 11) hx hb hq uM_in hown hK hP 0 rfl rfl 0 (by decide) (hq _ q_370) (fun _ h9 => h9) rfl dM_seal_35 ?_
      refine lv_iload_n hx hb dM_seal_38 rfl (lv_at hl 3 rfl) ?_
      refine va_zald hx hb hK hP 1 0 rfl rfl (i := r) g9.2.1 dM_seal_39 ?_
      refine lv_if_eq (tgt := 114) hx hb dM_seal_40 rfl (fun h2 => ?_) (fun h2 => ?_)
      · refine lv_iconst (v := 0) hx hb dM_seal_114 (by decide) ?_
        exact J9 _ _ (by unfold tM_seal; rw [if_pos h2]) hS
      · refine lv_aload_n hx hb dM_seal_43 rfl (lv_at hl 1 rfl) ?_
        refine va_get (D := D) (ci := 1) (v := .ref (q 1)) (C := "CapUnitModel") (T := TM) (N := 11) hx hb hq uM_in hown hK hP 0 rfl rfl 0 (by decide) (hq _ q_370) (fun _ h9 => h9) rfl dM_seal_44 ?_
        refine lv_iload_n hx hb dM_seal_47 rfl (lv_at hl 4 rfl) ?_
        refine va_zald hx hb hK hP 1 0 rfl rfl (i := y) g9.2.2 dM_seal_48 ?_
        refine lv_if_eq (tgt := 114) hx hb dM_seal_49 rfl (fun h3 => ?_) (fun h3 => ?_)
        · refine lv_iconst (v := 0) hx hb dM_seal_114 (by decide) ?_
          exact J9 _ _ (by unfold tM_seal; rw [if_neg h2, if_pos h3]) hS
        · refine lv_aload_n hx hb dM_seal_52 rfl (lv_at hl 1 rfl) ?_
          refine lv_iload_n hx hb dM_seal_53 rfl (lv_at hl 3 rfl) ?_
          refine zc_i (va_runV (C := "CapUnitModel") (b := q 0) (As := [.int r]) (rest := [.int d, .ref (q 0)]) ⟨hx, hb, hml, hown, hq⟩ (kM_isOpen l hP r g9.2.1) (cwV 1 hq (wA_V q_470 q_472 sM_isOpen q_2 q_473) rfl rfl rfl (by decide +kernel) ⟨Nat.le_of_ble_eq_true rfl, Nat.le_of_ble_eq_true rfl⟩) (zr_pre (c := zCl[1]) (q0 := 0) hK hP rfl rfl) rfl rfl hl.1 rfl (lv_room (Nat.le_of_ble_eq_true rfl)) dM_seal_54 ⟨Nat.le_of_ble_eq_true rfl, Nat.le_of_ble_eq_true rfl⟩) hS (fun locs hS => ?_)
          refine lv_if_eq (tgt := 114) hx hb dM_seal_57 rfl (fun h4 => ?_) (fun h4 => ?_)
          · refine lv_iconst (v := 0) hx hb dM_seal_114 (by decide) ?_
            exact J9 _ _ (by unfold tM_seal; rw [if_neg h2, if_neg h3, if_pos h4]) hS
          · refine lv_aload_n hx hb dM_seal_60 rfl (lv_at hl 1 rfl) ?_
            refine lv_iload_n hx hb dM_seal_61 rfl (lv_at hl 4 rfl) ?_
            refine zc_i (va_runV (C := "CapUnitModel") (b := q 0) (As := [.int y]) (rest := [.int d, .ref (q 0)]) ⟨hx, hb, hml, hown, hq⟩ (kM_isOpen l hP y g9.2.2) (cwV 1 hq (wA_V q_470 q_472 sM_isOpen q_2 q_473) rfl rfl rfl (by decide +kernel) ⟨Nat.le_of_ble_eq_true rfl, Nat.le_of_ble_eq_true rfl⟩) (zr_pre (c := zCl[1]) (q0 := 0) hK hP rfl rfl) rfl rfl hl.1 rfl (lv_room (Nat.le_of_ble_eq_true rfl)) dM_seal_62 ⟨Nat.le_of_ble_eq_true rfl, Nat.le_of_ble_eq_true rfl⟩) hS (fun locs hS => ?_)
            refine lv_if_eq (tgt := 114) hx hb dM_seal_65 rfl (fun h5 => ?_) (fun h5 => ?_)
            · refine lv_iconst (v := 0) hx hb dM_seal_114 (by decide) ?_
              exact J9 _ _ (by unfold tM_seal; rw [if_neg h2, if_neg h3, if_neg h4, if_pos h5]) hS
            · refine lv_aload_n hx hb dM_seal_68 rfl (lv_at hl 1 rfl) ?_
              refine lv_iload_n hx hb dM_seal_69 rfl (lv_at hl 4 rfl) ?_
              refine lv_bipush (v := 7) hx hb dM_seal_70 (by decide) ?_
              refine zc_i (va_runV (C := "CapUnitModel") (b := q 0) (As := [.int y, .int (7 : Int32)]) (rest := [.int d, .ref (q 0)]) ⟨hx, hb, hml, hown, hq⟩ (kM_has l hP y (7 : Int32) g9.2.2) (cwV 2 hq (wA_V q_496 q_498 sM_has q_2 q_499) rfl rfl rfl (by decide +kernel) ⟨Nat.le_of_ble_eq_true rfl, Nat.le_of_ble_eq_true rfl⟩) (zr_pre (c := zCl[1]) (q0 := 0) hK hP rfl rfl) rfl rfl hl.1 rfl (lv_room (Nat.le_of_ble_eq_true rfl)) dM_seal_72 ⟨Nat.le_of_ble_eq_true rfl, Nat.le_of_ble_eq_true rfl⟩) hS (fun locs hS => ?_)
              refine lv_if_eq (tgt := 114) hx hb dM_seal_75 rfl (fun h6 => ?_) (fun h6 => ?_)
              · refine lv_iconst (v := 0) hx hb dM_seal_114 (by decide) ?_
                exact J9 _ _ (by unfold tM_seal; rw [if_neg h2, if_neg h3, if_neg h4, if_neg h5, if_pos h6]) hS
              · refine lv_aload_n hx hb dM_seal_78 rfl (lv_at hl 1 rfl) ?_
                refine va_get (D := D) (ci := 1) (v := .ref (q 3)) (C := "CapUnitModel") (T := TM) (N := 11) hx hb hq uM_in hown hK hP 0 rfl rfl 2 (by decide) (hq _ q_372) (fun _ h9 => h9) rfl dM_seal_79 ?_
                refine lv_iload_n hx hb dM_seal_82 rfl (lv_at hl 4 rfl) ?_
                refine va_iald hx hb hK hP 3 1 rfl rfl (i := y) g9.2.2 dM_seal_83 ?_
                refine lv_iload hx hb dM_seal_84 (lv_at hl 0 rfl) ?_
                refine lv_iload hx hb dM_seal_86 (lv_at hl 0 rfl) ?_
                refine zc_l (va_runS (As := [.int (ad y.toNatClampNeg)]) (rest := [.int (ad y.toNatClampNeg), .int (mt y.toNatClampNeg), .int d, .ref (q 0)]) ⟨hx, hb, hml, hown, hq⟩ (kM_low l H (ad y.toNatClampNeg)) (va_cwS 1 hq (wA_S q_417 q_418 q_2 q_419) rfl rfl rfl (by decide +kernel) ⟨Nat.le_of_ble_eq_true rfl, Nat.le_of_ble_eq_true rfl⟩) ⟨fun a U g mk q => q, fun U hU hW => ⟨rfl, hU⟩⟩ rfl rfl hl.1 rfl (lv_room (Nat.le_of_ble_eq_true rfl)) dM_seal_88 ⟨Nat.le_of_ble_eq_true rfl, Nat.le_of_ble_eq_true rfl⟩) hS (fun locs hS => ?_)
                refine lv_iconst (v := 1) hx hb dM_seal_91 (by decide) ?_
                refine zc_i (va_runS (As := [.int (mt y.toNatClampNeg), .int (ad y.toNatClampNeg), .long (fM_low (ad y.toNatClampNeg)), .int (1 : Int32)]) (rest := [.int d, .ref (q 0)]) ⟨hx, hb, hml, hown, hq⟩ (kM_isIn l H (mt y.toNatClampNeg) (ad y.toNatClampNeg) (fM_low (ad y.toNatClampNeg)) (1 : Int32)) (va_cwS 4 hq (wA_S q_500 q_501 q_2 q_502) rfl rfl rfl (by decide +kernel) ⟨Nat.le_of_ble_eq_true rfl, Nat.le_of_ble_eq_true rfl⟩) ⟨fun a U g mk q => q, fun U hU hW => ⟨rfl, hU⟩⟩ rfl rfl hl.1 rfl (lv_room (Nat.le_of_ble_eq_true rfl)) dM_seal_92 ⟨Nat.le_of_ble_eq_true rfl, Nat.le_of_ble_eq_true rfl⟩) hS (fun locs hS => ?_)
                refine lv_if_eq (tgt := 114) hx hb dM_seal_95 rfl (fun h7 => ?_) (fun h7 => ?_)
                · refine lv_iconst (v := 0) hx hb dM_seal_114 (by decide) ?_
                  exact J9 _ _ (by unfold tM_seal; rw [if_neg h2, if_neg h3, if_neg h4, if_neg h5, if_neg h6, if_pos h7]) hS
                · refine lv_iload hx hb dM_seal_98 (lv_at hl 0 rfl) ?_
                  refine zc_l (va_runS (As := [.int (ad y.toNatClampNeg)]) (rest := [.int d, .ref (q 0)]) ⟨hx, hb, hml, hown, hq⟩ (kM_low l H (ad y.toNatClampNeg)) (va_cwS 1 hq (wA_S q_417 q_418 q_2 q_419) rfl rfl rfl (by decide +kernel) ⟨Nat.le_of_ble_eq_true rfl, Nat.le_of_ble_eq_true rfl⟩) ⟨fun a U g mk q => q, fun U hU hW => ⟨rfl, hU⟩⟩ rfl rfl hl.1 rfl (lv_room (Nat.le_of_ble_eq_true rfl)) dM_seal_100 ⟨Nat.le_of_ble_eq_true rfl, Nat.le_of_ble_eq_true rfl⟩) hS (fun locs hS => ?_)
                  refine lv_ldc2 (v := 12) hx hb hown (hts (.constantLong "CapUnitModel" 135 12) (by decide +kernel)) dM_seal_103 ?_
                  refine W.lcmp hx hb dM_seal_106 ?_
                  refine lv_if_ge (tgt := 114) hx hb dM_seal_107 rfl (fun h8 => ?_) (fun h8 => ?_)
                  · have h8 := (lg_cmp_ge _ _).mp h8
                    refine lv_iconst (v := 0) hx hb dM_seal_114 (by decide) ?_
                    exact J9 _ _ (by unfold tM_seal; rw [if_neg h2, if_neg h3, if_neg h4, if_neg h5, if_neg h6, if_neg h7, if_pos h8]) hS
                  · have h8 := Not.imp h8 (lg_cmp_ge _ _).mpr
                    refine lv_iconst (v := 1) hx hb dM_seal_110 (by decide) ?_
                    refine lv_goto (tgt := 115) hx hb dM_seal_111 rfl ?_
                    exact J9 _ _ (by unfold tM_seal; rw [if_neg h2, if_neg h3, if_neg h4, if_neg h5, if_neg h6, if_neg h7, if_neg h8]) hS
  · have e9 := zz_rb1 h1
    refine lv_iconst (v := 0) hx hb dM_seal_22 (by decide) ?_
    have hX9 : xM_seal tg ad mt d r y = zx3 d r y := by unfold xM_seal; rw [if_pos h1]
    have hN9 : ¬ xM_seal tg ad mt d r y = 0 := by rw [hX9]; exact e9
    rw [if_neg hN9, hX9]
    refine W.widen (k := 1) (n := 3) (by decide) (by decide) ?_
    exact W.zret (v := (0 : Int32)) hx hb hr (by decide) (fun t9 ht hW => ⟨⟨_, (), rfl, (fun h9 => absurd h9 e9), by rw [ht]; exact hP, va_K.moved hW.alike hK, hD⟩, hS.F ht⟩) hS.2.2 dM_seal_23
def uM_unseal (tg : Nat → Int32) (ad : Nat → Int32) (mt : Nat → Int32) (d : Int32) (r : Int32) (y : Int32) : Int32 := if (fM_has tg ad mt y (0 : Int32)) = 0 then ((fM_perms (mt r.toNatClampNeg)) &&& (-2 : Int32)) else (fM_perms (mt r.toNatClampNeg))
def tM_unseal (tg : Nat → Int32) (ad : Nat → Int32) (mt : Nat → Int32) (d : Int32) (r : Int32) (y : Int32) : Int32 := if (tg r.toNatClampNeg) = 0 then (0 : Int32) else (if (tg y.toNatClampNeg) = 0 then (0 : Int32) else (if (12 : Int32) ≤ (fM_type (mt r.toNatClampNeg)) then (0 : Int32) else (if (fM_type (mt r.toNatClampNeg)) = (ad y.toNatClampNeg) then (if (fM_isOpen tg ad mt y) = 0 then (0 : Int32) else (if (fM_has tg ad mt y (9 : Int32)) = 0 then (0 : Int32) else (if (fM_isIn (mt y.toNatClampNeg) (ad y.toNatClampNeg) (fM_low (ad y.toNatClampNeg)) (1 : Int32)) = 0 then (0 : Int32) else (1 : Int32)))) else (0 : Int32))))
theorem btM_unseal (tg : Nat → Int32) (ad : Nat → Int32) (mt : Nat → Int32) (d : Int32) (r : Int32) (y : Int32) : tM_unseal tg ad mt d r y = 0 ∨ tM_unseal tg ad mt d r y = 1 := by
  unfold tM_unseal
  repeat' split
  all_goals first | exact Or.inl rfl | exact Or.inr rfl
def xM_unseal (tg : Nat → Int32) (ad : Nat → Int32) (mt : Nat → Int32) (d : Int32) (r : Int32) (y : Int32) : Int32 := if (zRb (zx3 d r y)) = 0 then (zx3 d r y) else 0
def rM_unseal (tg : Nat → Int32) (ad : Nat → Int32) (mt : Nat → Int32) (d : Int32) (r : Int32) (y : Int32) : Int32 := if (zRb (zx3 d r y)) = 0 then (0 : Int32) else (zSr d (tM_unseal tg ad mt d r y))
set_option maxHeartbeats 4000000 in
set_option maxRecDepth 100000 in
theorem kM_unseal (l : Launch) {D : va_G} {q : Nat → Nat} {k : Nat → ClassId} {tg : Nat → Int32} {ad : Nat → Int32} {mt : Nat → Int32} {rb : Nat → Int64} {rt : Nat → Int64} {rp : Nat → Int32} {nr : Int32} {th : Int32} {pk : Int32} {ex : Int32} {ro : Int64} {A : Nat → Prop} (sz : Nat) (hA0 : ∀ q, sz ≤ q → A q) (d : Int32) (r : Int32) (y : Int32) : Met l yM_unseal wM_unseal { frames := 5, cells := 1, slots := 3, locals := 123 } (va_Pc [.ref (q 0), .int d, .int r, .int y] (fun U => U.heap.size = sz ∧ va_P D zCl (mW q k tg ad mt rb rt rp nr th pk ex ro) U.heap ∧ va_K D zCl (zT k) U ∧ va_D A (mW q k tg ad mt rb rt rp nr th pk ex ro))) (va_Qi (fun v9 (_ : Unit) => xM_unseal tg ad mt d r y = 0 → v9 = rM_unseal tg ad mt d r y) (fun _ t => va_P D zCl (if xM_unseal tg ad mt d r y = 0 then mW q k (zS d (tM_unseal tg ad mt d r y) tg) (zS d (ad r.toNatClampNeg) ad) (zS d (fM_withPerms (fM_withType (mt r.toNatClampNeg) (15 : Int32)) (uM_unseal tg ad mt d r y)) mt) rb rt rp nr 0 pk ex ro else mW q k tg ad mt rb rt rp nr (xM_unseal tg ad mt d r y) pk ex ro) t.heap ∧ va_K D zCl (zT k) t ∧ va_D A (if xM_unseal tg ad mt d r y = 0 then mW q k (zS d (tM_unseal tg ad mt d r y) tg) (zS d (ad r.toNatClampNeg) ad) (zS d (fM_withPerms (fM_withType (mt r.toNatClampNeg) (15 : Int32)) (uM_unseal tg ad mt d r y)) mt) rb rt rp nr 0 pk ex ro else mW q k tg ad mt rb rt rp nr (xM_unseal tg ad mt d r y) pk ex ro)) A) 1 3 A := by
  refine Met.ofW (cc := cM_unseal) (maxL := 7) (ret := (some .boolean)) (by decide) rfl ?_
  intro p e s m args below meth c s₁ B hml hv
  obtain ⟨rfl, hsz, hP, hK, hD⟩ := hv
  have hx := B.exec
  have hb := B.bytes
  have hr := B.returns
  have hts := atoms_spec (ws := wM_unseal) B.pre
  have hq : ∀ w ∈ wA, w.before _ s = true := fun w h => hts w (List.mem_cons_of_mem _ h)
  have hown : s.vm.findClass "CapUnitModel" = some m.cls := findClass_of_methodNamed B.named
  have hlocks := B.notSynchronized
  have hS : va_S A s.heap s.heap [] := va_S.rf
  have hl := lv_entry ([.ref (q 0), .int d, .int r, .int y]) (n := 7) (Nat.le_of_ble_eq_true rfl)
  rw [lg_entry_eq]
  generalize (lg_sl ([.ref (q 0), .int d, .int r, .int y]) ++ List.replicate (7 - (lg_sl ([.ref (q 0), .int d, .int r, .int y])).length) Slot.unset).toArray = ls at hl ⊢
  have hl : lv_has ls 7 [(0, .ref (q 0)), (1, .int d), (2, .int r), (3, .int y)] := hl
  have hA : ∀ q, s.heap.size ≤ q → A q := fun q h => hA0 q (by omega)
  refine lv_aload_n hx hb dM_unseal_0 rfl (lv_at hl 0 rfl) ?_
  refine lv_iconst (v := 3) hx hb dM_unseal_1 (by decide) ?_
  refine zn_i hx hb (hq _ q_42) hK hP hD hS hA (N' := 3) (by decide) (by decide) (by decide) (Nat.le_of_ble_eq_true rfl) (Nat.le_of_ble_eq_true rfl) dM_unseal_2 (fun a2 H hP hD hS => ?_)
  refine lv_dup hx hb dM_unseal_4 rfl ?_
  refine lv_iconst (v := 0) hx hb dM_unseal_5 (by decide) ?_
  refine lv_iload_n hx hb dM_unseal_6 rfl (lv_at hl 1 rfl) ?_
  refine va_iast hx hb hK hP hD hS 7 1 rfl rfl (show ¬ ((0 : Int32) < 0 ∨ 3 ≤ (0 : Int32).toNatClampNeg) by decide) dM_unseal_7 (fun H locs hP hD hS => ?_)
  have hP : va_P D zCl (mW q k tg ad mt rb rt rp nr th pk ex ro ++ [(a2, .inl (k 1, 3, .inl (upd (fun _ => (0 : Int32)) 0 d)))]) H := hP
  have hD : va_D A (mW q k tg ad mt rb rt rp nr th pk ex ro ++ [(a2, .inl (k 1, 3, .inl (upd (fun _ => (0 : Int32)) 0 d)))]) := hD
  refine lv_dup hx hb dM_unseal_8 rfl ?_
  refine lv_iconst (v := 1) hx hb dM_unseal_9 (by decide) ?_
  refine lv_iload_n hx hb dM_unseal_10 rfl (lv_at hl 2 rfl) ?_
  refine va_iast hx hb hK hP hD hS 7 1 rfl rfl (show ¬ ((1 : Int32) < 0 ∨ 3 ≤ (1 : Int32).toNatClampNeg) by decide) dM_unseal_11 (fun H locs hP hD hS => ?_)
  have hP : va_P D zCl (mW q k tg ad mt rb rt rp nr th pk ex ro ++ [(a2, .inl (k 1, 3, .inl (upd (upd (fun _ => (0 : Int32)) 0 d) 1 r)))]) H := hP
  have hD : va_D A (mW q k tg ad mt rb rt rp nr th pk ex ro ++ [(a2, .inl (k 1, 3, .inl (upd (upd (fun _ => (0 : Int32)) 0 d) 1 r)))]) := hD
  refine lv_dup hx hb dM_unseal_12 rfl ?_
  refine lv_iconst (v := 2) hx hb dM_unseal_13 (by decide) ?_
  refine lv_iload_n hx hb dM_unseal_14 rfl (lv_at hl 3 rfl) ?_
  refine va_iast hx hb hK hP hD hS 7 1 rfl rfl (show ¬ ((2 : Int32) < 0 ∨ 3 ≤ (2 : Int32).toNatClampNeg) by decide) dM_unseal_15 (fun H locs hP hD hS => ?_)
  have hP : va_P D zCl (mW q k tg ad mt rb rt rp nr th pk ex ro ++ [(a2, .inl (k 1, 3, .inl (upd (upd (upd (fun _ => (0 : Int32)) 0 d) 1 r) 2 y)))]) H := hP
  have hD : va_D A (mW q k tg ad mt rb rt rp nr th pk ex ro ++ [(a2, .inl (k 1, 3, .inl (upd (upd (upd (fun _ => (0 : Int32)) 0 d) 1 r) 2 y)))]) := hD
  refine va_calli (va_runV (C := "CapUnitModel") (b := q 0) (As := [.ref a2]) (rest := []) ⟨hx, hb, hml, hown, hq⟩ (kM_is3 l a2 d r y) (cwV 1 hq (wA_V q_462 q_464 sM_is q_2 q_465) rfl rfl rfl (by decide +kernel) ⟨Nat.le_of_ble_eq_true rfl, Nat.le_of_ble_eq_true rfl⟩) (zw_pre (c := zCl[1]) (q0 := 0) hK hP hD rfl rfl) rfl rfl hl.1 rfl (lv_room (Nat.le_of_ble_eq_true rfl)) dM_unseal_16 ⟨Nat.le_of_ble_eq_true rfl, Nat.le_of_ble_eq_true rfl⟩) hS (fun _ _ h9 => h9) (fun _ h9 => h9) (fun v9 u9 t9 H locs ht9 hvm9 hv9 hB9 hz9 hk9 hS => ?_)
  obtain ⟨hP, -, hD⟩ := hB9
  rw [ht9] at hP
  subst hv9
  clear hz9 hk9
  refine lv_if_ne (tgt := 24) hx hb dM_unseal_19 rfl (fun h1 => ?_) (fun h1 => ?_)
  · have e9 := zz_rb0 h1
    rw [e9] at hP hD
    have g9 := zz_x3 e9
    refine lv_aload_n hx hb dM_unseal_24 rfl (lv_at hl 0 rfl) ?_
    refine va_get (D := D) (ci := 1) (v := .ref (q 2)) (C := "CapUnitModel") (T := TM) (N := 11) hx hb hq uM_in hown hK hP 0 rfl rfl 1 (by decide) (hq _ q_371) (fun _ h9 => h9) rfl dM_unseal_25 ?_
    refine lv_iload_n hx hb dM_unseal_28 rfl (lv_at hl 3 rfl) ?_
    refine va_iald hx hb hK hP 2 1 rfl rfl (i := y) g9.2.2 dM_unseal_29 ?_
    refine lv_istore (lv' := [(4, .int (ad y.toNatClampNeg)), (0, .ref (q 0)), (1, .int d), (2, .int r), (3, .int y)]) hx hb dM_unseal_30 hl (by decide) rfl (fun ls hl => ?_)
    refine lv_aload_n hx hb dM_unseal_32 rfl (lv_at hl 1 rfl) ?_
    refine va_get (D := D) (ci := 1) (v := .ref (q 3)) (C := "CapUnitModel") (T := TM) (N := 11) hx hb hq uM_in hown hK hP 0 rfl rfl 2 (by decide) (hq _ q_372) (fun _ h9 => h9) rfl dM_unseal_33 ?_
    refine lv_iload_n hx hb dM_unseal_36 rfl (lv_at hl 3 rfl) ?_
    refine va_iald hx hb hK hP 3 1 rfl rfl (i := r) g9.2.1 dM_unseal_37 ?_
    refine zc_i (va_runS (As := [.int (mt r.toNatClampNeg)]) (rest := []) ⟨hx, hb, hml, hown, hq⟩ (kM_type l H (mt r.toNatClampNeg)) (va_cwS 1 hq (wA_S q_474 q_475 q_2 q_476) rfl rfl rfl (by decide +kernel) ⟨Nat.le_of_ble_eq_true rfl, Nat.le_of_ble_eq_true rfl⟩) ⟨fun a U g mk q => q, fun U hU hW => ⟨rfl, hU⟩⟩ rfl rfl hl.1 rfl (lv_room (Nat.le_of_ble_eq_true rfl)) dM_unseal_38 ⟨Nat.le_of_ble_eq_true rfl, Nat.le_of_ble_eq_true rfl⟩) hS (fun locs hS => ?_)
    refine lv_istore (lv' := [(5, .int (fM_type (mt r.toNatClampNeg))), (4, .int (ad y.toNatClampNeg)), (0, .ref (q 0)), (1, .int d), (2, .int r), (3, .int y)]) hx hb dM_unseal_41 hl (by decide) rfl (fun ls hl => ?_)
    refine zj_i (A0 := A) (H0 := s.heap) (uM_unseal tg ad mt d r y) 76 [] (fun locs hS => ?_) (fun J9 => ?_)
    · refine lv_istore (lv' := [(6, .int (uM_unseal tg ad mt d r y)), (5, .int (fM_type (mt r.toNatClampNeg))), (4, .int (ad y.toNatClampNeg)), (0, .ref (q 0)), (1, .int d), (2, .int r), (3, .int y)]) hx hb dM_unseal_76 hl (by decide) rfl (fun ls hl => ?_)
      refine lv_aload_n hx hb dM_unseal_78 rfl (lv_at hl 3 rfl) ?_
      refine lv_iload_n hx hb dM_unseal_79 rfl (lv_at hl 4 rfl) ?_
      refine zj_i (A0 := A) (H0 := s.heap) (tM_unseal tg ad mt d r y) 155 [.int d, .ref (q 0)] (fun locs hS => ?_) (fun J9 => ?_)
      · refine lv_aload_n hx hb dM_unseal_155 rfl (lv_at hl 3 rfl) ?_
        refine va_get (D := D) (ci := 1) (v := .ref (q 2)) (C := "CapUnitModel") (T := TM) (N := 11) hx hb hq uM_in hown hK hP 0 rfl rfl 1 (by decide) (hq _ q_371) (fun _ h9 => h9) rfl dM_unseal_156 ?_
        refine lv_iload_n hx hb dM_unseal_159 rfl (lv_at hl 5 rfl) ?_
        refine va_iald hx hb hK hP 2 1 rfl rfl (i := r) g9.2.1 dM_unseal_160 ?_
        refine lv_aload_n hx hb dM_unseal_161 rfl (lv_at hl 3 rfl) ?_
        refine va_get (D := D) (ci := 1) (v := .ref (q 3)) (C := "CapUnitModel") (T := TM) (N := 11) hx hb hq uM_in hown hK hP 0 rfl rfl 2 (by decide) (hq _ q_372) (fun _ h9 => h9) rfl dM_unseal_162 ?_
        refine lv_iload_n hx hb dM_unseal_165 rfl (lv_at hl 5 rfl) ?_
        refine va_iald hx hb hK hP 3 1 rfl rfl (i := r) g9.2.1 dM_unseal_166 ?_
        refine lv_bipush (v := 15) hx hb dM_unseal_167 (by decide) ?_
        refine zc_i (va_runS (As := [.int (mt r.toNatClampNeg), .int (15 : Int32)]) (rest := [.int (ad r.toNatClampNeg), .int (tM_unseal tg ad mt d r y), .int d, .ref (q 0)]) ⟨hx, hb, hml, hown, hq⟩ (kM_withType l H (mt r.toNatClampNeg) (15 : Int32)) (va_cwS 2 hq (wA_S q_504 q_505 q_2 q_506) rfl rfl rfl (by decide +kernel) ⟨Nat.le_of_ble_eq_true rfl, Nat.le_of_ble_eq_true rfl⟩) ⟨fun a U g mk q => q, fun U hU hW => ⟨rfl, hU⟩⟩ rfl rfl hl.1 rfl (lv_room (Nat.le_of_ble_eq_true rfl)) dM_unseal_169 ⟨Nat.le_of_ble_eq_true rfl, Nat.le_of_ble_eq_true rfl⟩) hS (fun locs hS => ?_)
        refine lv_iload hx hb dM_unseal_172 (lv_at hl 0 rfl) ?_
        refine zc_i (va_runS (As := [.int (fM_withType (mt r.toNatClampNeg) (15 : Int32)), .int (uM_unseal tg ad mt d r y)]) (rest := [.int (ad r.toNatClampNeg), .int (tM_unseal tg ad mt d r y), .int d, .ref (q 0)]) ⟨hx, hb, hml, hown, hq⟩ (kM_withPerms l H (fM_withType (mt r.toNatClampNeg) (15 : Int32)) (uM_unseal tg ad mt d r y)) (va_cwS 2 hq (wA_S q_488 q_489 q_2 q_490) rfl rfl rfl (by decide +kernel) ⟨Nat.le_of_ble_eq_true rfl, Nat.le_of_ble_eq_true rfl⟩) ⟨fun a U g mk q => q, fun U hU hW => ⟨rfl, hU⟩⟩ rfl rfl hl.1 rfl (lv_room (Nat.le_of_ble_eq_true rfl)) dM_unseal_174 ⟨Nat.le_of_ble_eq_true rfl, Nat.le_of_ble_eq_true rfl⟩) hS (fun locs hS => ?_)
        refine va_calli (va_runV (C := "CapUnitModel") (b := q 0) (As := [.int d, .int (tM_unseal tg ad mt d r y), .int (ad r.toNatClampNeg), .int (fM_withPerms (fM_withType (mt r.toNatClampNeg) (15 : Int32)) (uM_unseal tg ad mt d r y))]) (rest := []) ⟨hx, hb, hml, hown, hq⟩ (kM_set l d (tM_unseal tg ad mt d r y) (ad r.toNatClampNeg) (fM_withPerms (fM_withType (mt r.toNatClampNeg) (15 : Int32)) (uM_unseal tg ad mt d r y)) g9.1 (btM_unseal tg ad mt d r y)) (cwV 4 hq (wA_V q_429 q_431 sM_set q_2 q_432) rfl rfl rfl (by decide +kernel) ⟨Nat.le_of_ble_eq_true rfl, Nat.le_of_ble_eq_true rfl⟩) (zw_pre (c := zCl[1]) (q0 := 0) hK hP hD rfl rfl) rfl rfl hl.1 rfl (lv_room (Nat.le_of_ble_eq_true rfl)) dM_unseal_177 ⟨Nat.le_of_ble_eq_true rfl, Nat.le_of_ble_eq_true rfl⟩) hS (fun _ _ h9 => h9) (fun _ h9 => h9) (fun v9 u9 t9 H locs ht9 hvm9 hv9 hB9 hz9 hk9 hS => ?_)
        obtain ⟨hP, -, hD⟩ := hB9
        rw [ht9] at hP
        subst hv9
        clear hz9 hk9
        have hX9 : xM_unseal tg ad mt d r y = 0 := by unfold xM_unseal; rw [if_neg h1]
        rw [if_pos hX9]
        refine W.widen (k := 1) (n := 3) (by decide) (by decide) ?_
        exact W.zret (v := zSr d (tM_unseal tg ad mt d r y)) hx hb hr (zz_nar (zSr_b (btM_unseal tg ad mt d r y))) (fun t9 ht hW => ⟨⟨_, (), rfl, (fun _ => (by unfold rM_unseal; rw [if_neg h1])), by rw [ht]; exact hP, va_K.moved hW.alike hK, hD⟩, hS.F ht⟩) hS.2.2 dM_unseal_180
      · refine lv_aload_n hx hb dM_unseal_80 rfl (lv_at hl 3 rfl) ?_
        refine va_get (D := D) (ci := 1) (v := .ref (q 1)) (C := "CapUnitModel") (T := TM) (N := 11) hx hb hq uM_in hown hK hP 0 rfl rfl 0 (by decide) (hq _ q_370) (fun _ h9 => h9) rfl dM_unseal_81 ?_
        refine lv_iload_n hx hb dM_unseal_84 rfl (lv_at hl 5 rfl) ?_
        refine va_zald hx hb hK hP 1 0 rfl rfl (i := r) g9.2.1 dM_unseal_85 ?_
        refine lv_if_eq (tgt := 154) hx hb dM_unseal_86 rfl (fun h2 => ?_) (fun h2 => ?_)
        · refine lv_iconst (v := 0) hx hb dM_unseal_154 (by decide) ?_
          exact J9 _ _ (by unfold tM_unseal; rw [if_pos h2]) hS
        · refine lv_aload_n hx hb dM_unseal_89 rfl (lv_at hl 3 rfl) ?_
          refine va_get (D := D) (ci := 1) (v := .ref (q 1)) (C := "CapUnitModel") (T := TM) (N := 11) hx hb hq uM_in hown hK hP 0 rfl rfl 0 (by decide) (hq _ q_370) (fun _ h9 => h9) rfl dM_unseal_90 ?_
          refine lv_iload_n hx hb dM_unseal_93 rfl (lv_at hl 6 rfl) ?_
          refine va_zald hx hb hK hP 1 0 rfl rfl (i := y) g9.2.2 dM_unseal_94 ?_
          refine lv_if_eq (tgt := 154) hx hb dM_unseal_95 rfl (fun h3 => ?_) (fun h3 => ?_)
          · refine lv_iconst (v := 0) hx hb dM_unseal_154 (by decide) ?_
            exact J9 _ _ (by unfold tM_unseal; rw [if_neg h2, if_pos h3]) hS
          · refine lv_iload hx hb dM_unseal_98 (lv_at hl 1 rfl) ?_
            refine lv_bipush (v := 12) hx hb dM_unseal_100 (by decide) ?_
            refine lv_icmp_ge (tgt := 154) hx hb dM_unseal_102 rfl (fun h4 => ?_) (fun h4 => ?_)
            · refine lv_iconst (v := 0) hx hb dM_unseal_154 (by decide) ?_
              exact J9 _ _ (by unfold tM_unseal; rw [if_neg h2, if_neg h3, if_pos h4]) hS
            · refine lv_iload hx hb dM_unseal_105 (lv_at hl 1 rfl) ?_
              refine lv_iload hx hb dM_unseal_107 (lv_at hl 2 rfl) ?_
              refine lv_icmp_ne (tgt := 154) hx hb dM_unseal_109 rfl (fun h5 => ?_) (fun h5 => ?_)
              · refine lv_iconst (v := 0) hx hb dM_unseal_154 (by decide) ?_
                exact J9 _ _ (by unfold tM_unseal; rw [if_neg h2, if_neg h3, if_neg h4, if_neg h5]) hS
              · refine lv_aload_n hx hb dM_unseal_112 rfl (lv_at hl 3 rfl) ?_
                refine lv_iload_n hx hb dM_unseal_113 rfl (lv_at hl 6 rfl) ?_
                refine zc_i (va_runV (C := "CapUnitModel") (b := q 0) (As := [.int y]) (rest := [.int d, .ref (q 0)]) ⟨hx, hb, hml, hown, hq⟩ (kM_isOpen l hP y g9.2.2) (cwV 1 hq (wA_V q_470 q_472 sM_isOpen q_2 q_473) rfl rfl rfl (by decide +kernel) ⟨Nat.le_of_ble_eq_true rfl, Nat.le_of_ble_eq_true rfl⟩) (zr_pre (c := zCl[1]) (q0 := 0) hK hP rfl rfl) rfl rfl hl.1 rfl (lv_room (Nat.le_of_ble_eq_true rfl)) dM_unseal_114 ⟨Nat.le_of_ble_eq_true rfl, Nat.le_of_ble_eq_true rfl⟩) hS (fun locs hS => ?_)
                refine lv_if_eq (tgt := 154) hx hb dM_unseal_117 rfl (fun h6 => ?_) (fun h6 => ?_)
                · refine lv_iconst (v := 0) hx hb dM_unseal_154 (by decide) ?_
                  exact J9 _ _ (by unfold tM_unseal; rw [if_neg h2, if_neg h3, if_neg h4, if_pos h5, if_pos h6]) hS
                · refine lv_aload_n hx hb dM_unseal_120 rfl (lv_at hl 3 rfl) ?_
                  refine lv_iload_n hx hb dM_unseal_121 rfl (lv_at hl 6 rfl) ?_
                  refine lv_bipush (v := 9) hx hb dM_unseal_122 (by decide) ?_
                  refine zc_i (va_runV (C := "CapUnitModel") (b := q 0) (As := [.int y, .int (9 : Int32)]) (rest := [.int d, .ref (q 0)]) ⟨hx, hb, hml, hown, hq⟩ (kM_has l hP y (9 : Int32) g9.2.2) (cwV 2 hq (wA_V q_496 q_498 sM_has q_2 q_499) rfl rfl rfl (by decide +kernel) ⟨Nat.le_of_ble_eq_true rfl, Nat.le_of_ble_eq_true rfl⟩) (zr_pre (c := zCl[1]) (q0 := 0) hK hP rfl rfl) rfl rfl hl.1 rfl (lv_room (Nat.le_of_ble_eq_true rfl)) dM_unseal_124 ⟨Nat.le_of_ble_eq_true rfl, Nat.le_of_ble_eq_true rfl⟩) hS (fun locs hS => ?_)
                  refine lv_if_eq (tgt := 154) hx hb dM_unseal_127 rfl (fun h7 => ?_) (fun h7 => ?_)
                  · refine lv_iconst (v := 0) hx hb dM_unseal_154 (by decide) ?_
                    exact J9 _ _ (by unfold tM_unseal; rw [if_neg h2, if_neg h3, if_neg h4, if_pos h5, if_neg h6, if_pos h7]) hS
                  · refine lv_aload_n hx hb dM_unseal_130 rfl (lv_at hl 3 rfl) ?_
                    refine va_get (D := D) (ci := 1) (v := .ref (q 3)) (C := "CapUnitModel") (T := TM) (N := 11) hx hb hq uM_in hown hK hP 0 rfl rfl 2 (by decide) (hq _ q_372) (fun _ h9 => h9) rfl dM_unseal_131 ?_
                    refine lv_iload_n hx hb dM_unseal_134 rfl (lv_at hl 6 rfl) ?_
                    refine va_iald hx hb hK hP 3 1 rfl rfl (i := y) g9.2.2 dM_unseal_135 ?_
                    refine lv_iload hx hb dM_unseal_136 (lv_at hl 2 rfl) ?_
                    refine lv_iload hx hb dM_unseal_138 (lv_at hl 2 rfl) ?_
                    refine zc_l (va_runS (As := [.int (ad y.toNatClampNeg)]) (rest := [.int (ad y.toNatClampNeg), .int (mt y.toNatClampNeg), .int d, .ref (q 0)]) ⟨hx, hb, hml, hown, hq⟩ (kM_low l H (ad y.toNatClampNeg)) (va_cwS 1 hq (wA_S q_417 q_418 q_2 q_419) rfl rfl rfl (by decide +kernel) ⟨Nat.le_of_ble_eq_true rfl, Nat.le_of_ble_eq_true rfl⟩) ⟨fun a U g mk q => q, fun U hU hW => ⟨rfl, hU⟩⟩ rfl rfl hl.1 rfl (lv_room (Nat.le_of_ble_eq_true rfl)) dM_unseal_140 ⟨Nat.le_of_ble_eq_true rfl, Nat.le_of_ble_eq_true rfl⟩) hS (fun locs hS => ?_)
                    refine lv_iconst (v := 1) hx hb dM_unseal_143 (by decide) ?_
                    refine zc_i (va_runS (As := [.int (mt y.toNatClampNeg), .int (ad y.toNatClampNeg), .long (fM_low (ad y.toNatClampNeg)), .int (1 : Int32)]) (rest := [.int d, .ref (q 0)]) ⟨hx, hb, hml, hown, hq⟩ (kM_isIn l H (mt y.toNatClampNeg) (ad y.toNatClampNeg) (fM_low (ad y.toNatClampNeg)) (1 : Int32)) (va_cwS 4 hq (wA_S q_500 q_501 q_2 q_502) rfl rfl rfl (by decide +kernel) ⟨Nat.le_of_ble_eq_true rfl, Nat.le_of_ble_eq_true rfl⟩) ⟨fun a U g mk q => q, fun U hU hW => ⟨rfl, hU⟩⟩ rfl rfl hl.1 rfl (lv_room (Nat.le_of_ble_eq_true rfl)) dM_unseal_144 ⟨Nat.le_of_ble_eq_true rfl, Nat.le_of_ble_eq_true rfl⟩) hS (fun locs hS => ?_)
                    refine lv_if_eq (tgt := 154) hx hb dM_unseal_147 rfl (fun h8 => ?_) (fun h8 => ?_)
                    · refine lv_iconst (v := 0) hx hb dM_unseal_154 (by decide) ?_
                      exact J9 _ _ (by unfold tM_unseal; rw [if_neg h2, if_neg h3, if_neg h4, if_pos h5, if_neg h6, if_neg h7, if_pos h8]) hS
                    · refine lv_iconst (v := 1) hx hb dM_unseal_150 (by decide) ?_
                      refine lv_goto (tgt := 155) hx hb dM_unseal_151 rfl ?_
                      exact J9 _ _ (by unfold tM_unseal; rw [if_neg h2, if_neg h3, if_neg h4, if_pos h5, if_neg h6, if_neg h7, if_neg h8]) hS
    · refine lv_aload_n hx hb dM_unseal_43 rfl (lv_at hl 2 rfl) ?_
      refine lv_iload_n hx hb dM_unseal_44 rfl (lv_at hl 5 rfl) ?_
      refine lv_iconst (v := 0) hx hb dM_unseal_45 (by decide) ?_
      refine zc_i (va_runV (C := "CapUnitModel") (b := q 0) (As := [.int y, .int (0 : Int32)]) (rest := []) ⟨hx, hb, hml, hown, hq⟩ (kM_has l hP y (0 : Int32) g9.2.2) (cwV 2 hq (wA_V q_496 q_498 sM_has q_2 q_499) rfl rfl rfl (by decide +kernel) ⟨Nat.le_of_ble_eq_true rfl, Nat.le_of_ble_eq_true rfl⟩) (zr_pre (c := zCl[1]) (q0 := 0) hK hP rfl rfl) rfl rfl hl.1 rfl (lv_room (Nat.le_of_ble_eq_true rfl)) dM_unseal_46 ⟨Nat.le_of_ble_eq_true rfl, Nat.le_of_ble_eq_true rfl⟩) hS (fun locs hS => ?_)
      refine lv_if_eq (tgt := 64) hx hb dM_unseal_49 rfl (fun h9 => ?_) (fun h9 => ?_)
      · refine lv_aload_n hx hb dM_unseal_64 rfl (lv_at hl 2 rfl) ?_
        refine va_get (D := D) (ci := 1) (v := .ref (q 3)) (C := "CapUnitModel") (T := TM) (N := 11) hx hb hq uM_in hown hK hP 0 rfl rfl 2 (by decide) (hq _ q_372) (fun _ h9 => h9) rfl dM_unseal_65 ?_
        refine lv_iload_n hx hb dM_unseal_68 rfl (lv_at hl 4 rfl) ?_
        refine va_iald hx hb hK hP 3 1 rfl rfl (i := r) g9.2.1 dM_unseal_69 ?_
        refine zc_i (va_runS (As := [.int (mt r.toNatClampNeg)]) (rest := []) ⟨hx, hb, hml, hown, hq⟩ (kM_perms l H (mt r.toNatClampNeg)) (va_cwS 1 hq (wA_S q_485 q_486 q_2 q_487) rfl rfl rfl (by decide +kernel) ⟨Nat.le_of_ble_eq_true rfl, Nat.le_of_ble_eq_true rfl⟩) ⟨fun a U g mk q => q, fun U hU hW => ⟨rfl, hU⟩⟩ rfl rfl hl.1 rfl (lv_room (Nat.le_of_ble_eq_true rfl)) dM_unseal_70 ⟨Nat.le_of_ble_eq_true rfl, Nat.le_of_ble_eq_true rfl⟩) hS (fun locs hS => ?_)
        refine lv_bipush (v := -2) hx hb dM_unseal_73 (by decide) ?_
        refine lv_iand hx hb dM_unseal_75 ?_
        exact J9 _ _ (by unfold uM_unseal; rw [if_pos h9]) hS
      · refine lv_aload_n hx hb dM_unseal_52 rfl (lv_at hl 2 rfl) ?_
        refine va_get (D := D) (ci := 1) (v := .ref (q 3)) (C := "CapUnitModel") (T := TM) (N := 11) hx hb hq uM_in hown hK hP 0 rfl rfl 2 (by decide) (hq _ q_372) (fun _ h9 => h9) rfl dM_unseal_53 ?_
        refine lv_iload_n hx hb dM_unseal_56 rfl (lv_at hl 4 rfl) ?_
        refine va_iald hx hb hK hP 3 1 rfl rfl (i := r) g9.2.1 dM_unseal_57 ?_
        refine zc_i (va_runS (As := [.int (mt r.toNatClampNeg)]) (rest := []) ⟨hx, hb, hml, hown, hq⟩ (kM_perms l H (mt r.toNatClampNeg)) (va_cwS 1 hq (wA_S q_485 q_486 q_2 q_487) rfl rfl rfl (by decide +kernel) ⟨Nat.le_of_ble_eq_true rfl, Nat.le_of_ble_eq_true rfl⟩) ⟨fun a U g mk q => q, fun U hU hW => ⟨rfl, hU⟩⟩ rfl rfl hl.1 rfl (lv_room (Nat.le_of_ble_eq_true rfl)) dM_unseal_58 ⟨Nat.le_of_ble_eq_true rfl, Nat.le_of_ble_eq_true rfl⟩) hS (fun locs hS => ?_)
        refine lv_goto (tgt := 76) hx hb dM_unseal_61 rfl ?_
        exact J9 _ _ (by unfold uM_unseal; rw [if_neg h9]) hS
  · have e9 := zz_rb1 h1
    refine lv_iconst (v := 0) hx hb dM_unseal_22 (by decide) ?_
    have hX9 : xM_unseal tg ad mt d r y = zx3 d r y := by unfold xM_unseal; rw [if_pos h1]
    have hN9 : ¬ xM_unseal tg ad mt d r y = 0 := by rw [hX9]; exact e9
    rw [if_neg hN9, hX9]
    refine W.widen (k := 1) (n := 3) (by decide) (by decide) ?_
    exact W.zret (v := (0 : Int32)) hx hb hr (by decide) (fun t9 ht hW => ⟨⟨_, (), rfl, (fun h9 => absurd h9 e9), by rw [ht]; exact hP, va_K.moved hW.alike hK, hD⟩, hS.F ht⟩) hS.2.2 dM_unseal_23
def tM_build (tg : Nat → Int32) (ad : Nat → Int32) (mt : Nat → Int32) (d : Int32) (r : Int32) (y : Int32) : Int32 := if (tg r.toNatClampNeg) = 0 then (0 : Int32) else (if (fM_isOpen tg ad mt r) = 0 then (0 : Int32) else (if (fM_top (mt y.toNatClampNeg) (ad y.toNatClampNeg)) < (fM_base (mt y.toNatClampNeg) (ad y.toNatClampNeg)) then (0 : Int32) else (if (fM_isWithin tg ad mt y r) = 0 then (0 : Int32) else (1 : Int32))))
theorem btM_build (tg : Nat → Int32) (ad : Nat → Int32) (mt : Nat → Int32) (d : Int32) (r : Int32) (y : Int32) : tM_build tg ad mt d r y = 0 ∨ tM_build tg ad mt d r y = 1 := by
  unfold tM_build
  repeat' split
  all_goals first | exact Or.inl rfl | exact Or.inr rfl
def uM_build (tg : Nat → Int32) (ad : Nat → Int32) (mt : Nat → Int32) (d : Int32) (r : Int32) (y : Int32) : Int32 := if (fM_type (mt y.toNatClampNeg)) = (14 : Int32) then (14 : Int32) else (15 : Int32)
def xM_build (tg : Nat → Int32) (ad : Nat → Int32) (mt : Nat → Int32) (d : Int32) (r : Int32) (y : Int32) : Int32 := if (zRb (zx3 d r y)) = 0 then (zx3 d r y) else 0
def rM_build (tg : Nat → Int32) (ad : Nat → Int32) (mt : Nat → Int32) (d : Int32) (r : Int32) (y : Int32) : Int32 := if (zRb (zx3 d r y)) = 0 then (0 : Int32) else (zSr d (tM_build tg ad mt d r y))
set_option maxHeartbeats 4000000 in
set_option maxRecDepth 100000 in
theorem kM_build (l : Launch) {D : va_G} {q : Nat → Nat} {k : Nat → ClassId} {tg : Nat → Int32} {ad : Nat → Int32} {mt : Nat → Int32} {rb : Nat → Int64} {rt : Nat → Int64} {rp : Nat → Int32} {nr : Int32} {th : Int32} {pk : Int32} {ex : Int32} {ro : Int64} {A : Nat → Prop} (sz : Nat) (hA0 : ∀ q, sz ≤ q → A q) (d : Int32) (r : Int32) (y : Int32) : Met l yM_build wM_build { frames := 5, cells := 1, slots := 3, locals := 121 } (va_Pc [.ref (q 0), .int d, .int r, .int y] (fun U => U.heap.size = sz ∧ va_P D zCl (mW q k tg ad mt rb rt rp nr th pk ex ro) U.heap ∧ va_K D zCl (zT k) U ∧ va_D A (mW q k tg ad mt rb rt rp nr th pk ex ro))) (va_Qi (fun v9 (_ : Unit) => xM_build tg ad mt d r y = 0 → v9 = rM_build tg ad mt d r y) (fun _ t => va_P D zCl (if xM_build tg ad mt d r y = 0 then mW q k (zS d (tM_build tg ad mt d r y) tg) (zS d (ad y.toNatClampNeg) ad) (zS d (fM_withType (mt y.toNatClampNeg) (uM_build tg ad mt d r y)) mt) rb rt rp nr 0 pk ex ro else mW q k tg ad mt rb rt rp nr (xM_build tg ad mt d r y) pk ex ro) t.heap ∧ va_K D zCl (zT k) t ∧ va_D A (if xM_build tg ad mt d r y = 0 then mW q k (zS d (tM_build tg ad mt d r y) tg) (zS d (ad y.toNatClampNeg) ad) (zS d (fM_withType (mt y.toNatClampNeg) (uM_build tg ad mt d r y)) mt) rb rt rp nr 0 pk ex ro else mW q k tg ad mt rb rt rp nr (xM_build tg ad mt d r y) pk ex ro)) A) 1 3 A := by
  refine Met.ofW (cc := cM_build) (maxL := 6) (ret := (some .boolean)) (by decide) rfl ?_
  intro p e s m args below meth c s₁ B hml hv
  obtain ⟨rfl, hsz, hP, hK, hD⟩ := hv
  have hx := B.exec
  have hb := B.bytes
  have hr := B.returns
  have hts := atoms_spec (ws := wM_build) B.pre
  have hq : ∀ w ∈ wA, w.before _ s = true := fun w h => hts w (List.mem_cons_of_mem _ h)
  have hown : s.vm.findClass "CapUnitModel" = some m.cls := findClass_of_methodNamed B.named
  have hlocks := B.notSynchronized
  have hS : va_S A s.heap s.heap [] := va_S.rf
  have hl := lv_entry ([.ref (q 0), .int d, .int r, .int y]) (n := 6) (Nat.le_of_ble_eq_true rfl)
  rw [lg_entry_eq]
  generalize (lg_sl ([.ref (q 0), .int d, .int r, .int y]) ++ List.replicate (6 - (lg_sl ([.ref (q 0), .int d, .int r, .int y])).length) Slot.unset).toArray = ls at hl ⊢
  have hl : lv_has ls 6 [(0, .ref (q 0)), (1, .int d), (2, .int r), (3, .int y)] := hl
  have hA : ∀ q, s.heap.size ≤ q → A q := fun q h => hA0 q (by omega)
  refine lv_aload_n hx hb dM_build_0 rfl (lv_at hl 0 rfl) ?_
  refine lv_iconst (v := 3) hx hb dM_build_1 (by decide) ?_
  refine zn_i hx hb (hq _ q_42) hK hP hD hS hA (N' := 3) (by decide) (by decide) (by decide) (Nat.le_of_ble_eq_true rfl) (Nat.le_of_ble_eq_true rfl) dM_build_2 (fun a2 H hP hD hS => ?_)
  refine lv_dup hx hb dM_build_4 rfl ?_
  refine lv_iconst (v := 0) hx hb dM_build_5 (by decide) ?_
  refine lv_iload_n hx hb dM_build_6 rfl (lv_at hl 1 rfl) ?_
  refine va_iast hx hb hK hP hD hS 7 1 rfl rfl (show ¬ ((0 : Int32) < 0 ∨ 3 ≤ (0 : Int32).toNatClampNeg) by decide) dM_build_7 (fun H locs hP hD hS => ?_)
  have hP : va_P D zCl (mW q k tg ad mt rb rt rp nr th pk ex ro ++ [(a2, .inl (k 1, 3, .inl (upd (fun _ => (0 : Int32)) 0 d)))]) H := hP
  have hD : va_D A (mW q k tg ad mt rb rt rp nr th pk ex ro ++ [(a2, .inl (k 1, 3, .inl (upd (fun _ => (0 : Int32)) 0 d)))]) := hD
  refine lv_dup hx hb dM_build_8 rfl ?_
  refine lv_iconst (v := 1) hx hb dM_build_9 (by decide) ?_
  refine lv_iload_n hx hb dM_build_10 rfl (lv_at hl 2 rfl) ?_
  refine va_iast hx hb hK hP hD hS 7 1 rfl rfl (show ¬ ((1 : Int32) < 0 ∨ 3 ≤ (1 : Int32).toNatClampNeg) by decide) dM_build_11 (fun H locs hP hD hS => ?_)
  have hP : va_P D zCl (mW q k tg ad mt rb rt rp nr th pk ex ro ++ [(a2, .inl (k 1, 3, .inl (upd (upd (fun _ => (0 : Int32)) 0 d) 1 r)))]) H := hP
  have hD : va_D A (mW q k tg ad mt rb rt rp nr th pk ex ro ++ [(a2, .inl (k 1, 3, .inl (upd (upd (fun _ => (0 : Int32)) 0 d) 1 r)))]) := hD
  refine lv_dup hx hb dM_build_12 rfl ?_
  refine lv_iconst (v := 2) hx hb dM_build_13 (by decide) ?_
  refine lv_iload_n hx hb dM_build_14 rfl (lv_at hl 3 rfl) ?_
  refine va_iast hx hb hK hP hD hS 7 1 rfl rfl (show ¬ ((2 : Int32) < 0 ∨ 3 ≤ (2 : Int32).toNatClampNeg) by decide) dM_build_15 (fun H locs hP hD hS => ?_)
  have hP : va_P D zCl (mW q k tg ad mt rb rt rp nr th pk ex ro ++ [(a2, .inl (k 1, 3, .inl (upd (upd (upd (fun _ => (0 : Int32)) 0 d) 1 r) 2 y)))]) H := hP
  have hD : va_D A (mW q k tg ad mt rb rt rp nr th pk ex ro ++ [(a2, .inl (k 1, 3, .inl (upd (upd (upd (fun _ => (0 : Int32)) 0 d) 1 r) 2 y)))]) := hD
  refine va_calli (va_runV (C := "CapUnitModel") (b := q 0) (As := [.ref a2]) (rest := []) ⟨hx, hb, hml, hown, hq⟩ (kM_is3 l a2 d r y) (cwV 1 hq (wA_V q_462 q_464 sM_is q_2 q_465) rfl rfl rfl (by decide +kernel) ⟨Nat.le_of_ble_eq_true rfl, Nat.le_of_ble_eq_true rfl⟩) (zw_pre (c := zCl[1]) (q0 := 0) hK hP hD rfl rfl) rfl rfl hl.1 rfl (lv_room (Nat.le_of_ble_eq_true rfl)) dM_build_16 ⟨Nat.le_of_ble_eq_true rfl, Nat.le_of_ble_eq_true rfl⟩) hS (fun _ _ h9 => h9) (fun _ h9 => h9) (fun v9 u9 t9 H locs ht9 hvm9 hv9 hB9 hz9 hk9 hS => ?_)
  obtain ⟨hP, -, hD⟩ := hB9
  rw [ht9] at hP
  subst hv9
  clear hz9 hk9
  refine lv_if_ne (tgt := 24) hx hb dM_build_19 rfl (fun h1 => ?_) (fun h1 => ?_)
  · have e9 := zz_rb0 h1
    rw [e9] at hP hD
    have g9 := zz_x3 e9
    refine lv_aload_n hx hb dM_build_24 rfl (lv_at hl 0 rfl) ?_
    refine va_get (D := D) (ci := 1) (v := .ref (q 3)) (C := "CapUnitModel") (T := TM) (N := 11) hx hb hq uM_in hown hK hP 0 rfl rfl 2 (by decide) (hq _ q_372) (fun _ h9 => h9) rfl dM_build_25 ?_
    refine lv_iload_n hx hb dM_build_28 rfl (lv_at hl 3 rfl) ?_
    refine va_iald hx hb hK hP 3 1 rfl rfl (i := y) g9.2.2 dM_build_29 ?_
    refine lv_istore (lv' := [(4, .int (mt y.toNatClampNeg)), (0, .ref (q 0)), (1, .int d), (2, .int r), (3, .int y)]) hx hb dM_build_30 hl (by decide) rfl (fun ls hl => ?_)
    refine zj_i (A0 := A) (H0 := s.heap) (tM_build tg ad mt d r y) 89 [] (fun locs hS => ?_) (fun J9 => ?_)
    · refine lv_istore (lv' := [(5, .int (tM_build tg ad mt d r y)), (4, .int (mt y.toNatClampNeg)), (0, .ref (q 0)), (1, .int d), (2, .int r), (3, .int y)]) hx hb dM_build_89 hl (by decide) rfl (fun ls hl => ?_)
      refine lv_aload_n hx hb dM_build_91 rfl (lv_at hl 2 rfl) ?_
      refine lv_iload_n hx hb dM_build_92 rfl (lv_at hl 3 rfl) ?_
      refine lv_iload hx hb dM_build_93 (lv_at hl 0 rfl) ?_
      refine lv_aload_n hx hb dM_build_95 rfl (lv_at hl 2 rfl) ?_
      refine va_get (D := D) (ci := 1) (v := .ref (q 2)) (C := "CapUnitModel") (T := TM) (N := 11) hx hb hq uM_in hown hK hP 0 rfl rfl 1 (by decide) (hq _ q_371) (fun _ h9 => h9) rfl dM_build_96 ?_
      refine lv_iload_n hx hb dM_build_99 rfl (lv_at hl 5 rfl) ?_
      refine va_iald hx hb hK hP 2 1 rfl rfl (i := y) g9.2.2 dM_build_100 ?_
      refine lv_iload hx hb dM_build_101 (lv_at hl 1 rfl) ?_
      refine zj_i (A0 := A) (H0 := s.heap) (uM_build tg ad mt d r y) 120 [.int (mt y.toNatClampNeg), .int (ad y.toNatClampNeg), .int (tM_build tg ad mt d r y), .int d, .ref (q 0)] (fun locs hS => ?_) (fun J9 => ?_)
      · refine zc_i (va_runS (As := [.int (mt y.toNatClampNeg), .int (uM_build tg ad mt d r y)]) (rest := [.int (ad y.toNatClampNeg), .int (tM_build tg ad mt d r y), .int d, .ref (q 0)]) ⟨hx, hb, hml, hown, hq⟩ (kM_withType l H (mt y.toNatClampNeg) (uM_build tg ad mt d r y)) (va_cwS 2 hq (wA_S q_504 q_505 q_2 q_506) rfl rfl rfl (by decide +kernel) ⟨Nat.le_of_ble_eq_true rfl, Nat.le_of_ble_eq_true rfl⟩) ⟨fun a U g mk q => q, fun U hU hW => ⟨rfl, hU⟩⟩ rfl rfl hl.1 rfl (lv_room (Nat.le_of_ble_eq_true rfl)) dM_build_120 ⟨Nat.le_of_ble_eq_true rfl, Nat.le_of_ble_eq_true rfl⟩) hS (fun locs hS => ?_)
        refine va_calli (va_runV (C := "CapUnitModel") (b := q 0) (As := [.int d, .int (tM_build tg ad mt d r y), .int (ad y.toNatClampNeg), .int (fM_withType (mt y.toNatClampNeg) (uM_build tg ad mt d r y))]) (rest := []) ⟨hx, hb, hml, hown, hq⟩ (kM_set l d (tM_build tg ad mt d r y) (ad y.toNatClampNeg) (fM_withType (mt y.toNatClampNeg) (uM_build tg ad mt d r y)) g9.1 (btM_build tg ad mt d r y)) (cwV 4 hq (wA_V q_429 q_431 sM_set q_2 q_432) rfl rfl rfl (by decide +kernel) ⟨Nat.le_of_ble_eq_true rfl, Nat.le_of_ble_eq_true rfl⟩) (zw_pre (c := zCl[1]) (q0 := 0) hK hP hD rfl rfl) rfl rfl hl.1 rfl (lv_room (Nat.le_of_ble_eq_true rfl)) dM_build_123 ⟨Nat.le_of_ble_eq_true rfl, Nat.le_of_ble_eq_true rfl⟩) hS (fun _ _ h9 => h9) (fun _ h9 => h9) (fun v9 u9 t9 H locs ht9 hvm9 hv9 hB9 hz9 hk9 hS => ?_)
        obtain ⟨hP, -, hD⟩ := hB9
        rw [ht9] at hP
        subst hv9
        clear hz9 hk9
        have hX9 : xM_build tg ad mt d r y = 0 := by unfold xM_build; rw [if_neg h1]
        rw [if_pos hX9]
        refine W.widen (k := 1) (n := 3) (by decide) (by decide) ?_
        exact W.zret (v := zSr d (tM_build tg ad mt d r y)) hx hb hr (zz_nar (zSr_b (btM_build tg ad mt d r y))) (fun t9 ht hW => ⟨⟨_, (), rfl, (fun _ => (by unfold rM_build; rw [if_neg h1])), by rw [ht]; exact hP, va_K.moved hW.alike hK, hD⟩, hS.F ht⟩) hS.2.2 dM_build_126
      · refine lv_iload hx hb dM_build_103 (lv_at hl 1 rfl) ?_
        refine zc_i (va_runS (As := [.int (mt y.toNatClampNeg)]) (rest := [.int (mt y.toNatClampNeg), .int (ad y.toNatClampNeg), .int (tM_build tg ad mt d r y), .int d, .ref (q 0)]) ⟨hx, hb, hml, hown, hq⟩ (kM_type l H (mt y.toNatClampNeg)) (va_cwS 1 hq (wA_S q_474 q_475 q_2 q_476) rfl rfl rfl (by decide +kernel) ⟨Nat.le_of_ble_eq_true rfl, Nat.le_of_ble_eq_true rfl⟩) ⟨fun a U g mk q => q, fun U hU hW => ⟨rfl, hU⟩⟩ rfl rfl hl.1 rfl (lv_room (Nat.le_of_ble_eq_true rfl)) dM_build_105 ⟨Nat.le_of_ble_eq_true rfl, Nat.le_of_ble_eq_true rfl⟩) hS (fun locs hS => ?_)
        refine lv_bipush (v := 14) hx hb dM_build_108 (by decide) ?_
        refine lv_icmp_ne (tgt := 118) hx hb dM_build_110 rfl (fun h2 => ?_) (fun h2 => ?_)
        · refine lv_bipush (v := 15) hx hb dM_build_118 (by decide) ?_
          exact J9 _ _ (by unfold uM_build; rw [if_neg h2]) hS
        · refine lv_bipush (v := 14) hx hb dM_build_113 (by decide) ?_
          refine lv_goto (tgt := 120) hx hb dM_build_115 rfl ?_
          exact J9 _ _ (by unfold uM_build; rw [if_pos h2]) hS
    · refine lv_aload_n hx hb dM_build_32 rfl (lv_at hl 1 rfl) ?_
      refine va_get (D := D) (ci := 1) (v := .ref (q 1)) (C := "CapUnitModel") (T := TM) (N := 11) hx hb hq uM_in hown hK hP 0 rfl rfl 0 (by decide) (hq _ q_370) (fun _ h9 => h9) rfl dM_build_33 ?_
      refine lv_iload_n hx hb dM_build_36 rfl (lv_at hl 3 rfl) ?_
      refine va_zald hx hb hK hP 1 0 rfl rfl (i := r) g9.2.1 dM_build_37 ?_
      refine lv_if_eq (tgt := 88) hx hb dM_build_38 rfl (fun h3 => ?_) (fun h3 => ?_)
      · refine lv_iconst (v := 0) hx hb dM_build_88 (by decide) ?_
        exact J9 _ _ (by unfold tM_build; rw [if_pos h3]) hS
      · refine lv_aload_n hx hb dM_build_41 rfl (lv_at hl 1 rfl) ?_
        refine lv_iload_n hx hb dM_build_42 rfl (lv_at hl 3 rfl) ?_
        refine zc_i (va_runV (C := "CapUnitModel") (b := q 0) (As := [.int r]) (rest := []) ⟨hx, hb, hml, hown, hq⟩ (kM_isOpen l hP r g9.2.1) (cwV 1 hq (wA_V q_470 q_472 sM_isOpen q_2 q_473) rfl rfl rfl (by decide +kernel) ⟨Nat.le_of_ble_eq_true rfl, Nat.le_of_ble_eq_true rfl⟩) (zr_pre (c := zCl[1]) (q0 := 0) hK hP rfl rfl) rfl rfl hl.1 rfl (lv_room (Nat.le_of_ble_eq_true rfl)) dM_build_43 ⟨Nat.le_of_ble_eq_true rfl, Nat.le_of_ble_eq_true rfl⟩) hS (fun locs hS => ?_)
        refine lv_if_eq (tgt := 88) hx hb dM_build_46 rfl (fun h4 => ?_) (fun h4 => ?_)
        · refine lv_iconst (v := 0) hx hb dM_build_88 (by decide) ?_
          exact J9 _ _ (by unfold tM_build; rw [if_neg h3, if_pos h4]) hS
        · refine lv_iload hx hb dM_build_49 (lv_at hl 0 rfl) ?_
          refine lv_aload_n hx hb dM_build_51 rfl (lv_at hl 1 rfl) ?_
          refine va_get (D := D) (ci := 1) (v := .ref (q 2)) (C := "CapUnitModel") (T := TM) (N := 11) hx hb hq uM_in hown hK hP 0 rfl rfl 1 (by decide) (hq _ q_371) (fun _ h9 => h9) rfl dM_build_52 ?_
          refine lv_iload_n hx hb dM_build_55 rfl (lv_at hl 4 rfl) ?_
          refine va_iald hx hb hK hP 2 1 rfl rfl (i := y) g9.2.2 dM_build_56 ?_
          refine zc_l (va_runS (As := [.int (mt y.toNatClampNeg), .int (ad y.toNatClampNeg)]) (rest := []) ⟨hx, hb, hml, hown, hq⟩ (kM_base l H (mt y.toNatClampNeg) (ad y.toNatClampNeg)) (va_cwS 2 hq (wA_S q_433 q_434 q_2 q_435) rfl rfl rfl (by decide +kernel) ⟨Nat.le_of_ble_eq_true rfl, Nat.le_of_ble_eq_true rfl⟩) ⟨fun a U g mk q => q, fun U hU hW => ⟨rfl, hU⟩⟩ rfl rfl hl.1 rfl (lv_room (Nat.le_of_ble_eq_true rfl)) dM_build_57 ⟨Nat.le_of_ble_eq_true rfl, Nat.le_of_ble_eq_true rfl⟩) hS (fun locs hS => ?_)
          refine lv_iload hx hb dM_build_60 (lv_at hl 0 rfl) ?_
          refine lv_aload_n hx hb dM_build_62 rfl (lv_at hl 1 rfl) ?_
          refine va_get (D := D) (ci := 1) (v := .ref (q 2)) (C := "CapUnitModel") (T := TM) (N := 11) hx hb hq uM_in hown hK hP 0 rfl rfl 1 (by decide) (hq _ q_371) (fun _ h9 => h9) rfl dM_build_63 ?_
          refine lv_iload_n hx hb dM_build_66 rfl (lv_at hl 4 rfl) ?_
          refine va_iald hx hb hK hP 2 1 rfl rfl (i := y) g9.2.2 dM_build_67 ?_
          refine zc_l (va_runS (As := [.int (mt y.toNatClampNeg), .int (ad y.toNatClampNeg)]) (rest := [.long (fM_base (mt y.toNatClampNeg) (ad y.toNatClampNeg))]) ⟨hx, hb, hml, hown, hq⟩ (kM_top l H (mt y.toNatClampNeg) (ad y.toNatClampNeg)) (va_cwS 2 hq (wA_S q_451 q_452 q_2 q_453) rfl rfl rfl (by decide +kernel) ⟨Nat.le_of_ble_eq_true rfl, Nat.le_of_ble_eq_true rfl⟩) ⟨fun a U g mk q => q, fun U hU hW => ⟨rfl, hU⟩⟩ rfl rfl hl.1 rfl (lv_room (Nat.le_of_ble_eq_true rfl)) dM_build_68 ⟨Nat.le_of_ble_eq_true rfl, Nat.le_of_ble_eq_true rfl⟩) hS (fun locs hS => ?_)
          refine W.lcmp hx hb dM_build_71 ?_
          refine lv_if_gt (tgt := 88) hx hb dM_build_72 rfl (fun h5 => ?_) (fun h5 => ?_)
          · have h5 := (lg_cmp_gt _ _).mp h5
            refine lv_iconst (v := 0) hx hb dM_build_88 (by decide) ?_
            exact J9 _ _ (by unfold tM_build; rw [if_neg h3, if_neg h4, if_pos h5]) hS
          · have h5 := Not.imp h5 (lg_cmp_gt _ _).mpr
            refine lv_aload_n hx hb dM_build_75 rfl (lv_at hl 1 rfl) ?_
            refine lv_iload_n hx hb dM_build_76 rfl (lv_at hl 4 rfl) ?_
            refine lv_iload_n hx hb dM_build_77 rfl (lv_at hl 3 rfl) ?_
            refine zc_i (va_runV (C := "CapUnitModel") (b := q 0) (As := [.int y, .int r]) (rest := []) ⟨hx, hb, hml, hown, hq⟩ (kM_isWithin l hP y r g9.2.2 g9.2.1) (cwV 2 hq (wA_V q_520 q_522 sM_isWithin q_2 q_523) rfl rfl rfl (by decide +kernel) ⟨Nat.le_of_ble_eq_true rfl, Nat.le_of_ble_eq_true rfl⟩) (zr_pre (c := zCl[1]) (q0 := 0) hK hP rfl rfl) rfl rfl hl.1 rfl (lv_room (Nat.le_of_ble_eq_true rfl)) dM_build_78 ⟨Nat.le_of_ble_eq_true rfl, Nat.le_of_ble_eq_true rfl⟩) hS (fun locs hS => ?_)
            refine lv_if_eq (tgt := 88) hx hb dM_build_81 rfl (fun h6 => ?_) (fun h6 => ?_)
            · refine lv_iconst (v := 0) hx hb dM_build_88 (by decide) ?_
              exact J9 _ _ (by unfold tM_build; rw [if_neg h3, if_neg h4, if_neg h5, if_pos h6]) hS
            · refine lv_iconst (v := 1) hx hb dM_build_84 (by decide) ?_
              refine lv_goto (tgt := 89) hx hb dM_build_85 rfl ?_
              exact J9 _ _ (by unfold tM_build; rw [if_neg h3, if_neg h4, if_neg h5, if_neg h6]) hS
  · have e9 := zz_rb1 h1
    refine lv_iconst (v := 0) hx hb dM_build_22 (by decide) ?_
    have hX9 : xM_build tg ad mt d r y = zx3 d r y := by unfold xM_build; rw [if_pos h1]
    have hN9 : ¬ xM_build tg ad mt d r y = 0 := by rw [hX9]; exact e9
    rw [if_neg hN9, hX9]
    refine W.widen (k := 1) (n := 3) (by decide) (by decide) ?_
    exact W.zret (v := (0 : Int32)) hx hb hr (by decide) (fun t9 ht hW => ⟨⟨_, (), rfl, (fun h9 => absurd h9 e9), by rw [ht]; exact hP, va_K.moved hW.alike hK, hD⟩, hS.F ht⟩) hS.2.2 dM_build_23
def xM_subset (tg : Nat → Int32) (ad : Nat → Int32) (mt : Nat → Int32) (r : Int32) (y : Int32) : Int32 := if (zRb (zx2 r y)) = 0 then (zx2 r y) else (if (tg r.toNatClampNeg) = (tg y.toNatClampNeg) then (if (fM_isWithin tg ad mt y r) = 0 then 0 else 0) else 0)
def rM_subset (tg : Nat → Int32) (ad : Nat → Int32) (mt : Nat → Int32) (r : Int32) (y : Int32) : Int32 := if (zRb (zx2 r y)) = 0 then (0 : Int32) else (if (tg r.toNatClampNeg) = (tg y.toNatClampNeg) then (if (fM_isWithin tg ad mt y r) = 0 then (0 : Int32) else (1 : Int32)) else (0 : Int32))
set_option maxHeartbeats 4000000 in
set_option maxRecDepth 100000 in
theorem kM_subset (l : Launch) {D : va_G} {q : Nat → Nat} {k : Nat → ClassId} {tg : Nat → Int32} {ad : Nat → Int32} {mt : Nat → Int32} {rb : Nat → Int64} {rt : Nat → Int64} {rp : Nat → Int32} {nr : Int32} {th : Int32} {pk : Int32} {ex : Int32} {ro : Int64} {A : Nat → Prop} (sz : Nat) (hA0 : ∀ q, sz ≤ q → A q) (r : Int32) (y : Int32) : Met l yM_subset wM_subset { frames := 5, cells := 1, slots := 2, locals := 121 } (va_Pc [.ref (q 0), .int r, .int y] (fun U => U.heap.size = sz ∧ va_P D zCl (mW q k tg ad mt rb rt rp nr th pk ex ro) U.heap ∧ va_K D zCl (zT k) U ∧ va_D A (mW q k tg ad mt rb rt rp nr th pk ex ro))) (va_Qi (fun v9 (_ : Unit) => xM_subset tg ad mt r y = 0 → v9 = rM_subset tg ad mt r y) (fun _ t => va_P D zCl (if xM_subset tg ad mt r y = 0 then mW q k tg ad mt rb rt rp nr 0 pk ex ro else mW q k tg ad mt rb rt rp nr (xM_subset tg ad mt r y) pk ex ro) t.heap ∧ va_K D zCl (zT k) t ∧ va_D A (if xM_subset tg ad mt r y = 0 then mW q k tg ad mt rb rt rp nr 0 pk ex ro else mW q k tg ad mt rb rt rp nr (xM_subset tg ad mt r y) pk ex ro)) A) 1 2 A := by
  refine Met.ofW (cc := cM_subset) (maxL := 3) (ret := (some .boolean)) (by decide) rfl ?_
  intro p e s m args below meth c s₁ B hml hv
  obtain ⟨rfl, hsz, hP, hK, hD⟩ := hv
  have hx := B.exec
  have hb := B.bytes
  have hr := B.returns
  have hts := atoms_spec (ws := wM_subset) B.pre
  have hq : ∀ w ∈ wA, w.before _ s = true := fun w h => hts w (List.mem_cons_of_mem _ h)
  have hown : s.vm.findClass "CapUnitModel" = some m.cls := findClass_of_methodNamed B.named
  have hlocks := B.notSynchronized
  have hS : va_S A s.heap s.heap [] := va_S.rf
  have hl := lv_entry ([.ref (q 0), .int r, .int y]) (n := 3) (Nat.le_of_ble_eq_true rfl)
  rw [lg_entry_eq]
  generalize (lg_sl ([.ref (q 0), .int r, .int y]) ++ List.replicate (3 - (lg_sl ([.ref (q 0), .int r, .int y])).length) Slot.unset).toArray = ls at hl ⊢
  have hl : lv_has ls 3 [(0, .ref (q 0)), (1, .int r), (2, .int y)] := hl
  have hA : ∀ q, s.heap.size ≤ q → A q := fun q h => hA0 q (by omega)
  refine lv_aload_n hx hb dM_subset_0 rfl (lv_at hl 0 rfl) ?_
  refine lv_iconst (v := 2) hx hb dM_subset_1 (by decide) ?_
  refine zn_i hx hb (hq _ q_42) hK hP hD hS hA (N' := 2) (by decide) (by decide) (by decide) (Nat.le_of_ble_eq_true rfl) (Nat.le_of_ble_eq_true rfl) dM_subset_2 (fun a2 H hP hD hS => ?_)
  refine lv_dup hx hb dM_subset_4 rfl ?_
  refine lv_iconst (v := 0) hx hb dM_subset_5 (by decide) ?_
  refine lv_iload_n hx hb dM_subset_6 rfl (lv_at hl 1 rfl) ?_
  refine va_iast hx hb hK hP hD hS 7 1 rfl rfl (show ¬ ((0 : Int32) < 0 ∨ 2 ≤ (0 : Int32).toNatClampNeg) by decide) dM_subset_7 (fun H locs hP hD hS => ?_)
  have hP : va_P D zCl (mW q k tg ad mt rb rt rp nr th pk ex ro ++ [(a2, .inl (k 1, 2, .inl (upd (fun _ => (0 : Int32)) 0 r)))]) H := hP
  have hD : va_D A (mW q k tg ad mt rb rt rp nr th pk ex ro ++ [(a2, .inl (k 1, 2, .inl (upd (fun _ => (0 : Int32)) 0 r)))]) := hD
  refine lv_dup hx hb dM_subset_8 rfl ?_
  refine lv_iconst (v := 1) hx hb dM_subset_9 (by decide) ?_
  refine lv_iload_n hx hb dM_subset_10 rfl (lv_at hl 2 rfl) ?_
  refine va_iast hx hb hK hP hD hS 7 1 rfl rfl (show ¬ ((1 : Int32) < 0 ∨ 2 ≤ (1 : Int32).toNatClampNeg) by decide) dM_subset_11 (fun H locs hP hD hS => ?_)
  have hP : va_P D zCl (mW q k tg ad mt rb rt rp nr th pk ex ro ++ [(a2, .inl (k 1, 2, .inl (upd (upd (fun _ => (0 : Int32)) 0 r) 1 y)))]) H := hP
  have hD : va_D A (mW q k tg ad mt rb rt rp nr th pk ex ro ++ [(a2, .inl (k 1, 2, .inl (upd (upd (fun _ => (0 : Int32)) 0 r) 1 y)))]) := hD
  refine va_calli (va_runV (C := "CapUnitModel") (b := q 0) (As := [.ref a2]) (rest := []) ⟨hx, hb, hml, hown, hq⟩ (kM_is2 l a2 r y) (cwV 1 hq (wA_V q_462 q_464 sM_is q_2 q_465) rfl rfl rfl (by decide +kernel) ⟨Nat.le_of_ble_eq_true rfl, Nat.le_of_ble_eq_true rfl⟩) (zw_pre (c := zCl[1]) (q0 := 0) hK hP hD rfl rfl) rfl rfl hl.1 rfl (lv_room (Nat.le_of_ble_eq_true rfl)) dM_subset_12 ⟨Nat.le_of_ble_eq_true rfl, Nat.le_of_ble_eq_true rfl⟩) hS (fun _ _ h9 => h9) (fun _ h9 => h9) (fun v9 u9 t9 H locs ht9 hvm9 hv9 hB9 hz9 hk9 hS => ?_)
  obtain ⟨hP, -, hD⟩ := hB9
  rw [ht9] at hP
  subst hv9
  clear hz9 hk9
  refine lv_if_eq (tgt := 46) hx hb dM_subset_15 rfl (fun h1 => ?_) (fun h1 => ?_)
  · have e9 := zz_rb1 h1
    refine lv_iconst (v := 0) hx hb dM_subset_46 (by decide) ?_
    have hX9 : xM_subset tg ad mt r y = zx2 r y := by unfold xM_subset; rw [if_pos h1]
    have hN9 : ¬ xM_subset tg ad mt r y = 0 := by rw [hX9]; exact e9
    rw [if_neg hN9, hX9]
    refine W.widen (k := 1) (n := 2) (by decide) (by decide) ?_
    exact W.zret (v := (0 : Int32)) hx hb hr (by decide) (fun t9 ht hW => ⟨⟨_, (), rfl, (fun h9 => absurd h9 e9), by rw [ht]; exact hP, va_K.moved hW.alike hK, hD⟩, hS.F ht⟩) hS.2.2 dM_subset_47
  · have e9 := zz_rb0 h1
    rw [e9] at hP hD
    have g9 := zz_x2 e9
    refine lv_aload_n hx hb dM_subset_18 rfl (lv_at hl 0 rfl) ?_
    refine va_get (D := D) (ci := 1) (v := .ref (q 1)) (C := "CapUnitModel") (T := TM) (N := 11) hx hb hq uM_in hown hK hP 0 rfl rfl 0 (by decide) (hq _ q_370) (fun _ h9 => h9) rfl dM_subset_19 ?_
    refine lv_iload_n hx hb dM_subset_22 rfl (lv_at hl 1 rfl) ?_
    refine va_zald hx hb hK hP 1 0 rfl rfl (i := r) g9.1 dM_subset_23 ?_
    refine lv_aload_n hx hb dM_subset_24 rfl (lv_at hl 0 rfl) ?_
    refine va_get (D := D) (ci := 1) (v := .ref (q 1)) (C := "CapUnitModel") (T := TM) (N := 11) hx hb hq uM_in hown hK hP 0 rfl rfl 0 (by decide) (hq _ q_370) (fun _ h9 => h9) rfl dM_subset_25 ?_
    refine lv_iload_n hx hb dM_subset_28 rfl (lv_at hl 2 rfl) ?_
    refine va_zald hx hb hK hP 1 0 rfl rfl (i := y) g9.2 dM_subset_29 ?_
    refine lv_icmp_ne (tgt := 46) hx hb dM_subset_30 rfl (fun h2 => ?_) (fun h2 => ?_)
    · refine lv_iconst (v := 0) hx hb dM_subset_46 (by decide) ?_
      have hX9 : xM_subset tg ad mt r y = 0 := by unfold xM_subset; rw [if_neg h1, if_neg h2]
      rw [if_pos hX9]
      refine W.widen (k := 1) (n := 2) (by decide) (by decide) ?_
      exact W.zret (v := (0 : Int32)) hx hb hr (by decide) (fun t9 ht hW => ⟨⟨_, (), rfl, (fun _ => (by unfold rM_subset; rw [if_neg h1, if_neg h2])), by rw [ht]; exact hP, va_K.moved hW.alike hK, hD⟩, hS.F ht⟩) hS.2.2 dM_subset_47
    · refine lv_aload_n hx hb dM_subset_33 rfl (lv_at hl 0 rfl) ?_
      refine lv_iload_n hx hb dM_subset_34 rfl (lv_at hl 2 rfl) ?_
      refine lv_iload_n hx hb dM_subset_35 rfl (lv_at hl 1 rfl) ?_
      refine zc_i (va_runV (C := "CapUnitModel") (b := q 0) (As := [.int y, .int r]) (rest := []) ⟨hx, hb, hml, hown, hq⟩ (kM_isWithin l hP y r g9.2 g9.1) (cwV 2 hq (wA_V q_520 q_522 sM_isWithin q_2 q_523) rfl rfl rfl (by decide +kernel) ⟨Nat.le_of_ble_eq_true rfl, Nat.le_of_ble_eq_true rfl⟩) (zr_pre (c := zCl[1]) (q0 := 0) hK hP rfl rfl) rfl rfl hl.1 rfl (lv_room (Nat.le_of_ble_eq_true rfl)) dM_subset_36 ⟨Nat.le_of_ble_eq_true rfl, Nat.le_of_ble_eq_true rfl⟩) hS (fun locs hS => ?_)
      refine lv_if_eq (tgt := 46) hx hb dM_subset_39 rfl (fun h3 => ?_) (fun h3 => ?_)
      · refine lv_iconst (v := 0) hx hb dM_subset_46 (by decide) ?_
        have hX9 : xM_subset tg ad mt r y = 0 := by unfold xM_subset; rw [if_neg h1, if_pos h2, if_pos h3]
        rw [if_pos hX9]
        refine W.widen (k := 1) (n := 2) (by decide) (by decide) ?_
        exact W.zret (v := (0 : Int32)) hx hb hr (by decide) (fun t9 ht hW => ⟨⟨_, (), rfl, (fun _ => (by unfold rM_subset; rw [if_neg h1, if_pos h2, if_pos h3])), by rw [ht]; exact hP, va_K.moved hW.alike hK, hD⟩, hS.F ht⟩) hS.2.2 dM_subset_47
      · refine lv_iconst (v := 1) hx hb dM_subset_42 (by decide) ?_
        refine lv_goto (tgt := 47) hx hb dM_subset_43 rfl ?_
        have hX9 : xM_subset tg ad mt r y = 0 := by unfold xM_subset; rw [if_neg h1, if_pos h2, if_neg h3]
        rw [if_pos hX9]
        refine W.widen (k := 1) (n := 2) (by decide) (by decide) ?_
        exact W.zret (v := (1 : Int32)) hx hb hr (by decide) (fun t9 ht hW => ⟨⟨_, (), rfl, (fun _ => (by unfold rM_subset; rw [if_neg h1, if_pos h2, if_neg h3])), by rw [ht]; exact hP, va_K.moved hW.alike hK, hD⟩, hS.F ht⟩) hS.2.2 dM_subset_47
