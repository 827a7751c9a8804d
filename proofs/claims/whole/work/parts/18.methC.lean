/-! The class's public methods: each returns, or throws with the world as it was. -/
def zE (E : String) (x : Int32) : Prop := (E = xIO ∧ x = 1) ∨ (E = xIA ∧ x = 2) ∨ (E = xIS ∧ x = 3)
def zE1 (E : String) (x : Int32) : Prop := E = xIA ∧ x = 1
theorem zz_sw8 {y : Int32} (h0 : ¬ y = (0 : Int32)) (h1 : ¬ y = (1 : Int32)) (h2 : ¬ y = (2 : Int32)) (h3 : ¬ y = (3 : Int32)) (h4 : ¬ y = (4 : Int32)) (h5 : ¬ y = (5 : Int32)) (h6 : ¬ y = (6 : Int32)) (h7 : ¬ y = (7 : Int32)) : y.toInt < 0 ∨ 7 < y.toInt := by
  rw [← Int32.toInt_inj] at h0 h1 h2 h3 h4 h5 h6 h7
  have e0 : (0 : Int32).toInt = 0 := by decide
  have e1 : (1 : Int32).toInt = 1 := by decide
  have e2 : (2 : Int32).toInt = 2 := by decide
  have e3 : (3 : Int32).toInt = 3 := by decide
  have e4 : (4 : Int32).toInt = 4 := by decide
  have e5 : (5 : Int32).toInt = 5 := by decide
  have e6 : (6 : Int32).toInt = 6 := by decide
  have e7 : (7 : Int32).toInt = 7 := by decide
  omega
theorem zz_fit {v : Int32} (h : v = 0 ∨ v = 1) : fits .boolean (.int v) = true := by
  rcases h with rfl | rfl <;> rfl

def xC_put (tg : Nat → Int32) (ad : Nat → Int32) (mt : Nat → Int32) (d : Int32) (a : Int32) (z : Int32) : Int32 := if (fC_isRegister d) = 0 then 1 else 0
set_option maxHeartbeats 4000000 in
set_option maxRecDepth 100000 in
theorem kC_put (l : Launch) (hl0 : l.stackTraces = false) {D : va_G} {q : Nat → Nat} {k : Nat → ClassId} {tg : Nat → Int32} {ad : Nat → Int32} {mt : Nat → Int32} {rb : Nat → Int64} {rt : Nat → Int64} {rp : Nat → Int32} {nr : Int32} {A : Nat → Prop} (d : Int32) (a : Int32) (z : Int32) : vx_Met l yC_put wC_put { frames := 6, cells := 1, slots := 6, locals := 82 } (va_Pc [.ref (q 0), .int d, .int a, .int z] (fun U => va_P D zCl (cW q k tg ad mt rb rt rp nr) U.heap ∧ va_K D zCl (zT k) U ∧ va_D A (cW q k tg ad mt rb rt rp nr) ∧ zX A U U.heap)) (va_Qv (fun (_ : Unit) => xC_put tg ad mt d a z = 0) (fun _ t => va_P D zCl (cW q k (zS d (0 : Int32) tg) (zS d a ad) (zS d (z ^^^ (1000194 : Int32)) mt) rb rt rp nr) t.heap ∧ va_K D zCl (zT k) t ∧ va_D A (cW q k (zS d (0 : Int32) tg) (zS d a ad) (zS d (z ^^^ (1000194 : Int32)) mt) rb rt rp nr)) A) (vx_X (fun _ : Unit => True) (fun E _ t => zE E (xC_put tg ad mt d a z) ∧ va_P D zCl (cW q k tg ad mt rb rt rp nr) t.heap ∧ va_K D zCl (zT k) t) A) 1 6 A := by
  refine vx_ofW (cc := cC_put) (maxL := 4) (ret := none) (by decide) rfl ?_
  intro p e s m args below meth c s₁ B hml hnt hv
  obtain ⟨rfl, hP, hK, hD, hX⟩ := hv
  have hx := B.exec
  have hb := B.bytes
  have hr := B.returns
  have hts := atoms_spec (ws := wC_put) B.pre
  have hq : ∀ w ∈ wA, w.before _ s = true := fun w h => hts w (List.mem_cons_of_mem _ h)
  have hown : s.vm.findClass "CapUnit" = some m.cls := findClass_of_methodNamed B.named
  have hlocks := B.notSynchronized
  have hS : va_S A s.heap s.heap [] := va_S.rf
  have hl := lv_entry ([.ref (q 0), .int d, .int a, .int z]) (n := 4) (Nat.le_of_ble_eq_true rfl)
  rw [lg_entry_eq]
  generalize (lg_sl ([.ref (q 0), .int d, .int a, .int z]) ++ List.replicate (4 - (lg_sl ([.ref (q 0), .int d, .int a, .int z])).length) Slot.unset).toArray = ls at hl ⊢
  have hl : lv_has ls 4 [(0, .ref (q 0)), (1, .int d), (2, .int a), (3, .int z)] := hl
  refine lv_iload_n hx hb dC_put_0 rfl (lv_at hl 1 rfl) ?_
  refine zc_i (va_runS (As := [.int d]) (rest := []) ⟨hx, hb, hml, hown, hq⟩ (kC_isRegister l s.heap d) (va_cwS 1 hq (wA_S q_243 q_244 q_1 q_245) rfl rfl rfl (by decide +kernel) ⟨Nat.le_of_ble_eq_true rfl, Nat.le_of_ble_eq_true rfl⟩) ⟨fun a U g mk q => q, fun U hU hW => ⟨rfl, hU⟩⟩ rfl rfl hl.1 rfl (lv_room (Nat.le_of_ble_eq_true rfl)) dC_put_1 ⟨Nat.zero_le _, Nat.zero_le _⟩) hS (fun locs hS => ?_)
  refine lv_if_ne (tgt := 17) hx hb dC_put_4 rfl (fun h1 => ?_) (fun h1 => ?_)
  · have gd := zz_reg h1
    refine lv_aload_n hx hb dC_put_17 rfl (lv_at hl 0 rfl) ?_
    refine lv_iload_n hx hb dC_put_18 rfl (lv_at hl 1 rfl) ?_
    refine lv_iconst (v := 0) hx hb dC_put_19 (by decide) ?_
    refine lv_iload_n hx hb dC_put_20 rfl (lv_at hl 2 rfl) ?_
    refine lv_iload_n hx hb dC_put_21 rfl (lv_at hl 3 rfl) ?_
    refine lv_ldc (v := 1000194) hx hb hown (hts (.constant "CapUnit" 20 1000194) (by decide +kernel)) dC_put_22 ?_
    refine lv_ixor hx hb dC_put_24 ?_
    refine va_calli (va_runV (C := "CapUnit") (b := q 0) (As := [.int d, .int (0 : Int32), .int a, .int (z ^^^ (1000194 : Int32))]) (rest := []) ⟨hx, hb, hml, hown, hq⟩ (kC_become l d (0 : Int32) a (z ^^^ (1000194 : Int32)) gd (Or.inl rfl)) (cwV 4 hq (wA_V q_232 q_234 sC_become q_1 q_235) rfl rfl rfl (by decide +kernel) ⟨Nat.le_of_ble_eq_true rfl, Nat.le_of_ble_eq_true rfl⟩) (zw_pre (c := zCl[0]) (q0 := 0) hK hP hD rfl rfl) rfl rfl hl.1 rfl (lv_room (Nat.le_of_ble_eq_true rfl)) dC_put_25 ⟨Nat.le_of_ble_eq_true rfl, Nat.le_of_ble_eq_true rfl⟩) hS (fun _ _ h9 => h9) (fun _ h9 => h9) (fun v9 u9 t9 H locs ht9 hvm9 hv9 hB9 hz9 hk9 hS => ?_)
    obtain ⟨hP, -, hD⟩ := hB9
    rw [ht9] at hP
    subst hv9
    clear hz9 hk9
    refine lv_pop hx hb dC_put_28 rfl ?_
    refine vx_ret (W.widen (k := 1) (n := 6) (by decide) (by decide) ?_)
    exact W.vret hx hb hr (fun t9 ht hW => ⟨⟨(), rfl, (by unfold xC_put; rw [if_neg h1]), by rw [ht]; exact hP, va_K.moved hW.alike hK, hD⟩, hS.F ht⟩) hS.2.2 dC_put_29
  · exact vx_throwS (rest := []) (names := xUp) (A := A) hx hb hl0 hown (by decide +kernel) (by decide +kernel) (hq _ q_109) (hq _ q_6) hX.2.2.2.2.2.2.2.1.choose_spec (x_all hq x_good39 x_bad39 hX.2.1.1 hX.2.2.2.1.1 hX.2.2.2.1.2.1 hX.2.2.2.1.2.2) x_ot39 hX.1.1 hX.1.2 hS (hl.1.trans hml.symm) dC_put_7 dC_put_10 dC_put_11 dC_put_13 dC_put_16 (fun x h9 => (hnt x h9).elim) (Nat.le_of_ble_eq_true rfl) (Nat.le_of_ble_eq_true rfl) (Nat.le_of_ble_eq_true rfl) (Nat.le_of_ble_eq_true rfl) hlocks (fun t9 ha hz hk9 => ⟨(), trivial, ⟨Or.inl ⟨rfl, (by unfold xC_put; rw [if_pos h1])⟩, hP.kept (fun _ q9 hq9 => hk9 q9.1 (vx_lt hP hq9)), va_K.moved ha hK⟩, hz, fun q9 h1 _ => hk9 q9 h1⟩) hS.2.2 (by decide) (by decide)
def xC_keep (tg : Nat → Int32) (ad : Nat → Int32) (mt : Nat → Int32) (d : Int32) (r : Int32) (y : Int32) : Int32 := if (fC_isRegister r) = 0 then 1 else (if (fC_isRegister d) = 0 then 1 else 0)
set_option maxHeartbeats 4000000 in
set_option maxRecDepth 100000 in
theorem kC_keep (l : Launch) (hl0 : l.stackTraces = false) {D : va_G} {q : Nat → Nat} {k : Nat → ClassId} {tg : Nat → Int32} {ad : Nat → Int32} {mt : Nat → Int32} {rb : Nat → Int64} {rt : Nat → Int64} {rp : Nat → Int32} {nr : Int32} {A : Nat → Prop} (d : Int32) (r : Int32) (y : Int32) : vx_Met l yC_keep wC_keep { frames := 6, cells := 1, slots := 6, locals := 82 } (va_Pc [.ref (q 0), .int d, .int r, .int y] (fun U => va_P D zCl (cW q k tg ad mt rb rt rp nr) U.heap ∧ va_K D zCl (zT k) U ∧ va_D A (cW q k tg ad mt rb rt rp nr) ∧ zX A U U.heap)) (va_Qi (fun v9 (_ : Unit) => xC_keep tg ad mt d r y = 0 ∧ v9 = zSr d (fC_isOpenWithTag tg ad mt r)) (fun _ t => va_P D zCl (cW q k (zS d (fC_isOpenWithTag tg ad mt r) tg) (zS d (ad r.toNatClampNeg) ad) (zS d ((mt r.toNatClampNeg) &&& (((y ^^^ (-1 : Int32)) <<< ((20 : Int32) &&& 31)) ^^^ (-1 : Int32))) mt) rb rt rp nr) t.heap ∧ va_K D zCl (zT k) t ∧ va_D A (cW q k (zS d (fC_isOpenWithTag tg ad mt r) tg) (zS d (ad r.toNatClampNeg) ad) (zS d ((mt r.toNatClampNeg) &&& (((y ^^^ (-1 : Int32)) <<< ((20 : Int32) &&& 31)) ^^^ (-1 : Int32))) mt) rb rt rp nr)) A) (vx_X (fun _ : Unit => True) (fun E _ t => zE E (xC_keep tg ad mt d r y) ∧ va_P D zCl (cW q k tg ad mt rb rt rp nr) t.heap ∧ va_K D zCl (zT k) t) A) 1 6 A := by
  refine vx_ofW (cc := cC_keep) (maxL := 5) (ret := (some .boolean)) (by decide) rfl ?_
  intro p e s m args below meth c s₁ B hml hnt hv
  obtain ⟨rfl, hP, hK, hD, hX⟩ := hv
  have hx := B.exec
  have hb := B.bytes
  have hr := B.returns
  have hts := atoms_spec (ws := wC_keep) B.pre
  have hq : ∀ w ∈ wA, w.before _ s = true := fun w h => hts w (List.mem_cons_of_mem _ h)
  have hown : s.vm.findClass "CapUnit" = some m.cls := findClass_of_methodNamed B.named
  have hlocks := B.notSynchronized
  have hS : va_S A s.heap s.heap [] := va_S.rf
  have hl := lv_entry ([.ref (q 0), .int d, .int r, .int y]) (n := 5) (Nat.le_of_ble_eq_true rfl)
  rw [lg_entry_eq]
  generalize (lg_sl ([.ref (q 0), .int d, .int r, .int y]) ++ List.replicate (5 - (lg_sl ([.ref (q 0), .int d, .int r, .int y])).length) Slot.unset).toArray = ls at hl ⊢
  have hl : lv_has ls 5 [(0, .ref (q 0)), (1, .int d), (2, .int r), (3, .int y)] := hl
  refine lv_iload_n hx hb dC_keep_0 rfl (lv_at hl 2 rfl) ?_
  refine zc_i (va_runS (As := [.int r]) (rest := []) ⟨hx, hb, hml, hown, hq⟩ (kC_isRegister l s.heap r) (va_cwS 1 hq (wA_S q_243 q_244 q_1 q_245) rfl rfl rfl (by decide +kernel) ⟨Nat.le_of_ble_eq_true rfl, Nat.le_of_ble_eq_true rfl⟩) ⟨fun a U g mk q => q, fun U hU hW => ⟨rfl, hU⟩⟩ rfl rfl hl.1 rfl (lv_room (Nat.le_of_ble_eq_true rfl)) dC_keep_1 ⟨Nat.zero_le _, Nat.zero_le _⟩) hS (fun locs hS => ?_)
  refine lv_if_eq (tgt := 14) hx hb dC_keep_4 rfl (fun h1 => ?_) (fun h1 => ?_)
  · exact vx_throwS (rest := []) (names := xUp) (A := A) hx hb hl0 hown (by decide +kernel) (by decide +kernel) (hq _ q_109) (hq _ q_6) hX.2.2.2.2.2.2.2.1.choose_spec (x_all hq x_good39 x_bad39 hX.2.1.1 hX.2.2.2.1.1 hX.2.2.2.1.2.1 hX.2.2.2.1.2.2) x_ot39 hX.1.1 hX.1.2 hS (hl.1.trans hml.symm) dC_keep_14 dC_keep_17 dC_keep_18 dC_keep_20 dC_keep_23 (fun x h9 => (hnt x h9).elim) (Nat.le_of_ble_eq_true rfl) (Nat.le_of_ble_eq_true rfl) (Nat.le_of_ble_eq_true rfl) (Nat.le_of_ble_eq_true rfl) hlocks (fun t9 ha hz hk9 => ⟨(), trivial, ⟨Or.inl ⟨rfl, (by unfold xC_keep; rw [if_pos h1])⟩, hP.kept (fun _ q9 hq9 => hk9 q9.1 (vx_lt hP hq9)), va_K.moved ha hK⟩, hz, fun q9 h1 _ => hk9 q9 h1⟩) hS.2.2 (by decide) (by decide)
  · have gr := zz_reg h1
    refine lv_iload_n hx hb dC_keep_7 rfl (lv_at hl 1 rfl) ?_
    refine zc_i (va_runS (As := [.int d]) (rest := []) ⟨hx, hb, hml, hown, hq⟩ (kC_isRegister l s.heap d) (va_cwS 1 hq (wA_S q_243 q_244 q_1 q_245) rfl rfl rfl (by decide +kernel) ⟨Nat.le_of_ble_eq_true rfl, Nat.le_of_ble_eq_true rfl⟩) ⟨fun a U g mk q => q, fun U hU hW => ⟨rfl, hU⟩⟩ rfl rfl hl.1 rfl (lv_room (Nat.le_of_ble_eq_true rfl)) dC_keep_8 ⟨Nat.zero_le _, Nat.zero_le _⟩) hS (fun locs hS => ?_)
    refine lv_if_ne (tgt := 24) hx hb dC_keep_11 rfl (fun h2 => ?_) (fun h2 => ?_)
    · have gd := zz_reg h2
      refine lv_iload_n hx hb dC_keep_24 rfl (lv_at hl 3 rfl) ?_
      refine lv_iconst (v := -1) hx hb dC_keep_25 (by decide) ?_
      refine lv_ixor hx hb dC_keep_26 ?_
      refine lv_bipush (v := 20) hx hb dC_keep_27 (by decide) ?_
      refine lv_ishl hx hb dC_keep_29 ?_
      refine lv_istore (lv' := [(4, .int ((y ^^^ (-1 : Int32)) <<< ((20 : Int32) &&& 31))), (0, .ref (q 0)), (1, .int d), (2, .int r), (3, .int y)]) hx hb dC_keep_30 hl (by decide) rfl (fun ls hl => ?_)
      refine lv_aload_n hx hb dC_keep_32 rfl (lv_at hl 1 rfl) ?_
      refine lv_iload_n hx hb dC_keep_33 rfl (lv_at hl 2 rfl) ?_
      refine lv_aload_n hx hb dC_keep_34 rfl (lv_at hl 1 rfl) ?_
      refine lv_iload_n hx hb dC_keep_35 rfl (lv_at hl 3 rfl) ?_
      refine zc_i (va_runV (C := "CapUnit") (b := q 0) (As := [.int r]) (rest := [.int d, .ref (q 0)]) ⟨hx, hb, hml, hown, hq⟩ (kC_isOpenWithTag l hP r gr) (cwV 1 hq (wA_V q_257 q_259 sC_isOpenWithTag q_1 q_260) rfl rfl rfl (by decide +kernel) ⟨Nat.le_of_ble_eq_true rfl, Nat.le_of_ble_eq_true rfl⟩) (zr_pre (c := zCl[0]) (q0 := 0) hK hP rfl rfl) rfl rfl hl.1 rfl (lv_room (Nat.le_of_ble_eq_true rfl)) dC_keep_36 ⟨Nat.le_of_ble_eq_true rfl, Nat.le_of_ble_eq_true rfl⟩) hS (fun locs hS => ?_)
      refine lv_aload_n hx hb dC_keep_39 rfl (lv_at hl 1 rfl) ?_
      refine va_get (D := D) (ci := 0) (v := .ref (q 2)) (C := "CapUnit") (T := TC) (N := 7) hx hb hq uC_in hown hK hP 0 rfl rfl 1 (by decide) (hq _ q_20) (fun _ h9 => h9) rfl dC_keep_40 ?_
      refine lv_iload_n hx hb dC_keep_43 rfl (lv_at hl 3 rfl) ?_
      refine va_iald hx hb hK hP 2 1 rfl rfl (i := r) gr dC_keep_44 ?_
      refine lv_aload_n hx hb dC_keep_45 rfl (lv_at hl 1 rfl) ?_
      refine va_get (D := D) (ci := 0) (v := .ref (q 3)) (C := "CapUnit") (T := TC) (N := 7) hx hb hq uC_in hown hK hP 0 rfl rfl 2 (by decide) (hq _ q_21) (fun _ h9 => h9) rfl dC_keep_46 ?_
      refine lv_iload_n hx hb dC_keep_49 rfl (lv_at hl 3 rfl) ?_
      refine va_iald hx hb hK hP 3 1 rfl rfl (i := r) gr dC_keep_50 ?_
      refine lv_iload hx hb dC_keep_51 (lv_at hl 0 rfl) ?_
      refine lv_iconst (v := -1) hx hb dC_keep_53 (by decide) ?_
      refine lv_ixor hx hb dC_keep_54 ?_
      refine lv_iand hx hb dC_keep_55 ?_
      refine va_calli (va_runV (C := "CapUnit") (b := q 0) (As := [.int d, .int (fC_isOpenWithTag tg ad mt r), .int (ad r.toNatClampNeg), .int ((mt r.toNatClampNeg) &&& (((y ^^^ (-1 : Int32)) <<< ((20 : Int32) &&& 31)) ^^^ (-1 : Int32)))]) (rest := []) ⟨hx, hb, hml, hown, hq⟩ (kC_become l d (fC_isOpenWithTag tg ad mt r) (ad r.toNatClampNeg) ((mt r.toNatClampNeg) &&& (((y ^^^ (-1 : Int32)) <<< ((20 : Int32) &&& 31)) ^^^ (-1 : Int32))) gd (bC_isOpenWithTag tg ad mt r)) (cwV 4 hq (wA_V q_232 q_234 sC_become q_1 q_235) rfl rfl rfl (by decide +kernel) ⟨Nat.le_of_ble_eq_true rfl, Nat.le_of_ble_eq_true rfl⟩) (zw_pre (c := zCl[0]) (q0 := 0) hK hP hD rfl rfl) rfl rfl hl.1 rfl (lv_room (Nat.le_of_ble_eq_true rfl)) dC_keep_56 ⟨Nat.le_of_ble_eq_true rfl, Nat.le_of_ble_eq_true rfl⟩) hS (fun _ _ h9 => h9) (fun _ h9 => h9) (fun v9 u9 t9 H locs ht9 hvm9 hv9 hB9 hz9 hk9 hS => ?_)
      obtain ⟨hP, -, hD⟩ := hB9
      rw [ht9] at hP
      subst hv9
      clear hz9 hk9
      refine vx_ret (W.widen (k := 1) (n := 6) (by decide) (by decide) ?_)
      exact W.zret (v := zSr d (fC_isOpenWithTag tg ad mt r)) hx hb hr (zz_nar (zSr_b (bC_isOpenWithTag tg ad mt r))) (fun t9 ht hW => ⟨⟨_, (), rfl, ⟨(by unfold xC_keep; rw [if_neg h1, if_neg h2]), (rfl)⟩, by rw [ht]; exact hP, va_K.moved hW.alike hK, hD⟩, hS.F ht⟩) hS.2.2 dC_keep_59
    · exact vx_throwS (rest := []) (names := xUp) (A := A) hx hb hl0 hown (by decide +kernel) (by decide +kernel) (hq _ q_109) (hq _ q_6) hX.2.2.2.2.2.2.2.1.choose_spec (x_all hq x_good39 x_bad39 hX.2.1.1 hX.2.2.2.1.1 hX.2.2.2.1.2.1 hX.2.2.2.1.2.2) x_ot39 hX.1.1 hX.1.2 hS (hl.1.trans hml.symm) dC_keep_14 dC_keep_17 dC_keep_18 dC_keep_20 dC_keep_23 (fun x h9 => (hnt x h9).elim) (Nat.le_of_ble_eq_true rfl) (Nat.le_of_ble_eq_true rfl) (Nat.le_of_ble_eq_true rfl) (Nat.le_of_ble_eq_true rfl) hlocks (fun t9 ha hz hk9 => ⟨(), trivial, ⟨Or.inl ⟨rfl, (by unfold xC_keep; rw [if_neg h1, if_pos h2])⟩, hP.kept (fun _ q9 hq9 => hk9 q9.1 (vx_lt hP hq9)), va_K.moved ha hK⟩, hz, fun q9 h1 _ => hk9 q9 h1⟩) hS.2.2 (by decide) (by decide)
def tC_narrow (tg : Nat → Int32) (ad : Nat → Int32) (mt : Nat → Int32) (d : Int32) (r : Int32) (n : Int32) (y : Int32) : Int32 := if (fC_isOpenWithTag tg ad mt r) = 0 then (0 : Int32) else (if (fC_isInBounds tg ad mt r (fC_unsigned (ad r.toNatClampNeg)) (fC_unsigned n)) = 0 then (0 : Int32) else (if y = 0 then (1 : Int32) else (if ((fC_packed (fC_unsigned (ad r.toNatClampNeg)) (if (4294967296 : Int64) < ((fC_unsigned (ad r.toNatClampNeg)) + (fC_unsigned n)) then (4294967296 : Int64) else ((fC_unsigned (ad r.toNatClampNeg)) + (fC_unsigned n)))) &&& (32768 : Int32)) = 0 then (0 : Int32) else (1 : Int32))))
theorem btC_narrow (tg : Nat → Int32) (ad : Nat → Int32) (mt : Nat → Int32) (d : Int32) (r : Int32) (n : Int32) (y : Int32) : tC_narrow tg ad mt d r n y = 0 ∨ tC_narrow tg ad mt d r n y = 1 := by
  unfold tC_narrow
  repeat' split
  all_goals first | exact Or.inl rfl | exact Or.inr rfl
def xC_narrow (tg : Nat → Int32) (ad : Nat → Int32) (mt : Nat → Int32) (d : Int32) (r : Int32) (n : Int32) (y : Int32) : Int32 := if (fC_isRegister r) = 0 then 1 else (if (fC_isRegister d) = 0 then 1 else 0)
set_option maxHeartbeats 4000000 in
set_option maxRecDepth 100000 in
theorem kC_narrow (l : Launch) (hl0 : l.stackTraces = false) {D : va_G} {q : Nat → Nat} {k : Nat → ClassId} {tg : Nat → Int32} {ad : Nat → Int32} {mt : Nat → Int32} {rb : Nat → Int64} {rt : Nat → Int64} {rp : Nat → Int32} {nr : Int32} {A : Nat → Prop} (d : Int32) (r : Int32) (n : Int32) (y : Int32) : vx_Met l yC_narrow wC_narrow { frames := 6, cells := 1, slots := 6, locals := 123 } (va_Pc [.ref (q 0), .int d, .int r, .int n, .int y] (fun U => va_P D zCl (cW q k tg ad mt rb rt rp nr) U.heap ∧ va_K D zCl (zT k) U ∧ va_D A (cW q k tg ad mt rb rt rp nr) ∧ zX A U U.heap)) (va_Qi (fun v9 (_ : Unit) => xC_narrow tg ad mt d r n y = 0 ∧ v9 = zSr d (tC_narrow tg ad mt d r n y)) (fun _ t => va_P D zCl (cW q k (zS d (tC_narrow tg ad mt d r n y) tg) (zS d (ad r.toNatClampNeg) ad) (zS d (((mt r.toNatClampNeg) &&& (-32768 : Int32)) ||| ((fC_packed (fC_unsigned (ad r.toNatClampNeg)) (if (4294967296 : Int64) < ((fC_unsigned (ad r.toNatClampNeg)) + (fC_unsigned n)) then (4294967296 : Int64) else ((fC_unsigned (ad r.toNatClampNeg)) + (fC_unsigned n)))) &&& (32767 : Int32))) mt) rb rt rp nr) t.heap ∧ va_K D zCl (zT k) t ∧ va_D A (cW q k (zS d (tC_narrow tg ad mt d r n y) tg) (zS d (ad r.toNatClampNeg) ad) (zS d (((mt r.toNatClampNeg) &&& (-32768 : Int32)) ||| ((fC_packed (fC_unsigned (ad r.toNatClampNeg)) (if (4294967296 : Int64) < ((fC_unsigned (ad r.toNatClampNeg)) + (fC_unsigned n)) then (4294967296 : Int64) else ((fC_unsigned (ad r.toNatClampNeg)) + (fC_unsigned n)))) &&& (32767 : Int32))) mt) rb rt rp nr)) A) (vx_X (fun _ : Unit => True) (fun E _ t => zE E (xC_narrow tg ad mt d r n y) ∧ va_P D zCl (cW q k tg ad mt rb rt rp nr) t.heap ∧ va_K D zCl (zT k) t) A) 1 6 A := by
  refine vx_ofW (cc := cC_narrow) (maxL := 11) (ret := (some .boolean)) (by decide) rfl ?_
  intro p e s m args below meth c s₁ B hml hnt hv
  obtain ⟨rfl, hP, hK, hD, hX⟩ := hv
  have hx := B.exec
  have hb := B.bytes
  have hr := B.returns
  have hts := atoms_spec (ws := wC_narrow) B.pre
  have hq : ∀ w ∈ wA, w.before _ s = true := fun w h => hts w (List.mem_cons_of_mem _ h)
  have hown : s.vm.findClass "CapUnit" = some m.cls := findClass_of_methodNamed B.named
  have hlocks := B.notSynchronized
  have hS : va_S A s.heap s.heap [] := va_S.rf
  have hl := lv_entry ([.ref (q 0), .int d, .int r, .int n, .int y]) (n := 11) (Nat.le_of_ble_eq_true rfl)
  rw [lg_entry_eq]
  generalize (lg_sl ([.ref (q 0), .int d, .int r, .int n, .int y]) ++ List.replicate (11 - (lg_sl ([.ref (q 0), .int d, .int r, .int n, .int y])).length) Slot.unset).toArray = ls at hl ⊢
  have hl : lv_has ls 11 [(0, .ref (q 0)), (1, .int d), (2, .int r), (3, .int n), (4, .int y)] := hl
  refine lv_iload_n hx hb dC_narrow_0 rfl (lv_at hl 2 rfl) ?_
  refine zc_i (va_runS (As := [.int r]) (rest := []) ⟨hx, hb, hml, hown, hq⟩ (kC_isRegister l s.heap r) (va_cwS 1 hq (wA_S q_243 q_244 q_1 q_245) rfl rfl rfl (by decide +kernel) ⟨Nat.le_of_ble_eq_true rfl, Nat.le_of_ble_eq_true rfl⟩) ⟨fun a U g mk q => q, fun U hU hW => ⟨rfl, hU⟩⟩ rfl rfl hl.1 rfl (lv_room (Nat.le_of_ble_eq_true rfl)) dC_narrow_1 ⟨Nat.zero_le _, Nat.zero_le _⟩) hS (fun locs hS => ?_)
  refine lv_if_eq (tgt := 14) hx hb dC_narrow_4 rfl (fun h1 => ?_) (fun h1 => ?_)
  · exact vx_throwS (rest := []) (names := xUp) (A := A) hx hb hl0 hown (by decide +kernel) (by decide +kernel) (hq _ q_109) (hq _ q_6) hX.2.2.2.2.2.2.2.1.choose_spec (x_all hq x_good39 x_bad39 hX.2.1.1 hX.2.2.2.1.1 hX.2.2.2.1.2.1 hX.2.2.2.1.2.2) x_ot39 hX.1.1 hX.1.2 hS (hl.1.trans hml.symm) dC_narrow_14 dC_narrow_17 dC_narrow_18 dC_narrow_20 dC_narrow_23 (fun x h9 => (hnt x h9).elim) (Nat.le_of_ble_eq_true rfl) (Nat.le_of_ble_eq_true rfl) (Nat.le_of_ble_eq_true rfl) (Nat.le_of_ble_eq_true rfl) hlocks (fun t9 ha hz hk9 => ⟨(), trivial, ⟨Or.inl ⟨rfl, (by unfold xC_narrow; rw [if_pos h1])⟩, hP.kept (fun _ q9 hq9 => hk9 q9.1 (vx_lt hP hq9)), va_K.moved ha hK⟩, hz, fun q9 h1 _ => hk9 q9 h1⟩) hS.2.2 (by decide) (by decide)
  · have gr := zz_reg h1
    refine lv_iload_n hx hb dC_narrow_7 rfl (lv_at hl 1 rfl) ?_
    refine zc_i (va_runS (As := [.int d]) (rest := []) ⟨hx, hb, hml, hown, hq⟩ (kC_isRegister l s.heap d) (va_cwS 1 hq (wA_S q_243 q_244 q_1 q_245) rfl rfl rfl (by decide +kernel) ⟨Nat.le_of_ble_eq_true rfl, Nat.le_of_ble_eq_true rfl⟩) ⟨fun a U g mk q => q, fun U hU hW => ⟨rfl, hU⟩⟩ rfl rfl hl.1 rfl (lv_room (Nat.le_of_ble_eq_true rfl)) dC_narrow_8 ⟨Nat.zero_le _, Nat.zero_le _⟩) hS (fun locs hS => ?_)
    refine lv_if_ne (tgt := 24) hx hb dC_narrow_11 rfl (fun h2 => ?_) (fun h2 => ?_)
    · have gd := zz_reg h2
      refine lv_aload_n hx hb dC_narrow_24 rfl (lv_at hl 0 rfl) ?_
      refine va_get (D := D) (ci := 0) (v := .ref (q 2)) (C := "CapUnit") (T := TC) (N := 7) hx hb hq uC_in hown hK hP 0 rfl rfl 1 (by decide) (hq _ q_20) (fun _ h9 => h9) rfl dC_narrow_25 ?_
      refine lv_iload_n hx hb dC_narrow_28 rfl (lv_at hl 2 rfl) ?_
      refine va_iald hx hb hK hP 2 1 rfl rfl (i := r) gr dC_narrow_29 ?_
      refine zc_l (va_runS (As := [.int (ad r.toNatClampNeg)]) (rest := []) ⟨hx, hb, hml, hown, hq⟩ (kC_unsigned l s.heap (ad r.toNatClampNeg)) (va_cwS 1 hq (wA_S q_63 q_64 q_1 q_65) rfl rfl rfl (by decide +kernel) ⟨Nat.le_of_ble_eq_true rfl, Nat.le_of_ble_eq_true rfl⟩) ⟨fun a U g mk q => q, fun U hU hW => ⟨rfl, hU⟩⟩ rfl rfl hl.1 rfl (lv_room (Nat.le_of_ble_eq_true rfl)) dC_narrow_30 ⟨Nat.zero_le _, Nat.zero_le _⟩) hS (fun locs hS => ?_)
      refine lv_lstore (lv' := [(5, .long (fC_unsigned (ad r.toNatClampNeg))), (0, .ref (q 0)), (1, .int d), (2, .int r), (3, .int n), (4, .int y)]) hx hb dC_narrow_33 hl (by decide) rfl (fun ls hl => ?_)
      refine lv_iload_n hx hb dC_narrow_35 rfl (lv_at hl 4 rfl) ?_
      refine zc_l (va_runS (As := [.int n]) (rest := []) ⟨hx, hb, hml, hown, hq⟩ (kC_unsigned l s.heap n) (va_cwS 1 hq (wA_S q_63 q_64 q_1 q_65) rfl rfl rfl (by decide +kernel) ⟨Nat.le_of_ble_eq_true rfl, Nat.le_of_ble_eq_true rfl⟩) ⟨fun a U g mk q => q, fun U hU hW => ⟨rfl, hU⟩⟩ rfl rfl hl.1 rfl (lv_room (Nat.le_of_ble_eq_true rfl)) dC_narrow_36 ⟨Nat.zero_le _, Nat.zero_le _⟩) hS (fun locs hS => ?_)
      refine lv_lstore (lv' := [(7, .long (fC_unsigned n)), (5, .long (fC_unsigned (ad r.toNatClampNeg))), (0, .ref (q 0)), (1, .int d), (2, .int r), (3, .int n), (4, .int y)]) hx hb dC_narrow_39 hl (by decide) rfl (fun ls hl => ?_)
      refine lv_lload hx hb dC_narrow_41 (lv_at hl 1 rfl) ?_
      refine lv_lload hx hb dC_narrow_43 (lv_at hl 1 rfl) ?_
      refine lv_lload hx hb dC_narrow_45 (lv_at hl 0 rfl) ?_
      refine lv_ladd hx hb dC_narrow_47 ?_
      refine lv_ldc2 (v := 4294967296) hx hb hown (hts (.constantLong "CapUnit" 81 4294967296) (by decide +kernel)) dC_narrow_48 ?_
      refine va_mmin_long hx hb (hml.trans hl.1.symm) hown (hq _ q_254) (hq _ q_255) (hq _ q_9) (hq _ q_256) (Nat.le_of_ble_eq_true rfl) (Nat.le_of_ble_eq_true rfl) (Nat.le_of_ble_eq_true rfl) (Nat.le_of_ble_eq_true rfl) dC_narrow_51 ?_
      refine zc_i (va_runS (As := [.long (fC_unsigned (ad r.toNatClampNeg)), .long (if (4294967296 : Int64) < ((fC_unsigned (ad r.toNatClampNeg)) + (fC_unsigned n)) then (4294967296 : Int64) else ((fC_unsigned (ad r.toNatClampNeg)) + (fC_unsigned n)))]) (rest := []) ⟨hx, hb, hml, hown, hq⟩ (kC_packed l s.heap (fC_unsigned (ad r.toNatClampNeg)) (if (4294967296 : Int64) < ((fC_unsigned (ad r.toNatClampNeg)) + (fC_unsigned n)) then (4294967296 : Int64) else ((fC_unsigned (ad r.toNatClampNeg)) + (fC_unsigned n)))) (va_cwS 2 hq (wA_S q_212 q_213 q_1 q_214) rfl rfl rfl (by decide +kernel) ⟨Nat.le_of_ble_eq_true rfl, Nat.le_of_ble_eq_true rfl⟩) ⟨fun a U g mk q => q, fun U hU hW => ⟨rfl, hU⟩⟩ rfl rfl hl.1 rfl (lv_room (Nat.le_of_ble_eq_true rfl)) dC_narrow_54 ⟨Nat.zero_le _, Nat.zero_le _⟩) hS (fun locs hS => ?_)
      refine lv_istore (lv' := [(9, .int (fC_packed (fC_unsigned (ad r.toNatClampNeg)) (if (4294967296 : Int64) < ((fC_unsigned (ad r.toNatClampNeg)) + (fC_unsigned n)) then (4294967296 : Int64) else ((fC_unsigned (ad r.toNatClampNeg)) + (fC_unsigned n))))), (7, .long (fC_unsigned n)), (5, .long (fC_unsigned (ad r.toNatClampNeg))), (0, .ref (q 0)), (1, .int d), (2, .int r), (3, .int n), (4, .int y)]) hx hb dC_narrow_57 hl (by decide) rfl (fun ls hl => ?_)
      refine zj_i (A0 := A) (H0 := s.heap) (tC_narrow tg ad mt d r n y) 97 [] (fun locs hS => ?_) (fun J9 => ?_)
      · refine lv_istore (lv' := [(10, .int (tC_narrow tg ad mt d r n y)), (9, .int (fC_packed (fC_unsigned (ad r.toNatClampNeg)) (if (4294967296 : Int64) < ((fC_unsigned (ad r.toNatClampNeg)) + (fC_unsigned n)) then (4294967296 : Int64) else ((fC_unsigned (ad r.toNatClampNeg)) + (fC_unsigned n))))), (7, .long (fC_unsigned n)), (5, .long (fC_unsigned (ad r.toNatClampNeg))), (0, .ref (q 0)), (1, .int d), (2, .int r), (3, .int n), (4, .int y)]) hx hb dC_narrow_97 hl (by decide) rfl (fun ls hl => ?_)
        refine lv_aload_n hx hb dC_narrow_99 rfl (lv_at hl 4 rfl) ?_
        refine lv_iload_n hx hb dC_narrow_100 rfl (lv_at hl 5 rfl) ?_
        refine lv_iload hx hb dC_narrow_101 (lv_at hl 0 rfl) ?_
        refine lv_aload_n hx hb dC_narrow_103 rfl (lv_at hl 4 rfl) ?_
        refine va_get (D := D) (ci := 0) (v := .ref (q 2)) (C := "CapUnit") (T := TC) (N := 7) hx hb hq uC_in hown hK hP 0 rfl rfl 1 (by decide) (hq _ q_20) (fun _ h9 => h9) rfl dC_narrow_104 ?_
        refine lv_iload_n hx hb dC_narrow_107 rfl (lv_at hl 6 rfl) ?_
        refine va_iald hx hb hK hP 2 1 rfl rfl (i := r) gr dC_narrow_108 ?_
        refine lv_aload_n hx hb dC_narrow_109 rfl (lv_at hl 4 rfl) ?_
        refine va_get (D := D) (ci := 0) (v := .ref (q 3)) (C := "CapUnit") (T := TC) (N := 7) hx hb hq uC_in hown hK hP 0 rfl rfl 2 (by decide) (hq _ q_21) (fun _ h9 => h9) rfl dC_narrow_110 ?_
        refine lv_iload_n hx hb dC_narrow_113 rfl (lv_at hl 6 rfl) ?_
        refine va_iald hx hb hK hP 3 1 rfl rfl (i := r) gr dC_narrow_114 ?_
        refine lv_sipush (v := -32768) hx hb dC_narrow_115 (by decide) ?_
        refine lv_iand hx hb dC_narrow_118 ?_
        refine lv_iload hx hb dC_narrow_119 (lv_at hl 1 rfl) ?_
        refine lv_sipush (v := 32767) hx hb dC_narrow_121 (by decide) ?_
        refine lv_iand hx hb dC_narrow_124 ?_
        refine lv_ior hx hb dC_narrow_125 ?_
        refine va_calli (va_runV (C := "CapUnit") (b := q 0) (As := [.int d, .int (tC_narrow tg ad mt d r n y), .int (ad r.toNatClampNeg), .int (((mt r.toNatClampNeg) &&& (-32768 : Int32)) ||| ((fC_packed (fC_unsigned (ad r.toNatClampNeg)) (if (4294967296 : Int64) < ((fC_unsigned (ad r.toNatClampNeg)) + (fC_unsigned n)) then (4294967296 : Int64) else ((fC_unsigned (ad r.toNatClampNeg)) + (fC_unsigned n)))) &&& (32767 : Int32)))]) (rest := []) ⟨hx, hb, hml, hown, hq⟩ (kC_become l d (tC_narrow tg ad mt d r n y) (ad r.toNatClampNeg) (((mt r.toNatClampNeg) &&& (-32768 : Int32)) ||| ((fC_packed (fC_unsigned (ad r.toNatClampNeg)) (if (4294967296 : Int64) < ((fC_unsigned (ad r.toNatClampNeg)) + (fC_unsigned n)) then (4294967296 : Int64) else ((fC_unsigned (ad r.toNatClampNeg)) + (fC_unsigned n)))) &&& (32767 : Int32))) gd (btC_narrow tg ad mt d r n y)) (cwV 4 hq (wA_V q_232 q_234 sC_become q_1 q_235) rfl rfl rfl (by decide +kernel) ⟨Nat.le_of_ble_eq_true rfl, Nat.le_of_ble_eq_true rfl⟩) (zw_pre (c := zCl[0]) (q0 := 0) hK hP hD rfl rfl) rfl rfl hl.1 rfl (lv_room (Nat.le_of_ble_eq_true rfl)) dC_narrow_126 ⟨Nat.le_of_ble_eq_true rfl, Nat.le_of_ble_eq_true rfl⟩) hS (fun _ _ h9 => h9) (fun _ h9 => h9) (fun v9 u9 t9 H locs ht9 hvm9 hv9 hB9 hz9 hk9 hS => ?_)
        obtain ⟨hP, -, hD⟩ := hB9
        rw [ht9] at hP
        subst hv9
        clear hz9 hk9
        refine vx_ret (W.widen (k := 1) (n := 6) (by decide) (by decide) ?_)
        exact W.zret (v := zSr d (tC_narrow tg ad mt d r n y)) hx hb hr (zz_nar (zSr_b (btC_narrow tg ad mt d r n y))) (fun t9 ht hW => ⟨⟨_, (), rfl, ⟨(by unfold xC_narrow; rw [if_neg h1, if_neg h2]), (rfl)⟩, by rw [ht]; exact hP, va_K.moved hW.alike hK, hD⟩, hS.F ht⟩) hS.2.2 dC_narrow_129
      · refine lv_aload_n hx hb dC_narrow_59 rfl (lv_at hl 3 rfl) ?_
        refine lv_iload_n hx hb dC_narrow_60 rfl (lv_at hl 5 rfl) ?_
        refine zc_i (va_runV (C := "CapUnit") (b := q 0) (As := [.int r]) (rest := []) ⟨hx, hb, hml, hown, hq⟩ (kC_isOpenWithTag l hP r gr) (cwV 1 hq (wA_V q_257 q_259 sC_isOpenWithTag q_1 q_260) rfl rfl rfl (by decide +kernel) ⟨Nat.le_of_ble_eq_true rfl, Nat.le_of_ble_eq_true rfl⟩) (zr_pre (c := zCl[0]) (q0 := 0) hK hP rfl rfl) rfl rfl hl.1 rfl (lv_room (Nat.le_of_ble_eq_true rfl)) dC_narrow_61 ⟨Nat.le_of_ble_eq_true rfl, Nat.le_of_ble_eq_true rfl⟩) hS (fun locs hS => ?_)
        refine lv_if_eq (tgt := 96) hx hb dC_narrow_64 rfl (fun h3 => ?_) (fun h3 => ?_)
        · refine lv_iconst (v := 0) hx hb dC_narrow_96 (by decide) ?_
          exact J9 _ _ (by unfold tC_narrow; rw [if_pos h3]) hS
        · refine lv_aload_n hx hb dC_narrow_67 rfl (lv_at hl 3 rfl) ?_
          refine lv_iload_n hx hb dC_narrow_68 rfl (lv_at hl 5 rfl) ?_
          refine lv_lload hx hb dC_narrow_69 (lv_at hl 2 rfl) ?_
          refine lv_lload hx hb dC_narrow_71 (lv_at hl 1 rfl) ?_
          refine zc_i (va_runV (C := "CapUnit") (b := q 0) (As := [.int r, .long (fC_unsigned (ad r.toNatClampNeg)), .long (fC_unsigned n)]) (rest := []) ⟨hx, hb, hml, hown, hq⟩ (kC_isInBounds l hP r (fC_unsigned (ad r.toNatClampNeg)) (fC_unsigned n) gr) (cwV 3 hq (wA_V q_264 q_266 sC_isInBounds q_1 q_267) rfl rfl rfl (by decide +kernel) ⟨Nat.le_of_ble_eq_true rfl, Nat.le_of_ble_eq_true rfl⟩) (zr_pre (c := zCl[0]) (q0 := 0) hK hP rfl rfl) rfl rfl hl.1 rfl (lv_room (Nat.le_of_ble_eq_true rfl)) dC_narrow_73 ⟨Nat.le_of_ble_eq_true rfl, Nat.le_of_ble_eq_true rfl⟩) hS (fun locs hS => ?_)
          refine lv_if_eq (tgt := 96) hx hb dC_narrow_76 rfl (fun h4 => ?_) (fun h4 => ?_)
          · refine lv_iconst (v := 0) hx hb dC_narrow_96 (by decide) ?_
            exact J9 _ _ (by unfold tC_narrow; rw [if_neg h3, if_pos h4]) hS
          · refine lv_iload hx hb dC_narrow_79 (lv_at hl 7 rfl) ?_
            refine lv_if_eq (tgt := 92) hx hb dC_narrow_81 rfl (fun h5 => ?_) (fun h5 => ?_)
            · refine lv_iconst (v := 1) hx hb dC_narrow_92 (by decide) ?_
              refine lv_goto (tgt := 97) hx hb dC_narrow_93 rfl ?_
              exact J9 _ _ (by unfold tC_narrow; rw [if_neg h3, if_neg h4, if_pos h5]) hS
            · refine lv_iload hx hb dC_narrow_84 (lv_at hl 0 rfl) ?_
              refine lv_ldc (v := 32768) hx hb hown (hts (.constant "CapUnit" 96 32768) (by decide +kernel)) dC_narrow_86 ?_
              refine lv_iand hx hb dC_narrow_88 ?_
              refine lv_if_eq (tgt := 96) hx hb dC_narrow_89 rfl (fun h6 => ?_) (fun h6 => ?_)
              · refine lv_iconst (v := 0) hx hb dC_narrow_96 (by decide) ?_
                exact J9 _ _ (by unfold tC_narrow; rw [if_neg h3, if_neg h4, if_neg h5, if_pos h6]) hS
              · refine lv_iconst (v := 1) hx hb dC_narrow_92 (by decide) ?_
                refine lv_goto (tgt := 97) hx hb dC_narrow_93 rfl ?_
                exact J9 _ _ (by unfold tC_narrow; rw [if_neg h3, if_neg h4, if_neg h5, if_neg h6]) hS
    · exact vx_throwS (rest := []) (names := xUp) (A := A) hx hb hl0 hown (by decide +kernel) (by decide +kernel) (hq _ q_109) (hq _ q_6) hX.2.2.2.2.2.2.2.1.choose_spec (x_all hq x_good39 x_bad39 hX.2.1.1 hX.2.2.2.1.1 hX.2.2.2.1.2.1 hX.2.2.2.1.2.2) x_ot39 hX.1.1 hX.1.2 hS (hl.1.trans hml.symm) dC_narrow_14 dC_narrow_17 dC_narrow_18 dC_narrow_20 dC_narrow_23 (fun x h9 => (hnt x h9).elim) (Nat.le_of_ble_eq_true rfl) (Nat.le_of_ble_eq_true rfl) (Nat.le_of_ble_eq_true rfl) (Nat.le_of_ble_eq_true rfl) hlocks (fun t9 ha hz hk9 => ⟨(), trivial, ⟨Or.inl ⟨rfl, (by unfold xC_narrow; rw [if_neg h1, if_pos h2])⟩, hP.kept (fun _ q9 hq9 => hk9 q9.1 (vx_lt hP hq9)), va_K.moved ha hK⟩, hz, fun q9 h1 _ => hk9 q9 h1⟩) hS.2.2 (by decide) (by decide)
def tC_moveS (tg : Nat → Int32) (ad : Nat → Int32) (mt : Nat → Int32) (d : Int32) (r : Int32) (x : Int32) : Int32 := if (fC_baseOf (mt r.toNatClampNeg) x) = (fC_baseIn tg ad mt r) then (if (fC_topOf (mt r.toNatClampNeg) x) = (fC_topIn tg ad mt r) then (1 : Int32) else (0 : Int32)) else (0 : Int32)
theorem btC_moveS (tg : Nat → Int32) (ad : Nat → Int32) (mt : Nat → Int32) (d : Int32) (r : Int32) (x : Int32) : tC_moveS tg ad mt d r x = 0 ∨ tC_moveS tg ad mt d r x = 1 := by
  unfold tC_moveS
  repeat' split
  all_goals first | exact Or.inl rfl | exact Or.inr rfl
def tC_move (tg : Nat → Int32) (ad : Nat → Int32) (mt : Nat → Int32) (d : Int32) (r : Int32) (x : Int32) : Int32 := if (fC_isOpenWithTag tg ad mt r) = 0 then (0 : Int32) else (if (tC_moveS tg ad mt d r x) = 0 then (0 : Int32) else (1 : Int32))
theorem btC_move (tg : Nat → Int32) (ad : Nat → Int32) (mt : Nat → Int32) (d : Int32) (r : Int32) (x : Int32) : tC_move tg ad mt d r x = 0 ∨ tC_move tg ad mt d r x = 1 := by
  unfold tC_move
  repeat' split
  all_goals first | exact Or.inl rfl | exact Or.inr rfl
def xC_move (tg : Nat → Int32) (ad : Nat → Int32) (mt : Nat → Int32) (d : Int32) (r : Int32) (x : Int32) : Int32 := if (fC_isRegister r) = 0 then 1 else (if (fC_isRegister d) = 0 then 1 else 0)
set_option maxHeartbeats 4000000 in
set_option maxRecDepth 100000 in
theorem kC_move (l : Launch) (hl0 : l.stackTraces = false) {D : va_G} {q : Nat → Nat} {k : Nat → ClassId} {tg : Nat → Int32} {ad : Nat → Int32} {mt : Nat → Int32} {rb : Nat → Int64} {rt : Nat → Int64} {rp : Nat → Int32} {nr : Int32} {A : Nat → Prop} (d : Int32) (r : Int32) (x : Int32) : vx_Met l yC_move wC_move { frames := 6, cells := 1, slots := 6, locals := 98 } (va_Pc [.ref (q 0), .int d, .int r, .int x] (fun U => va_P D zCl (cW q k tg ad mt rb rt rp nr) U.heap ∧ va_K D zCl (zT k) U ∧ va_D A (cW q k tg ad mt rb rt rp nr) ∧ zX A U U.heap)) (va_Qi (fun v9 (_ : Unit) => xC_move tg ad mt d r x = 0 ∧ v9 = zSr d (tC_move tg ad mt d r x)) (fun _ t => va_P D zCl (cW q k (zS d (tC_move tg ad mt d r x) tg) (zS d x ad) (zS d (mt r.toNatClampNeg) mt) rb rt rp nr) t.heap ∧ va_K D zCl (zT k) t ∧ va_D A (cW q k (zS d (tC_move tg ad mt d r x) tg) (zS d x ad) (zS d (mt r.toNatClampNeg) mt) rb rt rp nr)) A) (vx_X (fun _ : Unit => True) (fun E _ t => zE E (xC_move tg ad mt d r x) ∧ va_P D zCl (cW q k tg ad mt rb rt rp nr) t.heap ∧ va_K D zCl (zT k) t) A) 1 6 A := by
  refine vx_ofW (cc := cC_move) (maxL := 6) (ret := (some .boolean)) (by decide) rfl ?_
  intro p e s m args below meth c s₁ B hml hnt hv
  obtain ⟨rfl, hP, hK, hD, hX⟩ := hv
  have hx := B.exec
  have hb := B.bytes
  have hr := B.returns
  have hts := atoms_spec (ws := wC_move) B.pre
  have hq : ∀ w ∈ wA, w.before _ s = true := fun w h => hts w (List.mem_cons_of_mem _ h)
  have hown : s.vm.findClass "CapUnit" = some m.cls := findClass_of_methodNamed B.named
  have hlocks := B.notSynchronized
  have hS : va_S A s.heap s.heap [] := va_S.rf
  have hl := lv_entry ([.ref (q 0), .int d, .int r, .int x]) (n := 6) (Nat.le_of_ble_eq_true rfl)
  rw [lg_entry_eq]
  generalize (lg_sl ([.ref (q 0), .int d, .int r, .int x]) ++ List.replicate (6 - (lg_sl ([.ref (q 0), .int d, .int r, .int x])).length) Slot.unset).toArray = ls at hl ⊢
  have hl : lv_has ls 6 [(0, .ref (q 0)), (1, .int d), (2, .int r), (3, .int x)] := hl
  refine lv_iload_n hx hb dC_move_0 rfl (lv_at hl 2 rfl) ?_
  refine zc_i (va_runS (As := [.int r]) (rest := []) ⟨hx, hb, hml, hown, hq⟩ (kC_isRegister l s.heap r) (va_cwS 1 hq (wA_S q_243 q_244 q_1 q_245) rfl rfl rfl (by decide +kernel) ⟨Nat.le_of_ble_eq_true rfl, Nat.le_of_ble_eq_true rfl⟩) ⟨fun a U g mk q => q, fun U hU hW => ⟨rfl, hU⟩⟩ rfl rfl hl.1 rfl (lv_room (Nat.le_of_ble_eq_true rfl)) dC_move_1 ⟨Nat.zero_le _, Nat.zero_le _⟩) hS (fun locs hS => ?_)
  refine lv_if_eq (tgt := 14) hx hb dC_move_4 rfl (fun h1 => ?_) (fun h1 => ?_)
  · exact vx_throwS (rest := []) (names := xUp) (A := A) hx hb hl0 hown (by decide +kernel) (by decide +kernel) (hq _ q_109) (hq _ q_6) hX.2.2.2.2.2.2.2.1.choose_spec (x_all hq x_good39 x_bad39 hX.2.1.1 hX.2.2.2.1.1 hX.2.2.2.1.2.1 hX.2.2.2.1.2.2) x_ot39 hX.1.1 hX.1.2 hS (hl.1.trans hml.symm) dC_move_14 dC_move_17 dC_move_18 dC_move_20 dC_move_23 (fun x h9 => (hnt x h9).elim) (Nat.le_of_ble_eq_true rfl) (Nat.le_of_ble_eq_true rfl) (Nat.le_of_ble_eq_true rfl) (Nat.le_of_ble_eq_true rfl) hlocks (fun t9 ha hz hk9 => ⟨(), trivial, ⟨Or.inl ⟨rfl, (by unfold xC_move; rw [if_pos h1])⟩, hP.kept (fun _ q9 hq9 => hk9 q9.1 (vx_lt hP hq9)), va_K.moved ha hK⟩, hz, fun q9 h1 _ => hk9 q9 h1⟩) hS.2.2 (by decide) (by decide)
  · have gr := zz_reg h1
    refine lv_iload_n hx hb dC_move_7 rfl (lv_at hl 1 rfl) ?_
    refine zc_i (va_runS (As := [.int d]) (rest := []) ⟨hx, hb, hml, hown, hq⟩ (kC_isRegister l s.heap d) (va_cwS 1 hq (wA_S q_243 q_244 q_1 q_245) rfl rfl rfl (by decide +kernel) ⟨Nat.le_of_ble_eq_true rfl, Nat.le_of_ble_eq_true rfl⟩) ⟨fun a U g mk q => q, fun U hU hW => ⟨rfl, hU⟩⟩ rfl rfl hl.1 rfl (lv_room (Nat.le_of_ble_eq_true rfl)) dC_move_8 ⟨Nat.zero_le _, Nat.zero_le _⟩) hS (fun locs hS => ?_)
    refine lv_if_ne (tgt := 24) hx hb dC_move_11 rfl (fun h2 => ?_) (fun h2 => ?_)
    · have gd := zz_reg h2
      refine lv_aload_n hx hb dC_move_24 rfl (lv_at hl 0 rfl) ?_
      refine va_get (D := D) (ci := 0) (v := .ref (q 3)) (C := "CapUnit") (T := TC) (N := 7) hx hb hq uC_in hown hK hP 0 rfl rfl 2 (by decide) (hq _ q_21) (fun _ h9 => h9) rfl dC_move_25 ?_
      refine lv_iload_n hx hb dC_move_28 rfl (lv_at hl 2 rfl) ?_
      refine va_iald hx hb hK hP 3 1 rfl rfl (i := r) gr dC_move_29 ?_
      refine lv_istore (lv' := [(4, .int (mt r.toNatClampNeg)), (0, .ref (q 0)), (1, .int d), (2, .int r), (3, .int x)]) hx hb dC_move_30 hl (by decide) rfl (fun ls hl => ?_)
      refine zj_i (A0 := A) (H0 := s.heap) (tC_moveS tg ad mt d r x) 67 [] (fun locs hS => ?_) (fun J9 => ?_)
      · refine lv_istore (lv' := [(5, .int (tC_moveS tg ad mt d r x)), (4, .int (mt r.toNatClampNeg)), (0, .ref (q 0)), (1, .int d), (2, .int r), (3, .int x)]) hx hb dC_move_67 hl (by decide) rfl (fun ls hl => ?_)
        refine lv_aload_n hx hb dC_move_69 rfl (lv_at hl 2 rfl) ?_
        refine lv_iload_n hx hb dC_move_70 rfl (lv_at hl 3 rfl) ?_
        refine zj_i (A0 := A) (H0 := s.heap) (tC_move tg ad mt d r x) 89 [.int d, .ref (q 0)] (fun locs hS => ?_) (fun J9 => ?_)
        · refine lv_iload_n hx hb dC_move_89 rfl (lv_at hl 5 rfl) ?_
          refine lv_iload hx hb dC_move_90 (lv_at hl 1 rfl) ?_
          refine va_calli (va_runV (C := "CapUnit") (b := q 0) (As := [.int d, .int (tC_move tg ad mt d r x), .int x, .int (mt r.toNatClampNeg)]) (rest := []) ⟨hx, hb, hml, hown, hq⟩ (kC_become l d (tC_move tg ad mt d r x) x (mt r.toNatClampNeg) gd (btC_move tg ad mt d r x)) (cwV 4 hq (wA_V q_232 q_234 sC_become q_1 q_235) rfl rfl rfl (by decide +kernel) ⟨Nat.le_of_ble_eq_true rfl, Nat.le_of_ble_eq_true rfl⟩) (zw_pre (c := zCl[0]) (q0 := 0) hK hP hD rfl rfl) rfl rfl hl.1 rfl (lv_room (Nat.le_of_ble_eq_true rfl)) dC_move_92 ⟨Nat.le_of_ble_eq_true rfl, Nat.le_of_ble_eq_true rfl⟩) hS (fun _ _ h9 => h9) (fun _ h9 => h9) (fun v9 u9 t9 H locs ht9 hvm9 hv9 hB9 hz9 hk9 hS => ?_)
          obtain ⟨hP, -, hD⟩ := hB9
          rw [ht9] at hP
          subst hv9
          clear hz9 hk9
          refine vx_ret (W.widen (k := 1) (n := 6) (by decide) (by decide) ?_)
          exact W.zret (v := zSr d (tC_move tg ad mt d r x)) hx hb hr (zz_nar (zSr_b (btC_move tg ad mt d r x))) (fun t9 ht hW => ⟨⟨_, (), rfl, ⟨(by unfold xC_move; rw [if_neg h1, if_neg h2]), (rfl)⟩, by rw [ht]; exact hP, va_K.moved hW.alike hK, hD⟩, hS.F ht⟩) hS.2.2 dC_move_95
        · refine lv_aload_n hx hb dC_move_71 rfl (lv_at hl 2 rfl) ?_
          refine lv_iload_n hx hb dC_move_72 rfl (lv_at hl 4 rfl) ?_
          refine zc_i (va_runV (C := "CapUnit") (b := q 0) (As := [.int r]) (rest := [.int d, .ref (q 0)]) ⟨hx, hb, hml, hown, hq⟩ (kC_isOpenWithTag l hP r gr) (cwV 1 hq (wA_V q_257 q_259 sC_isOpenWithTag q_1 q_260) rfl rfl rfl (by decide +kernel) ⟨Nat.le_of_ble_eq_true rfl, Nat.le_of_ble_eq_true rfl⟩) (zr_pre (c := zCl[0]) (q0 := 0) hK hP rfl rfl) rfl rfl hl.1 rfl (lv_room (Nat.le_of_ble_eq_true rfl)) dC_move_73 ⟨Nat.le_of_ble_eq_true rfl, Nat.le_of_ble_eq_true rfl⟩) hS (fun locs hS => ?_)
          refine lv_if_eq (tgt := 88) hx hb dC_move_76 rfl (fun h3 => ?_) (fun h3 => ?_)
          · refine lv_iconst (v := 0) hx hb dC_move_88 (by decide) ?_
            exact J9 _ _ (by unfold tC_move; rw [if_pos h3]) hS
          · refine lv_iload hx hb dC_move_79 (lv_at hl 0 rfl) ?_
            refine lv_if_eq (tgt := 88) hx hb dC_move_81 rfl (fun h4 => ?_) (fun h4 => ?_)
            · refine lv_iconst (v := 0) hx hb dC_move_88 (by decide) ?_
              exact J9 _ _ (by unfold tC_move; rw [if_neg h3, if_pos h4]) hS
            · refine lv_iconst (v := 1) hx hb dC_move_84 (by decide) ?_
              refine lv_goto (tgt := 89) hx hb dC_move_85 rfl ?_
              exact J9 _ _ (by unfold tC_move; rw [if_neg h3, if_neg h4]) hS
      · refine lv_iload hx hb dC_move_32 (lv_at hl 0 rfl) ?_
        refine lv_iload_n hx hb dC_move_34 rfl (lv_at hl 4 rfl) ?_
        refine zc_l (va_runS (As := [.int (mt r.toNatClampNeg), .int x]) (rest := []) ⟨hx, hb, hml, hown, hq⟩ (kC_baseOf l s.heap (mt r.toNatClampNeg) x) (va_cwS 2 hq (wA_S q_73 q_74 q_1 q_75) rfl rfl rfl (by decide +kernel) ⟨Nat.le_of_ble_eq_true rfl, Nat.le_of_ble_eq_true rfl⟩) ⟨fun a U g mk q => q, fun U hU hW => ⟨rfl, hU⟩⟩ rfl rfl hl.1 rfl (lv_room (Nat.le_of_ble_eq_true rfl)) dC_move_35 ⟨Nat.zero_le _, Nat.zero_le _⟩) hS (fun locs hS => ?_)
        refine lv_aload_n hx hb dC_move_38 rfl (lv_at hl 1 rfl) ?_
        refine lv_iload_n hx hb dC_move_39 rfl (lv_at hl 3 rfl) ?_
        refine zc_l (va_runV (C := "CapUnit") (b := q 0) (As := [.int r]) (rest := [.long (fC_baseOf (mt r.toNatClampNeg) x)]) ⟨hx, hb, hml, hown, hq⟩ (kC_baseIn l hP r gr) (cwV 1 hq (wA_V q_88 q_90 sC_baseIn q_1 q_91) rfl rfl rfl (by decide +kernel) ⟨Nat.le_of_ble_eq_true rfl, Nat.le_of_ble_eq_true rfl⟩) (zr_pre (c := zCl[0]) (q0 := 0) hK hP rfl rfl) rfl rfl hl.1 rfl (lv_room (Nat.le_of_ble_eq_true rfl)) dC_move_40 ⟨Nat.le_of_ble_eq_true rfl, Nat.le_of_ble_eq_true rfl⟩) hS (fun locs hS => ?_)
        refine W.lcmp hx hb dC_move_43 ?_
        refine lv_if_ne (tgt := 66) hx hb dC_move_44 rfl (fun h5 => ?_) (fun h5 => ?_)
        · have h5 := Not.imp h5 (lg_cmp_eq _ _).mpr
          refine lv_iconst (v := 0) hx hb dC_move_66 (by decide) ?_
          exact J9 _ _ (by unfold tC_moveS; rw [if_neg h5]) hS
        · have h5 := (lg_cmp_eq _ _).mp h5
          refine lv_iload hx hb dC_move_47 (lv_at hl 0 rfl) ?_
          refine lv_iload_n hx hb dC_move_49 rfl (lv_at hl 4 rfl) ?_
          refine zc_l (va_runS (As := [.int (mt r.toNatClampNeg), .int x]) (rest := []) ⟨hx, hb, hml, hown, hq⟩ (kC_topOf l s.heap (mt r.toNatClampNeg) x) (va_cwS 2 hq (wA_S q_48 q_49 q_1 q_50) rfl rfl rfl (by decide +kernel) ⟨Nat.le_of_ble_eq_true rfl, Nat.le_of_ble_eq_true rfl⟩) ⟨fun a U g mk q => q, fun U hU hW => ⟨rfl, hU⟩⟩ rfl rfl hl.1 rfl (lv_room (Nat.le_of_ble_eq_true rfl)) dC_move_50 ⟨Nat.zero_le _, Nat.zero_le _⟩) hS (fun locs hS => ?_)
          refine lv_aload_n hx hb dC_move_53 rfl (lv_at hl 1 rfl) ?_
          refine lv_iload_n hx hb dC_move_54 rfl (lv_at hl 3 rfl) ?_
          refine zc_l (va_runV (C := "CapUnit") (b := q 0) (As := [.int r]) (rest := [.long (fC_topOf (mt r.toNatClampNeg) x)]) ⟨hx, hb, hml, hown, hq⟩ (kC_topIn l hP r gr) (cwV 1 hq (wA_V q_92 q_94 sC_topIn q_1 q_95) rfl rfl rfl (by decide +kernel) ⟨Nat.le_of_ble_eq_true rfl, Nat.le_of_ble_eq_true rfl⟩) (zr_pre (c := zCl[0]) (q0 := 0) hK hP rfl rfl) rfl rfl hl.1 rfl (lv_room (Nat.le_of_ble_eq_true rfl)) dC_move_55 ⟨Nat.le_of_ble_eq_true rfl, Nat.le_of_ble_eq_true rfl⟩) hS (fun locs hS => ?_)
          refine W.lcmp hx hb dC_move_58 ?_
          refine lv_if_ne (tgt := 66) hx hb dC_move_59 rfl (fun h6 => ?_) (fun h6 => ?_)
          · have h6 := Not.imp h6 (lg_cmp_eq _ _).mpr
            refine lv_iconst (v := 0) hx hb dC_move_66 (by decide) ?_
            exact J9 _ _ (by unfold tC_moveS; rw [if_pos h5, if_neg h6]) hS
          · have h6 := (lg_cmp_eq _ _).mp h6
            refine lv_iconst (v := 1) hx hb dC_move_62 (by decide) ?_
            refine lv_goto (tgt := 67) hx hb dC_move_63 rfl ?_
            exact J9 _ _ (by unfold tC_moveS; rw [if_pos h5, if_pos h6]) hS
    · exact vx_throwS (rest := []) (names := xUp) (A := A) hx hb hl0 hown (by decide +kernel) (by decide +kernel) (hq _ q_109) (hq _ q_6) hX.2.2.2.2.2.2.2.1.choose_spec (x_all hq x_good39 x_bad39 hX.2.1.1 hX.2.2.2.1.1 hX.2.2.2.1.2.1 hX.2.2.2.1.2.2) x_ot39 hX.1.1 hX.1.2 hS (hl.1.trans hml.symm) dC_move_14 dC_move_17 dC_move_18 dC_move_20 dC_move_23 (fun x h9 => (hnt x h9).elim) (Nat.le_of_ble_eq_true rfl) (Nat.le_of_ble_eq_true rfl) (Nat.le_of_ble_eq_true rfl) (Nat.le_of_ble_eq_true rfl) hlocks (fun t9 ha hz hk9 => ⟨(), trivial, ⟨Or.inl ⟨rfl, (by unfold xC_move; rw [if_neg h1, if_pos h2])⟩, hP.kept (fun _ q9 hq9 => hk9 q9.1 (vx_lt hP hq9)), va_K.moved ha hK⟩, hz, fun q9 h1 _ => hk9 q9 h1⟩) hS.2.2 (by decide) (by decide)
def tC_seal (tg : Nat → Int32) (ad : Nat → Int32) (mt : Nat → Int32) (d : Int32) (r : Int32) (y : Int32) : Int32 := if (fC_isOpenWithTag tg ad mt r) = 0 then (0 : Int32) else (if (fC_isKey tg ad mt y (128 : Int32)) = 0 then (0 : Int32) else (if (12 : Int64) ≤ (fC_unsigned (ad y.toNatClampNeg)) then (0 : Int32) else (1 : Int32)))
theorem btC_seal (tg : Nat → Int32) (ad : Nat → Int32) (mt : Nat → Int32) (d : Int32) (r : Int32) (y : Int32) : tC_seal tg ad mt d r y = 0 ∨ tC_seal tg ad mt d r y = 1 := by
  unfold tC_seal
  repeat' split
  all_goals first | exact Or.inl rfl | exact Or.inr rfl
def xC_seal (tg : Nat → Int32) (ad : Nat → Int32) (mt : Nat → Int32) (d : Int32) (r : Int32) (y : Int32) : Int32 := if (fC_isRegister r) = 0 then 1 else (if (fC_isRegister d) = 0 then 1 else (if (fC_isRegister y) = 0 then 1 else 0))
set_option maxHeartbeats 4000000 in
set_option maxRecDepth 100000 in
theorem kC_seal (l : Launch) (hl0 : l.stackTraces = false) {D : va_G} {q : Nat → Nat} {k : Nat → ClassId} {tg : Nat → Int32} {ad : Nat → Int32} {mt : Nat → Int32} {rb : Nat → Int64} {rt : Nat → Int64} {rp : Nat → Int32} {nr : Int32} {A : Nat → Prop} (d : Int32) (r : Int32) (y : Int32) : vx_Met l yC_seal wC_seal { frames := 6, cells := 1, slots := 6, locals := 145 } (va_Pc [.ref (q 0), .int d, .int r, .int y] (fun U => va_P D zCl (cW q k tg ad mt rb rt rp nr) U.heap ∧ va_K D zCl (zT k) U ∧ va_D A (cW q k tg ad mt rb rt rp nr) ∧ zX A U U.heap)) (va_Qi (fun v9 (_ : Unit) => xC_seal tg ad mt d r y = 0 ∧ v9 = zSr d (tC_seal tg ad mt d r y)) (fun _ t => va_P D zCl (cW q k (zS d (tC_seal tg ad mt d r y) tg) (zS d (ad r.toNatClampNeg) ad) (zS d (fC_withType (mt r.toNatClampNeg) ((ad y.toNatClampNeg) &&& (15 : Int32))) mt) rb rt rp nr) t.heap ∧ va_K D zCl (zT k) t ∧ va_D A (cW q k (zS d (tC_seal tg ad mt d r y) tg) (zS d (ad r.toNatClampNeg) ad) (zS d (fC_withType (mt r.toNatClampNeg) ((ad y.toNatClampNeg) &&& (15 : Int32))) mt) rb rt rp nr)) A) (vx_X (fun _ : Unit => True) (fun E _ t => zE E (xC_seal tg ad mt d r y) ∧ va_P D zCl (cW q k tg ad mt rb rt rp nr) t.heap ∧ va_K D zCl (zT k) t) A) 1 6 A := by
  refine vx_ofW (cc := cC_seal) (maxL := 5) (ret := (some .boolean)) (by decide) rfl ?_
  intro p e s m args below meth c s₁ B hml hnt hv
  obtain ⟨rfl, hP, hK, hD, hX⟩ := hv
  have hx := B.exec
  have hb := B.bytes
  have hr := B.returns
  have hts := atoms_spec (ws := wC_seal) B.pre
  have hq : ∀ w ∈ wA, w.before _ s = true := fun w h => hts w (List.mem_cons_of_mem _ h)
  have hown : s.vm.findClass "CapUnit" = some m.cls := findClass_of_methodNamed B.named
  have hlocks := B.notSynchronized
  have hS : va_S A s.heap s.heap [] := va_S.rf
  have hl := lv_entry ([.ref (q 0), .int d, .int r, .int y]) (n := 5) (Nat.le_of_ble_eq_true rfl)
  rw [lg_entry_eq]
  generalize (lg_sl ([.ref (q 0), .int d, .int r, .int y]) ++ List.replicate (5 - (lg_sl ([.ref (q 0), .int d, .int r, .int y])).length) Slot.unset).toArray = ls at hl ⊢
  have hl : lv_has ls 5 [(0, .ref (q 0)), (1, .int d), (2, .int r), (3, .int y)] := hl
  refine lv_iload_n hx hb dC_seal_0 rfl (lv_at hl 2 rfl) ?_
  refine zc_i (va_runS (As := [.int r]) (rest := []) ⟨hx, hb, hml, hown, hq⟩ (kC_isRegister l s.heap r) (va_cwS 1 hq (wA_S q_243 q_244 q_1 q_245) rfl rfl rfl (by decide +kernel) ⟨Nat.le_of_ble_eq_true rfl, Nat.le_of_ble_eq_true rfl⟩) ⟨fun a U g mk q => q, fun U hU hW => ⟨rfl, hU⟩⟩ rfl rfl hl.1 rfl (lv_room (Nat.le_of_ble_eq_true rfl)) dC_seal_1 ⟨Nat.zero_le _, Nat.zero_le _⟩) hS (fun locs hS => ?_)
  refine lv_if_eq (tgt := 21) hx hb dC_seal_4 rfl (fun h1 => ?_) (fun h1 => ?_)
  · exact vx_throwS (rest := []) (names := xUp) (A := A) hx hb hl0 hown (by decide +kernel) (by decide +kernel) (hq _ q_109) (hq _ q_6) hX.2.2.2.2.2.2.2.1.choose_spec (x_all hq x_good39 x_bad39 hX.2.1.1 hX.2.2.2.1.1 hX.2.2.2.1.2.1 hX.2.2.2.1.2.2) x_ot39 hX.1.1 hX.1.2 hS (hl.1.trans hml.symm) dC_seal_21 dC_seal_24 dC_seal_25 dC_seal_27 dC_seal_30 (fun x h9 => (hnt x h9).elim) (Nat.le_of_ble_eq_true rfl) (Nat.le_of_ble_eq_true rfl) (Nat.le_of_ble_eq_true rfl) (Nat.le_of_ble_eq_true rfl) hlocks (fun t9 ha hz hk9 => ⟨(), trivial, ⟨Or.inl ⟨rfl, (by unfold xC_seal; rw [if_pos h1])⟩, hP.kept (fun _ q9 hq9 => hk9 q9.1 (vx_lt hP hq9)), va_K.moved ha hK⟩, hz, fun q9 h1 _ => hk9 q9 h1⟩) hS.2.2 (by decide) (by decide)
  · have gr := zz_reg h1
    refine lv_iload_n hx hb dC_seal_7 rfl (lv_at hl 1 rfl) ?_
    refine zc_i (va_runS (As := [.int d]) (rest := []) ⟨hx, hb, hml, hown, hq⟩ (kC_isRegister l s.heap d) (va_cwS 1 hq (wA_S q_243 q_244 q_1 q_245) rfl rfl rfl (by decide +kernel) ⟨Nat.le_of_ble_eq_true rfl, Nat.le_of_ble_eq_true rfl⟩) ⟨fun a U g mk q => q, fun U hU hW => ⟨rfl, hU⟩⟩ rfl rfl hl.1 rfl (lv_room (Nat.le_of_ble_eq_true rfl)) dC_seal_8 ⟨Nat.zero_le _, Nat.zero_le _⟩) hS (fun locs hS => ?_)
    refine lv_if_eq (tgt := 21) hx hb dC_seal_11 rfl (fun h2 => ?_) (fun h2 => ?_)
    · exact vx_throwS (rest := []) (names := xUp) (A := A) hx hb hl0 hown (by decide +kernel) (by decide +kernel) (hq _ q_109) (hq _ q_6) hX.2.2.2.2.2.2.2.1.choose_spec (x_all hq x_good39 x_bad39 hX.2.1.1 hX.2.2.2.1.1 hX.2.2.2.1.2.1 hX.2.2.2.1.2.2) x_ot39 hX.1.1 hX.1.2 hS (hl.1.trans hml.symm) dC_seal_21 dC_seal_24 dC_seal_25 dC_seal_27 dC_seal_30 (fun x h9 => (hnt x h9).elim) (Nat.le_of_ble_eq_true rfl) (Nat.le_of_ble_eq_true rfl) (Nat.le_of_ble_eq_true rfl) (Nat.le_of_ble_eq_true rfl) hlocks (fun t9 ha hz hk9 => ⟨(), trivial, ⟨Or.inl ⟨rfl, (by unfold xC_seal; rw [if_neg h1, if_pos h2])⟩, hP.kept (fun _ q9 hq9 => hk9 q9.1 (vx_lt hP hq9)), va_K.moved ha hK⟩, hz, fun q9 h1 _ => hk9 q9 h1⟩) hS.2.2 (by decide) (by decide)
    · have gd := zz_reg h2
      refine lv_iload_n hx hb dC_seal_14 rfl (lv_at hl 3 rfl) ?_
      refine zc_i (va_runS (As := [.int y]) (rest := []) ⟨hx, hb, hml, hown, hq⟩ (kC_isRegister l s.heap y) (va_cwS 1 hq (wA_S q_243 q_244 q_1 q_245) rfl rfl rfl (by decide +kernel) ⟨Nat.le_of_ble_eq_true rfl, Nat.le_of_ble_eq_true rfl⟩) ⟨fun a U g mk q => q, fun U hU hW => ⟨rfl, hU⟩⟩ rfl rfl hl.1 rfl (lv_room (Nat.le_of_ble_eq_true rfl)) dC_seal_15 ⟨Nat.zero_le _, Nat.zero_le _⟩) hS (fun locs hS => ?_)
      refine lv_if_ne (tgt := 31) hx hb dC_seal_18 rfl (fun h3 => ?_) (fun h3 => ?_)
      · have gy := zz_reg h3
        refine zj_i (A0 := A) (H0 := s.heap) (tC_seal tg ad mt d r y) 71 [] (fun locs hS => ?_) (fun J9 => ?_)
        · refine lv_istore (lv' := [(4, .int (tC_seal tg ad mt d r y)), (0, .ref (q 0)), (1, .int d), (2, .int r), (3, .int y)]) hx hb dC_seal_71 hl (by decide) rfl (fun ls hl => ?_)
          refine lv_aload_n hx hb dC_seal_73 rfl (lv_at hl 1 rfl) ?_
          refine lv_iload_n hx hb dC_seal_74 rfl (lv_at hl 2 rfl) ?_
          refine lv_iload hx hb dC_seal_75 (lv_at hl 0 rfl) ?_
          refine lv_aload_n hx hb dC_seal_77 rfl (lv_at hl 1 rfl) ?_
          refine va_get (D := D) (ci := 0) (v := .ref (q 2)) (C := "CapUnit") (T := TC) (N := 7) hx hb hq uC_in hown hK hP 0 rfl rfl 1 (by decide) (hq _ q_20) (fun _ h9 => h9) rfl dC_seal_78 ?_
          refine lv_iload_n hx hb dC_seal_81 rfl (lv_at hl 3 rfl) ?_
          refine va_iald hx hb hK hP 2 1 rfl rfl (i := r) gr dC_seal_82 ?_
          refine lv_aload_n hx hb dC_seal_83 rfl (lv_at hl 1 rfl) ?_
          refine va_get (D := D) (ci := 0) (v := .ref (q 3)) (C := "CapUnit") (T := TC) (N := 7) hx hb hq uC_in hown hK hP 0 rfl rfl 2 (by decide) (hq _ q_21) (fun _ h9 => h9) rfl dC_seal_84 ?_
          refine lv_iload_n hx hb dC_seal_87 rfl (lv_at hl 3 rfl) ?_
          refine va_iald hx hb hK hP 3 1 rfl rfl (i := r) gr dC_seal_88 ?_
          refine lv_aload_n hx hb dC_seal_89 rfl (lv_at hl 1 rfl) ?_
          refine va_get (D := D) (ci := 0) (v := .ref (q 2)) (C := "CapUnit") (T := TC) (N := 7) hx hb hq uC_in hown hK hP 0 rfl rfl 1 (by decide) (hq _ q_20) (fun _ h9 => h9) rfl dC_seal_90 ?_
          refine lv_iload_n hx hb dC_seal_93 rfl (lv_at hl 4 rfl) ?_
          refine va_iald hx hb hK hP 2 1 rfl rfl (i := y) gy dC_seal_94 ?_
          refine lv_bipush (v := 15) hx hb dC_seal_95 (by decide) ?_
          refine lv_iand hx hb dC_seal_97 ?_
          refine zc_i (va_runS (As := [.int (mt r.toNatClampNeg), .int ((ad y.toNatClampNeg) &&& (15 : Int32))]) (rest := [.int (ad r.toNatClampNeg), .int (tC_seal tg ad mt d r y), .int d, .ref (q 0)]) ⟨hx, hb, hml, hown, hq⟩ (kC_withType l s.heap (mt r.toNatClampNeg) ((ad y.toNatClampNeg) &&& (15 : Int32))) (va_cwS 2 hq (wA_S q_298 q_299 q_1 q_300) rfl rfl rfl (by decide +kernel) ⟨Nat.le_of_ble_eq_true rfl, Nat.le_of_ble_eq_true rfl⟩) ⟨fun a U g mk q => q, fun U hU hW => ⟨rfl, hU⟩⟩ rfl rfl hl.1 rfl (lv_room (Nat.le_of_ble_eq_true rfl)) dC_seal_98 ⟨Nat.zero_le _, Nat.zero_le _⟩) hS (fun locs hS => ?_)
          refine va_calli (va_runV (C := "CapUnit") (b := q 0) (As := [.int d, .int (tC_seal tg ad mt d r y), .int (ad r.toNatClampNeg), .int (fC_withType (mt r.toNatClampNeg) ((ad y.toNatClampNeg) &&& (15 : Int32)))]) (rest := []) ⟨hx, hb, hml, hown, hq⟩ (kC_become l d (tC_seal tg ad mt d r y) (ad r.toNatClampNeg) (fC_withType (mt r.toNatClampNeg) ((ad y.toNatClampNeg) &&& (15 : Int32))) gd (btC_seal tg ad mt d r y)) (cwV 4 hq (wA_V q_232 q_234 sC_become q_1 q_235) rfl rfl rfl (by decide +kernel) ⟨Nat.le_of_ble_eq_true rfl, Nat.le_of_ble_eq_true rfl⟩) (zw_pre (c := zCl[0]) (q0 := 0) hK hP hD rfl rfl) rfl rfl hl.1 rfl (lv_room (Nat.le_of_ble_eq_true rfl)) dC_seal_101 ⟨Nat.le_of_ble_eq_true rfl, Nat.le_of_ble_eq_true rfl⟩) hS (fun _ _ h9 => h9) (fun _ h9 => h9) (fun v9 u9 t9 H locs ht9 hvm9 hv9 hB9 hz9 hk9 hS => ?_)
          obtain ⟨hP, -, hD⟩ := hB9
          rw [ht9] at hP
          subst hv9
          clear hz9 hk9
          refine vx_ret (W.widen (k := 1) (n := 6) (by decide) (by decide) ?_)
          exact W.zret (v := zSr d (tC_seal tg ad mt d r y)) hx hb hr (zz_nar (zSr_b (btC_seal tg ad mt d r y))) (fun t9 ht hW => ⟨⟨_, (), rfl, ⟨(by unfold xC_seal; rw [if_neg h1, if_neg h2, if_neg h3]), (rfl)⟩, by rw [ht]; exact hP, va_K.moved hW.alike hK, hD⟩, hS.F ht⟩) hS.2.2 dC_seal_104
        · refine lv_aload_n hx hb dC_seal_31 rfl (lv_at hl 0 rfl) ?_
          refine lv_iload_n hx hb dC_seal_32 rfl (lv_at hl 2 rfl) ?_
          refine zc_i (va_runV (C := "CapUnit") (b := q 0) (As := [.int r]) (rest := []) ⟨hx, hb, hml, hown, hq⟩ (kC_isOpenWithTag l hP r gr) (cwV 1 hq (wA_V q_257 q_259 sC_isOpenWithTag q_1 q_260) rfl rfl rfl (by decide +kernel) ⟨Nat.le_of_ble_eq_true rfl, Nat.le_of_ble_eq_true rfl⟩) (zr_pre (c := zCl[0]) (q0 := 0) hK hP rfl rfl) rfl rfl hl.1 rfl (lv_room (Nat.le_of_ble_eq_true rfl)) dC_seal_33 ⟨Nat.le_of_ble_eq_true rfl, Nat.le_of_ble_eq_true rfl⟩) hS (fun locs hS => ?_)
          refine lv_if_eq (tgt := 70) hx hb dC_seal_36 rfl (fun h4 => ?_) (fun h4 => ?_)
          · refine lv_iconst (v := 0) hx hb dC_seal_70 (by decide) ?_
            exact J9 _ _ (by unfold tC_seal; rw [if_pos h4]) hS
          · refine lv_aload_n hx hb dC_seal_39 rfl (lv_at hl 0 rfl) ?_
            refine lv_iload_n hx hb dC_seal_40 rfl (lv_at hl 3 rfl) ?_
            refine lv_sipush (v := 128) hx hb dC_seal_41 (by decide) ?_
            refine zc_i (va_runV (C := "CapUnit") (b := q 0) (As := [.int y, .int (128 : Int32)]) (rest := []) ⟨hx, hb, hml, hown, hq⟩ (kC_isKey l hP y (128 : Int32) gy) (cwV 2 hq (wA_V q_289 q_291 sC_isKey q_1 q_292) rfl rfl rfl (by decide +kernel) ⟨Nat.le_of_ble_eq_true rfl, Nat.le_of_ble_eq_true rfl⟩) (zr_pre (c := zCl[0]) (q0 := 0) hK hP rfl rfl) rfl rfl hl.1 rfl (lv_room (Nat.le_of_ble_eq_true rfl)) dC_seal_44 ⟨Nat.le_of_ble_eq_true rfl, Nat.le_of_ble_eq_true rfl⟩) hS (fun locs hS => ?_)
            refine lv_if_eq (tgt := 70) hx hb dC_seal_47 rfl (fun h5 => ?_) (fun h5 => ?_)
            · refine lv_iconst (v := 0) hx hb dC_seal_70 (by decide) ?_
              exact J9 _ _ (by unfold tC_seal; rw [if_neg h4, if_pos h5]) hS
            · refine lv_aload_n hx hb dC_seal_50 rfl (lv_at hl 0 rfl) ?_
              refine va_get (D := D) (ci := 0) (v := .ref (q 2)) (C := "CapUnit") (T := TC) (N := 7) hx hb hq uC_in hown hK hP 0 rfl rfl 1 (by decide) (hq _ q_20) (fun _ h9 => h9) rfl dC_seal_51 ?_
              refine lv_iload_n hx hb dC_seal_54 rfl (lv_at hl 3 rfl) ?_
              refine va_iald hx hb hK hP 2 1 rfl rfl (i := y) gy dC_seal_55 ?_
              refine zc_l (va_runS (As := [.int (ad y.toNatClampNeg)]) (rest := []) ⟨hx, hb, hml, hown, hq⟩ (kC_unsigned l s.heap (ad y.toNatClampNeg)) (va_cwS 1 hq (wA_S q_63 q_64 q_1 q_65) rfl rfl rfl (by decide +kernel) ⟨Nat.le_of_ble_eq_true rfl, Nat.le_of_ble_eq_true rfl⟩) ⟨fun a U g mk q => q, fun U hU hW => ⟨rfl, hU⟩⟩ rfl rfl hl.1 rfl (lv_room (Nat.le_of_ble_eq_true rfl)) dC_seal_56 ⟨Nat.zero_le _, Nat.zero_le _⟩) hS (fun locs hS => ?_)
              refine lv_ldc2 (v := 12) hx hb hown (hts (.constantLong "CapUnit" 108 12) (by decide +kernel)) dC_seal_59 ?_
              refine W.lcmp hx hb dC_seal_62 ?_
              refine lv_if_ge (tgt := 70) hx hb dC_seal_63 rfl (fun h6 => ?_) (fun h6 => ?_)
              · have h6 := (lg_cmp_ge _ _).mp h6
                refine lv_iconst (v := 0) hx hb dC_seal_70 (by decide) ?_
                exact J9 _ _ (by unfold tC_seal; rw [if_neg h4, if_neg h5, if_pos h6]) hS
              · have h6 := Not.imp h6 (lg_cmp_ge _ _).mpr
                refine lv_iconst (v := 1) hx hb dC_seal_66 (by decide) ?_
                refine lv_goto (tgt := 71) hx hb dC_seal_67 rfl ?_
                exact J9 _ _ (by unfold tC_seal; rw [if_neg h4, if_neg h5, if_neg h6]) hS
      · exact vx_throwS (rest := []) (names := xUp) (A := A) hx hb hl0 hown (by decide +kernel) (by decide +kernel) (hq _ q_109) (hq _ q_6) hX.2.2.2.2.2.2.2.1.choose_spec (x_all hq x_good39 x_bad39 hX.2.1.1 hX.2.2.2.1.1 hX.2.2.2.1.2.1 hX.2.2.2.1.2.2) x_ot39 hX.1.1 hX.1.2 hS (hl.1.trans hml.symm) dC_seal_21 dC_seal_24 dC_seal_25 dC_seal_27 dC_seal_30 (fun x h9 => (hnt x h9).elim) (Nat.le_of_ble_eq_true rfl) (Nat.le_of_ble_eq_true rfl) (Nat.le_of_ble_eq_true rfl) (Nat.le_of_ble_eq_true rfl) hlocks (fun t9 ha hz hk9 => ⟨(), trivial, ⟨Or.inl ⟨rfl, (by unfold xC_seal; rw [if_neg h1, if_neg h2, if_pos h3])⟩, hP.kept (fun _ q9 hq9 => hk9 q9.1 (vx_lt hP hq9)), va_K.moved ha hK⟩, hz, fun q9 h1 _ => hk9 q9 h1⟩) hS.2.2 (by decide) (by decide)
def tC_unseal (tg : Nat → Int32) (ad : Nat → Int32) (mt : Nat → Int32) (d : Int32) (r : Int32) (y : Int32) : Int32 := if (tg r.toNatClampNeg) = 0 then (0 : Int32) else (if (12 : Int32) ≤ (fC_typeOf (mt r.toNatClampNeg)) then (0 : Int32) else (if (fC_typeOf (mt r.toNatClampNeg)) = (ad y.toNatClampNeg) then (if (fC_isKey tg ad mt y (512 : Int32)) = 0 then (0 : Int32) else (1 : Int32)) else (0 : Int32)))
theorem btC_unseal (tg : Nat → Int32) (ad : Nat → Int32) (mt : Nat → Int32) (d : Int32) (r : Int32) (y : Int32) : tC_unseal tg ad mt d r y = 0 ∨ tC_unseal tg ad mt d r y = 1 := by
  unfold tC_unseal
  repeat' split
  all_goals first | exact Or.inl rfl | exact Or.inr rfl
def mC_unseal (tg : Nat → Int32) (ad : Nat → Int32) (mt : Nat → Int32) (d : Int32) (r : Int32) (y : Int32) : Int32 := if (fC_hasPerm tg ad mt y (1 : Int32)) = 0 then ((fC_withType (mt r.toNatClampNeg) (15 : Int32)) &&& (-1048577 : Int32)) else (fC_withType (mt r.toNatClampNeg) (15 : Int32))
def xC_unseal (tg : Nat → Int32) (ad : Nat → Int32) (mt : Nat → Int32) (d : Int32) (r : Int32) (y : Int32) : Int32 := if (fC_isRegister r) = 0 then 1 else (if (fC_isRegister d) = 0 then 1 else (if (fC_isRegister y) = 0 then 1 else (if (fC_hasPerm tg ad mt y (1 : Int32)) = 0 then 0 else 0)))
set_option maxHeartbeats 4000000 in
set_option maxRecDepth 100000 in
theorem kC_unseal (l : Launch) (hl0 : l.stackTraces = false) {D : va_G} {q : Nat → Nat} {k : Nat → ClassId} {tg : Nat → Int32} {ad : Nat → Int32} {mt : Nat → Int32} {rb : Nat → Int64} {rt : Nat → Int64} {rp : Nat → Int32} {nr : Int32} {A : Nat → Prop} (d : Int32) (r : Int32) (y : Int32) : vx_Met l yC_unseal wC_unseal { frames := 6, cells := 1, slots := 6, locals := 145 } (va_Pc [.ref (q 0), .int d, .int r, .int y] (fun U => va_P D zCl (cW q k tg ad mt rb rt rp nr) U.heap ∧ va_K D zCl (zT k) U ∧ va_D A (cW q k tg ad mt rb rt rp nr) ∧ zX A U U.heap)) (va_Qi (fun v9 (_ : Unit) => xC_unseal tg ad mt d r y = 0 ∧ v9 = zSr d (tC_unseal tg ad mt d r y)) (fun _ t => va_P D zCl (cW q k (zS d (tC_unseal tg ad mt d r y) tg) (zS d (ad r.toNatClampNeg) ad) (zS d (mC_unseal tg ad mt d r y) mt) rb rt rp nr) t.heap ∧ va_K D zCl (zT k) t ∧ va_D A (cW q k (zS d (tC_unseal tg ad mt d r y) tg) (zS d (ad r.toNatClampNeg) ad) (zS d (mC_unseal tg ad mt d r y) mt) rb rt rp nr)) A) (vx_X (fun _ : Unit => True) (fun E _ t => zE E (xC_unseal tg ad mt d r y) ∧ va_P D zCl (cW q k tg ad mt rb rt rp nr) t.heap ∧ va_K D zCl (zT k) t) A) 1 6 A := by
  refine vx_ofW (cc := cC_unseal) (maxL := 7) (ret := (some .boolean)) (by decide) rfl ?_
  intro p e s m args below meth c s₁ B hml hnt hv
  obtain ⟨rfl, hP, hK, hD, hX⟩ := hv
  have hx := B.exec
  have hb := B.bytes
  have hr := B.returns
  have hts := atoms_spec (ws := wC_unseal) B.pre
  have hq : ∀ w ∈ wA, w.before _ s = true := fun w h => hts w (List.mem_cons_of_mem _ h)
  have hown : s.vm.findClass "CapUnit" = some m.cls := findClass_of_methodNamed B.named
  have hlocks := B.notSynchronized
  have hS : va_S A s.heap s.heap [] := va_S.rf
  have hl := lv_entry ([.ref (q 0), .int d, .int r, .int y]) (n := 7) (Nat.le_of_ble_eq_true rfl)
  rw [lg_entry_eq]
  generalize (lg_sl ([.ref (q 0), .int d, .int r, .int y]) ++ List.replicate (7 - (lg_sl ([.ref (q 0), .int d, .int r, .int y])).length) Slot.unset).toArray = ls at hl ⊢
  have hl : lv_has ls 7 [(0, .ref (q 0)), (1, .int d), (2, .int r), (3, .int y)] := hl
  refine lv_iload_n hx hb dC_unseal_0 rfl (lv_at hl 2 rfl) ?_
  refine zc_i (va_runS (As := [.int r]) (rest := []) ⟨hx, hb, hml, hown, hq⟩ (kC_isRegister l s.heap r) (va_cwS 1 hq (wA_S q_243 q_244 q_1 q_245) rfl rfl rfl (by decide +kernel) ⟨Nat.le_of_ble_eq_true rfl, Nat.le_of_ble_eq_true rfl⟩) ⟨fun a U g mk q => q, fun U hU hW => ⟨rfl, hU⟩⟩ rfl rfl hl.1 rfl (lv_room (Nat.le_of_ble_eq_true rfl)) dC_unseal_1 ⟨Nat.zero_le _, Nat.zero_le _⟩) hS (fun locs hS => ?_)
  refine lv_if_eq (tgt := 21) hx hb dC_unseal_4 rfl (fun h1 => ?_) (fun h1 => ?_)
  · exact vx_throwS (rest := []) (names := xUp) (A := A) hx hb hl0 hown (by decide +kernel) (by decide +kernel) (hq _ q_109) (hq _ q_6) hX.2.2.2.2.2.2.2.1.choose_spec (x_all hq x_good39 x_bad39 hX.2.1.1 hX.2.2.2.1.1 hX.2.2.2.1.2.1 hX.2.2.2.1.2.2) x_ot39 hX.1.1 hX.1.2 hS (hl.1.trans hml.symm) dC_unseal_21 dC_unseal_24 dC_unseal_25 dC_unseal_27 dC_unseal_30 (fun x h9 => (hnt x h9).elim) (Nat.le_of_ble_eq_true rfl) (Nat.le_of_ble_eq_true rfl) (Nat.le_of_ble_eq_true rfl) (Nat.le_of_ble_eq_true rfl) hlocks (fun t9 ha hz hk9 => ⟨(), trivial, ⟨Or.inl ⟨rfl, (by unfold xC_unseal; rw [if_pos h1])⟩, hP.kept (fun _ q9 hq9 => hk9 q9.1 (vx_lt hP hq9)), va_K.moved ha hK⟩, hz, fun q9 h1 _ => hk9 q9 h1⟩) hS.2.2 (by decide) (by decide)
  · have gr := zz_reg h1
    refine lv_iload_n hx hb dC_unseal_7 rfl (lv_at hl 1 rfl) ?_
    refine zc_i (va_runS (As := [.int d]) (rest := []) ⟨hx, hb, hml, hown, hq⟩ (kC_isRegister l s.heap d) (va_cwS 1 hq (wA_S q_243 q_244 q_1 q_245) rfl rfl rfl (by decide +kernel) ⟨Nat.le_of_ble_eq_true rfl, Nat.le_of_ble_eq_true rfl⟩) ⟨fun a U g mk q => q, fun U hU hW => ⟨rfl, hU⟩⟩ rfl rfl hl.1 rfl (lv_room (Nat.le_of_ble_eq_true rfl)) dC_unseal_8 ⟨Nat.zero_le _, Nat.zero_le _⟩) hS (fun locs hS => ?_)
    refine lv_if_eq (tgt := 21) hx hb dC_unseal_11 rfl (fun h2 => ?_) (fun h2 => ?_)
    · exact vx_throwS (rest := []) (names := xUp) (A := A) hx hb hl0 hown (by decide +kernel) (by decide +kernel) (hq _ q_109) (hq _ q_6) hX.2.2.2.2.2.2.2.1.choose_spec (x_all hq x_good39 x_bad39 hX.2.1.1 hX.2.2.2.1.1 hX.2.2.2.1.2.1 hX.2.2.2.1.2.2) x_ot39 hX.1.1 hX.1.2 hS (hl.1.trans hml.symm) dC_unseal_21 dC_unseal_24 dC_unseal_25 dC_unseal_27 dC_unseal_30 (fun x h9 => (hnt x h9).elim) (Nat.le_of_ble_eq_true rfl) (Nat.le_of_ble_eq_true rfl) (Nat.le_of_ble_eq_true rfl) (Nat.le_of_ble_eq_true rfl) hlocks (fun t9 ha hz hk9 => ⟨(), trivial, ⟨Or.inl ⟨rfl, (by unfold xC_unseal; rw [if_neg h1, if_pos h2])⟩, hP.kept (fun _ q9 hq9 => hk9 q9.1 (vx_lt hP hq9)), va_K.moved ha hK⟩, hz, fun q9 h1 _ => hk9 q9 h1⟩) hS.2.2 (by decide) (by decide)
    · have gd := zz_reg h2
      refine lv_iload_n hx hb dC_unseal_14 rfl (lv_at hl 3 rfl) ?_
      refine zc_i (va_runS (As := [.int y]) (rest := []) ⟨hx, hb, hml, hown, hq⟩ (kC_isRegister l s.heap y) (va_cwS 1 hq (wA_S q_243 q_244 q_1 q_245) rfl rfl rfl (by decide +kernel) ⟨Nat.le_of_ble_eq_true rfl, Nat.le_of_ble_eq_true rfl⟩) ⟨fun a U g mk q => q, fun U hU hW => ⟨rfl, hU⟩⟩ rfl rfl hl.1 rfl (lv_room (Nat.le_of_ble_eq_true rfl)) dC_unseal_15 ⟨Nat.zero_le _, Nat.zero_le _⟩) hS (fun locs hS => ?_)
      refine lv_if_ne (tgt := 31) hx hb dC_unseal_18 rfl (fun h3 => ?_) (fun h3 => ?_)
      · have gy := zz_reg h3
        refine lv_aload_n hx hb dC_unseal_31 rfl (lv_at hl 0 rfl) ?_
        refine va_get (D := D) (ci := 0) (v := .ref (q 3)) (C := "CapUnit") (T := TC) (N := 7) hx hb hq uC_in hown hK hP 0 rfl rfl 2 (by decide) (hq _ q_21) (fun _ h9 => h9) rfl dC_unseal_32 ?_
        refine lv_iload_n hx hb dC_unseal_35 rfl (lv_at hl 2 rfl) ?_
        refine va_iald hx hb hK hP 3 1 rfl rfl (i := r) gr dC_unseal_36 ?_
        refine zc_i (va_runS (As := [.int (mt r.toNatClampNeg)]) (rest := []) ⟨hx, hb, hml, hown, hq⟩ (kC_typeOf l s.heap (mt r.toNatClampNeg)) (va_cwS 1 hq (wA_S q_261 q_262 q_1 q_263) rfl rfl rfl (by decide +kernel) ⟨Nat.le_of_ble_eq_true rfl, Nat.le_of_ble_eq_true rfl⟩) ⟨fun a U g mk q => q, fun U hU hW => ⟨rfl, hU⟩⟩ rfl rfl hl.1 rfl (lv_room (Nat.le_of_ble_eq_true rfl)) dC_unseal_37 ⟨Nat.zero_le _, Nat.zero_le _⟩) hS (fun locs hS => ?_)
        refine lv_istore (lv' := [(4, .int (fC_typeOf (mt r.toNatClampNeg))), (0, .ref (q 0)), (1, .int d), (2, .int r), (3, .int y)]) hx hb dC_unseal_40 hl (by decide) rfl (fun ls hl => ?_)
        refine zj_i (A0 := A) (H0 := s.heap) (tC_unseal tg ad mt d r y) 85 [] (fun locs hS => ?_) (fun J9 => ?_)
        · refine lv_istore (lv' := [(5, .int (tC_unseal tg ad mt d r y)), (4, .int (fC_typeOf (mt r.toNatClampNeg))), (0, .ref (q 0)), (1, .int d), (2, .int r), (3, .int y)]) hx hb dC_unseal_85 hl (by decide) rfl (fun ls hl => ?_)
          refine lv_aload_n hx hb dC_unseal_87 rfl (lv_at hl 2 rfl) ?_
          refine va_get (D := D) (ci := 0) (v := .ref (q 3)) (C := "CapUnit") (T := TC) (N := 7) hx hb hq uC_in hown hK hP 0 rfl rfl 2 (by decide) (hq _ q_21) (fun _ h9 => h9) rfl dC_unseal_88 ?_
          refine lv_iload_n hx hb dC_unseal_91 rfl (lv_at hl 4 rfl) ?_
          refine va_iald hx hb hK hP 3 1 rfl rfl (i := r) gr dC_unseal_92 ?_
          refine lv_bipush (v := 15) hx hb dC_unseal_93 (by decide) ?_
          refine zc_i (va_runS (As := [.int (mt r.toNatClampNeg), .int (15 : Int32)]) (rest := []) ⟨hx, hb, hml, hown, hq⟩ (kC_withType l s.heap (mt r.toNatClampNeg) (15 : Int32)) (va_cwS 2 hq (wA_S q_298 q_299 q_1 q_300) rfl rfl rfl (by decide +kernel) ⟨Nat.le_of_ble_eq_true rfl, Nat.le_of_ble_eq_true rfl⟩) ⟨fun a U g mk q => q, fun U hU hW => ⟨rfl, hU⟩⟩ rfl rfl hl.1 rfl (lv_room (Nat.le_of_ble_eq_true rfl)) dC_unseal_95 ⟨Nat.zero_le _, Nat.zero_le _⟩) hS (fun locs hS => ?_)
          refine lv_istore (lv' := [(6, .int (fC_withType (mt r.toNatClampNeg) (15 : Int32))), (5, .int (tC_unseal tg ad mt d r y)), (4, .int (fC_typeOf (mt r.toNatClampNeg))), (0, .ref (q 0)), (1, .int d), (2, .int r), (3, .int y)]) hx hb dC_unseal_98 hl (by decide) rfl (fun ls hl => ?_)
          refine lv_aload_n hx hb dC_unseal_100 rfl (lv_at hl 3 rfl) ?_
          refine lv_iload_n hx hb dC_unseal_101 rfl (lv_at hl 6 rfl) ?_
          refine lv_iconst (v := 1) hx hb dC_unseal_102 (by decide) ?_
          refine zc_i (va_runV (C := "CapUnit") (b := q 0) (As := [.int y, .int (1 : Int32)]) (rest := []) ⟨hx, hb, hml, hown, hq⟩ (kC_hasPerm l hP y (1 : Int32) gy) (cwV 2 hq (wA_V q_293 q_295 sC_hasPerm q_1 q_296) rfl rfl rfl (by decide +kernel) ⟨Nat.le_of_ble_eq_true rfl, Nat.le_of_ble_eq_true rfl⟩) (zr_pre (c := zCl[0]) (q0 := 0) hK hP rfl rfl) rfl rfl hl.1 rfl (lv_room (Nat.le_of_ble_eq_true rfl)) dC_unseal_103 ⟨Nat.le_of_ble_eq_true rfl, Nat.le_of_ble_eq_true rfl⟩) hS (fun locs hS => ?_)
          refine lv_if_ne (tgt := 116) hx hb dC_unseal_106 rfl (fun h4 => ?_) (fun h4 => ?_)
          · refine lv_aload_n hx hb dC_unseal_116 rfl (lv_at hl 3 rfl) ?_
            refine lv_iload_n hx hb dC_unseal_117 rfl (lv_at hl 4 rfl) ?_
            refine lv_iload hx hb dC_unseal_118 (lv_at hl 1 rfl) ?_
            refine lv_aload_n hx hb dC_unseal_120 rfl (lv_at hl 3 rfl) ?_
            refine va_get (D := D) (ci := 0) (v := .ref (q 2)) (C := "CapUnit") (T := TC) (N := 7) hx hb hq uC_in hown hK hP 0 rfl rfl 1 (by decide) (hq _ q_20) (fun _ h9 => h9) rfl dC_unseal_121 ?_
            refine lv_iload_n hx hb dC_unseal_124 rfl (lv_at hl 5 rfl) ?_
            refine va_iald hx hb hK hP 2 1 rfl rfl (i := r) gr dC_unseal_125 ?_
            refine lv_iload hx hb dC_unseal_126 (lv_at hl 0 rfl) ?_
            refine zt_i (show _ = mC_unseal tg ad mt d r y by unfold mC_unseal; rw [if_neg h4]) ?_
            refine va_calli (va_runV (C := "CapUnit") (b := q 0) (As := [.int d, .int (tC_unseal tg ad mt d r y), .int (ad r.toNatClampNeg), .int (mC_unseal tg ad mt d r y)]) (rest := []) ⟨hx, hb, hml, hown, hq⟩ (kC_become l d (tC_unseal tg ad mt d r y) (ad r.toNatClampNeg) (mC_unseal tg ad mt d r y) gd (btC_unseal tg ad mt d r y)) (cwV 4 hq (wA_V q_232 q_234 sC_become q_1 q_235) rfl rfl rfl (by decide +kernel) ⟨Nat.le_of_ble_eq_true rfl, Nat.le_of_ble_eq_true rfl⟩) (zw_pre (c := zCl[0]) (q0 := 0) hK hP hD rfl rfl) rfl rfl hl.1 rfl (lv_room (Nat.le_of_ble_eq_true rfl)) dC_unseal_128 ⟨Nat.le_of_ble_eq_true rfl, Nat.le_of_ble_eq_true rfl⟩) hS (fun _ _ h9 => h9) (fun _ h9 => h9) (fun v9 u9 t9 H locs ht9 hvm9 hv9 hB9 hz9 hk9 hS => ?_)
            obtain ⟨hP, -, hD⟩ := hB9
            rw [ht9] at hP
            subst hv9
            clear hz9 hk9
            refine vx_ret (W.widen (k := 1) (n := 6) (by decide) (by decide) ?_)
            exact W.zret (v := zSr d (tC_unseal tg ad mt d r y)) hx hb hr (zz_nar (zSr_b (btC_unseal tg ad mt d r y))) (fun t9 ht hW => ⟨⟨_, (), rfl, ⟨(by unfold xC_unseal; rw [if_neg h1, if_neg h2, if_neg h3, if_neg h4]), (rfl)⟩, by rw [ht]; exact hP, va_K.moved hW.alike hK, hD⟩, hS.F ht⟩) hS.2.2 dC_unseal_131
          · refine lv_iload hx hb dC_unseal_109 (lv_at hl 0 rfl) ?_
            refine lv_ldc (v := -1048577) hx hb hown (hts (.constant "CapUnit" 121 (-1048577)) (by decide +kernel)) dC_unseal_111 ?_
            refine lv_iand hx hb dC_unseal_113 ?_
            refine lv_istore (lv' := [(6, .int ((fC_withType (mt r.toNatClampNeg) (15 : Int32)) &&& (-1048577 : Int32))), (5, .int (tC_unseal tg ad mt d r y)), (4, .int (fC_typeOf (mt r.toNatClampNeg))), (0, .ref (q 0)), (1, .int d), (2, .int r), (3, .int y)]) hx hb dC_unseal_114 hl (by decide) rfl (fun ls hl => ?_)
            refine lv_aload_n hx hb dC_unseal_116 rfl (lv_at hl 3 rfl) ?_
            refine lv_iload_n hx hb dC_unseal_117 rfl (lv_at hl 4 rfl) ?_
            refine lv_iload hx hb dC_unseal_118 (lv_at hl 1 rfl) ?_
            refine lv_aload_n hx hb dC_unseal_120 rfl (lv_at hl 3 rfl) ?_
            refine va_get (D := D) (ci := 0) (v := .ref (q 2)) (C := "CapUnit") (T := TC) (N := 7) hx hb hq uC_in hown hK hP 0 rfl rfl 1 (by decide) (hq _ q_20) (fun _ h9 => h9) rfl dC_unseal_121 ?_
            refine lv_iload_n hx hb dC_unseal_124 rfl (lv_at hl 5 rfl) ?_
            refine va_iald hx hb hK hP 2 1 rfl rfl (i := r) gr dC_unseal_125 ?_
            refine lv_iload hx hb dC_unseal_126 (lv_at hl 0 rfl) ?_
            refine zt_i (show _ = mC_unseal tg ad mt d r y by unfold mC_unseal; rw [if_pos h4]) ?_
            refine va_calli (va_runV (C := "CapUnit") (b := q 0) (As := [.int d, .int (tC_unseal tg ad mt d r y), .int (ad r.toNatClampNeg), .int (mC_unseal tg ad mt d r y)]) (rest := []) ⟨hx, hb, hml, hown, hq⟩ (kC_become l d (tC_unseal tg ad mt d r y) (ad r.toNatClampNeg) (mC_unseal tg ad mt d r y) gd (btC_unseal tg ad mt d r y)) (cwV 4 hq (wA_V q_232 q_234 sC_become q_1 q_235) rfl rfl rfl (by decide +kernel) ⟨Nat.le_of_ble_eq_true rfl, Nat.le_of_ble_eq_true rfl⟩) (zw_pre (c := zCl[0]) (q0 := 0) hK hP hD rfl rfl) rfl rfl hl.1 rfl (lv_room (Nat.le_of_ble_eq_true rfl)) dC_unseal_128 ⟨Nat.le_of_ble_eq_true rfl, Nat.le_of_ble_eq_true rfl⟩) hS (fun _ _ h9 => h9) (fun _ h9 => h9) (fun v9 u9 t9 H locs ht9 hvm9 hv9 hB9 hz9 hk9 hS => ?_)
            obtain ⟨hP, -, hD⟩ := hB9
            rw [ht9] at hP
            subst hv9
            clear hz9 hk9
            refine vx_ret (W.widen (k := 1) (n := 6) (by decide) (by decide) ?_)
            exact W.zret (v := zSr d (tC_unseal tg ad mt d r y)) hx hb hr (zz_nar (zSr_b (btC_unseal tg ad mt d r y))) (fun t9 ht hW => ⟨⟨_, (), rfl, ⟨(by unfold xC_unseal; rw [if_neg h1, if_neg h2, if_neg h3, if_pos h4]), (rfl)⟩, by rw [ht]; exact hP, va_K.moved hW.alike hK, hD⟩, hS.F ht⟩) hS.2.2 dC_unseal_131
        · refine lv_aload_n hx hb dC_unseal_42 rfl (lv_at hl 1 rfl) ?_
          refine va_get (D := D) (ci := 0) (v := .ref (q 1)) (C := "CapUnit") (T := TC) (N := 7) hx hb hq uC_in hown hK hP 0 rfl rfl 0 (by decide) (hq _ q_19) (fun _ h9 => h9) rfl dC_unseal_43 ?_
          refine lv_iload_n hx hb dC_unseal_46 rfl (lv_at hl 3 rfl) ?_
          refine va_zald hx hb hK hP 1 0 rfl rfl (i := r) gr dC_unseal_47 ?_
          refine lv_if_eq (tgt := 84) hx hb dC_unseal_48 rfl (fun h5 => ?_) (fun h5 => ?_)
          · refine lv_iconst (v := 0) hx hb dC_unseal_84 (by decide) ?_
            exact J9 _ _ (by unfold tC_unseal; rw [if_pos h5]) hS
          · refine lv_iload hx hb dC_unseal_51 (lv_at hl 0 rfl) ?_
            refine lv_bipush (v := 12) hx hb dC_unseal_53 (by decide) ?_
            refine lv_icmp_ge (tgt := 84) hx hb dC_unseal_55 rfl (fun h6 => ?_) (fun h6 => ?_)
            · refine lv_iconst (v := 0) hx hb dC_unseal_84 (by decide) ?_
              exact J9 _ _ (by unfold tC_unseal; rw [if_neg h5, if_pos h6]) hS
            · refine lv_iload hx hb dC_unseal_58 (lv_at hl 0 rfl) ?_
              refine lv_aload_n hx hb dC_unseal_60 rfl (lv_at hl 1 rfl) ?_
              refine va_get (D := D) (ci := 0) (v := .ref (q 2)) (C := "CapUnit") (T := TC) (N := 7) hx hb hq uC_in hown hK hP 0 rfl rfl 1 (by decide) (hq _ q_20) (fun _ h9 => h9) rfl dC_unseal_61 ?_
              refine lv_iload_n hx hb dC_unseal_64 rfl (lv_at hl 4 rfl) ?_
              refine va_iald hx hb hK hP 2 1 rfl rfl (i := y) gy dC_unseal_65 ?_
              refine lv_icmp_ne (tgt := 84) hx hb dC_unseal_66 rfl (fun h7 => ?_) (fun h7 => ?_)
              · refine lv_iconst (v := 0) hx hb dC_unseal_84 (by decide) ?_
                exact J9 _ _ (by unfold tC_unseal; rw [if_neg h5, if_neg h6, if_neg h7]) hS
              · refine lv_aload_n hx hb dC_unseal_69 rfl (lv_at hl 1 rfl) ?_
                refine lv_iload_n hx hb dC_unseal_70 rfl (lv_at hl 4 rfl) ?_
                refine lv_sipush (v := 512) hx hb dC_unseal_71 (by decide) ?_
                refine zc_i (va_runV (C := "CapUnit") (b := q 0) (As := [.int y, .int (512 : Int32)]) (rest := []) ⟨hx, hb, hml, hown, hq⟩ (kC_isKey l hP y (512 : Int32) gy) (cwV 2 hq (wA_V q_289 q_291 sC_isKey q_1 q_292) rfl rfl rfl (by decide +kernel) ⟨Nat.le_of_ble_eq_true rfl, Nat.le_of_ble_eq_true rfl⟩) (zr_pre (c := zCl[0]) (q0 := 0) hK hP rfl rfl) rfl rfl hl.1 rfl (lv_room (Nat.le_of_ble_eq_true rfl)) dC_unseal_74 ⟨Nat.le_of_ble_eq_true rfl, Nat.le_of_ble_eq_true rfl⟩) hS (fun locs hS => ?_)
                refine lv_if_eq (tgt := 84) hx hb dC_unseal_77 rfl (fun h8 => ?_) (fun h8 => ?_)
                · refine lv_iconst (v := 0) hx hb dC_unseal_84 (by decide) ?_
                  exact J9 _ _ (by unfold tC_unseal; rw [if_neg h5, if_neg h6, if_pos h7, if_pos h8]) hS
                · refine lv_iconst (v := 1) hx hb dC_unseal_80 (by decide) ?_
                  refine lv_goto (tgt := 85) hx hb dC_unseal_81 rfl ?_
                  exact J9 _ _ (by unfold tC_unseal; rw [if_neg h5, if_neg h6, if_pos h7, if_neg h8]) hS
      · exact vx_throwS (rest := []) (names := xUp) (A := A) hx hb hl0 hown (by decide +kernel) (by decide +kernel) (hq _ q_109) (hq _ q_6) hX.2.2.2.2.2.2.2.1.choose_spec (x_all hq x_good39 x_bad39 hX.2.1.1 hX.2.2.2.1.1 hX.2.2.2.1.2.1 hX.2.2.2.1.2.2) x_ot39 hX.1.1 hX.1.2 hS (hl.1.trans hml.symm) dC_unseal_21 dC_unseal_24 dC_unseal_25 dC_unseal_27 dC_unseal_30 (fun x h9 => (hnt x h9).elim) (Nat.le_of_ble_eq_true rfl) (Nat.le_of_ble_eq_true rfl) (Nat.le_of_ble_eq_true rfl) (Nat.le_of_ble_eq_true rfl) hlocks (fun t9 ha hz hk9 => ⟨(), trivial, ⟨Or.inl ⟨rfl, (by unfold xC_unseal; rw [if_neg h1, if_neg h2, if_pos h3])⟩, hP.kept (fun _ q9 hq9 => hk9 q9.1 (vx_lt hP hq9)), va_K.moved ha hK⟩, hz, fun q9 h1 _ => hk9 q9 h1⟩) hS.2.2 (by decide) (by decide)
def tC_gate (tg : Nat → Int32) (ad : Nat → Int32) (mt : Nat → Int32) (d : Int32) (r : Int32) : Int32 := if (fC_isOpenWithTag tg ad mt r) = 0 then (0 : Int32) else (if (fC_hasPerm tg ad mt r (2 : Int32)) = 0 then (0 : Int32) else (1 : Int32))
theorem btC_gate (tg : Nat → Int32) (ad : Nat → Int32) (mt : Nat → Int32) (d : Int32) (r : Int32) : tC_gate tg ad mt d r = 0 ∨ tC_gate tg ad mt d r = 1 := by
  unfold tC_gate
  repeat' split
  all_goals first | exact Or.inl rfl | exact Or.inr rfl
def xC_gate (tg : Nat → Int32) (ad : Nat → Int32) (mt : Nat → Int32) (d : Int32) (r : Int32) : Int32 := if (fC_isRegister r) = 0 then 1 else (if (fC_isRegister d) = 0 then 1 else 0)
set_option maxHeartbeats 4000000 in
set_option maxRecDepth 100000 in
theorem kC_gate (l : Launch) (hl0 : l.stackTraces = false) {D : va_G} {q : Nat → Nat} {k : Nat → ClassId} {tg : Nat → Int32} {ad : Nat → Int32} {mt : Nat → Int32} {rb : Nat → Int64} {rt : Nat → Int64} {rp : Nat → Int32} {nr : Int32} {A : Nat → Prop} (d : Int32) (r : Int32) : vx_Met l yC_gate wC_gate { frames := 6, cells := 1, slots := 6, locals := 82 } (va_Pc [.ref (q 0), .int d, .int r] (fun U => va_P D zCl (cW q k tg ad mt rb rt rp nr) U.heap ∧ va_K D zCl (zT k) U ∧ va_D A (cW q k tg ad mt rb rt rp nr) ∧ zX A U U.heap)) (va_Qi (fun v9 (_ : Unit) => xC_gate tg ad mt d r = 0 ∧ v9 = zSr d (tC_gate tg ad mt d r)) (fun _ t => va_P D zCl (cW q k (zS d (tC_gate tg ad mt d r) tg) (zS d (ad r.toNatClampNeg) ad) (zS d (fC_withType (mt r.toNatClampNeg) (14 : Int32)) mt) rb rt rp nr) t.heap ∧ va_K D zCl (zT k) t ∧ va_D A (cW q k (zS d (tC_gate tg ad mt d r) tg) (zS d (ad r.toNatClampNeg) ad) (zS d (fC_withType (mt r.toNatClampNeg) (14 : Int32)) mt) rb rt rp nr)) A) (vx_X (fun _ : Unit => True) (fun E _ t => zE E (xC_gate tg ad mt d r) ∧ va_P D zCl (cW q k tg ad mt rb rt rp nr) t.heap ∧ va_K D zCl (zT k) t) A) 1 6 A := by
  refine vx_ofW (cc := cC_gate) (maxL := 4) (ret := (some .boolean)) (by decide) rfl ?_
  intro p e s m args below meth c s₁ B hml hnt hv
  obtain ⟨rfl, hP, hK, hD, hX⟩ := hv
  have hx := B.exec
  have hb := B.bytes
  have hr := B.returns
  have hts := atoms_spec (ws := wC_gate) B.pre
  have hq : ∀ w ∈ wA, w.before _ s = true := fun w h => hts w (List.mem_cons_of_mem _ h)
  have hown : s.vm.findClass "CapUnit" = some m.cls := findClass_of_methodNamed B.named
  have hlocks := B.notSynchronized
  have hS : va_S A s.heap s.heap [] := va_S.rf
  have hl := lv_entry ([.ref (q 0), .int d, .int r]) (n := 4) (Nat.le_of_ble_eq_true rfl)
  rw [lg_entry_eq]
  generalize (lg_sl ([.ref (q 0), .int d, .int r]) ++ List.replicate (4 - (lg_sl ([.ref (q 0), .int d, .int r])).length) Slot.unset).toArray = ls at hl ⊢
  have hl : lv_has ls 4 [(0, .ref (q 0)), (1, .int d), (2, .int r)] := hl
  refine lv_iload_n hx hb dC_gate_0 rfl (lv_at hl 2 rfl) ?_
  refine zc_i (va_runS (As := [.int r]) (rest := []) ⟨hx, hb, hml, hown, hq⟩ (kC_isRegister l s.heap r) (va_cwS 1 hq (wA_S q_243 q_244 q_1 q_245) rfl rfl rfl (by decide +kernel) ⟨Nat.le_of_ble_eq_true rfl, Nat.le_of_ble_eq_true rfl⟩) ⟨fun a U g mk q => q, fun U hU hW => ⟨rfl, hU⟩⟩ rfl rfl hl.1 rfl (lv_room (Nat.le_of_ble_eq_true rfl)) dC_gate_1 ⟨Nat.zero_le _, Nat.zero_le _⟩) hS (fun locs hS => ?_)
  refine lv_if_eq (tgt := 14) hx hb dC_gate_4 rfl (fun h1 => ?_) (fun h1 => ?_)
  · exact vx_throwS (rest := []) (names := xUp) (A := A) hx hb hl0 hown (by decide +kernel) (by decide +kernel) (hq _ q_109) (hq _ q_6) hX.2.2.2.2.2.2.2.1.choose_spec (x_all hq x_good39 x_bad39 hX.2.1.1 hX.2.2.2.1.1 hX.2.2.2.1.2.1 hX.2.2.2.1.2.2) x_ot39 hX.1.1 hX.1.2 hS (hl.1.trans hml.symm) dC_gate_14 dC_gate_17 dC_gate_18 dC_gate_20 dC_gate_23 (fun x h9 => (hnt x h9).elim) (Nat.le_of_ble_eq_true rfl) (Nat.le_of_ble_eq_true rfl) (Nat.le_of_ble_eq_true rfl) (Nat.le_of_ble_eq_true rfl) hlocks (fun t9 ha hz hk9 => ⟨(), trivial, ⟨Or.inl ⟨rfl, (by unfold xC_gate; rw [if_pos h1])⟩, hP.kept (fun _ q9 hq9 => hk9 q9.1 (vx_lt hP hq9)), va_K.moved ha hK⟩, hz, fun q9 h1 _ => hk9 q9 h1⟩) hS.2.2 (by decide) (by decide)
  · have gr := zz_reg h1
    refine lv_iload_n hx hb dC_gate_7 rfl (lv_at hl 1 rfl) ?_
    refine zc_i (va_runS (As := [.int d]) (rest := []) ⟨hx, hb, hml, hown, hq⟩ (kC_isRegister l s.heap d) (va_cwS 1 hq (wA_S q_243 q_244 q_1 q_245) rfl rfl rfl (by decide +kernel) ⟨Nat.le_of_ble_eq_true rfl, Nat.le_of_ble_eq_true rfl⟩) ⟨fun a U g mk q => q, fun U hU hW => ⟨rfl, hU⟩⟩ rfl rfl hl.1 rfl (lv_room (Nat.le_of_ble_eq_true rfl)) dC_gate_8 ⟨Nat.zero_le _, Nat.zero_le _⟩) hS (fun locs hS => ?_)
    refine lv_if_ne (tgt := 24) hx hb dC_gate_11 rfl (fun h2 => ?_) (fun h2 => ?_)
    · have gd := zz_reg h2
      refine zj_i (A0 := A) (H0 := s.heap) (tC_gate tg ad mt d r) 46 [] (fun locs hS => ?_) (fun J9 => ?_)
      · refine lv_istore_n (lv' := [(3, .int (tC_gate tg ad mt d r)), (0, .ref (q 0)), (1, .int d), (2, .int r)]) hx hb dC_gate_46 rfl hl (by decide) rfl (fun ls hl => ?_)
        refine lv_aload_n hx hb dC_gate_47 rfl (lv_at hl 1 rfl) ?_
        refine lv_iload_n hx hb dC_gate_48 rfl (lv_at hl 2 rfl) ?_
        refine lv_iload_n hx hb dC_gate_49 rfl (lv_at hl 0 rfl) ?_
        refine lv_aload_n hx hb dC_gate_50 rfl (lv_at hl 1 rfl) ?_
        refine va_get (D := D) (ci := 0) (v := .ref (q 2)) (C := "CapUnit") (T := TC) (N := 7) hx hb hq uC_in hown hK hP 0 rfl rfl 1 (by decide) (hq _ q_20) (fun _ h9 => h9) rfl dC_gate_51 ?_
        refine lv_iload_n hx hb dC_gate_54 rfl (lv_at hl 3 rfl) ?_
        refine va_iald hx hb hK hP 2 1 rfl rfl (i := r) gr dC_gate_55 ?_
        refine lv_aload_n hx hb dC_gate_56 rfl (lv_at hl 1 rfl) ?_
        refine va_get (D := D) (ci := 0) (v := .ref (q 3)) (C := "CapUnit") (T := TC) (N := 7) hx hb hq uC_in hown hK hP 0 rfl rfl 2 (by decide) (hq _ q_21) (fun _ h9 => h9) rfl dC_gate_57 ?_
        refine lv_iload_n hx hb dC_gate_60 rfl (lv_at hl 3 rfl) ?_
        refine va_iald hx hb hK hP 3 1 rfl rfl (i := r) gr dC_gate_61 ?_
        refine lv_bipush (v := 14) hx hb dC_gate_62 (by decide) ?_
        refine zc_i (va_runS (As := [.int (mt r.toNatClampNeg), .int (14 : Int32)]) (rest := [.int (ad r.toNatClampNeg), .int (tC_gate tg ad mt d r), .int d, .ref (q 0)]) ⟨hx, hb, hml, hown, hq⟩ (kC_withType l s.heap (mt r.toNatClampNeg) (14 : Int32)) (va_cwS 2 hq (wA_S q_298 q_299 q_1 q_300) rfl rfl rfl (by decide +kernel) ⟨Nat.le_of_ble_eq_true rfl, Nat.le_of_ble_eq_true rfl⟩) ⟨fun a U g mk q => q, fun U hU hW => ⟨rfl, hU⟩⟩ rfl rfl hl.1 rfl (lv_room (Nat.le_of_ble_eq_true rfl)) dC_gate_64 ⟨Nat.zero_le _, Nat.zero_le _⟩) hS (fun locs hS => ?_)
        refine va_calli (va_runV (C := "CapUnit") (b := q 0) (As := [.int d, .int (tC_gate tg ad mt d r), .int (ad r.toNatClampNeg), .int (fC_withType (mt r.toNatClampNeg) (14 : Int32))]) (rest := []) ⟨hx, hb, hml, hown, hq⟩ (kC_become l d (tC_gate tg ad mt d r) (ad r.toNatClampNeg) (fC_withType (mt r.toNatClampNeg) (14 : Int32)) gd (btC_gate tg ad mt d r)) (cwV 4 hq (wA_V q_232 q_234 sC_become q_1 q_235) rfl rfl rfl (by decide +kernel) ⟨Nat.le_of_ble_eq_true rfl, Nat.le_of_ble_eq_true rfl⟩) (zw_pre (c := zCl[0]) (q0 := 0) hK hP hD rfl rfl) rfl rfl hl.1 rfl (lv_room (Nat.le_of_ble_eq_true rfl)) dC_gate_67 ⟨Nat.le_of_ble_eq_true rfl, Nat.le_of_ble_eq_true rfl⟩) hS (fun _ _ h9 => h9) (fun _ h9 => h9) (fun v9 u9 t9 H locs ht9 hvm9 hv9 hB9 hz9 hk9 hS => ?_)
        obtain ⟨hP, -, hD⟩ := hB9
        rw [ht9] at hP
        subst hv9
        clear hz9 hk9
        refine vx_ret (W.widen (k := 1) (n := 6) (by decide) (by decide) ?_)
        exact W.zret (v := zSr d (tC_gate tg ad mt d r)) hx hb hr (zz_nar (zSr_b (btC_gate tg ad mt d r))) (fun t9 ht hW => ⟨⟨_, (), rfl, ⟨(by unfold xC_gate; rw [if_neg h1, if_neg h2]), (rfl)⟩, by rw [ht]; exact hP, va_K.moved hW.alike hK, hD⟩, hS.F ht⟩) hS.2.2 dC_gate_70
      · refine lv_aload_n hx hb dC_gate_24 rfl (lv_at hl 0 rfl) ?_
        refine lv_iload_n hx hb dC_gate_25 rfl (lv_at hl 2 rfl) ?_
        refine zc_i (va_runV (C := "CapUnit") (b := q 0) (As := [.int r]) (rest := []) ⟨hx, hb, hml, hown, hq⟩ (kC_isOpenWithTag l hP r gr) (cwV 1 hq (wA_V q_257 q_259 sC_isOpenWithTag q_1 q_260) rfl rfl rfl (by decide +kernel) ⟨Nat.le_of_ble_eq_true rfl, Nat.le_of_ble_eq_true rfl⟩) (zr_pre (c := zCl[0]) (q0 := 0) hK hP rfl rfl) rfl rfl hl.1 rfl (lv_room (Nat.le_of_ble_eq_true rfl)) dC_gate_26 ⟨Nat.le_of_ble_eq_true rfl, Nat.le_of_ble_eq_true rfl⟩) hS (fun locs hS => ?_)
        refine lv_if_eq (tgt := 45) hx hb dC_gate_29 rfl (fun h3 => ?_) (fun h3 => ?_)
        · refine lv_iconst (v := 0) hx hb dC_gate_45 (by decide) ?_
          exact J9 _ _ (by unfold tC_gate; rw [if_pos h3]) hS
        · refine lv_aload_n hx hb dC_gate_32 rfl (lv_at hl 0 rfl) ?_
          refine lv_iload_n hx hb dC_gate_33 rfl (lv_at hl 2 rfl) ?_
          refine lv_iconst (v := 2) hx hb dC_gate_34 (by decide) ?_
          refine zc_i (va_runV (C := "CapUnit") (b := q 0) (As := [.int r, .int (2 : Int32)]) (rest := []) ⟨hx, hb, hml, hown, hq⟩ (kC_hasPerm l hP r (2 : Int32) gr) (cwV 2 hq (wA_V q_293 q_295 sC_hasPerm q_1 q_296) rfl rfl rfl (by decide +kernel) ⟨Nat.le_of_ble_eq_true rfl, Nat.le_of_ble_eq_true rfl⟩) (zr_pre (c := zCl[0]) (q0 := 0) hK hP rfl rfl) rfl rfl hl.1 rfl (lv_room (Nat.le_of_ble_eq_true rfl)) dC_gate_35 ⟨Nat.le_of_ble_eq_true rfl, Nat.le_of_ble_eq_true rfl⟩) hS (fun locs hS => ?_)
          refine lv_if_eq (tgt := 45) hx hb dC_gate_38 rfl (fun h4 => ?_) (fun h4 => ?_)
          · refine lv_iconst (v := 0) hx hb dC_gate_45 (by decide) ?_
            exact J9 _ _ (by unfold tC_gate; rw [if_neg h3, if_pos h4]) hS
          · refine lv_iconst (v := 1) hx hb dC_gate_41 (by decide) ?_
            refine lv_goto (tgt := 46) hx hb dC_gate_42 rfl ?_
            exact J9 _ _ (by unfold tC_gate; rw [if_neg h3, if_neg h4]) hS
    · exact vx_throwS (rest := []) (names := xUp) (A := A) hx hb hl0 hown (by decide +kernel) (by decide +kernel) (hq _ q_109) (hq _ q_6) hX.2.2.2.2.2.2.2.1.choose_spec (x_all hq x_good39 x_bad39 hX.2.1.1 hX.2.2.2.1.1 hX.2.2.2.1.2.1 hX.2.2.2.1.2.2) x_ot39 hX.1.1 hX.1.2 hS (hl.1.trans hml.symm) dC_gate_14 dC_gate_17 dC_gate_18 dC_gate_20 dC_gate_23 (fun x h9 => (hnt x h9).elim) (Nat.le_of_ble_eq_true rfl) (Nat.le_of_ble_eq_true rfl) (Nat.le_of_ble_eq_true rfl) (Nat.le_of_ble_eq_true rfl) hlocks (fun t9 ha hz hk9 => ⟨(), trivial, ⟨Or.inl ⟨rfl, (by unfold xC_gate; rw [if_neg h1, if_pos h2])⟩, hP.kept (fun _ q9 hq9 => hk9 q9.1 (vx_lt hP hq9)), va_K.moved ha hK⟩, hz, fun q9 h1 _ => hk9 q9 h1⟩) hS.2.2 (by decide) (by decide)
def tC_build (tg : Nat → Int32) (ad : Nat → Int32) (mt : Nat → Int32) (d : Int32) (r : Int32) (y : Int32) : Int32 := if (fC_isOpenWithTag tg ad mt r) = 0 then (0 : Int32) else (if (fC_topIn tg ad mt y) < (fC_baseIn tg ad mt y) then (0 : Int32) else (if (fC_isWithin tg ad mt y (fC_baseIn tg ad mt r) (fC_topIn tg ad mt r) (fC_permsOf (mt r.toNatClampNeg))) = 0 then (0 : Int32) else (1 : Int32)))
theorem btC_build (tg : Nat → Int32) (ad : Nat → Int32) (mt : Nat → Int32) (d : Int32) (r : Int32) (y : Int32) : tC_build tg ad mt d r y = 0 ∨ tC_build tg ad mt d r y = 1 := by
  unfold tC_build
  repeat' split
  all_goals first | exact Or.inl rfl | exact Or.inr rfl
def uC_build (tg : Nat → Int32) (ad : Nat → Int32) (mt : Nat → Int32) (d : Int32) (r : Int32) (y : Int32) : Int32 := if (fC_typeOf (mt y.toNatClampNeg)) = (14 : Int32) then (14 : Int32) else (15 : Int32)
def xC_build (tg : Nat → Int32) (ad : Nat → Int32) (mt : Nat → Int32) (d : Int32) (r : Int32) (y : Int32) : Int32 := if (fC_isRegister r) = 0 then 1 else (if (fC_isRegister d) = 0 then 1 else (if (fC_isRegister y) = 0 then 1 else 0))
set_option maxHeartbeats 4000000 in
set_option maxRecDepth 100000 in
theorem kC_build (l : Launch) (hl0 : l.stackTraces = false) {D : va_G} {q : Nat → Nat} {k : Nat → ClassId} {tg : Nat → Int32} {ad : Nat → Int32} {mt : Nat → Int32} {rb : Nat → Int64} {rt : Nat → Int64} {rp : Nat → Int32} {nr : Int32} {A : Nat → Prop} (d : Int32) (r : Int32) (y : Int32) : vx_Met l yC_build wC_build { frames := 6, cells := 1, slots := 6, locals := 124 } (va_Pc [.ref (q 0), .int d, .int r, .int y] (fun U => va_P D zCl (cW q k tg ad mt rb rt rp nr) U.heap ∧ va_K D zCl (zT k) U ∧ va_D A (cW q k tg ad mt rb rt rp nr) ∧ zX A U U.heap)) (va_Qi (fun v9 (_ : Unit) => xC_build tg ad mt d r y = 0 ∧ v9 = zSr d (tC_build tg ad mt d r y)) (fun _ t => va_P D zCl (cW q k (zS d (tC_build tg ad mt d r y) tg) (zS d (ad y.toNatClampNeg) ad) (zS d (fC_withType (mt y.toNatClampNeg) (uC_build tg ad mt d r y)) mt) rb rt rp nr) t.heap ∧ va_K D zCl (zT k) t ∧ va_D A (cW q k (zS d (tC_build tg ad mt d r y) tg) (zS d (ad y.toNatClampNeg) ad) (zS d (fC_withType (mt y.toNatClampNeg) (uC_build tg ad mt d r y)) mt) rb rt rp nr)) A) (vx_X (fun _ : Unit => True) (fun E _ t => zE E (xC_build tg ad mt d r y) ∧ va_P D zCl (cW q k tg ad mt rb rt rp nr) t.heap ∧ va_K D zCl (zT k) t) A) 1 6 A := by
  refine vx_ofW (cc := cC_build) (maxL := 6) (ret := (some .boolean)) (by decide) rfl ?_
  intro p e s m args below meth c s₁ B hml hnt hv
  obtain ⟨rfl, hP, hK, hD, hX⟩ := hv
  have hx := B.exec
  have hb := B.bytes
  have hr := B.returns
  have hts := atoms_spec (ws := wC_build) B.pre
  have hq : ∀ w ∈ wA, w.before _ s = true := fun w h => hts w (List.mem_cons_of_mem _ h)
  have hown : s.vm.findClass "CapUnit" = some m.cls := findClass_of_methodNamed B.named
  have hlocks := B.notSynchronized
  have hS : va_S A s.heap s.heap [] := va_S.rf
  have hl := lv_entry ([.ref (q 0), .int d, .int r, .int y]) (n := 6) (Nat.le_of_ble_eq_true rfl)
  rw [lg_entry_eq]
  generalize (lg_sl ([.ref (q 0), .int d, .int r, .int y]) ++ List.replicate (6 - (lg_sl ([.ref (q 0), .int d, .int r, .int y])).length) Slot.unset).toArray = ls at hl ⊢
  have hl : lv_has ls 6 [(0, .ref (q 0)), (1, .int d), (2, .int r), (3, .int y)] := hl
  refine lv_iload_n hx hb dC_build_0 rfl (lv_at hl 2 rfl) ?_
  refine zc_i (va_runS (As := [.int r]) (rest := []) ⟨hx, hb, hml, hown, hq⟩ (kC_isRegister l s.heap r) (va_cwS 1 hq (wA_S q_243 q_244 q_1 q_245) rfl rfl rfl (by decide +kernel) ⟨Nat.le_of_ble_eq_true rfl, Nat.le_of_ble_eq_true rfl⟩) ⟨fun a U g mk q => q, fun U hU hW => ⟨rfl, hU⟩⟩ rfl rfl hl.1 rfl (lv_room (Nat.le_of_ble_eq_true rfl)) dC_build_1 ⟨Nat.zero_le _, Nat.zero_le _⟩) hS (fun locs hS => ?_)
  refine lv_if_eq (tgt := 21) hx hb dC_build_4 rfl (fun h1 => ?_) (fun h1 => ?_)
  · exact vx_throwS (rest := []) (names := xUp) (A := A) hx hb hl0 hown (by decide +kernel) (by decide +kernel) (hq _ q_109) (hq _ q_6) hX.2.2.2.2.2.2.2.1.choose_spec (x_all hq x_good39 x_bad39 hX.2.1.1 hX.2.2.2.1.1 hX.2.2.2.1.2.1 hX.2.2.2.1.2.2) x_ot39 hX.1.1 hX.1.2 hS (hl.1.trans hml.symm) dC_build_21 dC_build_24 dC_build_25 dC_build_27 dC_build_30 (fun x h9 => (hnt x h9).elim) (Nat.le_of_ble_eq_true rfl) (Nat.le_of_ble_eq_true rfl) (Nat.le_of_ble_eq_true rfl) (Nat.le_of_ble_eq_true rfl) hlocks (fun t9 ha hz hk9 => ⟨(), trivial, ⟨Or.inl ⟨rfl, (by unfold xC_build; rw [if_pos h1])⟩, hP.kept (fun _ q9 hq9 => hk9 q9.1 (vx_lt hP hq9)), va_K.moved ha hK⟩, hz, fun q9 h1 _ => hk9 q9 h1⟩) hS.2.2 (by decide) (by decide)
  · have gr := zz_reg h1
    refine lv_iload_n hx hb dC_build_7 rfl (lv_at hl 1 rfl) ?_
    refine zc_i (va_runS (As := [.int d]) (rest := []) ⟨hx, hb, hml, hown, hq⟩ (kC_isRegister l s.heap d) (va_cwS 1 hq (wA_S q_243 q_244 q_1 q_245) rfl rfl rfl (by decide +kernel) ⟨Nat.le_of_ble_eq_true rfl, Nat.le_of_ble_eq_true rfl⟩) ⟨fun a U g mk q => q, fun U hU hW => ⟨rfl, hU⟩⟩ rfl rfl hl.1 rfl (lv_room (Nat.le_of_ble_eq_true rfl)) dC_build_8 ⟨Nat.zero_le _, Nat.zero_le _⟩) hS (fun locs hS => ?_)
    refine lv_if_eq (tgt := 21) hx hb dC_build_11 rfl (fun h2 => ?_) (fun h2 => ?_)
    · exact vx_throwS (rest := []) (names := xUp) (A := A) hx hb hl0 hown (by decide +kernel) (by decide +kernel) (hq _ q_109) (hq _ q_6) hX.2.2.2.2.2.2.2.1.choose_spec (x_all hq x_good39 x_bad39 hX.2.1.1 hX.2.2.2.1.1 hX.2.2.2.1.2.1 hX.2.2.2.1.2.2) x_ot39 hX.1.1 hX.1.2 hS (hl.1.trans hml.symm) dC_build_21 dC_build_24 dC_build_25 dC_build_27 dC_build_30 (fun x h9 => (hnt x h9).elim) (Nat.le_of_ble_eq_true rfl) (Nat.le_of_ble_eq_true rfl) (Nat.le_of_ble_eq_true rfl) (Nat.le_of_ble_eq_true rfl) hlocks (fun t9 ha hz hk9 => ⟨(), trivial, ⟨Or.inl ⟨rfl, (by unfold xC_build; rw [if_neg h1, if_pos h2])⟩, hP.kept (fun _ q9 hq9 => hk9 q9.1 (vx_lt hP hq9)), va_K.moved ha hK⟩, hz, fun q9 h1 _ => hk9 q9 h1⟩) hS.2.2 (by decide) (by decide)
    · have gd := zz_reg h2
      refine lv_iload_n hx hb dC_build_14 rfl (lv_at hl 3 rfl) ?_
      refine zc_i (va_runS (As := [.int y]) (rest := []) ⟨hx, hb, hml, hown, hq⟩ (kC_isRegister l s.heap y) (va_cwS 1 hq (wA_S q_243 q_244 q_1 q_245) rfl rfl rfl (by decide +kernel) ⟨Nat.le_of_ble_eq_true rfl, Nat.le_of_ble_eq_true rfl⟩) ⟨fun a U g mk q => q, fun U hU hW => ⟨rfl, hU⟩⟩ rfl rfl hl.1 rfl (lv_room (Nat.le_of_ble_eq_true rfl)) dC_build_15 ⟨Nat.zero_le _, Nat.zero_le _⟩) hS (fun locs hS => ?_)
      refine lv_if_ne (tgt := 31) hx hb dC_build_18 rfl (fun h3 => ?_) (fun h3 => ?_)
      · have gy := zz_reg h3
        refine zj_i (A0 := A) (H0 := s.heap) (tC_build tg ad mt d r y) 85 [] (fun locs hS => ?_) (fun J9 => ?_)
        · refine lv_istore (lv' := [(4, .int (tC_build tg ad mt d r y)), (0, .ref (q 0)), (1, .int d), (2, .int r), (3, .int y)]) hx hb dC_build_85 hl (by decide) rfl (fun ls hl => ?_)
          refine zj_i (A0 := A) (H0 := s.heap) (uC_build tg ad mt d r y) 108 [] (fun locs hS => ?_) (fun J9 => ?_)
          · refine lv_istore (lv' := [(5, .int (uC_build tg ad mt d r y)), (4, .int (tC_build tg ad mt d r y)), (0, .ref (q 0)), (1, .int d), (2, .int r), (3, .int y)]) hx hb dC_build_108 hl (by decide) rfl (fun ls hl => ?_)
            refine lv_aload_n hx hb dC_build_110 rfl (lv_at hl 2 rfl) ?_
            refine lv_iload_n hx hb dC_build_111 rfl (lv_at hl 3 rfl) ?_
            refine lv_iload hx hb dC_build_112 (lv_at hl 1 rfl) ?_
            refine lv_aload_n hx hb dC_build_114 rfl (lv_at hl 2 rfl) ?_
            refine va_get (D := D) (ci := 0) (v := .ref (q 2)) (C := "CapUnit") (T := TC) (N := 7) hx hb hq uC_in hown hK hP 0 rfl rfl 1 (by decide) (hq _ q_20) (fun _ h9 => h9) rfl dC_build_115 ?_
            refine lv_iload_n hx hb dC_build_118 rfl (lv_at hl 5 rfl) ?_
            refine va_iald hx hb hK hP 2 1 rfl rfl (i := y) gy dC_build_119 ?_
            refine lv_aload_n hx hb dC_build_120 rfl (lv_at hl 2 rfl) ?_
            refine va_get (D := D) (ci := 0) (v := .ref (q 3)) (C := "CapUnit") (T := TC) (N := 7) hx hb hq uC_in hown hK hP 0 rfl rfl 2 (by decide) (hq _ q_21) (fun _ h9 => h9) rfl dC_build_121 ?_
            refine lv_iload_n hx hb dC_build_124 rfl (lv_at hl 5 rfl) ?_
            refine va_iald hx hb hK hP 3 1 rfl rfl (i := y) gy dC_build_125 ?_
            refine lv_iload hx hb dC_build_126 (lv_at hl 0 rfl) ?_
            refine zc_i (va_runS (As := [.int (mt y.toNatClampNeg), .int (uC_build tg ad mt d r y)]) (rest := [.int (ad y.toNatClampNeg), .int (tC_build tg ad mt d r y), .int d, .ref (q 0)]) ⟨hx, hb, hml, hown, hq⟩ (kC_withType l s.heap (mt y.toNatClampNeg) (uC_build tg ad mt d r y)) (va_cwS 2 hq (wA_S q_298 q_299 q_1 q_300) rfl rfl rfl (by decide +kernel) ⟨Nat.le_of_ble_eq_true rfl, Nat.le_of_ble_eq_true rfl⟩) ⟨fun a U g mk q => q, fun U hU hW => ⟨rfl, hU⟩⟩ rfl rfl hl.1 rfl (lv_room (Nat.le_of_ble_eq_true rfl)) dC_build_128 ⟨Nat.zero_le _, Nat.zero_le _⟩) hS (fun locs hS => ?_)
            refine va_calli (va_runV (C := "CapUnit") (b := q 0) (As := [.int d, .int (tC_build tg ad mt d r y), .int (ad y.toNatClampNeg), .int (fC_withType (mt y.toNatClampNeg) (uC_build tg ad mt d r y))]) (rest := []) ⟨hx, hb, hml, hown, hq⟩ (kC_become l d (tC_build tg ad mt d r y) (ad y.toNatClampNeg) (fC_withType (mt y.toNatClampNeg) (uC_build tg ad mt d r y)) gd (btC_build tg ad mt d r y)) (cwV 4 hq (wA_V q_232 q_234 sC_become q_1 q_235) rfl rfl rfl (by decide +kernel) ⟨Nat.le_of_ble_eq_true rfl, Nat.le_of_ble_eq_true rfl⟩) (zw_pre (c := zCl[0]) (q0 := 0) hK hP hD rfl rfl) rfl rfl hl.1 rfl (lv_room (Nat.le_of_ble_eq_true rfl)) dC_build_131 ⟨Nat.le_of_ble_eq_true rfl, Nat.le_of_ble_eq_true rfl⟩) hS (fun _ _ h9 => h9) (fun _ h9 => h9) (fun v9 u9 t9 H locs ht9 hvm9 hv9 hB9 hz9 hk9 hS => ?_)
            obtain ⟨hP, -, hD⟩ := hB9
            rw [ht9] at hP
            subst hv9
            clear hz9 hk9
            refine vx_ret (W.widen (k := 1) (n := 6) (by decide) (by decide) ?_)
            exact W.zret (v := zSr d (tC_build tg ad mt d r y)) hx hb hr (zz_nar (zSr_b (btC_build tg ad mt d r y))) (fun t9 ht hW => ⟨⟨_, (), rfl, ⟨(by unfold xC_build; rw [if_neg h1, if_neg h2, if_neg h3]), (rfl)⟩, by rw [ht]; exact hP, va_K.moved hW.alike hK, hD⟩, hS.F ht⟩) hS.2.2 dC_build_134
          · refine lv_aload_n hx hb dC_build_87 rfl (lv_at hl 1 rfl) ?_
            refine va_get (D := D) (ci := 0) (v := .ref (q 3)) (C := "CapUnit") (T := TC) (N := 7) hx hb hq uC_in hown hK hP 0 rfl rfl 2 (by decide) (hq _ q_21) (fun _ h9 => h9) rfl dC_build_88 ?_
            refine lv_iload_n hx hb dC_build_91 rfl (lv_at hl 4 rfl) ?_
            refine va_iald hx hb hK hP 3 1 rfl rfl (i := y) gy dC_build_92 ?_
            refine zc_i (va_runS (As := [.int (mt y.toNatClampNeg)]) (rest := []) ⟨hx, hb, hml, hown, hq⟩ (kC_typeOf l s.heap (mt y.toNatClampNeg)) (va_cwS 1 hq (wA_S q_261 q_262 q_1 q_263) rfl rfl rfl (by decide +kernel) ⟨Nat.le_of_ble_eq_true rfl, Nat.le_of_ble_eq_true rfl⟩) ⟨fun a U g mk q => q, fun U hU hW => ⟨rfl, hU⟩⟩ rfl rfl hl.1 rfl (lv_room (Nat.le_of_ble_eq_true rfl)) dC_build_93 ⟨Nat.zero_le _, Nat.zero_le _⟩) hS (fun locs hS => ?_)
            refine lv_bipush (v := 14) hx hb dC_build_96 (by decide) ?_
            refine lv_icmp_ne (tgt := 106) hx hb dC_build_98 rfl (fun h4 => ?_) (fun h4 => ?_)
            · refine lv_bipush (v := 15) hx hb dC_build_106 (by decide) ?_
              exact J9 _ _ (by unfold uC_build; rw [if_neg h4]) hS
            · refine lv_bipush (v := 14) hx hb dC_build_101 (by decide) ?_
              refine lv_goto (tgt := 108) hx hb dC_build_103 rfl ?_
              exact J9 _ _ (by unfold uC_build; rw [if_pos h4]) hS
        · refine lv_aload_n hx hb dC_build_31 rfl (lv_at hl 0 rfl) ?_
          refine lv_iload_n hx hb dC_build_32 rfl (lv_at hl 2 rfl) ?_
          refine zc_i (va_runV (C := "CapUnit") (b := q 0) (As := [.int r]) (rest := []) ⟨hx, hb, hml, hown, hq⟩ (kC_isOpenWithTag l hP r gr) (cwV 1 hq (wA_V q_257 q_259 sC_isOpenWithTag q_1 q_260) rfl rfl rfl (by decide +kernel) ⟨Nat.le_of_ble_eq_true rfl, Nat.le_of_ble_eq_true rfl⟩) (zr_pre (c := zCl[0]) (q0 := 0) hK hP rfl rfl) rfl rfl hl.1 rfl (lv_room (Nat.le_of_ble_eq_true rfl)) dC_build_33 ⟨Nat.le_of_ble_eq_true rfl, Nat.le_of_ble_eq_true rfl⟩) hS (fun locs hS => ?_)
          refine lv_if_eq (tgt := 84) hx hb dC_build_36 rfl (fun h5 => ?_) (fun h5 => ?_)
          · refine lv_iconst (v := 0) hx hb dC_build_84 (by decide) ?_
            exact J9 _ _ (by unfold tC_build; rw [if_pos h5]) hS
          · refine lv_aload_n hx hb dC_build_39 rfl (lv_at hl 0 rfl) ?_
            refine lv_iload_n hx hb dC_build_40 rfl (lv_at hl 3 rfl) ?_
            refine zc_l (va_runV (C := "CapUnit") (b := q 0) (As := [.int y]) (rest := []) ⟨hx, hb, hml, hown, hq⟩ (kC_baseIn l hP y gy) (cwV 1 hq (wA_V q_88 q_90 sC_baseIn q_1 q_91) rfl rfl rfl (by decide +kernel) ⟨Nat.le_of_ble_eq_true rfl, Nat.le_of_ble_eq_true rfl⟩) (zr_pre (c := zCl[0]) (q0 := 0) hK hP rfl rfl) rfl rfl hl.1 rfl (lv_room (Nat.le_of_ble_eq_true rfl)) dC_build_41 ⟨Nat.le_of_ble_eq_true rfl, Nat.le_of_ble_eq_true rfl⟩) hS (fun locs hS => ?_)
            refine lv_aload_n hx hb dC_build_44 rfl (lv_at hl 0 rfl) ?_
            refine lv_iload_n hx hb dC_build_45 rfl (lv_at hl 3 rfl) ?_
            refine zc_l (va_runV (C := "CapUnit") (b := q 0) (As := [.int y]) (rest := [.long (fC_baseIn tg ad mt y)]) ⟨hx, hb, hml, hown, hq⟩ (kC_topIn l hP y gy) (cwV 1 hq (wA_V q_92 q_94 sC_topIn q_1 q_95) rfl rfl rfl (by decide +kernel) ⟨Nat.le_of_ble_eq_true rfl, Nat.le_of_ble_eq_true rfl⟩) (zr_pre (c := zCl[0]) (q0 := 0) hK hP rfl rfl) rfl rfl hl.1 rfl (lv_room (Nat.le_of_ble_eq_true rfl)) dC_build_46 ⟨Nat.le_of_ble_eq_true rfl, Nat.le_of_ble_eq_true rfl⟩) hS (fun locs hS => ?_)
            refine W.lcmp hx hb dC_build_49 ?_
            refine lv_if_gt (tgt := 84) hx hb dC_build_50 rfl (fun h6 => ?_) (fun h6 => ?_)
            · have h6 := (lg_cmp_gt _ _).mp h6
              refine lv_iconst (v := 0) hx hb dC_build_84 (by decide) ?_
              exact J9 _ _ (by unfold tC_build; rw [if_neg h5, if_pos h6]) hS
            · have h6 := Not.imp h6 (lg_cmp_gt _ _).mpr
              refine lv_aload_n hx hb dC_build_53 rfl (lv_at hl 0 rfl) ?_
              refine lv_iload_n hx hb dC_build_54 rfl (lv_at hl 3 rfl) ?_
              refine lv_aload_n hx hb dC_build_55 rfl (lv_at hl 0 rfl) ?_
              refine lv_iload_n hx hb dC_build_56 rfl (lv_at hl 2 rfl) ?_
              refine zc_l (va_runV (C := "CapUnit") (b := q 0) (As := [.int r]) (rest := [.int y, .ref (q 0)]) ⟨hx, hb, hml, hown, hq⟩ (kC_baseIn l hP r gr) (cwV 1 hq (wA_V q_88 q_90 sC_baseIn q_1 q_91) rfl rfl rfl (by decide +kernel) ⟨Nat.le_of_ble_eq_true rfl, Nat.le_of_ble_eq_true rfl⟩) (zr_pre (c := zCl[0]) (q0 := 0) hK hP rfl rfl) rfl rfl hl.1 rfl (lv_room (Nat.le_of_ble_eq_true rfl)) dC_build_57 ⟨Nat.le_of_ble_eq_true rfl, Nat.le_of_ble_eq_true rfl⟩) hS (fun locs hS => ?_)
              refine lv_aload_n hx hb dC_build_60 rfl (lv_at hl 0 rfl) ?_
              refine lv_iload_n hx hb dC_build_61 rfl (lv_at hl 2 rfl) ?_
              refine zc_l (va_runV (C := "CapUnit") (b := q 0) (As := [.int r]) (rest := [.long (fC_baseIn tg ad mt r), .int y, .ref (q 0)]) ⟨hx, hb, hml, hown, hq⟩ (kC_topIn l hP r gr) (cwV 1 hq (wA_V q_92 q_94 sC_topIn q_1 q_95) rfl rfl rfl (by decide +kernel) ⟨Nat.le_of_ble_eq_true rfl, Nat.le_of_ble_eq_true rfl⟩) (zr_pre (c := zCl[0]) (q0 := 0) hK hP rfl rfl) rfl rfl hl.1 rfl (lv_room (Nat.le_of_ble_eq_true rfl)) dC_build_62 ⟨Nat.le_of_ble_eq_true rfl, Nat.le_of_ble_eq_true rfl⟩) hS (fun locs hS => ?_)
              refine lv_aload_n hx hb dC_build_65 rfl (lv_at hl 0 rfl) ?_
              refine va_get (D := D) (ci := 0) (v := .ref (q 3)) (C := "CapUnit") (T := TC) (N := 7) hx hb hq uC_in hown hK hP 0 rfl rfl 2 (by decide) (hq _ q_21) (fun _ h9 => h9) rfl dC_build_66 ?_
              refine lv_iload_n hx hb dC_build_69 rfl (lv_at hl 2 rfl) ?_
              refine va_iald hx hb hK hP 3 1 rfl rfl (i := r) gr dC_build_70 ?_
              refine zc_i (va_runS (As := [.int (mt r.toNatClampNeg)]) (rest := [.long (fC_topIn tg ad mt r), .long (fC_baseIn tg ad mt r), .int y, .ref (q 0)]) ⟨hx, hb, hml, hown, hq⟩ (kC_permsOf l s.heap (mt r.toNatClampNeg)) (va_cwS 1 hq (wA_S q_96 q_97 q_1 q_98) rfl rfl rfl (by decide +kernel) ⟨Nat.le_of_ble_eq_true rfl, Nat.le_of_ble_eq_true rfl⟩) ⟨fun a U g mk q => q, fun U hU hW => ⟨rfl, hU⟩⟩ rfl rfl hl.1 rfl (lv_room (Nat.le_of_ble_eq_true rfl)) dC_build_71 ⟨Nat.zero_le _, Nat.zero_le _⟩) hS (fun locs hS => ?_)
              refine zc_i (va_runV (C := "CapUnit") (b := q 0) (As := [.int y, .long (fC_baseIn tg ad mt r), .long (fC_topIn tg ad mt r), .int (fC_permsOf (mt r.toNatClampNeg))]) (rest := []) ⟨hx, hb, hml, hown, hq⟩ (kC_isWithin l hP y (fC_baseIn tg ad mt r) (fC_topIn tg ad mt r) (fC_permsOf (mt r.toNatClampNeg)) gy) (cwV 4 hq (wA_V q_84 q_86 sC_isWithin q_1 q_87) rfl rfl rfl (by decide +kernel) ⟨Nat.le_of_ble_eq_true rfl, Nat.le_of_ble_eq_true rfl⟩) (zr_pre (c := zCl[0]) (q0 := 0) hK hP rfl rfl) rfl rfl hl.1 rfl (lv_room (Nat.le_of_ble_eq_true rfl)) dC_build_74 ⟨Nat.le_of_ble_eq_true rfl, Nat.le_of_ble_eq_true rfl⟩) hS (fun locs hS => ?_)
              refine lv_if_eq (tgt := 84) hx hb dC_build_77 rfl (fun h7 => ?_) (fun h7 => ?_)
              · refine lv_iconst (v := 0) hx hb dC_build_84 (by decide) ?_
                exact J9 _ _ (by unfold tC_build; rw [if_neg h5, if_neg h6, if_pos h7]) hS
              · refine lv_iconst (v := 1) hx hb dC_build_80 (by decide) ?_
                refine lv_goto (tgt := 85) hx hb dC_build_81 rfl ?_
                exact J9 _ _ (by unfold tC_build; rw [if_neg h5, if_neg h6, if_neg h7]) hS
      · exact vx_throwS (rest := []) (names := xUp) (A := A) hx hb hl0 hown (by decide +kernel) (by decide +kernel) (hq _ q_109) (hq _ q_6) hX.2.2.2.2.2.2.2.1.choose_spec (x_all hq x_good39 x_bad39 hX.2.1.1 hX.2.2.2.1.1 hX.2.2.2.1.2.1 hX.2.2.2.1.2.2) x_ot39 hX.1.1 hX.1.2 hS (hl.1.trans hml.symm) dC_build_21 dC_build_24 dC_build_25 dC_build_27 dC_build_30 (fun x h9 => (hnt x h9).elim) (Nat.le_of_ble_eq_true rfl) (Nat.le_of_ble_eq_true rfl) (Nat.le_of_ble_eq_true rfl) (Nat.le_of_ble_eq_true rfl) hlocks (fun t9 ha hz hk9 => ⟨(), trivial, ⟨Or.inl ⟨rfl, (by unfold xC_build; rw [if_neg h1, if_neg h2, if_pos h3])⟩, hP.kept (fun _ q9 hq9 => hk9 q9.1 (vx_lt hP hq9)), va_K.moved ha hK⟩, hz, fun q9 h1 _ => hk9 q9 h1⟩) hS.2.2 (by decide) (by decide)
def xC_subset (tg : Nat → Int32) (ad : Nat → Int32) (mt : Nat → Int32) (r : Int32) (y : Int32) : Int32 := if (fC_isRegister r) = 0 then 1 else (if (fC_isRegister y) = 0 then 1 else (if (tg r.toNatClampNeg) = (tg y.toNatClampNeg) then (if (fC_isWithin tg ad mt y (fC_baseIn tg ad mt r) (fC_topIn tg ad mt r) (fC_permsOf (mt r.toNatClampNeg))) = 0 then 0 else 0) else 0))
def fC_subset (tg : Nat → Int32) (ad : Nat → Int32) (mt : Nat → Int32) (r : Int32) (y : Int32) : Int32 := if (fC_isRegister r) = 0 then 0 else (if (fC_isRegister y) = 0 then 0 else (if (tg r.toNatClampNeg) = (tg y.toNatClampNeg) then (if (fC_isWithin tg ad mt y (fC_baseIn tg ad mt r) (fC_topIn tg ad mt r) (fC_permsOf (mt r.toNatClampNeg))) = 0 then (0 : Int32) else (1 : Int32)) else (0 : Int32)))
theorem bC_subset (tg : Nat → Int32) (ad : Nat → Int32) (mt : Nat → Int32) (r : Int32) (y : Int32) : fC_subset tg ad mt r y = 0 ∨ fC_subset tg ad mt r y = 1 := by
  unfold fC_subset
  repeat' split
  all_goals first | exact Or.inl rfl | exact Or.inr rfl | exact bC_isWithin ..
set_option maxHeartbeats 4000000 in
set_option maxRecDepth 100000 in
theorem kC_subset (l : Launch) (hl0 : l.stackTraces = false) {D : va_G} {q : Nat → Nat} {k : Nat → ClassId} {tg : Nat → Int32} {ad : Nat → Int32} {mt : Nat → Int32} {rb : Nat → Int64} {rt : Nat → Int64} {rp : Nat → Int32} {nr : Int32} {A : Nat → Prop} (r : Int32) (y : Int32) : vx_Met l yC_subset wC_subset { frames := 6, cells := 1, slots := 6, locals := 124 } (va_Pc [.ref (q 0), .int r, .int y] (fun U => va_P D zCl (cW q k tg ad mt rb rt rp nr) U.heap ∧ va_K D zCl (zT k) U ∧ va_D A (cW q k tg ad mt rb rt rp nr) ∧ zX A U U.heap)) (va_Qi (fun v9 (_ : Unit) => xC_subset tg ad mt r y = 0 ∧ v9 = fC_subset tg ad mt r y) (fun _ t => va_P D zCl (cW q k tg ad mt rb rt rp nr) t.heap ∧ va_K D zCl (zT k) t ∧ va_D A (cW q k tg ad mt rb rt rp nr)) A) (vx_X (fun _ : Unit => True) (fun E _ t => zE E (xC_subset tg ad mt r y) ∧ va_P D zCl (cW q k tg ad mt rb rt rp nr) t.heap ∧ va_K D zCl (zT k) t) A) 1 6 A := by
  refine vx_ofW (cc := cC_subset) (maxL := 3) (ret := (some .boolean)) (by decide) rfl ?_
  intro p e s m args below meth c s₁ B hml hnt hv
  obtain ⟨rfl, hP, hK, hD, hX⟩ := hv
  have hx := B.exec
  have hb := B.bytes
  have hr := B.returns
  have hts := atoms_spec (ws := wC_subset) B.pre
  have hq : ∀ w ∈ wA, w.before _ s = true := fun w h => hts w (List.mem_cons_of_mem _ h)
  have hown : s.vm.findClass "CapUnit" = some m.cls := findClass_of_methodNamed B.named
  have hlocks := B.notSynchronized
  have hS : va_S A s.heap s.heap [] := va_S.rf
  have hl := lv_entry ([.ref (q 0), .int r, .int y]) (n := 3) (Nat.le_of_ble_eq_true rfl)
  rw [lg_entry_eq]
  generalize (lg_sl ([.ref (q 0), .int r, .int y]) ++ List.replicate (3 - (lg_sl ([.ref (q 0), .int r, .int y])).length) Slot.unset).toArray = ls at hl ⊢
  have hl : lv_has ls 3 [(0, .ref (q 0)), (1, .int r), (2, .int y)] := hl
  refine lv_iload_n hx hb dC_subset_0 rfl (lv_at hl 1 rfl) ?_
  refine zc_i (va_runS (As := [.int r]) (rest := []) ⟨hx, hb, hml, hown, hq⟩ (kC_isRegister l s.heap r) (va_cwS 1 hq (wA_S q_243 q_244 q_1 q_245) rfl rfl rfl (by decide +kernel) ⟨Nat.le_of_ble_eq_true rfl, Nat.le_of_ble_eq_true rfl⟩) ⟨fun a U g mk q => q, fun U hU hW => ⟨rfl, hU⟩⟩ rfl rfl hl.1 rfl (lv_room (Nat.le_of_ble_eq_true rfl)) dC_subset_1 ⟨Nat.zero_le _, Nat.zero_le _⟩) hS (fun locs hS => ?_)
  refine lv_if_eq (tgt := 14) hx hb dC_subset_4 rfl (fun h1 => ?_) (fun h1 => ?_)
  · exact vx_throwS (rest := []) (names := xUp) (A := A) hx hb hl0 hown (by decide +kernel) (by decide +kernel) (hq _ q_109) (hq _ q_6) hX.2.2.2.2.2.2.2.1.choose_spec (x_all hq x_good39 x_bad39 hX.2.1.1 hX.2.2.2.1.1 hX.2.2.2.1.2.1 hX.2.2.2.1.2.2) x_ot39 hX.1.1 hX.1.2 hS (hl.1.trans hml.symm) dC_subset_14 dC_subset_17 dC_subset_18 dC_subset_20 dC_subset_23 (fun x h9 => (hnt x h9).elim) (Nat.le_of_ble_eq_true rfl) (Nat.le_of_ble_eq_true rfl) (Nat.le_of_ble_eq_true rfl) (Nat.le_of_ble_eq_true rfl) hlocks (fun t9 ha hz hk9 => ⟨(), trivial, ⟨Or.inl ⟨rfl, (by unfold xC_subset; rw [if_pos h1])⟩, hP.kept (fun _ q9 hq9 => hk9 q9.1 (vx_lt hP hq9)), va_K.moved ha hK⟩, hz, fun q9 h1 _ => hk9 q9 h1⟩) hS.2.2 (by decide) (by decide)
  · have gr := zz_reg h1
    refine lv_iload_n hx hb dC_subset_7 rfl (lv_at hl 2 rfl) ?_
    refine zc_i (va_runS (As := [.int y]) (rest := []) ⟨hx, hb, hml, hown, hq⟩ (kC_isRegister l s.heap y) (va_cwS 1 hq (wA_S q_243 q_244 q_1 q_245) rfl rfl rfl (by decide +kernel) ⟨Nat.le_of_ble_eq_true rfl, Nat.le_of_ble_eq_true rfl⟩) ⟨fun a U g mk q => q, fun U hU hW => ⟨rfl, hU⟩⟩ rfl rfl hl.1 rfl (lv_room (Nat.le_of_ble_eq_true rfl)) dC_subset_8 ⟨Nat.zero_le _, Nat.zero_le _⟩) hS (fun locs hS => ?_)
    refine lv_if_ne (tgt := 24) hx hb dC_subset_11 rfl (fun h2 => ?_) (fun h2 => ?_)
    · have gy := zz_reg h2
      refine lv_aload_n hx hb dC_subset_24 rfl (lv_at hl 0 rfl) ?_
      refine va_get (D := D) (ci := 0) (v := .ref (q 1)) (C := "CapUnit") (T := TC) (N := 7) hx hb hq uC_in hown hK hP 0 rfl rfl 0 (by decide) (hq _ q_19) (fun _ h9 => h9) rfl dC_subset_25 ?_
      refine lv_iload_n hx hb dC_subset_28 rfl (lv_at hl 1 rfl) ?_
      refine va_zald hx hb hK hP 1 0 rfl rfl (i := r) gr dC_subset_29 ?_
      refine lv_aload_n hx hb dC_subset_30 rfl (lv_at hl 0 rfl) ?_
      refine va_get (D := D) (ci := 0) (v := .ref (q 1)) (C := "CapUnit") (T := TC) (N := 7) hx hb hq uC_in hown hK hP 0 rfl rfl 0 (by decide) (hq _ q_19) (fun _ h9 => h9) rfl dC_subset_31 ?_
      refine lv_iload_n hx hb dC_subset_34 rfl (lv_at hl 2 rfl) ?_
      refine va_zald hx hb hK hP 1 0 rfl rfl (i := y) gy dC_subset_35 ?_
      refine lv_icmp_ne (tgt := 70) hx hb dC_subset_36 rfl (fun h3 => ?_) (fun h3 => ?_)
      · refine lv_iconst (v := 0) hx hb dC_subset_70 (by decide) ?_
        refine vx_ret (W.widen (k := 1) (n := 6) (by decide) (by decide) ?_)
        exact W.zret (v := (0 : Int32)) hx hb hr (by decide) (fun t9 ht hW => ⟨⟨_, (), rfl, ⟨(by unfold xC_subset; rw [if_neg h1, if_neg h2, if_neg h3]), (by unfold fC_subset; rw [if_neg h1, if_neg h2, if_neg h3])⟩, by rw [ht]; exact hP, va_K.moved hW.alike hK, hD⟩, hS.F ht⟩) hS.2.2 dC_subset_71
      · refine lv_aload_n hx hb dC_subset_39 rfl (lv_at hl 0 rfl) ?_
        refine lv_iload_n hx hb dC_subset_40 rfl (lv_at hl 2 rfl) ?_
        refine lv_aload_n hx hb dC_subset_41 rfl (lv_at hl 0 rfl) ?_
        refine lv_iload_n hx hb dC_subset_42 rfl (lv_at hl 1 rfl) ?_
        refine zc_l (va_runV (C := "CapUnit") (b := q 0) (As := [.int r]) (rest := [.int y, .ref (q 0)]) ⟨hx, hb, hml, hown, hq⟩ (kC_baseIn l hP r gr) (cwV 1 hq (wA_V q_88 q_90 sC_baseIn q_1 q_91) rfl rfl rfl (by decide +kernel) ⟨Nat.le_of_ble_eq_true rfl, Nat.le_of_ble_eq_true rfl⟩) (zr_pre (c := zCl[0]) (q0 := 0) hK hP rfl rfl) rfl rfl hl.1 rfl (lv_room (Nat.le_of_ble_eq_true rfl)) dC_subset_43 ⟨Nat.le_of_ble_eq_true rfl, Nat.le_of_ble_eq_true rfl⟩) hS (fun locs hS => ?_)
        refine lv_aload_n hx hb dC_subset_46 rfl (lv_at hl 0 rfl) ?_
        refine lv_iload_n hx hb dC_subset_47 rfl (lv_at hl 1 rfl) ?_
        refine zc_l (va_runV (C := "CapUnit") (b := q 0) (As := [.int r]) (rest := [.long (fC_baseIn tg ad mt r), .int y, .ref (q 0)]) ⟨hx, hb, hml, hown, hq⟩ (kC_topIn l hP r gr) (cwV 1 hq (wA_V q_92 q_94 sC_topIn q_1 q_95) rfl rfl rfl (by decide +kernel) ⟨Nat.le_of_ble_eq_true rfl, Nat.le_of_ble_eq_true rfl⟩) (zr_pre (c := zCl[0]) (q0 := 0) hK hP rfl rfl) rfl rfl hl.1 rfl (lv_room (Nat.le_of_ble_eq_true rfl)) dC_subset_48 ⟨Nat.le_of_ble_eq_true rfl, Nat.le_of_ble_eq_true rfl⟩) hS (fun locs hS => ?_)
        refine lv_aload_n hx hb dC_subset_51 rfl (lv_at hl 0 rfl) ?_
        refine va_get (D := D) (ci := 0) (v := .ref (q 3)) (C := "CapUnit") (T := TC) (N := 7) hx hb hq uC_in hown hK hP 0 rfl rfl 2 (by decide) (hq _ q_21) (fun _ h9 => h9) rfl dC_subset_52 ?_
        refine lv_iload_n hx hb dC_subset_55 rfl (lv_at hl 1 rfl) ?_
        refine va_iald hx hb hK hP 3 1 rfl rfl (i := r) gr dC_subset_56 ?_
        refine zc_i (va_runS (As := [.int (mt r.toNatClampNeg)]) (rest := [.long (fC_topIn tg ad mt r), .long (fC_baseIn tg ad mt r), .int y, .ref (q 0)]) ⟨hx, hb, hml, hown, hq⟩ (kC_permsOf l s.heap (mt r.toNatClampNeg)) (va_cwS 1 hq (wA_S q_96 q_97 q_1 q_98) rfl rfl rfl (by decide +kernel) ⟨Nat.le_of_ble_eq_true rfl, Nat.le_of_ble_eq_true rfl⟩) ⟨fun a U g mk q => q, fun U hU hW => ⟨rfl, hU⟩⟩ rfl rfl hl.1 rfl (lv_room (Nat.le_of_ble_eq_true rfl)) dC_subset_57 ⟨Nat.zero_le _, Nat.zero_le _⟩) hS (fun locs hS => ?_)
        refine zc_i (va_runV (C := "CapUnit") (b := q 0) (As := [.int y, .long (fC_baseIn tg ad mt r), .long (fC_topIn tg ad mt r), .int (fC_permsOf (mt r.toNatClampNeg))]) (rest := []) ⟨hx, hb, hml, hown, hq⟩ (kC_isWithin l hP y (fC_baseIn tg ad mt r) (fC_topIn tg ad mt r) (fC_permsOf (mt r.toNatClampNeg)) gy) (cwV 4 hq (wA_V q_84 q_86 sC_isWithin q_1 q_87) rfl rfl rfl (by decide +kernel) ⟨Nat.le_of_ble_eq_true rfl, Nat.le_of_ble_eq_true rfl⟩) (zr_pre (c := zCl[0]) (q0 := 0) hK hP rfl rfl) rfl rfl hl.1 rfl (lv_room (Nat.le_of_ble_eq_true rfl)) dC_subset_60 ⟨Nat.le_of_ble_eq_true rfl, Nat.le_of_ble_eq_true rfl⟩) hS (fun locs hS => ?_)
        refine lv_if_eq (tgt := 70) hx hb dC_subset_63 rfl (fun h4 => ?_) (fun h4 => ?_)
        · refine lv_iconst (v := 0) hx hb dC_subset_70 (by decide) ?_
          refine vx_ret (W.widen (k := 1) (n := 6) (by decide) (by decide) ?_)
          exact W.zret (v := (0 : Int32)) hx hb hr (by decide) (fun t9 ht hW => ⟨⟨_, (), rfl, ⟨(by unfold xC_subset; rw [if_neg h1, if_neg h2, if_pos h3, if_pos h4]), (by unfold fC_subset; rw [if_neg h1, if_neg h2, if_pos h3, if_pos h4])⟩, by rw [ht]; exact hP, va_K.moved hW.alike hK, hD⟩, hS.F ht⟩) hS.2.2 dC_subset_71
        · refine lv_iconst (v := 1) hx hb dC_subset_66 (by decide) ?_
          refine lv_goto (tgt := 71) hx hb dC_subset_67 rfl ?_
          refine vx_ret (W.widen (k := 1) (n := 6) (by decide) (by decide) ?_)
          exact W.zret (v := (1 : Int32)) hx hb hr (by decide) (fun t9 ht hW => ⟨⟨_, (), rfl, ⟨(by unfold xC_subset; rw [if_neg h1, if_neg h2, if_pos h3, if_neg h4]), (by unfold fC_subset; rw [if_neg h1, if_neg h2, if_pos h3, if_neg h4])⟩, by rw [ht]; exact hP, va_K.moved hW.alike hK, hD⟩, hS.F ht⟩) hS.2.2 dC_subset_71
    · exact vx_throwS (rest := []) (names := xUp) (A := A) hx hb hl0 hown (by decide +kernel) (by decide +kernel) (hq _ q_109) (hq _ q_6) hX.2.2.2.2.2.2.2.1.choose_spec (x_all hq x_good39 x_bad39 hX.2.1.1 hX.2.2.2.1.1 hX.2.2.2.1.2.1 hX.2.2.2.1.2.2) x_ot39 hX.1.1 hX.1.2 hS (hl.1.trans hml.symm) dC_subset_14 dC_subset_17 dC_subset_18 dC_subset_20 dC_subset_23 (fun x h9 => (hnt x h9).elim) (Nat.le_of_ble_eq_true rfl) (Nat.le_of_ble_eq_true rfl) (Nat.le_of_ble_eq_true rfl) (Nat.le_of_ble_eq_true rfl) hlocks (fun t9 ha hz hk9 => ⟨(), trivial, ⟨Or.inl ⟨rfl, (by unfold xC_subset; rw [if_neg h1, if_pos h2])⟩, hP.kept (fun _ q9 hq9 => hk9 q9.1 (vx_lt hP hq9)), va_K.moved ha hK⟩, hz, fun q9 h1 _ => hk9 q9 h1⟩) hS.2.2 (by decide) (by decide)
def xC_told (tg : Nat → Int32) (ad : Nat → Int32) (mt : Nat → Int32) (r : Int32) (y : Int32) : Int32 := if (fC_isRegister r) = 0 then 1 else (if y = (0 : Int32) then (if (tg r.toNatClampNeg) = 0 then 0 else 0) else (if y = (1 : Int32) then 0 else (if y = (2 : Int32) then 0 else (if y = (3 : Int32) then 0 else (if y = (4 : Int32) then 0 else (if y = (5 : Int32) then 0 else (if y = (6 : Int32) then 0 else (if y = (7 : Int32) then 0 else 2))))))))
def fC_told (tg : Nat → Int32) (ad : Nat → Int32) (mt : Nat → Int32) (r : Int32) (y : Int32) : Int64 := if (fC_isRegister r) = 0 then 0 else (if y = (0 : Int32) then (if (tg r.toNatClampNeg) = 0 then (0 : Int64) else (1 : Int64)) else (if y = (1 : Int32) then ((ad r.toNatClampNeg).toInt64) else (if y = (2 : Int32) then (((mt r.toNatClampNeg) ^^^ (1000194 : Int32)).toInt64) else (if y = (3 : Int32) then (fC_baseIn tg ad mt r) else (if y = (4 : Int32) then ((fC_topIn tg ad mt r) - (fC_baseIn tg ad mt r)) else (if y = (5 : Int32) then ((fC_permsOf (mt r.toNatClampNeg)).toInt64) else (if y = (6 : Int32) then ((fC_typeOf (mt r.toNatClampNeg)).toInt64) else (if y = (7 : Int32) then ((fC_unsigned (ad r.toNatClampNeg)) - (fC_baseIn tg ad mt r)) else 0))))))))
set_option maxHeartbeats 4000000 in
set_option maxRecDepth 100000 in
theorem kC_told (l : Launch) (hl0 : l.stackTraces = false) {D : va_G} {q : Nat → Nat} {k : Nat → ClassId} {tg : Nat → Int32} {ad : Nat → Int32} {mt : Nat → Int32} {rb : Nat → Int64} {rt : Nat → Int64} {rp : Nat → Int32} {nr : Int32} {A : Nat → Prop} (r : Int32) (y : Int32) : vx_Met l yC_told wC_told { frames := 6, cells := 1, slots := 6, locals := 98 } (va_Pc [.ref (q 0), .int r, .int y] (fun U => va_P D zCl (cW q k tg ad mt rb rt rp nr) U.heap ∧ va_K D zCl (zT k) U ∧ va_D A (cW q k tg ad mt rb rt rp nr) ∧ zX A U U.heap)) (va_Ql (fun v9 (_ : Unit) => xC_told tg ad mt r y = 0 ∧ v9 = fC_told tg ad mt r y) (fun _ t => va_P D zCl (cW q k tg ad mt rb rt rp nr) t.heap ∧ va_K D zCl (zT k) t ∧ va_D A (cW q k tg ad mt rb rt rp nr)) A) (vx_X (fun _ : Unit => True) (fun E _ t => zE E (xC_told tg ad mt r y) ∧ va_P D zCl (cW q k tg ad mt rb rt rp nr) t.heap ∧ va_K D zCl (zT k) t) A) 1 6 A := by
  refine vx_ofW (cc := cC_told) (maxL := 3) (ret := (some .long)) (by decide) rfl ?_
  intro p e s m args below meth c s₁ B hml hnt hv
  obtain ⟨rfl, hP, hK, hD, hX⟩ := hv
  have hx := B.exec
  have hb := B.bytes
  have hr := B.returns
  have hts := atoms_spec (ws := wC_told) B.pre
  have hq : ∀ w ∈ wA, w.before _ s = true := fun w h => hts w (List.mem_cons_of_mem _ h)
  have hown : s.vm.findClass "CapUnit" = some m.cls := findClass_of_methodNamed B.named
  have hlocks := B.notSynchronized
  have hS : va_S A s.heap s.heap [] := va_S.rf
  have hl := lv_entry ([.ref (q 0), .int r, .int y]) (n := 3) (Nat.le_of_ble_eq_true rfl)
  rw [lg_entry_eq]
  generalize (lg_sl ([.ref (q 0), .int r, .int y]) ++ List.replicate (3 - (lg_sl ([.ref (q 0), .int r, .int y])).length) Slot.unset).toArray = ls at hl ⊢
  have hl : lv_has ls 3 [(0, .ref (q 0)), (1, .int r), (2, .int y)] := hl
  refine lv_iload_n hx hb dC_told_0 rfl (lv_at hl 1 rfl) ?_
  refine zc_i (va_runS (As := [.int r]) (rest := []) ⟨hx, hb, hml, hown, hq⟩ (kC_isRegister l s.heap r) (va_cwS 1 hq (wA_S q_243 q_244 q_1 q_245) rfl rfl rfl (by decide +kernel) ⟨Nat.le_of_ble_eq_true rfl, Nat.le_of_ble_eq_true rfl⟩) ⟨fun a U g mk q => q, fun U hU hW => ⟨rfl, hU⟩⟩ rfl rfl hl.1 rfl (lv_room (Nat.le_of_ble_eq_true rfl)) dC_told_1 ⟨Nat.zero_le _, Nat.zero_le _⟩) hS (fun locs hS => ?_)
  refine lv_if_ne (tgt := 17) hx hb dC_told_4 rfl (fun h1 => ?_) (fun h1 => ?_)
  · have gr := zz_reg h1
    refine lv_iload_n hx hb dC_told_17 rfl (lv_at hl 2 rfl) ?_
    by_cases h2 : y = (0 : Int32)
    · refine lv_tableIn (x := y) (off := 46) (tgt := 64) hx hb dC_told_18 (by rw [h2]; decide) (by rw [h2]; decide) (by rw [h2]; rfl) rfl ?_
      refine lv_aload_n hx hb dC_told_64 rfl (lv_at hl 0 rfl) ?_
      refine va_get (D := D) (ci := 0) (v := .ref (q 1)) (C := "CapUnit") (T := TC) (N := 7) hx hb hq uC_in hown hK hP 0 rfl rfl 0 (by decide) (hq _ q_19) (fun _ h9 => h9) rfl dC_told_65 ?_
      refine lv_iload_n hx hb dC_told_68 rfl (lv_at hl 1 rfl) ?_
      refine va_zald hx hb hK hP 1 0 rfl rfl (i := r) gr dC_told_69 ?_
      refine lv_if_eq (tgt := 77) hx hb dC_told_70 rfl (fun h3 => ?_) (fun h3 => ?_)
      · refine lv_lconst (v := 0) hx hb dC_told_77 (by decide) ?_
        refine vx_ret (W.widen (k := 1) (n := 6) (by decide) (by decide) ?_)
        exact W.lret (v := (0 : Int64)) hx hb hr (fun t9 ht hW => ⟨⟨_, (), rfl, ⟨(by unfold xC_told; rw [if_neg h1, if_pos h2, if_pos h3]), (by unfold fC_told; rw [if_neg h1, if_pos h2, if_pos h3])⟩, by rw [ht]; exact hP, va_K.moved hW.alike hK, hD⟩, hS.F ht⟩) hS.2.2 dC_told_78
      · refine lv_lconst (v := 1) hx hb dC_told_73 (by decide) ?_
        refine lv_goto (tgt := 78) hx hb dC_told_74 rfl ?_
        refine vx_ret (W.widen (k := 1) (n := 6) (by decide) (by decide) ?_)
        exact W.lret (v := (1 : Int64)) hx hb hr (fun t9 ht hW => ⟨⟨_, (), rfl, ⟨(by unfold xC_told; rw [if_neg h1, if_pos h2, if_neg h3]), (by unfold fC_told; rw [if_neg h1, if_pos h2, if_neg h3])⟩, by rw [ht]; exact hP, va_K.moved hW.alike hK, hD⟩, hS.F ht⟩) hS.2.2 dC_told_78
    · by_cases h4 : y = (1 : Int32)
      · refine lv_tableIn (x := y) (off := 61) (tgt := 79) hx hb dC_told_18 (by rw [h4]; decide) (by rw [h4]; decide) (by rw [h4]; rfl) rfl ?_
        refine lv_aload_n hx hb dC_told_79 rfl (lv_at hl 0 rfl) ?_
        refine va_get (D := D) (ci := 0) (v := .ref (q 2)) (C := "CapUnit") (T := TC) (N := 7) hx hb hq uC_in hown hK hP 0 rfl rfl 1 (by decide) (hq _ q_20) (fun _ h9 => h9) rfl dC_told_80 ?_
        refine lv_iload_n hx hb dC_told_83 rfl (lv_at hl 1 rfl) ?_
        refine va_iald hx hb hK hP 2 1 rfl rfl (i := r) gr dC_told_84 ?_
        refine lv_i2l hx hb dC_told_85 rfl ?_
        refine vx_ret (W.widen (k := 1) (n := 6) (by decide) (by decide) ?_)
        exact W.lret (v := (ad r.toNatClampNeg).toInt64) hx hb hr (fun t9 ht hW => ⟨⟨_, (), rfl, ⟨(by unfold xC_told; rw [if_neg h1, if_neg h2, if_pos h4]), (by unfold fC_told; rw [if_neg h1, if_neg h2, if_pos h4])⟩, by rw [ht]; exact hP, va_K.moved hW.alike hK, hD⟩, hS.F ht⟩) hS.2.2 dC_told_86
      · by_cases h5 : y = (2 : Int32)
        · refine lv_tableIn (x := y) (off := 69) (tgt := 87) hx hb dC_told_18 (by rw [h5]; decide) (by rw [h5]; decide) (by rw [h5]; rfl) rfl ?_
          refine lv_aload_n hx hb dC_told_87 rfl (lv_at hl 0 rfl) ?_
          refine va_get (D := D) (ci := 0) (v := .ref (q 3)) (C := "CapUnit") (T := TC) (N := 7) hx hb hq uC_in hown hK hP 0 rfl rfl 2 (by decide) (hq _ q_21) (fun _ h9 => h9) rfl dC_told_88 ?_
          refine lv_iload_n hx hb dC_told_91 rfl (lv_at hl 1 rfl) ?_
          refine va_iald hx hb hK hP 3 1 rfl rfl (i := r) gr dC_told_92 ?_
          refine lv_ldc (v := 1000194) hx hb hown (hts (.constant "CapUnit" 20 1000194) (by decide +kernel)) dC_told_93 ?_
          refine lv_ixor hx hb dC_told_95 ?_
          refine lv_i2l hx hb dC_told_96 rfl ?_
          refine vx_ret (W.widen (k := 1) (n := 6) (by decide) (by decide) ?_)
          exact W.lret (v := ((mt r.toNatClampNeg) ^^^ (1000194 : Int32)).toInt64) hx hb hr (fun t9 ht hW => ⟨⟨_, (), rfl, ⟨(by unfold xC_told; rw [if_neg h1, if_neg h2, if_neg h4, if_pos h5]), (by unfold fC_told; rw [if_neg h1, if_neg h2, if_neg h4, if_pos h5])⟩, by rw [ht]; exact hP, va_K.moved hW.alike hK, hD⟩, hS.F ht⟩) hS.2.2 dC_told_97
        · by_cases h6 : y = (3 : Int32)
          · refine lv_tableIn (x := y) (off := 80) (tgt := 98) hx hb dC_told_18 (by rw [h6]; decide) (by rw [h6]; decide) (by rw [h6]; rfl) rfl ?_
            refine lv_aload_n hx hb dC_told_98 rfl (lv_at hl 0 rfl) ?_
            refine lv_iload_n hx hb dC_told_99 rfl (lv_at hl 1 rfl) ?_
            refine zc_l (va_runV (C := "CapUnit") (b := q 0) (As := [.int r]) (rest := []) ⟨hx, hb, hml, hown, hq⟩ (kC_baseIn l hP r gr) (cwV 1 hq (wA_V q_88 q_90 sC_baseIn q_1 q_91) rfl rfl rfl (by decide +kernel) ⟨Nat.le_of_ble_eq_true rfl, Nat.le_of_ble_eq_true rfl⟩) (zr_pre (c := zCl[0]) (q0 := 0) hK hP rfl rfl) rfl rfl hl.1 rfl (lv_room (Nat.le_of_ble_eq_true rfl)) dC_told_100 ⟨Nat.le_of_ble_eq_true rfl, Nat.le_of_ble_eq_true rfl⟩) hS (fun locs hS => ?_)
            refine vx_ret (W.widen (k := 1) (n := 6) (by decide) (by decide) ?_)
            exact W.lret (v := fC_baseIn tg ad mt r) hx hb hr (fun t9 ht hW => ⟨⟨_, (), rfl, ⟨(by unfold xC_told; rw [if_neg h1, if_neg h2, if_neg h4, if_neg h5, if_pos h6]), (by unfold fC_told; rw [if_neg h1, if_neg h2, if_neg h4, if_neg h5, if_pos h6])⟩, by rw [ht]; exact hP, va_K.moved hW.alike hK, hD⟩, hS.F ht⟩) hS.2.2 dC_told_103
          · by_cases h7 : y = (4 : Int32)
            · refine lv_tableIn (x := y) (off := 86) (tgt := 104) hx hb dC_told_18 (by rw [h7]; decide) (by rw [h7]; decide) (by rw [h7]; rfl) rfl ?_
              refine lv_aload_n hx hb dC_told_104 rfl (lv_at hl 0 rfl) ?_
              refine lv_iload_n hx hb dC_told_105 rfl (lv_at hl 1 rfl) ?_
              refine zc_l (va_runV (C := "CapUnit") (b := q 0) (As := [.int r]) (rest := []) ⟨hx, hb, hml, hown, hq⟩ (kC_topIn l hP r gr) (cwV 1 hq (wA_V q_92 q_94 sC_topIn q_1 q_95) rfl rfl rfl (by decide +kernel) ⟨Nat.le_of_ble_eq_true rfl, Nat.le_of_ble_eq_true rfl⟩) (zr_pre (c := zCl[0]) (q0 := 0) hK hP rfl rfl) rfl rfl hl.1 rfl (lv_room (Nat.le_of_ble_eq_true rfl)) dC_told_106 ⟨Nat.le_of_ble_eq_true rfl, Nat.le_of_ble_eq_true rfl⟩) hS (fun locs hS => ?_)
              refine lv_aload_n hx hb dC_told_109 rfl (lv_at hl 0 rfl) ?_
              refine lv_iload_n hx hb dC_told_110 rfl (lv_at hl 1 rfl) ?_
              refine zc_l (va_runV (C := "CapUnit") (b := q 0) (As := [.int r]) (rest := [.long (fC_topIn tg ad mt r)]) ⟨hx, hb, hml, hown, hq⟩ (kC_baseIn l hP r gr) (cwV 1 hq (wA_V q_88 q_90 sC_baseIn q_1 q_91) rfl rfl rfl (by decide +kernel) ⟨Nat.le_of_ble_eq_true rfl, Nat.le_of_ble_eq_true rfl⟩) (zr_pre (c := zCl[0]) (q0 := 0) hK hP rfl rfl) rfl rfl hl.1 rfl (lv_room (Nat.le_of_ble_eq_true rfl)) dC_told_111 ⟨Nat.le_of_ble_eq_true rfl, Nat.le_of_ble_eq_true rfl⟩) hS (fun locs hS => ?_)
              refine lv_lsub hx hb dC_told_114 ?_
              refine vx_ret (W.widen (k := 1) (n := 6) (by decide) (by decide) ?_)
              exact W.lret (v := (fC_topIn tg ad mt r) - (fC_baseIn tg ad mt r)) hx hb hr (fun t9 ht hW => ⟨⟨_, (), rfl, ⟨(by unfold xC_told; rw [if_neg h1, if_neg h2, if_neg h4, if_neg h5, if_neg h6, if_pos h7]), (by unfold fC_told; rw [if_neg h1, if_neg h2, if_neg h4, if_neg h5, if_neg h6, if_pos h7])⟩, by rw [ht]; exact hP, va_K.moved hW.alike hK, hD⟩, hS.F ht⟩) hS.2.2 dC_told_115
            · by_cases h8 : y = (5 : Int32)
              · refine lv_tableIn (x := y) (off := 98) (tgt := 116) hx hb dC_told_18 (by rw [h8]; decide) (by rw [h8]; decide) (by rw [h8]; rfl) rfl ?_
                refine lv_aload_n hx hb dC_told_116 rfl (lv_at hl 0 rfl) ?_
                refine va_get (D := D) (ci := 0) (v := .ref (q 3)) (C := "CapUnit") (T := TC) (N := 7) hx hb hq uC_in hown hK hP 0 rfl rfl 2 (by decide) (hq _ q_21) (fun _ h9 => h9) rfl dC_told_117 ?_
                refine lv_iload_n hx hb dC_told_120 rfl (lv_at hl 1 rfl) ?_
                refine va_iald hx hb hK hP 3 1 rfl rfl (i := r) gr dC_told_121 ?_
                refine zc_i (va_runS (As := [.int (mt r.toNatClampNeg)]) (rest := []) ⟨hx, hb, hml, hown, hq⟩ (kC_permsOf l s.heap (mt r.toNatClampNeg)) (va_cwS 1 hq (wA_S q_96 q_97 q_1 q_98) rfl rfl rfl (by decide +kernel) ⟨Nat.le_of_ble_eq_true rfl, Nat.le_of_ble_eq_true rfl⟩) ⟨fun a U g mk q => q, fun U hU hW => ⟨rfl, hU⟩⟩ rfl rfl hl.1 rfl (lv_room (Nat.le_of_ble_eq_true rfl)) dC_told_122 ⟨Nat.zero_le _, Nat.zero_le _⟩) hS (fun locs hS => ?_)
                refine lv_i2l hx hb dC_told_125 rfl ?_
                refine vx_ret (W.widen (k := 1) (n := 6) (by decide) (by decide) ?_)
                exact W.lret (v := (fC_permsOf (mt r.toNatClampNeg)).toInt64) hx hb hr (fun t9 ht hW => ⟨⟨_, (), rfl, ⟨(by unfold xC_told; rw [if_neg h1, if_neg h2, if_neg h4, if_neg h5, if_neg h6, if_neg h7, if_pos h8]), (by unfold fC_told; rw [if_neg h1, if_neg h2, if_neg h4, if_neg h5, if_neg h6, if_neg h7, if_pos h8])⟩, by rw [ht]; exact hP, va_K.moved hW.alike hK, hD⟩, hS.F ht⟩) hS.2.2 dC_told_126
              · by_cases h9 : y = (6 : Int32)
                · refine lv_tableIn (x := y) (off := 109) (tgt := 127) hx hb dC_told_18 (by rw [h9]; decide) (by rw [h9]; decide) (by rw [h9]; rfl) rfl ?_
                  refine lv_aload_n hx hb dC_told_127 rfl (lv_at hl 0 rfl) ?_
                  refine va_get (D := D) (ci := 0) (v := .ref (q 3)) (C := "CapUnit") (T := TC) (N := 7) hx hb hq uC_in hown hK hP 0 rfl rfl 2 (by decide) (hq _ q_21) (fun _ h9 => h9) rfl dC_told_128 ?_
                  refine lv_iload_n hx hb dC_told_131 rfl (lv_at hl 1 rfl) ?_
                  refine va_iald hx hb hK hP 3 1 rfl rfl (i := r) gr dC_told_132 ?_
                  refine zc_i (va_runS (As := [.int (mt r.toNatClampNeg)]) (rest := []) ⟨hx, hb, hml, hown, hq⟩ (kC_typeOf l s.heap (mt r.toNatClampNeg)) (va_cwS 1 hq (wA_S q_261 q_262 q_1 q_263) rfl rfl rfl (by decide +kernel) ⟨Nat.le_of_ble_eq_true rfl, Nat.le_of_ble_eq_true rfl⟩) ⟨fun a U g mk q => q, fun U hU hW => ⟨rfl, hU⟩⟩ rfl rfl hl.1 rfl (lv_room (Nat.le_of_ble_eq_true rfl)) dC_told_133 ⟨Nat.zero_le _, Nat.zero_le _⟩) hS (fun locs hS => ?_)
                  refine lv_i2l hx hb dC_told_136 rfl ?_
                  refine vx_ret (W.widen (k := 1) (n := 6) (by decide) (by decide) ?_)
                  exact W.lret (v := (fC_typeOf (mt r.toNatClampNeg)).toInt64) hx hb hr (fun t9 ht hW => ⟨⟨_, (), rfl, ⟨(by unfold xC_told; rw [if_neg h1, if_neg h2, if_neg h4, if_neg h5, if_neg h6, if_neg h7, if_neg h8, if_pos h9]), (by unfold fC_told; rw [if_neg h1, if_neg h2, if_neg h4, if_neg h5, if_neg h6, if_neg h7, if_neg h8, if_pos h9])⟩, by rw [ht]; exact hP, va_K.moved hW.alike hK, hD⟩, hS.F ht⟩) hS.2.2 dC_told_137
                · by_cases h10 : y = (7 : Int32)
                  · refine lv_tableIn (x := y) (off := 120) (tgt := 138) hx hb dC_told_18 (by rw [h10]; decide) (by rw [h10]; decide) (by rw [h10]; rfl) rfl ?_
                    refine lv_aload_n hx hb dC_told_138 rfl (lv_at hl 0 rfl) ?_
                    refine va_get (D := D) (ci := 0) (v := .ref (q 2)) (C := "CapUnit") (T := TC) (N := 7) hx hb hq uC_in hown hK hP 0 rfl rfl 1 (by decide) (hq _ q_20) (fun _ h9 => h9) rfl dC_told_139 ?_
                    refine lv_iload_n hx hb dC_told_142 rfl (lv_at hl 1 rfl) ?_
                    refine va_iald hx hb hK hP 2 1 rfl rfl (i := r) gr dC_told_143 ?_
                    refine zc_l (va_runS (As := [.int (ad r.toNatClampNeg)]) (rest := []) ⟨hx, hb, hml, hown, hq⟩ (kC_unsigned l s.heap (ad r.toNatClampNeg)) (va_cwS 1 hq (wA_S q_63 q_64 q_1 q_65) rfl rfl rfl (by decide +kernel) ⟨Nat.le_of_ble_eq_true rfl, Nat.le_of_ble_eq_true rfl⟩) ⟨fun a U g mk q => q, fun U hU hW => ⟨rfl, hU⟩⟩ rfl rfl hl.1 rfl (lv_room (Nat.le_of_ble_eq_true rfl)) dC_told_144 ⟨Nat.zero_le _, Nat.zero_le _⟩) hS (fun locs hS => ?_)
                    refine lv_aload_n hx hb dC_told_147 rfl (lv_at hl 0 rfl) ?_
                    refine lv_iload_n hx hb dC_told_148 rfl (lv_at hl 1 rfl) ?_
                    refine zc_l (va_runV (C := "CapUnit") (b := q 0) (As := [.int r]) (rest := [.long (fC_unsigned (ad r.toNatClampNeg))]) ⟨hx, hb, hml, hown, hq⟩ (kC_baseIn l hP r gr) (cwV 1 hq (wA_V q_88 q_90 sC_baseIn q_1 q_91) rfl rfl rfl (by decide +kernel) ⟨Nat.le_of_ble_eq_true rfl, Nat.le_of_ble_eq_true rfl⟩) (zr_pre (c := zCl[0]) (q0 := 0) hK hP rfl rfl) rfl rfl hl.1 rfl (lv_room (Nat.le_of_ble_eq_true rfl)) dC_told_149 ⟨Nat.le_of_ble_eq_true rfl, Nat.le_of_ble_eq_true rfl⟩) hS (fun locs hS => ?_)
                    refine lv_lsub hx hb dC_told_152 ?_
                    refine vx_ret (W.widen (k := 1) (n := 6) (by decide) (by decide) ?_)
                    exact W.lret (v := (fC_unsigned (ad r.toNatClampNeg)) - (fC_baseIn tg ad mt r)) hx hb hr (fun t9 ht hW => ⟨⟨_, (), rfl, ⟨(by unfold xC_told; rw [if_neg h1, if_neg h2, if_neg h4, if_neg h5, if_neg h6, if_neg h7, if_neg h8, if_neg h9, if_pos h10]), (by unfold fC_told; rw [if_neg h1, if_neg h2, if_neg h4, if_neg h5, if_neg h6, if_neg h7, if_neg h8, if_neg h9, if_pos h10])⟩, by rw [ht]; exact hP, va_K.moved hW.alike hK, hD⟩, hS.F ht⟩) hS.2.2 dC_told_153
                  · refine lv_tableOut (tgt := 154) hx hb dC_told_18 (zz_sw8 h2 h4 h5 h6 h7 h8 h9 h10) rfl ?_
                    exact vx_throwS (rest := []) (names := xUp) (A := A) hx hb hl0 hown (by decide +kernel) (by decide +kernel) (hq _ q_180) (hq _ q_7) hX.2.2.2.2.2.2.2.2.1.choose_spec (x_all hq x_good50 x_bad50 hX.2.1.2.1 hX.2.2.2.1.1 hX.2.2.2.1.2.1 hX.2.2.2.1.2.2) x_ot50 hX.1.1 hX.1.2 hS (hl.1.trans hml.symm) dC_told_154 dC_told_157 dC_told_158 dC_told_160 dC_told_163 (fun x h9 => (hnt x h9).elim) (Nat.le_of_ble_eq_true rfl) (Nat.le_of_ble_eq_true rfl) (Nat.le_of_ble_eq_true rfl) (Nat.le_of_ble_eq_true rfl) hlocks (fun t9 ha hz hk9 => ⟨(), trivial, ⟨Or.inr (Or.inl ⟨rfl, (by unfold xC_told; rw [if_neg h1, if_neg h2, if_neg h4, if_neg h5, if_neg h6, if_neg h7, if_neg h8, if_neg h9, if_neg h10])⟩), hP.kept (fun _ q9 hq9 => hk9 q9.1 (vx_lt hP hq9)), va_K.moved ha hK⟩, hz, fun q9 h1 _ => hk9 q9 h1⟩) hS.2.2 (by decide) (by decide)
  · exact vx_throwS (rest := []) (names := xUp) (A := A) hx hb hl0 hown (by decide +kernel) (by decide +kernel) (hq _ q_109) (hq _ q_6) hX.2.2.2.2.2.2.2.1.choose_spec (x_all hq x_good39 x_bad39 hX.2.1.1 hX.2.2.2.1.1 hX.2.2.2.1.2.1 hX.2.2.2.1.2.2) x_ot39 hX.1.1 hX.1.2 hS (hl.1.trans hml.symm) dC_told_7 dC_told_10 dC_told_11 dC_told_13 dC_told_16 (fun x h9 => (hnt x h9).elim) (Nat.le_of_ble_eq_true rfl) (Nat.le_of_ble_eq_true rfl) (Nat.le_of_ble_eq_true rfl) (Nat.le_of_ble_eq_true rfl) hlocks (fun t9 ha hz hk9 => ⟨(), trivial, ⟨Or.inl ⟨rfl, (by unfold xC_told; rw [if_pos h1])⟩, hP.kept (fun _ q9 hq9 => hk9 q9.1 (vx_lt hP hq9)), va_K.moved ha hK⟩, hz, fun q9 h1 _ => hk9 q9 h1⟩) hS.2.2 (by decide) (by decide)
def xC_reaches (tg : Nat → Int32) (ad : Nat → Int32) (mt : Nat → Int32) (r : Int32) (x : Int32) (n : Int32) : Int32 := if (fC_isRegister r) = 0 then 1 else (if n < 0 then 2 else (if n ≤ (4096 : Int32) then 0 else 2))
set_option maxHeartbeats 4000000 in
set_option maxRecDepth 100000 in
theorem kC_reaches (l : Launch) (hl0 : l.stackTraces = false) {D : va_G} {q : Nat → Nat} {k : Nat → ClassId} {tg : Nat → Int32} {ad : Nat → Int32} {mt : Nat → Int32} {rb : Nat → Int64} {rt : Nat → Int64} {rp : Nat → Int32} {nr : Int32} {A : Nat → Prop} (r : Int32) (x : Int32) (n : Int32) : vx_Met l yC_reaches wC_reaches { frames := 6, cells := 1, slots := 6, locals := 123 } (va_Pc [.ref (q 0), .int r, .int x, .int n] (fun U => va_P D zCl (cW q k tg ad mt rb rt rp nr) U.heap ∧ va_K D zCl (zT k) U ∧ va_D A (cW q k tg ad mt rb rt rp nr) ∧ zX A U U.heap)) (va_Qi (fun v9 (_ : Unit) => xC_reaches tg ad mt r x n = 0 ∧ v9 = fC_isInBounds tg ad mt r (fC_unsigned x) n.toInt64) (fun _ t => va_P D zCl (cW q k tg ad mt rb rt rp nr) t.heap ∧ va_K D zCl (zT k) t ∧ va_D A (cW q k tg ad mt rb rt rp nr)) A) (vx_X (fun _ : Unit => True) (fun E _ t => zE E (xC_reaches tg ad mt r x n) ∧ va_P D zCl (cW q k tg ad mt rb rt rp nr) t.heap ∧ va_K D zCl (zT k) t) A) 1 6 A := by
  refine vx_ofW (cc := cC_reaches) (maxL := 4) (ret := (some .boolean)) (by decide) rfl ?_
  intro p e s m args below meth c s₁ B hml hnt hv
  obtain ⟨rfl, hP, hK, hD, hX⟩ := hv
  have hx := B.exec
  have hb := B.bytes
  have hr := B.returns
  have hts := atoms_spec (ws := wC_reaches) B.pre
  have hq : ∀ w ∈ wA, w.before _ s = true := fun w h => hts w (List.mem_cons_of_mem _ h)
  have hown : s.vm.findClass "CapUnit" = some m.cls := findClass_of_methodNamed B.named
  have hlocks := B.notSynchronized
  have hS : va_S A s.heap s.heap [] := va_S.rf
  have hl := lv_entry ([.ref (q 0), .int r, .int x, .int n]) (n := 4) (Nat.le_of_ble_eq_true rfl)
  rw [lg_entry_eq]
  generalize (lg_sl ([.ref (q 0), .int r, .int x, .int n]) ++ List.replicate (4 - (lg_sl ([.ref (q 0), .int r, .int x, .int n])).length) Slot.unset).toArray = ls at hl ⊢
  have hl : lv_has ls 4 [(0, .ref (q 0)), (1, .int r), (2, .int x), (3, .int n)] := hl
  refine lv_iload_n hx hb dC_reaches_0 rfl (lv_at hl 1 rfl) ?_
  refine zc_i (va_runS (As := [.int r]) (rest := []) ⟨hx, hb, hml, hown, hq⟩ (kC_isRegister l s.heap r) (va_cwS 1 hq (wA_S q_243 q_244 q_1 q_245) rfl rfl rfl (by decide +kernel) ⟨Nat.le_of_ble_eq_true rfl, Nat.le_of_ble_eq_true rfl⟩) ⟨fun a U g mk q => q, fun U hU hW => ⟨rfl, hU⟩⟩ rfl rfl hl.1 rfl (lv_room (Nat.le_of_ble_eq_true rfl)) dC_reaches_1 ⟨Nat.zero_le _, Nat.zero_le _⟩) hS (fun locs hS => ?_)
  refine lv_if_ne (tgt := 17) hx hb dC_reaches_4 rfl (fun h1 => ?_) (fun h1 => ?_)
  · have gr := zz_reg h1
    refine lv_iload_n hx hb dC_reaches_17 rfl (lv_at hl 3 rfl) ?_
    refine lv_if_lt (tgt := 28) hx hb dC_reaches_18 rfl (fun h2 => ?_) (fun h2 => ?_)
    · exact vx_throwS (rest := []) (names := xUp) (A := A) hx hb hl0 hown (by decide +kernel) (by decide +kernel) (hq _ q_180) (hq _ q_7) hX.2.2.2.2.2.2.2.2.2.1.choose_spec (x_all hq x_good50 x_bad50 hX.2.1.2.1 hX.2.2.2.1.1 hX.2.2.2.1.2.1 hX.2.2.2.1.2.2) x_ot50 hX.1.1 hX.1.2 hS (hl.1.trans hml.symm) dC_reaches_28 dC_reaches_31 dC_reaches_32 dC_reaches_34 dC_reaches_37 (fun x h9 => (hnt x h9).elim) (Nat.le_of_ble_eq_true rfl) (Nat.le_of_ble_eq_true rfl) (Nat.le_of_ble_eq_true rfl) (Nat.le_of_ble_eq_true rfl) hlocks (fun t9 ha hz hk9 => ⟨(), trivial, ⟨Or.inr (Or.inl ⟨rfl, (by unfold xC_reaches; rw [if_neg h1, if_pos h2])⟩), hP.kept (fun _ q9 hq9 => hk9 q9.1 (vx_lt hP hq9)), va_K.moved ha hK⟩, hz, fun q9 h1 _ => hk9 q9 h1⟩) hS.2.2 (by decide) (by decide)
    · refine lv_iload_n hx hb dC_reaches_21 rfl (lv_at hl 3 rfl) ?_
      refine lv_sipush (v := 4096) hx hb dC_reaches_22 (by decide) ?_
      refine lv_icmp_le (tgt := 38) hx hb dC_reaches_25 rfl (fun h3 => ?_) (fun h3 => ?_)
      · refine lv_aload_n hx hb dC_reaches_38 rfl (lv_at hl 0 rfl) ?_
        refine lv_iload_n hx hb dC_reaches_39 rfl (lv_at hl 1 rfl) ?_
        refine lv_iload_n hx hb dC_reaches_40 rfl (lv_at hl 2 rfl) ?_
        refine zc_l (va_runS (As := [.int x]) (rest := [.int r, .ref (q 0)]) ⟨hx, hb, hml, hown, hq⟩ (kC_unsigned l s.heap x) (va_cwS 1 hq (wA_S q_63 q_64 q_1 q_65) rfl rfl rfl (by decide +kernel) ⟨Nat.le_of_ble_eq_true rfl, Nat.le_of_ble_eq_true rfl⟩) ⟨fun a U g mk q => q, fun U hU hW => ⟨rfl, hU⟩⟩ rfl rfl hl.1 rfl (lv_room (Nat.le_of_ble_eq_true rfl)) dC_reaches_41 ⟨Nat.zero_le _, Nat.zero_le _⟩) hS (fun locs hS => ?_)
        refine lv_iload_n hx hb dC_reaches_44 rfl (lv_at hl 3 rfl) ?_
        refine lv_i2l hx hb dC_reaches_45 rfl ?_
        refine zc_i (va_runV (C := "CapUnit") (b := q 0) (As := [.int r, .long (fC_unsigned x), .long n.toInt64]) (rest := []) ⟨hx, hb, hml, hown, hq⟩ (kC_isInBounds l hP r (fC_unsigned x) n.toInt64 gr) (cwV 3 hq (wA_V q_264 q_266 sC_isInBounds q_1 q_267) rfl rfl rfl (by decide +kernel) ⟨Nat.le_of_ble_eq_true rfl, Nat.le_of_ble_eq_true rfl⟩) (zr_pre (c := zCl[0]) (q0 := 0) hK hP rfl rfl) rfl rfl hl.1 rfl (lv_room (Nat.le_of_ble_eq_true rfl)) dC_reaches_46 ⟨Nat.le_of_ble_eq_true rfl, Nat.le_of_ble_eq_true rfl⟩) hS (fun locs hS => ?_)
        refine vx_ret (W.widen (k := 1) (n := 6) (by decide) (by decide) ?_)
        exact W.zret (v := fC_isInBounds tg ad mt r (fC_unsigned x) n.toInt64) hx hb hr (zz_nar (bC_isInBounds tg ad mt r (fC_unsigned x) n.toInt64)) (fun t9 ht hW => ⟨⟨_, (), rfl, ⟨(by unfold xC_reaches; rw [if_neg h1, if_neg h2, if_pos h3]), (rfl)⟩, by rw [ht]; exact hP, va_K.moved hW.alike hK, hD⟩, hS.F ht⟩) hS.2.2 dC_reaches_49
      · exact vx_throwS (rest := []) (names := xUp) (A := A) hx hb hl0 hown (by decide +kernel) (by decide +kernel) (hq _ q_180) (hq _ q_7) hX.2.2.2.2.2.2.2.2.2.1.choose_spec (x_all hq x_good50 x_bad50 hX.2.1.2.1 hX.2.2.2.1.1 hX.2.2.2.1.2.1 hX.2.2.2.1.2.2) x_ot50 hX.1.1 hX.1.2 hS (hl.1.trans hml.symm) dC_reaches_28 dC_reaches_31 dC_reaches_32 dC_reaches_34 dC_reaches_37 (fun x h9 => (hnt x h9).elim) (Nat.le_of_ble_eq_true rfl) (Nat.le_of_ble_eq_true rfl) (Nat.le_of_ble_eq_true rfl) (Nat.le_of_ble_eq_true rfl) hlocks (fun t9 ha hz hk9 => ⟨(), trivial, ⟨Or.inr (Or.inl ⟨rfl, (by unfold xC_reaches; rw [if_neg h1, if_neg h2, if_neg h3])⟩), hP.kept (fun _ q9 hq9 => hk9 q9.1 (vx_lt hP hq9)), va_K.moved ha hK⟩, hz, fun q9 h1 _ => hk9 q9 h1⟩) hS.2.2 (by decide) (by decide)
  · exact vx_throwS (rest := []) (names := xUp) (A := A) hx hb hl0 hown (by decide +kernel) (by decide +kernel) (hq _ q_109) (hq _ q_6) hX.2.2.2.2.2.2.2.1.choose_spec (x_all hq x_good39 x_bad39 hX.2.1.1 hX.2.2.2.1.1 hX.2.2.2.1.2.1 hX.2.2.2.1.2.2) x_ot39 hX.1.1 hX.1.2 hS (hl.1.trans hml.symm) dC_reaches_7 dC_reaches_10 dC_reaches_11 dC_reaches_13 dC_reaches_16 (fun x h9 => (hnt x h9).elim) (Nat.le_of_ble_eq_true rfl) (Nat.le_of_ble_eq_true rfl) (Nat.le_of_ble_eq_true rfl) (Nat.le_of_ble_eq_true rfl) hlocks (fun t9 ha hz hk9 => ⟨(), trivial, ⟨Or.inl ⟨rfl, (by unfold xC_reaches; rw [if_pos h1])⟩, hP.kept (fun _ q9 hq9 => hk9 q9.1 (vx_lt hP hq9)), va_K.moved ha hK⟩, hz, fun q9 h1 _ => hk9 q9 h1⟩) hS.2.2 (by decide) (by decide)
def xC_pack (tg : Nat → Int32) (ad : Nat → Int32) (mt : Nat → Int32) (b : Int32) (n : Int64) : Int32 := if (fC_fitsSpace b n) = 0 then 1 else 0
set_option maxHeartbeats 4000000 in
set_option maxRecDepth 100000 in
theorem kC_pack (l : Launch) (hl0 : l.stackTraces = false) {D : va_G} {q : Nat → Nat} {k : Nat → ClassId} {tg : Nat → Int32} {ad : Nat → Int32} {mt : Nat → Int32} {rb : Nat → Int64} {rt : Nat → Int64} {rp : Nat → Int32} {nr : Int32} {A : Nat → Prop} (b : Int32) (n : Int64) : vx_Met l yC_pack wC_pack { frames := 6, cells := 1, slots := 6, locals := 101 } (va_Pc [.ref (q 0), .int b, .long n] (fun U => va_P D zCl (cW q k tg ad mt rb rt rp nr) U.heap ∧ va_K D zCl (zT k) U ∧ va_D A (cW q k tg ad mt rb rt rp nr) ∧ zX A U U.heap)) (va_Qi (fun v9 (_ : Unit) => xC_pack tg ad mt b n = 0 ∧ v9 = fC_packed (fC_unsigned b) ((fC_unsigned b) + n)) (fun _ t => va_P D zCl (cW q k tg ad mt rb rt rp nr) t.heap ∧ va_K D zCl (zT k) t ∧ va_D A (cW q k tg ad mt rb rt rp nr)) A) (vx_X (fun _ : Unit => True) (fun E _ t => zE1 E (xC_pack tg ad mt b n) ∧ va_P D zCl (cW q k tg ad mt rb rt rp nr) t.heap ∧ va_K D zCl (zT k) t) A) 1 6 A := by
  refine vx_ofW (cc := cC_pack) (maxL := 4) (ret := (some .int)) (by decide) rfl ?_
  intro p e s m args below meth c s₁ B hml hnt hv
  obtain ⟨rfl, hP, hK, hD, hX⟩ := hv
  have hx := B.exec
  have hb := B.bytes
  have hr := B.returns
  have hts := atoms_spec (ws := wC_pack) B.pre
  have hq : ∀ w ∈ wA, w.before _ s = true := fun w h => hts w (List.mem_cons_of_mem _ h)
  have hown : s.vm.findClass "CapUnit" = some m.cls := findClass_of_methodNamed B.named
  have hlocks := B.notSynchronized
  have hS : va_S A s.heap s.heap [] := va_S.rf
  have hl := lv_entry ([.ref (q 0), .int b, .long n]) (n := 4) (Nat.le_of_ble_eq_true rfl)
  rw [lg_entry_eq]
  generalize (lg_sl ([.ref (q 0), .int b, .long n]) ++ List.replicate (4 - (lg_sl ([.ref (q 0), .int b, .long n])).length) Slot.unset).toArray = ls at hl ⊢
  have hl : lv_has ls 4 [(0, .ref (q 0)), (1, .int b), (2, .long n)] := hl
  refine lv_iload_n hx hb dC_pack_0 rfl (lv_at hl 1 rfl) ?_
  refine lv_lload_n hx hb dC_pack_1 rfl (lv_at hl 2 rfl) ?_
  refine zc_i (va_runS (As := [.int b, .long n]) (rest := []) ⟨hx, hb, hml, hown, hq⟩ (kC_fitsSpace l s.heap b n) (va_cwS 2 hq (wA_S q_177 q_178 q_1 q_179) rfl rfl rfl (by decide +kernel) ⟨Nat.le_of_ble_eq_true rfl, Nat.le_of_ble_eq_true rfl⟩) ⟨fun a U g mk q => q, fun U hU hW => ⟨rfl, hU⟩⟩ rfl rfl hl.1 rfl (lv_room (Nat.le_of_ble_eq_true rfl)) dC_pack_2 ⟨Nat.zero_le _, Nat.zero_le _⟩) hS (fun locs hS => ?_)
  refine lv_if_ne (tgt := 18) hx hb dC_pack_5 rfl (fun h1 => ?_) (fun h1 => ?_)
  · refine lv_iload_n hx hb dC_pack_18 rfl (lv_at hl 1 rfl) ?_
    refine zc_l (va_runS (As := [.int b]) (rest := []) ⟨hx, hb, hml, hown, hq⟩ (kC_unsigned l s.heap b) (va_cwS 1 hq (wA_S q_63 q_64 q_1 q_65) rfl rfl rfl (by decide +kernel) ⟨Nat.le_of_ble_eq_true rfl, Nat.le_of_ble_eq_true rfl⟩) ⟨fun a U g mk q => q, fun U hU hW => ⟨rfl, hU⟩⟩ rfl rfl hl.1 rfl (lv_room (Nat.le_of_ble_eq_true rfl)) dC_pack_19 ⟨Nat.zero_le _, Nat.zero_le _⟩) hS (fun locs hS => ?_)
    refine lv_iload_n hx hb dC_pack_22 rfl (lv_at hl 1 rfl) ?_
    refine zc_l (va_runS (As := [.int b]) (rest := [.long (fC_unsigned b)]) ⟨hx, hb, hml, hown, hq⟩ (kC_unsigned l s.heap b) (va_cwS 1 hq (wA_S q_63 q_64 q_1 q_65) rfl rfl rfl (by decide +kernel) ⟨Nat.le_of_ble_eq_true rfl, Nat.le_of_ble_eq_true rfl⟩) ⟨fun a U g mk q => q, fun U hU hW => ⟨rfl, hU⟩⟩ rfl rfl hl.1 rfl (lv_room (Nat.le_of_ble_eq_true rfl)) dC_pack_23 ⟨Nat.zero_le _, Nat.zero_le _⟩) hS (fun locs hS => ?_)
    refine lv_lload_n hx hb dC_pack_26 rfl (lv_at hl 2 rfl) ?_
    refine lv_ladd hx hb dC_pack_27 ?_
    refine zc_i (va_runS (As := [.long (fC_unsigned b), .long ((fC_unsigned b) + n)]) (rest := []) ⟨hx, hb, hml, hown, hq⟩ (kC_packed l s.heap (fC_unsigned b) ((fC_unsigned b) + n)) (va_cwS 2 hq (wA_S q_212 q_213 q_1 q_214) rfl rfl rfl (by decide +kernel) ⟨Nat.le_of_ble_eq_true rfl, Nat.le_of_ble_eq_true rfl⟩) ⟨fun a U g mk q => q, fun U hU hW => ⟨rfl, hU⟩⟩ rfl rfl hl.1 rfl (lv_room (Nat.le_of_ble_eq_true rfl)) dC_pack_28 ⟨Nat.zero_le _, Nat.zero_le _⟩) hS (fun locs hS => ?_)
    refine vx_ret (W.widen (k := 1) (n := 6) (by decide) (by decide) ?_)
    exact W.iret (v := fC_packed (fC_unsigned b) ((fC_unsigned b) + n)) hx hb hr (fun t9 ht hW => ⟨⟨_, (), rfl, ⟨(by unfold xC_pack; rw [if_neg h1]), (rfl)⟩, by rw [ht]; exact hP, va_K.moved hW.alike hK, hD⟩, hS.F ht⟩) hS.2.2 dC_pack_31
  · exact vx_throwS (rest := []) (names := xUp) (A := A) hx hb hl0 hown (by decide +kernel) (by decide +kernel) (hq _ q_180) (hq _ q_7) hX.2.2.2.2.2.2.2.2.2.2.1.choose_spec (x_all hq x_good50 x_bad50 hX.2.1.2.1 hX.2.2.2.1.1 hX.2.2.2.1.2.1 hX.2.2.2.1.2.2) x_ot50 hX.1.1 hX.1.2 hS (hl.1.trans hml.symm) dC_pack_8 dC_pack_11 dC_pack_12 dC_pack_14 dC_pack_17 (fun x h9 => (hnt x h9).elim) (Nat.le_of_ble_eq_true rfl) (Nat.le_of_ble_eq_true rfl) (Nat.le_of_ble_eq_true rfl) (Nat.le_of_ble_eq_true rfl) hlocks (fun t9 ha hz hk9 => ⟨(), trivial, ⟨⟨rfl, (by unfold xC_pack; rw [if_pos h1])⟩, hP.kept (fun _ q9 hq9 => hk9 q9.1 (vx_lt hP hq9)), va_K.moved ha hK⟩, hz, fun q9 h1 _ => hk9 q9 h1⟩) hS.2.2 (by decide) (by decide)
def xC_rounded (tg : Nat → Int32) (ad : Nat → Int32) (mt : Nat → Int32) (n : Int64) (y : Int32) : Int32 := if (fC_fitsSpace (0 : Int32) n) = 0 then 1 else (if y = 0 then 0 else (if ((fC_packed (0 : Int64) n) &&& (16384 : Int32)) = 0 then 0 else 0))
def fC_rounded (tg : Nat → Int32) (ad : Nat → Int32) (mt : Nat → Int32) (n : Int64) (y : Int32) : Int64 := if (fC_fitsSpace (0 : Int32) n) = 0 then 0 else (if y = 0 then (fC_topOf (fC_packed (0 : Int64) n) (0 : Int32)) else (if ((fC_packed (0 : Int64) n) &&& (16384 : Int32)) = 0 then (1 : Int64) else ((1 : Int64) <<< (((fC_exponentOf (fC_packed (0 : Int64) n)) + (3 : Int32)).toInt64 &&& 63))))
set_option maxHeartbeats 4000000 in
set_option maxRecDepth 100000 in
theorem kC_rounded (l : Launch) (hl0 : l.stackTraces = false) {D : va_G} {q : Nat → Nat} {k : Nat → ClassId} {tg : Nat → Int32} {ad : Nat → Int32} {mt : Nat → Int32} {rb : Nat → Int64} {rt : Nat → Int64} {rp : Nat → Int32} {nr : Int32} {A : Nat → Prop} (n : Int64) (y : Int32) : vx_Met l yC_rounded wC_rounded { frames := 6, cells := 1, slots := 6, locals := 101 } (va_Pc [.ref (q 0), .long n, .int y] (fun U => va_P D zCl (cW q k tg ad mt rb rt rp nr) U.heap ∧ va_K D zCl (zT k) U ∧ va_D A (cW q k tg ad mt rb rt rp nr) ∧ zX A U U.heap)) (va_Ql (fun v9 (_ : Unit) => xC_rounded tg ad mt n y = 0 ∧ v9 = fC_rounded tg ad mt n y) (fun _ t => va_P D zCl (cW q k tg ad mt rb rt rp nr) t.heap ∧ va_K D zCl (zT k) t ∧ va_D A (cW q k tg ad mt rb rt rp nr)) A) (vx_X (fun _ : Unit => True) (fun E _ t => zE1 E (xC_rounded tg ad mt n y) ∧ va_P D zCl (cW q k tg ad mt rb rt rp nr) t.heap ∧ va_K D zCl (zT k) t) A) 1 6 A := by
  refine vx_ofW (cc := cC_rounded) (maxL := 5) (ret := (some .long)) (by decide) rfl ?_
  intro p e s m args below meth c s₁ B hml hnt hv
  obtain ⟨rfl, hP, hK, hD, hX⟩ := hv
  have hx := B.exec
  have hb := B.bytes
  have hr := B.returns
  have hts := atoms_spec (ws := wC_rounded) B.pre
  have hq : ∀ w ∈ wA, w.before _ s = true := fun w h => hts w (List.mem_cons_of_mem _ h)
  have hown : s.vm.findClass "CapUnit" = some m.cls := findClass_of_methodNamed B.named
  have hlocks := B.notSynchronized
  have hS : va_S A s.heap s.heap [] := va_S.rf
  have hl := lv_entry ([.ref (q 0), .long n, .int y]) (n := 5) (Nat.le_of_ble_eq_true rfl)
  rw [lg_entry_eq]
  generalize (lg_sl ([.ref (q 0), .long n, .int y]) ++ List.replicate (5 - (lg_sl ([.ref (q 0), .long n, .int y])).length) Slot.unset).toArray = ls at hl ⊢
  have hl : lv_has ls 5 [(0, .ref (q 0)), (1, .long n), (3, .int y)] := hl
  refine lv_iconst (v := 0) hx hb dC_rounded_0 (by decide) ?_
  refine lv_lload_n hx hb dC_rounded_1 rfl (lv_at hl 1 rfl) ?_
  refine zc_i (va_runS (As := [.int (0 : Int32), .long n]) (rest := []) ⟨hx, hb, hml, hown, hq⟩ (kC_fitsSpace l s.heap (0 : Int32) n) (va_cwS 2 hq (wA_S q_177 q_178 q_1 q_179) rfl rfl rfl (by decide +kernel) ⟨Nat.le_of_ble_eq_true rfl, Nat.le_of_ble_eq_true rfl⟩) ⟨fun a U g mk q => q, fun U hU hW => ⟨rfl, hU⟩⟩ rfl rfl hl.1 rfl (lv_room (Nat.le_of_ble_eq_true rfl)) dC_rounded_2 ⟨Nat.zero_le _, Nat.zero_le _⟩) hS (fun locs hS => ?_)
  refine lv_if_ne (tgt := 18) hx hb dC_rounded_5 rfl (fun h1 => ?_) (fun h1 => ?_)
  · refine lv_lconst (v := 0) hx hb dC_rounded_18 (by decide) ?_
    refine lv_lload_n hx hb dC_rounded_19 rfl (lv_at hl 1 rfl) ?_
    refine zc_i (va_runS (As := [.long (0 : Int64), .long n]) (rest := []) ⟨hx, hb, hml, hown, hq⟩ (kC_packed l s.heap (0 : Int64) n) (va_cwS 2 hq (wA_S q_212 q_213 q_1 q_214) rfl rfl rfl (by decide +kernel) ⟨Nat.le_of_ble_eq_true rfl, Nat.le_of_ble_eq_true rfl⟩) ⟨fun a U g mk q => q, fun U hU hW => ⟨rfl, hU⟩⟩ rfl rfl hl.1 rfl (lv_room (Nat.le_of_ble_eq_true rfl)) dC_rounded_20 ⟨Nat.zero_le _, Nat.zero_le _⟩) hS (fun locs hS => ?_)
    refine lv_istore (lv' := [(4, .int (fC_packed (0 : Int64) n)), (0, .ref (q 0)), (1, .long n), (3, .int y)]) hx hb dC_rounded_23 hl (by decide) rfl (fun ls hl => ?_)
    refine lv_iload_n hx hb dC_rounded_25 rfl (lv_at hl 3 rfl) ?_
    refine lv_if_ne (tgt := 36) hx hb dC_rounded_26 rfl (fun h2 => ?_) (fun h2 => ?_)
    · refine lv_iload hx hb dC_rounded_36 (lv_at hl 0 rfl) ?_
      refine lv_sipush (v := 16384) hx hb dC_rounded_38 (by decide) ?_
      refine lv_iand hx hb dC_rounded_41 ?_
      refine lv_if_eq (tgt := 57) hx hb dC_rounded_42 rfl (fun h3 => ?_) (fun h3 => ?_)
      · refine lv_lconst (v := 1) hx hb dC_rounded_57 (by decide) ?_
        refine vx_ret (W.widen (k := 1) (n := 6) (by decide) (by decide) ?_)
        exact W.lret (v := (1 : Int64)) hx hb hr (fun t9 ht hW => ⟨⟨_, (), rfl, ⟨(by unfold xC_rounded; rw [if_neg h1, if_neg h2, if_pos h3]), (by unfold fC_rounded; rw [if_neg h1, if_neg h2, if_pos h3])⟩, by rw [ht]; exact hP, va_K.moved hW.alike hK, hD⟩, hS.F ht⟩) hS.2.2 dC_rounded_58
      · refine lv_lconst (v := 1) hx hb dC_rounded_45 (by decide) ?_
        refine lv_iload hx hb dC_rounded_46 (lv_at hl 0 rfl) ?_
        refine zc_i (va_runS (As := [.int (fC_packed (0 : Int64) n)]) (rest := [.long (1 : Int64)]) ⟨hx, hb, hml, hown, hq⟩ (kC_exponentOf l s.heap (fC_packed (0 : Int64) n)) (va_cwS 1 hq (wA_S q_60 q_61 q_1 q_62) rfl rfl rfl (by decide +kernel) ⟨Nat.le_of_ble_eq_true rfl, Nat.le_of_ble_eq_true rfl⟩) ⟨fun a U g mk q => q, fun U hU hW => ⟨rfl, hU⟩⟩ rfl rfl hl.1 rfl (lv_room (Nat.le_of_ble_eq_true rfl)) dC_rounded_48 ⟨Nat.zero_le _, Nat.zero_le _⟩) hS (fun locs hS => ?_)
        refine lv_iconst (v := 3) hx hb dC_rounded_51 (by decide) ?_
        refine lv_iadd hx hb dC_rounded_52 ?_
        refine lv_lshl hx hb dC_rounded_53 rfl ?_
        refine lv_goto (tgt := 58) hx hb dC_rounded_54 rfl ?_
        refine vx_ret (W.widen (k := 1) (n := 6) (by decide) (by decide) ?_)
        exact W.lret (v := (1 : Int64) <<< (((fC_exponentOf (fC_packed (0 : Int64) n)) + (3 : Int32)).toInt64 &&& 63)) hx hb hr (fun t9 ht hW => ⟨⟨_, (), rfl, ⟨(by unfold xC_rounded; rw [if_neg h1, if_neg h2, if_neg h3]), (by unfold fC_rounded; rw [if_neg h1, if_neg h2, if_neg h3])⟩, by rw [ht]; exact hP, va_K.moved hW.alike hK, hD⟩, hS.F ht⟩) hS.2.2 dC_rounded_58
    · refine lv_iload hx hb dC_rounded_29 (lv_at hl 0 rfl) ?_
      refine lv_iconst (v := 0) hx hb dC_rounded_31 (by decide) ?_
      refine zc_l (va_runS (As := [.int (fC_packed (0 : Int64) n), .int (0 : Int32)]) (rest := []) ⟨hx, hb, hml, hown, hq⟩ (kC_topOf l s.heap (fC_packed (0 : Int64) n) (0 : Int32)) (va_cwS 2 hq (wA_S q_48 q_49 q_1 q_50) rfl rfl rfl (by decide +kernel) ⟨Nat.le_of_ble_eq_true rfl, Nat.le_of_ble_eq_true rfl⟩) ⟨fun a U g mk q => q, fun U hU hW => ⟨rfl, hU⟩⟩ rfl rfl hl.1 rfl (lv_room (Nat.le_of_ble_eq_true rfl)) dC_rounded_32 ⟨Nat.zero_le _, Nat.zero_le _⟩) hS (fun locs hS => ?_)
      refine vx_ret (W.widen (k := 1) (n := 6) (by decide) (by decide) ?_)
      exact W.lret (v := fC_topOf (fC_packed (0 : Int64) n) (0 : Int32)) hx hb hr (fun t9 ht hW => ⟨⟨_, (), rfl, ⟨(by unfold xC_rounded; rw [if_neg h1, if_pos h2]), (by unfold fC_rounded; rw [if_neg h1, if_pos h2])⟩, by rw [ht]; exact hP, va_K.moved hW.alike hK, hD⟩, hS.F ht⟩) hS.2.2 dC_rounded_35
  · exact vx_throwS (rest := []) (names := xUp) (A := A) hx hb hl0 hown (by decide +kernel) (by decide +kernel) (hq _ q_180) (hq _ q_7) hX.2.2.2.2.2.2.2.2.2.2.2.choose_spec (x_all hq x_good50 x_bad50 hX.2.1.2.1 hX.2.2.2.1.1 hX.2.2.2.1.2.1 hX.2.2.2.1.2.2) x_ot50 hX.1.1 hX.1.2 hS (hl.1.trans hml.symm) dC_rounded_8 dC_rounded_11 dC_rounded_12 dC_rounded_14 dC_rounded_17 (fun x h9 => (hnt x h9).elim) (Nat.le_of_ble_eq_true rfl) (Nat.le_of_ble_eq_true rfl) (Nat.le_of_ble_eq_true rfl) (Nat.le_of_ble_eq_true rfl) hlocks (fun t9 ha hz hk9 => ⟨(), trivial, ⟨⟨rfl, (by unfold xC_rounded; rw [if_pos h1])⟩, hP.kept (fun _ q9 hq9 => hk9 q9.1 (vx_lt hP hq9)), va_K.moved ha hK⟩, hz, fun q9 h1 _ => hk9 q9 h1⟩) hS.2.2 (by decide) (by decide)
