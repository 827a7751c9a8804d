def fM_isOpen (tg : Nat → Int32) (ad : Nat → Int32) (mt : Nat → Int32) (r : Int32) : Int32 := if (fM_type (mt r.toNatClampNeg)) = (15 : Int32) then (1 : Int32) else (0 : Int32)
theorem bM_isOpen (tg : Nat → Int32) (ad : Nat → Int32) (mt : Nat → Int32) (r : Int32) : fM_isOpen tg ad mt r = 0 ∨ fM_isOpen tg ad mt r = 1 := by
  unfold fM_isOpen
  repeat' split
  all_goals first | exact Or.inl rfl | exact Or.inr rfl
set_option maxHeartbeats 4000000 in
set_option maxRecDepth 100000 in
theorem kM_isOpen (l : Launch) {D : va_G} {q : Nat → Nat} {k : Nat → ClassId} {tg : Nat → Int32} {ad : Nat → Int32} {mt : Nat → Int32} {rb : Nat → Int64} {rt : Nat → Int64} {rp : Nat → Int32} {nr : Int32} {th : Int32} {pk : Int32} {ex : Int32} {ro : Int64} {H : Heap} (hP : va_P D zCl (mW q k tg ad mt rb rt rp nr th pk ex ro) H) (r : Int32) (ir : vp_in r 32) : Met l yM_isOpen wM_isOpen { frames := 1, cells := 0, slots := 0, locals := 20 } (va_Pc [.ref (q 0), .int r] (fun U => U.heap = H ∧ va_K D zCl (zT k) U)) (va_Qi (fun v9 (_ : Unit) => v9 = fM_isOpen tg ad mt r) (fun _ t => t.heap = H) (fun _ => False)) 0 0 (fun _ => False) := by
  refine Met.ofW (cc := cM_isOpen) (maxL := 2) (ret := (some .boolean)) (by decide) rfl ?_
  intro p e s m args below meth c s₁ B hml hv
  obtain ⟨rfl, hH, hK⟩ := hv
  subst hH
  have hx := B.exec
  have hb := B.bytes
  have hr := B.returns
  have hts := atoms_spec (ws := wM_isOpen) B.pre
  have hq : ∀ w ∈ wA, w.before _ s = true := fun w h => hts w (List.mem_cons_of_mem _ h)
  have hown : s.vm.findClass "CapUnitModel" = some m.cls := findClass_of_methodNamed B.named
  have hlocks := B.notSynchronized
  have hS : va_S (fun _ => False) s.heap s.heap [] := va_S.rf
  have hl := lv_entry ([.ref (q 0), .int r]) (n := 2) (Nat.le_of_ble_eq_true rfl)
  rw [lg_entry_eq]
  generalize (lg_sl ([.ref (q 0), .int r]) ++ List.replicate (2 - (lg_sl ([.ref (q 0), .int r])).length) Slot.unset).toArray = ls at hl ⊢
  have hl : lv_has ls 2 [(0, .ref (q 0)), (1, .int r)] := hl
  refine lv_aload_n hx hb dM_isOpen_0 rfl (lv_at hl 0 rfl) ?_
  refine va_get (D := D) (ci := 1) (v := .ref (q 3)) (C := "CapUnitModel") (T := TM) (N := 11) hx hb hq uM_in hown hK hP 0 rfl rfl 2 (by decide) (hq _ q_372) (fun _ h9 => h9) rfl dM_isOpen_1 ?_
  refine lv_iload_n hx hb dM_isOpen_4 rfl (lv_at hl 1 rfl) ?_
  refine va_iald hx hb hK hP 3 1 rfl rfl (i := r) ir dM_isOpen_5 ?_
  refine zc_i (va_runS (As := [.int (mt r.toNatClampNeg)]) (rest := []) ⟨hx, hb, hml, hown, hq⟩ (kM_type l s.heap (mt r.toNatClampNeg)) (va_cwS 1 hq (wA_S q_474 q_475 q_2 q_476) rfl rfl rfl (by decide +kernel) ⟨Nat.le_of_ble_eq_true rfl, Nat.le_of_ble_eq_true rfl⟩) ⟨fun a U g mk q => q, fun U hU hW => ⟨rfl, hU⟩⟩ rfl rfl hl.1 rfl (lv_room (Nat.le_of_ble_eq_true rfl)) dM_isOpen_6 ⟨Nat.zero_le _, Nat.zero_le _⟩) hS (fun locs hS => ?_)
  refine lv_bipush (v := 15) hx hb dM_isOpen_9 (by decide) ?_
  refine lv_icmp_ne (tgt := 18) hx hb dM_isOpen_11 rfl (fun h1 => ?_) (fun h1 => ?_)
  · refine lv_iconst (v := 0) hx hb dM_isOpen_18 (by decide) ?_
    exact W.zret (v := (0 : Int32)) hx hb hr (by decide) (fun t9 ht hW => ⟨⟨_, (), rfl, (by unfold fM_isOpen; rw [if_neg h1]), ht⟩, hS.F ht⟩) hS.2.2 dM_isOpen_19
  · refine lv_iconst (v := 1) hx hb dM_isOpen_14 (by decide) ?_
    refine lv_goto (tgt := 19) hx hb dM_isOpen_15 rfl ?_
    exact W.zret (v := (1 : Int32)) hx hb hr (by decide) (fun t9 ht hW => ⟨⟨_, (), rfl, (by unfold fM_isOpen; rw [if_pos h1]), ht⟩, hS.F ht⟩) hS.2.2 dM_isOpen_19
def fM_has (tg : Nat → Int32) (ad : Nat → Int32) (mt : Nat → Int32) (r : Int32) (y : Int32) : Int32 := if (((fM_perms (mt r.toNatClampNeg)) >>> (y &&& 31)) &&& (1 : Int32)) = (1 : Int32) then (1 : Int32) else (0 : Int32)
theorem bM_has (tg : Nat → Int32) (ad : Nat → Int32) (mt : Nat → Int32) (r : Int32) (y : Int32) : fM_has tg ad mt r y = 0 ∨ fM_has tg ad mt r y = 1 := by
  unfold fM_has
  repeat' split
  all_goals first | exact Or.inl rfl | exact Or.inr rfl
set_option maxHeartbeats 4000000 in
set_option maxRecDepth 100000 in
theorem kM_has (l : Launch) {D : va_G} {q : Nat → Nat} {k : Nat → ClassId} {tg : Nat → Int32} {ad : Nat → Int32} {mt : Nat → Int32} {rb : Nat → Int64} {rt : Nat → Int64} {rp : Nat → Int32} {nr : Int32} {th : Int32} {pk : Int32} {ex : Int32} {ro : Int64} {H : Heap} (hP : va_P D zCl (mW q k tg ad mt rb rt rp nr th pk ex ro) H) (r : Int32) (y : Int32) (ir : vp_in r 32) : Met l yM_has wM_has { frames := 1, cells := 0, slots := 0, locals := 20 } (va_Pc [.ref (q 0), .int r, .int y] (fun U => U.heap = H ∧ va_K D zCl (zT k) U)) (va_Qi (fun v9 (_ : Unit) => v9 = fM_has tg ad mt r y) (fun _ t => t.heap = H) (fun _ => False)) 0 0 (fun _ => False) := by
  refine Met.ofW (cc := cM_has) (maxL := 3) (ret := (some .boolean)) (by decide) rfl ?_
  intro p e s m args below meth c s₁ B hml hv
  obtain ⟨rfl, hH, hK⟩ := hv
  subst hH
  have hx := B.exec
  have hb := B.bytes
  have hr := B.returns
  have hts := atoms_spec (ws := wM_has) B.pre
  have hq : ∀ w ∈ wA, w.before _ s = true := fun w h => hts w (List.mem_cons_of_mem _ h)
  have hown : s.vm.findClass "CapUnitModel" = some m.cls := findClass_of_methodNamed B.named
  have hlocks := B.notSynchronized
  have hS : va_S (fun _ => False) s.heap s.heap [] := va_S.rf
  have hl := lv_entry ([.ref (q 0), .int r, .int y]) (n := 3) (Nat.le_of_ble_eq_true rfl)
  rw [lg_entry_eq]
  generalize (lg_sl ([.ref (q 0), .int r, .int y]) ++ List.replicate (3 - (lg_sl ([.ref (q 0), .int r, .int y])).length) Slot.unset).toArray = ls at hl ⊢
  have hl : lv_has ls 3 [(0, .ref (q 0)), (1, .int r), (2, .int y)] := hl
  refine lv_aload_n hx hb dM_has_0 rfl (lv_at hl 0 rfl) ?_
  refine va_get (D := D) (ci := 1) (v := .ref (q 3)) (C := "CapUnitModel") (T := TM) (N := 11) hx hb hq uM_in hown hK hP 0 rfl rfl 2 (by decide) (hq _ q_372) (fun _ h9 => h9) rfl dM_has_1 ?_
  refine lv_iload_n hx hb dM_has_4 rfl (lv_at hl 1 rfl) ?_
  refine va_iald hx hb hK hP 3 1 rfl rfl (i := r) ir dM_has_5 ?_
  refine zc_i (va_runS (As := [.int (mt r.toNatClampNeg)]) (rest := []) ⟨hx, hb, hml, hown, hq⟩ (kM_perms l s.heap (mt r.toNatClampNeg)) (va_cwS 1 hq (wA_S q_485 q_486 q_2 q_487) rfl rfl rfl (by decide +kernel) ⟨Nat.le_of_ble_eq_true rfl, Nat.le_of_ble_eq_true rfl⟩) ⟨fun a U g mk q => q, fun U hU hW => ⟨rfl, hU⟩⟩ rfl rfl hl.1 rfl (lv_room (Nat.le_of_ble_eq_true rfl)) dM_has_6 ⟨Nat.zero_le _, Nat.zero_le _⟩) hS (fun locs hS => ?_)
  refine lv_iload_n hx hb dM_has_9 rfl (lv_at hl 2 rfl) ?_
  refine lv_ishr hx hb dM_has_10 ?_
  refine lv_iconst (v := 1) hx hb dM_has_11 (by decide) ?_
  refine lv_iand hx hb dM_has_12 ?_
  refine lv_iconst (v := 1) hx hb dM_has_13 (by decide) ?_
  refine lv_icmp_ne (tgt := 21) hx hb dM_has_14 rfl (fun h1 => ?_) (fun h1 => ?_)
  · refine lv_iconst (v := 0) hx hb dM_has_21 (by decide) ?_
    exact W.zret (v := (0 : Int32)) hx hb hr (by decide) (fun t9 ht hW => ⟨⟨_, (), rfl, (by unfold fM_has; rw [if_neg h1]), ht⟩, hS.F ht⟩) hS.2.2 dM_has_22
  · refine lv_iconst (v := 1) hx hb dM_has_17 (by decide) ?_
    refine lv_goto (tgt := 22) hx hb dM_has_18 rfl ?_
    exact W.zret (v := (1 : Int32)) hx hb hr (by decide) (fun t9 ht hW => ⟨⟨_, (), rfl, (by unfold fM_has; rw [if_pos h1]), ht⟩, hS.F ht⟩) hS.2.2 dM_has_22
def fM_isWithin (tg : Nat → Int32) (ad : Nat → Int32) (mt : Nat → Int32) (r : Int32) (y : Int32) : Int32 := if (fM_base (mt r.toNatClampNeg) (ad r.toNatClampNeg)) < (fM_base (mt y.toNatClampNeg) (ad y.toNatClampNeg)) then (0 : Int32) else (if (fM_top (mt y.toNatClampNeg) (ad y.toNatClampNeg)) < (fM_top (mt r.toNatClampNeg) (ad r.toNatClampNeg)) then (0 : Int32) else (if ((fM_perms (mt r.toNatClampNeg)) &&& ((fM_perms (mt y.toNatClampNeg)) ^^^ (-1 : Int32))) = 0 then (1 : Int32) else (0 : Int32)))
theorem bM_isWithin (tg : Nat → Int32) (ad : Nat → Int32) (mt : Nat → Int32) (r : Int32) (y : Int32) : fM_isWithin tg ad mt r y = 0 ∨ fM_isWithin tg ad mt r y = 1 := by
  unfold fM_isWithin
  repeat' split
  all_goals first | exact Or.inl rfl | exact Or.inr rfl
set_option maxHeartbeats 4000000 in
set_option maxRecDepth 100000 in
theorem kM_isWithin (l : Launch) {D : va_G} {q : Nat → Nat} {k : Nat → ClassId} {tg : Nat → Int32} {ad : Nat → Int32} {mt : Nat → Int32} {rb : Nat → Int64} {rt : Nat → Int64} {rp : Nat → Int32} {nr : Int32} {th : Int32} {pk : Int32} {ex : Int32} {ro : Int64} {H : Heap} (hP : va_P D zCl (mW q k tg ad mt rb rt rp nr th pk ex ro) H) (r : Int32) (y : Int32) (ir : vp_in r 32) (iy : vp_in y 32) : Met l yM_isWithin wM_isWithin { frames := 4, cells := 0, slots := 0, locals := 99 } (va_Pc [.ref (q 0), .int r, .int y] (fun U => U.heap = H ∧ va_K D zCl (zT k) U)) (va_Qi (fun v9 (_ : Unit) => v9 = fM_isWithin tg ad mt r y) (fun _ t => t.heap = H) (fun _ => False)) 0 0 (fun _ => False) := by
  refine Met.ofW (cc := cM_isWithin) (maxL := 3) (ret := (some .boolean)) (by decide) rfl ?_
  intro p e s m args below meth c s₁ B hml hv
  obtain ⟨rfl, hH, hK⟩ := hv
  subst hH
  have hx := B.exec
  have hb := B.bytes
  have hr := B.returns
  have hts := atoms_spec (ws := wM_isWithin) B.pre
  have hq : ∀ w ∈ wA, w.before _ s = true := fun w h => hts w (List.mem_cons_of_mem _ h)
  have hown : s.vm.findClass "CapUnitModel" = some m.cls := findClass_of_methodNamed B.named
  have hlocks := B.notSynchronized
  have hS : va_S (fun _ => False) s.heap s.heap [] := va_S.rf
  have hl := lv_entry ([.ref (q 0), .int r, .int y]) (n := 3) (Nat.le_of_ble_eq_true rfl)
  rw [lg_entry_eq]
  generalize (lg_sl ([.ref (q 0), .int r, .int y]) ++ List.replicate (3 - (lg_sl ([.ref (q 0), .int r, .int y])).length) Slot.unset).toArray = ls at hl ⊢
  have hl : lv_has ls 3 [(0, .ref (q 0)), (1, .int r), (2, .int y)] := hl
  refine lv_aload_n hx hb dM_isWithin_0 rfl (lv_at hl 0 rfl) ?_
  refine va_get (D := D) (ci := 1) (v := .ref (q 3)) (C := "CapUnitModel") (T := TM) (N := 11) hx hb hq uM_in hown hK hP 0 rfl rfl 2 (by decide) (hq _ q_372) (fun _ h9 => h9) rfl dM_isWithin_1 ?_
  refine lv_iload_n hx hb dM_isWithin_4 rfl (lv_at hl 1 rfl) ?_
  refine va_iald hx hb hK hP 3 1 rfl rfl (i := r) ir dM_isWithin_5 ?_
  refine lv_aload_n hx hb dM_isWithin_6 rfl (lv_at hl 0 rfl) ?_
  refine va_get (D := D) (ci := 1) (v := .ref (q 2)) (C := "CapUnitModel") (T := TM) (N := 11) hx hb hq uM_in hown hK hP 0 rfl rfl 1 (by decide) (hq _ q_371) (fun _ h9 => h9) rfl dM_isWithin_7 ?_
  refine lv_iload_n hx hb dM_isWithin_10 rfl (lv_at hl 1 rfl) ?_
  refine va_iald hx hb hK hP 2 1 rfl rfl (i := r) ir dM_isWithin_11 ?_
  refine zc_l (va_runS (As := [.int (mt r.toNatClampNeg), .int (ad r.toNatClampNeg)]) (rest := []) ⟨hx, hb, hml, hown, hq⟩ (kM_base l s.heap (mt r.toNatClampNeg) (ad r.toNatClampNeg)) (va_cwS 2 hq (wA_S q_433 q_434 q_2 q_435) rfl rfl rfl (by decide +kernel) ⟨Nat.le_of_ble_eq_true rfl, Nat.le_of_ble_eq_true rfl⟩) ⟨fun a U g mk q => q, fun U hU hW => ⟨rfl, hU⟩⟩ rfl rfl hl.1 rfl (lv_room (Nat.le_of_ble_eq_true rfl)) dM_isWithin_12 ⟨Nat.zero_le _, Nat.zero_le _⟩) hS (fun locs hS => ?_)
  refine lv_aload_n hx hb dM_isWithin_15 rfl (lv_at hl 0 rfl) ?_
  refine va_get (D := D) (ci := 1) (v := .ref (q 3)) (C := "CapUnitModel") (T := TM) (N := 11) hx hb hq uM_in hown hK hP 0 rfl rfl 2 (by decide) (hq _ q_372) (fun _ h9 => h9) rfl dM_isWithin_16 ?_
  refine lv_iload_n hx hb dM_isWithin_19 rfl (lv_at hl 2 rfl) ?_
  refine va_iald hx hb hK hP 3 1 rfl rfl (i := y) iy dM_isWithin_20 ?_
  refine lv_aload_n hx hb dM_isWithin_21 rfl (lv_at hl 0 rfl) ?_
  refine va_get (D := D) (ci := 1) (v := .ref (q 2)) (C := "CapUnitModel") (T := TM) (N := 11) hx hb hq uM_in hown hK hP 0 rfl rfl 1 (by decide) (hq _ q_371) (fun _ h9 => h9) rfl dM_isWithin_22 ?_
  refine lv_iload_n hx hb dM_isWithin_25 rfl (lv_at hl 2 rfl) ?_
  refine va_iald hx hb hK hP 2 1 rfl rfl (i := y) iy dM_isWithin_26 ?_
  refine zc_l (va_runS (As := [.int (mt y.toNatClampNeg), .int (ad y.toNatClampNeg)]) (rest := [.long (fM_base (mt r.toNatClampNeg) (ad r.toNatClampNeg))]) ⟨hx, hb, hml, hown, hq⟩ (kM_base l s.heap (mt y.toNatClampNeg) (ad y.toNatClampNeg)) (va_cwS 2 hq (wA_S q_433 q_434 q_2 q_435) rfl rfl rfl (by decide +kernel) ⟨Nat.le_of_ble_eq_true rfl, Nat.le_of_ble_eq_true rfl⟩) ⟨fun a U g mk q => q, fun U hU hW => ⟨rfl, hU⟩⟩ rfl rfl hl.1 rfl (lv_room (Nat.le_of_ble_eq_true rfl)) dM_isWithin_27 ⟨Nat.zero_le _, Nat.zero_le _⟩) hS (fun locs hS => ?_)
  refine W.lcmp hx hb dM_isWithin_30 ?_
  refine lv_if_lt (tgt := 96) hx hb dM_isWithin_31 rfl (fun h1 => ?_) (fun h1 => ?_)
  · have h1 := (lg_cmp_lt _ _).mp h1
    refine lv_iconst (v := 0) hx hb dM_isWithin_96 (by decide) ?_
    exact W.zret (v := (0 : Int32)) hx hb hr (by decide) (fun t9 ht hW => ⟨⟨_, (), rfl, (by unfold fM_isWithin; rw [if_pos h1]), ht⟩, hS.F ht⟩) hS.2.2 dM_isWithin_97
  · have h1 := Not.imp h1 (lg_cmp_lt _ _).mpr
    refine lv_aload_n hx hb dM_isWithin_34 rfl (lv_at hl 0 rfl) ?_
    refine va_get (D := D) (ci := 1) (v := .ref (q 3)) (C := "CapUnitModel") (T := TM) (N := 11) hx hb hq uM_in hown hK hP 0 rfl rfl 2 (by decide) (hq _ q_372) (fun _ h9 => h9) rfl dM_isWithin_35 ?_
    refine lv_iload_n hx hb dM_isWithin_38 rfl (lv_at hl 1 rfl) ?_
    refine va_iald hx hb hK hP 3 1 rfl rfl (i := r) ir dM_isWithin_39 ?_
    refine lv_aload_n hx hb dM_isWithin_40 rfl (lv_at hl 0 rfl) ?_
    refine va_get (D := D) (ci := 1) (v := .ref (q 2)) (C := "CapUnitModel") (T := TM) (N := 11) hx hb hq uM_in hown hK hP 0 rfl rfl 1 (by decide) (hq _ q_371) (fun _ h9 => h9) rfl dM_isWithin_41 ?_
    refine lv_iload_n hx hb dM_isWithin_44 rfl (lv_at hl 1 rfl) ?_
    refine va_iald hx hb hK hP 2 1 rfl rfl (i := r) ir dM_isWithin_45 ?_
    refine zc_l (va_runS (As := [.int (mt r.toNatClampNeg), .int (ad r.toNatClampNeg)]) (rest := []) ⟨hx, hb, hml, hown, hq⟩ (kM_top l s.heap (mt r.toNatClampNeg) (ad r.toNatClampNeg)) (va_cwS 2 hq (wA_S q_451 q_452 q_2 q_453) rfl rfl rfl (by decide +kernel) ⟨Nat.le_of_ble_eq_true rfl, Nat.le_of_ble_eq_true rfl⟩) ⟨fun a U g mk q => q, fun U hU hW => ⟨rfl, hU⟩⟩ rfl rfl hl.1 rfl (lv_room (Nat.le_of_ble_eq_true rfl)) dM_isWithin_46 ⟨Nat.zero_le _, Nat.zero_le _⟩) hS (fun locs hS => ?_)
    refine lv_aload_n hx hb dM_isWithin_49 rfl (lv_at hl 0 rfl) ?_
    refine va_get (D := D) (ci := 1) (v := .ref (q 3)) (C := "CapUnitModel") (T := TM) (N := 11) hx hb hq uM_in hown hK hP 0 rfl rfl 2 (by decide) (hq _ q_372) (fun _ h9 => h9) rfl dM_isWithin_50 ?_
    refine lv_iload_n hx hb dM_isWithin_53 rfl (lv_at hl 2 rfl) ?_
    refine va_iald hx hb hK hP 3 1 rfl rfl (i := y) iy dM_isWithin_54 ?_
    refine lv_aload_n hx hb dM_isWithin_55 rfl (lv_at hl 0 rfl) ?_
    refine va_get (D := D) (ci := 1) (v := .ref (q 2)) (C := "CapUnitModel") (T := TM) (N := 11) hx hb hq uM_in hown hK hP 0 rfl rfl 1 (by decide) (hq _ q_371) (fun _ h9 => h9) rfl dM_isWithin_56 ?_
    refine lv_iload_n hx hb dM_isWithin_59 rfl (lv_at hl 2 rfl) ?_
    refine va_iald hx hb hK hP 2 1 rfl rfl (i := y) iy dM_isWithin_60 ?_
    refine zc_l (va_runS (As := [.int (mt y.toNatClampNeg), .int (ad y.toNatClampNeg)]) (rest := [.long (fM_top (mt r.toNatClampNeg) (ad r.toNatClampNeg))]) ⟨hx, hb, hml, hown, hq⟩ (kM_top l s.heap (mt y.toNatClampNeg) (ad y.toNatClampNeg)) (va_cwS 2 hq (wA_S q_451 q_452 q_2 q_453) rfl rfl rfl (by decide +kernel) ⟨Nat.le_of_ble_eq_true rfl, Nat.le_of_ble_eq_true rfl⟩) ⟨fun a U g mk q => q, fun U hU hW => ⟨rfl, hU⟩⟩ rfl rfl hl.1 rfl (lv_room (Nat.le_of_ble_eq_true rfl)) dM_isWithin_61 ⟨Nat.zero_le _, Nat.zero_le _⟩) hS (fun locs hS => ?_)
    refine W.lcmp hx hb dM_isWithin_64 ?_
    refine lv_if_gt (tgt := 96) hx hb dM_isWithin_65 rfl (fun h2 => ?_) (fun h2 => ?_)
    · have h2 := (lg_cmp_gt _ _).mp h2
      refine lv_iconst (v := 0) hx hb dM_isWithin_96 (by decide) ?_
      exact W.zret (v := (0 : Int32)) hx hb hr (by decide) (fun t9 ht hW => ⟨⟨_, (), rfl, (by unfold fM_isWithin; rw [if_neg h1, if_pos h2]), ht⟩, hS.F ht⟩) hS.2.2 dM_isWithin_97
    · have h2 := Not.imp h2 (lg_cmp_gt _ _).mpr
      refine lv_aload_n hx hb dM_isWithin_68 rfl (lv_at hl 0 rfl) ?_
      refine va_get (D := D) (ci := 1) (v := .ref (q 3)) (C := "CapUnitModel") (T := TM) (N := 11) hx hb hq uM_in hown hK hP 0 rfl rfl 2 (by decide) (hq _ q_372) (fun _ h9 => h9) rfl dM_isWithin_69 ?_
      refine lv_iload_n hx hb dM_isWithin_72 rfl (lv_at hl 1 rfl) ?_
      refine va_iald hx hb hK hP 3 1 rfl rfl (i := r) ir dM_isWithin_73 ?_
      refine zc_i (va_runS (As := [.int (mt r.toNatClampNeg)]) (rest := []) ⟨hx, hb, hml, hown, hq⟩ (kM_perms l s.heap (mt r.toNatClampNeg)) (va_cwS 1 hq (wA_S q_485 q_486 q_2 q_487) rfl rfl rfl (by decide +kernel) ⟨Nat.le_of_ble_eq_true rfl, Nat.le_of_ble_eq_true rfl⟩) ⟨fun a U g mk q => q, fun U hU hW => ⟨rfl, hU⟩⟩ rfl rfl hl.1 rfl (lv_room (Nat.le_of_ble_eq_true rfl)) dM_isWithin_74 ⟨Nat.zero_le _, Nat.zero_le _⟩) hS (fun locs hS => ?_)
      refine lv_aload_n hx hb dM_isWithin_77 rfl (lv_at hl 0 rfl) ?_
      refine va_get (D := D) (ci := 1) (v := .ref (q 3)) (C := "CapUnitModel") (T := TM) (N := 11) hx hb hq uM_in hown hK hP 0 rfl rfl 2 (by decide) (hq _ q_372) (fun _ h9 => h9) rfl dM_isWithin_78 ?_
      refine lv_iload_n hx hb dM_isWithin_81 rfl (lv_at hl 2 rfl) ?_
      refine va_iald hx hb hK hP 3 1 rfl rfl (i := y) iy dM_isWithin_82 ?_
      refine zc_i (va_runS (As := [.int (mt y.toNatClampNeg)]) (rest := [.int (fM_perms (mt r.toNatClampNeg))]) ⟨hx, hb, hml, hown, hq⟩ (kM_perms l s.heap (mt y.toNatClampNeg)) (va_cwS 1 hq (wA_S q_485 q_486 q_2 q_487) rfl rfl rfl (by decide +kernel) ⟨Nat.le_of_ble_eq_true rfl, Nat.le_of_ble_eq_true rfl⟩) ⟨fun a U g mk q => q, fun U hU hW => ⟨rfl, hU⟩⟩ rfl rfl hl.1 rfl (lv_room (Nat.le_of_ble_eq_true rfl)) dM_isWithin_83 ⟨Nat.zero_le _, Nat.zero_le _⟩) hS (fun locs hS => ?_)
      refine lv_iconst (v := -1) hx hb dM_isWithin_86 (by decide) ?_
      refine lv_ixor hx hb dM_isWithin_87 ?_
      refine lv_iand hx hb dM_isWithin_88 ?_
      refine lv_if_ne (tgt := 96) hx hb dM_isWithin_89 rfl (fun h3 => ?_) (fun h3 => ?_)
      · refine lv_iconst (v := 0) hx hb dM_isWithin_96 (by decide) ?_
        exact W.zret (v := (0 : Int32)) hx hb hr (by decide) (fun t9 ht hW => ⟨⟨_, (), rfl, (by unfold fM_isWithin; rw [if_neg h1, if_neg h2, if_neg h3]), ht⟩, hS.F ht⟩) hS.2.2 dM_isWithin_97
      · refine lv_iconst (v := 1) hx hb dM_isWithin_92 (by decide) ?_
        refine lv_goto (tgt := 97) hx hb dM_isWithin_93 rfl ?_
        exact W.zret (v := (1 : Int32)) hx hb hr (by decide) (fun t9 ht hW => ⟨⟨_, (), rfl, (by unfold fM_isWithin; rw [if_neg h1, if_neg h2, if_pos h3]), ht⟩, hS.F ht⟩) hS.2.2 dM_isWithin_97
