def fC_baseIn (tg : Nat → Int32) (ad : Nat → Int32) (mt : Nat → Int32) (r : Int32) : Int64 := fC_baseOf (mt r.toNatClampNeg) (ad r.toNatClampNeg)
set_option maxHeartbeats 4000000 in
set_option maxRecDepth 100000 in
theorem kC_baseIn (l : Launch) {D : va_G} {q : Nat → Nat} {k : Nat → ClassId} {tg : Nat → Int32} {ad : Nat → Int32} {mt : Nat → Int32} {rb : Nat → Int64} {rt : Nat → Int64} {rp : Nat → Int32} {nr : Int32} {H : Heap} (hP : va_P D zCl (cW q k tg ad mt rb rt rp nr) H) (r : Int32) (ir : vp_in r 32) : Met l yC_baseIn wC_baseIn { frames := 3, cells := 0, slots := 0, locals := 71 } (va_Pc [.ref (q 0), .int r] (fun U => U.heap = H ∧ va_K D zCl (zT k) U)) (va_Ql (fun v9 (_ : Unit) => v9 = fC_baseIn tg ad mt r) (fun _ t => t.heap = H) (fun _ => False)) 0 0 (fun _ => False) := by
  refine Met.ofW (cc := cC_baseIn) (maxL := 2) (ret := (some .long)) (by decide) rfl ?_
  intro p e s m args below meth c s₁ B hml hv
  obtain ⟨rfl, hH, hK⟩ := hv
  subst hH
  have hx := B.exec
  have hb := B.bytes
  have hr := B.returns
  have hts := atoms_spec (ws := wC_baseIn) B.pre
  have hq : ∀ w ∈ wA, w.before _ s = true := fun w h => hts w (List.mem_cons_of_mem _ h)
  have hown : s.vm.findClass "CapUnit" = some m.cls := findClass_of_methodNamed B.named
  have hlocks := B.notSynchronized
  have hS : va_S (fun _ => False) s.heap s.heap [] := va_S.rf
  have hl := lv_entry ([.ref (q 0), .int r]) (n := 2) (Nat.le_of_ble_eq_true rfl)
  rw [lg_entry_eq]
  generalize (lg_sl ([.ref (q 0), .int r]) ++ List.replicate (2 - (lg_sl ([.ref (q 0), .int r])).length) Slot.unset).toArray = ls at hl ⊢
  have hl : lv_has ls 2 [(0, .ref (q 0)), (1, .int r)] := hl
  refine lv_aload_n hx hb dC_baseIn_0 rfl (lv_at hl 0 rfl) ?_
  refine va_get (D := D) (ci := 0) (v := .ref (q 3)) (C := "CapUnit") (T := TC) (N := 7) hx hb hq uC_in hown hK hP 0 rfl rfl 2 (by decide) (hq _ q_21) (fun _ h9 => h9) rfl dC_baseIn_1 ?_
  refine lv_iload_n hx hb dC_baseIn_4 rfl (lv_at hl 1 rfl) ?_
  refine va_iald hx hb hK hP 3 1 rfl rfl (i := r) ir dC_baseIn_5 ?_
  refine lv_aload_n hx hb dC_baseIn_6 rfl (lv_at hl 0 rfl) ?_
  refine va_get (D := D) (ci := 0) (v := .ref (q 2)) (C := "CapUnit") (T := TC) (N := 7) hx hb hq uC_in hown hK hP 0 rfl rfl 1 (by decide) (hq _ q_20) (fun _ h9 => h9) rfl dC_baseIn_7 ?_
  refine lv_iload_n hx hb dC_baseIn_10 rfl (lv_at hl 1 rfl) ?_
  refine va_iald hx hb hK hP 2 1 rfl rfl (i := r) ir dC_baseIn_11 ?_
  refine zc_l (va_runS (As := [.int (mt r.toNatClampNeg), .int (ad r.toNatClampNeg)]) (rest := []) ⟨hx, hb, hml, hown, hq⟩ (kC_baseOf l s.heap (mt r.toNatClampNeg) (ad r.toNatClampNeg)) (va_cwS 2 hq (wA_S q_73 q_74 q_1 q_75) rfl rfl rfl (by decide +kernel) ⟨Nat.le_of_ble_eq_true rfl, Nat.le_of_ble_eq_true rfl⟩) ⟨fun a U g mk q => q, fun U hU hW => ⟨rfl, hU⟩⟩ rfl rfl hl.1 rfl (lv_room (Nat.le_of_ble_eq_true rfl)) dC_baseIn_12 ⟨Nat.zero_le _, Nat.zero_le _⟩) hS (fun locs hS => ?_)
  exact W.lret (v := fC_baseOf (mt r.toNatClampNeg) (ad r.toNatClampNeg)) hx hb hr (fun t9 ht hW => ⟨⟨_, (), rfl, (by unfold fC_baseIn; rfl), ht⟩, hS.F ht⟩) hS.2.2 dC_baseIn_15
def fC_topIn (tg : Nat → Int32) (ad : Nat → Int32) (mt : Nat → Int32) (r : Int32) : Int64 := fC_topOf (mt r.toNatClampNeg) (ad r.toNatClampNeg)
set_option maxHeartbeats 4000000 in
set_option maxRecDepth 100000 in
theorem kC_topIn (l : Launch) {D : va_G} {q : Nat → Nat} {k : Nat → ClassId} {tg : Nat → Int32} {ad : Nat → Int32} {mt : Nat → Int32} {rb : Nat → Int64} {rt : Nat → Int64} {rp : Nat → Int32} {nr : Int32} {H : Heap} (hP : va_P D zCl (cW q k tg ad mt rb rt rp nr) H) (r : Int32) (ir : vp_in r 32) : Met l yC_topIn wC_topIn { frames := 3, cells := 0, slots := 0, locals := 77 } (va_Pc [.ref (q 0), .int r] (fun U => U.heap = H ∧ va_K D zCl (zT k) U)) (va_Ql (fun v9 (_ : Unit) => v9 = fC_topIn tg ad mt r) (fun _ t => t.heap = H) (fun _ => False)) 0 0 (fun _ => False) := by
  refine Met.ofW (cc := cC_topIn) (maxL := 2) (ret := (some .long)) (by decide) rfl ?_
  intro p e s m args below meth c s₁ B hml hv
  obtain ⟨rfl, hH, hK⟩ := hv
  subst hH
  have hx := B.exec
  have hb := B.bytes
  have hr := B.returns
  have hts := atoms_spec (ws := wC_topIn) B.pre
  have hq : ∀ w ∈ wA, w.before _ s = true := fun w h => hts w (List.mem_cons_of_mem _ h)
  have hown : s.vm.findClass "CapUnit" = some m.cls := findClass_of_methodNamed B.named
  have hlocks := B.notSynchronized
  have hS : va_S (fun _ => False) s.heap s.heap [] := va_S.rf
  have hl := lv_entry ([.ref (q 0), .int r]) (n := 2) (Nat.le_of_ble_eq_true rfl)
  rw [lg_entry_eq]
  generalize (lg_sl ([.ref (q 0), .int r]) ++ List.replicate (2 - (lg_sl ([.ref (q 0), .int r])).length) Slot.unset).toArray = ls at hl ⊢
  have hl : lv_has ls 2 [(0, .ref (q 0)), (1, .int r)] := hl
  refine lv_aload_n hx hb dC_topIn_0 rfl (lv_at hl 0 rfl) ?_
  refine va_get (D := D) (ci := 0) (v := .ref (q 3)) (C := "CapUnit") (T := TC) (N := 7) hx hb hq uC_in hown hK hP 0 rfl rfl 2 (by decide) (hq _ q_21) (fun _ h9 => h9) rfl dC_topIn_1 ?_
  refine lv_iload_n hx hb dC_topIn_4 rfl (lv_at hl 1 rfl) ?_
  refine va_iald hx hb hK hP 3 1 rfl rfl (i := r) ir dC_topIn_5 ?_
  refine lv_aload_n hx hb dC_topIn_6 rfl (lv_at hl 0 rfl) ?_
  refine va_get (D := D) (ci := 0) (v := .ref (q 2)) (C := "CapUnit") (T := TC) (N := 7) hx hb hq uC_in hown hK hP 0 rfl rfl 1 (by decide) (hq _ q_20) (fun _ h9 => h9) rfl dC_topIn_7 ?_
  refine lv_iload_n hx hb dC_topIn_10 rfl (lv_at hl 1 rfl) ?_
  refine va_iald hx hb hK hP 2 1 rfl rfl (i := r) ir dC_topIn_11 ?_
  refine zc_l (va_runS (As := [.int (mt r.toNatClampNeg), .int (ad r.toNatClampNeg)]) (rest := []) ⟨hx, hb, hml, hown, hq⟩ (kC_topOf l s.heap (mt r.toNatClampNeg) (ad r.toNatClampNeg)) (va_cwS 2 hq (wA_S q_48 q_49 q_1 q_50) rfl rfl rfl (by decide +kernel) ⟨Nat.le_of_ble_eq_true rfl, Nat.le_of_ble_eq_true rfl⟩) ⟨fun a U g mk q => q, fun U hU hW => ⟨rfl, hU⟩⟩ rfl rfl hl.1 rfl (lv_room (Nat.le_of_ble_eq_true rfl)) dC_topIn_12 ⟨Nat.zero_le _, Nat.zero_le _⟩) hS (fun locs hS => ?_)
  exact W.lret (v := fC_topOf (mt r.toNatClampNeg) (ad r.toNatClampNeg)) hx hb hr (fun t9 ht hW => ⟨⟨_, (), rfl, (by unfold fC_topIn; rfl), ht⟩, hS.F ht⟩) hS.2.2 dC_topIn_15
def fC_isOpenWithTag (tg : Nat → Int32) (ad : Nat → Int32) (mt : Nat → Int32) (r : Int32) : Int32 := if (tg r.toNatClampNeg) = 0 then (0 : Int32) else (if (fC_typeOf (mt r.toNatClampNeg)) = (15 : Int32) then (1 : Int32) else (0 : Int32))
theorem bC_isOpenWithTag (tg : Nat → Int32) (ad : Nat → Int32) (mt : Nat → Int32) (r : Int32) : fC_isOpenWithTag tg ad mt r = 0 ∨ fC_isOpenWithTag tg ad mt r = 1 := by
  unfold fC_isOpenWithTag
  repeat' split
  all_goals first | exact Or.inl rfl | exact Or.inr rfl
set_option maxHeartbeats 4000000 in
set_option maxRecDepth 100000 in
theorem kC_isOpenWithTag (l : Launch) {D : va_G} {q : Nat → Nat} {k : Nat → ClassId} {tg : Nat → Int32} {ad : Nat → Int32} {mt : Nat → Int32} {rb : Nat → Int64} {rt : Nat → Int64} {rp : Nat → Int32} {nr : Int32} {H : Heap} (hP : va_P D zCl (cW q k tg ad mt rb rt rp nr) H) (r : Int32) (ir : vp_in r 32) : Met l yC_isOpenWithTag wC_isOpenWithTag { frames := 1, cells := 0, slots := 0, locals := 20 } (va_Pc [.ref (q 0), .int r] (fun U => U.heap = H ∧ va_K D zCl (zT k) U)) (va_Qi (fun v9 (_ : Unit) => v9 = fC_isOpenWithTag tg ad mt r) (fun _ t => t.heap = H) (fun _ => False)) 0 0 (fun _ => False) := by
  refine Met.ofW (cc := cC_isOpenWithTag) (maxL := 2) (ret := (some .boolean)) (by decide) rfl ?_
  intro p e s m args below meth c s₁ B hml hv
  obtain ⟨rfl, hH, hK⟩ := hv
  subst hH
  have hx := B.exec
  have hb := B.bytes
  have hr := B.returns
  have hts := atoms_spec (ws := wC_isOpenWithTag) B.pre
  have hq : ∀ w ∈ wA, w.before _ s = true := fun w h => hts w (List.mem_cons_of_mem _ h)
  have hown : s.vm.findClass "CapUnit" = some m.cls := findClass_of_methodNamed B.named
  have hlocks := B.notSynchronized
  have hS : va_S (fun _ => False) s.heap s.heap [] := va_S.rf
  have hl := lv_entry ([.ref (q 0), .int r]) (n := 2) (Nat.le_of_ble_eq_true rfl)
  rw [lg_entry_eq]
  generalize (lg_sl ([.ref (q 0), .int r]) ++ List.replicate (2 - (lg_sl ([.ref (q 0), .int r])).length) Slot.unset).toArray = ls at hl ⊢
  have hl : lv_has ls 2 [(0, .ref (q 0)), (1, .int r)] := hl
  refine lv_aload_n hx hb dC_isOpenWithTag_0 rfl (lv_at hl 0 rfl) ?_
  refine va_get (D := D) (ci := 0) (v := .ref (q 1)) (C := "CapUnit") (T := TC) (N := 7) hx hb hq uC_in hown hK hP 0 rfl rfl 0 (by decide) (hq _ q_19) (fun _ h9 => h9) rfl dC_isOpenWithTag_1 ?_
  refine lv_iload_n hx hb dC_isOpenWithTag_4 rfl (lv_at hl 1 rfl) ?_
  refine va_zald hx hb hK hP 1 0 rfl rfl (i := r) ir dC_isOpenWithTag_5 ?_
  refine lv_if_eq (tgt := 27) hx hb dC_isOpenWithTag_6 rfl (fun h1 => ?_) (fun h1 => ?_)
  · refine lv_iconst (v := 0) hx hb dC_isOpenWithTag_27 (by decide) ?_
    exact W.zret (v := (0 : Int32)) hx hb hr (by decide) (fun t9 ht hW => ⟨⟨_, (), rfl, (by unfold fC_isOpenWithTag; rw [if_pos h1]), ht⟩, hS.F ht⟩) hS.2.2 dC_isOpenWithTag_28
  · refine lv_aload_n hx hb dC_isOpenWithTag_9 rfl (lv_at hl 0 rfl) ?_
    refine va_get (D := D) (ci := 0) (v := .ref (q 3)) (C := "CapUnit") (T := TC) (N := 7) hx hb hq uC_in hown hK hP 0 rfl rfl 2 (by decide) (hq _ q_21) (fun _ h9 => h9) rfl dC_isOpenWithTag_10 ?_
    refine lv_iload_n hx hb dC_isOpenWithTag_13 rfl (lv_at hl 1 rfl) ?_
    refine va_iald hx hb hK hP 3 1 rfl rfl (i := r) ir dC_isOpenWithTag_14 ?_
    refine zc_i (va_runS (As := [.int (mt r.toNatClampNeg)]) (rest := []) ⟨hx, hb, hml, hown, hq⟩ (kC_typeOf l s.heap (mt r.toNatClampNeg)) (va_cwS 1 hq (wA_S q_261 q_262 q_1 q_263) rfl rfl rfl (by decide +kernel) ⟨Nat.le_of_ble_eq_true rfl, Nat.le_of_ble_eq_true rfl⟩) ⟨fun a U g mk q => q, fun U hU hW => ⟨rfl, hU⟩⟩ rfl rfl hl.1 rfl (lv_room (Nat.le_of_ble_eq_true rfl)) dC_isOpenWithTag_15 ⟨Nat.zero_le _, Nat.zero_le _⟩) hS (fun locs hS => ?_)
    refine lv_bipush (v := 15) hx hb dC_isOpenWithTag_18 (by decide) ?_
    refine lv_icmp_ne (tgt := 27) hx hb dC_isOpenWithTag_20 rfl (fun h2 => ?_) (fun h2 => ?_)
    · refine lv_iconst (v := 0) hx hb dC_isOpenWithTag_27 (by decide) ?_
      exact W.zret (v := (0 : Int32)) hx hb hr (by decide) (fun t9 ht hW => ⟨⟨_, (), rfl, (by unfold fC_isOpenWithTag; rw [if_neg h1, if_neg h2]), ht⟩, hS.F ht⟩) hS.2.2 dC_isOpenWithTag_28
    · refine lv_iconst (v := 1) hx hb dC_isOpenWithTag_23 (by decide) ?_
      refine lv_goto (tgt := 28) hx hb dC_isOpenWithTag_24 rfl ?_
      exact W.zret (v := (1 : Int32)) hx hb hr (by decide) (fun t9 ht hW => ⟨⟨_, (), rfl, (by unfold fC_isOpenWithTag; rw [if_neg h1, if_pos h2]), ht⟩, hS.F ht⟩) hS.2.2 dC_isOpenWithTag_28
def fC_hasPerm (tg : Nat → Int32) (ad : Nat → Int32) (mt : Nat → Int32) (r : Int32) (y : Int32) : Int32 := if ((fC_permsOf (mt r.toNatClampNeg)) &&& y) = 0 then (0 : Int32) else (1 : Int32)
theorem bC_hasPerm (tg : Nat → Int32) (ad : Nat → Int32) (mt : Nat → Int32) (r : Int32) (y : Int32) : fC_hasPerm tg ad mt r y = 0 ∨ fC_hasPerm tg ad mt r y = 1 := by
  unfold fC_hasPerm
  repeat' split
  all_goals first | exact Or.inl rfl | exact Or.inr rfl
set_option maxHeartbeats 4000000 in
set_option maxRecDepth 100000 in
theorem kC_hasPerm (l : Launch) {D : va_G} {q : Nat → Nat} {k : Nat → ClassId} {tg : Nat → Int32} {ad : Nat → Int32} {mt : Nat → Int32} {rb : Nat → Int64} {rt : Nat → Int64} {rp : Nat → Int32} {nr : Int32} {H : Heap} (hP : va_P D zCl (cW q k tg ad mt rb rt rp nr) H) (r : Int32) (y : Int32) (ir : vp_in r 32) : Met l yC_hasPerm wC_hasPerm { frames := 1, cells := 0, slots := 0, locals := 20 } (va_Pc [.ref (q 0), .int r, .int y] (fun U => U.heap = H ∧ va_K D zCl (zT k) U)) (va_Qi (fun v9 (_ : Unit) => v9 = fC_hasPerm tg ad mt r y) (fun _ t => t.heap = H) (fun _ => False)) 0 0 (fun _ => False) := by
  refine Met.ofW (cc := cC_hasPerm) (maxL := 3) (ret := (some .boolean)) (by decide) rfl ?_
  intro p e s m args below meth c s₁ B hml hv
  obtain ⟨rfl, hH, hK⟩ := hv
  subst hH
  have hx := B.exec
  have hb := B.bytes
  have hr := B.returns
  have hts := atoms_spec (ws := wC_hasPerm) B.pre
  have hq : ∀ w ∈ wA, w.before _ s = true := fun w h => hts w (List.mem_cons_of_mem _ h)
  have hown : s.vm.findClass "CapUnit" = some m.cls := findClass_of_methodNamed B.named
  have hlocks := B.notSynchronized
  have hS : va_S (fun _ => False) s.heap s.heap [] := va_S.rf
  have hl := lv_entry ([.ref (q 0), .int r, .int y]) (n := 3) (Nat.le_of_ble_eq_true rfl)
  rw [lg_entry_eq]
  generalize (lg_sl ([.ref (q 0), .int r, .int y]) ++ List.replicate (3 - (lg_sl ([.ref (q 0), .int r, .int y])).length) Slot.unset).toArray = ls at hl ⊢
  have hl : lv_has ls 3 [(0, .ref (q 0)), (1, .int r), (2, .int y)] := hl
  refine lv_aload_n hx hb dC_hasPerm_0 rfl (lv_at hl 0 rfl) ?_
  refine va_get (D := D) (ci := 0) (v := .ref (q 3)) (C := "CapUnit") (T := TC) (N := 7) hx hb hq uC_in hown hK hP 0 rfl rfl 2 (by decide) (hq _ q_21) (fun _ h9 => h9) rfl dC_hasPerm_1 ?_
  refine lv_iload_n hx hb dC_hasPerm_4 rfl (lv_at hl 1 rfl) ?_
  refine va_iald hx hb hK hP 3 1 rfl rfl (i := r) ir dC_hasPerm_5 ?_
  refine zc_i (va_runS (As := [.int (mt r.toNatClampNeg)]) (rest := []) ⟨hx, hb, hml, hown, hq⟩ (kC_permsOf l s.heap (mt r.toNatClampNeg)) (va_cwS 1 hq (wA_S q_96 q_97 q_1 q_98) rfl rfl rfl (by decide +kernel) ⟨Nat.le_of_ble_eq_true rfl, Nat.le_of_ble_eq_true rfl⟩) ⟨fun a U g mk q => q, fun U hU hW => ⟨rfl, hU⟩⟩ rfl rfl hl.1 rfl (lv_room (Nat.le_of_ble_eq_true rfl)) dC_hasPerm_6 ⟨Nat.zero_le _, Nat.zero_le _⟩) hS (fun locs hS => ?_)
  refine lv_iload_n hx hb dC_hasPerm_9 rfl (lv_at hl 2 rfl) ?_
  refine lv_iand hx hb dC_hasPerm_10 ?_
  refine lv_if_eq (tgt := 18) hx hb dC_hasPerm_11 rfl (fun h1 => ?_) (fun h1 => ?_)
  · refine lv_iconst (v := 0) hx hb dC_hasPerm_18 (by decide) ?_
    exact W.zret (v := (0 : Int32)) hx hb hr (by decide) (fun t9 ht hW => ⟨⟨_, (), rfl, (by unfold fC_hasPerm; rw [if_pos h1]), ht⟩, hS.F ht⟩) hS.2.2 dC_hasPerm_19
  · refine lv_iconst (v := 1) hx hb dC_hasPerm_14 (by decide) ?_
    refine lv_goto (tgt := 19) hx hb dC_hasPerm_15 rfl ?_
    exact W.zret (v := (1 : Int32)) hx hb hr (by decide) (fun t9 ht hW => ⟨⟨_, (), rfl, (by unfold fC_hasPerm; rw [if_neg h1]), ht⟩, hS.F ht⟩) hS.2.2 dC_hasPerm_19
def fC_isInBounds (tg : Nat → Int32) (ad : Nat → Int32) (mt : Nat → Int32) (r : Int32) (x : Int64) (n : Int64) : Int32 := if x < (fC_baseIn tg ad mt r) then (0 : Int32) else (if (fC_topIn tg ad mt r) < (x + n) then (0 : Int32) else (1 : Int32))
theorem bC_isInBounds (tg : Nat → Int32) (ad : Nat → Int32) (mt : Nat → Int32) (r : Int32) (x : Int64) (n : Int64) : fC_isInBounds tg ad mt r x n = 0 ∨ fC_isInBounds tg ad mt r x n = 1 := by
  unfold fC_isInBounds
  repeat' split
  all_goals first | exact Or.inl rfl | exact Or.inr rfl
set_option maxHeartbeats 4000000 in
set_option maxRecDepth 100000 in
theorem kC_isInBounds (l : Launch) {D : va_G} {q : Nat → Nat} {k : Nat → ClassId} {tg : Nat → Int32} {ad : Nat → Int32} {mt : Nat → Int32} {rb : Nat → Int64} {rt : Nat → Int64} {rp : Nat → Int32} {nr : Int32} {H : Heap} (hP : va_P D zCl (cW q k tg ad mt rb rt rp nr) H) (r : Int32) (x : Int64) (n : Int64) (ir : vp_in r 32) : Met l yC_isInBounds wC_isInBounds { frames := 4, cells := 0, slots := 0, locals := 98 } (va_Pc [.ref (q 0), .int r, .long x, .long n] (fun U => U.heap = H ∧ va_K D zCl (zT k) U)) (va_Qi (fun v9 (_ : Unit) => v9 = fC_isInBounds tg ad mt r x n) (fun _ t => t.heap = H) (fun _ => False)) 0 0 (fun _ => False) := by
  refine Met.ofW (cc := cC_isInBounds) (maxL := 6) (ret := (some .boolean)) (by decide) rfl ?_
  intro p e s m args below meth c s₁ B hml hv
  obtain ⟨rfl, hH, hK⟩ := hv
  subst hH
  have hx := B.exec
  have hb := B.bytes
  have hr := B.returns
  have hts := atoms_spec (ws := wC_isInBounds) B.pre
  have hq : ∀ w ∈ wA, w.before _ s = true := fun w h => hts w (List.mem_cons_of_mem _ h)
  have hown : s.vm.findClass "CapUnit" = some m.cls := findClass_of_methodNamed B.named
  have hlocks := B.notSynchronized
  have hS : va_S (fun _ => False) s.heap s.heap [] := va_S.rf
  have hl := lv_entry ([.ref (q 0), .int r, .long x, .long n]) (n := 6) (Nat.le_of_ble_eq_true rfl)
  rw [lg_entry_eq]
  generalize (lg_sl ([.ref (q 0), .int r, .long x, .long n]) ++ List.replicate (6 - (lg_sl ([.ref (q 0), .int r, .long x, .long n])).length) Slot.unset).toArray = ls at hl ⊢
  have hl : lv_has ls 6 [(0, .ref (q 0)), (1, .int r), (2, .long x), (4, .long n)] := hl
  refine lv_aload_n hx hb dC_isInBounds_0 rfl (lv_at hl 0 rfl) ?_
  refine lv_iload_n hx hb dC_isInBounds_1 rfl (lv_at hl 1 rfl) ?_
  refine zc_l (va_runV (C := "CapUnit") (b := q 0) (As := [.int r]) (rest := []) ⟨hx, hb, hml, hown, hq⟩ (kC_baseIn l hP r ir) (cwV 1 hq (wA_V q_88 q_90 sC_baseIn q_1 q_91) rfl rfl rfl (by decide +kernel) ⟨Nat.le_of_ble_eq_true rfl, Nat.le_of_ble_eq_true rfl⟩) (zr_pre (c := zCl[0]) (q0 := 0) hK hP rfl rfl) rfl rfl hl.1 rfl (lv_room (Nat.le_of_ble_eq_true rfl)) dC_isInBounds_2 ⟨Nat.le_of_ble_eq_true rfl, Nat.le_of_ble_eq_true rfl⟩) hS (fun locs hS => ?_)
  refine lv_lload_n hx hb dC_isInBounds_5 rfl (lv_at hl 2 rfl) ?_
  refine W.lcmp hx hb dC_isInBounds_6 ?_
  refine lv_if_gt (tgt := 27) hx hb dC_isInBounds_7 rfl (fun h1 => ?_) (fun h1 => ?_)
  · have h1 := (lg_cmp_gt _ _).mp h1
    refine lv_iconst (v := 0) hx hb dC_isInBounds_27 (by decide) ?_
    exact W.zret (v := (0 : Int32)) hx hb hr (by decide) (fun t9 ht hW => ⟨⟨_, (), rfl, (by unfold fC_isInBounds; rw [if_pos h1]), ht⟩, hS.F ht⟩) hS.2.2 dC_isInBounds_28
  · have h1 := Not.imp h1 (lg_cmp_gt _ _).mpr
    refine lv_lload_n hx hb dC_isInBounds_10 rfl (lv_at hl 2 rfl) ?_
    refine lv_lload hx hb dC_isInBounds_11 (lv_at hl 3 rfl) ?_
    refine lv_ladd hx hb dC_isInBounds_13 ?_
    refine lv_aload_n hx hb dC_isInBounds_14 rfl (lv_at hl 0 rfl) ?_
    refine lv_iload_n hx hb dC_isInBounds_15 rfl (lv_at hl 1 rfl) ?_
    refine zc_l (va_runV (C := "CapUnit") (b := q 0) (As := [.int r]) (rest := [.long (x + n)]) ⟨hx, hb, hml, hown, hq⟩ (kC_topIn l hP r ir) (cwV 1 hq (wA_V q_92 q_94 sC_topIn q_1 q_95) rfl rfl rfl (by decide +kernel) ⟨Nat.le_of_ble_eq_true rfl, Nat.le_of_ble_eq_true rfl⟩) (zr_pre (c := zCl[0]) (q0 := 0) hK hP rfl rfl) rfl rfl hl.1 rfl (lv_room (Nat.le_of_ble_eq_true rfl)) dC_isInBounds_16 ⟨Nat.le_of_ble_eq_true rfl, Nat.le_of_ble_eq_true rfl⟩) hS (fun locs hS => ?_)
    refine W.lcmp hx hb dC_isInBounds_19 ?_
    refine lv_if_gt (tgt := 27) hx hb dC_isInBounds_20 rfl (fun h2 => ?_) (fun h2 => ?_)
    · have h2 := (lg_cmp_gt _ _).mp h2
      refine lv_iconst (v := 0) hx hb dC_isInBounds_27 (by decide) ?_
      exact W.zret (v := (0 : Int32)) hx hb hr (by decide) (fun t9 ht hW => ⟨⟨_, (), rfl, (by unfold fC_isInBounds; rw [if_neg h1, if_pos h2]), ht⟩, hS.F ht⟩) hS.2.2 dC_isInBounds_28
    · have h2 := Not.imp h2 (lg_cmp_gt _ _).mpr
      refine lv_iconst (v := 1) hx hb dC_isInBounds_23 (by decide) ?_
      refine lv_goto (tgt := 28) hx hb dC_isInBounds_24 rfl ?_
      exact W.zret (v := (1 : Int32)) hx hb hr (by decide) (fun t9 ht hW => ⟨⟨_, (), rfl, (by unfold fC_isInBounds; rw [if_neg h1, if_neg h2]), ht⟩, hS.F ht⟩) hS.2.2 dC_isInBounds_28
def fC_isKey (tg : Nat → Int32) (ad : Nat → Int32) (mt : Nat → Int32) (r : Int32) (y : Int32) : Int32 := if (fC_isOpenWithTag tg ad mt r) = 0 then (0 : Int32) else (if (fC_hasPerm tg ad mt r y) = 0 then (0 : Int32) else (if (fC_isInBounds tg ad mt r (fC_unsigned (ad r.toNatClampNeg)) (1 : Int64)) = 0 then (0 : Int32) else (1 : Int32)))
theorem bC_isKey (tg : Nat → Int32) (ad : Nat → Int32) (mt : Nat → Int32) (r : Int32) (y : Int32) : fC_isKey tg ad mt r y = 0 ∨ fC_isKey tg ad mt r y = 1 := by
  unfold fC_isKey
  repeat' split
  all_goals first | exact Or.inl rfl | exact Or.inr rfl | exact bC_hasPerm .. | exact bC_isInBounds .. | exact bC_isOpenWithTag ..
set_option maxHeartbeats 4000000 in
set_option maxRecDepth 100000 in
theorem kC_isKey (l : Launch) {D : va_G} {q : Nat → Nat} {k : Nat → ClassId} {tg : Nat → Int32} {ad : Nat → Int32} {mt : Nat → Int32} {rb : Nat → Int64} {rt : Nat → Int64} {rp : Nat → Int32} {nr : Int32} {H : Heap} (hP : va_P D zCl (cW q k tg ad mt rb rt rp nr) H) (r : Int32) (y : Int32) (ir : vp_in r 32) : Met l yC_isKey wC_isKey { frames := 5, cells := 0, slots := 0, locals := 123 } (va_Pc [.ref (q 0), .int r, .int y] (fun U => U.heap = H ∧ va_K D zCl (zT k) U)) (va_Qi (fun v9 (_ : Unit) => v9 = fC_isKey tg ad mt r y) (fun _ t => t.heap = H) (fun _ => False)) 0 0 (fun _ => False) := by
  refine Met.ofW (cc := cC_isKey) (maxL := 3) (ret := (some .boolean)) (by decide) rfl ?_
  intro p e s m args below meth c s₁ B hml hv
  obtain ⟨rfl, hH, hK⟩ := hv
  subst hH
  have hx := B.exec
  have hb := B.bytes
  have hr := B.returns
  have hts := atoms_spec (ws := wC_isKey) B.pre
  have hq : ∀ w ∈ wA, w.before _ s = true := fun w h => hts w (List.mem_cons_of_mem _ h)
  have hown : s.vm.findClass "CapUnit" = some m.cls := findClass_of_methodNamed B.named
  have hlocks := B.notSynchronized
  have hS : va_S (fun _ => False) s.heap s.heap [] := va_S.rf
  have hl := lv_entry ([.ref (q 0), .int r, .int y]) (n := 3) (Nat.le_of_ble_eq_true rfl)
  rw [lg_entry_eq]
  generalize (lg_sl ([.ref (q 0), .int r, .int y]) ++ List.replicate (3 - (lg_sl ([.ref (q 0), .int r, .int y])).length) Slot.unset).toArray = ls at hl ⊢
  have hl : lv_has ls 3 [(0, .ref (q 0)), (1, .int r), (2, .int y)] := hl
  refine lv_aload_n hx hb dC_isKey_0 rfl (lv_at hl 0 rfl) ?_
  refine lv_iload_n hx hb dC_isKey_1 rfl (lv_at hl 1 rfl) ?_
  refine zc_i (va_runV (C := "CapUnit") (b := q 0) (As := [.int r]) (rest := []) ⟨hx, hb, hml, hown, hq⟩ (kC_isOpenWithTag l hP r ir) (cwV 1 hq (wA_V q_257 q_259 sC_isOpenWithTag q_1 q_260) rfl rfl rfl (by decide +kernel) ⟨Nat.le_of_ble_eq_true rfl, Nat.le_of_ble_eq_true rfl⟩) (zr_pre (c := zCl[0]) (q0 := 0) hK hP rfl rfl) rfl rfl hl.1 rfl (lv_room (Nat.le_of_ble_eq_true rfl)) dC_isKey_2 ⟨Nat.le_of_ble_eq_true rfl, Nat.le_of_ble_eq_true rfl⟩) hS (fun locs hS => ?_)
  refine lv_if_eq (tgt := 39) hx hb dC_isKey_5 rfl (fun h1 => ?_) (fun h1 => ?_)
  · refine lv_iconst (v := 0) hx hb dC_isKey_39 (by decide) ?_
    exact W.zret (v := (0 : Int32)) hx hb hr (by decide) (fun t9 ht hW => ⟨⟨_, (), rfl, (by unfold fC_isKey; rw [if_pos h1]), ht⟩, hS.F ht⟩) hS.2.2 dC_isKey_40
  · refine lv_aload_n hx hb dC_isKey_8 rfl (lv_at hl 0 rfl) ?_
    refine lv_iload_n hx hb dC_isKey_9 rfl (lv_at hl 1 rfl) ?_
    refine lv_iload_n hx hb dC_isKey_10 rfl (lv_at hl 2 rfl) ?_
    refine zc_i (va_runV (C := "CapUnit") (b := q 0) (As := [.int r, .int y]) (rest := []) ⟨hx, hb, hml, hown, hq⟩ (kC_hasPerm l hP r y ir) (cwV 2 hq (wA_V q_293 q_295 sC_hasPerm q_1 q_296) rfl rfl rfl (by decide +kernel) ⟨Nat.le_of_ble_eq_true rfl, Nat.le_of_ble_eq_true rfl⟩) (zr_pre (c := zCl[0]) (q0 := 0) hK hP rfl rfl) rfl rfl hl.1 rfl (lv_room (Nat.le_of_ble_eq_true rfl)) dC_isKey_11 ⟨Nat.le_of_ble_eq_true rfl, Nat.le_of_ble_eq_true rfl⟩) hS (fun locs hS => ?_)
    refine lv_if_eq (tgt := 39) hx hb dC_isKey_14 rfl (fun h2 => ?_) (fun h2 => ?_)
    · refine lv_iconst (v := 0) hx hb dC_isKey_39 (by decide) ?_
      exact W.zret (v := (0 : Int32)) hx hb hr (by decide) (fun t9 ht hW => ⟨⟨_, (), rfl, (by unfold fC_isKey; rw [if_neg h1, if_pos h2]), ht⟩, hS.F ht⟩) hS.2.2 dC_isKey_40
    · refine lv_aload_n hx hb dC_isKey_17 rfl (lv_at hl 0 rfl) ?_
      refine lv_iload_n hx hb dC_isKey_18 rfl (lv_at hl 1 rfl) ?_
      refine lv_aload_n hx hb dC_isKey_19 rfl (lv_at hl 0 rfl) ?_
      refine va_get (D := D) (ci := 0) (v := .ref (q 2)) (C := "CapUnit") (T := TC) (N := 7) hx hb hq uC_in hown hK hP 0 rfl rfl 1 (by decide) (hq _ q_20) (fun _ h9 => h9) rfl dC_isKey_20 ?_
      refine lv_iload_n hx hb dC_isKey_23 rfl (lv_at hl 1 rfl) ?_
      refine va_iald hx hb hK hP 2 1 rfl rfl (i := r) ir dC_isKey_24 ?_
      refine zc_l (va_runS (As := [.int (ad r.toNatClampNeg)]) (rest := [.int r, .ref (q 0)]) ⟨hx, hb, hml, hown, hq⟩ (kC_unsigned l s.heap (ad r.toNatClampNeg)) (va_cwS 1 hq (wA_S q_63 q_64 q_1 q_65) rfl rfl rfl (by decide +kernel) ⟨Nat.le_of_ble_eq_true rfl, Nat.le_of_ble_eq_true rfl⟩) ⟨fun a U g mk q => q, fun U hU hW => ⟨rfl, hU⟩⟩ rfl rfl hl.1 rfl (lv_room (Nat.le_of_ble_eq_true rfl)) dC_isKey_25 ⟨Nat.zero_le _, Nat.zero_le _⟩) hS (fun locs hS => ?_)
      refine lv_lconst (v := 1) hx hb dC_isKey_28 (by decide) ?_
      refine zc_i (va_runV (C := "CapUnit") (b := q 0) (As := [.int r, .long (fC_unsigned (ad r.toNatClampNeg)), .long (1 : Int64)]) (rest := []) ⟨hx, hb, hml, hown, hq⟩ (kC_isInBounds l hP r (fC_unsigned (ad r.toNatClampNeg)) (1 : Int64) ir) (cwV 3 hq (wA_V q_264 q_266 sC_isInBounds q_1 q_267) rfl rfl rfl (by decide +kernel) ⟨Nat.le_of_ble_eq_true rfl, Nat.le_of_ble_eq_true rfl⟩) (zr_pre (c := zCl[0]) (q0 := 0) hK hP rfl rfl) rfl rfl hl.1 rfl (lv_room (Nat.le_of_ble_eq_true rfl)) dC_isKey_29 ⟨Nat.le_of_ble_eq_true rfl, Nat.le_of_ble_eq_true rfl⟩) hS (fun locs hS => ?_)
      refine lv_if_eq (tgt := 39) hx hb dC_isKey_32 rfl (fun h3 => ?_) (fun h3 => ?_)
      · refine lv_iconst (v := 0) hx hb dC_isKey_39 (by decide) ?_
        exact W.zret (v := (0 : Int32)) hx hb hr (by decide) (fun t9 ht hW => ⟨⟨_, (), rfl, (by unfold fC_isKey; rw [if_neg h1, if_neg h2, if_pos h3]), ht⟩, hS.F ht⟩) hS.2.2 dC_isKey_40
      · refine lv_iconst (v := 1) hx hb dC_isKey_35 (by decide) ?_
        refine lv_goto (tgt := 40) hx hb dC_isKey_36 rfl ?_
        exact W.zret (v := (1 : Int32)) hx hb hr (by decide) (fun t9 ht hW => ⟨⟨_, (), rfl, (by unfold fC_isKey; rw [if_neg h1, if_neg h2, if_neg h3]), ht⟩, hS.F ht⟩) hS.2.2 dC_isKey_40
def fC_isWithin (tg : Nat → Int32) (ad : Nat → Int32) (mt : Nat → Int32) (r : Int32) (b : Int64) (t : Int64) (y : Int32) : Int32 := if (fC_baseIn tg ad mt r) < b then (0 : Int32) else (if t < (fC_topIn tg ad mt r) then (0 : Int32) else (if ((fC_permsOf (mt r.toNatClampNeg)) &&& (y ^^^ (-1 : Int32))) = 0 then (1 : Int32) else (0 : Int32)))
theorem bC_isWithin (tg : Nat → Int32) (ad : Nat → Int32) (mt : Nat → Int32) (r : Int32) (b : Int64) (t : Int64) (y : Int32) : fC_isWithin tg ad mt r b t y = 0 ∨ fC_isWithin tg ad mt r b t y = 1 := by
  unfold fC_isWithin
  repeat' split
  all_goals first | exact Or.inl rfl | exact Or.inr rfl
set_option maxHeartbeats 4000000 in
set_option maxRecDepth 100000 in
theorem kC_isWithin (l : Launch) {D : va_G} {q : Nat → Nat} {k : Nat → ClassId} {tg : Nat → Int32} {ad : Nat → Int32} {mt : Nat → Int32} {rb : Nat → Int64} {rt : Nat → Int64} {rp : Nat → Int32} {nr : Int32} {H : Heap} (hP : va_P D zCl (cW q k tg ad mt rb rt rp nr) H) (r : Int32) (b : Int64) (t : Int64) (y : Int32) (ir : vp_in r 32) : Met l yC_isWithin wC_isWithin { frames := 4, cells := 0, slots := 0, locals := 98 } (va_Pc [.ref (q 0), .int r, .long b, .long t, .int y] (fun U => U.heap = H ∧ va_K D zCl (zT k) U)) (va_Qi (fun v9 (_ : Unit) => v9 = fC_isWithin tg ad mt r b t y) (fun _ t => t.heap = H) (fun _ => False)) 0 0 (fun _ => False) := by
  refine Met.ofW (cc := cC_isWithin) (maxL := 7) (ret := (some .boolean)) (by decide) rfl ?_
  intro p e s m args below meth c s₁ B hml hv
  obtain ⟨rfl, hH, hK⟩ := hv
  subst hH
  have hx := B.exec
  have hb := B.bytes
  have hr := B.returns
  have hts := atoms_spec (ws := wC_isWithin) B.pre
  have hq : ∀ w ∈ wA, w.before _ s = true := fun w h => hts w (List.mem_cons_of_mem _ h)
  have hown : s.vm.findClass "CapUnit" = some m.cls := findClass_of_methodNamed B.named
  have hlocks := B.notSynchronized
  have hS : va_S (fun _ => False) s.heap s.heap [] := va_S.rf
  have hl := lv_entry ([.ref (q 0), .int r, .long b, .long t, .int y]) (n := 7) (Nat.le_of_ble_eq_true rfl)
  rw [lg_entry_eq]
  generalize (lg_sl ([.ref (q 0), .int r, .long b, .long t, .int y]) ++ List.replicate (7 - (lg_sl ([.ref (q 0), .int r, .long b, .long t, .int y])).length) Slot.unset).toArray = ls at hl ⊢
  have hl : lv_has ls 7 [(0, .ref (q 0)), (1, .int r), (2, .long b), (4, .long t), (6, .int y)] := hl
  refine lv_aload_n hx hb dC_isWithin_0 rfl (lv_at hl 0 rfl) ?_
  refine lv_iload_n hx hb dC_isWithin_1 rfl (lv_at hl 1 rfl) ?_
  refine zc_l (va_runV (C := "CapUnit") (b := q 0) (As := [.int r]) (rest := []) ⟨hx, hb, hml, hown, hq⟩ (kC_baseIn l hP r ir) (cwV 1 hq (wA_V q_88 q_90 sC_baseIn q_1 q_91) rfl rfl rfl (by decide +kernel) ⟨Nat.le_of_ble_eq_true rfl, Nat.le_of_ble_eq_true rfl⟩) (zr_pre (c := zCl[0]) (q0 := 0) hK hP rfl rfl) rfl rfl hl.1 rfl (lv_room (Nat.le_of_ble_eq_true rfl)) dC_isWithin_2 ⟨Nat.le_of_ble_eq_true rfl, Nat.le_of_ble_eq_true rfl⟩) hS (fun locs hS => ?_)
  refine lv_lload_n hx hb dC_isWithin_5 rfl (lv_at hl 2 rfl) ?_
  refine W.lcmp hx hb dC_isWithin_6 ?_
  refine lv_if_lt (tgt := 42) hx hb dC_isWithin_7 rfl (fun h1 => ?_) (fun h1 => ?_)
  · have h1 := (lg_cmp_lt _ _).mp h1
    refine lv_iconst (v := 0) hx hb dC_isWithin_42 (by decide) ?_
    exact W.zret (v := (0 : Int32)) hx hb hr (by decide) (fun t9 ht hW => ⟨⟨_, (), rfl, (by unfold fC_isWithin; rw [if_pos h1]), ht⟩, hS.F ht⟩) hS.2.2 dC_isWithin_43
  · have h1 := Not.imp h1 (lg_cmp_lt _ _).mpr
    refine lv_aload_n hx hb dC_isWithin_10 rfl (lv_at hl 0 rfl) ?_
    refine lv_iload_n hx hb dC_isWithin_11 rfl (lv_at hl 1 rfl) ?_
    refine zc_l (va_runV (C := "CapUnit") (b := q 0) (As := [.int r]) (rest := []) ⟨hx, hb, hml, hown, hq⟩ (kC_topIn l hP r ir) (cwV 1 hq (wA_V q_92 q_94 sC_topIn q_1 q_95) rfl rfl rfl (by decide +kernel) ⟨Nat.le_of_ble_eq_true rfl, Nat.le_of_ble_eq_true rfl⟩) (zr_pre (c := zCl[0]) (q0 := 0) hK hP rfl rfl) rfl rfl hl.1 rfl (lv_room (Nat.le_of_ble_eq_true rfl)) dC_isWithin_12 ⟨Nat.le_of_ble_eq_true rfl, Nat.le_of_ble_eq_true rfl⟩) hS (fun locs hS => ?_)
    refine lv_lload hx hb dC_isWithin_15 (lv_at hl 3 rfl) ?_
    refine W.lcmp hx hb dC_isWithin_17 ?_
    refine lv_if_gt (tgt := 42) hx hb dC_isWithin_18 rfl (fun h2 => ?_) (fun h2 => ?_)
    · have h2 := (lg_cmp_gt _ _).mp h2
      refine lv_iconst (v := 0) hx hb dC_isWithin_42 (by decide) ?_
      exact W.zret (v := (0 : Int32)) hx hb hr (by decide) (fun t9 ht hW => ⟨⟨_, (), rfl, (by unfold fC_isWithin; rw [if_neg h1, if_pos h2]), ht⟩, hS.F ht⟩) hS.2.2 dC_isWithin_43
    · have h2 := Not.imp h2 (lg_cmp_gt _ _).mpr
      refine lv_aload_n hx hb dC_isWithin_21 rfl (lv_at hl 0 rfl) ?_
      refine va_get (D := D) (ci := 0) (v := .ref (q 3)) (C := "CapUnit") (T := TC) (N := 7) hx hb hq uC_in hown hK hP 0 rfl rfl 2 (by decide) (hq _ q_21) (fun _ h9 => h9) rfl dC_isWithin_22 ?_
      refine lv_iload_n hx hb dC_isWithin_25 rfl (lv_at hl 1 rfl) ?_
      refine va_iald hx hb hK hP 3 1 rfl rfl (i := r) ir dC_isWithin_26 ?_
      refine zc_i (va_runS (As := [.int (mt r.toNatClampNeg)]) (rest := []) ⟨hx, hb, hml, hown, hq⟩ (kC_permsOf l s.heap (mt r.toNatClampNeg)) (va_cwS 1 hq (wA_S q_96 q_97 q_1 q_98) rfl rfl rfl (by decide +kernel) ⟨Nat.le_of_ble_eq_true rfl, Nat.le_of_ble_eq_true rfl⟩) ⟨fun a U g mk q => q, fun U hU hW => ⟨rfl, hU⟩⟩ rfl rfl hl.1 rfl (lv_room (Nat.le_of_ble_eq_true rfl)) dC_isWithin_27 ⟨Nat.zero_le _, Nat.zero_le _⟩) hS (fun locs hS => ?_)
      refine lv_iload hx hb dC_isWithin_30 (lv_at hl 4 rfl) ?_
      refine lv_iconst (v := -1) hx hb dC_isWithin_32 (by decide) ?_
      refine lv_ixor hx hb dC_isWithin_33 ?_
      refine lv_iand hx hb dC_isWithin_34 ?_
      refine lv_if_ne (tgt := 42) hx hb dC_isWithin_35 rfl (fun h3 => ?_) (fun h3 => ?_)
      · refine lv_iconst (v := 0) hx hb dC_isWithin_42 (by decide) ?_
        exact W.zret (v := (0 : Int32)) hx hb hr (by decide) (fun t9 ht hW => ⟨⟨_, (), rfl, (by unfold fC_isWithin; rw [if_neg h1, if_neg h2, if_neg h3]), ht⟩, hS.F ht⟩) hS.2.2 dC_isWithin_43
      · refine lv_iconst (v := 1) hx hb dC_isWithin_38 (by decide) ?_
        refine lv_goto (tgt := 43) hx hb dC_isWithin_39 rfl ?_
        exact W.zret (v := (1 : Int32)) hx hb hr (by decide) (fun t9 ht hW => ⟨⟨_, (), rfl, (by unfold fC_isWithin; rw [if_neg h1, if_neg h2, if_pos h3]), ht⟩, hS.F ht⟩) hS.2.2 dC_isWithin_43
