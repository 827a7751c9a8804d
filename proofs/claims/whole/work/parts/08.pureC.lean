/-! Calls of methods that leave the heap as it is. -/
section ZC
variable {p : Program} {l : Launch} {e : Env} {R : Room} {s : State} {m : MethodId} {args : Array Value} {below : List Frame} {meth : Method} {c : Code} {H : Heap} {locs : List Loc} {cells slots : Nat} {Q : State → Prop}
variable {pc : Nat} {ls : Array Slot} {rest st0 : List Value} {a : Array Value} {A0 : Nat → Prop} {H0 : Heap}
theorem zc_i {v : Int32} (hr : va_Run p l e R s m args below meth c H locs cells slots 0 0 (F0 m pc ls st0) rest (va_Qi (fun r (_ : Unit) => r = v) (fun _ t => t.heap = H) (fun _ => False) a) (fun _ => False)) (hS : va_S A0 H0 H locs)
    (kk : ∀ locs1 : List Loc, va_S A0 H0 H locs1 → W p l e R s m args below meth c H locs1 cells slots Q (F0 m (pc + 3) ls (.int v :: rest))) : W p l e R s m args below meth c H locs cells slots Q (F0 m pc ls st0) := by
  refine va_calli hr hS (fun q _ h => h.elim) (fun q h => h.elim) (fun r u t H1 locs1 ht hvm hp hB hz hk hS1 => ?_)
  have e1 : H1 = H := ht.symm.trans hB
  subst e1
  rw [hp]
  exact kk locs1 hS1
theorem zc_l {v : Int64} (hr : va_Run p l e R s m args below meth c H locs cells slots 0 0 (F0 m pc ls st0) rest (va_Ql (fun r (_ : Unit) => r = v) (fun _ t => t.heap = H) (fun _ => False) a) (fun _ => False)) (hS : va_S A0 H0 H locs)
    (kk : ∀ locs1 : List Loc, va_S A0 H0 H locs1 → W p l e R s m args below meth c H locs1 cells slots Q (F0 m (pc + 3) ls (.long v :: rest))) : W p l e R s m args below meth c H locs cells slots Q (F0 m pc ls st0) := by
  refine va_calll hr hS (fun q _ h => h.elim) (fun q h => h.elim) (fun r u t H1 locs1 ht hvm hp hB hz hk hS1 => ?_)
  have e1 : H1 = H := ht.symm.trans hB
  subst e1
  rw [hp]
  exact kk locs1 hS1
end ZC

def fC_isRegister (r : Int32) : Int32 := if r < 0 then (0 : Int32) else (if (32 : Int32) ≤ r then (0 : Int32) else (1 : Int32))
set_option maxHeartbeats 4000000 in
set_option maxRecDepth 100000 in
theorem kC_isRegister (l : Launch) (H : Heap) (r : Int32) : Met l yC_isRegister wC_isRegister { frames := 0, cells := 0, slots := 0, locals := 0 } (va_Pc [.int r] (fun U => U.heap = H)) (va_Qi (fun v9 (_ : Unit) => v9 = fC_isRegister r) (fun _ t => t.heap = H) (fun _ => False)) 0 0 (fun _ => False) := by
  refine Met.ofW (cc := cC_isRegister) (maxL := 1) (ret := (some .boolean)) (by decide) rfl ?_
  intro p e s m args below meth c s₁ B hml hv
  obtain ⟨rfl, hH⟩ := hv
  have hx := B.exec
  have hb := B.bytes
  have hr := B.returns
  have hts := atoms_spec (ws := wC_isRegister) B.pre
  have hq : ∀ w ∈ wA, w.before _ s = true := fun w h => hts w (List.mem_cons_of_mem _ h)
  have hown : s.vm.findClass "CapUnit" = some m.cls := findClass_of_methodNamed B.named
  have hlocks := B.notSynchronized
  have hS : va_S (fun _ => False) s.heap s.heap [] := va_S.rf
  have hl := lv_entry ([.int r]) (n := 1) (Nat.le_of_ble_eq_true rfl)
  rw [lg_entry_eq]
  generalize (lg_sl ([.int r]) ++ List.replicate (1 - (lg_sl ([.int r])).length) Slot.unset).toArray = ls at hl ⊢
  have hl : lv_has ls 1 [(0, .int r)] := hl
  refine lv_iload_n hx hb dC_isRegister_0 rfl (lv_at hl 0 rfl) ?_
  refine lv_if_lt (tgt := 14) hx hb dC_isRegister_1 rfl (fun h1 => ?_) (fun h1 => ?_)
  · refine lv_iconst (v := 0) hx hb dC_isRegister_14 (by decide) ?_
    exact W.zret (v := (0 : Int32)) hx hb hr (by decide) (fun t ht hW => ⟨⟨(0 : Int32), (), rfl, (by unfold fC_isRegister; rw [if_pos h1]), ht.trans hH⟩, hS.F ht⟩) hS.2.2 dC_isRegister_15
  · refine lv_iload_n hx hb dC_isRegister_4 rfl (lv_at hl 0 rfl) ?_
    refine lv_bipush (v := 32) hx hb dC_isRegister_5 (by decide) ?_
    refine lv_icmp_ge (tgt := 14) hx hb dC_isRegister_7 rfl (fun h2 => ?_) (fun h2 => ?_)
    · refine lv_iconst (v := 0) hx hb dC_isRegister_14 (by decide) ?_
      exact W.zret (v := (0 : Int32)) hx hb hr (by decide) (fun t ht hW => ⟨⟨(0 : Int32), (), rfl, (by unfold fC_isRegister; rw [if_neg h1, if_pos h2]), ht.trans hH⟩, hS.F ht⟩) hS.2.2 dC_isRegister_15
    · refine lv_iconst (v := 1) hx hb dC_isRegister_10 (by decide) ?_
      refine lv_goto (tgt := 15) hx hb dC_isRegister_11 rfl ?_
      exact W.zret (v := (1 : Int32)) hx hb hr (by decide) (fun t ht hW => ⟨⟨(1 : Int32), (), rfl, (by unfold fC_isRegister; rw [if_neg h1, if_neg h2]), ht.trans hH⟩, hS.F ht⟩) hS.2.2 dC_isRegister_15
def fC_permsOf (z : Int32) : Int32 := (z.toUInt32 >>> ((20 : Int32).toUInt32 &&& Int32.toUInt32 31)).toInt32
set_option maxHeartbeats 4000000 in
set_option maxRecDepth 100000 in
theorem kC_permsOf (l : Launch) (H : Heap) (z : Int32) : Met l yC_permsOf wC_permsOf { frames := 0, cells := 0, slots := 0, locals := 0 } (va_Pc [.int z] (fun U => U.heap = H)) (va_Qi (fun v9 (_ : Unit) => v9 = fC_permsOf z) (fun _ t => t.heap = H) (fun _ => False)) 0 0 (fun _ => False) := by
  refine Met.ofW (cc := cC_permsOf) (maxL := 1) (ret := (some .int)) (by decide) rfl ?_
  intro p e s m args below meth c s₁ B hml hv
  obtain ⟨rfl, hH⟩ := hv
  have hx := B.exec
  have hb := B.bytes
  have hr := B.returns
  have hts := atoms_spec (ws := wC_permsOf) B.pre
  have hq : ∀ w ∈ wA, w.before _ s = true := fun w h => hts w (List.mem_cons_of_mem _ h)
  have hown : s.vm.findClass "CapUnit" = some m.cls := findClass_of_methodNamed B.named
  have hlocks := B.notSynchronized
  have hS : va_S (fun _ => False) s.heap s.heap [] := va_S.rf
  have hl := lv_entry ([.int z]) (n := 1) (Nat.le_of_ble_eq_true rfl)
  rw [lg_entry_eq]
  generalize (lg_sl ([.int z]) ++ List.replicate (1 - (lg_sl ([.int z])).length) Slot.unset).toArray = ls at hl ⊢
  have hl : lv_has ls 1 [(0, .int z)] := hl
  refine lv_iload_n hx hb dC_permsOf_0 rfl (lv_at hl 0 rfl) ?_
  refine lv_bipush (v := 20) hx hb dC_permsOf_1 (by decide) ?_
  refine lv_iushr hx hb dC_permsOf_3 rfl ?_
  exact W.iret (v := (z.toUInt32 >>> ((20 : Int32).toUInt32 &&& Int32.toUInt32 31)).toInt32) hx hb hr (fun t ht hW => ⟨⟨(z.toUInt32 >>> ((20 : Int32).toUInt32 &&& Int32.toUInt32 31)).toInt32, (), rfl, (by unfold fC_permsOf; rfl), ht.trans hH⟩, hS.F ht⟩) hS.2.2 dC_permsOf_4
def fC_typeOf (z : Int32) : Int32 := ((z.toUInt32 >>> ((16 : Int32).toUInt32 &&& Int32.toUInt32 31)).toInt32) &&& (15 : Int32)
set_option maxHeartbeats 4000000 in
set_option maxRecDepth 100000 in
theorem kC_typeOf (l : Launch) (H : Heap) (z : Int32) : Met l yC_typeOf wC_typeOf { frames := 0, cells := 0, slots := 0, locals := 0 } (va_Pc [.int z] (fun U => U.heap = H)) (va_Qi (fun v9 (_ : Unit) => v9 = fC_typeOf z) (fun _ t => t.heap = H) (fun _ => False)) 0 0 (fun _ => False) := by
  refine Met.ofW (cc := cC_typeOf) (maxL := 1) (ret := (some .int)) (by decide) rfl ?_
  intro p e s m args below meth c s₁ B hml hv
  obtain ⟨rfl, hH⟩ := hv
  have hx := B.exec
  have hb := B.bytes
  have hr := B.returns
  have hts := atoms_spec (ws := wC_typeOf) B.pre
  have hq : ∀ w ∈ wA, w.before _ s = true := fun w h => hts w (List.mem_cons_of_mem _ h)
  have hown : s.vm.findClass "CapUnit" = some m.cls := findClass_of_methodNamed B.named
  have hlocks := B.notSynchronized
  have hS : va_S (fun _ => False) s.heap s.heap [] := va_S.rf
  have hl := lv_entry ([.int z]) (n := 1) (Nat.le_of_ble_eq_true rfl)
  rw [lg_entry_eq]
  generalize (lg_sl ([.int z]) ++ List.replicate (1 - (lg_sl ([.int z])).length) Slot.unset).toArray = ls at hl ⊢
  have hl : lv_has ls 1 [(0, .int z)] := hl
  refine lv_iload_n hx hb dC_typeOf_0 rfl (lv_at hl 0 rfl) ?_
  refine lv_bipush (v := 16) hx hb dC_typeOf_1 (by decide) ?_
  refine lv_iushr hx hb dC_typeOf_3 rfl ?_
  refine lv_bipush (v := 15) hx hb dC_typeOf_4 (by decide) ?_
  refine lv_iand hx hb dC_typeOf_6 ?_
  exact W.iret (v := ((z.toUInt32 >>> ((16 : Int32).toUInt32 &&& Int32.toUInt32 31)).toInt32) &&& (15 : Int32)) hx hb hr (fun t ht hW => ⟨⟨((z.toUInt32 >>> ((16 : Int32).toUInt32 &&& Int32.toUInt32 31)).toInt32) &&& (15 : Int32), (), rfl, (by unfold fC_typeOf; rfl), ht.trans hH⟩, hS.F ht⟩) hS.2.2 dC_typeOf_7
def fC_withType (z : Int32) (y : Int32) : Int32 := (z &&& (-983041 : Int32)) ||| (y <<< ((16 : Int32) &&& 31))
set_option maxHeartbeats 4000000 in
set_option maxRecDepth 100000 in
theorem kC_withType (l : Launch) (H : Heap) (z : Int32) (y : Int32) : Met l yC_withType wC_withType { frames := 0, cells := 0, slots := 0, locals := 0 } (va_Pc [.int z, .int y] (fun U => U.heap = H)) (va_Qi (fun v9 (_ : Unit) => v9 = fC_withType z y) (fun _ t => t.heap = H) (fun _ => False)) 0 0 (fun _ => False) := by
  refine Met.ofW (cc := cC_withType) (maxL := 2) (ret := (some .int)) (by decide) rfl ?_
  intro p e s m args below meth c s₁ B hml hv
  obtain ⟨rfl, hH⟩ := hv
  have hx := B.exec
  have hb := B.bytes
  have hr := B.returns
  have hts := atoms_spec (ws := wC_withType) B.pre
  have hq : ∀ w ∈ wA, w.before _ s = true := fun w h => hts w (List.mem_cons_of_mem _ h)
  have hown : s.vm.findClass "CapUnit" = some m.cls := findClass_of_methodNamed B.named
  have hlocks := B.notSynchronized
  have hS : va_S (fun _ => False) s.heap s.heap [] := va_S.rf
  have hl := lv_entry ([.int z, .int y]) (n := 2) (Nat.le_of_ble_eq_true rfl)
  rw [lg_entry_eq]
  generalize (lg_sl ([.int z, .int y]) ++ List.replicate (2 - (lg_sl ([.int z, .int y])).length) Slot.unset).toArray = ls at hl ⊢
  have hl : lv_has ls 2 [(0, .int z), (1, .int y)] := hl
  refine lv_iload_n hx hb dC_withType_0 rfl (lv_at hl 0 rfl) ?_
  refine lv_ldc (v := -983041) hx hb hown (hts (.constant "CapUnit" 143 (-983041)) (by decide +kernel)) dC_withType_1 ?_
  refine lv_iand hx hb dC_withType_3 ?_
  refine lv_iload_n hx hb dC_withType_4 rfl (lv_at hl 1 rfl) ?_
  refine lv_bipush (v := 16) hx hb dC_withType_5 (by decide) ?_
  refine lv_ishl hx hb dC_withType_7 ?_
  refine lv_ior hx hb dC_withType_8 ?_
  exact W.iret (v := (z &&& (-983041 : Int32)) ||| (y <<< ((16 : Int32) &&& 31))) hx hb hr (fun t ht hW => ⟨⟨(z &&& (-983041 : Int32)) ||| (y <<< ((16 : Int32) &&& 31)), (), rfl, (by unfold fC_withType; rfl), ht.trans hH⟩, hS.F ht⟩) hS.2.2 dC_withType_9
def fC_exponentOf (z : Int32) : Int32 := if (z &&& (16384 : Int32)) = 0 then (0 : Int32) else (if (26 : Int32) ≤ ((((z >>> ((8 : Int32) &&& 31)) &&& (7 : Int32)) <<< ((3 : Int32) &&& 31)) + (z &&& (7 : Int32))) then (26 : Int32) else ((((z >>> ((8 : Int32) &&& 31)) &&& (7 : Int32)) <<< ((3 : Int32) &&& 31)) + (z &&& (7 : Int32))))
set_option maxHeartbeats 4000000 in
set_option maxRecDepth 100000 in
theorem kC_exponentOf (l : Launch) (H : Heap) (z : Int32) : Met l yC_exponentOf wC_exponentOf { frames := 0, cells := 0, slots := 0, locals := 0 } (va_Pc [.int z] (fun U => U.heap = H)) (va_Qi (fun v9 (_ : Unit) => v9 = fC_exponentOf z) (fun _ t => t.heap = H) (fun _ => False)) 0 0 (fun _ => False) := by
  refine Met.ofW (cc := cC_exponentOf) (maxL := 2) (ret := (some .int)) (by decide) rfl ?_
  intro p e s m args below meth c s₁ B hml hv
  obtain ⟨rfl, hH⟩ := hv
  have hx := B.exec
  have hb := B.bytes
  have hr := B.returns
  have hts := atoms_spec (ws := wC_exponentOf) B.pre
  have hq : ∀ w ∈ wA, w.before _ s = true := fun w h => hts w (List.mem_cons_of_mem _ h)
  have hown : s.vm.findClass "CapUnit" = some m.cls := findClass_of_methodNamed B.named
  have hlocks := B.notSynchronized
  have hS : va_S (fun _ => False) s.heap s.heap [] := va_S.rf
  have hl := lv_entry ([.int z]) (n := 2) (Nat.le_of_ble_eq_true rfl)
  rw [lg_entry_eq]
  generalize (lg_sl ([.int z]) ++ List.replicate (2 - (lg_sl ([.int z])).length) Slot.unset).toArray = ls at hl ⊢
  have hl : lv_has ls 2 [(0, .int z)] := hl
  refine lv_iload_n hx hb dC_exponentOf_0 rfl (lv_at hl 0 rfl) ?_
  refine lv_sipush (v := 16384) hx hb dC_exponentOf_1 (by decide) ?_
  refine lv_iand hx hb dC_exponentOf_4 ?_
  refine lv_if_ne (tgt := 10) hx hb dC_exponentOf_5 rfl (fun h1 => ?_) (fun h1 => ?_)
  · refine lv_iload_n hx hb dC_exponentOf_10 rfl (lv_at hl 0 rfl) ?_
    refine lv_bipush (v := 8) hx hb dC_exponentOf_11 (by decide) ?_
    refine lv_ishr hx hb dC_exponentOf_13 ?_
    refine lv_bipush (v := 7) hx hb dC_exponentOf_14 (by decide) ?_
    refine lv_iand hx hb dC_exponentOf_16 ?_
    refine lv_iconst (v := 3) hx hb dC_exponentOf_17 (by decide) ?_
    refine lv_ishl hx hb dC_exponentOf_18 ?_
    refine lv_iload_n hx hb dC_exponentOf_19 rfl (lv_at hl 0 rfl) ?_
    refine lv_bipush (v := 7) hx hb dC_exponentOf_20 (by decide) ?_
    refine lv_iand hx hb dC_exponentOf_22 ?_
    refine lv_iadd hx hb dC_exponentOf_23 ?_
    refine lv_istore_n (lv' := [(1, .int ((((z >>> ((8 : Int32) &&& 31)) &&& (7 : Int32)) <<< ((3 : Int32) &&& 31)) + (z &&& (7 : Int32)))), (0, .int z)]) hx hb dC_exponentOf_24 rfl hl (by decide) rfl (fun ls hl => ?_)
    refine lv_iload_n hx hb dC_exponentOf_25 rfl (lv_at hl 0 rfl) ?_
    refine lv_bipush (v := 26) hx hb dC_exponentOf_26 (by decide) ?_
    refine lv_icmp_ge (tgt := 35) hx hb dC_exponentOf_28 rfl (fun h2 => ?_) (fun h2 => ?_)
    · refine lv_bipush (v := 26) hx hb dC_exponentOf_35 (by decide) ?_
      exact W.iret (v := (26 : Int32)) hx hb hr (fun t ht hW => ⟨⟨(26 : Int32), (), rfl, (by unfold fC_exponentOf; rw [if_neg h1, if_pos h2]), ht.trans hH⟩, hS.F ht⟩) hS.2.2 dC_exponentOf_37
    · refine lv_iload_n hx hb dC_exponentOf_31 rfl (lv_at hl 0 rfl) ?_
      refine lv_goto (tgt := 37) hx hb dC_exponentOf_32 rfl ?_
      exact W.iret (v := (((z >>> ((8 : Int32) &&& 31)) &&& (7 : Int32)) <<< ((3 : Int32) &&& 31)) + (z &&& (7 : Int32))) hx hb hr (fun t ht hW => ⟨⟨(((z >>> ((8 : Int32) &&& 31)) &&& (7 : Int32)) <<< ((3 : Int32) &&& 31)) + (z &&& (7 : Int32)), (), rfl, (by unfold fC_exponentOf; rw [if_neg h1, if_neg h2]), ht.trans hH⟩, hS.F ht⟩) hS.2.2 dC_exponentOf_37
  · refine lv_iconst (v := 0) hx hb dC_exponentOf_8 (by decide) ?_
    exact W.iret (v := (0 : Int32)) hx hb hr (fun t ht hW => ⟨⟨(0 : Int32), (), rfl, (by unfold fC_exponentOf; rw [if_pos h1]), ht.trans hH⟩, hS.F ht⟩) hS.2.2 dC_exponentOf_9
def fC_baseMantissa (z : Int32) : Int32 := if (z &&& (16384 : Int32)) = 0 then (z &&& (255 : Int32)) else ((z &&& (255 : Int32)) &&& (-8 : Int32))
set_option maxHeartbeats 4000000 in
set_option maxRecDepth 100000 in
theorem kC_baseMantissa (l : Launch) (H : Heap) (z : Int32) : Met l yC_baseMantissa wC_baseMantissa { frames := 0, cells := 0, slots := 0, locals := 0 } (va_Pc [.int z] (fun U => U.heap = H)) (va_Qi (fun v9 (_ : Unit) => v9 = fC_baseMantissa z) (fun _ t => t.heap = H) (fun _ => False)) 0 0 (fun _ => False) := by
  refine Met.ofW (cc := cC_baseMantissa) (maxL := 2) (ret := (some .int)) (by decide) rfl ?_
  intro p e s m args below meth c s₁ B hml hv
  obtain ⟨rfl, hH⟩ := hv
  have hx := B.exec
  have hb := B.bytes
  have hr := B.returns
  have hts := atoms_spec (ws := wC_baseMantissa) B.pre
  have hq : ∀ w ∈ wA, w.before _ s = true := fun w h => hts w (List.mem_cons_of_mem _ h)
  have hown : s.vm.findClass "CapUnit" = some m.cls := findClass_of_methodNamed B.named
  have hlocks := B.notSynchronized
  have hS : va_S (fun _ => False) s.heap s.heap [] := va_S.rf
  have hl := lv_entry ([.int z]) (n := 2) (Nat.le_of_ble_eq_true rfl)
  rw [lg_entry_eq]
  generalize (lg_sl ([.int z]) ++ List.replicate (2 - (lg_sl ([.int z])).length) Slot.unset).toArray = ls at hl ⊢
  have hl : lv_has ls 2 [(0, .int z)] := hl
  refine lv_iload_n hx hb dC_baseMantissa_0 rfl (lv_at hl 0 rfl) ?_
  refine lv_sipush (v := 255) hx hb dC_baseMantissa_1 (by decide) ?_
  refine lv_iand hx hb dC_baseMantissa_4 ?_
  refine lv_istore_n (lv' := [(1, .int (z &&& (255 : Int32))), (0, .int z)]) hx hb dC_baseMantissa_5 rfl hl (by decide) rfl (fun ls hl => ?_)
  refine lv_iload_n hx hb dC_baseMantissa_6 rfl (lv_at hl 1 rfl) ?_
  refine lv_sipush (v := 16384) hx hb dC_baseMantissa_7 (by decide) ?_
  refine lv_iand hx hb dC_baseMantissa_10 ?_
  refine lv_if_eq (tgt := 21) hx hb dC_baseMantissa_11 rfl (fun h1 => ?_) (fun h1 => ?_)
  · refine lv_iload_n hx hb dC_baseMantissa_21 rfl (lv_at hl 0 rfl) ?_
    exact W.iret (v := z &&& (255 : Int32)) hx hb hr (fun t ht hW => ⟨⟨z &&& (255 : Int32), (), rfl, (by unfold fC_baseMantissa; rw [if_pos h1]), ht.trans hH⟩, hS.F ht⟩) hS.2.2 dC_baseMantissa_22
  · refine lv_iload_n hx hb dC_baseMantissa_14 rfl (lv_at hl 0 rfl) ?_
    refine lv_bipush (v := -8) hx hb dC_baseMantissa_15 (by decide) ?_
    refine lv_iand hx hb dC_baseMantissa_17 ?_
    refine lv_goto (tgt := 22) hx hb dC_baseMantissa_18 rfl ?_
    exact W.iret (v := (z &&& (255 : Int32)) &&& (-8 : Int32)) hx hb hr (fun t ht hW => ⟨⟨(z &&& (255 : Int32)) &&& (-8 : Int32), (), rfl, (by unfold fC_baseMantissa; rw [if_neg h1]), ht.trans hH⟩, hS.F ht⟩) hS.2.2 dC_baseMantissa_22
def fC_topMantissa (z : Int32) : Int32 := if (z &&& (16384 : Int32)) = 0 then (if ((fC_baseMantissa z) &&& (63 : Int32)) ≤ ((z >>> ((8 : Int32) &&& 31)) &&& (63 : Int32)) then (((((fC_baseMantissa z) >>> ((6 : Int32) &&& 31)) &&& (3 : Int32)) <<< ((6 : Int32) &&& 31)) ||| ((z >>> ((8 : Int32) &&& 31)) &&& (63 : Int32))) else ((((((fC_baseMantissa z) >>> ((6 : Int32) &&& 31)) + 1) &&& (3 : Int32)) <<< ((6 : Int32) &&& 31)) ||| ((z >>> ((8 : Int32) &&& 31)) &&& (63 : Int32)))) else (if ((fC_baseMantissa z) &&& (63 : Int32)) ≤ (((z >>> ((8 : Int32) &&& 31)) &&& (63 : Int32)) &&& (-8 : Int32)) then ((((((fC_baseMantissa z) >>> ((6 : Int32) &&& 31)) + 1) &&& (3 : Int32)) <<< ((6 : Int32) &&& 31)) ||| (((z >>> ((8 : Int32) &&& 31)) &&& (63 : Int32)) &&& (-8 : Int32))) else (((((((fC_baseMantissa z) >>> ((6 : Int32) &&& 31)) + 1) + 1) &&& (3 : Int32)) <<< ((6 : Int32) &&& 31)) ||| (((z >>> ((8 : Int32) &&& 31)) &&& (63 : Int32)) &&& (-8 : Int32))))
set_option maxHeartbeats 4000000 in
set_option maxRecDepth 100000 in
theorem kC_topMantissa (l : Launch) (H : Heap) (z : Int32) : Met l yC_topMantissa wC_topMantissa { frames := 1, cells := 0, slots := 0, locals := 21 } (va_Pc [.int z] (fun U => U.heap = H)) (va_Qi (fun v9 (_ : Unit) => v9 = fC_topMantissa z) (fun _ t => t.heap = H) (fun _ => False)) 0 0 (fun _ => False) := by
  refine Met.ofW (cc := cC_topMantissa) (maxL := 4) (ret := (some .int)) (by decide) rfl ?_
  intro p e s m args below meth c s₁ B hml hv
  obtain ⟨rfl, hH⟩ := hv
  have hx := B.exec
  have hb := B.bytes
  have hr := B.returns
  have hts := atoms_spec (ws := wC_topMantissa) B.pre
  have hq : ∀ w ∈ wA, w.before _ s = true := fun w h => hts w (List.mem_cons_of_mem _ h)
  have hown : s.vm.findClass "CapUnit" = some m.cls := findClass_of_methodNamed B.named
  have hlocks := B.notSynchronized
  have hS : va_S (fun _ => False) s.heap s.heap [] := va_S.rf
  have hl := lv_entry ([.int z]) (n := 4) (Nat.le_of_ble_eq_true rfl)
  rw [lg_entry_eq]
  generalize (lg_sl ([.int z]) ++ List.replicate (4 - (lg_sl ([.int z])).length) Slot.unset).toArray = ls at hl ⊢
  have hl : lv_has ls 4 [(0, .int z)] := hl
  refine lv_iload_n hx hb dC_topMantissa_0 rfl (lv_at hl 0 rfl) ?_
  refine zc_i (va_runS (As := [.int z]) (rest := []) ⟨hx, hb, hml, hown, hq⟩ (kC_baseMantissa l s.heap z) (va_cwS 1 hq (wA_S q_54 q_55 q_1 q_56) rfl rfl rfl (by decide +kernel) ⟨Nat.le_of_ble_eq_true rfl, Nat.le_of_ble_eq_true rfl⟩) ⟨fun a U g mk q => q, fun U hU hW => ⟨rfl, hU⟩⟩ rfl rfl hl.1 rfl (lv_room (Nat.le_of_ble_eq_true rfl)) dC_topMantissa_1 ⟨Nat.zero_le _, Nat.zero_le _⟩) hS (fun locs hS => ?_)
  refine lv_istore_n (lv' := [(1, .int (fC_baseMantissa z)), (0, .int z)]) hx hb dC_topMantissa_4 rfl hl (by decide) rfl (fun ls hl => ?_)
  refine lv_iload_n hx hb dC_topMantissa_5 rfl (lv_at hl 1 rfl) ?_
  refine lv_bipush (v := 8) hx hb dC_topMantissa_6 (by decide) ?_
  refine lv_ishr hx hb dC_topMantissa_8 ?_
  refine lv_bipush (v := 63) hx hb dC_topMantissa_9 (by decide) ?_
  refine lv_iand hx hb dC_topMantissa_11 ?_
  refine lv_istore_n (lv' := [(2, .int ((z >>> ((8 : Int32) &&& 31)) &&& (63 : Int32))), (1, .int (fC_baseMantissa z)), (0, .int z)]) hx hb dC_topMantissa_12 rfl hl (by decide) rfl (fun ls hl => ?_)
  refine lv_iload_n hx hb dC_topMantissa_13 rfl (lv_at hl 1 rfl) ?_
  refine lv_bipush (v := 6) hx hb dC_topMantissa_14 (by decide) ?_
  refine lv_ishr hx hb dC_topMantissa_16 ?_
  refine lv_istore_n (lv' := [(3, .int ((fC_baseMantissa z) >>> ((6 : Int32) &&& 31))), (2, .int ((z >>> ((8 : Int32) &&& 31)) &&& (63 : Int32))), (1, .int (fC_baseMantissa z)), (0, .int z)]) hx hb dC_topMantissa_17 rfl hl (by decide) rfl (fun ls hl => ?_)
  refine lv_iload_n hx hb dC_topMantissa_18 rfl (lv_at hl 3 rfl) ?_
  refine lv_sipush (v := 16384) hx hb dC_topMantissa_19 (by decide) ?_
  refine lv_iand hx hb dC_topMantissa_22 ?_
  refine lv_if_eq (tgt := 34) hx hb dC_topMantissa_23 rfl (fun h1 => ?_) (fun h1 => ?_)
  · refine lv_iload_n hx hb dC_topMantissa_34 rfl (lv_at hl 1 rfl) ?_
    refine lv_iload_n hx hb dC_topMantissa_35 rfl (lv_at hl 2 rfl) ?_
    refine lv_bipush (v := 63) hx hb dC_topMantissa_36 (by decide) ?_
    refine lv_iand hx hb dC_topMantissa_38 ?_
    refine lv_icmp_ge (tgt := 45) hx hb dC_topMantissa_39 rfl (fun h2 => ?_) (fun h2 => ?_)
    · refine lv_iload_n hx hb dC_topMantissa_45 rfl (lv_at hl 0 rfl) ?_
      refine lv_iconst (v := 3) hx hb dC_topMantissa_46 (by decide) ?_
      refine lv_iand hx hb dC_topMantissa_47 ?_
      refine lv_bipush (v := 6) hx hb dC_topMantissa_48 (by decide) ?_
      refine lv_ishl hx hb dC_topMantissa_50 ?_
      refine lv_iload_n hx hb dC_topMantissa_51 rfl (lv_at hl 1 rfl) ?_
      refine lv_ior hx hb dC_topMantissa_52 ?_
      exact W.iret (v := ((((fC_baseMantissa z) >>> ((6 : Int32) &&& 31)) &&& (3 : Int32)) <<< ((6 : Int32) &&& 31)) ||| ((z >>> ((8 : Int32) &&& 31)) &&& (63 : Int32))) hx hb hr (fun t ht hW => ⟨⟨((((fC_baseMantissa z) >>> ((6 : Int32) &&& 31)) &&& (3 : Int32)) <<< ((6 : Int32) &&& 31)) ||| ((z >>> ((8 : Int32) &&& 31)) &&& (63 : Int32)), (), rfl, (by unfold fC_topMantissa; rw [if_pos h1, if_pos h2]), ht.trans hH⟩, hS.F ht⟩) hS.2.2 dC_topMantissa_53
    · refine lv_iinc (k := 0) (v := ((fC_baseMantissa z) >>> ((6 : Int32) &&& 31)) + 1) (lv' := [(3, .int (((fC_baseMantissa z) >>> ((6 : Int32) &&& 31)) + 1)), (2, .int ((z >>> ((8 : Int32) &&& 31)) &&& (63 : Int32))), (1, .int (fC_baseMantissa z)), (0, .int z)]) hx hb dC_topMantissa_42 hl rfl (by rfl) (by decide) rfl (fun ls hl => ?_)
      refine lv_iload_n hx hb dC_topMantissa_45 rfl (lv_at hl 0 rfl) ?_
      refine lv_iconst (v := 3) hx hb dC_topMantissa_46 (by decide) ?_
      refine lv_iand hx hb dC_topMantissa_47 ?_
      refine lv_bipush (v := 6) hx hb dC_topMantissa_48 (by decide) ?_
      refine lv_ishl hx hb dC_topMantissa_50 ?_
      refine lv_iload_n hx hb dC_topMantissa_51 rfl (lv_at hl 1 rfl) ?_
      refine lv_ior hx hb dC_topMantissa_52 ?_
      exact W.iret (v := (((((fC_baseMantissa z) >>> ((6 : Int32) &&& 31)) + 1) &&& (3 : Int32)) <<< ((6 : Int32) &&& 31)) ||| ((z >>> ((8 : Int32) &&& 31)) &&& (63 : Int32))) hx hb hr (fun t ht hW => ⟨⟨(((((fC_baseMantissa z) >>> ((6 : Int32) &&& 31)) + 1) &&& (3 : Int32)) <<< ((6 : Int32) &&& 31)) ||| ((z >>> ((8 : Int32) &&& 31)) &&& (63 : Int32)), (), rfl, (by unfold fC_topMantissa; rw [if_pos h1, if_neg h2]), ht.trans hH⟩, hS.F ht⟩) hS.2.2 dC_topMantissa_53
  · refine lv_iload_n hx hb dC_topMantissa_26 rfl (lv_at hl 1 rfl) ?_
    refine lv_bipush (v := -8) hx hb dC_topMantissa_27 (by decide) ?_
    refine lv_iand hx hb dC_topMantissa_29 ?_
    refine lv_istore_n (lv' := [(2, .int (((z >>> ((8 : Int32) &&& 31)) &&& (63 : Int32)) &&& (-8 : Int32))), (3, .int ((fC_baseMantissa z) >>> ((6 : Int32) &&& 31))), (1, .int (fC_baseMantissa z)), (0, .int z)]) hx hb dC_topMantissa_30 rfl hl (by decide) rfl (fun ls hl => ?_)
    refine lv_iinc (k := 1) (v := ((fC_baseMantissa z) >>> ((6 : Int32) &&& 31)) + 1) (lv' := [(3, .int (((fC_baseMantissa z) >>> ((6 : Int32) &&& 31)) + 1)), (2, .int (((z >>> ((8 : Int32) &&& 31)) &&& (63 : Int32)) &&& (-8 : Int32))), (1, .int (fC_baseMantissa z)), (0, .int z)]) hx hb dC_topMantissa_31 hl rfl (by rfl) (by decide) rfl (fun ls hl => ?_)
    refine lv_iload_n hx hb dC_topMantissa_34 rfl (lv_at hl 1 rfl) ?_
    refine lv_iload_n hx hb dC_topMantissa_35 rfl (lv_at hl 2 rfl) ?_
    refine lv_bipush (v := 63) hx hb dC_topMantissa_36 (by decide) ?_
    refine lv_iand hx hb dC_topMantissa_38 ?_
    refine lv_icmp_ge (tgt := 45) hx hb dC_topMantissa_39 rfl (fun h3 => ?_) (fun h3 => ?_)
    · refine lv_iload_n hx hb dC_topMantissa_45 rfl (lv_at hl 0 rfl) ?_
      refine lv_iconst (v := 3) hx hb dC_topMantissa_46 (by decide) ?_
      refine lv_iand hx hb dC_topMantissa_47 ?_
      refine lv_bipush (v := 6) hx hb dC_topMantissa_48 (by decide) ?_
      refine lv_ishl hx hb dC_topMantissa_50 ?_
      refine lv_iload_n hx hb dC_topMantissa_51 rfl (lv_at hl 1 rfl) ?_
      refine lv_ior hx hb dC_topMantissa_52 ?_
      exact W.iret (v := (((((fC_baseMantissa z) >>> ((6 : Int32) &&& 31)) + 1) &&& (3 : Int32)) <<< ((6 : Int32) &&& 31)) ||| (((z >>> ((8 : Int32) &&& 31)) &&& (63 : Int32)) &&& (-8 : Int32))) hx hb hr (fun t ht hW => ⟨⟨(((((fC_baseMantissa z) >>> ((6 : Int32) &&& 31)) + 1) &&& (3 : Int32)) <<< ((6 : Int32) &&& 31)) ||| (((z >>> ((8 : Int32) &&& 31)) &&& (63 : Int32)) &&& (-8 : Int32)), (), rfl, (by unfold fC_topMantissa; rw [if_neg h1, if_pos h3]), ht.trans hH⟩, hS.F ht⟩) hS.2.2 dC_topMantissa_53
    · refine lv_iinc (k := 0) (v := (((fC_baseMantissa z) >>> ((6 : Int32) &&& 31)) + 1) + 1) (lv' := [(3, .int ((((fC_baseMantissa z) >>> ((6 : Int32) &&& 31)) + 1) + 1)), (2, .int (((z >>> ((8 : Int32) &&& 31)) &&& (63 : Int32)) &&& (-8 : Int32))), (1, .int (fC_baseMantissa z)), (0, .int z)]) hx hb dC_topMantissa_42 hl rfl (by rfl) (by decide) rfl (fun ls hl => ?_)
      refine lv_iload_n hx hb dC_topMantissa_45 rfl (lv_at hl 0 rfl) ?_
      refine lv_iconst (v := 3) hx hb dC_topMantissa_46 (by decide) ?_
      refine lv_iand hx hb dC_topMantissa_47 ?_
      refine lv_bipush (v := 6) hx hb dC_topMantissa_48 (by decide) ?_
      refine lv_ishl hx hb dC_topMantissa_50 ?_
      refine lv_iload_n hx hb dC_topMantissa_51 rfl (lv_at hl 1 rfl) ?_
      refine lv_ior hx hb dC_topMantissa_52 ?_
      exact W.iret (v := ((((((fC_baseMantissa z) >>> ((6 : Int32) &&& 31)) + 1) + 1) &&& (3 : Int32)) <<< ((6 : Int32) &&& 31)) ||| (((z >>> ((8 : Int32) &&& 31)) &&& (63 : Int32)) &&& (-8 : Int32))) hx hb hr (fun t ht hW => ⟨⟨((((((fC_baseMantissa z) >>> ((6 : Int32) &&& 31)) + 1) + 1) &&& (3 : Int32)) <<< ((6 : Int32) &&& 31)) ||| (((z >>> ((8 : Int32) &&& 31)) &&& (63 : Int32)) &&& (-8 : Int32)), (), rfl, (by unfold fC_topMantissa; rw [if_neg h1, if_neg h3]), ht.trans hH⟩, hS.F ht⟩) hS.2.2 dC_topMantissa_53
def fC_unsigned (n : Int32) : Int64 := n.toInt64 &&& (4294967295 : Int64)
set_option maxHeartbeats 4000000 in
set_option maxRecDepth 100000 in
theorem kC_unsigned (l : Launch) (H : Heap) (n : Int32) : Met l yC_unsigned wC_unsigned { frames := 0, cells := 0, slots := 0, locals := 0 } (va_Pc [.int n] (fun U => U.heap = H)) (va_Ql (fun v9 (_ : Unit) => v9 = fC_unsigned n) (fun _ t => t.heap = H) (fun _ => False)) 0 0 (fun _ => False) := by
  refine Met.ofW (cc := cC_unsigned) (maxL := 1) (ret := (some .long)) (by decide) rfl ?_
  intro p e s m args below meth c s₁ B hml hv
  obtain ⟨rfl, hH⟩ := hv
  have hx := B.exec
  have hb := B.bytes
  have hr := B.returns
  have hts := atoms_spec (ws := wC_unsigned) B.pre
  have hq : ∀ w ∈ wA, w.before _ s = true := fun w h => hts w (List.mem_cons_of_mem _ h)
  have hown : s.vm.findClass "CapUnit" = some m.cls := findClass_of_methodNamed B.named
  have hlocks := B.notSynchronized
  have hS : va_S (fun _ => False) s.heap s.heap [] := va_S.rf
  have hl := lv_entry ([.int n]) (n := 1) (Nat.le_of_ble_eq_true rfl)
  rw [lg_entry_eq]
  generalize (lg_sl ([.int n]) ++ List.replicate (1 - (lg_sl ([.int n])).length) Slot.unset).toArray = ls at hl ⊢
  have hl : lv_has ls 1 [(0, .int n)] := hl
  refine lv_iload_n hx hb dC_unsigned_0 rfl (lv_at hl 0 rfl) ?_
  refine lv_i2l hx hb dC_unsigned_1 rfl ?_
  refine lv_ldc2 (v := 4294967295) hx hb hown (hts (.constantLong "CapUnit" 147 4294967295) (by decide +kernel)) dC_unsigned_2 ?_
  refine lv_land hx hb dC_unsigned_5 ?_
  exact W.lret (v := n.toInt64 &&& (4294967295 : Int64)) hx hb hr (fun t ht hW => ⟨⟨n.toInt64 &&& (4294967295 : Int64), (), rfl, (by unfold fC_unsigned; rfl), ht.trans hH⟩, hS.F ht⟩) hS.2.2 dC_unsigned_6
def fC_fitsSpace (b : Int32) (n : Int64) : Int32 := if n < (0 : Int64) then (0 : Int32) else (if ((4294967296 : Int64) - (fC_unsigned b)) < n then (0 : Int32) else (1 : Int32))
set_option maxHeartbeats 4000000 in
set_option maxRecDepth 100000 in
theorem kC_fitsSpace (l : Launch) (H : Heap) (b : Int32) (n : Int64) : Met l yC_fitsSpace wC_fitsSpace { frames := 1, cells := 0, slots := 0, locals := 20 } (va_Pc [.int b, .long n] (fun U => U.heap = H)) (va_Qi (fun v9 (_ : Unit) => v9 = fC_fitsSpace b n) (fun _ t => t.heap = H) (fun _ => False)) 0 0 (fun _ => False) := by
  refine Met.ofW (cc := cC_fitsSpace) (maxL := 3) (ret := (some .boolean)) (by decide) rfl ?_
  intro p e s m args below meth c s₁ B hml hv
  obtain ⟨rfl, hH⟩ := hv
  have hx := B.exec
  have hb := B.bytes
  have hr := B.returns
  have hts := atoms_spec (ws := wC_fitsSpace) B.pre
  have hq : ∀ w ∈ wA, w.before _ s = true := fun w h => hts w (List.mem_cons_of_mem _ h)
  have hown : s.vm.findClass "CapUnit" = some m.cls := findClass_of_methodNamed B.named
  have hlocks := B.notSynchronized
  have hS : va_S (fun _ => False) s.heap s.heap [] := va_S.rf
  have hl := lv_entry ([.int b, .long n]) (n := 3) (Nat.le_of_ble_eq_true rfl)
  rw [lg_entry_eq]
  generalize (lg_sl ([.int b, .long n]) ++ List.replicate (3 - (lg_sl ([.int b, .long n])).length) Slot.unset).toArray = ls at hl ⊢
  have hl : lv_has ls 3 [(0, .int b), (1, .long n)] := hl
  refine lv_lload_n hx hb dC_fitsSpace_0 rfl (lv_at hl 1 rfl) ?_
  refine lv_lconst (v := 0) hx hb dC_fitsSpace_1 (by decide) ?_
  refine W.lcmp hx hb dC_fitsSpace_2 ?_
  refine lv_if_lt (tgt := 23) hx hb dC_fitsSpace_3 rfl (fun h1 => ?_) (fun h1 => ?_)
  · have h1 := (lg_cmp_lt _ _).mp h1
    refine lv_iconst (v := 0) hx hb dC_fitsSpace_23 (by decide) ?_
    exact W.zret (v := (0 : Int32)) hx hb hr (by decide) (fun t ht hW => ⟨⟨(0 : Int32), (), rfl, (by unfold fC_fitsSpace; rw [if_pos h1]), ht.trans hH⟩, hS.F ht⟩) hS.2.2 dC_fitsSpace_24
  · have h1 := mt (lg_cmp_lt _ _).mpr h1
    refine lv_lload_n hx hb dC_fitsSpace_6 rfl (lv_at hl 1 rfl) ?_
    refine lv_ldc2 (v := 4294967296) hx hb hown (hts (.constantLong "CapUnit" 81 4294967296) (by decide +kernel)) dC_fitsSpace_7 ?_
    refine lv_iload_n hx hb dC_fitsSpace_10 rfl (lv_at hl 0 rfl) ?_
    refine zc_l (va_runS (As := [.int b]) (rest := [.long (4294967296 : Int64), .long n]) ⟨hx, hb, hml, hown, hq⟩ (kC_unsigned l s.heap b) (va_cwS 1 hq (wA_S q_63 q_64 q_1 q_65) rfl rfl rfl (by decide +kernel) ⟨Nat.le_of_ble_eq_true rfl, Nat.le_of_ble_eq_true rfl⟩) ⟨fun a U g mk q => q, fun U hU hW => ⟨rfl, hU⟩⟩ rfl rfl hl.1 rfl (lv_room (Nat.le_of_ble_eq_true rfl)) dC_fitsSpace_11 ⟨Nat.zero_le _, Nat.zero_le _⟩) hS (fun locs hS => ?_)
    refine lv_lsub hx hb dC_fitsSpace_14 ?_
    refine W.lcmp hx hb dC_fitsSpace_15 ?_
    refine lv_if_gt (tgt := 23) hx hb dC_fitsSpace_16 rfl (fun h2 => ?_) (fun h2 => ?_)
    · have h2 := (lg_cmp_gt _ _).mp h2
      refine lv_iconst (v := 0) hx hb dC_fitsSpace_23 (by decide) ?_
      exact W.zret (v := (0 : Int32)) hx hb hr (by decide) (fun t ht hW => ⟨⟨(0 : Int32), (), rfl, (by unfold fC_fitsSpace; rw [if_neg h1, if_pos h2]), ht.trans hH⟩, hS.F ht⟩) hS.2.2 dC_fitsSpace_24
    · have h2 := mt (lg_cmp_gt _ _).mpr h2
      refine lv_iconst (v := 1) hx hb dC_fitsSpace_19 (by decide) ?_
      refine lv_goto (tgt := 24) hx hb dC_fitsSpace_20 rfl ?_
      exact W.zret (v := (1 : Int32)) hx hb hr (by decide) (fun t ht hW => ⟨⟨(1 : Int32), (), rfl, (by unfold fC_fitsSpace; rw [if_neg h1, if_neg h2]), ht.trans hH⟩, hS.F ht⟩) hS.2.2 dC_fitsSpace_24
def fC_below (x : Int32) (y : Int32) : Int32 := if y ≤ (x >>> ((5 : Int32) &&& 31)) then (0 : Int32) else (1 : Int32)
set_option maxHeartbeats 4000000 in
set_option maxRecDepth 100000 in
theorem kC_below (l : Launch) (H : Heap) (x : Int32) (y : Int32) : Met l yC_below wC_below { frames := 0, cells := 0, slots := 0, locals := 0 } (va_Pc [.int x, .int y] (fun U => U.heap = H)) (va_Qi (fun v9 (_ : Unit) => v9 = fC_below x y) (fun _ t => t.heap = H) (fun _ => False)) 0 0 (fun _ => False) := by
  refine Met.ofW (cc := cC_below) (maxL := 2) (ret := (some .int)) (by decide) rfl ?_
  intro p e s m args below meth c s₁ B hml hv
  obtain ⟨rfl, hH⟩ := hv
  have hx := B.exec
  have hb := B.bytes
  have hr := B.returns
  have hts := atoms_spec (ws := wC_below) B.pre
  have hq : ∀ w ∈ wA, w.before _ s = true := fun w h => hts w (List.mem_cons_of_mem _ h)
  have hown : s.vm.findClass "CapUnit" = some m.cls := findClass_of_methodNamed B.named
  have hlocks := B.notSynchronized
  have hS : va_S (fun _ => False) s.heap s.heap [] := va_S.rf
  have hl := lv_entry ([.int x, .int y]) (n := 2) (Nat.le_of_ble_eq_true rfl)
  rw [lg_entry_eq]
  generalize (lg_sl ([.int x, .int y]) ++ List.replicate (2 - (lg_sl ([.int x, .int y])).length) Slot.unset).toArray = ls at hl ⊢
  have hl : lv_has ls 2 [(0, .int x), (1, .int y)] := hl
  refine lv_iload_n hx hb dC_below_0 rfl (lv_at hl 0 rfl) ?_
  refine lv_iconst (v := 5) hx hb dC_below_1 (by decide) ?_
  refine lv_ishr hx hb dC_below_2 ?_
  refine lv_iload_n hx hb dC_below_3 rfl (lv_at hl 1 rfl) ?_
  refine lv_icmp_ge (tgt := 11) hx hb dC_below_4 rfl (fun h1 => ?_) (fun h1 => ?_)
  · refine lv_iconst (v := 0) hx hb dC_below_11 (by decide) ?_
    exact W.iret (v := (0 : Int32)) hx hb hr (fun t ht hW => ⟨⟨(0 : Int32), (), rfl, (by unfold fC_below; rw [if_pos h1]), ht.trans hH⟩, hS.F ht⟩) hS.2.2 dC_below_12
  · refine lv_iconst (v := 1) hx hb dC_below_7 (by decide) ?_
    refine lv_goto (tgt := 12) hx hb dC_below_8 rfl ?_
    exact W.iret (v := (1 : Int32)) hx hb hr (fun t ht hW => ⟨⟨(1 : Int32), (), rfl, (by unfold fC_below; rw [if_neg h1]), ht.trans hH⟩, hS.F ht⟩) hS.2.2 dC_below_12
def fC_placed (z : Int32) (a : Int32) (x : Int32) : Int64 := (((((fC_unsigned a) >>> (((fC_exponentOf z) + (8 : Int32)).toInt64 &&& 63)) + ((fC_below x ((((fC_baseMantissa z) >>> ((5 : Int32) &&& 31)) - (1 : Int32)) &&& (7 : Int32))).toInt64)) - ((fC_below ((((fC_unsigned a) >>> ((fC_exponentOf z).toInt64 &&& 63)).toInt32) &&& (255 : Int32)) ((((fC_baseMantissa z) >>> ((5 : Int32) &&& 31)) - (1 : Int32)) &&& (7 : Int32))).toInt64)) <<< (((fC_exponentOf z) + (8 : Int32)).toInt64 &&& 63)) + (x.toInt64 <<< ((fC_exponentOf z).toInt64 &&& 63))
set_option maxHeartbeats 4000000 in
set_option maxRecDepth 100000 in
theorem kC_placed (l : Launch) (H : Heap) (z : Int32) (a : Int32) (x : Int32) : Met l yC_placed wC_placed { frames := 1, cells := 0, slots := 0, locals := 21 } (va_Pc [.int z, .int a, .int x] (fun U => U.heap = H)) (va_Ql (fun v9 (_ : Unit) => v9 = fC_placed z a x) (fun _ t => t.heap = H) (fun _ => False)) 0 0 (fun _ => False) := by
  refine Met.ofW (cc := cC_placed) (maxL := 10) (ret := (some .long)) (by decide) rfl ?_
  intro p e s m args below meth c s₁ B hml hv
  obtain ⟨rfl, hH⟩ := hv
  have hx := B.exec
  have hb := B.bytes
  have hr := B.returns
  have hts := atoms_spec (ws := wC_placed) B.pre
  have hq : ∀ w ∈ wA, w.before _ s = true := fun w h => hts w (List.mem_cons_of_mem _ h)
  have hown : s.vm.findClass "CapUnit" = some m.cls := findClass_of_methodNamed B.named
  have hlocks := B.notSynchronized
  have hS : va_S (fun _ => False) s.heap s.heap [] := va_S.rf
  have hl := lv_entry ([.int z, .int a, .int x]) (n := 10) (Nat.le_of_ble_eq_true rfl)
  rw [lg_entry_eq]
  generalize (lg_sl ([.int z, .int a, .int x]) ++ List.replicate (10 - (lg_sl ([.int z, .int a, .int x])).length) Slot.unset).toArray = ls at hl ⊢
  have hl : lv_has ls 10 [(0, .int z), (1, .int a), (2, .int x)] := hl
  refine lv_iload_n hx hb dC_placed_0 rfl (lv_at hl 0 rfl) ?_
  refine zc_i (va_runS (As := [.int z]) (rest := []) ⟨hx, hb, hml, hown, hq⟩ (kC_exponentOf l s.heap z) (va_cwS 1 hq (wA_S q_60 q_61 q_1 q_62) rfl rfl rfl (by decide +kernel) ⟨Nat.le_of_ble_eq_true rfl, Nat.le_of_ble_eq_true rfl⟩) ⟨fun a U g mk q => q, fun U hU hW => ⟨rfl, hU⟩⟩ rfl rfl hl.1 rfl (lv_room (Nat.le_of_ble_eq_true rfl)) dC_placed_1 ⟨Nat.zero_le _, Nat.zero_le _⟩) hS (fun locs hS => ?_)
  refine lv_istore_n (lv' := [(3, .int (fC_exponentOf z)), (0, .int z), (1, .int a), (2, .int x)]) hx hb dC_placed_4 rfl hl (by decide) rfl (fun ls hl => ?_)
  refine lv_iload_n hx hb dC_placed_5 rfl (lv_at hl 2 rfl) ?_
  refine zc_l (va_runS (As := [.int a]) (rest := []) ⟨hx, hb, hml, hown, hq⟩ (kC_unsigned l s.heap a) (va_cwS 1 hq (wA_S q_63 q_64 q_1 q_65) rfl rfl rfl (by decide +kernel) ⟨Nat.le_of_ble_eq_true rfl, Nat.le_of_ble_eq_true rfl⟩) ⟨fun a U g mk q => q, fun U hU hW => ⟨rfl, hU⟩⟩ rfl rfl hl.1 rfl (lv_room (Nat.le_of_ble_eq_true rfl)) dC_placed_6 ⟨Nat.zero_le _, Nat.zero_le _⟩) hS (fun locs hS => ?_)
  refine lv_lstore (lv' := [(4, .long (fC_unsigned a)), (3, .int (fC_exponentOf z)), (0, .int z), (1, .int a), (2, .int x)]) hx hb dC_placed_9 hl (by decide) rfl (fun ls hl => ?_)
  refine lv_lload hx hb dC_placed_11 (lv_at hl 0 rfl) ?_
  refine lv_iload_n hx hb dC_placed_13 rfl (lv_at hl 1 rfl) ?_
  refine lv_lshr hx hb dC_placed_14 rfl ?_
  refine lv_l2i hx hb dC_placed_15 rfl ?_
  refine lv_sipush (v := 255) hx hb dC_placed_16 (by decide) ?_
  refine lv_iand hx hb dC_placed_19 ?_
  refine lv_istore (lv' := [(6, .int ((((fC_unsigned a) >>> ((fC_exponentOf z).toInt64 &&& 63)).toInt32) &&& (255 : Int32))), (4, .long (fC_unsigned a)), (3, .int (fC_exponentOf z)), (0, .int z), (1, .int a), (2, .int x)]) hx hb dC_placed_20 hl (by decide) rfl (fun ls hl => ?_)
  refine lv_iload_n hx hb dC_placed_22 rfl (lv_at hl 3 rfl) ?_
  refine zc_i (va_runS (As := [.int z]) (rest := []) ⟨hx, hb, hml, hown, hq⟩ (kC_baseMantissa l s.heap z) (va_cwS 1 hq (wA_S q_54 q_55 q_1 q_56) rfl rfl rfl (by decide +kernel) ⟨Nat.le_of_ble_eq_true rfl, Nat.le_of_ble_eq_true rfl⟩) ⟨fun a U g mk q => q, fun U hU hW => ⟨rfl, hU⟩⟩ rfl rfl hl.1 rfl (lv_room (Nat.le_of_ble_eq_true rfl)) dC_placed_23 ⟨Nat.zero_le _, Nat.zero_le _⟩) hS (fun locs hS => ?_)
  refine lv_iconst (v := 5) hx hb dC_placed_26 (by decide) ?_
  refine lv_ishr hx hb dC_placed_27 ?_
  refine lv_iconst (v := 1) hx hb dC_placed_28 (by decide) ?_
  refine lv_isub hx hb dC_placed_29 ?_
  refine lv_bipush (v := 7) hx hb dC_placed_30 (by decide) ?_
  refine lv_iand hx hb dC_placed_32 ?_
  refine lv_istore (lv' := [(7, .int ((((fC_baseMantissa z) >>> ((5 : Int32) &&& 31)) - (1 : Int32)) &&& (7 : Int32))), (6, .int ((((fC_unsigned a) >>> ((fC_exponentOf z).toInt64 &&& 63)).toInt32) &&& (255 : Int32))), (4, .long (fC_unsigned a)), (3, .int (fC_exponentOf z)), (0, .int z), (1, .int a), (2, .int x)]) hx hb dC_placed_33 hl (by decide) rfl (fun ls hl => ?_)
  refine lv_lload hx hb dC_placed_35 (lv_at hl 2 rfl) ?_
  refine lv_iload_n hx hb dC_placed_37 rfl (lv_at hl 3 rfl) ?_
  refine lv_bipush (v := 8) hx hb dC_placed_38 (by decide) ?_
  refine lv_iadd hx hb dC_placed_40 ?_
  refine lv_lshr hx hb dC_placed_41 rfl ?_
  refine lv_iload_n hx hb dC_placed_42 rfl (lv_at hl 6 rfl) ?_
  refine lv_iload hx hb dC_placed_43 (lv_at hl 0 rfl) ?_
  refine zc_i (va_runS (As := [.int x, .int ((((fC_baseMantissa z) >>> ((5 : Int32) &&& 31)) - (1 : Int32)) &&& (7 : Int32))]) (rest := [.long ((fC_unsigned a) >>> (((fC_exponentOf z) + (8 : Int32)).toInt64 &&& 63))]) ⟨hx, hb, hml, hown, hq⟩ (kC_below l s.heap x ((((fC_baseMantissa z) >>> ((5 : Int32) &&& 31)) - (1 : Int32)) &&& (7 : Int32))) (va_cwS 2 hq (wA_S q_67 q_68 q_1 q_69) rfl rfl rfl (by decide +kernel) ⟨Nat.le_of_ble_eq_true rfl, Nat.le_of_ble_eq_true rfl⟩) ⟨fun a U g mk q => q, fun U hU hW => ⟨rfl, hU⟩⟩ rfl rfl hl.1 rfl (lv_room (Nat.le_of_ble_eq_true rfl)) dC_placed_45 ⟨Nat.zero_le _, Nat.zero_le _⟩) hS (fun locs hS => ?_)
  refine lv_i2l hx hb dC_placed_48 rfl ?_
  refine lv_ladd hx hb dC_placed_49 ?_
  refine lv_iload hx hb dC_placed_50 (lv_at hl 1 rfl) ?_
  refine lv_iload hx hb dC_placed_52 (lv_at hl 0 rfl) ?_
  refine zc_i (va_runS (As := [.int ((((fC_unsigned a) >>> ((fC_exponentOf z).toInt64 &&& 63)).toInt32) &&& (255 : Int32)), .int ((((fC_baseMantissa z) >>> ((5 : Int32) &&& 31)) - (1 : Int32)) &&& (7 : Int32))]) (rest := [.long (((fC_unsigned a) >>> (((fC_exponentOf z) + (8 : Int32)).toInt64 &&& 63)) + ((fC_below x ((((fC_baseMantissa z) >>> ((5 : Int32) &&& 31)) - (1 : Int32)) &&& (7 : Int32))).toInt64))]) ⟨hx, hb, hml, hown, hq⟩ (kC_below l s.heap ((((fC_unsigned a) >>> ((fC_exponentOf z).toInt64 &&& 63)).toInt32) &&& (255 : Int32)) ((((fC_baseMantissa z) >>> ((5 : Int32) &&& 31)) - (1 : Int32)) &&& (7 : Int32))) (va_cwS 2 hq (wA_S q_67 q_68 q_1 q_69) rfl rfl rfl (by decide +kernel) ⟨Nat.le_of_ble_eq_true rfl, Nat.le_of_ble_eq_true rfl⟩) ⟨fun a U g mk q => q, fun U hU hW => ⟨rfl, hU⟩⟩ rfl rfl hl.1 rfl (lv_room (Nat.le_of_ble_eq_true rfl)) dC_placed_54 ⟨Nat.zero_le _, Nat.zero_le _⟩) hS (fun locs hS => ?_)
  refine lv_i2l hx hb dC_placed_57 rfl ?_
  refine lv_lsub hx hb dC_placed_58 ?_
  refine lv_lstore (lv' := [(8, .long ((((fC_unsigned a) >>> (((fC_exponentOf z) + (8 : Int32)).toInt64 &&& 63)) + ((fC_below x ((((fC_baseMantissa z) >>> ((5 : Int32) &&& 31)) - (1 : Int32)) &&& (7 : Int32))).toInt64)) - ((fC_below ((((fC_unsigned a) >>> ((fC_exponentOf z).toInt64 &&& 63)).toInt32) &&& (255 : Int32)) ((((fC_baseMantissa z) >>> ((5 : Int32) &&& 31)) - (1 : Int32)) &&& (7 : Int32))).toInt64))), (7, .int ((((fC_baseMantissa z) >>> ((5 : Int32) &&& 31)) - (1 : Int32)) &&& (7 : Int32))), (6, .int ((((fC_unsigned a) >>> ((fC_exponentOf z).toInt64 &&& 63)).toInt32) &&& (255 : Int32))), (4, .long (fC_unsigned a)), (3, .int (fC_exponentOf z)), (0, .int z), (1, .int a), (2, .int x)]) hx hb dC_placed_59 hl (by decide) rfl (fun ls hl => ?_)
  refine lv_lload hx hb dC_placed_61 (lv_at hl 0 rfl) ?_
  refine lv_iload_n hx hb dC_placed_63 rfl (lv_at hl 4 rfl) ?_
  refine lv_bipush (v := 8) hx hb dC_placed_64 (by decide) ?_
  refine lv_iadd hx hb dC_placed_66 ?_
  refine lv_lshl hx hb dC_placed_67 rfl ?_
  refine lv_iload_n hx hb dC_placed_68 rfl (lv_at hl 7 rfl) ?_
  refine lv_i2l hx hb dC_placed_69 rfl ?_
  refine lv_iload_n hx hb dC_placed_70 rfl (lv_at hl 4 rfl) ?_
  refine lv_lshl hx hb dC_placed_71 rfl ?_
  refine lv_ladd hx hb dC_placed_72 ?_
  exact W.lret (v := (((((fC_unsigned a) >>> (((fC_exponentOf z) + (8 : Int32)).toInt64 &&& 63)) + ((fC_below x ((((fC_baseMantissa z) >>> ((5 : Int32) &&& 31)) - (1 : Int32)) &&& (7 : Int32))).toInt64)) - ((fC_below ((((fC_unsigned a) >>> ((fC_exponentOf z).toInt64 &&& 63)).toInt32) &&& (255 : Int32)) ((((fC_baseMantissa z) >>> ((5 : Int32) &&& 31)) - (1 : Int32)) &&& (7 : Int32))).toInt64)) <<< (((fC_exponentOf z) + (8 : Int32)).toInt64 &&& 63)) + (x.toInt64 <<< ((fC_exponentOf z).toInt64 &&& 63))) hx hb hr (fun t ht hW => ⟨⟨(((((fC_unsigned a) >>> (((fC_exponentOf z) + (8 : Int32)).toInt64 &&& 63)) + ((fC_below x ((((fC_baseMantissa z) >>> ((5 : Int32) &&& 31)) - (1 : Int32)) &&& (7 : Int32))).toInt64)) - ((fC_below ((((fC_unsigned a) >>> ((fC_exponentOf z).toInt64 &&& 63)).toInt32) &&& (255 : Int32)) ((((fC_baseMantissa z) >>> ((5 : Int32) &&& 31)) - (1 : Int32)) &&& (7 : Int32))).toInt64)) <<< (((fC_exponentOf z) + (8 : Int32)).toInt64 &&& 63)) + (x.toInt64 <<< ((fC_exponentOf z).toInt64 &&& 63)), (), rfl, (by unfold fC_placed; rfl), ht.trans hH⟩, hS.F ht⟩) hS.2.2 dC_placed_73
def fC_baseOf (z : Int32) (a : Int32) : Int64 := (fC_placed z a (fC_baseMantissa z)) &&& (4294967295 : Int64)
set_option maxHeartbeats 4000000 in
set_option maxRecDepth 100000 in
theorem kC_baseOf (l : Launch) (H : Heap) (z : Int32) (a : Int32) : Met l yC_baseOf wC_baseOf { frames := 2, cells := 0, slots := 0, locals := 50 } (va_Pc [.int z, .int a] (fun U => U.heap = H)) (va_Ql (fun v9 (_ : Unit) => v9 = fC_baseOf z a) (fun _ t => t.heap = H) (fun _ => False)) 0 0 (fun _ => False) := by
  refine Met.ofW (cc := cC_baseOf) (maxL := 2) (ret := (some .long)) (by decide) rfl ?_
  intro p e s m args below meth c s₁ B hml hv
  obtain ⟨rfl, hH⟩ := hv
  have hx := B.exec
  have hb := B.bytes
  have hr := B.returns
  have hts := atoms_spec (ws := wC_baseOf) B.pre
  have hq : ∀ w ∈ wA, w.before _ s = true := fun w h => hts w (List.mem_cons_of_mem _ h)
  have hown : s.vm.findClass "CapUnit" = some m.cls := findClass_of_methodNamed B.named
  have hlocks := B.notSynchronized
  have hS : va_S (fun _ => False) s.heap s.heap [] := va_S.rf
  have hl := lv_entry ([.int z, .int a]) (n := 2) (Nat.le_of_ble_eq_true rfl)
  rw [lg_entry_eq]
  generalize (lg_sl ([.int z, .int a]) ++ List.replicate (2 - (lg_sl ([.int z, .int a])).length) Slot.unset).toArray = ls at hl ⊢
  have hl : lv_has ls 2 [(0, .int z), (1, .int a)] := hl
  refine lv_iload_n hx hb dC_baseOf_0 rfl (lv_at hl 0 rfl) ?_
  refine lv_iload_n hx hb dC_baseOf_1 rfl (lv_at hl 1 rfl) ?_
  refine lv_iload_n hx hb dC_baseOf_2 rfl (lv_at hl 0 rfl) ?_
  refine zc_i (va_runS (As := [.int z]) (rest := [.int a, .int z]) ⟨hx, hb, hml, hown, hq⟩ (kC_baseMantissa l s.heap z) (va_cwS 1 hq (wA_S q_54 q_55 q_1 q_56) rfl rfl rfl (by decide +kernel) ⟨Nat.le_of_ble_eq_true rfl, Nat.le_of_ble_eq_true rfl⟩) ⟨fun a U g mk q => q, fun U hU hW => ⟨rfl, hU⟩⟩ rfl rfl hl.1 rfl (lv_room (Nat.le_of_ble_eq_true rfl)) dC_baseOf_3 ⟨Nat.zero_le _, Nat.zero_le _⟩) hS (fun locs hS => ?_)
  refine zc_l (va_runS (As := [.int z, .int a, .int (fC_baseMantissa z)]) (rest := []) ⟨hx, hb, hml, hown, hq⟩ (kC_placed l s.heap z a (fC_baseMantissa z)) (va_cwS 3 hq (wA_S q_57 q_58 q_1 q_59) rfl rfl rfl (by decide +kernel) ⟨Nat.le_of_ble_eq_true rfl, Nat.le_of_ble_eq_true rfl⟩) ⟨fun a U g mk q => q, fun U hU hW => ⟨rfl, hU⟩⟩ rfl rfl hl.1 rfl (lv_room (Nat.le_of_ble_eq_true rfl)) dC_baseOf_6 ⟨Nat.zero_le _, Nat.zero_le _⟩) hS (fun locs hS => ?_)
  refine lv_ldc2 (v := 4294967295) hx hb hown (hts (.constantLong "CapUnit" 147 4294967295) (by decide +kernel)) dC_baseOf_9 ?_
  refine lv_land hx hb dC_baseOf_12 ?_
  exact W.lret (v := (fC_placed z a (fC_baseMantissa z)) &&& (4294967295 : Int64)) hx hb hr (fun t ht hW => ⟨⟨(fC_placed z a (fC_baseMantissa z)) &&& (4294967295 : Int64), (), rfl, (by unfold fC_baseOf; rfl), ht.trans hH⟩, hS.F ht⟩) hS.2.2 dC_baseOf_13
def fC_topOf (z : Int32) (a : Int32) : Int64 := if (25 : Int32) ≤ (fC_exponentOf z) then ((fC_placed z a (fC_topMantissa z)) &&& (8589934591 : Int64)) else (if (((((fC_placed z a (fC_topMantissa z)) &&& (8589934591 : Int64)) >>> ((31 : Int32).toInt64 &&& 63)) - (((fC_placed z a (fC_baseMantissa z)) &&& (4294967295 : Int64)) >>> ((31 : Int32).toInt64 &&& 63))) &&& (3 : Int64)) ≤ (1 : Int64) then ((fC_placed z a (fC_topMantissa z)) &&& (8589934591 : Int64)) else (((fC_placed z a (fC_topMantissa z)) &&& (8589934591 : Int64)) ^^^ (4294967296 : Int64)))
set_option maxHeartbeats 4000000 in
set_option maxRecDepth 100000 in
theorem kC_topOf (l : Launch) (H : Heap) (z : Int32) (a : Int32) : Met l yC_topOf wC_topOf { frames := 2, cells := 0, slots := 0, locals := 50 } (va_Pc [.int z, .int a] (fun U => U.heap = H)) (va_Ql (fun v9 (_ : Unit) => v9 = fC_topOf z a) (fun _ t => t.heap = H) (fun _ => False)) 0 0 (fun _ => False) := by
  refine Met.ofW (cc := cC_topOf) (maxL := 8) (ret := (some .long)) (by decide) rfl ?_
  intro p e s m args below meth c s₁ B hml hv
  obtain ⟨rfl, hH⟩ := hv
  have hx := B.exec
  have hb := B.bytes
  have hr := B.returns
  have hts := atoms_spec (ws := wC_topOf) B.pre
  have hq : ∀ w ∈ wA, w.before _ s = true := fun w h => hts w (List.mem_cons_of_mem _ h)
  have hown : s.vm.findClass "CapUnit" = some m.cls := findClass_of_methodNamed B.named
  have hlocks := B.notSynchronized
  have hS : va_S (fun _ => False) s.heap s.heap [] := va_S.rf
  have hl := lv_entry ([.int z, .int a]) (n := 8) (Nat.le_of_ble_eq_true rfl)
  rw [lg_entry_eq]
  generalize (lg_sl ([.int z, .int a]) ++ List.replicate (8 - (lg_sl ([.int z, .int a])).length) Slot.unset).toArray = ls at hl ⊢
  have hl : lv_has ls 8 [(0, .int z), (1, .int a)] := hl
  refine lv_iload_n hx hb dC_topOf_0 rfl (lv_at hl 0 rfl) ?_
  refine lv_iload_n hx hb dC_topOf_1 rfl (lv_at hl 1 rfl) ?_
  refine lv_iload_n hx hb dC_topOf_2 rfl (lv_at hl 0 rfl) ?_
  refine zc_i (va_runS (As := [.int z]) (rest := [.int a, .int z]) ⟨hx, hb, hml, hown, hq⟩ (kC_topMantissa l s.heap z) (va_cwS 1 hq (wA_S q_51 q_52 q_1 q_53) rfl rfl rfl (by decide +kernel) ⟨Nat.le_of_ble_eq_true rfl, Nat.le_of_ble_eq_true rfl⟩) ⟨fun a U g mk q => q, fun U hU hW => ⟨rfl, hU⟩⟩ rfl rfl hl.1 rfl (lv_room (Nat.le_of_ble_eq_true rfl)) dC_topOf_3 ⟨Nat.zero_le _, Nat.zero_le _⟩) hS (fun locs hS => ?_)
  refine zc_l (va_runS (As := [.int z, .int a, .int (fC_topMantissa z)]) (rest := []) ⟨hx, hb, hml, hown, hq⟩ (kC_placed l s.heap z a (fC_topMantissa z)) (va_cwS 3 hq (wA_S q_57 q_58 q_1 q_59) rfl rfl rfl (by decide +kernel) ⟨Nat.le_of_ble_eq_true rfl, Nat.le_of_ble_eq_true rfl⟩) ⟨fun a U g mk q => q, fun U hU hW => ⟨rfl, hU⟩⟩ rfl rfl hl.1 rfl (lv_room (Nat.le_of_ble_eq_true rfl)) dC_topOf_6 ⟨Nat.zero_le _, Nat.zero_le _⟩) hS (fun locs hS => ?_)
  refine lv_ldc2 (v := 8589934591) hx hb hown (hts (.constantLong "CapUnit" 156 8589934591) (by decide +kernel)) dC_topOf_9 ?_
  refine lv_land hx hb dC_topOf_12 ?_
  refine lv_lstore_n (lv' := [(2, .long ((fC_placed z a (fC_topMantissa z)) &&& (8589934591 : Int64))), (0, .int z), (1, .int a)]) hx hb dC_topOf_13 rfl hl (by decide) rfl (fun ls hl => ?_)
  refine lv_iload_n hx hb dC_topOf_14 rfl (lv_at hl 1 rfl) ?_
  refine lv_iload_n hx hb dC_topOf_15 rfl (lv_at hl 2 rfl) ?_
  refine lv_iload_n hx hb dC_topOf_16 rfl (lv_at hl 1 rfl) ?_
  refine zc_i (va_runS (As := [.int z]) (rest := [.int a, .int z]) ⟨hx, hb, hml, hown, hq⟩ (kC_baseMantissa l s.heap z) (va_cwS 1 hq (wA_S q_54 q_55 q_1 q_56) rfl rfl rfl (by decide +kernel) ⟨Nat.le_of_ble_eq_true rfl, Nat.le_of_ble_eq_true rfl⟩) ⟨fun a U g mk q => q, fun U hU hW => ⟨rfl, hU⟩⟩ rfl rfl hl.1 rfl (lv_room (Nat.le_of_ble_eq_true rfl)) dC_topOf_17 ⟨Nat.zero_le _, Nat.zero_le _⟩) hS (fun locs hS => ?_)
  refine zc_l (va_runS (As := [.int z, .int a, .int (fC_baseMantissa z)]) (rest := []) ⟨hx, hb, hml, hown, hq⟩ (kC_placed l s.heap z a (fC_baseMantissa z)) (va_cwS 3 hq (wA_S q_57 q_58 q_1 q_59) rfl rfl rfl (by decide +kernel) ⟨Nat.le_of_ble_eq_true rfl, Nat.le_of_ble_eq_true rfl⟩) ⟨fun a U g mk q => q, fun U hU hW => ⟨rfl, hU⟩⟩ rfl rfl hl.1 rfl (lv_room (Nat.le_of_ble_eq_true rfl)) dC_topOf_20 ⟨Nat.zero_le _, Nat.zero_le _⟩) hS (fun locs hS => ?_)
  refine lv_ldc2 (v := 4294967295) hx hb hown (hts (.constantLong "CapUnit" 147 4294967295) (by decide +kernel)) dC_topOf_23 ?_
  refine lv_land hx hb dC_topOf_26 ?_
  refine lv_lstore (lv' := [(4, .long ((fC_placed z a (fC_baseMantissa z)) &&& (4294967295 : Int64))), (2, .long ((fC_placed z a (fC_topMantissa z)) &&& (8589934591 : Int64))), (0, .int z), (1, .int a)]) hx hb dC_topOf_27 hl (by decide) rfl (fun ls hl => ?_)
  refine lv_lload_n hx hb dC_topOf_29 rfl (lv_at hl 1 rfl) ?_
  refine lv_bipush (v := 31) hx hb dC_topOf_30 (by decide) ?_
  refine lv_lshr hx hb dC_topOf_32 rfl ?_
  refine lv_lload hx hb dC_topOf_33 (lv_at hl 0 rfl) ?_
  refine lv_bipush (v := 31) hx hb dC_topOf_35 (by decide) ?_
  refine lv_lshr hx hb dC_topOf_37 rfl ?_
  refine lv_lsub hx hb dC_topOf_38 ?_
  refine lv_lstore (lv' := [(6, .long ((((fC_placed z a (fC_topMantissa z)) &&& (8589934591 : Int64)) >>> ((31 : Int32).toInt64 &&& 63)) - (((fC_placed z a (fC_baseMantissa z)) &&& (4294967295 : Int64)) >>> ((31 : Int32).toInt64 &&& 63)))), (4, .long ((fC_placed z a (fC_baseMantissa z)) &&& (4294967295 : Int64))), (2, .long ((fC_placed z a (fC_topMantissa z)) &&& (8589934591 : Int64))), (0, .int z), (1, .int a)]) hx hb dC_topOf_39 hl (by decide) rfl (fun ls hl => ?_)
  refine lv_iload_n hx hb dC_topOf_41 rfl (lv_at hl 3 rfl) ?_
  refine zc_i (va_runS (As := [.int z]) (rest := []) ⟨hx, hb, hml, hown, hq⟩ (kC_exponentOf l s.heap z) (va_cwS 1 hq (wA_S q_60 q_61 q_1 q_62) rfl rfl rfl (by decide +kernel) ⟨Nat.le_of_ble_eq_true rfl, Nat.le_of_ble_eq_true rfl⟩) ⟨fun a U g mk q => q, fun U hU hW => ⟨rfl, hU⟩⟩ rfl rfl hl.1 rfl (lv_room (Nat.le_of_ble_eq_true rfl)) dC_topOf_42 ⟨Nat.zero_le _, Nat.zero_le _⟩) hS (fun locs hS => ?_)
  refine lv_bipush (v := 25) hx hb dC_topOf_45 (by decide) ?_
  refine lv_icmp_ge (tgt := 67) hx hb dC_topOf_47 rfl (fun h1 => ?_) (fun h1 => ?_)
  · refine lv_lload_n hx hb dC_topOf_67 rfl (lv_at hl 2 rfl) ?_
    exact W.lret (v := (fC_placed z a (fC_topMantissa z)) &&& (8589934591 : Int64)) hx hb hr (fun t ht hW => ⟨⟨(fC_placed z a (fC_topMantissa z)) &&& (8589934591 : Int64), (), rfl, (by unfold fC_topOf; rw [if_pos h1]), ht.trans hH⟩, hS.F ht⟩) hS.2.2 dC_topOf_68
  · refine lv_lload hx hb dC_topOf_50 (lv_at hl 0 rfl) ?_
    refine lv_ldc2 (v := 3) hx hb hown (hts (.constantLong "CapUnit" 158 3) (by decide +kernel)) dC_topOf_52 ?_
    refine lv_land hx hb dC_topOf_55 ?_
    refine lv_lconst (v := 1) hx hb dC_topOf_56 (by decide) ?_
    refine W.lcmp hx hb dC_topOf_57 ?_
    refine lv_if_le (tgt := 67) hx hb dC_topOf_58 rfl (fun h2 => ?_) (fun h2 => ?_)
    · have h2 := (lg_cmp_le _ _).mp h2
      refine lv_lload_n hx hb dC_topOf_67 rfl (lv_at hl 2 rfl) ?_
      exact W.lret (v := (fC_placed z a (fC_topMantissa z)) &&& (8589934591 : Int64)) hx hb hr (fun t ht hW => ⟨⟨(fC_placed z a (fC_topMantissa z)) &&& (8589934591 : Int64), (), rfl, (by unfold fC_topOf; rw [if_neg h1, if_pos h2]), ht.trans hH⟩, hS.F ht⟩) hS.2.2 dC_topOf_68
    · have h2 := mt (lg_cmp_le _ _).mpr h2
      refine lv_lload_n hx hb dC_topOf_61 rfl (lv_at hl 2 rfl) ?_
      refine lv_ldc2 (v := 4294967296) hx hb hown (hts (.constantLong "CapUnit" 81 4294967296) (by decide +kernel)) dC_topOf_62 ?_
      refine lv_lxor hx hb dC_topOf_65 ?_
      exact W.lret (v := ((fC_placed z a (fC_topMantissa z)) &&& (8589934591 : Int64)) ^^^ (4294967296 : Int64)) hx hb hr (fun t ht hW => ⟨⟨((fC_placed z a (fC_topMantissa z)) &&& (8589934591 : Int64)) ^^^ (4294967296 : Int64), (), rfl, (by unfold fC_topOf; rw [if_neg h1, if_neg h2]), ht.trans hH⟩, hS.F ht⟩) hS.2.2 dC_topOf_66
def fC_roundedDown (n : Int64) (x : Int32) : Int64 := n &&& (-((1 : Int64) <<< ((x + (3 : Int32)).toInt64 &&& 63)))
set_option maxHeartbeats 4000000 in
set_option maxRecDepth 100000 in
theorem kC_roundedDown (l : Launch) (H : Heap) (n : Int64) (x : Int32) : Met l yC_roundedDown wC_roundedDown { frames := 0, cells := 0, slots := 0, locals := 0 } (va_Pc [.long n, .int x] (fun U => U.heap = H)) (va_Ql (fun v9 (_ : Unit) => v9 = fC_roundedDown n x) (fun _ t => t.heap = H) (fun _ => False)) 0 0 (fun _ => False) := by
  refine Met.ofW (cc := cC_roundedDown) (maxL := 3) (ret := (some .long)) (by decide) rfl ?_
  intro p e s m args below meth c s₁ B hml hv
  obtain ⟨rfl, hH⟩ := hv
  have hx := B.exec
  have hb := B.bytes
  have hr := B.returns
  have hts := atoms_spec (ws := wC_roundedDown) B.pre
  have hq : ∀ w ∈ wA, w.before _ s = true := fun w h => hts w (List.mem_cons_of_mem _ h)
  have hown : s.vm.findClass "CapUnit" = some m.cls := findClass_of_methodNamed B.named
  have hlocks := B.notSynchronized
  have hS : va_S (fun _ => False) s.heap s.heap [] := va_S.rf
  have hl := lv_entry ([.long n, .int x]) (n := 3) (Nat.le_of_ble_eq_true rfl)
  rw [lg_entry_eq]
  generalize (lg_sl ([.long n, .int x]) ++ List.replicate (3 - (lg_sl ([.long n, .int x])).length) Slot.unset).toArray = ls at hl ⊢
  have hl : lv_has ls 3 [(0, .long n), (2, .int x)] := hl
  refine lv_lload_n hx hb dC_roundedDown_0 rfl (lv_at hl 0 rfl) ?_
  refine lv_lconst (v := 1) hx hb dC_roundedDown_1 (by decide) ?_
  refine lv_iload_n hx hb dC_roundedDown_2 rfl (lv_at hl 1 rfl) ?_
  refine lv_iconst (v := 3) hx hb dC_roundedDown_3 (by decide) ?_
  refine lv_iadd hx hb dC_roundedDown_4 ?_
  refine lv_lshl hx hb dC_roundedDown_5 rfl ?_
  refine lv_lneg hx hb dC_roundedDown_6 ?_
  refine lv_land hx hb dC_roundedDown_7 ?_
  exact W.lret (v := n &&& (-((1 : Int64) <<< ((x + (3 : Int32)).toInt64 &&& 63)))) hx hb hr (fun t ht hW => ⟨⟨n &&& (-((1 : Int64) <<< ((x + (3 : Int32)).toInt64 &&& 63))), (), rfl, (by unfold fC_roundedDown; rfl), ht.trans hH⟩, hS.F ht⟩) hS.2.2 dC_roundedDown_8
def fC_roundedUp (n : Int64) (x : Int32) : Int64 := fC_roundedDown ((n + ((1 : Int64) <<< ((x + (3 : Int32)).toInt64 &&& 63))) - (1 : Int64)) x
set_option maxHeartbeats 4000000 in
set_option maxRecDepth 100000 in
theorem kC_roundedUp (l : Launch) (H : Heap) (n : Int64) (x : Int32) : Met l yC_roundedUp wC_roundedUp { frames := 1, cells := 0, slots := 0, locals := 22 } (va_Pc [.long n, .int x] (fun U => U.heap = H)) (va_Ql (fun v9 (_ : Unit) => v9 = fC_roundedUp n x) (fun _ t => t.heap = H) (fun _ => False)) 0 0 (fun _ => False) := by
  refine Met.ofW (cc := cC_roundedUp) (maxL := 3) (ret := (some .long)) (by decide) rfl ?_
  intro p e s m args below meth c s₁ B hml hv
  obtain ⟨rfl, hH⟩ := hv
  have hx := B.exec
  have hb := B.bytes
  have hr := B.returns
  have hts := atoms_spec (ws := wC_roundedUp) B.pre
  have hq : ∀ w ∈ wA, w.before _ s = true := fun w h => hts w (List.mem_cons_of_mem _ h)
  have hown : s.vm.findClass "CapUnit" = some m.cls := findClass_of_methodNamed B.named
  have hlocks := B.notSynchronized
  have hS : va_S (fun _ => False) s.heap s.heap [] := va_S.rf
  have hl := lv_entry ([.long n, .int x]) (n := 3) (Nat.le_of_ble_eq_true rfl)
  rw [lg_entry_eq]
  generalize (lg_sl ([.long n, .int x]) ++ List.replicate (3 - (lg_sl ([.long n, .int x])).length) Slot.unset).toArray = ls at hl ⊢
  have hl : lv_has ls 3 [(0, .long n), (2, .int x)] := hl
  refine lv_lload_n hx hb dC_roundedUp_0 rfl (lv_at hl 0 rfl) ?_
  refine lv_lconst (v := 1) hx hb dC_roundedUp_1 (by decide) ?_
  refine lv_iload_n hx hb dC_roundedUp_2 rfl (lv_at hl 1 rfl) ?_
  refine lv_iconst (v := 3) hx hb dC_roundedUp_3 (by decide) ?_
  refine lv_iadd hx hb dC_roundedUp_4 ?_
  refine lv_lshl hx hb dC_roundedUp_5 rfl ?_
  refine lv_ladd hx hb dC_roundedUp_6 ?_
  refine lv_lconst (v := 1) hx hb dC_roundedUp_7 (by decide) ?_
  refine lv_lsub hx hb dC_roundedUp_8 ?_
  refine lv_iload_n hx hb dC_roundedUp_9 rfl (lv_at hl 1 rfl) ?_
  refine zc_l (va_runS (As := [.long ((n + ((1 : Int64) <<< ((x + (3 : Int32)).toInt64 &&& 63))) - (1 : Int64)), .int x]) (rest := []) ⟨hx, hb, hml, hown, hq⟩ (kC_roundedDown l s.heap ((n + ((1 : Int64) <<< ((x + (3 : Int32)).toInt64 &&& 63))) - (1 : Int64)) x) (va_cwS 2 hq (wA_S q_227 q_228 q_1 q_229) rfl rfl rfl (by decide +kernel) ⟨Nat.le_of_ble_eq_true rfl, Nat.le_of_ble_eq_true rfl⟩) ⟨fun a U g mk q => q, fun U hU hW => ⟨rfl, hU⟩⟩ rfl rfl hl.1 rfl (lv_room (Nat.le_of_ble_eq_true rfl)) dC_roundedUp_10 ⟨Nat.zero_le _, Nat.zero_le _⟩) hS (fun locs hS => ?_)
  exact W.lret (v := fC_roundedDown ((n + ((1 : Int64) <<< ((x + (3 : Int32)).toInt64 &&& 63))) - (1 : Int64)) x) hx hb hr (fun t ht hW => ⟨⟨fC_roundedDown ((n + ((1 : Int64) <<< ((x + (3 : Int32)).toInt64 &&& 63))) - (1 : Int64)) x, (), rfl, (by unfold fC_roundedUp; rfl), ht.trans hH⟩, hS.F ht⟩) hS.2.2 dC_roundedUp_13
