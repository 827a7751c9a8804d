/-- as Met.ofW, for a method of a class some of whose other methods the machine runs by an entry (Math): its own name is plain -/
theorem zm_ofWF {l : Launch} {y : MethodName} {ws ws' : List Cond} {rm : Room} {Pc : Array Value → State → Prop} {Qc : Array Value → State → Outcome → State → Prop} {mc ms : Nat} {free : Addr → Prop} {cc : ByteArray} {maxL : Nat} {ret : Option FieldType}
    (hy : plainFor y = true) (hw : ws = Cond.code y cc maxL ret :: ws')
    (body : ∀ p e s m args below meth c s₁, BodyLoose p l y (headSpec ws rm) cc maxL ret e s m args below meth c s₁ → c.maxLocals = maxL → Pc args s →
      W p l e (headSpec ws rm).room s m args below meth c s.heap [] 0 0 (MQ below Qc args s mc ms free) (entryFrame m args maxL)) : Met l y ws rm Pc Qc mc ms free := by
  refine MetFree.of_bodySF (code := cc) (maxLocals := maxL) (ret := ret) hy ?_ ?_
  · intro args s m h hn
    obtain ⟨meth, c, h1, h2, h3, h4, h5, h6, -, -⟩ := Cond.code_spec hn (atoms_spec (ws := ws) h _ (by rw [hw]; exact List.mem_cons_self))
    exact ⟨meth, c, h1, h2, h3, h4, h5, h6⟩
  · intro p e s m args below meth c s₁ B hml hP _
    have hh0 : s₁.heap = s.heap := by rw [B.state]; rfl
    obtain ⟨t, a1, o, b1, b2, b3⟩ := body p e s m args below meth c s₁ B hml hP s₁ hh0 (Stand.of_body B)
    exact ⟨t, o, a1, b1, b2, ⟨b3.1, b3.2⟩⟩

def fJ_floorMod (x : Int64) (y : Int64) : Int64 := if (0 : Int64) ≤ (x ^^^ y) then (x - x / y * y) else (if (x - x / y * y) = (0 : Int64) then (x - x / y * y) else ((x - x / y * y) + y))
set_option maxHeartbeats 4000000 in
set_option maxRecDepth 100000 in
theorem kJ_floorMod (l : Launch) (H : Heap) (x : Int64) (y : Int64) (hy0 : ¬ y = 0) : Met l yJ_floorMod wJ_floorMod { frames := 0, cells := 0, slots := 0, locals := 0 } (va_Pc [.long x, .long y] (fun U => U.heap = H)) (va_Ql (fun v9 (_ : Unit) => v9 = fJ_floorMod x y) (fun _ t => t.heap = H) (fun _ => False)) 0 0 (fun _ => False) := by
  refine zm_ofWF (cc := cJ_floorMod) (maxL := 6) (ret := (some .long)) (by decide +kernel) rfl ?_
  intro p e s m args below meth c s₁ B hml hv
  obtain ⟨rfl, hH⟩ := hv
  have hx := B.exec
  have hb := B.bytes
  have hr := B.returns
  have hts := atoms_spec (ws := wJ_floorMod) B.pre
  have hq : ∀ w ∈ wA, w.before _ s = true := fun w h => hts w (List.mem_cons_of_mem _ h)
  have hown : s.vm.findClass "java/lang/Math" = some m.cls := findClass_of_methodNamed B.named
  have hlocks := B.notSynchronized
  have hS : va_S (fun _ => False) s.heap s.heap [] := va_S.rf
  have hl := lv_entry ([.long x, .long y]) (n := 6) (Nat.le_of_ble_eq_true rfl)
  rw [lg_entry_eq]
  generalize (lg_sl ([.long x, .long y]) ++ List.replicate (6 - (lg_sl ([.long x, .long y])).length) Slot.unset).toArray = ls at hl ⊢
  have hl : lv_has ls 6 [(0, .long x), (2, .long y)] := hl
  refine lv_lload_n hx hb dJ_floorMod_0 rfl (lv_at hl 0 rfl) ?_
  refine lv_lload_n hx hb dJ_floorMod_1 rfl (lv_at hl 1 rfl) ?_
  refine lv_lrem hx hb dJ_floorMod_2 hy0 ?_
  refine lv_lstore (lv' := [(4, .long (x - x / y * y)), (0, .long x), (2, .long y)]) hx hb dJ_floorMod_3 hl (by decide) rfl (fun ls hl => ?_)
  refine lv_lload_n hx hb dJ_floorMod_5 rfl (lv_at hl 1 rfl) ?_
  refine lv_lload_n hx hb dJ_floorMod_6 rfl (lv_at hl 2 rfl) ?_
  refine lv_lxor hx hb dJ_floorMod_7 ?_
  refine lv_lconst (v := 0) hx hb dJ_floorMod_8 (by decide) ?_
  refine W.lcmp hx hb dJ_floorMod_9 ?_
  refine lv_if_ge (tgt := 25) hx hb dJ_floorMod_10 rfl (fun h1 => ?_) (fun h1 => ?_)
  · have h1 := (lg_cmp_ge _ _).mp h1
    refine lv_lload hx hb dJ_floorMod_25 (lv_at hl 0 rfl) ?_
    exact W.lret (v := x - x / y * y) hx hb hr (fun t ht hW => ⟨⟨x - x / y * y, (), rfl, (by unfold fJ_floorMod; rw [if_pos h1]), ht.trans hH⟩, hS.F ht⟩) hS.2.2 dJ_floorMod_27
  · have h1 := mt (lg_cmp_ge _ _).mpr h1
    refine lv_lload hx hb dJ_floorMod_13 (lv_at hl 0 rfl) ?_
    refine lv_lconst (v := 0) hx hb dJ_floorMod_15 (by decide) ?_
    refine W.lcmp hx hb dJ_floorMod_16 ?_
    refine lv_if_eq (tgt := 25) hx hb dJ_floorMod_17 rfl (fun h2 => ?_) (fun h2 => ?_)
    · have h2 := (lg_cmp_eq _ _).mp h2
      refine lv_lload hx hb dJ_floorMod_25 (lv_at hl 0 rfl) ?_
      exact W.lret (v := x - x / y * y) hx hb hr (fun t ht hW => ⟨⟨x - x / y * y, (), rfl, (by unfold fJ_floorMod; rw [if_neg h1, if_pos h2]), ht.trans hH⟩, hS.F ht⟩) hS.2.2 dJ_floorMod_27
    · have h2 := mt (lg_cmp_eq _ _).mpr h2
      refine lv_lload hx hb dJ_floorMod_20 (lv_at hl 0 rfl) ?_
      refine lv_lload_n hx hb dJ_floorMod_22 rfl (lv_at hl 2 rfl) ?_
      refine lv_ladd hx hb dJ_floorMod_23 ?_
      exact W.lret (v := (x - x / y * y) + y) hx hb hr (fun t ht hW => ⟨⟨(x - x / y * y) + y, (), rfl, (by unfold fJ_floorMod; rw [if_neg h1, if_neg h2]), ht.trans hH⟩, hS.F ht⟩) hS.2.2 dJ_floorMod_24
def fM_low (n : Int32) : Int64 := n.toInt64 &&& (4294967295 : Int64)
set_option maxHeartbeats 4000000 in
set_option maxRecDepth 100000 in
theorem kM_low (l : Launch) (H : Heap) (n : Int32) : Met l yM_low wM_low { frames := 0, cells := 0, slots := 0, locals := 0 } (va_Pc [.int n] (fun U => U.heap = H)) (va_Ql (fun v9 (_ : Unit) => v9 = fM_low n) (fun _ t => t.heap = H) (fun _ => False)) 0 0 (fun _ => False) := by
  refine Met.ofW (cc := cM_low) (maxL := 1) (ret := (some .long)) (by decide) rfl ?_
  intro p e s m args below meth c s₁ B hml hv
  obtain ⟨rfl, hH⟩ := hv
  have hx := B.exec
  have hb := B.bytes
  have hr := B.returns
  have hts := atoms_spec (ws := wM_low) B.pre
  have hq : ∀ w ∈ wA, w.before _ s = true := fun w h => hts w (List.mem_cons_of_mem _ h)
  have hown : s.vm.findClass "CapUnitModel" = some m.cls := findClass_of_methodNamed B.named
  have hlocks := B.notSynchronized
  have hS : va_S (fun _ => False) s.heap s.heap [] := va_S.rf
  have hl := lv_entry ([.int n]) (n := 1) (Nat.le_of_ble_eq_true rfl)
  rw [lg_entry_eq]
  generalize (lg_sl ([.int n]) ++ List.replicate (1 - (lg_sl ([.int n])).length) Slot.unset).toArray = ls at hl ⊢
  have hl : lv_has ls 1 [(0, .int n)] := hl
  refine lv_iload_n hx hb dM_low_0 rfl (lv_at hl 0 rfl) ?_
  refine lv_i2l hx hb dM_low_1 rfl ?_
  refine lv_ldc2 (v := 4294967295) hx hb hown (hts (.constantLong "CapUnitModel" 35 4294967295) (by decide +kernel)) dM_low_2 ?_
  refine lv_land hx hb dM_low_5 ?_
  exact W.lret (v := n.toInt64 &&& (4294967295 : Int64)) hx hb hr (fun t ht hW => ⟨⟨n.toInt64 &&& (4294967295 : Int64), (), rfl, (by unfold fM_low; rfl), ht.trans hH⟩, hS.F ht⟩) hS.2.2 dM_low_6
def fM_perms (z : Int32) : Int32 := (z.toUInt32 >>> ((20 : Int32).toUInt32 &&& Int32.toUInt32 31)).toInt32
set_option maxHeartbeats 4000000 in
set_option maxRecDepth 100000 in
theorem kM_perms (l : Launch) (H : Heap) (z : Int32) : Met l yM_perms wM_perms { frames := 0, cells := 0, slots := 0, locals := 0 } (va_Pc [.int z] (fun U => U.heap = H)) (va_Qi (fun v9 (_ : Unit) => v9 = fM_perms z) (fun _ t => t.heap = H) (fun _ => False)) 0 0 (fun _ => False) := by
  refine Met.ofW (cc := cM_perms) (maxL := 1) (ret := (some .int)) (by decide) rfl ?_
  intro p e s m args below meth c s₁ B hml hv
  obtain ⟨rfl, hH⟩ := hv
  have hx := B.exec
  have hb := B.bytes
  have hr := B.returns
  have hts := atoms_spec (ws := wM_perms) B.pre
  have hq : ∀ w ∈ wA, w.before _ s = true := fun w h => hts w (List.mem_cons_of_mem _ h)
  have hown : s.vm.findClass "CapUnitModel" = some m.cls := findClass_of_methodNamed B.named
  have hlocks := B.notSynchronized
  have hS : va_S (fun _ => False) s.heap s.heap [] := va_S.rf
  have hl := lv_entry ([.int z]) (n := 1) (Nat.le_of_ble_eq_true rfl)
  rw [lg_entry_eq]
  generalize (lg_sl ([.int z]) ++ List.replicate (1 - (lg_sl ([.int z])).length) Slot.unset).toArray = ls at hl ⊢
  have hl : lv_has ls 1 [(0, .int z)] := hl
  refine lv_iload_n hx hb dM_perms_0 rfl (lv_at hl 0 rfl) ?_
  refine lv_bipush (v := 20) hx hb dM_perms_1 (by decide) ?_
  refine lv_iushr hx hb dM_perms_3 rfl ?_
  exact W.iret (v := (z.toUInt32 >>> ((20 : Int32).toUInt32 &&& Int32.toUInt32 31)).toInt32) hx hb hr (fun t ht hW => ⟨⟨(z.toUInt32 >>> ((20 : Int32).toUInt32 &&& Int32.toUInt32 31)).toInt32, (), rfl, (by unfold fM_perms; rfl), ht.trans hH⟩, hS.F ht⟩) hS.2.2 dM_perms_4
def fM_type (z : Int32) : Int32 := (z >>> ((16 : Int32) &&& 31)) &&& (15 : Int32)
set_option maxHeartbeats 4000000 in
set_option maxRecDepth 100000 in
theorem kM_type (l : Launch) (H : Heap) (z : Int32) : Met l yM_type wM_type { frames := 0, cells := 0, slots := 0, locals := 0 } (va_Pc [.int z] (fun U => U.heap = H)) (va_Qi (fun v9 (_ : Unit) => v9 = fM_type z) (fun _ t => t.heap = H) (fun _ => False)) 0 0 (fun _ => False) := by
  refine Met.ofW (cc := cM_type) (maxL := 1) (ret := (some .int)) (by decide) rfl ?_
  intro p e s m args below meth c s₁ B hml hv
  obtain ⟨rfl, hH⟩ := hv
  have hx := B.exec
  have hb := B.bytes
  have hr := B.returns
  have hts := atoms_spec (ws := wM_type) B.pre
  have hq : ∀ w ∈ wA, w.before _ s = true := fun w h => hts w (List.mem_cons_of_mem _ h)
  have hown : s.vm.findClass "CapUnitModel" = some m.cls := findClass_of_methodNamed B.named
  have hlocks := B.notSynchronized
  have hS : va_S (fun _ => False) s.heap s.heap [] := va_S.rf
  have hl := lv_entry ([.int z]) (n := 1) (Nat.le_of_ble_eq_true rfl)
  rw [lg_entry_eq]
  generalize (lg_sl ([.int z]) ++ List.replicate (1 - (lg_sl ([.int z])).length) Slot.unset).toArray = ls at hl ⊢
  have hl : lv_has ls 1 [(0, .int z)] := hl
  refine lv_iload_n hx hb dM_type_0 rfl (lv_at hl 0 rfl) ?_
  refine lv_bipush (v := 16) hx hb dM_type_1 (by decide) ?_
  refine lv_ishr hx hb dM_type_3 ?_
  refine lv_bipush (v := 15) hx hb dM_type_4 (by decide) ?_
  refine lv_iand hx hb dM_type_6 ?_
  exact W.iret (v := (z >>> ((16 : Int32) &&& 31)) &&& (15 : Int32)) hx hb hr (fun t ht hW => ⟨⟨(z >>> ((16 : Int32) &&& 31)) &&& (15 : Int32), (), rfl, (by unfold fM_type; rfl), ht.trans hH⟩, hS.F ht⟩) hS.2.2 dM_type_7
def fM_withType (z : Int32) (y : Int32) : Int32 := (z &&& (-983041 : Int32)) ||| (y <<< ((16 : Int32) &&& 31))
set_option maxHeartbeats 4000000 in
set_option maxRecDepth 100000 in
theorem kM_withType (l : Launch) (H : Heap) (z : Int32) (y : Int32) : Met l yM_withType wM_withType { frames := 0, cells := 0, slots := 0, locals := 0 } (va_Pc [.int z, .int y] (fun U => U.heap = H)) (va_Qi (fun v9 (_ : Unit) => v9 = fM_withType z y) (fun _ t => t.heap = H) (fun _ => False)) 0 0 (fun _ => False) := by
  refine Met.ofW (cc := cM_withType) (maxL := 2) (ret := (some .int)) (by decide) rfl ?_
  intro p e s m args below meth c s₁ B hml hv
  obtain ⟨rfl, hH⟩ := hv
  have hx := B.exec
  have hb := B.bytes
  have hr := B.returns
  have hts := atoms_spec (ws := wM_withType) B.pre
  have hq : ∀ w ∈ wA, w.before _ s = true := fun w h => hts w (List.mem_cons_of_mem _ h)
  have hown : s.vm.findClass "CapUnitModel" = some m.cls := findClass_of_methodNamed B.named
  have hlocks := B.notSynchronized
  have hS : va_S (fun _ => False) s.heap s.heap [] := va_S.rf
  have hl := lv_entry ([.int z, .int y]) (n := 2) (Nat.le_of_ble_eq_true rfl)
  rw [lg_entry_eq]
  generalize (lg_sl ([.int z, .int y]) ++ List.replicate (2 - (lg_sl ([.int z, .int y])).length) Slot.unset).toArray = ls at hl ⊢
  have hl : lv_has ls 2 [(0, .int z), (1, .int y)] := hl
  refine lv_iload_n hx hb dM_withType_0 rfl (lv_at hl 0 rfl) ?_
  refine lv_ldc (v := -983041) hx hb hown (hts (.constant "CapUnitModel" 37 (-983041)) (by decide +kernel)) dM_withType_1 ?_
  refine lv_iand hx hb dM_withType_3 ?_
  refine lv_iload_n hx hb dM_withType_4 rfl (lv_at hl 1 rfl) ?_
  refine lv_bipush (v := 16) hx hb dM_withType_5 (by decide) ?_
  refine lv_ishl hx hb dM_withType_7 ?_
  refine lv_ior hx hb dM_withType_8 ?_
  exact W.iret (v := (z &&& (-983041 : Int32)) ||| (y <<< ((16 : Int32) &&& 31))) hx hb hr (fun t ht hW => ⟨⟨(z &&& (-983041 : Int32)) ||| (y <<< ((16 : Int32) &&& 31)), (), rfl, (by unfold fM_withType; rfl), ht.trans hH⟩, hS.F ht⟩) hS.2.2 dM_withType_9
def fM_withPerms (z : Int32) (y : Int32) : Int32 := (z &&& (1048575 : Int32)) ||| (y <<< ((20 : Int32) &&& 31))
set_option maxHeartbeats 4000000 in
set_option maxRecDepth 100000 in
theorem kM_withPerms (l : Launch) (H : Heap) (z : Int32) (y : Int32) : Met l yM_withPerms wM_withPerms { frames := 0, cells := 0, slots := 0, locals := 0 } (va_Pc [.int z, .int y] (fun U => U.heap = H)) (va_Qi (fun v9 (_ : Unit) => v9 = fM_withPerms z y) (fun _ t => t.heap = H) (fun _ => False)) 0 0 (fun _ => False) := by
  refine Met.ofW (cc := cM_withPerms) (maxL := 2) (ret := (some .int)) (by decide) rfl ?_
  intro p e s m args below meth c s₁ B hml hv
  obtain ⟨rfl, hH⟩ := hv
  have hx := B.exec
  have hb := B.bytes
  have hr := B.returns
  have hts := atoms_spec (ws := wM_withPerms) B.pre
  have hq : ∀ w ∈ wA, w.before _ s = true := fun w h => hts w (List.mem_cons_of_mem _ h)
  have hown : s.vm.findClass "CapUnitModel" = some m.cls := findClass_of_methodNamed B.named
  have hlocks := B.notSynchronized
  have hS : va_S (fun _ => False) s.heap s.heap [] := va_S.rf
  have hl := lv_entry ([.int z, .int y]) (n := 2) (Nat.le_of_ble_eq_true rfl)
  rw [lg_entry_eq]
  generalize (lg_sl ([.int z, .int y]) ++ List.replicate (2 - (lg_sl ([.int z, .int y])).length) Slot.unset).toArray = ls at hl ⊢
  have hl : lv_has ls 2 [(0, .int z), (1, .int y)] := hl
  refine lv_iload_n hx hb dM_withPerms_0 rfl (lv_at hl 0 rfl) ?_
  refine lv_ldc (v := 1048575) hx hb hown (hts (.constant "CapUnitModel" 38 1048575) (by decide +kernel)) dM_withPerms_1 ?_
  refine lv_iand hx hb dM_withPerms_3 ?_
  refine lv_iload_n hx hb dM_withPerms_4 rfl (lv_at hl 1 rfl) ?_
  refine lv_bipush (v := 20) hx hb dM_withPerms_5 (by decide) ?_
  refine lv_ishl hx hb dM_withPerms_7 ?_
  refine lv_ior hx hb dM_withPerms_8 ?_
  exact W.iret (v := (z &&& (1048575 : Int32)) ||| (y <<< ((20 : Int32) &&& 31))) hx hb hr (fun t ht hW => ⟨⟨(z &&& (1048575 : Int32)) ||| (y <<< ((20 : Int32) &&& 31)), (), rfl, (by unfold fM_withPerms; rfl), ht.trans hH⟩, hS.F ht⟩) hS.2.2 dM_withPerms_9
def fM_scale (z : Int32) : Int32 := if ((z >>> ((14 : Int32) &&& 31)) &&& (1 : Int32)) = 0 then (0 : Int32) else (if (26 : Int32) ≤ (((8 : Int32) * ((z >>> ((8 : Int32) &&& 31)) &&& (7 : Int32))) + (z &&& (7 : Int32))) then (26 : Int32) else (((8 : Int32) * ((z >>> ((8 : Int32) &&& 31)) &&& (7 : Int32))) + (z &&& (7 : Int32))))
set_option maxHeartbeats 4000000 in
set_option maxRecDepth 100000 in
theorem kM_scale (l : Launch) (H : Heap) (z : Int32) : Met l yM_scale wM_scale { frames := 0, cells := 0, slots := 0, locals := 0 } (va_Pc [.int z] (fun U => U.heap = H)) (va_Qi (fun v9 (_ : Unit) => v9 = fM_scale z) (fun _ t => t.heap = H) (fun _ => False)) 0 0 (fun _ => False) := by
  refine Met.ofW (cc := cM_scale) (maxL := 2) (ret := (some .int)) (by decide) rfl ?_
  intro p e s m args below meth c s₁ B hml hv
  obtain ⟨rfl, hH⟩ := hv
  have hx := B.exec
  have hb := B.bytes
  have hr := B.returns
  have hts := atoms_spec (ws := wM_scale) B.pre
  have hq : ∀ w ∈ wA, w.before _ s = true := fun w h => hts w (List.mem_cons_of_mem _ h)
  have hown : s.vm.findClass "CapUnitModel" = some m.cls := findClass_of_methodNamed B.named
  have hlocks := B.notSynchronized
  have hS : va_S (fun _ => False) s.heap s.heap [] := va_S.rf
  have hl := lv_entry ([.int z]) (n := 2) (Nat.le_of_ble_eq_true rfl)
  rw [lg_entry_eq]
  generalize (lg_sl ([.int z]) ++ List.replicate (2 - (lg_sl ([.int z])).length) Slot.unset).toArray = ls at hl ⊢
  have hl : lv_has ls 2 [(0, .int z)] := hl
  refine lv_bipush (v := 8) hx hb dM_scale_0 (by decide) ?_
  refine lv_iload_n hx hb dM_scale_2 rfl (lv_at hl 0 rfl) ?_
  refine lv_bipush (v := 8) hx hb dM_scale_3 (by decide) ?_
  refine lv_ishr hx hb dM_scale_5 ?_
  refine lv_bipush (v := 7) hx hb dM_scale_6 (by decide) ?_
  refine lv_iand hx hb dM_scale_8 ?_
  refine lv_imul hx hb dM_scale_9 ?_
  refine lv_iload_n hx hb dM_scale_10 rfl (lv_at hl 0 rfl) ?_
  refine lv_bipush (v := 7) hx hb dM_scale_11 (by decide) ?_
  refine lv_iand hx hb dM_scale_13 ?_
  refine lv_iadd hx hb dM_scale_14 ?_
  refine lv_istore_n (lv' := [(1, .int (((8 : Int32) * ((z >>> ((8 : Int32) &&& 31)) &&& (7 : Int32))) + (z &&& (7 : Int32)))), (0, .int z)]) hx hb dM_scale_15 rfl hl (by decide) rfl (fun ls hl => ?_)
  refine lv_iload_n hx hb dM_scale_16 rfl (lv_at hl 1 rfl) ?_
  refine lv_bipush (v := 14) hx hb dM_scale_17 (by decide) ?_
  refine lv_ishr hx hb dM_scale_19 ?_
  refine lv_iconst (v := 1) hx hb dM_scale_20 (by decide) ?_
  refine lv_iand hx hb dM_scale_21 ?_
  refine lv_if_ne (tgt := 29) hx hb dM_scale_22 rfl (fun h1 => ?_) (fun h1 => ?_)
  · refine lv_iload_n hx hb dM_scale_29 rfl (lv_at hl 0 rfl) ?_
    refine lv_bipush (v := 26) hx hb dM_scale_30 (by decide) ?_
    refine lv_icmp_ge (tgt := 39) hx hb dM_scale_32 rfl (fun h2 => ?_) (fun h2 => ?_)
    · refine lv_bipush (v := 26) hx hb dM_scale_39 (by decide) ?_
      exact W.iret (v := (26 : Int32)) hx hb hr (fun t ht hW => ⟨⟨(26 : Int32), (), rfl, (by unfold fM_scale; rw [if_neg h1, if_pos h2]), ht.trans hH⟩, hS.F ht⟩) hS.2.2 dM_scale_41
    · refine lv_iload_n hx hb dM_scale_35 rfl (lv_at hl 0 rfl) ?_
      refine lv_goto (tgt := 41) hx hb dM_scale_36 rfl ?_
      exact W.iret (v := ((8 : Int32) * ((z >>> ((8 : Int32) &&& 31)) &&& (7 : Int32))) + (z &&& (7 : Int32))) hx hb hr (fun t ht hW => ⟨⟨((8 : Int32) * ((z >>> ((8 : Int32) &&& 31)) &&& (7 : Int32))) + (z &&& (7 : Int32)), (), rfl, (by unfold fM_scale; rw [if_neg h1, if_neg h2]), ht.trans hH⟩, hS.F ht⟩) hS.2.2 dM_scale_41
  · refine lv_iconst (v := 0) hx hb dM_scale_25 (by decide) ?_
    refine lv_goto (tgt := 41) hx hb dM_scale_26 rfl ?_
    exact W.iret (v := (0 : Int32)) hx hb hr (fun t ht hW => ⟨⟨(0 : Int32), (), rfl, (by unfold fM_scale; rw [if_pos h1]), ht.trans hH⟩, hS.F ht⟩) hS.2.2 dM_scale_41
def fM_bottom (z : Int32) : Int32 := if ((z >>> ((14 : Int32) &&& 31)) &&& (1 : Int32)) = 0 then (z &&& (255 : Int32)) else (z &&& (248 : Int32))
set_option maxHeartbeats 4000000 in
set_option maxRecDepth 100000 in
theorem kM_bottom (l : Launch) (H : Heap) (z : Int32) : Met l yM_bottom wM_bottom { frames := 0, cells := 0, slots := 0, locals := 0 } (va_Pc [.int z] (fun U => U.heap = H)) (va_Qi (fun v9 (_ : Unit) => v9 = fM_bottom z) (fun _ t => t.heap = H) (fun _ => False)) 0 0 (fun _ => False) := by
  refine Met.ofW (cc := cM_bottom) (maxL := 1) (ret := (some .int)) (by decide) rfl ?_
  intro p e s m args below meth c s₁ B hml hv
  obtain ⟨rfl, hH⟩ := hv
  have hx := B.exec
  have hb := B.bytes
  have hr := B.returns
  have hts := atoms_spec (ws := wM_bottom) B.pre
  have hq : ∀ w ∈ wA, w.before _ s = true := fun w h => hts w (List.mem_cons_of_mem _ h)
  have hown : s.vm.findClass "CapUnitModel" = some m.cls := findClass_of_methodNamed B.named
  have hlocks := B.notSynchronized
  have hS : va_S (fun _ => False) s.heap s.heap [] := va_S.rf
  have hl := lv_entry ([.int z]) (n := 1) (Nat.le_of_ble_eq_true rfl)
  rw [lg_entry_eq]
  generalize (lg_sl ([.int z]) ++ List.replicate (1 - (lg_sl ([.int z])).length) Slot.unset).toArray = ls at hl ⊢
  have hl : lv_has ls 1 [(0, .int z)] := hl
  refine lv_iload_n hx hb dM_bottom_0 rfl (lv_at hl 0 rfl) ?_
  refine lv_bipush (v := 14) hx hb dM_bottom_1 (by decide) ?_
  refine lv_ishr hx hb dM_bottom_3 ?_
  refine lv_iconst (v := 1) hx hb dM_bottom_4 (by decide) ?_
  refine lv_iand hx hb dM_bottom_5 ?_
  refine lv_if_ne (tgt := 17) hx hb dM_bottom_6 rfl (fun h1 => ?_) (fun h1 => ?_)
  · refine lv_iload_n hx hb dM_bottom_17 rfl (lv_at hl 0 rfl) ?_
    refine lv_sipush (v := 248) hx hb dM_bottom_18 (by decide) ?_
    refine lv_iand hx hb dM_bottom_21 ?_
    exact W.iret (v := z &&& (248 : Int32)) hx hb hr (fun t ht hW => ⟨⟨z &&& (248 : Int32), (), rfl, (by unfold fM_bottom; rw [if_neg h1]), ht.trans hH⟩, hS.F ht⟩) hS.2.2 dM_bottom_22
  · refine lv_iload_n hx hb dM_bottom_9 rfl (lv_at hl 0 rfl) ?_
    refine lv_sipush (v := 255) hx hb dM_bottom_10 (by decide) ?_
    refine lv_iand hx hb dM_bottom_13 ?_
    refine lv_goto (tgt := 22) hx hb dM_bottom_14 rfl ?_
    exact W.iret (v := z &&& (255 : Int32)) hx hb hr (fun t ht hW => ⟨⟨z &&& (255 : Int32), (), rfl, (by unfold fM_bottom; rw [if_pos h1]), ht.trans hH⟩, hS.F ht⟩) hS.2.2 dM_bottom_22
def fM_roof (z : Int32) : Int32 := if ((z >>> ((14 : Int32) &&& 31)) &&& (1 : Int32)) = 0 then (if ((fM_bottom z) &&& (63 : Int32)) ≤ ((z >>> ((8 : Int32) &&& 31)) &&& (63 : Int32)) then (((((((fM_bottom z) >>> ((6 : Int32) &&& 31)) + (0 : Int32)) + ((z >>> ((14 : Int32) &&& 31)) &&& (1 : Int32))) &&& (3 : Int32)) <<< ((6 : Int32) &&& 31)) ||| ((z >>> ((8 : Int32) &&& 31)) &&& (63 : Int32))) else (((((((fM_bottom z) >>> ((6 : Int32) &&& 31)) + (1 : Int32)) + ((z >>> ((14 : Int32) &&& 31)) &&& (1 : Int32))) &&& (3 : Int32)) <<< ((6 : Int32) &&& 31)) ||| ((z >>> ((8 : Int32) &&& 31)) &&& (63 : Int32)))) else (if ((fM_bottom z) &&& (63 : Int32)) ≤ ((z >>> ((8 : Int32) &&& 31)) &&& (56 : Int32)) then (((((((fM_bottom z) >>> ((6 : Int32) &&& 31)) + (0 : Int32)) + ((z >>> ((14 : Int32) &&& 31)) &&& (1 : Int32))) &&& (3 : Int32)) <<< ((6 : Int32) &&& 31)) ||| ((z >>> ((8 : Int32) &&& 31)) &&& (56 : Int32))) else (((((((fM_bottom z) >>> ((6 : Int32) &&& 31)) + (1 : Int32)) + ((z >>> ((14 : Int32) &&& 31)) &&& (1 : Int32))) &&& (3 : Int32)) <<< ((6 : Int32) &&& 31)) ||| ((z >>> ((8 : Int32) &&& 31)) &&& (56 : Int32))))
set_option maxHeartbeats 4000000 in
set_option maxRecDepth 100000 in
theorem kM_roof (l : Launch) (H : Heap) (z : Int32) : Met l yM_roof wM_roof { frames := 1, cells := 0, slots := 0, locals := 20 } (va_Pc [.int z] (fun U => U.heap = H)) (va_Qi (fun v9 (_ : Unit) => v9 = fM_roof z) (fun _ t => t.heap = H) (fun _ => False)) 0 0 (fun _ => False) := by
  refine Met.ofW (cc := cM_roof) (maxL := 5) (ret := (some .int)) (by decide) rfl ?_
  intro p e s m args below meth c s₁ B hml hv
  obtain ⟨rfl, hH⟩ := hv
  have hx := B.exec
  have hb := B.bytes
  have hr := B.returns
  have hts := atoms_spec (ws := wM_roof) B.pre
  have hq : ∀ w ∈ wA, w.before _ s = true := fun w h => hts w (List.mem_cons_of_mem _ h)
  have hown : s.vm.findClass "CapUnitModel" = some m.cls := findClass_of_methodNamed B.named
  have hlocks := B.notSynchronized
  have hS : va_S (fun _ => False) s.heap s.heap [] := va_S.rf
  have hl := lv_entry ([.int z]) (n := 5) (Nat.le_of_ble_eq_true rfl)
  rw [lg_entry_eq]
  generalize (lg_sl ([.int z]) ++ List.replicate (5 - (lg_sl ([.int z])).length) Slot.unset).toArray = ls at hl ⊢
  have hl : lv_has ls 5 [(0, .int z)] := hl
  refine lv_iload_n hx hb dM_roof_0 rfl (lv_at hl 0 rfl) ?_
  refine lv_bipush (v := 14) hx hb dM_roof_1 (by decide) ?_
  refine lv_ishr hx hb dM_roof_3 ?_
  refine lv_iconst (v := 1) hx hb dM_roof_4 (by decide) ?_
  refine lv_iand hx hb dM_roof_5 ?_
  refine lv_istore_n (lv' := [(1, .int ((z >>> ((14 : Int32) &&& 31)) &&& (1 : Int32))), (0, .int z)]) hx hb dM_roof_6 rfl hl (by decide) rfl (fun ls hl => ?_)
  refine lv_iload_n hx hb dM_roof_7 rfl (lv_at hl 0 rfl) ?_
  refine lv_if_ne (tgt := 21) hx hb dM_roof_8 rfl (fun h1 => ?_) (fun h1 => ?_)
  · refine lv_iload_n hx hb dM_roof_21 rfl (lv_at hl 1 rfl) ?_
    refine lv_bipush (v := 8) hx hb dM_roof_22 (by decide) ?_
    refine lv_ishr hx hb dM_roof_24 ?_
    refine lv_bipush (v := 56) hx hb dM_roof_25 (by decide) ?_
    refine lv_iand hx hb dM_roof_27 ?_
    refine lv_istore_n (lv' := [(2, .int ((z >>> ((8 : Int32) &&& 31)) &&& (56 : Int32))), (1, .int ((z >>> ((14 : Int32) &&& 31)) &&& (1 : Int32))), (0, .int z)]) hx hb dM_roof_28 rfl hl (by decide) rfl (fun ls hl => ?_)
    refine lv_iload_n hx hb dM_roof_29 rfl (lv_at hl 2 rfl) ?_
    refine zc_i (va_runS (As := [.int z]) (rest := []) ⟨hx, hb, hml, hown, hq⟩ (kM_bottom l s.heap z) (va_cwS 1 hq (wA_S q_436 q_437 q_2 q_438) rfl rfl rfl (by decide +kernel) ⟨Nat.le_of_ble_eq_true rfl, Nat.le_of_ble_eq_true rfl⟩) ⟨fun a U g mk q => q, fun U hU hW => ⟨rfl, hU⟩⟩ rfl rfl hl.1 rfl (lv_room (Nat.le_of_ble_eq_true rfl)) dM_roof_30 ⟨Nat.zero_le _, Nat.zero_le _⟩) hS (fun locs hS => ?_)
    refine lv_istore_n (lv' := [(3, .int (fM_bottom z)), (2, .int ((z >>> ((8 : Int32) &&& 31)) &&& (56 : Int32))), (1, .int ((z >>> ((14 : Int32) &&& 31)) &&& (1 : Int32))), (0, .int z)]) hx hb dM_roof_33 rfl hl (by decide) rfl (fun ls hl => ?_)
    refine lv_iload_n hx hb dM_roof_34 rfl (lv_at hl 0 rfl) ?_
    refine lv_bipush (v := 6) hx hb dM_roof_35 (by decide) ?_
    refine lv_ishr hx hb dM_roof_37 ?_
    refine lv_iload_n hx hb dM_roof_38 rfl (lv_at hl 1 rfl) ?_
    refine lv_iload_n hx hb dM_roof_39 rfl (lv_at hl 0 rfl) ?_
    refine lv_bipush (v := 63) hx hb dM_roof_40 (by decide) ?_
    refine lv_iand hx hb dM_roof_42 ?_
    refine lv_icmp_ge (tgt := 50) hx hb dM_roof_43 rfl (fun h2 => ?_) (fun h2 => ?_)
    · refine lv_iconst (v := 0) hx hb dM_roof_50 (by decide) ?_
      refine lv_iadd hx hb dM_roof_51 ?_
      refine lv_iload_n hx hb dM_roof_52 rfl (lv_at hl 2 rfl) ?_
      refine lv_iadd hx hb dM_roof_53 ?_
      refine lv_istore (lv' := [(4, .int ((((fM_bottom z) >>> ((6 : Int32) &&& 31)) + (0 : Int32)) + ((z >>> ((14 : Int32) &&& 31)) &&& (1 : Int32)))), (3, .int (fM_bottom z)), (2, .int ((z >>> ((8 : Int32) &&& 31)) &&& (56 : Int32))), (1, .int ((z >>> ((14 : Int32) &&& 31)) &&& (1 : Int32))), (0, .int z)]) hx hb dM_roof_54 hl (by decide) rfl (fun ls hl => ?_)
      refine lv_iload hx hb dM_roof_56 (lv_at hl 0 rfl) ?_
      refine lv_iconst (v := 3) hx hb dM_roof_58 (by decide) ?_
      refine lv_iand hx hb dM_roof_59 ?_
      refine lv_bipush (v := 6) hx hb dM_roof_60 (by decide) ?_
      refine lv_ishl hx hb dM_roof_62 ?_
      refine lv_iload_n hx hb dM_roof_63 rfl (lv_at hl 2 rfl) ?_
      refine lv_ior hx hb dM_roof_64 ?_
      exact W.iret (v := ((((((fM_bottom z) >>> ((6 : Int32) &&& 31)) + (0 : Int32)) + ((z >>> ((14 : Int32) &&& 31)) &&& (1 : Int32))) &&& (3 : Int32)) <<< ((6 : Int32) &&& 31)) ||| ((z >>> ((8 : Int32) &&& 31)) &&& (56 : Int32))) hx hb hr (fun t ht hW => ⟨⟨((((((fM_bottom z) >>> ((6 : Int32) &&& 31)) + (0 : Int32)) + ((z >>> ((14 : Int32) &&& 31)) &&& (1 : Int32))) &&& (3 : Int32)) <<< ((6 : Int32) &&& 31)) ||| ((z >>> ((8 : Int32) &&& 31)) &&& (56 : Int32)), (), rfl, (by unfold fM_roof; rw [if_neg h1, if_pos h2]), ht.trans hH⟩, hS.F ht⟩) hS.2.2 dM_roof_65
    · refine lv_iconst (v := 1) hx hb dM_roof_46 (by decide) ?_
      refine lv_goto (tgt := 51) hx hb dM_roof_47 rfl ?_
      refine lv_iadd hx hb dM_roof_51 ?_
      refine lv_iload_n hx hb dM_roof_52 rfl (lv_at hl 2 rfl) ?_
      refine lv_iadd hx hb dM_roof_53 ?_
      refine lv_istore (lv' := [(4, .int ((((fM_bottom z) >>> ((6 : Int32) &&& 31)) + (1 : Int32)) + ((z >>> ((14 : Int32) &&& 31)) &&& (1 : Int32)))), (3, .int (fM_bottom z)), (2, .int ((z >>> ((8 : Int32) &&& 31)) &&& (56 : Int32))), (1, .int ((z >>> ((14 : Int32) &&& 31)) &&& (1 : Int32))), (0, .int z)]) hx hb dM_roof_54 hl (by decide) rfl (fun ls hl => ?_)
      refine lv_iload hx hb dM_roof_56 (lv_at hl 0 rfl) ?_
      refine lv_iconst (v := 3) hx hb dM_roof_58 (by decide) ?_
      refine lv_iand hx hb dM_roof_59 ?_
      refine lv_bipush (v := 6) hx hb dM_roof_60 (by decide) ?_
      refine lv_ishl hx hb dM_roof_62 ?_
      refine lv_iload_n hx hb dM_roof_63 rfl (lv_at hl 2 rfl) ?_
      refine lv_ior hx hb dM_roof_64 ?_
      exact W.iret (v := ((((((fM_bottom z) >>> ((6 : Int32) &&& 31)) + (1 : Int32)) + ((z >>> ((14 : Int32) &&& 31)) &&& (1 : Int32))) &&& (3 : Int32)) <<< ((6 : Int32) &&& 31)) ||| ((z >>> ((8 : Int32) &&& 31)) &&& (56 : Int32))) hx hb hr (fun t ht hW => ⟨⟨((((((fM_bottom z) >>> ((6 : Int32) &&& 31)) + (1 : Int32)) + ((z >>> ((14 : Int32) &&& 31)) &&& (1 : Int32))) &&& (3 : Int32)) <<< ((6 : Int32) &&& 31)) ||| ((z >>> ((8 : Int32) &&& 31)) &&& (56 : Int32)), (), rfl, (by unfold fM_roof; rw [if_neg h1, if_neg h2]), ht.trans hH⟩, hS.F ht⟩) hS.2.2 dM_roof_65
  · refine lv_iload_n hx hb dM_roof_11 rfl (lv_at hl 1 rfl) ?_
    refine lv_bipush (v := 8) hx hb dM_roof_12 (by decide) ?_
    refine lv_ishr hx hb dM_roof_14 ?_
    refine lv_bipush (v := 63) hx hb dM_roof_15 (by decide) ?_
    refine lv_iand hx hb dM_roof_17 ?_
    refine lv_goto (tgt := 28) hx hb dM_roof_18 rfl ?_
    refine lv_istore_n (lv' := [(2, .int ((z >>> ((8 : Int32) &&& 31)) &&& (63 : Int32))), (1, .int ((z >>> ((14 : Int32) &&& 31)) &&& (1 : Int32))), (0, .int z)]) hx hb dM_roof_28 rfl hl (by decide) rfl (fun ls hl => ?_)
    refine lv_iload_n hx hb dM_roof_29 rfl (lv_at hl 2 rfl) ?_
    refine zc_i (va_runS (As := [.int z]) (rest := []) ⟨hx, hb, hml, hown, hq⟩ (kM_bottom l s.heap z) (va_cwS 1 hq (wA_S q_436 q_437 q_2 q_438) rfl rfl rfl (by decide +kernel) ⟨Nat.le_of_ble_eq_true rfl, Nat.le_of_ble_eq_true rfl⟩) ⟨fun a U g mk q => q, fun U hU hW => ⟨rfl, hU⟩⟩ rfl rfl hl.1 rfl (lv_room (Nat.le_of_ble_eq_true rfl)) dM_roof_30 ⟨Nat.zero_le _, Nat.zero_le _⟩) hS (fun locs hS => ?_)
    refine lv_istore_n (lv' := [(3, .int (fM_bottom z)), (2, .int ((z >>> ((8 : Int32) &&& 31)) &&& (63 : Int32))), (1, .int ((z >>> ((14 : Int32) &&& 31)) &&& (1 : Int32))), (0, .int z)]) hx hb dM_roof_33 rfl hl (by decide) rfl (fun ls hl => ?_)
    refine lv_iload_n hx hb dM_roof_34 rfl (lv_at hl 0 rfl) ?_
    refine lv_bipush (v := 6) hx hb dM_roof_35 (by decide) ?_
    refine lv_ishr hx hb dM_roof_37 ?_
    refine lv_iload_n hx hb dM_roof_38 rfl (lv_at hl 1 rfl) ?_
    refine lv_iload_n hx hb dM_roof_39 rfl (lv_at hl 0 rfl) ?_
    refine lv_bipush (v := 63) hx hb dM_roof_40 (by decide) ?_
    refine lv_iand hx hb dM_roof_42 ?_
    refine lv_icmp_ge (tgt := 50) hx hb dM_roof_43 rfl (fun h3 => ?_) (fun h3 => ?_)
    · refine lv_iconst (v := 0) hx hb dM_roof_50 (by decide) ?_
      refine lv_iadd hx hb dM_roof_51 ?_
      refine lv_iload_n hx hb dM_roof_52 rfl (lv_at hl 2 rfl) ?_
      refine lv_iadd hx hb dM_roof_53 ?_
      refine lv_istore (lv' := [(4, .int ((((fM_bottom z) >>> ((6 : Int32) &&& 31)) + (0 : Int32)) + ((z >>> ((14 : Int32) &&& 31)) &&& (1 : Int32)))), (3, .int (fM_bottom z)), (2, .int ((z >>> ((8 : Int32) &&& 31)) &&& (63 : Int32))), (1, .int ((z >>> ((14 : Int32) &&& 31)) &&& (1 : Int32))), (0, .int z)]) hx hb dM_roof_54 hl (by decide) rfl (fun ls hl => ?_)
      refine lv_iload hx hb dM_roof_56 (lv_at hl 0 rfl) ?_
      refine lv_iconst (v := 3) hx hb dM_roof_58 (by decide) ?_
      refine lv_iand hx hb dM_roof_59 ?_
      refine lv_bipush (v := 6) hx hb dM_roof_60 (by decide) ?_
      refine lv_ishl hx hb dM_roof_62 ?_
      refine lv_iload_n hx hb dM_roof_63 rfl (lv_at hl 2 rfl) ?_
      refine lv_ior hx hb dM_roof_64 ?_
      exact W.iret (v := ((((((fM_bottom z) >>> ((6 : Int32) &&& 31)) + (0 : Int32)) + ((z >>> ((14 : Int32) &&& 31)) &&& (1 : Int32))) &&& (3 : Int32)) <<< ((6 : Int32) &&& 31)) ||| ((z >>> ((8 : Int32) &&& 31)) &&& (63 : Int32))) hx hb hr (fun t ht hW => ⟨⟨((((((fM_bottom z) >>> ((6 : Int32) &&& 31)) + (0 : Int32)) + ((z >>> ((14 : Int32) &&& 31)) &&& (1 : Int32))) &&& (3 : Int32)) <<< ((6 : Int32) &&& 31)) ||| ((z >>> ((8 : Int32) &&& 31)) &&& (63 : Int32)), (), rfl, (by unfold fM_roof; rw [if_pos h1, if_pos h3]), ht.trans hH⟩, hS.F ht⟩) hS.2.2 dM_roof_65
    · refine lv_iconst (v := 1) hx hb dM_roof_46 (by decide) ?_
      refine lv_goto (tgt := 51) hx hb dM_roof_47 rfl ?_
      refine lv_iadd hx hb dM_roof_51 ?_
      refine lv_iload_n hx hb dM_roof_52 rfl (lv_at hl 2 rfl) ?_
      refine lv_iadd hx hb dM_roof_53 ?_
      refine lv_istore (lv' := [(4, .int ((((fM_bottom z) >>> ((6 : Int32) &&& 31)) + (1 : Int32)) + ((z >>> ((14 : Int32) &&& 31)) &&& (1 : Int32)))), (3, .int (fM_bottom z)), (2, .int ((z >>> ((8 : Int32) &&& 31)) &&& (63 : Int32))), (1, .int ((z >>> ((14 : Int32) &&& 31)) &&& (1 : Int32))), (0, .int z)]) hx hb dM_roof_54 hl (by decide) rfl (fun ls hl => ?_)
      refine lv_iload hx hb dM_roof_56 (lv_at hl 0 rfl) ?_
      refine lv_iconst (v := 3) hx hb dM_roof_58 (by decide) ?_
      refine lv_iand hx hb dM_roof_59 ?_
      refine lv_bipush (v := 6) hx hb dM_roof_60 (by decide) ?_
      refine lv_ishl hx hb dM_roof_62 ?_
      refine lv_iload_n hx hb dM_roof_63 rfl (lv_at hl 2 rfl) ?_
      refine lv_ior hx hb dM_roof_64 ?_
      exact W.iret (v := ((((((fM_bottom z) >>> ((6 : Int32) &&& 31)) + (1 : Int32)) + ((z >>> ((14 : Int32) &&& 31)) &&& (1 : Int32))) &&& (3 : Int32)) <<< ((6 : Int32) &&& 31)) ||| ((z >>> ((8 : Int32) &&& 31)) &&& (63 : Int32))) hx hb hr (fun t ht hW => ⟨⟨((((((fM_bottom z) >>> ((6 : Int32) &&& 31)) + (1 : Int32)) + ((z >>> ((14 : Int32) &&& 31)) &&& (1 : Int32))) &&& (3 : Int32)) <<< ((6 : Int32) &&& 31)) ||| ((z >>> ((8 : Int32) &&& 31)) &&& (63 : Int32)), (), rfl, (by unfold fM_roof; rw [if_pos h1, if_neg h3]), ht.trans hH⟩, hS.F ht⟩) hS.2.2 dM_roof_65
