def fC_fittingExponent (b : Int64) (t : Int64) : Int32 := if (((fC_roundedUp t (fC_bitsOf ((t - b) >>> ((7 : Int32).toInt64 &&& 63)))) - (fC_roundedDown b (fC_bitsOf ((t - b) >>> ((7 : Int32).toInt64 &&& 63))))) >>> (((fC_bitsOf ((t - b) >>> ((7 : Int32).toInt64 &&& 63))) + (3 : Int32)).toInt64 &&& 63)) < (16 : Int64) then (fC_bitsOf ((t - b) >>> ((7 : Int32).toInt64 &&& 63))) else ((fC_bitsOf ((t - b) >>> ((7 : Int32).toInt64 &&& 63))) + (1 : Int32))
set_option maxHeartbeats 4000000 in
set_option maxRecDepth 100000 in
theorem kC_fittingExponent (l : Launch) (H : Heap) (b : Int64) (t : Int64) : Met l yC_fittingExponent wC_fittingExponent { frames := 2, cells := 0, slots := 0, locals := 44 } (va_Pc [.long b, .long t] (fun U => U.heap = H)) (va_Qi (fun v9 (_ : Unit) => v9 = fC_fittingExponent b t) (fun _ t => t.heap = H) (fun _ => False)) 0 0 (fun _ => False) := by
  refine Met.ofW (cc := cC_fittingExponent) (maxL := 7) (ret := (some .int)) (by decide) rfl ?_
  intro p e s m args below meth c s₁ B hml hv
  obtain ⟨rfl, hH⟩ := hv
  have hx := B.exec
  have hb := B.bytes
  have hr := B.returns
  have hts := atoms_spec (ws := wC_fittingExponent) B.pre
  have hq : ∀ w ∈ wA, w.before _ s = true := fun w h => hts w (List.mem_cons_of_mem _ h)
  have hown : s.vm.findClass "CapUnit" = some m.cls := findClass_of_methodNamed B.named
  have hlocks := B.notSynchronized
  have hS : va_S (fun _ => False) s.heap s.heap [] := va_S.rf
  have hl := lv_entry ([.long b, .long t]) (n := 7) (Nat.le_of_ble_eq_true rfl)
  rw [lg_entry_eq]
  generalize (lg_sl ([.long b, .long t]) ++ List.replicate (7 - (lg_sl ([.long b, .long t])).length) Slot.unset).toArray = ls at hl ⊢
  have hl : lv_has ls 7 [(0, .long b), (2, .long t)] := hl
  refine lv_lload_n hx hb dC_fittingExponent_0 rfl (lv_at hl 1 rfl) ?_
  refine lv_lload_n hx hb dC_fittingExponent_1 rfl (lv_at hl 0 rfl) ?_
  refine lv_lsub hx hb dC_fittingExponent_2 ?_
  refine lv_bipush (v := 7) hx hb dC_fittingExponent_3 (by decide) ?_
  refine lv_lshr hx hb dC_fittingExponent_5 rfl ?_
  refine zc_i (va_runS (As := [.long ((t - b) >>> ((7 : Int32).toInt64 &&& 63))]) (rest := []) ⟨hx, hb, hml, hown, hq⟩ (kC_bitsOf l s.heap ((t - b) >>> ((7 : Int32).toInt64 &&& 63))) (va_cwS 1 hq (wA_S q_221 q_222 q_1 q_223) rfl rfl rfl (by decide +kernel) ⟨Nat.le_of_ble_eq_true rfl, Nat.le_of_ble_eq_true rfl⟩) ⟨fun a U g mk q => q, fun U hU hW => ⟨rfl, hU⟩⟩ rfl rfl hl.1 rfl (lv_room (Nat.le_of_ble_eq_true rfl)) dC_fittingExponent_6 ⟨Nat.zero_le _, Nat.zero_le _⟩) hS (fun locs hS => ?_)
  refine lv_istore (lv' := [(4, .int (fC_bitsOf ((t - b) >>> ((7 : Int32).toInt64 &&& 63)))), (0, .long b), (2, .long t)]) hx hb dC_fittingExponent_9 hl (by decide) rfl (fun ls hl => ?_)
  refine lv_lload_n hx hb dC_fittingExponent_11 rfl (lv_at hl 2 rfl) ?_
  refine lv_iload hx hb dC_fittingExponent_12 (lv_at hl 0 rfl) ?_
  refine zc_l (va_runS (As := [.long t, .int (fC_bitsOf ((t - b) >>> ((7 : Int32).toInt64 &&& 63)))]) (rest := []) ⟨hx, hb, hml, hown, hq⟩ (kC_roundedUp l s.heap t (fC_bitsOf ((t - b) >>> ((7 : Int32).toInt64 &&& 63)))) (va_cwS 2 hq (wA_S q_224 q_225 q_1 q_226) rfl rfl rfl (by decide +kernel) ⟨Nat.le_of_ble_eq_true rfl, Nat.le_of_ble_eq_true rfl⟩) ⟨fun a U g mk q => q, fun U hU hW => ⟨rfl, hU⟩⟩ rfl rfl hl.1 rfl (lv_room (Nat.le_of_ble_eq_true rfl)) dC_fittingExponent_14 ⟨Nat.zero_le _, Nat.zero_le _⟩) hS (fun locs hS => ?_)
  refine lv_lload_n hx hb dC_fittingExponent_17 rfl (lv_at hl 1 rfl) ?_
  refine lv_iload hx hb dC_fittingExponent_18 (lv_at hl 0 rfl) ?_
  refine zc_l (va_runS (As := [.long b, .int (fC_bitsOf ((t - b) >>> ((7 : Int32).toInt64 &&& 63)))]) (rest := [.long (fC_roundedUp t (fC_bitsOf ((t - b) >>> ((7 : Int32).toInt64 &&& 63))))]) ⟨hx, hb, hml, hown, hq⟩ (kC_roundedDown l s.heap b (fC_bitsOf ((t - b) >>> ((7 : Int32).toInt64 &&& 63)))) (va_cwS 2 hq (wA_S q_227 q_228 q_1 q_229) rfl rfl rfl (by decide +kernel) ⟨Nat.le_of_ble_eq_true rfl, Nat.le_of_ble_eq_true rfl⟩) ⟨fun a U g mk q => q, fun U hU hW => ⟨rfl, hU⟩⟩ rfl rfl hl.1 rfl (lv_room (Nat.le_of_ble_eq_true rfl)) dC_fittingExponent_20 ⟨Nat.zero_le _, Nat.zero_le _⟩) hS (fun locs hS => ?_)
  refine lv_lsub hx hb dC_fittingExponent_23 ?_
  refine lv_iload hx hb dC_fittingExponent_24 (lv_at hl 0 rfl) ?_
  refine lv_iconst (v := 3) hx hb dC_fittingExponent_26 (by decide) ?_
  refine lv_iadd hx hb dC_fittingExponent_27 ?_
  refine lv_lshr hx hb dC_fittingExponent_28 rfl ?_
  refine lv_lstore (lv' := [(5, .long (((fC_roundedUp t (fC_bitsOf ((t - b) >>> ((7 : Int32).toInt64 &&& 63)))) - (fC_roundedDown b (fC_bitsOf ((t - b) >>> ((7 : Int32).toInt64 &&& 63))))) >>> (((fC_bitsOf ((t - b) >>> ((7 : Int32).toInt64 &&& 63))) + (3 : Int32)).toInt64 &&& 63))), (4, .int (fC_bitsOf ((t - b) >>> ((7 : Int32).toInt64 &&& 63)))), (0, .long b), (2, .long t)]) hx hb dC_fittingExponent_29 hl (by decide) rfl (fun ls hl => ?_)
  refine lv_lload hx hb dC_fittingExponent_31 (lv_at hl 0 rfl) ?_
  refine lv_ldc2 (v := 16) hx hb hown (hts (.constantLong "CapUnit" 181 16) (by decide +kernel)) dC_fittingExponent_33 ?_
  refine W.lcmp hx hb dC_fittingExponent_36 ?_
  refine lv_if_lt (tgt := 47) hx hb dC_fittingExponent_37 rfl (fun h1 => ?_) (fun h1 => ?_)
  · have h1 := (lg_cmp_lt _ _).mp h1
    refine lv_iload hx hb dC_fittingExponent_47 (lv_at hl 1 rfl) ?_
    exact W.iret (v := fC_bitsOf ((t - b) >>> ((7 : Int32).toInt64 &&& 63))) hx hb hr (fun t9 ht hW => ⟨⟨_, (), rfl, (by unfold fC_fittingExponent; rw [if_pos h1]), ht.trans hH⟩, hS.F ht⟩) hS.2.2 dC_fittingExponent_49
  · have h1 := mt (lg_cmp_lt _ _).mpr h1
    refine lv_iload hx hb dC_fittingExponent_40 (lv_at hl 1 rfl) ?_
    refine lv_iconst (v := 1) hx hb dC_fittingExponent_42 (by decide) ?_
    refine lv_iadd hx hb dC_fittingExponent_43 ?_
    refine lv_goto (tgt := 49) hx hb dC_fittingExponent_44 rfl ?_
    exact W.iret (v := (fC_bitsOf ((t - b) >>> ((7 : Int32).toInt64 &&& 63))) + (1 : Int32)) hx hb hr (fun t9 ht hW => ⟨⟨_, (), rfl, (by unfold fC_fittingExponent; rw [if_neg h1]), ht.trans hH⟩, hS.F ht⟩) hS.2.2 dC_fittingExponent_49
def fC_packed (b : Int64) (t : Int64) : Int32 := if (63 : Int64) < (t - b) then (if (fC_roundedDown b (fC_fittingExponent b t)) = b then (if (fC_roundedUp t (fC_fittingExponent b t)) = t then ((((32768 : Int32) ||| (16384 : Int32)) ||| ((((((fC_roundedUp t (fC_fittingExponent b t)) >>> ((fC_fittingExponent b t).toInt64 &&& 63)).toInt32) &&& (63 : Int32)) ||| ((fC_fittingExponent b t) >>> ((3 : Int32) &&& 31))) <<< ((8 : Int32) &&& 31))) ||| (((((fC_roundedDown b (fC_fittingExponent b t)) >>> ((fC_fittingExponent b t).toInt64 &&& 63)).toInt32) &&& (255 : Int32)) ||| ((fC_fittingExponent b t) &&& (7 : Int32)))) else ((((0 : Int32) ||| (16384 : Int32)) ||| ((((((fC_roundedUp t (fC_fittingExponent b t)) >>> ((fC_fittingExponent b t).toInt64 &&& 63)).toInt32) &&& (63 : Int32)) ||| ((fC_fittingExponent b t) >>> ((3 : Int32) &&& 31))) <<< ((8 : Int32) &&& 31))) ||| (((((fC_roundedDown b (fC_fittingExponent b t)) >>> ((fC_fittingExponent b t).toInt64 &&& 63)).toInt32) &&& (255 : Int32)) ||| ((fC_fittingExponent b t) &&& (7 : Int32))))) else ((((0 : Int32) ||| (16384 : Int32)) ||| ((((((fC_roundedUp t (fC_fittingExponent b t)) >>> ((fC_fittingExponent b t).toInt64 &&& 63)).toInt32) &&& (63 : Int32)) ||| ((fC_fittingExponent b t) >>> ((3 : Int32) &&& 31))) <<< ((8 : Int32) &&& 31))) ||| (((((fC_roundedDown b (fC_fittingExponent b t)) >>> ((fC_fittingExponent b t).toInt64 &&& 63)).toInt32) &&& (255 : Int32)) ||| ((fC_fittingExponent b t) &&& (7 : Int32))))) else (((32768 : Int32) ||| (((t &&& (63 : Int64)).toInt32) <<< ((8 : Int32) &&& 31))) ||| ((b &&& (255 : Int64)).toInt32))
set_option maxHeartbeats 4000000 in
set_option maxRecDepth 100000 in
theorem kC_packed (l : Launch) (H : Heap) (b : Int64) (t : Int64) : Met l yC_packed wC_packed { frames := 3, cells := 0, slots := 0, locals := 70 } (va_Pc [.long b, .long t] (fun U => U.heap = H)) (va_Qi (fun v9 (_ : Unit) => v9 = fC_packed b t) (fun _ t => t.heap = H) (fun _ => False)) 0 0 (fun _ => False) := by
  refine Met.ofW (cc := cC_packed) (maxL := 12) (ret := (some .int)) (by decide) rfl ?_
  intro p e s m args below meth c s₁ B hml hv
  obtain ⟨rfl, hH⟩ := hv
  have hx := B.exec
  have hb := B.bytes
  have hr := B.returns
  have hts := atoms_spec (ws := wC_packed) B.pre
  have hq : ∀ w ∈ wA, w.before _ s = true := fun w h => hts w (List.mem_cons_of_mem _ h)
  have hown : s.vm.findClass "CapUnit" = some m.cls := findClass_of_methodNamed B.named
  have hlocks := B.notSynchronized
  have hS : va_S (fun _ => False) s.heap s.heap [] := va_S.rf
  have hl := lv_entry ([.long b, .long t]) (n := 12) (Nat.le_of_ble_eq_true rfl)
  rw [lg_entry_eq]
  generalize (lg_sl ([.long b, .long t]) ++ List.replicate (12 - (lg_sl ([.long b, .long t])).length) Slot.unset).toArray = ls at hl ⊢
  have hl : lv_has ls 12 [(0, .long b), (2, .long t)] := hl
  refine lv_lload_n hx hb dC_packed_0 rfl (lv_at hl 1 rfl) ?_
  refine lv_lload_n hx hb dC_packed_1 rfl (lv_at hl 0 rfl) ?_
  refine lv_lsub hx hb dC_packed_2 ?_
  refine lv_ldc2 (v := 63) hx hb hown (hts (.constantLong "CapUnit" 163 63) (by decide +kernel)) dC_packed_3 ?_
  refine W.lcmp hx hb dC_packed_6 ?_
  refine lv_if_gt (tgt := 30) hx hb dC_packed_7 rfl (fun h1 => ?_) (fun h1 => ?_)
  · have h1 := (lg_cmp_gt _ _).mp h1
    refine lv_lload_n hx hb dC_packed_30 rfl (lv_at hl 0 rfl) ?_
    refine lv_lload_n hx hb dC_packed_31 rfl (lv_at hl 1 rfl) ?_
    refine zc_i (va_runS (As := [.long b, .long t]) (rest := []) ⟨hx, hb, hml, hown, hq⟩ (kC_fittingExponent l s.heap b t) (va_cwS 2 hq (wA_S q_218 q_219 q_1 q_220) rfl rfl rfl (by decide +kernel) ⟨Nat.le_of_ble_eq_true rfl, Nat.le_of_ble_eq_true rfl⟩) ⟨fun a U g mk q => q, fun U hU hW => ⟨rfl, hU⟩⟩ rfl rfl hl.1 rfl (lv_room (Nat.le_of_ble_eq_true rfl)) dC_packed_32 ⟨Nat.zero_le _, Nat.zero_le _⟩) hS (fun locs hS => ?_)
    refine lv_istore (lv' := [(4, .int (fC_fittingExponent b t)), (0, .long b), (2, .long t)]) hx hb dC_packed_35 hl (by decide) rfl (fun ls hl => ?_)
    refine lv_lload_n hx hb dC_packed_37 rfl (lv_at hl 1 rfl) ?_
    refine lv_iload hx hb dC_packed_38 (lv_at hl 0 rfl) ?_
    refine zc_l (va_runS (As := [.long b, .int (fC_fittingExponent b t)]) (rest := []) ⟨hx, hb, hml, hown, hq⟩ (kC_roundedDown l s.heap b (fC_fittingExponent b t)) (va_cwS 2 hq (wA_S q_227 q_228 q_1 q_229) rfl rfl rfl (by decide +kernel) ⟨Nat.le_of_ble_eq_true rfl, Nat.le_of_ble_eq_true rfl⟩) ⟨fun a U g mk q => q, fun U hU hW => ⟨rfl, hU⟩⟩ rfl rfl hl.1 rfl (lv_room (Nat.le_of_ble_eq_true rfl)) dC_packed_40 ⟨Nat.zero_le _, Nat.zero_le _⟩) hS (fun locs hS => ?_)
    refine lv_lstore (lv' := [(5, .long (fC_roundedDown b (fC_fittingExponent b t))), (4, .int (fC_fittingExponent b t)), (0, .long b), (2, .long t)]) hx hb dC_packed_43 hl (by decide) rfl (fun ls hl => ?_)
    refine lv_lload_n hx hb dC_packed_45 rfl (lv_at hl 3 rfl) ?_
    refine lv_iload hx hb dC_packed_46 (lv_at hl 1 rfl) ?_
    refine zc_l (va_runS (As := [.long t, .int (fC_fittingExponent b t)]) (rest := []) ⟨hx, hb, hml, hown, hq⟩ (kC_roundedUp l s.heap t (fC_fittingExponent b t)) (va_cwS 2 hq (wA_S q_224 q_225 q_1 q_226) rfl rfl rfl (by decide +kernel) ⟨Nat.le_of_ble_eq_true rfl, Nat.le_of_ble_eq_true rfl⟩) ⟨fun a U g mk q => q, fun U hU hW => ⟨rfl, hU⟩⟩ rfl rfl hl.1 rfl (lv_room (Nat.le_of_ble_eq_true rfl)) dC_packed_48 ⟨Nat.zero_le _, Nat.zero_le _⟩) hS (fun locs hS => ?_)
    refine lv_lstore (lv' := [(7, .long (fC_roundedUp t (fC_fittingExponent b t))), (5, .long (fC_roundedDown b (fC_fittingExponent b t))), (4, .int (fC_fittingExponent b t)), (0, .long b), (2, .long t)]) hx hb dC_packed_51 hl (by decide) rfl (fun ls hl => ?_)
    refine lv_lload hx hb dC_packed_53 (lv_at hl 1 rfl) ?_
    refine lv_iload hx hb dC_packed_55 (lv_at hl 2 rfl) ?_
    refine lv_lshr hx hb dC_packed_57 rfl ?_
    refine lv_l2i hx hb dC_packed_58 rfl ?_
    refine lv_sipush (v := 255) hx hb dC_packed_59 (by decide) ?_
    refine lv_iand hx hb dC_packed_62 ?_
    refine lv_iload hx hb dC_packed_63 (lv_at hl 2 rfl) ?_
    refine lv_bipush (v := 7) hx hb dC_packed_65 (by decide) ?_
    refine lv_iand hx hb dC_packed_67 ?_
    refine lv_ior hx hb dC_packed_68 ?_
    refine lv_istore (lv' := [(9, .int (((((fC_roundedDown b (fC_fittingExponent b t)) >>> ((fC_fittingExponent b t).toInt64 &&& 63)).toInt32) &&& (255 : Int32)) ||| ((fC_fittingExponent b t) &&& (7 : Int32)))), (7, .long (fC_roundedUp t (fC_fittingExponent b t))), (5, .long (fC_roundedDown b (fC_fittingExponent b t))), (4, .int (fC_fittingExponent b t)), (0, .long b), (2, .long t)]) hx hb dC_packed_69 hl (by decide) rfl (fun ls hl => ?_)
    refine lv_lload hx hb dC_packed_71 (lv_at hl 1 rfl) ?_
    refine lv_iload hx hb dC_packed_73 (lv_at hl 3 rfl) ?_
    refine lv_lshr hx hb dC_packed_75 rfl ?_
    refine lv_l2i hx hb dC_packed_76 rfl ?_
    refine lv_bipush (v := 63) hx hb dC_packed_77 (by decide) ?_
    refine lv_iand hx hb dC_packed_79 ?_
    refine lv_iload hx hb dC_packed_80 (lv_at hl 3 rfl) ?_
    refine lv_iconst (v := 3) hx hb dC_packed_82 (by decide) ?_
    refine lv_ishr hx hb dC_packed_83 ?_
    refine lv_ior hx hb dC_packed_84 ?_
    refine lv_istore (lv' := [(10, .int (((((fC_roundedUp t (fC_fittingExponent b t)) >>> ((fC_fittingExponent b t).toInt64 &&& 63)).toInt32) &&& (63 : Int32)) ||| ((fC_fittingExponent b t) >>> ((3 : Int32) &&& 31)))), (9, .int (((((fC_roundedDown b (fC_fittingExponent b t)) >>> ((fC_fittingExponent b t).toInt64 &&& 63)).toInt32) &&& (255 : Int32)) ||| ((fC_fittingExponent b t) &&& (7 : Int32)))), (7, .long (fC_roundedUp t (fC_fittingExponent b t))), (5, .long (fC_roundedDown b (fC_fittingExponent b t))), (4, .int (fC_fittingExponent b t)), (0, .long b), (2, .long t)]) hx hb dC_packed_85 hl (by decide) rfl (fun ls hl => ?_)
    refine lv_lload hx hb dC_packed_87 (lv_at hl 3 rfl) ?_
    refine lv_lload_n hx hb dC_packed_89 rfl (lv_at hl 5 rfl) ?_
    refine W.lcmp hx hb dC_packed_90 ?_
    refine lv_if_ne (tgt := 106) hx hb dC_packed_91 rfl (fun h2 => ?_) (fun h2 => ?_)
    · have h2 := mt (lg_cmp_eq _ _).mpr h2
      refine lv_iconst (v := 0) hx hb dC_packed_106 (by decide) ?_
      refine lv_istore (lv' := [(11, .int (0 : Int32)), (10, .int (((((fC_roundedUp t (fC_fittingExponent b t)) >>> ((fC_fittingExponent b t).toInt64 &&& 63)).toInt32) &&& (63 : Int32)) ||| ((fC_fittingExponent b t) >>> ((3 : Int32) &&& 31)))), (9, .int (((((fC_roundedDown b (fC_fittingExponent b t)) >>> ((fC_fittingExponent b t).toInt64 &&& 63)).toInt32) &&& (255 : Int32)) ||| ((fC_fittingExponent b t) &&& (7 : Int32)))), (7, .long (fC_roundedUp t (fC_fittingExponent b t))), (5, .long (fC_roundedDown b (fC_fittingExponent b t))), (4, .int (fC_fittingExponent b t)), (0, .long b), (2, .long t)]) hx hb dC_packed_107 hl (by decide) rfl (fun ls hl => ?_)
      refine lv_iload hx hb dC_packed_109 (lv_at hl 0 rfl) ?_
      refine lv_sipush (v := 16384) hx hb dC_packed_111 (by decide) ?_
      refine lv_ior hx hb dC_packed_114 ?_
      refine lv_iload hx hb dC_packed_115 (lv_at hl 1 rfl) ?_
      refine lv_bipush (v := 8) hx hb dC_packed_117 (by decide) ?_
      refine lv_ishl hx hb dC_packed_119 ?_
      refine lv_ior hx hb dC_packed_120 ?_
      refine lv_iload hx hb dC_packed_121 (lv_at hl 2 rfl) ?_
      refine lv_ior hx hb dC_packed_123 ?_
      exact W.iret (v := (((0 : Int32) ||| (16384 : Int32)) ||| ((((((fC_roundedUp t (fC_fittingExponent b t)) >>> ((fC_fittingExponent b t).toInt64 &&& 63)).toInt32) &&& (63 : Int32)) ||| ((fC_fittingExponent b t) >>> ((3 : Int32) &&& 31))) <<< ((8 : Int32) &&& 31))) ||| (((((fC_roundedDown b (fC_fittingExponent b t)) >>> ((fC_fittingExponent b t).toInt64 &&& 63)).toInt32) &&& (255 : Int32)) ||| ((fC_fittingExponent b t) &&& (7 : Int32)))) hx hb hr (fun t9 ht hW => ⟨⟨_, (), rfl, (by unfold fC_packed; rw [if_pos h1, if_neg h2]), ht.trans hH⟩, hS.F ht⟩) hS.2.2 dC_packed_124
    · have h2 := (lg_cmp_eq _ _).mp h2
      refine lv_lload hx hb dC_packed_94 (lv_at hl 2 rfl) ?_
      refine lv_lload_n hx hb dC_packed_96 rfl (lv_at hl 6 rfl) ?_
      refine W.lcmp hx hb dC_packed_97 ?_
      refine lv_if_ne (tgt := 106) hx hb dC_packed_98 rfl (fun h3 => ?_) (fun h3 => ?_)
      · have h3 := mt (lg_cmp_eq _ _).mpr h3
        refine lv_iconst (v := 0) hx hb dC_packed_106 (by decide) ?_
        refine lv_istore (lv' := [(11, .int (0 : Int32)), (10, .int (((((fC_roundedUp t (fC_fittingExponent b t)) >>> ((fC_fittingExponent b t).toInt64 &&& 63)).toInt32) &&& (63 : Int32)) ||| ((fC_fittingExponent b t) >>> ((3 : Int32) &&& 31)))), (9, .int (((((fC_roundedDown b (fC_fittingExponent b t)) >>> ((fC_fittingExponent b t).toInt64 &&& 63)).toInt32) &&& (255 : Int32)) ||| ((fC_fittingExponent b t) &&& (7 : Int32)))), (7, .long (fC_roundedUp t (fC_fittingExponent b t))), (5, .long (fC_roundedDown b (fC_fittingExponent b t))), (4, .int (fC_fittingExponent b t)), (0, .long b), (2, .long t)]) hx hb dC_packed_107 hl (by decide) rfl (fun ls hl => ?_)
        refine lv_iload hx hb dC_packed_109 (lv_at hl 0 rfl) ?_
        refine lv_sipush (v := 16384) hx hb dC_packed_111 (by decide) ?_
        refine lv_ior hx hb dC_packed_114 ?_
        refine lv_iload hx hb dC_packed_115 (lv_at hl 1 rfl) ?_
        refine lv_bipush (v := 8) hx hb dC_packed_117 (by decide) ?_
        refine lv_ishl hx hb dC_packed_119 ?_
        refine lv_ior hx hb dC_packed_120 ?_
        refine lv_iload hx hb dC_packed_121 (lv_at hl 2 rfl) ?_
        refine lv_ior hx hb dC_packed_123 ?_
        exact W.iret (v := (((0 : Int32) ||| (16384 : Int32)) ||| ((((((fC_roundedUp t (fC_fittingExponent b t)) >>> ((fC_fittingExponent b t).toInt64 &&& 63)).toInt32) &&& (63 : Int32)) ||| ((fC_fittingExponent b t) >>> ((3 : Int32) &&& 31))) <<< ((8 : Int32) &&& 31))) ||| (((((fC_roundedDown b (fC_fittingExponent b t)) >>> ((fC_fittingExponent b t).toInt64 &&& 63)).toInt32) &&& (255 : Int32)) ||| ((fC_fittingExponent b t) &&& (7 : Int32)))) hx hb hr (fun t9 ht hW => ⟨⟨_, (), rfl, (by unfold fC_packed; rw [if_pos h1, if_pos h2, if_neg h3]), ht.trans hH⟩, hS.F ht⟩) hS.2.2 dC_packed_124
      · have h3 := (lg_cmp_eq _ _).mp h3
        refine lv_ldc (v := 32768) hx hb hown (hts (.constant "CapUnit" 96 32768) (by decide +kernel)) dC_packed_101 ?_
        refine lv_goto (tgt := 107) hx hb dC_packed_103 rfl ?_
        refine lv_istore (lv' := [(11, .int (32768 : Int32)), (10, .int (((((fC_roundedUp t (fC_fittingExponent b t)) >>> ((fC_fittingExponent b t).toInt64 &&& 63)).toInt32) &&& (63 : Int32)) ||| ((fC_fittingExponent b t) >>> ((3 : Int32) &&& 31)))), (9, .int (((((fC_roundedDown b (fC_fittingExponent b t)) >>> ((fC_fittingExponent b t).toInt64 &&& 63)).toInt32) &&& (255 : Int32)) ||| ((fC_fittingExponent b t) &&& (7 : Int32)))), (7, .long (fC_roundedUp t (fC_fittingExponent b t))), (5, .long (fC_roundedDown b (fC_fittingExponent b t))), (4, .int (fC_fittingExponent b t)), (0, .long b), (2, .long t)]) hx hb dC_packed_107 hl (by decide) rfl (fun ls hl => ?_)
        refine lv_iload hx hb dC_packed_109 (lv_at hl 0 rfl) ?_
        refine lv_sipush (v := 16384) hx hb dC_packed_111 (by decide) ?_
        refine lv_ior hx hb dC_packed_114 ?_
        refine lv_iload hx hb dC_packed_115 (lv_at hl 1 rfl) ?_
        refine lv_bipush (v := 8) hx hb dC_packed_117 (by decide) ?_
        refine lv_ishl hx hb dC_packed_119 ?_
        refine lv_ior hx hb dC_packed_120 ?_
        refine lv_iload hx hb dC_packed_121 (lv_at hl 2 rfl) ?_
        refine lv_ior hx hb dC_packed_123 ?_
        exact W.iret (v := (((32768 : Int32) ||| (16384 : Int32)) ||| ((((((fC_roundedUp t (fC_fittingExponent b t)) >>> ((fC_fittingExponent b t).toInt64 &&& 63)).toInt32) &&& (63 : Int32)) ||| ((fC_fittingExponent b t) >>> ((3 : Int32) &&& 31))) <<< ((8 : Int32) &&& 31))) ||| (((((fC_roundedDown b (fC_fittingExponent b t)) >>> ((fC_fittingExponent b t).toInt64 &&& 63)).toInt32) &&& (255 : Int32)) ||| ((fC_fittingExponent b t) &&& (7 : Int32)))) hx hb hr (fun t9 ht hW => ⟨⟨_, (), rfl, (by unfold fC_packed; rw [if_pos h1, if_pos h2, if_pos h3]), ht.trans hH⟩, hS.F ht⟩) hS.2.2 dC_packed_124
  · have h1 := mt (lg_cmp_gt _ _).mpr h1
    refine lv_ldc (v := 32768) hx hb hown (hts (.constant "CapUnit" 96 32768) (by decide +kernel)) dC_packed_10 ?_
    refine lv_lload_n hx hb dC_packed_12 rfl (lv_at hl 1 rfl) ?_
    refine lv_ldc2 (v := 63) hx hb hown (hts (.constantLong "CapUnit" 163 63) (by decide +kernel)) dC_packed_13 ?_
    refine lv_land hx hb dC_packed_16 ?_
    refine lv_l2i hx hb dC_packed_17 rfl ?_
    refine lv_bipush (v := 8) hx hb dC_packed_18 (by decide) ?_
    refine lv_ishl hx hb dC_packed_20 ?_
    refine lv_ior hx hb dC_packed_21 ?_
    refine lv_lload_n hx hb dC_packed_22 rfl (lv_at hl 0 rfl) ?_
    refine lv_ldc2 (v := 255) hx hb hown (hts (.constantLong "CapUnit" 165 255) (by decide +kernel)) dC_packed_23 ?_
    refine lv_land hx hb dC_packed_26 ?_
    refine lv_l2i hx hb dC_packed_27 rfl ?_
    refine lv_ior hx hb dC_packed_28 ?_
    exact W.iret (v := ((32768 : Int32) ||| (((t &&& (63 : Int64)).toInt32) <<< ((8 : Int32) &&& 31))) ||| ((b &&& (255 : Int64)).toInt32)) hx hb hr (fun t9 ht hW => ⟨⟨_, (), rfl, (by unfold fC_packed; rw [if_neg h1]), ht.trans hH⟩, hS.F ht⟩) hS.2.2 dC_packed_29
theorem zM_ne (z : Int32) : ¬ (1 : Int64) <<< (((fM_scale z) + (8 : Int32)).toInt64 &&& 63) = 0 := by
  have he := kE_le z.toInt
  have e8 : fM_scale z + (8 : Int32) = zI ((kE z.toInt + 8 : Nat) : Int) := by
    rw [eM_scale]
    show _ + zI 8 = _
    rw [zI_add]
    congr 1
  have e1 : (1 : Int64) = zL 1 := by decide
  have e0 : (0 : Int64) = zL 0 := by decide
  have h1 := p2_pos (kE z.toInt + 8)
  have h2 := p2_le (show kE z.toInt + 8 ≤ 34 by omega)
  have h3 : p2 34 = 17179869184 := rfl
  rw [e8, e1, zL_shl 1 (kE z.toInt + 8) (by omega) rfl rfl, e0, zL_eq (by omega) (by omega) (by omega) (by omega)]
  omega
def fM_inWindow (x : Int32) (y : Int32) (k : Int64) : Int64 := k + (fJ_floorMod ((x.toInt64 <<< (y.toInt64 &&& 63)) - k) ((1 : Int64) <<< ((y + (8 : Int32)).toInt64 &&& 63)))
set_option maxHeartbeats 4000000 in
set_option maxRecDepth 100000 in
theorem kM_inWindow (l : Launch) (H : Heap) (x : Int32) (y : Int32) (k : Int64) (hy0 : ¬ (1 : Int64) <<< ((y + (8 : Int32)).toInt64 &&& 63) = 0) : Met l yM_inWindow wM_inWindow { frames := 1, cells := 0, slots := 0, locals := 25 } (va_Pc [.int x, .int y, .long k] (fun U => U.heap = H)) (va_Ql (fun v9 (_ : Unit) => v9 = fM_inWindow x y k) (fun _ t => t.heap = H) (fun _ => False)) 0 0 (fun _ => False) := by
  refine Met.ofW (cc := cM_inWindow) (maxL := 8) (ret := (some .long)) (by decide) rfl ?_
  intro p e s m args below meth c s₁ B hml hv
  obtain ⟨rfl, hH⟩ := hv
  have hx := B.exec
  have hb := B.bytes
  have hr := B.returns
  have hts := atoms_spec (ws := wM_inWindow) B.pre
  have hq : ∀ w ∈ wA, w.before _ s = true := fun w h => hts w (List.mem_cons_of_mem _ h)
  have hown : s.vm.findClass "CapUnitModel" = some m.cls := findClass_of_methodNamed B.named
  have hlocks := B.notSynchronized
  have hS : va_S (fun _ => False) s.heap s.heap [] := va_S.rf
  have hl := lv_entry ([.int x, .int y, .long k]) (n := 8) (Nat.le_of_ble_eq_true rfl)
  rw [lg_entry_eq]
  generalize (lg_sl ([.int x, .int y, .long k]) ++ List.replicate (8 - (lg_sl ([.int x, .int y, .long k])).length) Slot.unset).toArray = ls at hl ⊢
  have hl : lv_has ls 8 [(0, .int x), (1, .int y), (2, .long k)] := hl
  refine lv_lconst (v := 1) hx hb dM_inWindow_0 (by decide) ?_
  refine lv_iload_n hx hb dM_inWindow_1 rfl (lv_at hl 1 rfl) ?_
  refine lv_bipush (v := 8) hx hb dM_inWindow_2 (by decide) ?_
  refine lv_iadd hx hb dM_inWindow_4 ?_
  refine lv_lshl hx hb dM_inWindow_5 rfl ?_
  refine lv_lstore (lv' := [(4, .long ((1 : Int64) <<< ((y + (8 : Int32)).toInt64 &&& 63))), (0, .int x), (1, .int y), (2, .long k)]) hx hb dM_inWindow_6 hl (by decide) rfl (fun ls hl => ?_)
  refine lv_iload_n hx hb dM_inWindow_8 rfl (lv_at hl 1 rfl) ?_
  refine lv_i2l hx hb dM_inWindow_9 rfl ?_
  refine lv_iload_n hx hb dM_inWindow_10 rfl (lv_at hl 2 rfl) ?_
  refine lv_lshl hx hb dM_inWindow_11 rfl ?_
  refine lv_lstore (lv' := [(6, .long (x.toInt64 <<< (y.toInt64 &&& 63))), (4, .long ((1 : Int64) <<< ((y + (8 : Int32)).toInt64 &&& 63))), (0, .int x), (1, .int y), (2, .long k)]) hx hb dM_inWindow_12 hl (by decide) rfl (fun ls hl => ?_)
  refine lv_lload_n hx hb dM_inWindow_14 rfl (lv_at hl 4 rfl) ?_
  refine lv_lload hx hb dM_inWindow_15 (lv_at hl 0 rfl) ?_
  refine lv_lload_n hx hb dM_inWindow_17 rfl (lv_at hl 4 rfl) ?_
  refine lv_lsub hx hb dM_inWindow_18 ?_
  refine lv_lload hx hb dM_inWindow_19 (lv_at hl 1 rfl) ?_
  refine zc_l (va_runS (As := [.long ((x.toInt64 <<< (y.toInt64 &&& 63)) - k), .long ((1 : Int64) <<< ((y + (8 : Int32)).toInt64 &&& 63))]) (rest := [.long k]) ⟨hx, hb, hml, hown, hq⟩ (kJ_floorMod l s.heap ((x.toInt64 <<< (y.toInt64 &&& 63)) - k) ((1 : Int64) <<< ((y + (8 : Int32)).toInt64 &&& 63)) (by assumption)) (va_cwS 2 hq (wA_S q_445 q_446 q_9 q_447) rfl rfl rfl (by decide +kernel) ⟨Nat.le_of_ble_eq_true rfl, Nat.le_of_ble_eq_true rfl⟩) ⟨fun a U g mk q => q, fun U hU hW => ⟨rfl, hU⟩⟩ rfl rfl hl.1 rfl (lv_room (Nat.le_of_ble_eq_true rfl)) dM_inWindow_21 ⟨Nat.zero_le _, Nat.zero_le _⟩) hS (fun locs hS => ?_)
  refine lv_ladd hx hb dM_inWindow_24 ?_
  exact W.lret (v := k + (fJ_floorMod ((x.toInt64 <<< (y.toInt64 &&& 63)) - k) ((1 : Int64) <<< ((y + (8 : Int32)).toInt64 &&& 63)))) hx hb hr (fun t9 ht hW => ⟨⟨_, (), rfl, (by unfold fM_inWindow; rfl), ht.trans hH⟩, hS.F ht⟩) hS.2.2 dM_inWindow_25
def fM_window (z : Int32) (a : Int32) : Int64 := (fM_low a) - (fJ_floorMod ((fM_low a) - ((((((fM_bottom z) / (32 : Int32)) + (7 : Int32)) - (((fM_bottom z) / (32 : Int32)) + (7 : Int32)) / (8 : Int32) * (8 : Int32)).toInt64) <<< (((fM_scale z) + (5 : Int32)).toInt64 &&& 63))) ((1 : Int64) <<< (((fM_scale z) + (8 : Int32)).toInt64 &&& 63)))
set_option maxHeartbeats 4000000 in
set_option maxRecDepth 100000 in
theorem kM_window (l : Launch) (H : Heap) (z : Int32) (a : Int32) : Met l yM_window wM_window { frames := 1, cells := 0, slots := 0, locals := 25 } (va_Pc [.int z, .int a] (fun U => U.heap = H)) (va_Ql (fun v9 (_ : Unit) => v9 = fM_window z a) (fun _ t => t.heap = H) (fun _ => False)) 0 0 (fun _ => False) := by
  refine Met.ofW (cc := cM_window) (maxL := 7) (ret := (some .long)) (by decide) rfl ?_
  intro p e s m args below meth c s₁ B hml hv
  obtain ⟨rfl, hH⟩ := hv
  have hx := B.exec
  have hb := B.bytes
  have hr := B.returns
  have hts := atoms_spec (ws := wM_window) B.pre
  have hq : ∀ w ∈ wA, w.before _ s = true := fun w h => hts w (List.mem_cons_of_mem _ h)
  have hown : s.vm.findClass "CapUnitModel" = some m.cls := findClass_of_methodNamed B.named
  have hlocks := B.notSynchronized
  have hS : va_S (fun _ => False) s.heap s.heap [] := va_S.rf
  have hl := lv_entry ([.int z, .int a]) (n := 7) (Nat.le_of_ble_eq_true rfl)
  rw [lg_entry_eq]
  generalize (lg_sl ([.int z, .int a]) ++ List.replicate (7 - (lg_sl ([.int z, .int a])).length) Slot.unset).toArray = ls at hl ⊢
  have hl : lv_has ls 7 [(0, .int z), (1, .int a)] := hl
  have hy0 : ¬ (1 : Int64) <<< (((fM_scale z) + (8 : Int32)).toInt64 &&& 63) = 0 := zM_ne z
  refine lv_iload_n hx hb dM_window_0 rfl (lv_at hl 0 rfl) ?_
  refine zc_i (va_runS (As := [.int z]) (rest := []) ⟨hx, hb, hml, hown, hq⟩ (kM_scale l s.heap z) (va_cwS 1 hq (wA_S q_439 q_440 q_2 q_441) rfl rfl rfl (by decide +kernel) ⟨Nat.le_of_ble_eq_true rfl, Nat.le_of_ble_eq_true rfl⟩) ⟨fun a U g mk q => q, fun U hU hW => ⟨rfl, hU⟩⟩ rfl rfl hl.1 rfl (lv_room (Nat.le_of_ble_eq_true rfl)) dM_window_1 ⟨Nat.zero_le _, Nat.zero_le _⟩) hS (fun locs hS => ?_)
  refine lv_istore_n (lv' := [(2, .int (fM_scale z)), (0, .int z), (1, .int a)]) hx hb dM_window_4 rfl hl (by decide) rfl (fun ls hl => ?_)
  refine lv_lconst (v := 1) hx hb dM_window_5 (by decide) ?_
  refine lv_iload_n hx hb dM_window_6 rfl (lv_at hl 0 rfl) ?_
  refine lv_bipush (v := 8) hx hb dM_window_7 (by decide) ?_
  refine lv_iadd hx hb dM_window_9 ?_
  refine lv_lshl hx hb dM_window_10 rfl ?_
  refine lv_lstore_n (lv' := [(3, .long ((1 : Int64) <<< (((fM_scale z) + (8 : Int32)).toInt64 &&& 63))), (2, .int (fM_scale z)), (0, .int z), (1, .int a)]) hx hb dM_window_11 rfl hl (by decide) rfl (fun ls hl => ?_)
  refine lv_iload_n hx hb dM_window_12 rfl (lv_at hl 2 rfl) ?_
  refine zc_i (va_runS (As := [.int z]) (rest := []) ⟨hx, hb, hml, hown, hq⟩ (kM_bottom l s.heap z) (va_cwS 1 hq (wA_S q_436 q_437 q_2 q_438) rfl rfl rfl (by decide +kernel) ⟨Nat.le_of_ble_eq_true rfl, Nat.le_of_ble_eq_true rfl⟩) ⟨fun a U g mk q => q, fun U hU hW => ⟨rfl, hU⟩⟩ rfl rfl hl.1 rfl (lv_room (Nat.le_of_ble_eq_true rfl)) dM_window_13 ⟨Nat.zero_le _, Nat.zero_le _⟩) hS (fun locs hS => ?_)
  refine lv_bipush (v := 32) hx hb dM_window_16 (by decide) ?_
  refine lv_idiv hx hb dM_window_18 (by decide) ?_
  refine lv_bipush (v := 7) hx hb dM_window_19 (by decide) ?_
  refine lv_iadd hx hb dM_window_21 ?_
  refine lv_bipush (v := 8) hx hb dM_window_22 (by decide) ?_
  refine lv_irem hx hb dM_window_24 (by decide) ?_
  refine lv_i2l hx hb dM_window_25 rfl ?_
  refine lv_iload_n hx hb dM_window_26 rfl (lv_at hl 1 rfl) ?_
  refine lv_iconst (v := 5) hx hb dM_window_27 (by decide) ?_
  refine lv_iadd hx hb dM_window_28 ?_
  refine lv_lshl hx hb dM_window_29 rfl ?_
  refine lv_lstore (lv' := [(5, .long ((((((fM_bottom z) / (32 : Int32)) + (7 : Int32)) - (((fM_bottom z) / (32 : Int32)) + (7 : Int32)) / (8 : Int32) * (8 : Int32)).toInt64) <<< (((fM_scale z) + (5 : Int32)).toInt64 &&& 63))), (3, .long ((1 : Int64) <<< (((fM_scale z) + (8 : Int32)).toInt64 &&& 63))), (2, .int (fM_scale z)), (0, .int z), (1, .int a)]) hx hb dM_window_30 hl (by decide) rfl (fun ls hl => ?_)
  refine lv_iload_n hx hb dM_window_32 rfl (lv_at hl 4 rfl) ?_
  refine zc_l (va_runS (As := [.int a]) (rest := []) ⟨hx, hb, hml, hown, hq⟩ (kM_low l s.heap a) (va_cwS 1 hq (wA_S q_417 q_418 q_2 q_419) rfl rfl rfl (by decide +kernel) ⟨Nat.le_of_ble_eq_true rfl, Nat.le_of_ble_eq_true rfl⟩) ⟨fun a U g mk q => q, fun U hU hW => ⟨rfl, hU⟩⟩ rfl rfl hl.1 rfl (lv_room (Nat.le_of_ble_eq_true rfl)) dM_window_33 ⟨Nat.zero_le _, Nat.zero_le _⟩) hS (fun locs hS => ?_)
  refine lv_iload_n hx hb dM_window_36 rfl (lv_at hl 4 rfl) ?_
  refine zc_l (va_runS (As := [.int a]) (rest := [.long (fM_low a)]) ⟨hx, hb, hml, hown, hq⟩ (kM_low l s.heap a) (va_cwS 1 hq (wA_S q_417 q_418 q_2 q_419) rfl rfl rfl (by decide +kernel) ⟨Nat.le_of_ble_eq_true rfl, Nat.le_of_ble_eq_true rfl⟩) ⟨fun a U g mk q => q, fun U hU hW => ⟨rfl, hU⟩⟩ rfl rfl hl.1 rfl (lv_room (Nat.le_of_ble_eq_true rfl)) dM_window_37 ⟨Nat.zero_le _, Nat.zero_le _⟩) hS (fun locs hS => ?_)
  refine lv_lload hx hb dM_window_40 (lv_at hl 0 rfl) ?_
  refine lv_lsub hx hb dM_window_42 ?_
  refine lv_lload_n hx hb dM_window_43 rfl (lv_at hl 1 rfl) ?_
  refine zc_l (va_runS (As := [.long ((fM_low a) - ((((((fM_bottom z) / (32 : Int32)) + (7 : Int32)) - (((fM_bottom z) / (32 : Int32)) + (7 : Int32)) / (8 : Int32) * (8 : Int32)).toInt64) <<< (((fM_scale z) + (5 : Int32)).toInt64 &&& 63))), .long ((1 : Int64) <<< (((fM_scale z) + (8 : Int32)).toInt64 &&& 63))]) (rest := [.long (fM_low a)]) ⟨hx, hb, hml, hown, hq⟩ (kJ_floorMod l s.heap ((fM_low a) - ((((((fM_bottom z) / (32 : Int32)) + (7 : Int32)) - (((fM_bottom z) / (32 : Int32)) + (7 : Int32)) / (8 : Int32) * (8 : Int32)).toInt64) <<< (((fM_scale z) + (5 : Int32)).toInt64 &&& 63))) ((1 : Int64) <<< (((fM_scale z) + (8 : Int32)).toInt64 &&& 63)) (by assumption)) (va_cwS 2 hq (wA_S q_445 q_446 q_9 q_447) rfl rfl rfl (by decide +kernel) ⟨Nat.le_of_ble_eq_true rfl, Nat.le_of_ble_eq_true rfl⟩) ⟨fun a U g mk q => q, fun U hU hW => ⟨rfl, hU⟩⟩ rfl rfl hl.1 rfl (lv_room (Nat.le_of_ble_eq_true rfl)) dM_window_44 ⟨Nat.zero_le _, Nat.zero_le _⟩) hS (fun locs hS => ?_)
  refine lv_lsub hx hb dM_window_47 ?_
  exact W.lret (v := (fM_low a) - (fJ_floorMod ((fM_low a) - ((((((fM_bottom z) / (32 : Int32)) + (7 : Int32)) - (((fM_bottom z) / (32 : Int32)) + (7 : Int32)) / (8 : Int32) * (8 : Int32)).toInt64) <<< (((fM_scale z) + (5 : Int32)).toInt64 &&& 63))) ((1 : Int64) <<< (((fM_scale z) + (8 : Int32)).toInt64 &&& 63)))) hx hb hr (fun t9 ht hW => ⟨⟨_, (), rfl, (by unfold fM_window; rfl), ht.trans hH⟩, hS.F ht⟩) hS.2.2 dM_window_48
def fM_base (z : Int32) (a : Int32) : Int64 := (fM_inWindow (fM_bottom z) (fM_scale z) (fM_window z a)) &&& (4294967295 : Int64)
set_option maxHeartbeats 4000000 in
set_option maxRecDepth 100000 in
theorem kM_base (l : Launch) (H : Heap) (z : Int32) (a : Int32) : Met l yM_base wM_base { frames := 2, cells := 0, slots := 0, locals := 52 } (va_Pc [.int z, .int a] (fun U => U.heap = H)) (va_Ql (fun v9 (_ : Unit) => v9 = fM_base z a) (fun _ t => t.heap = H) (fun _ => False)) 0 0 (fun _ => False) := by
  refine Met.ofW (cc := cM_base) (maxL := 2) (ret := (some .long)) (by decide) rfl ?_
  intro p e s m args below meth c s₁ B hml hv
  obtain ⟨rfl, hH⟩ := hv
  have hx := B.exec
  have hb := B.bytes
  have hr := B.returns
  have hts := atoms_spec (ws := wM_base) B.pre
  have hq : ∀ w ∈ wA, w.before _ s = true := fun w h => hts w (List.mem_cons_of_mem _ h)
  have hown : s.vm.findClass "CapUnitModel" = some m.cls := findClass_of_methodNamed B.named
  have hlocks := B.notSynchronized
  have hS : va_S (fun _ => False) s.heap s.heap [] := va_S.rf
  have hl := lv_entry ([.int z, .int a]) (n := 2) (Nat.le_of_ble_eq_true rfl)
  rw [lg_entry_eq]
  generalize (lg_sl ([.int z, .int a]) ++ List.replicate (2 - (lg_sl ([.int z, .int a])).length) Slot.unset).toArray = ls at hl ⊢
  have hl : lv_has ls 2 [(0, .int z), (1, .int a)] := hl
  have hy0 : ¬ (1 : Int64) <<< (((fM_scale z) + (8 : Int32)).toInt64 &&& 63) = 0 := zM_ne z
  refine lv_iload_n hx hb dM_base_0 rfl (lv_at hl 0 rfl) ?_
  refine zc_i (va_runS (As := [.int z]) (rest := []) ⟨hx, hb, hml, hown, hq⟩ (kM_bottom l s.heap z) (va_cwS 1 hq (wA_S q_436 q_437 q_2 q_438) rfl rfl rfl (by decide +kernel) ⟨Nat.le_of_ble_eq_true rfl, Nat.le_of_ble_eq_true rfl⟩) ⟨fun a U g mk q => q, fun U hU hW => ⟨rfl, hU⟩⟩ rfl rfl hl.1 rfl (lv_room (Nat.le_of_ble_eq_true rfl)) dM_base_1 ⟨Nat.zero_le _, Nat.zero_le _⟩) hS (fun locs hS => ?_)
  refine lv_iload_n hx hb dM_base_4 rfl (lv_at hl 0 rfl) ?_
  refine zc_i (va_runS (As := [.int z]) (rest := [.int (fM_bottom z)]) ⟨hx, hb, hml, hown, hq⟩ (kM_scale l s.heap z) (va_cwS 1 hq (wA_S q_439 q_440 q_2 q_441) rfl rfl rfl (by decide +kernel) ⟨Nat.le_of_ble_eq_true rfl, Nat.le_of_ble_eq_true rfl⟩) ⟨fun a U g mk q => q, fun U hU hW => ⟨rfl, hU⟩⟩ rfl rfl hl.1 rfl (lv_room (Nat.le_of_ble_eq_true rfl)) dM_base_5 ⟨Nat.zero_le _, Nat.zero_le _⟩) hS (fun locs hS => ?_)
  refine lv_iload_n hx hb dM_base_8 rfl (lv_at hl 0 rfl) ?_
  refine lv_iload_n hx hb dM_base_9 rfl (lv_at hl 1 rfl) ?_
  refine zc_l (va_runS (As := [.int z, .int a]) (rest := [.int (fM_scale z), .int (fM_bottom z)]) ⟨hx, hb, hml, hown, hq⟩ (kM_window l s.heap z a) (va_cwS 2 hq (wA_S q_442 q_443 q_2 q_444) rfl rfl rfl (by decide +kernel) ⟨Nat.le_of_ble_eq_true rfl, Nat.le_of_ble_eq_true rfl⟩) ⟨fun a U g mk q => q, fun U hU hW => ⟨rfl, hU⟩⟩ rfl rfl hl.1 rfl (lv_room (Nat.le_of_ble_eq_true rfl)) dM_base_10 ⟨Nat.zero_le _, Nat.zero_le _⟩) hS (fun locs hS => ?_)
  refine zc_l (va_runS (As := [.int (fM_bottom z), .int (fM_scale z), .long (fM_window z a)]) (rest := []) ⟨hx, hb, hml, hown, hq⟩ (kM_inWindow l s.heap (fM_bottom z) (fM_scale z) (fM_window z a) (by assumption)) (va_cwS 3 hq (wA_S q_448 q_449 q_2 q_450) rfl rfl rfl (by decide +kernel) ⟨Nat.le_of_ble_eq_true rfl, Nat.le_of_ble_eq_true rfl⟩) ⟨fun a U g mk q => q, fun U hU hW => ⟨rfl, hU⟩⟩ rfl rfl hl.1 rfl (lv_room (Nat.le_of_ble_eq_true rfl)) dM_base_13 ⟨Nat.zero_le _, Nat.zero_le _⟩) hS (fun locs hS => ?_)
  refine lv_ldc2 (v := 4294967295) hx hb hown (hts (.constantLong "CapUnitModel" 35 4294967295) (by decide +kernel)) dM_base_16 ?_
  refine lv_land hx hb dM_base_19 ?_
  exact W.lret (v := (fM_inWindow (fM_bottom z) (fM_scale z) (fM_window z a)) &&& (4294967295 : Int64)) hx hb hr (fun t9 ht hW => ⟨⟨_, (), rfl, (by unfold fM_base; rfl), ht.trans hH⟩, hS.F ht⟩) hS.2.2 dM_base_20
def fM_top (z : Int32) (a : Int32) : Int64 := if (25 : Int32) ≤ (fM_scale z) then ((fM_inWindow (fM_roof z) (fM_scale z) (fM_window z a)) &&& (8589934591 : Int64)) else (if ((((((fM_inWindow (fM_roof z) (fM_scale z) (fM_window z a)) &&& (8589934591 : Int64)) >>> ((31 : Int32).toInt64 &&& 63)).toInt32) - (((fM_base z a) >>> ((31 : Int32).toInt64 &&& 63)).toInt32)) &&& (3 : Int32)) ≤ (1 : Int32) then ((fM_inWindow (fM_roof z) (fM_scale z) (fM_window z a)) &&& (8589934591 : Int64)) else (((fM_inWindow (fM_roof z) (fM_scale z) (fM_window z a)) &&& (8589934591 : Int64)) ^^^ (4294967296 : Int64)))
set_option maxHeartbeats 4000000 in
set_option maxRecDepth 100000 in
theorem kM_top (l : Launch) (H : Heap) (z : Int32) (a : Int32) : Met l yM_top wM_top { frames := 3, cells := 0, slots := 0, locals := 73 } (va_Pc [.int z, .int a] (fun U => U.heap = H)) (va_Ql (fun v9 (_ : Unit) => v9 = fM_top z a) (fun _ t => t.heap = H) (fun _ => False)) 0 0 (fun _ => False) := by
  refine Met.ofW (cc := cM_top) (maxL := 7) (ret := (some .long)) (by decide) rfl ?_
  intro p e s m args below meth c s₁ B hml hv
  obtain ⟨rfl, hH⟩ := hv
  have hx := B.exec
  have hb := B.bytes
  have hr := B.returns
  have hts := atoms_spec (ws := wM_top) B.pre
  have hq : ∀ w ∈ wA, w.before _ s = true := fun w h => hts w (List.mem_cons_of_mem _ h)
  have hown : s.vm.findClass "CapUnitModel" = some m.cls := findClass_of_methodNamed B.named
  have hlocks := B.notSynchronized
  have hS : va_S (fun _ => False) s.heap s.heap [] := va_S.rf
  have hl := lv_entry ([.int z, .int a]) (n := 7) (Nat.le_of_ble_eq_true rfl)
  rw [lg_entry_eq]
  generalize (lg_sl ([.int z, .int a]) ++ List.replicate (7 - (lg_sl ([.int z, .int a])).length) Slot.unset).toArray = ls at hl ⊢
  have hl : lv_has ls 7 [(0, .int z), (1, .int a)] := hl
  have hy0 : ¬ (1 : Int64) <<< (((fM_scale z) + (8 : Int32)).toInt64 &&& 63) = 0 := zM_ne z
  refine lv_iload_n hx hb dM_top_0 rfl (lv_at hl 0 rfl) ?_
  refine zc_i (va_runS (As := [.int z]) (rest := []) ⟨hx, hb, hml, hown, hq⟩ (kM_roof l s.heap z) (va_cwS 1 hq (wA_S q_454 q_455 q_2 q_456) rfl rfl rfl (by decide +kernel) ⟨Nat.le_of_ble_eq_true rfl, Nat.le_of_ble_eq_true rfl⟩) ⟨fun a U g mk q => q, fun U hU hW => ⟨rfl, hU⟩⟩ rfl rfl hl.1 rfl (lv_room (Nat.le_of_ble_eq_true rfl)) dM_top_1 ⟨Nat.zero_le _, Nat.zero_le _⟩) hS (fun locs hS => ?_)
  refine lv_iload_n hx hb dM_top_4 rfl (lv_at hl 0 rfl) ?_
  refine zc_i (va_runS (As := [.int z]) (rest := [.int (fM_roof z)]) ⟨hx, hb, hml, hown, hq⟩ (kM_scale l s.heap z) (va_cwS 1 hq (wA_S q_439 q_440 q_2 q_441) rfl rfl rfl (by decide +kernel) ⟨Nat.le_of_ble_eq_true rfl, Nat.le_of_ble_eq_true rfl⟩) ⟨fun a U g mk q => q, fun U hU hW => ⟨rfl, hU⟩⟩ rfl rfl hl.1 rfl (lv_room (Nat.le_of_ble_eq_true rfl)) dM_top_5 ⟨Nat.zero_le _, Nat.zero_le _⟩) hS (fun locs hS => ?_)
  refine lv_iload_n hx hb dM_top_8 rfl (lv_at hl 0 rfl) ?_
  refine lv_iload_n hx hb dM_top_9 rfl (lv_at hl 1 rfl) ?_
  refine zc_l (va_runS (As := [.int z, .int a]) (rest := [.int (fM_scale z), .int (fM_roof z)]) ⟨hx, hb, hml, hown, hq⟩ (kM_window l s.heap z a) (va_cwS 2 hq (wA_S q_442 q_443 q_2 q_444) rfl rfl rfl (by decide +kernel) ⟨Nat.le_of_ble_eq_true rfl, Nat.le_of_ble_eq_true rfl⟩) ⟨fun a U g mk q => q, fun U hU hW => ⟨rfl, hU⟩⟩ rfl rfl hl.1 rfl (lv_room (Nat.le_of_ble_eq_true rfl)) dM_top_10 ⟨Nat.zero_le _, Nat.zero_le _⟩) hS (fun locs hS => ?_)
  refine zc_l (va_runS (As := [.int (fM_roof z), .int (fM_scale z), .long (fM_window z a)]) (rest := []) ⟨hx, hb, hml, hown, hq⟩ (kM_inWindow l s.heap (fM_roof z) (fM_scale z) (fM_window z a) (by assumption)) (va_cwS 3 hq (wA_S q_448 q_449 q_2 q_450) rfl rfl rfl (by decide +kernel) ⟨Nat.le_of_ble_eq_true rfl, Nat.le_of_ble_eq_true rfl⟩) ⟨fun a U g mk q => q, fun U hU hW => ⟨rfl, hU⟩⟩ rfl rfl hl.1 rfl (lv_room (Nat.le_of_ble_eq_true rfl)) dM_top_13 ⟨Nat.zero_le _, Nat.zero_le _⟩) hS (fun locs hS => ?_)
  refine lv_ldc2 (v := 8589934591) hx hb hown (hts (.constantLong "CapUnitModel" 67 8589934591) (by decide +kernel)) dM_top_16 ?_
  refine lv_land hx hb dM_top_19 ?_
  refine lv_lstore_n (lv' := [(2, .long ((fM_inWindow (fM_roof z) (fM_scale z) (fM_window z a)) &&& (8589934591 : Int64))), (0, .int z), (1, .int a)]) hx hb dM_top_20 rfl hl (by decide) rfl (fun ls hl => ?_)
  refine lv_iload_n hx hb dM_top_21 rfl (lv_at hl 1 rfl) ?_
  refine lv_iload_n hx hb dM_top_22 rfl (lv_at hl 2 rfl) ?_
  refine zc_l (va_runS (As := [.int z, .int a]) (rest := []) ⟨hx, hb, hml, hown, hq⟩ (kM_base l s.heap z a) (va_cwS 2 hq (wA_S q_433 q_434 q_2 q_435) rfl rfl rfl (by decide +kernel) ⟨Nat.le_of_ble_eq_true rfl, Nat.le_of_ble_eq_true rfl⟩) ⟨fun a U g mk q => q, fun U hU hW => ⟨rfl, hU⟩⟩ rfl rfl hl.1 rfl (lv_room (Nat.le_of_ble_eq_true rfl)) dM_top_23 ⟨Nat.zero_le _, Nat.zero_le _⟩) hS (fun locs hS => ?_)
  refine lv_lstore (lv' := [(4, .long (fM_base z a)), (2, .long ((fM_inWindow (fM_roof z) (fM_scale z) (fM_window z a)) &&& (8589934591 : Int64))), (0, .int z), (1, .int a)]) hx hb dM_top_26 hl (by decide) rfl (fun ls hl => ?_)
  refine lv_lload_n hx hb dM_top_28 rfl (lv_at hl 1 rfl) ?_
  refine lv_bipush (v := 31) hx hb dM_top_29 (by decide) ?_
  refine lv_lshr hx hb dM_top_31 rfl ?_
  refine lv_l2i hx hb dM_top_32 rfl ?_
  refine lv_lload hx hb dM_top_33 (lv_at hl 0 rfl) ?_
  refine lv_bipush (v := 31) hx hb dM_top_35 (by decide) ?_
  refine lv_lshr hx hb dM_top_37 rfl ?_
  refine lv_l2i hx hb dM_top_38 rfl ?_
  refine lv_isub hx hb dM_top_39 ?_
  refine lv_iconst (v := 3) hx hb dM_top_40 (by decide) ?_
  refine lv_iand hx hb dM_top_41 ?_
  refine lv_istore (lv' := [(6, .int ((((((fM_inWindow (fM_roof z) (fM_scale z) (fM_window z a)) &&& (8589934591 : Int64)) >>> ((31 : Int32).toInt64 &&& 63)).toInt32) - (((fM_base z a) >>> ((31 : Int32).toInt64 &&& 63)).toInt32)) &&& (3 : Int32))), (4, .long (fM_base z a)), (2, .long ((fM_inWindow (fM_roof z) (fM_scale z) (fM_window z a)) &&& (8589934591 : Int64))), (0, .int z), (1, .int a)]) hx hb dM_top_42 hl (by decide) rfl (fun ls hl => ?_)
  refine lv_iload_n hx hb dM_top_44 rfl (lv_at hl 3 rfl) ?_
  refine zc_i (va_runS (As := [.int z]) (rest := []) ⟨hx, hb, hml, hown, hq⟩ (kM_scale l s.heap z) (va_cwS 1 hq (wA_S q_439 q_440 q_2 q_441) rfl rfl rfl (by decide +kernel) ⟨Nat.le_of_ble_eq_true rfl, Nat.le_of_ble_eq_true rfl⟩) ⟨fun a U g mk q => q, fun U hU hW => ⟨rfl, hU⟩⟩ rfl rfl hl.1 rfl (lv_room (Nat.le_of_ble_eq_true rfl)) dM_top_45 ⟨Nat.zero_le _, Nat.zero_le _⟩) hS (fun locs hS => ?_)
  refine lv_bipush (v := 25) hx hb dM_top_48 (by decide) ?_
  refine lv_icmp_ge (tgt := 67) hx hb dM_top_50 rfl (fun h1 => ?_) (fun h1 => ?_)
  · refine lv_lload_n hx hb dM_top_67 rfl (lv_at hl 2 rfl) ?_
    exact W.lret (v := (fM_inWindow (fM_roof z) (fM_scale z) (fM_window z a)) &&& (8589934591 : Int64)) hx hb hr (fun t9 ht hW => ⟨⟨_, (), rfl, (by unfold fM_top; rw [if_pos h1]), ht.trans hH⟩, hS.F ht⟩) hS.2.2 dM_top_68
  · refine lv_iload hx hb dM_top_53 (lv_at hl 0 rfl) ?_
    refine lv_iconst (v := 1) hx hb dM_top_55 (by decide) ?_
    refine lv_icmp_le (tgt := 67) hx hb dM_top_56 rfl (fun h2 => ?_) (fun h2 => ?_)
    · refine lv_lload_n hx hb dM_top_67 rfl (lv_at hl 2 rfl) ?_
      exact W.lret (v := (fM_inWindow (fM_roof z) (fM_scale z) (fM_window z a)) &&& (8589934591 : Int64)) hx hb hr (fun t9 ht hW => ⟨⟨_, (), rfl, (by unfold fM_top; rw [if_neg h1, if_pos h2]), ht.trans hH⟩, hS.F ht⟩) hS.2.2 dM_top_68
    · refine lv_lload_n hx hb dM_top_59 rfl (lv_at hl 2 rfl) ?_
      refine lv_ldc2 (v := 4294967296) hx hb hown (hts (.constantLong "CapUnitModel" 72 4294967296) (by decide +kernel)) dM_top_60 ?_
      refine lv_lxor hx hb dM_top_63 ?_
      refine lv_goto (tgt := 68) hx hb dM_top_64 rfl ?_
      exact W.lret (v := ((fM_inWindow (fM_roof z) (fM_scale z) (fM_window z a)) &&& (8589934591 : Int64)) ^^^ (4294967296 : Int64)) hx hb hr (fun t9 ht hW => ⟨⟨_, (), rfl, (by unfold fM_top; rw [if_neg h1, if_neg h2]), ht.trans hH⟩, hS.F ht⟩) hS.2.2 dM_top_68
def fM_isIn (z : Int32) (a : Int32) (x : Int64) (n : Int32) : Int32 := if x < (fM_base z a) then (0 : Int32) else (if (fM_top z a) < (x + n.toInt64) then (0 : Int32) else (1 : Int32))
set_option maxHeartbeats 4000000 in
set_option maxRecDepth 100000 in
theorem kM_isIn (l : Launch) (H : Heap) (z : Int32) (a : Int32) (x : Int64) (n : Int32) : Met l yM_isIn wM_isIn { frames := 4, cells := 0, slots := 0, locals := 99 } (va_Pc [.int z, .int a, .long x, .int n] (fun U => U.heap = H)) (va_Qi (fun v9 (_ : Unit) => v9 = fM_isIn z a x n) (fun _ t => t.heap = H) (fun _ => False)) 0 0 (fun _ => False) := by
  refine Met.ofW (cc := cM_isIn) (maxL := 5) (ret := (some .boolean)) (by decide) rfl ?_
  intro p e s m args below meth c s₁ B hml hv
  obtain ⟨rfl, hH⟩ := hv
  have hx := B.exec
  have hb := B.bytes
  have hr := B.returns
  have hts := atoms_spec (ws := wM_isIn) B.pre
  have hq : ∀ w ∈ wA, w.before _ s = true := fun w h => hts w (List.mem_cons_of_mem _ h)
  have hown : s.vm.findClass "CapUnitModel" = some m.cls := findClass_of_methodNamed B.named
  have hlocks := B.notSynchronized
  have hS : va_S (fun _ => False) s.heap s.heap [] := va_S.rf
  have hl := lv_entry ([.int z, .int a, .long x, .int n]) (n := 5) (Nat.le_of_ble_eq_true rfl)
  rw [lg_entry_eq]
  generalize (lg_sl ([.int z, .int a, .long x, .int n]) ++ List.replicate (5 - (lg_sl ([.int z, .int a, .long x, .int n])).length) Slot.unset).toArray = ls at hl ⊢
  have hl : lv_has ls 5 [(0, .int z), (1, .int a), (2, .long x), (4, .int n)] := hl
  refine lv_iload_n hx hb dM_isIn_0 rfl (lv_at hl 0 rfl) ?_
  refine lv_iload_n hx hb dM_isIn_1 rfl (lv_at hl 1 rfl) ?_
  refine zc_l (va_runS (As := [.int z, .int a]) (rest := []) ⟨hx, hb, hml, hown, hq⟩ (kM_base l s.heap z a) (va_cwS 2 hq (wA_S q_433 q_434 q_2 q_435) rfl rfl rfl (by decide +kernel) ⟨Nat.le_of_ble_eq_true rfl, Nat.le_of_ble_eq_true rfl⟩) ⟨fun a U g mk q => q, fun U hU hW => ⟨rfl, hU⟩⟩ rfl rfl hl.1 rfl (lv_room (Nat.le_of_ble_eq_true rfl)) dM_isIn_2 ⟨Nat.zero_le _, Nat.zero_le _⟩) hS (fun locs hS => ?_)
  refine lv_lload_n hx hb dM_isIn_5 rfl (lv_at hl 2 rfl) ?_
  refine W.lcmp hx hb dM_isIn_6 ?_
  refine lv_if_gt (tgt := 28) hx hb dM_isIn_7 rfl (fun h1 => ?_) (fun h1 => ?_)
  · have h1 := (lg_cmp_gt _ _).mp h1
    refine lv_iconst (v := 0) hx hb dM_isIn_28 (by decide) ?_
    exact W.zret (v := (0 : Int32)) hx hb hr (by decide) (fun t9 ht hW => ⟨⟨_, (), rfl, (by unfold fM_isIn; rw [if_pos h1]), ht.trans hH⟩, hS.F ht⟩) hS.2.2 dM_isIn_29
  · have h1 := mt (lg_cmp_gt _ _).mpr h1
    refine lv_lload_n hx hb dM_isIn_10 rfl (lv_at hl 2 rfl) ?_
    refine lv_iload hx hb dM_isIn_11 (lv_at hl 3 rfl) ?_
    refine lv_i2l hx hb dM_isIn_13 rfl ?_
    refine lv_ladd hx hb dM_isIn_14 ?_
    refine lv_iload_n hx hb dM_isIn_15 rfl (lv_at hl 0 rfl) ?_
    refine lv_iload_n hx hb dM_isIn_16 rfl (lv_at hl 1 rfl) ?_
    refine zc_l (va_runS (As := [.int z, .int a]) (rest := [.long (x + n.toInt64)]) ⟨hx, hb, hml, hown, hq⟩ (kM_top l s.heap z a) (va_cwS 2 hq (wA_S q_451 q_452 q_2 q_453) rfl rfl rfl (by decide +kernel) ⟨Nat.le_of_ble_eq_true rfl, Nat.le_of_ble_eq_true rfl⟩) ⟨fun a U g mk q => q, fun U hU hW => ⟨rfl, hU⟩⟩ rfl rfl hl.1 rfl (lv_room (Nat.le_of_ble_eq_true rfl)) dM_isIn_17 ⟨Nat.zero_le _, Nat.zero_le _⟩) hS (fun locs hS => ?_)
    refine W.lcmp hx hb dM_isIn_20 ?_
    refine lv_if_gt (tgt := 28) hx hb dM_isIn_21 rfl (fun h2 => ?_) (fun h2 => ?_)
    · have h2 := (lg_cmp_gt _ _).mp h2
      refine lv_iconst (v := 0) hx hb dM_isIn_28 (by decide) ?_
      exact W.zret (v := (0 : Int32)) hx hb hr (by decide) (fun t9 ht hW => ⟨⟨_, (), rfl, (by unfold fM_isIn; rw [if_neg h1, if_pos h2]), ht.trans hH⟩, hS.F ht⟩) hS.2.2 dM_isIn_29
    · have h2 := mt (lg_cmp_gt _ _).mpr h2
      refine lv_iconst (v := 1) hx hb dM_isIn_24 (by decide) ?_
      refine lv_goto (tgt := 29) hx hb dM_isIn_25 rfl ?_
      exact W.zret (v := (1 : Int32)) hx hb hr (by decide) (fun t9 ht hW => ⟨⟨_, (), rfl, (by unfold fM_isIn; rw [if_neg h1, if_neg h2]), ht.trans hH⟩, hS.F ht⟩) hS.2.2 dM_isIn_29
