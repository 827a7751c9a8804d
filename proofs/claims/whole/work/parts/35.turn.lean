/-! What the law's turns stand on. -/
theorem zl_preX {s : State} {H : Heap} {D : va_G} {ws : va_W} {ty : List (ClassId × FieldType)} {A : Nat → Prop} {av : List Value} (hK : va_K D zCl ty s) (hP : va_P D zCl ws H) (hD : va_D A ws) (hX : zX A s H) : PreS s H (va_Pc av (fun U => U.heap.size = H.size ∧ va_P D zCl ws U.heap ∧ va_K D zCl ty U ∧ va_D A ws ∧ zX A U U.heap)) av :=
  ⟨fun a U g mk h => ⟨h.1, h.2.1, h.2.2.1, va_K.moved (u := U) (U := U.calling g mk a) (Vm.Alike.refl U.vm) h.2.2.2.1, h.2.2.2.2.1, zX.calling h.2.2.2.2.2⟩, fun U hU hW => ⟨rfl, by rw [hU], by rw [hU]; exact hP, va_K.moved hW.alike hK, hD, by rw [hU]; exact zX.warm hW hX⟩⟩
theorem zl_pre0 {s : State} {H : Heap} {D : va_G} {ws : va_W} {ty : List (ClassId × FieldType)} {A : Nat → Prop} {av : List Value} (hK : va_K D zCl ty s) (hP : va_P D zCl ws H) (hD : va_D A ws) : PreS s H (va_Pc av (fun U => U.heap.size = H.size ∧ va_P D zCl ws U.heap ∧ va_K D zCl ty U ∧ va_D A ws)) av :=
  ⟨fun a U g mk h => ⟨h.1, h.2.1, h.2.2.1, va_K.moved (u := U) (U := U.calling g mk a) (Vm.Alike.refl U.vm) h.2.2.2.1, h.2.2.2.2⟩, fun U hU hW => ⟨rfl, by rw [hU], by rw [hU]; exact hP, va_K.moved hW.alike hK, hD⟩⟩
theorem zl_preM {s : State} {H : Heap} {D : va_G} {ws : va_W} {ty : List (ClassId × FieldType)} {b : Nat} {A : Nat → Prop} {As : List Value} {c : vw_C} {ci q0 : Nat} {fs : List Value} (hK : va_K D zCl ty s) (hP : va_P D zCl ws H) (hD : va_D A ws) (hc : zCl[ci]? = some c) (he : ws[q0]? = some (b, .inr (ci, fs))) : PreV s H c.1 b (va_Pc (.ref b :: As) (fun U => U.heap.size = H.size ∧ va_P D zCl ws U.heap ∧ va_K D zCl ty U ∧ va_D A ws)) As :=
  ⟨fun a U g mk h => ⟨h.1, h.2.1, h.2.2.1, va_K.moved (u := U) (U := U.calling g mk a) (Vm.Alike.refl U.vm) h.2.2.2.1, h.2.2.2.2⟩, va_recv hK hP hc he, fun U hU hW => ⟨rfl, by rw [hU], by rw [hU]; exact hP, va_K.moved hW.alike hK, hD⟩⟩
def zLg (x y : Int32) : Int64 := (x.toInt64 <<< ((32 : Int32).toInt64 &&& 63)) ||| (y.toInt64 &&& (4294967295 : Int64))
def zBo (x : Int32) : Int32 := if x = 0 then 0 else 1
abbrev zO (k : Nat → ClassId) (o : Nat) (out : Nat → Int64) : Nat × va_E := (o, .inl (k 2, 1, .inr (.inl out)))
section LW
variable {p : Program} {l : Launch} {e : Env} {R : Room} {s : State} {m : MethodId} {args : Array Value} {below : List Frame} {meth : Method} {c : Code} {H : Heap} {locs : List Loc} {cells slots : Nat} {Q : State → Prop}
variable {pc : Nat} {ls : Array Slot} {rest : List Value} {A : Nat → Prop} {H0 : Heap} {b L : Nat} {xs : Nat → Int32} {i : Nat}
theorem ld_j (hx : p.tables.exec = Jvm.exec) (hb : c.code = code) (hX : va_X b L xs s H0) (hbl : b < H0.size) (hbA : ¬ A b) (hS : va_S A H0 H locs) (hL : L ≤ 3072) (h0 : ls[0]? = some (.val (.ref b))) (h4 : ls[4]? = some (.val (.int (zI (i : Nat))))) (j : Nat) (hj : i + j < L)
    (d0 : decode code pc = .ok (.aload_n 0, 1)) (d1 : decode code (pc + 1) = .ok (.iload 4, 2)) (d2 : decode code (pc + 3) = .ok (.iconst (j : Nat), 1)) (d3 : decode code (pc + 4) = .ok (.iadd, 1)) (d4 : decode code (pc + 5) = .ok (.iaload, 1))
    (kk : W p l e R s m args below meth c H locs cells slots Q (F0 m (pc + 6) ls (.int (xs (i + j)) :: rest))) : W p l e R s m args below meth c H locs cells slots Q (F0 m pc ls rest) := by
  refine lv_aload_n hx hb d0 rfl h0 ?_
  refine lv_iload hx hb d1 h4 ?_
  refine lv_iconst (v := zI (j : Nat)) hx hb d2 rfl ?_
  refine lv_iadd hx hb d3 ?_
  refine zt_i (show zI (i : Nat) + zI (j : Nat) = zI ((i + j : Nat) : Int) by rw [zI_add]; rfl) ?_
  refine va_sld hx hb hX hbl hbA hS (i := zI ((i + j : Nat) : Int)) (zI_in hj (by omega)) d4 ?_
  refine zt_i (show _ = xs (i + j) by rw [zI_cl (by omega)]) ?_
  exact kk
theorem ld_0 (hx : p.tables.exec = Jvm.exec) (hb : c.code = code) (hX : va_X b L xs s H0) (hbl : b < H0.size) (hbA : ¬ A b) (hS : va_S A H0 H locs) (hL : L ≤ 3072) (h0 : ls[0]? = some (.val (.ref b))) (h4 : ls[4]? = some (.val (.int (zI (i : Nat))))) (hj : i < L)
    (d0 : decode code pc = .ok (.aload_n 0, 1)) (d1 : decode code (pc + 1) = .ok (.iload 4, 2)) (d4 : decode code (pc + 3) = .ok (.iaload, 1))
    (kk : W p l e R s m args below meth c H locs cells slots Q (F0 m (pc + 4) ls (.int (xs i) :: rest))) : W p l e R s m args below meth c H locs cells slots Q (F0 m pc ls rest) := by
  refine lv_aload_n hx hb d0 rfl h0 ?_
  refine lv_iload hx hb d1 h4 ?_
  refine va_sld hx hb hX hbl hbA hS (i := zI (i : Nat)) (zI_in hj (by omega)) d4 ?_
  refine zt_i (show _ = xs i by rw [zI_cl (by omega)]) ?_
  exact kk
/-- two cells of the script as one long -/
theorem ld_L (hx : p.tables.exec = Jvm.exec) (hb : c.code = code) (hown : s.vm.findClass "CapUnitLaw" = some m.cls) (hc9 : (Cond.constantLong "CapUnitLaw" 69 4294967295).before args s = true) (hX : va_X b L xs s H0) (hbl : b < H0.size) (hbA : ¬ A b) (hS : va_S A H0 H locs) (hL : L ≤ 3072) (h0 : ls[0]? = some (.val (.ref b))) (h4 : ls[4]? = some (.val (.int (zI (i : Nat))))) (j j2 : Nat) (hj : i + j < L) (hj2 : i + j2 < L)
    (d0 : decode code pc = .ok (.aload_n 0, 1)) (d1 : decode code (pc + 1) = .ok (.iload 4, 2)) (d2 : decode code (pc + 3) = .ok (.iconst (j : Nat), 1)) (d3 : decode code (pc + 4) = .ok (.iadd, 1)) (d4 : decode code (pc + 5) = .ok (.iaload, 1))
    (d5 : decode code (pc + 6) = .ok (.i2l, 1)) (d6 : decode code (pc + 7) = .ok (.bipush 32, 2)) (d7 : decode code (pc + 9) = .ok (.lshl, 1))
    (f0 : decode code (pc + 10) = .ok (.aload_n 0, 1)) (f1 : decode code (pc + 11) = .ok (.iload 4, 2)) (f2 : decode code (pc + 13) = .ok (.iconst (j2 : Nat), 1)) (f3 : decode code (pc + 14) = .ok (.iadd, 1)) (f4 : decode code (pc + 15) = .ok (.iaload, 1))
    (f5 : decode code (pc + 16) = .ok (.i2l, 1)) (f6 : decode code (pc + 17) = .ok (.ldc2_w 69, 3)) (f7 : decode code (pc + 20) = .ok (.land, 1)) (f8 : decode code (pc + 21) = .ok (.lor, 1))
    (kk : W p l e R s m args below meth c H locs cells slots Q (F0 m (pc + 22) ls (.long (zLg (xs (i + j)) (xs (i + j2))) :: rest))) : W p l e R s m args below meth c H locs cells slots Q (F0 m pc ls rest) := by
  refine ld_j hx hb hX hbl hbA hS hL h0 h4 j hj d0 d1 d2 d3 d4 ?_
  refine lv_i2l hx hb d5 rfl ?_
  refine lv_bipush (v := 32) hx hb d6 (by decide) ?_
  refine lv_lshl hx hb d7 rfl ?_
  refine ld_j hx hb hX hbl hbA hS hL h0 h4 j2 hj2 f0 f1 f2 f3 f4 ?_
  refine lv_i2l hx hb f5 rfl ?_
  refine lv_ldc2 (v := 4294967295) hx hb hown hc9 f6 ?_
  refine lv_land hx hb f7 ?_
  refine lv_lor hx hb f8 ?_
  exact kk
/-- a cell of the script as a boolean -/
theorem ld_B (hx : p.tables.exec = Jvm.exec) (hb : c.code = code) (hX : va_X b L xs s H0) (hbl : b < H0.size) (hbA : ¬ A b) (hS : va_S A H0 H locs) (hL : L ≤ 3072) (h0 : ls[0]? = some (.val (.ref b))) (h4 : ls[4]? = some (.val (.int (zI (i : Nat))))) (j : Nat) (hj : i + j < L)
    (d0 : decode code pc = .ok (.aload_n 0, 1)) (d1 : decode code (pc + 1) = .ok (.iload 4, 2)) (d2 : decode code (pc + 3) = .ok (.iconst (j : Nat), 1)) (d3 : decode code (pc + 4) = .ok (.iadd, 1)) (d4 : decode code (pc + 5) = .ok (.iaload, 1))
    (d5 : decode code (pc + 6) = .ok (.ifCond .eq 7, 3)) (d6 : decode code (pc + 9) = .ok (.iconst 1, 1)) (d7 : decode code (pc + 10) = .ok (.goto 4, 3)) (d8 : decode code (pc + 13) = .ok (.iconst 0, 1))
    (kk : W p l e R s m args below meth c H locs cells slots Q (F0 m (pc + 14) ls (.int (zBo (xs (i + j))) :: rest))) : W p l e R s m args below meth c H locs cells slots Q (F0 m pc ls rest) := by
  refine ld_j hx hb hX hbl hbA hS hL h0 h4 j hj d0 d1 d2 d3 d4 ?_
  refine lv_if_eq (tgt := pc + 13) hx hb d5 (by omega) (fun h => ?_) (fun h => ?_)
  · refine lv_iconst (v := 0) hx hb d8 (by decide) ?_
    refine zt_i (show (0 : Int32) = zBo (xs (i + j)) by unfold zBo; rw [if_pos h]) ?_
    exact kk
  · refine lv_iconst (v := 1) hx hb d6 (by decide) ?_
    refine lv_goto (tgt := pc + 14) hx hb d7 (by omega) ?_
    refine zt_i (show (1 : Int32) = zBo (xs (i + j)) by unfold zBo; rw [if_neg h]) ?_
    exact kk
end LW
/-- what the law's turns stand on, from its start -/
def zC0 (p : Program) (s : State) (m : MethodId) (meth : Method) (c : Code) (b L : Nat) (xs : Nat → Int32) (D : va_G) (k : Nat → ClassId) : Prop :=
  p.tables.exec = Jvm.exec ∧ c.code = code ∧ meth.sig.returnType = ret ∧ c.maxLocals = 8 ∧ s.vm.findClass "CapUnitLaw" = some m.cls ∧ (∀ w ∈ wA, w.before #[Value.ref b] s = true) ∧ va_X b L xs s s.heap ∧ b < s.heap.size ∧ meth.locks = false ∧ va_K D zCl (zT k) s ∧ zX (fun q => s.heap.size ≤ q) s s.heap ∧ L ≤ 3072
/-- the state of the law's loop, at the instruction pc of the turn that begins at i -/
def zN (p : Program) (l : Launch) (e : Env) (s : State) (m : MethodId) (below : List Frame) (meth : Method) (c : Code) (b : Nat) (D : va_G) (k : Nat → ClassId) (q q' : Nat → Nat) (o i C S pc : Nat) : Prop :=
  ∀ (tg ad mt : Nat → Int32) (rb rt : Nat → Int64) (rp : Nat → Int32) (nr th pk ex : Int32) (ro : Int64) (out : Nat → Int64) (N : Nat) (H : Heap) (locs : List Loc) (ls : Array Slot),
    zInv tg ad mt → nr = zI (N : Nat) → N ≤ 8 → lv_has ls 8 [(0, .ref b), (1, .ref (q 0)), (2, .ref (q' 0)), (3, .ref o), (4, .int (zI (i : Nat)))] →
    va_P D zCl (zO k o out :: (cW q k tg ad mt rb rt rp nr ++ mW q' k tg ad mt rb rt rp nr th pk ex ro)) H → va_D (fun q => s.heap.size ≤ q) (zO k o out :: (cW q k tg ad mt rb rt rp nr ++ mW q' k tg ad mt rb rt rp nr th pk ex ro)) → va_S (fun q => s.heap.size ≤ q) s.heap H locs →
    W p l e room_1 s m #[Value.ref b] below meth c H locs C S (lw_Z below #[Value.ref b] s) (F0 m pc ls [])
