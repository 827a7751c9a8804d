/-! A register is written: become of the class, set of the reference; what a throw needs. -/
def zS (d x : Int32) (f : Nat → Int32) : Nat → Int32 := if d = 0 then f else upd f d.toNatClampNeg x
def zSr (d y : Int32) : Int32 := if d = 0 then 0 else y
theorem zSr_b {d y : Int32} (h : y = 0 ∨ y = 1) : zSr d y = 0 ∨ zSr d y = 1 := by
  unfold zSr
  split
  · exact Or.inl rfl
  · exact h
theorem zw_pre {s : State} {H : Heap} {D : va_G} {ws : va_W} {ty : List (ClassId × FieldType)} {b : Nat} {A : Nat → Prop} {As : List Value} {c : vw_C} {ci q0 : Nat} {fs : List Value} (hK : va_K D zCl ty s) (hP : va_P D zCl ws H) (hD : va_D A ws) (hc : zCl[ci]? = some c) (he : ws[q0]? = some (b, .inr (ci, fs))) : PreV s H c.1 b (va_Pc (.ref b :: As) (fun U => va_P D zCl ws U.heap ∧ va_K D zCl ty U ∧ va_D A ws)) As :=
  ⟨fun a U g mk h => ⟨h.1, h.2.1, va_K.moved (u := U) (U := U.calling g mk a) (Vm.Alike.refl U.vm) h.2.2.1, h.2.2.2⟩, va_recv hK hP hc he, fun U hU hW => ⟨rfl, by rw [hU]; exact hP, va_K.moved hW.alike hK, hD⟩⟩
section ZJ
variable {p : Program} {l : Launch} {e : Env} {R : Room} {s : State} {m : MethodId} {args : Array Value} {below : List Frame} {meth : Method} {c : Code} {H : Heap} {locs : List Loc} {cells slots : Nat} {Q : State → Prop}
variable {pc : Nat} {ls : Array Slot} {rest st0 : List Value} {A0 : Nat → Prop} {H0 : Heap}
/-- ways that meet with a number on the stack -/
theorem zj_i (T : Int32) (J : Nat) (rest : List Value) (cont : ∀ locs1 : List Loc, va_S A0 H0 H locs1 → W p l e R s m args below meth c H locs1 cells slots Q (F0 m J ls (.int T :: rest)))
    (region : (∀ (locs1 : List Loc) (x : Int32), x = T → va_S A0 H0 H locs1 → W p l e R s m args below meth c H locs1 cells slots Q (F0 m J ls (.int x :: rest))) → W p l e R s m args below meth c H locs cells slots Q (F0 m pc ls st0)) : W p l e R s m args below meth c H locs cells slots Q (F0 m pc ls st0) :=
  region (fun locs1 x hx hS => by rw [hx]; exact cont locs1 hS)
theorem zt_i {x y : Int32} (h : x = y) (k : W p l e R s m args below meth c H locs cells slots Q (F0 m pc ls (.int y :: rest))) : W p l e R s m args below meth c H locs cells slots Q (F0 m pc ls (.int x :: rest)) := by
  rw [h]
  exact k
theorem zt_l {x y : Int64} (h : x = y) (k : W p l e R s m args below meth c H locs cells slots Q (F0 m pc ls (.long y :: rest))) : W p l e R s m args below meth c H locs cells slots Q (F0 m pc ls (.long x :: rest)) := by
  rw [h]
  exact k
end ZJ
abbrev xIO : String := "java/lang/IndexOutOfBoundsException"
abbrev xIA : String := "java/lang/IllegalArgumentException"
abbrev xIS : String := "java/lang/IllegalStateException"
abbrev xD (n : String) : Cond := Cond.declares ⟨n, "<init>", "(Ljava/lang/String;)V"⟩
abbrev xB (X : String) : List Cond := [Cond.castable X X, xD "java/lang/RuntimeException", xD "java/lang/Exception", xD "java/lang/Throwable"]
abbrev xUp : List String := ["java/lang/RuntimeException", "java/lang/Exception"]
/-- what the throws of the class need of the start: the two statics of Throwable, the texts, which class is which -/
def zX (A : Nat → Prop) (U : State) (H : Heap) : Prop := (vx_Zq Bundle.tN "UNASSIGNED_STACK" Bundle.steD A U H ∧ vx_Zq Bundle.tN "SUPPRESSED_SENTINEL" Bundle.listD A U H) ∧ (va_Nw (.castable xIO xIO) U ∧ va_Nw (.castable xIA xIA) U ∧ va_Nw (.castable xIS xIS) U) ∧ (va_Nc xIA xIO U ∧ va_Nc xIS xIO U ∧ va_Nc xIS xIA U) ∧ (va_Nw (xD "java/lang/RuntimeException") U ∧ va_Nw (xD "java/lang/Exception") U ∧ va_Nw (xD "java/lang/Throwable") U) ∧
  (∃ a, vk_R "CapUnit" 37 "a root goes to register 1 to 31" a U) ∧ (∃ a, vk_R "CapUnit" 48 "bounds beyond 2^32, or no such perms" a U) ∧ (∃ a, vk_R "CapUnit" 53 "there are 8 roots" a U) ∧ (∃ a, vk_R "CapUnit" 79 "registers are 0 to 31" a U) ∧ (∃ a, vk_R "CapUnit" 129 "0 to 7 can be told" a U) ∧ (∃ a, vk_R "CapUnit" 131 "bytes are 0 to 4096" a U) ∧ (∃ a, vk_R "CapUnit" 133 "length below 0, or bounds beyond 2^32" a U) ∧ (∃ a, vk_R "CapUnit" 135 "length is 0 to 2^32" a U)
theorem zX.warm {A : Nat → Prop} {s U : State} {H : Heap} (hW : s.WarmedH U.vm) (h : zX A s H) : zX A U H := by
  obtain ⟨⟨a1, a2⟩, ⟨b1, b2, b3⟩, ⟨c1, c2, c3⟩, ⟨f1, f2, f3⟩, ⟨x1, d1⟩, ⟨x2, d2⟩, ⟨x3, d3⟩, ⟨x4, d4⟩, ⟨x5, d5⟩, ⟨x6, d6⟩, ⟨x7, d7⟩, ⟨x8, d8⟩⟩ := h
  exact ⟨⟨vx_Zq.moved hW.alike a1, vx_Zq.moved hW.alike a2⟩, ⟨va_Nw.warmC hW b1, va_Nw.warmC hW b2, va_Nw.warmC hW b3⟩, ⟨va_Nc.moved hW.alike c1, va_Nc.moved hW.alike c2, va_Nc.moved hW.alike c3⟩, ⟨va_Nw.warmD hW f1, va_Nw.warmD hW f2, va_Nw.warmD hW f3⟩, ⟨x1, vk_R.warm hW d1⟩, ⟨x2, vk_R.warm hW d2⟩, ⟨x3, vk_R.warm hW d3⟩, ⟨x4, vk_R.warm hW d4⟩, ⟨x5, vk_R.warm hW d5⟩, ⟨x6, vk_R.warm hW d6⟩, ⟨x7, vk_R.warm hW d7⟩, ⟨x8, vk_R.warm hW d8⟩⟩
theorem zX.calling {A : Nat → Prop} {U : State} {H : Heap} {g : JFrame} {mk : MethodId} {a : Array Value} (h : zX A U H) : zX A (U.calling g mk a) H := zX.warm (s := U) (U := U.calling g mk a) (State.WarmedH.refl U) h
theorem zX.kept {A : Nat → Prop} {U : State} {H H1 : Heap} (h : zX A U H) (hq : ∀ a : Nat, a < H.size → ¬ A a → H1[a]? = H[a]?) : zX A U H1 := ⟨⟨vx_Zq.kept h.1.1 hq, vx_Zq.kept h.1.2 hq⟩, h.2⟩
theorem zX.narrow {A B : Nat → Prop} {U : State} {H : Heap} (h : zX A U H) (hAB : ∀ q, B q → A q) : zX B U H := ⟨⟨vx_Zq.narrow h.1.1 hAB, vx_Zq.narrow h.1.2 hAB⟩, h.2⟩
theorem zx_pre {s : State} {H : Heap} {D : va_G} {ws : va_W} {ty : List (ClassId × FieldType)} {b : Nat} {A : Nat → Prop} {As : List Value} {c : vw_C} {ci q0 : Nat} {fs : List Value} (hK : va_K D zCl ty s) (hP : va_P D zCl ws H) (hD : va_D A ws) (hX : zX A s H) (hc : zCl[ci]? = some c) (he : ws[q0]? = some (b, .inr (ci, fs))) : PreV s H c.1 b (va_Pc (.ref b :: As) (fun U => va_P D zCl ws U.heap ∧ va_K D zCl ty U ∧ va_D A ws ∧ zX A U U.heap)) As :=
  ⟨fun a U g mk h => ⟨h.1, h.2.1, va_K.moved (u := U) (U := U.calling g mk a) (Vm.Alike.refl U.vm) h.2.2.1, h.2.2.2.1, zX.calling h.2.2.2.2⟩, va_recv hK hP hc he, fun U hU hW => ⟨rfl, by rw [hU]; exact hP, va_K.moved hW.alike hK, hD, by rw [hU]; exact zX.warm hW hX⟩⟩
theorem x_good39 : ∀ w ∈ (vx_atS "CapUnit" 39 xIO xUp).filter goodWord, w ∈ wA := fun w h => List.mem_filter.mpr ⟨(show ∀ w ∈ (vx_atS "CapUnit" 39 xIO xUp).filter goodWord, w ∈ lw_tbl by decide +kernel) w h, (List.mem_filter.mp h).2⟩
theorem x_good50 : ∀ w ∈ (vx_atS "CapUnit" 50 xIA xUp).filter goodWord, w ∈ wA := fun w h => List.mem_filter.mpr ⟨(show ∀ w ∈ (vx_atS "CapUnit" 50 xIA xUp).filter goodWord, w ∈ lw_tbl by decide +kernel) w h, (List.mem_filter.mp h).2⟩
theorem x_good55 : ∀ w ∈ (vx_atS "CapUnit" 55 xIS xUp).filter goodWord, w ∈ wA := fun w h => List.mem_filter.mpr ⟨(show ∀ w ∈ (vx_atS "CapUnit" 55 xIS xUp).filter goodWord, w ∈ lw_tbl by decide +kernel) w h, (List.mem_filter.mp h).2⟩
theorem x_bad39 : ∀ w ∈ (vx_atS "CapUnit" 39 xIO xUp).filter (fun w => !goodWord w), w ∈ xB xIO := by decide +kernel
theorem x_bad50 : ∀ w ∈ (vx_atS "CapUnit" 50 xIA xUp).filter (fun w => !goodWord w), w ∈ xB xIA := by decide +kernel
theorem x_bad55 : ∀ w ∈ (vx_atS "CapUnit" 55 xIS xUp).filter (fun w => !goodWord w), w ∈ xB xIS := by decide +kernel
theorem x_ot39 : ∀ w ∈ Cond.classLink "CapUnit" 35 xIO :: Cond.initialized xIO :: vx_atS "CapUnit" 39 xIO xUp, vx_ot w = true := by decide +kernel
theorem x_ot50 : ∀ w ∈ Cond.classLink "CapUnit" 46 xIA :: Cond.initialized xIA :: vx_atS "CapUnit" 50 xIA xUp, vx_ot w = true := by decide +kernel
theorem x_ot55 : ∀ w ∈ Cond.classLink "CapUnit" 51 xIS :: Cond.initialized xIS :: vx_atS "CapUnit" 55 xIS xUp, vx_ot w = true := by decide +kernel
theorem x_all {args : Array Value} {s : State} {ic : Nat} {X : String} (hq : ∀ w ∈ wA, w.before args s = true) (hg : ∀ w ∈ (vx_atS "CapUnit" ic X xUp).filter goodWord, w ∈ wA) (hb : ∀ w ∈ (vx_atS "CapUnit" ic X xUp).filter (fun w => !goodWord w), w ∈ xB X) (h1 : va_Nw (.castable X X) s) (h2 : va_Nw (xD "java/lang/RuntimeException") s) (h3 : va_Nw (xD "java/lang/Exception") s) (h4 : va_Nw (xD "java/lang/Throwable") s) : ∀ w ∈ vx_atS "CapUnit" ic X xUp, w.before args s = true :=
  vx_hat (fun w h => hq w (hg w h)) hb (vx_c (va_Nw.use rfl h1) (vx_c (va_Nw.use rfl h2) (vx_c (va_Nw.use rfl h3) (vx_c (va_Nw.use rfl h4) vx_n))))

set_option maxHeartbeats 4000000 in
set_option maxRecDepth 100000 in
theorem kC_become (l : Launch) {D : va_G} {q : Nat → Nat} {k : Nat → ClassId} {tg : Nat → Int32} {ad : Nat → Int32} {mt : Nat → Int32} {rb : Nat → Int64} {rt : Nat → Int64} {rp : Nat → Int32} {nr : Int32} {A : Nat → Prop} (d y a z : Int32) (id : vp_in d 32) (iy : y = 0 ∨ y = 1) : Met l yC_become wC_become { frames := 0, cells := 0, slots := 0, locals := 0 } (va_Pc [.ref (q 0), .int d, .int y, .int a, .int z] (fun U => va_P D zCl (cW q k tg ad mt rb rt rp nr) U.heap ∧ va_K D zCl (zT k) U ∧ va_D A (cW q k tg ad mt rb rt rp nr))) (va_Qi (fun v9 (_ : Unit) => v9 = zSr d y) (fun _ t => va_P D zCl (cW q k (zS d y tg) (zS d a ad) (zS d z mt) rb rt rp nr) t.heap ∧ va_K D zCl (zT k) t ∧ va_D A (cW q k (zS d y tg) (zS d a ad) (zS d z mt) rb rt rp nr)) A) 0 0 A := by
  refine Met.ofW (cc := cC_become) (maxL := 5) (ret := (some .boolean)) (by decide) rfl ?_
  intro p e s m args below meth c s₁ B hml hv
  obtain ⟨rfl, hP, hK, hD⟩ := hv
  have hx := B.exec
  have hb := B.bytes
  have hr := B.returns
  have hts := atoms_spec (ws := wC_become) B.pre
  have hq : ∀ w ∈ wA, w.before _ s = true := fun w h => hts w (List.mem_cons_of_mem _ h)
  have hown : s.vm.findClass "CapUnit" = some m.cls := findClass_of_methodNamed B.named
  have hlocks := B.notSynchronized
  have hS : va_S A s.heap s.heap [] := va_S.rf
  have hl := lv_entry ([.ref (q 0), .int d, .int y, .int a, .int z]) (n := 5) (Nat.le_of_ble_eq_true rfl)
  rw [lg_entry_eq]
  generalize (lg_sl ([.ref (q 0), .int d, .int y, .int a, .int z]) ++ List.replicate (5 - (lg_sl ([.ref (q 0), .int d, .int y, .int a, .int z])).length) Slot.unset).toArray = ls at hl ⊢
  have hl : lv_has ls 5 [(0, .ref (q 0)), (1, .int d), (2, .int y), (3, .int a), (4, .int z)] := hl
  refine lv_iload_n hx hb dC_become_0 rfl (lv_at hl 1 rfl) ?_
  refine lv_if_ne (tgt := 6) hx hb dC_become_1 rfl (fun h1 => ?_) (fun h1 => ?_)
  rotate_left
  · refine lv_iconst (v := 0) hx hb dC_become_4 (by decide) ?_
    have e1 : ∀ (x : Int32) (f : Nat → Int32), zS d x f = f := fun x f => by unfold zS; rw [if_pos h1]
    have e2 : zSr d y = 0 := by unfold zSr; rw [if_pos h1]
    rw [e1, e1, e1, e2]
    exact W.zret (v := (0 : Int32)) hx hb hr (by decide) (fun t9 ht hW => ⟨⟨_, (), rfl, rfl, by rw [ht]; exact hP, va_K.moved hW.alike hK, hD⟩, hS.F ht⟩) hS.2.2 dC_become_5
  have e1 : ∀ (x : Int32) (f : Nat → Int32), zS d x f = upd f d.toNatClampNeg x := fun x f => by unfold zS; rw [if_neg h1]
  have e2 : zSr d y = y := by unfold zSr; rw [if_neg h1]
  have e3 : vp_nar .boolean y = y := by rcases iy with rfl | rfl <;> rfl
  rw [e1, e1, e1, e2]
  refine lv_aload_n hx hb dC_become_6 rfl (lv_at hl 0 rfl) ?_
  refine va_get (D := D) (ci := 0) (v := .ref (q 1)) (C := "CapUnit") (T := TC) (N := 7) hx hb hq uC_in hown hK hP 0 rfl rfl 0 (by decide) (hq _ q_19) (fun _ h9 => h9) rfl dC_become_7 ?_
  refine lv_iload_n hx hb dC_become_10 rfl (lv_at hl 1 rfl) ?_
  refine lv_iload_n hx hb dC_become_11 rfl (lv_at hl 2 rfl) ?_
  refine va_zast hx hb hK hP hD hS 1 0 rfl rfl id dC_become_12 (fun H locs hP hD hS => ?_)
  rw [e3] at hP hD
  have hP : va_P D zCl (cW q k (upd tg d.toNatClampNeg y) ad mt rb rt rp nr) H := hP
  have hD : va_D A (cW q k (upd tg d.toNatClampNeg y) ad mt rb rt rp nr) := hD
  refine lv_aload_n hx hb dC_become_13 rfl (lv_at hl 0 rfl) ?_
  refine va_get (D := D) (ci := 0) (v := .ref (q 2)) (C := "CapUnit") (T := TC) (N := 7) hx hb hq uC_in hown hK hP 0 rfl rfl 1 (by decide) (hq _ q_20) (fun _ h9 => h9) rfl dC_become_14 ?_
  refine lv_iload_n hx hb dC_become_17 rfl (lv_at hl 1 rfl) ?_
  refine lv_iload_n hx hb dC_become_18 rfl (lv_at hl 3 rfl) ?_
  refine va_iast hx hb hK hP hD hS 2 1 rfl rfl id dC_become_19 (fun H locs hP hD hS => ?_)
  have hP : va_P D zCl (cW q k (upd tg d.toNatClampNeg y) (upd ad d.toNatClampNeg a) mt rb rt rp nr) H := hP
  have hD : va_D A (cW q k (upd tg d.toNatClampNeg y) (upd ad d.toNatClampNeg a) mt rb rt rp nr) := hD
  refine lv_aload_n hx hb dC_become_20 rfl (lv_at hl 0 rfl) ?_
  refine va_get (D := D) (ci := 0) (v := .ref (q 3)) (C := "CapUnit") (T := TC) (N := 7) hx hb hq uC_in hown hK hP 0 rfl rfl 2 (by decide) (hq _ q_21) (fun _ h9 => h9) rfl dC_become_21 ?_
  refine lv_iload_n hx hb dC_become_24 rfl (lv_at hl 1 rfl) ?_
  refine lv_iload hx hb dC_become_25 (lv_at hl 4 rfl) ?_
  refine va_iast hx hb hK hP hD hS 3 1 rfl rfl id dC_become_27 (fun H locs hP hD hS => ?_)
  have hP : va_P D zCl (cW q k (upd tg d.toNatClampNeg y) (upd ad d.toNatClampNeg a) (upd mt d.toNatClampNeg z) rb rt rp nr) H := hP
  have hD : va_D A (cW q k (upd tg d.toNatClampNeg y) (upd ad d.toNatClampNeg a) (upd mt d.toNatClampNeg z) rb rt rp nr) := hD
  refine lv_iload_n hx hb dC_become_28 rfl (lv_at hl 2 rfl) ?_
  exact W.zret (v := y) hx hb hr (zz_nar iy) (fun t9 ht hW => ⟨⟨_, (), rfl, rfl, by rw [ht]; exact hP, va_K.moved hW.alike hK, hD⟩, hS.F ht⟩) hS.2.2 dC_become_29
set_option maxHeartbeats 4000000 in
set_option maxRecDepth 100000 in
theorem kM_set (l : Launch) {D : va_G} {q : Nat → Nat} {k : Nat → ClassId} {tg : Nat → Int32} {ad : Nat → Int32} {mt : Nat → Int32} {rb : Nat → Int64} {rt : Nat → Int64} {rp : Nat → Int32} {nr : Int32} {th : Int32} {pk : Int32} {ex : Int32} {ro : Int64} {A : Nat → Prop} (d y a z : Int32) (id : vp_in d 32) (iy : y = 0 ∨ y = 1) : Met l yM_set wM_set { frames := 0, cells := 0, slots := 0, locals := 0 } (va_Pc [.ref (q 0), .int d, .int y, .int a, .int z] (fun U => va_P D zCl (mW q k tg ad mt rb rt rp nr th pk ex ro) U.heap ∧ va_K D zCl (zT k) U ∧ va_D A (mW q k tg ad mt rb rt rp nr th pk ex ro))) (va_Qi (fun v9 (_ : Unit) => v9 = zSr d y) (fun _ t => va_P D zCl (mW q k (zS d y tg) (zS d a ad) (zS d z mt) rb rt rp nr th pk ex ro) t.heap ∧ va_K D zCl (zT k) t ∧ va_D A (mW q k (zS d y tg) (zS d a ad) (zS d z mt) rb rt rp nr th pk ex ro)) A) 0 0 A := by
  refine Met.ofW (cc := cM_set) (maxL := 5) (ret := (some .boolean)) (by decide) rfl ?_
  intro p e s m args below meth c s₁ B hml hv
  obtain ⟨rfl, hP, hK, hD⟩ := hv
  have hx := B.exec
  have hb := B.bytes
  have hr := B.returns
  have hts := atoms_spec (ws := wM_set) B.pre
  have hq : ∀ w ∈ wA, w.before _ s = true := fun w h => hts w (List.mem_cons_of_mem _ h)
  have hown : s.vm.findClass "CapUnitModel" = some m.cls := findClass_of_methodNamed B.named
  have hlocks := B.notSynchronized
  have hS : va_S A s.heap s.heap [] := va_S.rf
  have hl := lv_entry ([.ref (q 0), .int d, .int y, .int a, .int z]) (n := 5) (Nat.le_of_ble_eq_true rfl)
  rw [lg_entry_eq]
  generalize (lg_sl ([.ref (q 0), .int d, .int y, .int a, .int z]) ++ List.replicate (5 - (lg_sl ([.ref (q 0), .int d, .int y, .int a, .int z])).length) Slot.unset).toArray = ls at hl ⊢
  have hl : lv_has ls 5 [(0, .ref (q 0)), (1, .int d), (2, .int y), (3, .int a), (4, .int z)] := hl
  refine lv_iload_n hx hb dM_set_0 rfl (lv_at hl 1 rfl) ?_
  refine lv_if_ne (tgt := 6) hx hb dM_set_1 rfl (fun h1 => ?_) (fun h1 => ?_)
  rotate_left
  · refine lv_iconst (v := 0) hx hb dM_set_4 (by decide) ?_
    have e1 : ∀ (x : Int32) (f : Nat → Int32), zS d x f = f := fun x f => by unfold zS; rw [if_pos h1]
    have e2 : zSr d y = 0 := by unfold zSr; rw [if_pos h1]
    rw [e1, e1, e1, e2]
    exact W.zret (v := (0 : Int32)) hx hb hr (by decide) (fun t9 ht hW => ⟨⟨_, (), rfl, rfl, by rw [ht]; exact hP, va_K.moved hW.alike hK, hD⟩, hS.F ht⟩) hS.2.2 dM_set_5
  have e1 : ∀ (x : Int32) (f : Nat → Int32), zS d x f = upd f d.toNatClampNeg x := fun x f => by unfold zS; rw [if_neg h1]
  have e2 : zSr d y = y := by unfold zSr; rw [if_neg h1]
  have e3 : vp_nar .boolean y = y := by rcases iy with rfl | rfl <;> rfl
  rw [e1, e1, e1, e2]
  refine lv_aload_n hx hb dM_set_6 rfl (lv_at hl 0 rfl) ?_
  refine va_get (D := D) (ci := 1) (v := .ref (q 1)) (C := "CapUnitModel") (T := TM) (N := 11) hx hb hq uM_in hown hK hP 0 rfl rfl 0 (by decide) (hq _ q_370) (fun _ h9 => h9) rfl dM_set_7 ?_
  refine lv_iload_n hx hb dM_set_10 rfl (lv_at hl 1 rfl) ?_
  refine lv_iload_n hx hb dM_set_11 rfl (lv_at hl 2 rfl) ?_
  refine va_zast hx hb hK hP hD hS 1 0 rfl rfl id dM_set_12 (fun H locs hP hD hS => ?_)
  rw [e3] at hP hD
  have hP : va_P D zCl (mW q k (upd tg d.toNatClampNeg y) ad mt rb rt rp nr th pk ex ro) H := hP
  have hD : va_D A (mW q k (upd tg d.toNatClampNeg y) ad mt rb rt rp nr th pk ex ro) := hD
  refine lv_aload_n hx hb dM_set_13 rfl (lv_at hl 0 rfl) ?_
  refine va_get (D := D) (ci := 1) (v := .ref (q 2)) (C := "CapUnitModel") (T := TM) (N := 11) hx hb hq uM_in hown hK hP 0 rfl rfl 1 (by decide) (hq _ q_371) (fun _ h9 => h9) rfl dM_set_14 ?_
  refine lv_iload_n hx hb dM_set_17 rfl (lv_at hl 1 rfl) ?_
  refine lv_iload_n hx hb dM_set_18 rfl (lv_at hl 3 rfl) ?_
  refine va_iast hx hb hK hP hD hS 2 1 rfl rfl id dM_set_19 (fun H locs hP hD hS => ?_)
  have hP : va_P D zCl (mW q k (upd tg d.toNatClampNeg y) (upd ad d.toNatClampNeg a) mt rb rt rp nr th pk ex ro) H := hP
  have hD : va_D A (mW q k (upd tg d.toNatClampNeg y) (upd ad d.toNatClampNeg a) mt rb rt rp nr th pk ex ro) := hD
  refine lv_aload_n hx hb dM_set_20 rfl (lv_at hl 0 rfl) ?_
  refine va_get (D := D) (ci := 1) (v := .ref (q 3)) (C := "CapUnitModel") (T := TM) (N := 11) hx hb hq uM_in hown hK hP 0 rfl rfl 2 (by decide) (hq _ q_372) (fun _ h9 => h9) rfl dM_set_21 ?_
  refine lv_iload_n hx hb dM_set_24 rfl (lv_at hl 1 rfl) ?_
  refine lv_iload hx hb dM_set_25 (lv_at hl 4 rfl) ?_
  refine va_iast hx hb hK hP hD hS 3 1 rfl rfl id dM_set_27 (fun H locs hP hD hS => ?_)
  have hP : va_P D zCl (mW q k (upd tg d.toNatClampNeg y) (upd ad d.toNatClampNeg a) (upd mt d.toNatClampNeg z) rb rt rp nr th pk ex ro) H := hP
  have hD : va_D A (mW q k (upd tg d.toNatClampNeg y) (upd ad d.toNatClampNeg a) (upd mt d.toNatClampNeg z) rb rt rp nr th pk ex ro) := hD
  refine lv_iload_n hx hb dM_set_28 rfl (lv_at hl 2 rfl) ?_
  exact W.zret (v := y) hx hb hr (zz_nar iy) (fun t9 ht hW => ⟨⟨_, (), rfl, rfl, by rw [ht]; exact hP, va_K.moved hW.alike hK, hD⟩, hS.F ht⟩) hS.2.2 dM_set_29
