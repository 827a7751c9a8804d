/-! The law's start. -/
theorem tw_111 : (Cond.castable "java/lang/IndexOutOfBoundsException" "java/lang/IndexOutOfBoundsException") ∈ lw_tbl := List.mem_append_right _ (show _ ∈ tables_1 from List.mem_append_left _ (List.mem_of_getElem? (i := 111) rfl))
theorem tw_182 : (Cond.castable "java/lang/IllegalArgumentException" "java/lang/IllegalArgumentException") ∈ lw_tbl := List.mem_append_right _ (show _ ∈ tables_1 from List.mem_append_left _ (List.mem_of_getElem? (i := 182) rfl))
theorem tw_198 : (Cond.castable "java/lang/IllegalStateException" "java/lang/IllegalStateException") ∈ lw_tbl := List.mem_append_right _ (show _ ∈ tables_1 from List.mem_append_left _ (List.mem_of_getElem? (i := 198) rfl))
theorem tw_113 : (Cond.declares ⟨"java/lang/RuntimeException", "<init>", "(Ljava/lang/String;)V"⟩) ∈ lw_tbl := List.mem_append_right _ (show _ ∈ tables_1 from List.mem_append_left _ (List.mem_of_getElem? (i := 113) rfl))
theorem tw_115 : (Cond.declares ⟨"java/lang/Exception", "<init>", "(Ljava/lang/String;)V"⟩) ∈ lw_tbl := List.mem_append_right _ (show _ ∈ tables_1 from List.mem_append_left _ (List.mem_of_getElem? (i := 115) rfl))
theorem tw_117 : (Cond.declares ⟨"java/lang/Throwable", "<init>", "(Ljava/lang/String;)V"⟩) ∈ lw_tbl := List.mem_append_right _ (show _ ∈ tables_1 from List.mem_append_left _ (List.mem_of_getElem? (i := 117) rfl))
theorem tw_136 : (Cond.laysStatic "java/lang/Throwable" "UNASSIGNED_STACK" "[Ljava/lang/StackTraceElement;") ∈ lw_tbl := List.mem_append_right _ (show _ ∈ tables_1 from List.mem_append_left _ (List.mem_of_getElem? (i := 136) rfl))
theorem tw_138 : (Cond.laysStatic "java/lang/Throwable" "SUPPRESSED_SENTINEL" "Ljava/util/List;") ∈ lw_tbl := List.mem_append_right _ (show _ ∈ tables_1 from List.mem_append_left _ (List.mem_of_getElem? (i := 138) rfl))
theorem tw_150 : (Cond.stringRef "CapUnit" 37 "a root goes to register 1 to 31") ∈ lw_tbl := List.mem_append_right _ (show _ ∈ tables_1 from List.mem_append_left _ (List.mem_of_getElem? (i := 150) rfl))
theorem tw_189 : (Cond.stringRef "CapUnit" 48 "bounds beyond 2^32, or no such perms") ∈ lw_tbl := List.mem_append_right _ (show _ ∈ tables_1 from List.mem_append_left _ (List.mem_of_getElem? (i := 189) rfl))
theorem tw_205 : (Cond.stringRef "CapUnit" 53 "there are 8 roots") ∈ lw_tbl := List.mem_append_right _ (show _ ∈ tables_1 from List.mem_append_left _ (List.mem_of_getElem? (i := 205) rfl))
theorem tw_246 : (Cond.stringRef "CapUnit" 79 "registers are 0 to 31") ∈ lw_tbl := List.mem_append_right _ (show _ ∈ tables_1 from List.mem_append_right _ (List.mem_append_left _ (List.mem_of_getElem? (i := 6) rfl)))
theorem tw_338 : (Cond.stringRef "CapUnit" 129 "0 to 7 can be told") ∈ lw_tbl := List.mem_append_right _ (show _ ∈ tables_1 from List.mem_append_right _ (List.mem_append_left _ (List.mem_of_getElem? (i := 98) rfl)))
theorem tw_346 : (Cond.stringRef "CapUnit" 131 "bytes are 0 to 4096") ∈ lw_tbl := List.mem_append_right _ (show _ ∈ tables_1 from List.mem_append_right _ (List.mem_append_left _ (List.mem_of_getElem? (i := 106) rfl)))
theorem tw_354 : (Cond.stringRef "CapUnit" 133 "length below 0, or bounds beyond 2^32") ∈ lw_tbl := List.mem_append_right _ (show _ ∈ tables_1 from List.mem_append_right _ (List.mem_append_left _ (List.mem_of_getElem? (i := 114) rfl)))
theorem tw_362 : (Cond.stringRef "CapUnit" 135 "length is 0 to 2^32") ∈ lw_tbl := List.mem_append_right _ (show _ ∈ tables_1 from List.mem_append_right _ (List.mem_append_left _ (List.mem_of_getElem? (i := 122) rfl)))
theorem zk_arr {s : State} {args : Array Value} {ty : FieldType} (h : (Cond.arrayClass ty).before args s = true) : ∃ cA : ClassId, ArrOfT s cA ty ∧ s.vm.findClass ("[" ++ ty.toString) = some cA := by
  obtain ⟨cA, kA, comp, h1, h2, h3⟩ := Cond.arrayClass_spec h
  exact ⟨cA, fun n z => ⟨fun k h => (by cases h), kA, h2, comp, h3⟩, h1⟩
theorem zk_start {s : State} {args : Array Value} (hq : ∀ w ∈ wA, w.before args s = true) : ∃ (D : va_G) (k : Nat → ClassId), va_K D zCl (zT k) s := by
  obtain ⟨c1, i1, h1⟩ := u_known (C := "CapUnit") (T := TC) (N := 7) (n := 7) hq uC_in (hq _ q_11)
  obtain ⟨c2, i2, h2⟩ := u_known (C := "CapUnitModel") (T := TM) (N := 11) (n := 11) hq uM_in (hq _ q_364)
  obtain ⟨a0, x0, y0⟩ := zk_arr (hq _ q_41)
  obtain ⟨a1, x1, y1⟩ := zk_arr (hq _ q_42)
  obtain ⟨a2, x2, y2⟩ := zk_arr (hq _ q_43)
  refine ⟨(fun c => if c = 0 then c1 else c2, fun c => if c = 0 then i1 else i2), fun j => if j = 0 then a0 else if j = 1 then a1 else a2, ?_, ?_⟩
  · intro c q hc
    match c, hc with
    | 0, hc =>
      cases hc
      exact h1
    | 1, hc =>
      cases hc
      exact h2
    | n + 2, hc => cases hc
  · intro j q hj
    match j, hj with
    | 0, hj =>
      cases hj
      exact ⟨x0, y0⟩
    | 1, hj =>
      cases hj
      exact ⟨x1, y1⟩
    | 2, hj =>
      cases hj
      exact ⟨x2, y2⟩
    | n + 3, hj => cases hj
theorem zx_str {s : State} {args : Array Value} {own tx : String} {k cur : Nat} (hcur : s.vm.findClass own = some cur) (h : (Cond.stringRef own k tx).before args s = true) : ∃ a, vk_R own k tx a s := by
  obtain ⟨k1, cf, i, a, -, -, -, -, -, hev⟩ := Cond.stringRef_spec hcur h
  exact ⟨a, vk_R.of h hev⟩
set_option maxRecDepth 100000 in
theorem zx_start {s : State} {b : Nat} (hts : ∀ w ∈ lw_tbl, w.before #[Value.ref b] s = true) (hq : ∀ w ∈ wA, w.before #[Value.ref b] s = true) (hgv : (Jvm.Cond.and given_1 narrow_1).before #[Value.ref b] s = true) : zX (fun q => s.heap.size ≤ q) s s.heap := by
  have hs := flat_of_before _ hgv
  obtain ⟨cC, kC, hfc, -⟩ := Cond.instantiable_spec (hq _ q_11)
  have hA : ∀ a : Nat, a < s.heap.size → ¬ (fun q => s.heap.size ≤ q) a := fun a h => Nat.not_le.mpr h
  refine ⟨⟨vx_Zqof (hts _ tw_136) (hq _ q_3) (hs _ (by decide +kernel)) hA, vx_Zqof (hts _ tw_138) (hq _ q_3) (hs _ (by decide +kernel)) hA⟩, ⟨va_Nw.of rfl (hts _ tw_111), va_Nw.of rfl (hts _ tw_182), va_Nw.of rfl (hts _ tw_198)⟩, ⟨va_Nc.of (hs _ (by decide +kernel)), va_Nc.of (hs _ (by decide +kernel)), va_Nc.of (hs _ (by decide +kernel))⟩, ⟨va_Nw.of rfl (hts _ tw_113), va_Nw.of rfl (hts _ tw_115), va_Nw.of rfl (hts _ tw_117)⟩, zx_str hfc (hts _ tw_150), zx_str hfc (hts _ tw_189), zx_str hfc (hts _ tw_205), zx_str hfc (hts _ tw_246), zx_str hfc (hts _ tw_338), zx_str hfc (hts _ tw_346), zx_str hfc (hts _ tw_354), zx_str hfc (hts _ tw_362)⟩
set_option maxHeartbeats 4000000 in
set_option maxRecDepth 100000 in
theorem whole_start {p : Program} {e : Env} {s : State} {m : MethodId} {below : List Frame} {meth : Method} {c : Code} (l : Launch) (hl0 : l.stackTraces = false) {b L : Nat} {xs : Nat → Int32} (hL : L ≤ 3072) (C0 : lw_At p s m meth c b L xs) : W p l e room_1 s m #[Value.ref b] below meth c s.heap [] 0 0 (lw_Z below #[Value.ref b] s) (entryFrame m ([Value.ref b] : List Value).toArray 8) := by
  obtain ⟨hx, hb, hr, hml, hown, hts, hXs, hbl, hlocks, hgv⟩ := C0
  have hq : ∀ w ∈ wA, w.before #[Value.ref b] s = true := fun w h => hts w (List.mem_filter.mp h).1
  obtain ⟨D, k, hK⟩ := zk_start hq
  have hZ := zx_start hts hq hgv
  have G : zC0 p s m meth c b L xs D k := ⟨hx, hb, hr, hml, hown, hq, hXs, hbl, hlocks, hK, hZ, hL⟩
  have hown : s.vm.findClass "CapUnitLaw" = some m.cls := hown
  have hA : ∀ q, s.heap.size ≤ q → (fun q => s.heap.size ≤ q) q := fun _ h => h
  have hS : va_S (fun q => s.heap.size ≤ q) s.heap s.heap [] := va_S.rf
  have hP : va_P D zCl [] s.heap := fun k q h => (by cases h)
  have hD : va_D (fun q => s.heap.size ≤ q) [] := ⟨fun i j p q h => (by cases h), fun k q h => (by cases h)⟩
  have hl := lv_entry ([.ref b]) (n := 8) (Nat.le_of_ble_eq_true rfl)
  rw [lg_entry_eq]
  generalize (lg_sl ([.ref b]) ++ List.replicate (8 - (lg_sl ([.ref b])).length) Slot.unset).toArray = ls at hl ⊢
  have hl : lv_has ls 8 [(0, .ref b)] := hl
  refine va_new (D := D) (own := "CapUnitLaw") (ci := 0) (fs := [.null, .null, .null, .null, .null, .null, .int 0]) (C := "CapUnit") (T := TC) (N := 7) hx hb hq uC_in tyC tyC_ok hown (hq _ q_10) (hq _ q_11) (hq _ q_1) hK hP hD hS hA rfl (fun j hj => by rcases (show j = 0 ∨ j = 1 ∨ j = 2 ∨ j = 3 ∨ j = 4 ∨ j = 5 ∨ j = 6 by omega) with rfl | rfl | rfl | rfl | rfl | rfl | rfl <;> rfl) (Nat.le_of_ble_eq_true rfl) (Nat.le_of_ble_eq_true rfl) dW_0 (fun q0 H hP hD hS => ?_)
  have hP : va_P D zCl [(q0, .inr (0, [.null, .null, .null, .null, .null, .null, .int 0]))] H := hP
  have hD : va_D (fun q => s.heap.size ≤ q) [(q0, .inr (0, [.null, .null, .null, .null, .null, .null, .int 0]))] := hD
  refine lv_dup hx hb dW_3 rfl ?_
  have hDc := (hD.sub (ws' := [(q0, .inr (0, [.null, .null, .null, .null, .null, .null, .int 0]))]) [0] (by decide) rfl).self (sz := H.size)
  have hFc := va_free (wc := [(q0, .inr (0, [.null, .null, .null, .null, .null, .null, .int 0]))]) hD hS hA [0] rfl
  refine va_callv (va_runI (As := []) (rest := [.ref q0]) ⟨hx, hb, hml, hown, hq⟩ (kC_init l q0 H.size (fun _ h => Or.inr h)) (cwI 0 hq (wA_W q_14) rfl rfl rfl (hq _ q_1) (hq _ q_12) (hq _ q_13) rfl (by decide +kernel) ⟨Nat.le_of_ble_eq_true rfl, Nat.le_of_ble_eq_true rfl⟩) (zl_pre0 hK hP hDc) rfl rfl hl.1 rfl (lv_room (Nat.le_of_ble_eq_true rfl)) dW_4 ⟨Nat.le_of_ble_eq_true rfl, Nat.le_of_ble_eq_true rfl⟩) hS (fun q _ h => hFc q h) hFc (fun q t9 H locs ht9 hvm9 hq0 hB9 hz9 hk9 hS => ?_)
  obtain ⟨hP1, -, hD1⟩ := hB9
  rw [ht9] at hP1
  obtain ⟨hP2, hD2⟩ := va_join (wr := []) (w1 := cW q k (fun _ => 0) (fun _ => 0) (zM 32) (fun _ => 0) (fun _ => 0) (fun _ => 0) 0) hP hD [0] [] rfl rfl (by decide) (by decide) hk9 hFc hP1 hD1
  clear hz9 hk9 hP1 hD1 hFc hDc
  subst hq0
  have hP : va_P D zCl (cW q k (fun _ => 0) (fun _ => 0) (zM 32) (fun _ => 0) (fun _ => 0) (fun _ => 0) 0) H := hP2
  have hD : va_D (fun q => s.heap.size ≤ q) (cW q k (fun _ => 0) (fun _ => 0) (zM 32) (fun _ => 0) (fun _ => 0) (fun _ => 0) 0) := hD2
  refine lv_astore_n (lv' := [(1, .ref (q 0)), (0, .ref b)]) hx hb dW_7 rfl hl (by decide) rfl (fun ls hl => ?_)
  refine va_new (D := D) (own := "CapUnitLaw") (ci := 1) (fs := [.null, .null, .null, .null, .null, .null, .int 0, .int 0, .int 0, .int 0, .long 0]) (C := "CapUnitModel") (T := TM) (N := 11) hx hb hq uM_in tyM tyM_ok hown (hq _ q_363) (hq _ q_364) (hq _ q_2) hK hP hD hS hA rfl (fun j hj => by rcases (show j = 0 ∨ j = 1 ∨ j = 2 ∨ j = 3 ∨ j = 4 ∨ j = 5 ∨ j = 6 ∨ j = 7 ∨ j = 8 ∨ j = 9 ∨ j = 10 by omega) with rfl | rfl | rfl | rfl | rfl | rfl | rfl | rfl | rfl | rfl | rfl <;> rfl) (Nat.le_of_ble_eq_true rfl) (Nat.le_of_ble_eq_true rfl) dW_8 (fun q1 H hP hD hS => ?_)
  refine lv_dup hx hb dW_11 rfl ?_
  have hPc := hP.sub (ws' := [(q1, .inr (1, [.null, .null, .null, .null, .null, .null, .int 0, .int 0, .int 0, .int 0, .long 0]))]) [7] rfl
  have hDc := (hD.sub (ws' := [(q1, .inr (1, [.null, .null, .null, .null, .null, .null, .int 0, .int 0, .int 0, .int 0, .long 0]))]) [7] (by decide) rfl).self (sz := H.size)
  have hFc := va_free (wc := [(q1, .inr (1, [.null, .null, .null, .null, .null, .null, .int 0, .int 0, .int 0, .int 0, .long 0]))]) hD hS hA [7] rfl
  refine va_callv (va_runI (As := []) (rest := [.ref q1]) ⟨hx, hb, hml, hown, hq⟩ (kM_init l q1 H.size (fun _ h => Or.inr h)) (cwI 0 hq (wA_W q_367) rfl rfl rfl (hq _ q_2) (hq _ q_365) (hq _ q_366) rfl (by decide +kernel) ⟨Nat.le_of_ble_eq_true rfl, Nat.le_of_ble_eq_true rfl⟩) (zl_pre0 hK hPc hDc) rfl rfl hl.1 rfl (lv_room (Nat.le_of_ble_eq_true rfl)) dW_12 ⟨Nat.le_of_ble_eq_true rfl, Nat.le_of_ble_eq_true rfl⟩) hS (fun q _ h => hFc q h) hFc (fun q' t9 H locs ht9 hvm9 hq1 hB9 hz9 hk9 hS => ?_)
  obtain ⟨hP1, -, hD1⟩ := hB9
  rw [ht9] at hP1
  obtain ⟨hP3, hD3⟩ := va_join (wr := cW q k (fun _ => 0) (fun _ => 0) (zM 32) (fun _ => 0) (fun _ => 0) (fun _ => 0) 0) (w1 := mW q' k (fun _ => 0) (fun _ => 0) (zM 32) (fun _ => 0) (fun _ => 0) (fun _ => 0) 0 0 0 0 0) hP hD [7] [0, 1, 2, 3, 4, 5, 6] rfl rfl (by decide) (by decide) hk9 hFc hP1 hD1
  clear hz9 hk9 hP1 hD1 hFc hDc hPc
  subst hq1
  have hP := hP3
  have hD := hD3
  refine lv_astore_n (lv' := [(2, .ref (q' 0)), (1, .ref (q 0)), (0, .ref b)]) hx hb dW_15 rfl hl (by decide) rfl (fun ls hl => ?_)
  refine lv_iconst (v := 1) hx hb dW_16 (by decide) ?_
  refine zn_l hx hb (hq _ q_43) hK hP hD hS hA (N' := 1) (by decide) (by decide) (by decide) (Nat.le_of_ble_eq_true rfl) (Nat.le_of_ble_eq_true rfl) dW_17 (fun o H hP hD hS => ?_)
  have hP := hP.sub (ws' := zO k o (fun _ => 0) :: (cW q k (fun _ => 0) (fun _ => 0) (zM 32) (fun _ => 0) (fun _ => 0) (fun _ => 0) 0 ++ mW q' k (fun _ => 0) (fun _ => 0) (zM 32) (fun _ => 0) (fun _ => 0) (fun _ => 0) 0 0 0 0 0)) [14, 0, 1, 2, 3, 4, 5, 6, 7, 8, 9, 10, 11, 12, 13] rfl
  have hD := hD.sub (ws' := zO k o (fun _ => 0) :: (cW q k (fun _ => 0) (fun _ => 0) (zM 32) (fun _ => 0) (fun _ => 0) (fun _ => 0) 0 ++ mW q' k (fun _ => 0) (fun _ => 0) (zM 32) (fun _ => 0) (fun _ => 0) (fun _ => 0) 0 0 0 0 0)) [14, 0, 1, 2, 3, 4, 5, 6, 7, 8, 9, 10, 11, 12, 13] (by decide) rfl
  refine lv_astore_n (lv' := [(3, .ref o), (2, .ref (q' 0)), (1, .ref (q 0)), (0, .ref b)]) hx hb dW_19 rfl hl (by decide) rfl (fun ls hl => ?_)
  refine lv_iconst (v := 0) hx hb dW_20 (by decide) ?_
  refine lv_istore (lv' := [(4, .int (zI ((0 : Nat) : Int))), (3, .ref o), (2, .ref (q' 0)), (1, .ref (q 0)), (0, .ref b)]) hx hb dW_21 hl (by decide) rfl (fun ls hl => ?_)
  exact zLoop hl0 G 512 0 _ _ (by omega) (by omega) (by decide) (by decide) _ _ _ _ _ _ _ _ _ _ _ _ 0 H locs ls (i_zero _) rfl (by decide) (lv_sub hl [4, 3, 2, 1, 0] rfl) hP hD hS
