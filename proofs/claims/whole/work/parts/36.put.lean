set_option maxHeartbeats 4000000 in
set_option maxRecDepth 100000 in
theorem cs_put {p : Program} {l : Launch} {e : Env} {s : State} {m : MethodId} {below : List Frame} {meth : Method} {c : Code} {b L : Nat} {xs : Nat → Int32} {D : va_G} {k : Nat → ClassId} {q q' : Nat → Nat} {o i C S : Nat} (hl0 : l.stackTraces = false) (G : zC0 p s m meth c b L xs D k) (hi : i + 6 ≤ L) (hC : C + 2 ≤ 720965) (hSl : S + 9 ≤ 6933209) (K : zN p l e s m below meth c b D k q q' o i (C + 2) (S + 9) 1452) : zN p l e s m below meth c b D k q q' o i C S 244 := by
  obtain ⟨hx, hb, hr, hml, hown, hq, hXs, hbl, hlocks, hK, hZ, hL⟩ := G
  intro tg ad mt rb rt rp nr th pk ex ro out N H locs ls hI hN hN8 hl hP hD hS
  have hbA : ¬ (fun q => s.heap.size ≤ q) b := Nat.not_le.mpr hbl
  have hA : ∀ q, s.heap.size ≤ q → (fun q => s.heap.size ≤ q) q := fun _ h => h
  have hn8 := n_8 hN hN8
  by_cases h0 : xC_put tg ad mt (xs (i + 1)) (xs (i + 2)) (xs (i + 3)) = 0
  · refine lv_aload_n hx hb dW_244 rfl (lv_at hl 1 rfl) ?_
    refine ld_j hx hb hXs hbl hbA hS hL (lv_at hl 0 rfl) (lv_at hl 4 rfl) 1 (by omega) dW_245 dW_246 dW_248 dW_249 dW_250 ?_
    refine ld_j hx hb hXs hbl hbA hS hL (lv_at hl 0 rfl) (lv_at hl 4 rfl) 2 (by omega) dW_251 dW_252 dW_254 dW_255 dW_256 ?_
    refine ld_j hx hb hXs hbl hbA hS hL (lv_at hl 0 rfl) (lv_at hl 4 rfl) 3 (by omega) dW_257 dW_258 dW_260 dW_261 dW_262 ?_
    have hPc := hP.sub (ws' := cW q k tg ad mt rb rt rp nr) [1, 2, 3, 4, 5, 6, 7] rfl
    have hDc := (hD.sub (ws' := cW q k tg ad mt rb rt rp nr) [1, 2, 3, 4, 5, 6, 7] (by decide) rfl).self (sz := H.size)
    have hFc := va_free (wc := cW q k tg ad mt rb rt rp nr) hD hS hA [1, 2, 3, 4, 5, 6, 7] rfl
    have hXc := (hZ.kept hS.2.1).narrow hFc
    refine va_calli (vx_runSW (As := [.ref (q 0), .int (xs (i + 1)), .int (xs (i + 2)), .int (xs (i + 3))]) (rest := []) ⟨hx, hb, hml, hown, hq⟩ (kL_put l hl0 H.size (fun _ h => Or.inr h) (xs (i + 1)) (xs (i + 2)) (xs (i + 3))) (vx_cwSW 4 hq (wA_S q_236 q_237 q_0 q_238) rfl rfl rfl (by decide +kernel) ⟨Nat.le_of_ble_eq_true rfl, Nat.le_of_ble_eq_true rfl⟩) (zl_preX hK hPc hDc hXc) rfl rfl hl.1 rfl (lv_room (Nat.le_of_ble_eq_true rfl)) dW_263 ⟨by show C + 1 ≤ 720965; omega, by show S + 6 ≤ 6933209; omega⟩) hS (fun q _ h => hFc q h) hFc (fun v9 u9 t9 H locs ht9 hvm9 hv9 hB9 hz9 hk9 hS => ?_)
    obtain ⟨hP1, -, hD1⟩ := hB9
    rw [ht9, if_pos h0] at hP1
    rw [if_pos h0] at hD1
    have hv9 : v9 = 0 := hv9.trans h0
    subst hv9
    obtain ⟨hP, hD⟩ := va_join (wr := zO k o out :: mW q' k tg ad mt rb rt rp nr th pk ex ro) (w1 := cW q k (zS (xs (i + 1)) ((0 : Int32)) tg) (zS (xs (i + 1)) ((xs (i + 2))) ad) (zS (xs (i + 1)) ((xs (i + 3)) ^^^ (1000194 : Int32)) mt) rb rt rp nr) hP hD [1, 2, 3, 4, 5, 6, 7] [0, 8, 9, 10, 11, 12, 13, 14] rfl rfl (by decide) (by decide) hk9 hFc hP1 hD1
    clear hz9 hk9 hP1 hD1 hPc hDc hFc hXc
    refine lv_istore (lv' := [(5, .int (0)), (0, .ref b), (1, .ref (q 0)), (2, .ref (q' 0)), (3, .ref o), (4, .int (zI (i : Nat)))]) hx hb dW_266 hl (by decide) rfl (fun ls hl => ?_)
    refine lv_aload_n hx hb dW_268 rfl (lv_at hl 3 rfl) ?_
    refine ld_j hx hb hXs hbl hbA hS hL (lv_at hl 1 rfl) (lv_at hl 5 rfl) 1 (by omega) dW_269 dW_270 dW_272 dW_273 dW_274 ?_
    refine ld_j hx hb hXs hbl hbA hS hL (lv_at hl 1 rfl) (lv_at hl 5 rfl) 2 (by omega) dW_275 dW_276 dW_278 dW_279 dW_280 ?_
    refine ld_j hx hb hXs hbl hbA hS hL (lv_at hl 1 rfl) (lv_at hl 5 rfl) 3 (by omega) dW_281 dW_282 dW_284 dW_285 dW_286 ?_
    have hPm := hP.sub (ws' := mW q' k tg ad mt rb rt rp nr th pk ex ro) [1, 2, 3, 4, 5, 6, 7] rfl
    have hDm := (hD.sub (ws' := mW q' k tg ad mt rb rt rp nr th pk ex ro) [1, 2, 3, 4, 5, 6, 7] (by decide) rfl).self (sz := H.size)
    have hFm := va_free (wc := mW q' k tg ad mt rb rt rp nr th pk ex ro) hD hS hA [1, 2, 3, 4, 5, 6, 7] rfl
    refine va_callv (va_runV (C := "CapUnitModel") (b := q' 0) (As := [.int (xs (i + 1)), .int (xs (i + 2)), .int (xs (i + 3))]) (rest := []) ⟨hx, hb, hml, hown, hq⟩ (kM_put l H.size (fun _ h => Or.inr h) (xs (i + 1)) (xs (i + 2)) (xs (i + 3))) (cwV 3 hq (wA_V q_458 q_459 q_460 q_2 q_461) rfl rfl rfl (by decide +kernel) ⟨Nat.le_of_ble_eq_true rfl, Nat.le_of_ble_eq_true rfl⟩) (zl_preM (c := zCl[1]) (q0 := 0) hK hPm hDm rfl rfl) rfl rfl hl.1 rfl (lv_room (Nat.le_of_ble_eq_true rfl)) dW_287 ⟨by show C + 1 + 1 ≤ 720965; omega, by show S + 6 + 1 ≤ 6933209; omega⟩) hS (fun q _ h => hFm q h) hFm (fun u9 t9 H locs ht9 hvm9 hv9 hB9 hz9 hk9 hS => ?_)
    obtain ⟨hP1, -, hD1⟩ := hB9
    rw [ht9, x_put tg ad mt (xs (i + 1)) (xs (i + 2)) (xs (i + 3)), if_pos h0] at hP1
    rw [x_put tg ad mt (xs (i + 1)) (xs (i + 2)) (xs (i + 3)), if_pos h0] at hD1
    obtain ⟨hP, hD⟩ := va_join (wr := zO k o out :: cW q k (zS (xs (i + 1)) ((0 : Int32)) tg) (zS (xs (i + 1)) ((xs (i + 2))) ad) (zS (xs (i + 1)) ((xs (i + 3)) ^^^ (1000194 : Int32)) mt) rb rt rp nr) (w1 := mW q' k (zS (xs (i + 1)) ((0 : Int32)) tg) (zS (xs (i + 1)) ((xs (i + 2))) ad) (zS (xs (i + 1)) ((xs (i + 3)) ^^^ (1000194 : Int32)) mt) rb rt rp nr 0 pk ex ro) hP hD [1, 2, 3, 4, 5, 6, 7] [0, 8, 9, 10, 11, 12, 13, 14] rfl rfl (by decide) (by decide) hk9 hFm hP1 hD1
    clear hz9 hk9 hP1 hD1 hPm hDm hFm
    refine lv_aload_n hx hb dW_290 rfl (lv_at hl 3 rfl) ?_
    have hPt := hP.sub (ws' := mW q' k (zS (xs (i + 1)) ((0 : Int32)) tg) (zS (xs (i + 1)) ((xs (i + 2))) ad) (zS (xs (i + 1)) ((xs (i + 3)) ^^^ (1000194 : Int32)) mt) rb rt rp nr 0 pk ex ro) [8, 9, 10, 11, 12, 13, 14] rfl
    refine zc_i (va_runV (C := "CapUnitModel") (b := q' 0) (As := []) (rest := []) ⟨hx, hb, hml, hown, hq⟩ (kM_thrown l hPt) (cwV 0 hq (wA_V q_404 q_405 q_406 q_2 q_407) rfl rfl rfl (by decide +kernel) ⟨Nat.le_of_ble_eq_true rfl, Nat.le_of_ble_eq_true rfl⟩) (zr_pre (c := zCl[1]) (q0 := 0) hK hPt rfl rfl) rfl rfl hl.1 rfl (lv_room (Nat.le_of_ble_eq_true rfl)) dW_291 ⟨by show C + 1 + 1 + 0 ≤ 720965; omega, by show S + 6 + 1 + 0 ≤ 6933209; omega⟩) hS (fun locs hS => ?_)
    refine lv_iload hx hb dW_294 (lv_at hl 0 rfl) ?_
    refine lv_icmp_eq (tgt := 301) hx hb dW_296 rfl (fun h9 => ?_) (fun h9 => absurd rfl h9)
    exact lv_goto (tgt := 1452) hx hb dW_301 rfl (W.widen (k := C + 2) (n := S + 9) (by omega) (by omega) (K _ _ _ _ _ _ _ _ _ _ _ _ N H locs ls (i_put hI _ _ _) hN hN8 (lv_sub hl [1, 2, 3, 4, 5] rfl) hP hD hS))
  · refine lv_aload_n hx hb dW_244 rfl (lv_at hl 1 rfl) ?_
    refine ld_j hx hb hXs hbl hbA hS hL (lv_at hl 0 rfl) (lv_at hl 4 rfl) 1 (by omega) dW_245 dW_246 dW_248 dW_249 dW_250 ?_
    refine ld_j hx hb hXs hbl hbA hS hL (lv_at hl 0 rfl) (lv_at hl 4 rfl) 2 (by omega) dW_251 dW_252 dW_254 dW_255 dW_256 ?_
    refine ld_j hx hb hXs hbl hbA hS hL (lv_at hl 0 rfl) (lv_at hl 4 rfl) 3 (by omega) dW_257 dW_258 dW_260 dW_261 dW_262 ?_
    have hPc := hP.sub (ws' := cW q k tg ad mt rb rt rp nr) [1, 2, 3, 4, 5, 6, 7] rfl
    have hDc := (hD.sub (ws' := cW q k tg ad mt rb rt rp nr) [1, 2, 3, 4, 5, 6, 7] (by decide) rfl).self (sz := H.size)
    have hFc := va_free (wc := cW q k tg ad mt rb rt rp nr) hD hS hA [1, 2, 3, 4, 5, 6, 7] rfl
    have hXc := (hZ.kept hS.2.1).narrow hFc
    refine va_calli (vx_runSW (As := [.ref (q 0), .int (xs (i + 1)), .int (xs (i + 2)), .int (xs (i + 3))]) (rest := []) ⟨hx, hb, hml, hown, hq⟩ (kL_put l hl0 H.size (fun _ h => Or.inr h) (xs (i + 1)) (xs (i + 2)) (xs (i + 3))) (vx_cwSW 4 hq (wA_S q_236 q_237 q_0 q_238) rfl rfl rfl (by decide +kernel) ⟨Nat.le_of_ble_eq_true rfl, Nat.le_of_ble_eq_true rfl⟩) (zl_preX hK hPc hDc hXc) rfl rfl hl.1 rfl (lv_room (Nat.le_of_ble_eq_true rfl)) dW_263 ⟨by show C + 1 ≤ 720965; omega, by show S + 6 ≤ 6933209; omega⟩) hS (fun q _ h => hFc q h) hFc (fun v9 u9 t9 H locs ht9 hvm9 hv9 hB9 hz9 hk9 hS => ?_)
    obtain ⟨hP1, -, hD1⟩ := hB9
    rw [ht9, if_neg h0] at hP1
    rw [if_neg h0] at hD1
    subst hv9
    obtain ⟨hP, hD⟩ := va_join (wr := zO k o out :: mW q' k tg ad mt rb rt rp nr th pk ex ro) (w1 := cW q k tg ad mt rb rt rp nr) hP hD [1, 2, 3, 4, 5, 6, 7] [0, 8, 9, 10, 11, 12, 13, 14] rfl rfl (by decide) (by decide) hk9 hFc hP1 hD1
    clear hz9 hk9 hP1 hD1 hPc hDc hFc hXc
    refine lv_istore (lv' := [(5, .int (xC_put tg ad mt (xs (i + 1)) (xs (i + 2)) (xs (i + 3)))), (0, .ref b), (1, .ref (q 0)), (2, .ref (q' 0)), (3, .ref o), (4, .int (zI (i : Nat)))]) hx hb dW_266 hl (by decide) rfl (fun ls hl => ?_)
    refine lv_aload_n hx hb dW_268 rfl (lv_at hl 3 rfl) ?_
    refine ld_j hx hb hXs hbl hbA hS hL (lv_at hl 1 rfl) (lv_at hl 5 rfl) 1 (by omega) dW_269 dW_270 dW_272 dW_273 dW_274 ?_
    refine ld_j hx hb hXs hbl hbA hS hL (lv_at hl 1 rfl) (lv_at hl 5 rfl) 2 (by omega) dW_275 dW_276 dW_278 dW_279 dW_280 ?_
    refine ld_j hx hb hXs hbl hbA hS hL (lv_at hl 1 rfl) (lv_at hl 5 rfl) 3 (by omega) dW_281 dW_282 dW_284 dW_285 dW_286 ?_
    have hPm := hP.sub (ws' := mW q' k tg ad mt rb rt rp nr th pk ex ro) [1, 2, 3, 4, 5, 6, 7] rfl
    have hDm := (hD.sub (ws' := mW q' k tg ad mt rb rt rp nr th pk ex ro) [1, 2, 3, 4, 5, 6, 7] (by decide) rfl).self (sz := H.size)
    have hFm := va_free (wc := mW q' k tg ad mt rb rt rp nr th pk ex ro) hD hS hA [1, 2, 3, 4, 5, 6, 7] rfl
    refine va_callv (va_runV (C := "CapUnitModel") (b := q' 0) (As := [.int (xs (i + 1)), .int (xs (i + 2)), .int (xs (i + 3))]) (rest := []) ⟨hx, hb, hml, hown, hq⟩ (kM_put l H.size (fun _ h => Or.inr h) (xs (i + 1)) (xs (i + 2)) (xs (i + 3))) (cwV 3 hq (wA_V q_458 q_459 q_460 q_2 q_461) rfl rfl rfl (by decide +kernel) ⟨Nat.le_of_ble_eq_true rfl, Nat.le_of_ble_eq_true rfl⟩) (zl_preM (c := zCl[1]) (q0 := 0) hK hPm hDm rfl rfl) rfl rfl hl.1 rfl (lv_room (Nat.le_of_ble_eq_true rfl)) dW_287 ⟨by show C + 1 + 1 ≤ 720965; omega, by show S + 6 + 1 ≤ 6933209; omega⟩) hS (fun q _ h => hFm q h) hFm (fun u9 t9 H locs ht9 hvm9 hv9 hB9 hz9 hk9 hS => ?_)
    obtain ⟨hP1, -, hD1⟩ := hB9
    rw [ht9, x_put tg ad mt (xs (i + 1)) (xs (i + 2)) (xs (i + 3)), if_neg h0] at hP1
    rw [x_put tg ad mt (xs (i + 1)) (xs (i + 2)) (xs (i + 3)), if_neg h0] at hD1
    obtain ⟨hP, hD⟩ := va_join (wr := zO k o out :: cW q k tg ad mt rb rt rp nr) (w1 := mW q' k tg ad mt rb rt rp nr (xC_put tg ad mt (xs (i + 1)) (xs (i + 2)) (xs (i + 3))) pk ex ro) hP hD [1, 2, 3, 4, 5, 6, 7] [0, 8, 9, 10, 11, 12, 13, 14] rfl rfl (by decide) (by decide) hk9 hFm hP1 hD1
    clear hz9 hk9 hP1 hD1 hPm hDm hFm
    refine lv_aload_n hx hb dW_290 rfl (lv_at hl 3 rfl) ?_
    have hPt := hP.sub (ws' := mW q' k tg ad mt rb rt rp nr (xC_put tg ad mt (xs (i + 1)) (xs (i + 2)) (xs (i + 3))) pk ex ro) [8, 9, 10, 11, 12, 13, 14] rfl
    refine zc_i (va_runV (C := "CapUnitModel") (b := q' 0) (As := []) (rest := []) ⟨hx, hb, hml, hown, hq⟩ (kM_thrown l hPt) (cwV 0 hq (wA_V q_404 q_405 q_406 q_2 q_407) rfl rfl rfl (by decide +kernel) ⟨Nat.le_of_ble_eq_true rfl, Nat.le_of_ble_eq_true rfl⟩) (zr_pre (c := zCl[1]) (q0 := 0) hK hPt rfl rfl) rfl rfl hl.1 rfl (lv_room (Nat.le_of_ble_eq_true rfl)) dW_291 ⟨by show C + 1 + 1 + 0 ≤ 720965; omega, by show S + 6 + 1 + 0 ≤ 6933209; omega⟩) hS (fun locs hS => ?_)
    refine lv_iload hx hb dW_294 (lv_at hl 0 rfl) ?_
    refine lv_icmp_eq (tgt := 301) hx hb dW_296 rfl (fun h9 => ?_) (fun h9 => absurd rfl h9)
    exact lv_goto (tgt := 1452) hx hb dW_301 rfl (W.widen (k := C + 2) (n := S + 9) (by omega) (by omega) (K _ _ _ _ _ _ _ _ _ _ _ _ N H locs ls hI hN hN8 (lv_sub hl [1, 2, 3, 4, 5] rfl) hP hD hS))
