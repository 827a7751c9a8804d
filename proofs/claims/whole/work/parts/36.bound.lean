set_option maxHeartbeats 4000000 in
set_option maxRecDepth 100000 in
theorem cs_bound {p : Program} {l : Launch} {e : Env} {s : State} {m : MethodId} {below : List Frame} {meth : Method} {c : Code} {b L : Nat} {xs : Nat → Int32} {D : va_G} {k : Nat → ClassId} {q q' : Nat → Nat} {o i C S : Nat} (hl0 : l.stackTraces = false) (G : zC0 p s m meth c b L xs D k) (hi : i + 6 ≤ L) (hC : C + 2 ≤ 720965) (hSl : S + 9 ≤ 6933209) (K : zN p l e s m below meth c b D k q q' o i (C + 2) (S + 9) 1452) : zN p l e s m below meth c b D k q q' o i C S 1258 := by
  obtain ⟨hx, hb, hr, hml, hown, hq, hXs, hbl, hlocks, hK, hZ, hL⟩ := G
  intro tg ad mt rb rt rp nr th pk ex ro out N H locs ls hI hN hN8 hl hP hD hS
  have hbA : ¬ (fun q => s.heap.size ≤ q) b := Nat.not_le.mpr hbl
  have hA : ∀ q, s.heap.size ≤ q → (fun q => s.heap.size ≤ q) q := fun _ h => h
  have hn8 := n_8 hN hN8
  refine lv_aload_n hx hb dW_1258 rfl (lv_at hl 1 rfl) ?_
  refine ld_j hx hb hXs hbl hbA hS hL (lv_at hl 0 rfl) (lv_at hl 4 rfl) 1 (by omega) dW_1259 dW_1260 dW_1262 dW_1263 dW_1264 ?_
  refine ld_j hx hb hXs hbl hbA hS hL (lv_at hl 0 rfl) (lv_at hl 4 rfl) 2 (by omega) dW_1265 dW_1266 dW_1268 dW_1269 dW_1270 ?_
  refine ld_B hx hb hXs hbl hbA hS hL (lv_at hl 0 rfl) (lv_at hl 4 rfl) 3 (by omega) dW_1271 dW_1272 dW_1274 dW_1275 dW_1276 dW_1277 dW_1280 dW_1281 dW_1284 ?_
  have hPc := hP.sub (ws' := cW q k tg ad mt rb rt rp nr) [1, 2, 3, 4, 5, 6, 7] rfl
  refine zc_l (va_runV (C := "CapUnit") (b := q 0) (As := [.int (xs (i + 1)), .int (xs (i + 2)), .int (zBo (xs (i + 3)))]) (rest := []) ⟨hx, hb, hml, hown, hq⟩ (kC_bound l hPc (xs (i + 1)) (xs (i + 2)) (zBo (xs (i + 3)))) (cwV 3 hq (wA_V q_44 q_45 q_46 q_1 q_47) rfl rfl rfl (by decide +kernel) ⟨Nat.le_of_ble_eq_true rfl, Nat.le_of_ble_eq_true rfl⟩) (zr_pre (c := zCl[0]) (q0 := 0) hK hPc rfl rfl) rfl rfl hl.1 rfl (lv_room (Nat.le_of_ble_eq_true rfl)) dW_1285 ⟨by show C + 0 ≤ 720965; omega, by show S + 0 ≤ 6933209; omega⟩) hS (fun locs hS => ?_)
  refine lv_aload_n hx hb dW_1288 rfl (lv_at hl 2 rfl) ?_
  refine ld_j hx hb hXs hbl hbA hS hL (lv_at hl 0 rfl) (lv_at hl 4 rfl) 1 (by omega) dW_1289 dW_1290 dW_1292 dW_1293 dW_1294 ?_
  refine ld_j hx hb hXs hbl hbA hS hL (lv_at hl 0 rfl) (lv_at hl 4 rfl) 2 (by omega) dW_1295 dW_1296 dW_1298 dW_1299 dW_1300 ?_
  refine ld_B hx hb hXs hbl hbA hS hL (lv_at hl 0 rfl) (lv_at hl 4 rfl) 3 (by omega) dW_1301 dW_1302 dW_1304 dW_1305 dW_1306 dW_1307 dW_1310 dW_1311 dW_1314 ?_
  have hPm := hP.sub (ws' := mW q' k tg ad mt rb rt rp nr th pk ex ro) [8, 9, 10, 11, 12, 13, 14] rfl
  have hDm := (hD.sub (ws' := mW q' k tg ad mt rb rt rp nr th pk ex ro) [8, 9, 10, 11, 12, 13, 14] (by decide) rfl).self (sz := H.size)
  have hFm := va_free (wc := mW q' k tg ad mt rb rt rp nr th pk ex ro) hD hS hA [8, 9, 10, 11, 12, 13, 14] rfl
  have h0 : xM_bound tg ad mt (xs (i + 1)) (xs (i + 2)) (zBo (xs (i + 3))) = 0 := by unfold xM_bound; exact ite_self _
  refine va_calll (va_runV (C := "CapUnitModel") (b := q' 0) (As := [.int (xs (i + 1)), .int (xs (i + 2)), .int (zBo (xs (i + 3)))]) (rest := [.long (fC_bound tg ad mt (xs (i + 1)) (xs (i + 2)) (zBo (xs (i + 3))))]) ⟨hx, hb, hml, hown, hq⟩ (kM_bound l (xs (i + 1)) (xs (i + 2)) (zBo (xs (i + 3)))) (cwV 3 hq (wA_V q_541 q_542 q_543 q_2 q_544) rfl rfl rfl (by decide +kernel) ⟨Nat.le_of_ble_eq_true rfl, Nat.le_of_ble_eq_true rfl⟩) (zw_pre (c := zCl[1]) (q0 := 0) hK hPm hDm rfl rfl) rfl rfl hl.1 rfl (lv_room (Nat.le_of_ble_eq_true rfl)) dW_1315 ⟨by show C + 0 ≤ 720965; omega, by show S + 0 ≤ 6933209; omega⟩) hS (fun q _ h => hFm q h) hFm (fun v9 u9 t9 H locs ht9 hvm9 hv9 hB9 hz9 hk9 hS => ?_)
  obtain ⟨hP1, -, hD1⟩ := hB9
  rw [ht9, if_pos h0] at hP1
  rw [if_pos h0] at hD1
  obtain ⟨hP, hD⟩ := va_join (wr := zO k o out :: cW q k tg ad mt rb rt rp nr) (w1 := mW q' k tg ad mt rb rt rp nr 0 pk ex ro) hP hD [8, 9, 10, 11, 12, 13, 14] [0, 1, 2, 3, 4, 5, 6, 7] rfl rfl (by decide) (by decide) hk9 hFm hP1 hD1
  have eV : fC_bound tg ad mt (xs (i + 1)) (xs (i + 2)) (zBo (xs (i + 3))) = v9 := by rw [hv9 h0, r_bound]
  refine W.lcmp hx hb dW_1318 ?_
  exact lv_if_eq (tgt := 1452) hx hb dW_1319 rfl (fun _ => W.widen (k := C + 2) (n := S + 9) (by omega) (by omega) (K _ _ _ _ _ _ _ _ _ _ _ _ N H locs ls hI hN hN8 hl hP hD hS)) (fun h9 => absurd ((lg_cmp_eq _ _).mpr eV) h9)
