set_option maxHeartbeats 4000000 in
set_option maxRecDepth 100000 in
theorem cs_pack {p : Program} {l : Launch} {e : Env} {s : State} {m : MethodId} {below : List Frame} {meth : Method} {c : Code} {b L : Nat} {xs : Nat → Int32} {D : va_G} {k : Nat → ClassId} {q q' : Nat → Nat} {o i C S : Nat} (hl0 : l.stackTraces = false) (G : zC0 p s m meth c b L xs D k) (hi : i + 6 ≤ L) (hC : C + 2 ≤ 720965) (hSl : S + 9 ≤ 6933209) (K : zN p l e s m below meth c b D k q q' o i (C + 2) (S + 9) 1452) : zN p l e s m below meth c b D k q q' o i C S 1158 := by
  obtain ⟨hx, hb, hr, hml, hown, hq, hXs, hbl, hlocks, hK, hZ, hL⟩ := G
  intro tg ad mt rb rt rp nr th pk ex ro out N H locs ls hI hN hN8 hl hP hD hS
  have hbA : ¬ (fun q => s.heap.size ≤ q) b := Nat.not_le.mpr hbl
  have hA : ∀ q, s.heap.size ≤ q → (fun q => s.heap.size ≤ q) q := fun _ h => h
  have hn8 := n_8 hN hN8
  by_cases h0 : xC_pack tg ad mt (xs (i + 1)) (zLg (xs (i + 2)) (xs (i + 3))) = 0
  · refine lv_aload_n hx hb dW_1158 rfl (lv_at hl 1 rfl) ?_
    refine ld_j hx hb hXs hbl hbA hS hL (lv_at hl 0 rfl) (lv_at hl 4 rfl) 1 (by omega) dW_1159 dW_1160 dW_1162 dW_1163 dW_1164 ?_
    refine ld_L hx hb hown (hq _ q_554) hXs hbl hbA hS hL (lv_at hl 0 rfl) (lv_at hl 4 rfl) 2 3 (by omega) (by omega) dW_1165 dW_1166 dW_1168 dW_1169 dW_1170 dW_1171 dW_1172 dW_1174 dW_1175 dW_1176 dW_1178 dW_1179 dW_1180 dW_1181 dW_1182 dW_1185 dW_1186 ?_
    refine lv_aload_n hx hb dW_1187 rfl (lv_at hl 3 rfl) ?_
    have hPc := hP.sub (ws' := zO k o out :: cW q k tg ad mt rb rt rp nr) [0, 1, 2, 3, 4, 5, 6, 7] rfl
    have hDc := (hD.sub (ws' := zO k o out :: cW q k tg ad mt rb rt rp nr) [0, 1, 2, 3, 4, 5, 6, 7] (by decide) rfl).self (sz := H.size)
    have hFc := va_free (wc := zO k o out :: cW q k tg ad mt rb rt rp nr) hD hS hA [0, 1, 2, 3, 4, 5, 6, 7] rfl
    have hXc := (hZ.kept hS.2.1).narrow hFc
    refine va_calli (vx_runSW (As := [.ref (q 0), .int (xs (i + 1)), .long (zLg (xs (i + 2)) (xs (i + 3))), .ref o]) (rest := []) ⟨hx, hb, hml, hown, hq⟩ (kL_pack l hl0 H.size (fun _ h => Or.inr h) o out (xs (i + 1)) (zLg (xs (i + 2)) (xs (i + 3)))) (vx_cwSW 4 hq (wA_S q_347 q_348 q_0 q_349) rfl rfl rfl (by decide +kernel) ⟨Nat.le_of_ble_eq_true rfl, Nat.le_of_ble_eq_true rfl⟩) (zl_preX hK hPc hDc hXc) rfl rfl hl.1 rfl (lv_room (Nat.le_of_ble_eq_true rfl)) dW_1188 ⟨by show C + 1 ≤ 720965; omega, by show S + 6 ≤ 6933209; omega⟩) hS (fun q _ h => hFc q h) hFc (fun v9 u9 t9 H locs ht9 hvm9 hv9 hB9 hz9 hk9 hS => ?_)
    obtain ⟨hP1, -, hD1⟩ := hB9
    rw [ht9, if_pos h0] at hP1
    rw [if_pos h0] at hD1
    have hv9 : v9 = 0 := hv9.trans h0
    subst hv9
    obtain ⟨hP, hD⟩ := va_join (wr := mW q' k tg ad mt rb rt rp nr th pk ex ro) (w1 := zO k o (vp_updL out 0 ((fC_packed (fC_unsigned (xs (i + 1))) ((fC_unsigned (xs (i + 1))) + (zLg (xs (i + 2)) (xs (i + 3))))).toInt64)) :: cW q k tg ad mt rb rt rp nr) hP hD [0, 1, 2, 3, 4, 5, 6, 7] [8, 9, 10, 11, 12, 13, 14] rfl rfl (by decide) (by decide) hk9 hFc hP1 hD1
    clear hz9 hk9 hP1 hD1 hPc hDc hFc hXc
    refine lv_istore (lv' := [(5, .int (0)), (0, .ref b), (1, .ref (q 0)), (2, .ref (q' 0)), (3, .ref o), (4, .int (zI (i : Nat)))]) hx hb dW_1191 hl (by decide) rfl (fun ls hl => ?_)
    refine lv_aload_n hx hb dW_1193 rfl (lv_at hl 3 rfl) ?_
    refine ld_j hx hb hXs hbl hbA hS hL (lv_at hl 1 rfl) (lv_at hl 5 rfl) 1 (by omega) dW_1194 dW_1195 dW_1197 dW_1198 dW_1199 ?_
    refine ld_L hx hb hown (hq _ q_554) hXs hbl hbA hS hL (lv_at hl 1 rfl) (lv_at hl 5 rfl) 2 3 (by omega) (by omega) dW_1200 dW_1201 dW_1203 dW_1204 dW_1205 dW_1206 dW_1207 dW_1209 dW_1210 dW_1211 dW_1213 dW_1214 dW_1215 dW_1216 dW_1217 dW_1220 dW_1221 ?_
    have hPm := hP.sub (ws' := mW q' k tg ad mt rb rt rp nr th pk ex ro) [0, 1, 2, 3, 4, 5, 6] rfl
    have hDm := (hD.sub (ws' := mW q' k tg ad mt rb rt rp nr th pk ex ro) [0, 1, 2, 3, 4, 5, 6] (by decide) rfl).self (sz := H.size)
    have hFm := va_free (wc := mW q' k tg ad mt rb rt rp nr th pk ex ro) hD hS hA [0, 1, 2, 3, 4, 5, 6] rfl
    refine va_calli (va_runV (C := "CapUnitModel") (b := q' 0) (As := [.int (xs (i + 1)), .long (zLg (xs (i + 2)) (xs (i + 3)))]) (rest := []) ⟨hx, hb, hml, hown, hq⟩ (kM_packI l (xs (i + 1)) (zLg (xs (i + 2)) (xs (i + 3)))) (cwV 2 hq (wA_V q_536 q_537 q_538 q_2 q_539) rfl rfl rfl (by decide +kernel) ⟨Nat.le_of_ble_eq_true rfl, Nat.le_of_ble_eq_true rfl⟩) (zw_pre (c := zCl[1]) (q0 := 0) hK hPm hDm rfl rfl) rfl rfl hl.1 rfl (lv_room (Nat.le_of_ble_eq_true rfl)) dW_1222 ⟨by show C + 1 + 0 ≤ 720965; omega, by show S + 6 + 0 ≤ 6933209; omega⟩) hS (fun q _ h => hFm q h) hFm (fun v9 u9 t9 H locs ht9 hvm9 hv9 hB9 hz9 hk9 hS => ?_)
    obtain ⟨hP1, -, hD1⟩ := hB9
    rw [ht9, x_pack tg ad mt (xs (i + 1)) (zLg (xs (i + 2)) (xs (i + 3))), if_pos h0] at hP1
    rw [x_pack tg ad mt (xs (i + 1)) (zLg (xs (i + 2)) (xs (i + 3))), if_pos h0] at hD1
    obtain ⟨hP, hD⟩ := va_join (wr := zO k o (vp_updL out 0 ((fC_packed (fC_unsigned (xs (i + 1))) ((fC_unsigned (xs (i + 1))) + (zLg (xs (i + 2)) (xs (i + 3))))).toInt64)) :: cW q k tg ad mt rb rt rp nr) (w1 := mW q' k tg ad mt rb rt rp nr 0 (zI (kPk (kA (xs (i + 1))) (kA (xs (i + 1)) + (zLg (xs (i + 2)) (xs (i + 3))).toInt))) (zEx (kA (xs (i + 1))) (kA (xs (i + 1)) + (zLg (xs (i + 2)) (xs (i + 3))).toInt)) (zL (kTo (kA (xs (i + 1))) (kA (xs (i + 1)) + (zLg (xs (i + 2)) (xs (i + 3))).toInt) - kFr (kA (xs (i + 1))) (kA (xs (i + 1)) + (zLg (xs (i + 2)) (xs (i + 3))).toInt)))) hP hD [0, 1, 2, 3, 4, 5, 6] [7, 8, 9, 10, 11, 12, 13, 14] rfl rfl (by decide) (by decide) hk9 hFm hP1 hD1
    clear hz9 hk9 hP1 hD1 hPm hDm hFm
    have hv9 := hv9 ((x_pack tg ad mt (xs (i + 1)) (zLg (xs (i + 2)) (xs (i + 3)))).trans h0)
    refine lv_istore (lv' := [(6, .int v9), (5, .int (0)), (0, .ref b), (1, .ref (q 0)), (2, .ref (q' 0)), (3, .ref o), (4, .int (zI (i : Nat)))]) hx hb dW_1225 hl (by decide) rfl (fun ls hl => ?_)
    refine lv_aload_n hx hb dW_1227 rfl (lv_at hl 4 rfl) ?_
    have hPt := hP.sub (ws' := mW q' k tg ad mt rb rt rp nr 0 (zI (kPk (kA (xs (i + 1))) (kA (xs (i + 1)) + (zLg (xs (i + 2)) (xs (i + 3))).toInt))) (zEx (kA (xs (i + 1))) (kA (xs (i + 1)) + (zLg (xs (i + 2)) (xs (i + 3))).toInt)) (zL (kTo (kA (xs (i + 1))) (kA (xs (i + 1)) + (zLg (xs (i + 2)) (xs (i + 3))).toInt) - kFr (kA (xs (i + 1))) (kA (xs (i + 1)) + (zLg (xs (i + 2)) (xs (i + 3))).toInt)))) [8, 9, 10, 11, 12, 13, 14] rfl
    refine zc_i (va_runV (C := "CapUnitModel") (b := q' 0) (As := []) (rest := []) ⟨hx, hb, hml, hown, hq⟩ (kM_thrown l hPt) (cwV 0 hq (wA_V q_404 q_405 q_406 q_2 q_407) rfl rfl rfl (by decide +kernel) ⟨Nat.le_of_ble_eq_true rfl, Nat.le_of_ble_eq_true rfl⟩) (zr_pre (c := zCl[1]) (q0 := 0) hK hPt rfl rfl) rfl rfl hl.1 rfl (lv_room (Nat.le_of_ble_eq_true rfl)) dW_1228 ⟨by show C + 1 + 0 + 0 ≤ 720965; omega, by show S + 6 + 0 + 0 ≤ 6933209; omega⟩) hS (fun locs hS => ?_)
    refine lv_iload hx hb dW_1231 (lv_at hl 1 rfl) ?_
    refine lv_icmp_eq (tgt := 1238) hx hb dW_1233 rfl (fun h9 => ?_) (fun h9 => absurd rfl h9)
    refine lv_iload hx hb dW_1238 (lv_at hl 1 rfl) ?_
    refine lv_if_ne (tgt := 1255) hx hb dW_1240 rfl (fun h9 => absurd rfl h9) (fun h9 => ?_)
    have fin : ∀ locs : List Loc, va_S (fun q => s.heap.size ≤ q) s.heap H locs → W p l e room_1 s m #[Value.ref b] below meth c H locs (C + 1 + 0) (S + 6 + 0) (lw_Z below #[Value.ref b] s) (F0 m 1255 ls []) := fun locs hS => lv_goto (tgt := 1452) hx hb dW_1255 rfl (W.widen (k := C + 2) (n := S + 9) (by omega) (by omega) (K _ _ _ _ _ _ _ _ _ _ _ _ N H locs ls hI hN hN8 (lv_sub hl [2, 3, 4, 5, 6] rfl) hP hD hS))
    refine lv_aload_n hx hb dW_1243 rfl (lv_at hl 5 rfl) ?_
    refine lv_iconst (v := 0) hx hb dW_1244 (by decide) ?_
    refine va_lald hx hb hK hP 0 2 rfl rfl (i := 0) (show ¬ ((0 : Int32) < 0 ∨ 1 ≤ (0 : Int32).toNatClampNeg) by decide) dW_1245 ?_
    refine zt_l (show _ = (fC_packed (fC_unsigned (xs (i + 1))) ((fC_unsigned (xs (i + 1))) + (zLg (xs (i + 2)) (xs (i + 3))))).toInt64 from rfl) ?_
    refine lv_iload hx hb dW_1246 (lv_at hl 0 rfl) ?_
    refine lv_i2l hx hb dW_1248 rfl ?_
    have eV : (fC_packed (fC_unsigned (xs (i + 1))) ((fC_unsigned (xs (i + 1))) + (zLg (xs (i + 2)) (xs (i + 3))))).toInt64 = v9.toInt64 := by rw [hv9, r_pack tg ad mt (xs (i + 1)) (zLg (xs (i + 2)) (xs (i + 3))) h0]
    refine W.lcmp hx hb dW_1249 ?_
    refine lv_if_eq (tgt := 1255) hx hb dW_1250 rfl (fun _ => fin _ hS) (fun h9 => absurd ((lg_cmp_eq _ _).mpr eV) h9)
  · refine lv_aload_n hx hb dW_1158 rfl (lv_at hl 1 rfl) ?_
    refine ld_j hx hb hXs hbl hbA hS hL (lv_at hl 0 rfl) (lv_at hl 4 rfl) 1 (by omega) dW_1159 dW_1160 dW_1162 dW_1163 dW_1164 ?_
    refine ld_L hx hb hown (hq _ q_554) hXs hbl hbA hS hL (lv_at hl 0 rfl) (lv_at hl 4 rfl) 2 3 (by omega) (by omega) dW_1165 dW_1166 dW_1168 dW_1169 dW_1170 dW_1171 dW_1172 dW_1174 dW_1175 dW_1176 dW_1178 dW_1179 dW_1180 dW_1181 dW_1182 dW_1185 dW_1186 ?_
    refine lv_aload_n hx hb dW_1187 rfl (lv_at hl 3 rfl) ?_
    have hPc := hP.sub (ws' := zO k o out :: cW q k tg ad mt rb rt rp nr) [0, 1, 2, 3, 4, 5, 6, 7] rfl
    have hDc := (hD.sub (ws' := zO k o out :: cW q k tg ad mt rb rt rp nr) [0, 1, 2, 3, 4, 5, 6, 7] (by decide) rfl).self (sz := H.size)
    have hFc := va_free (wc := zO k o out :: cW q k tg ad mt rb rt rp nr) hD hS hA [0, 1, 2, 3, 4, 5, 6, 7] rfl
    have hXc := (hZ.kept hS.2.1).narrow hFc
    refine va_calli (vx_runSW (As := [.ref (q 0), .int (xs (i + 1)), .long (zLg (xs (i + 2)) (xs (i + 3))), .ref o]) (rest := []) ⟨hx, hb, hml, hown, hq⟩ (kL_pack l hl0 H.size (fun _ h => Or.inr h) o out (xs (i + 1)) (zLg (xs (i + 2)) (xs (i + 3)))) (vx_cwSW 4 hq (wA_S q_347 q_348 q_0 q_349) rfl rfl rfl (by decide +kernel) ⟨Nat.le_of_ble_eq_true rfl, Nat.le_of_ble_eq_true rfl⟩) (zl_preX hK hPc hDc hXc) rfl rfl hl.1 rfl (lv_room (Nat.le_of_ble_eq_true rfl)) dW_1188 ⟨by show C + 1 ≤ 720965; omega, by show S + 6 ≤ 6933209; omega⟩) hS (fun q _ h => hFc q h) hFc (fun v9 u9 t9 H locs ht9 hvm9 hv9 hB9 hz9 hk9 hS => ?_)
    obtain ⟨hP1, -, hD1⟩ := hB9
    rw [ht9, if_neg h0] at hP1
    rw [if_neg h0] at hD1
    subst hv9
    obtain ⟨hP, hD⟩ := va_join (wr := mW q' k tg ad mt rb rt rp nr th pk ex ro) (w1 := zO k o out :: cW q k tg ad mt rb rt rp nr) hP hD [0, 1, 2, 3, 4, 5, 6, 7] [8, 9, 10, 11, 12, 13, 14] rfl rfl (by decide) (by decide) hk9 hFc hP1 hD1
    clear hz9 hk9 hP1 hD1 hPc hDc hFc hXc
    refine lv_istore (lv' := [(5, .int (xC_pack tg ad mt (xs (i + 1)) (zLg (xs (i + 2)) (xs (i + 3))))), (0, .ref b), (1, .ref (q 0)), (2, .ref (q' 0)), (3, .ref o), (4, .int (zI (i : Nat)))]) hx hb dW_1191 hl (by decide) rfl (fun ls hl => ?_)
    refine lv_aload_n hx hb dW_1193 rfl (lv_at hl 3 rfl) ?_
    refine ld_j hx hb hXs hbl hbA hS hL (lv_at hl 1 rfl) (lv_at hl 5 rfl) 1 (by omega) dW_1194 dW_1195 dW_1197 dW_1198 dW_1199 ?_
    refine ld_L hx hb hown (hq _ q_554) hXs hbl hbA hS hL (lv_at hl 1 rfl) (lv_at hl 5 rfl) 2 3 (by omega) (by omega) dW_1200 dW_1201 dW_1203 dW_1204 dW_1205 dW_1206 dW_1207 dW_1209 dW_1210 dW_1211 dW_1213 dW_1214 dW_1215 dW_1216 dW_1217 dW_1220 dW_1221 ?_
    have hPm := hP.sub (ws' := mW q' k tg ad mt rb rt rp nr th pk ex ro) [0, 1, 2, 3, 4, 5, 6] rfl
    have hDm := (hD.sub (ws' := mW q' k tg ad mt rb rt rp nr th pk ex ro) [0, 1, 2, 3, 4, 5, 6] (by decide) rfl).self (sz := H.size)
    have hFm := va_free (wc := mW q' k tg ad mt rb rt rp nr th pk ex ro) hD hS hA [0, 1, 2, 3, 4, 5, 6] rfl
    refine va_calli (va_runV (C := "CapUnitModel") (b := q' 0) (As := [.int (xs (i + 1)), .long (zLg (xs (i + 2)) (xs (i + 3)))]) (rest := []) ⟨hx, hb, hml, hown, hq⟩ (kM_packI l (xs (i + 1)) (zLg (xs (i + 2)) (xs (i + 3)))) (cwV 2 hq (wA_V q_536 q_537 q_538 q_2 q_539) rfl rfl rfl (by decide +kernel) ⟨Nat.le_of_ble_eq_true rfl, Nat.le_of_ble_eq_true rfl⟩) (zw_pre (c := zCl[1]) (q0 := 0) hK hPm hDm rfl rfl) rfl rfl hl.1 rfl (lv_room (Nat.le_of_ble_eq_true rfl)) dW_1222 ⟨by show C + 1 + 0 ≤ 720965; omega, by show S + 6 + 0 ≤ 6933209; omega⟩) hS (fun q _ h => hFm q h) hFm (fun v9 u9 t9 H locs ht9 hvm9 hv9 hB9 hz9 hk9 hS => ?_)
    obtain ⟨hP1, -, hD1⟩ := hB9
    rw [ht9, x_pack tg ad mt (xs (i + 1)) (zLg (xs (i + 2)) (xs (i + 3))), if_neg h0] at hP1
    rw [x_pack tg ad mt (xs (i + 1)) (zLg (xs (i + 2)) (xs (i + 3))), if_neg h0] at hD1
    obtain ⟨hP, hD⟩ := va_join (wr := zO k o out :: cW q k tg ad mt rb rt rp nr) (w1 := mW q' k tg ad mt rb rt rp nr (xC_pack tg ad mt (xs (i + 1)) (zLg (xs (i + 2)) (xs (i + 3)))) pk ex ro) hP hD [0, 1, 2, 3, 4, 5, 6] [7, 8, 9, 10, 11, 12, 13, 14] rfl rfl (by decide) (by decide) hk9 hFm hP1 hD1
    clear hz9 hk9 hP1 hD1 hPm hDm hFm
    refine lv_istore (lv' := [(6, .int v9), (5, .int (xC_pack tg ad mt (xs (i + 1)) (zLg (xs (i + 2)) (xs (i + 3))))), (0, .ref b), (1, .ref (q 0)), (2, .ref (q' 0)), (3, .ref o), (4, .int (zI (i : Nat)))]) hx hb dW_1225 hl (by decide) rfl (fun ls hl => ?_)
    refine lv_aload_n hx hb dW_1227 rfl (lv_at hl 4 rfl) ?_
    have hPt := hP.sub (ws' := mW q' k tg ad mt rb rt rp nr (xC_pack tg ad mt (xs (i + 1)) (zLg (xs (i + 2)) (xs (i + 3)))) pk ex ro) [8, 9, 10, 11, 12, 13, 14] rfl
    refine zc_i (va_runV (C := "CapUnitModel") (b := q' 0) (As := []) (rest := []) ⟨hx, hb, hml, hown, hq⟩ (kM_thrown l hPt) (cwV 0 hq (wA_V q_404 q_405 q_406 q_2 q_407) rfl rfl rfl (by decide +kernel) ⟨Nat.le_of_ble_eq_true rfl, Nat.le_of_ble_eq_true rfl⟩) (zr_pre (c := zCl[1]) (q0 := 0) hK hPt rfl rfl) rfl rfl hl.1 rfl (lv_room (Nat.le_of_ble_eq_true rfl)) dW_1228 ⟨by show C + 1 + 0 + 0 ≤ 720965; omega, by show S + 6 + 0 + 0 ≤ 6933209; omega⟩) hS (fun locs hS => ?_)
    refine lv_iload hx hb dW_1231 (lv_at hl 1 rfl) ?_
    refine lv_icmp_eq (tgt := 1238) hx hb dW_1233 rfl (fun h9 => ?_) (fun h9 => absurd rfl h9)
    refine lv_iload hx hb dW_1238 (lv_at hl 1 rfl) ?_
    refine lv_if_ne (tgt := 1255) hx hb dW_1240 rfl (fun h9 => ?_) (fun h9 => absurd h9 h0)
    exact lv_goto (tgt := 1452) hx hb dW_1255 rfl (W.widen (k := C + 2) (n := S + 9) (by omega) (by omega) (K _ _ _ _ _ _ _ _ _ _ _ _ N H locs ls hI hN hN8 (lv_sub hl [2, 3, 4, 5, 6] rfl) hP hD hS))
