set_option maxHeartbeats 4000000 in
set_option maxRecDepth 100000 in
theorem cs_reaches {p : Program} {l : Launch} {e : Env} {s : State} {m : MethodId} {below : List Frame} {meth : Method} {c : Code} {b L : Nat} {xs : Nat → Int32} {D : va_G} {k : Nat → ClassId} {q q' : Nat → Nat} {o i C S : Nat} (hl0 : l.stackTraces = false) (G : zC0 p s m meth c b L xs D k) (hi : i + 6 ≤ L) (hC : C + 2 ≤ 720965) (hSl : S + 9 ≤ 6933209) (K : zN p l e s m below meth c b D k q q' o i (C + 2) (S + 9) 1452) : zN p l e s m below meth c b D k q q' o i C S 1071 := by
  obtain ⟨hx, hb, hr, hml, hown, hq, hXs, hbl, hlocks, hK, hZ, hL⟩ := G
  intro tg ad mt rb rt rp nr th pk ex ro out N H locs ls hI hN hN8 hl hP hD hS
  have hbA : ¬ (fun q => s.heap.size ≤ q) b := Nat.not_le.mpr hbl
  have hA : ∀ q, s.heap.size ≤ q → (fun q => s.heap.size ≤ q) q := fun _ h => h
  have hn8 := n_8 hN hN8
  by_cases h0 : xC_reaches tg ad mt (xs (i + 1)) (xs (i + 2)) (xs (i + 3)) = 0
  · refine lv_aload_n hx hb dW_1071 rfl (lv_at hl 1 rfl) ?_
    refine ld_j hx hb hXs hbl hbA hS hL (lv_at hl 0 rfl) (lv_at hl 4 rfl) 1 (by omega) dW_1072 dW_1073 dW_1075 dW_1076 dW_1077 ?_
    refine ld_j hx hb hXs hbl hbA hS hL (lv_at hl 0 rfl) (lv_at hl 4 rfl) 2 (by omega) dW_1078 dW_1079 dW_1081 dW_1082 dW_1083 ?_
    refine ld_j hx hb hXs hbl hbA hS hL (lv_at hl 0 rfl) (lv_at hl 4 rfl) 3 (by omega) dW_1084 dW_1085 dW_1087 dW_1088 dW_1089 ?_
    refine lv_aload_n hx hb dW_1090 rfl (lv_at hl 3 rfl) ?_
    have hPc := hP.sub (ws' := zO k o out :: cW q k tg ad mt rb rt rp nr) [0, 1, 2, 3, 4, 5, 6, 7] rfl
    have hDc := (hD.sub (ws' := zO k o out :: cW q k tg ad mt rb rt rp nr) [0, 1, 2, 3, 4, 5, 6, 7] (by decide) rfl).self (sz := H.size)
    have hFc := va_free (wc := zO k o out :: cW q k tg ad mt rb rt rp nr) hD hS hA [0, 1, 2, 3, 4, 5, 6, 7] rfl
    have hXc := (hZ.kept hS.2.1).narrow hFc
    refine va_calli (vx_runSW (As := [.ref (q 0), .int (xs (i + 1)), .int (xs (i + 2)), .int (xs (i + 3)), .ref o]) (rest := []) ⟨hx, hb, hml, hown, hq⟩ (kL_reaches l hl0 H.size (fun _ h => Or.inr h) o out (xs (i + 1)) (xs (i + 2)) (xs (i + 3))) (vx_cwSW 5 hq (wA_S q_339 q_340 q_0 q_341) rfl rfl rfl (by decide +kernel) ⟨Nat.le_of_ble_eq_true rfl, Nat.le_of_ble_eq_true rfl⟩) (zl_preX hK hPc hDc hXc) rfl rfl hl.1 rfl (lv_room (Nat.le_of_ble_eq_true rfl)) dW_1091 ⟨by show C + 1 ≤ 720965; omega, by show S + 6 ≤ 6933209; omega⟩) hS (fun q _ h => hFc q h) hFc (fun v9 u9 t9 H locs ht9 hvm9 hv9 hB9 hz9 hk9 hS => ?_)
    obtain ⟨hP1, -, hD1⟩ := hB9
    rw [ht9, if_pos h0] at hP1
    rw [if_pos h0] at hD1
    have hv9 : v9 = 0 := hv9.trans h0
    subst hv9
    obtain ⟨hP, hD⟩ := va_join (wr := mW q' k tg ad mt rb rt rp nr th pk ex ro) (w1 := zO k o (vp_updL out 0 (zBl (fC_isInBounds tg ad mt (xs (i + 1)) (fC_unsigned (xs (i + 2))) (xs (i + 3)).toInt64))) :: cW q k tg ad mt rb rt rp nr) hP hD [0, 1, 2, 3, 4, 5, 6, 7] [8, 9, 10, 11, 12, 13, 14] rfl rfl (by decide) (by decide) hk9 hFc hP1 hD1
    clear hz9 hk9 hP1 hD1 hPc hDc hFc hXc
    refine lv_istore (lv' := [(5, .int (0)), (0, .ref b), (1, .ref (q 0)), (2, .ref (q' 0)), (3, .ref o), (4, .int (zI (i : Nat)))]) hx hb dW_1094 hl (by decide) rfl (fun ls hl => ?_)
    refine lv_aload_n hx hb dW_1096 rfl (lv_at hl 3 rfl) ?_
    refine ld_j hx hb hXs hbl hbA hS hL (lv_at hl 1 rfl) (lv_at hl 5 rfl) 1 (by omega) dW_1097 dW_1098 dW_1100 dW_1101 dW_1102 ?_
    refine ld_j hx hb hXs hbl hbA hS hL (lv_at hl 1 rfl) (lv_at hl 5 rfl) 2 (by omega) dW_1103 dW_1104 dW_1106 dW_1107 dW_1108 ?_
    refine ld_j hx hb hXs hbl hbA hS hL (lv_at hl 1 rfl) (lv_at hl 5 rfl) 3 (by omega) dW_1109 dW_1110 dW_1112 dW_1113 dW_1114 ?_
    have hPm := hP.sub (ws' := mW q' k tg ad mt rb rt rp nr th pk ex ro) [0, 1, 2, 3, 4, 5, 6] rfl
    have hDm := (hD.sub (ws' := mW q' k tg ad mt rb rt rp nr th pk ex ro) [0, 1, 2, 3, 4, 5, 6] (by decide) rfl).self (sz := H.size)
    have hFm := va_free (wc := mW q' k tg ad mt rb rt rp nr th pk ex ro) hD hS hA [0, 1, 2, 3, 4, 5, 6] rfl
    refine va_calli (va_runV (C := "CapUnitModel") (b := q' 0) (As := [.int (xs (i + 1)), .int (xs (i + 2)), .int (xs (i + 3))]) (rest := []) ⟨hx, hb, hml, hown, hq⟩ (kM_reaches l H.size (fun _ h => Or.inr h) (xs (i + 1)) (xs (i + 2)) (xs (i + 3))) (cwV 3 hq (wA_V q_532 q_533 q_534 q_2 q_535) rfl rfl rfl (by decide +kernel) ⟨Nat.le_of_ble_eq_true rfl, Nat.le_of_ble_eq_true rfl⟩) (zl_preM (c := zCl[1]) (q0 := 0) hK hPm hDm rfl rfl) rfl rfl hl.1 rfl (lv_room (Nat.le_of_ble_eq_true rfl)) dW_1115 ⟨by show C + 1 + 1 ≤ 720965; omega, by show S + 6 + 1 ≤ 6933209; omega⟩) hS (fun q _ h => hFm q h) hFm (fun v9 u9 t9 H locs ht9 hvm9 hv9 hB9 hz9 hk9 hS => ?_)
    obtain ⟨hP1, -, hD1⟩ := hB9
    rw [ht9, x_reaches tg ad mt (xs (i + 1)) (xs (i + 2)) (xs (i + 3)), if_pos h0] at hP1
    rw [x_reaches tg ad mt (xs (i + 1)) (xs (i + 2)) (xs (i + 3)), if_pos h0] at hD1
    obtain ⟨hP, hD⟩ := va_join (wr := zO k o (vp_updL out 0 (zBl (fC_isInBounds tg ad mt (xs (i + 1)) (fC_unsigned (xs (i + 2))) (xs (i + 3)).toInt64))) :: cW q k tg ad mt rb rt rp nr) (w1 := mW q' k tg ad mt rb rt rp nr 0 pk ex ro) hP hD [0, 1, 2, 3, 4, 5, 6] [7, 8, 9, 10, 11, 12, 13, 14] rfl rfl (by decide) (by decide) hk9 hFm hP1 hD1
    clear hz9 hk9 hP1 hD1 hPm hDm hFm
    have hv9 := hv9 ((x_reaches tg ad mt (xs (i + 1)) (xs (i + 2)) (xs (i + 3))).trans h0)
    refine lv_istore (lv' := [(6, .int v9), (5, .int (0)), (0, .ref b), (1, .ref (q 0)), (2, .ref (q' 0)), (3, .ref o), (4, .int (zI (i : Nat)))]) hx hb dW_1118 hl (by decide) rfl (fun ls hl => ?_)
    refine lv_aload_n hx hb dW_1120 rfl (lv_at hl 4 rfl) ?_
    have hPt := hP.sub (ws' := mW q' k tg ad mt rb rt rp nr 0 pk ex ro) [8, 9, 10, 11, 12, 13, 14] rfl
    refine zc_i (va_runV (C := "CapUnitModel") (b := q' 0) (As := []) (rest := []) ⟨hx, hb, hml, hown, hq⟩ (kM_thrown l hPt) (cwV 0 hq (wA_V q_404 q_405 q_406 q_2 q_407) rfl rfl rfl (by decide +kernel) ⟨Nat.le_of_ble_eq_true rfl, Nat.le_of_ble_eq_true rfl⟩) (zr_pre (c := zCl[1]) (q0 := 0) hK hPt rfl rfl) rfl rfl hl.1 rfl (lv_room (Nat.le_of_ble_eq_true rfl)) dW_1121 ⟨by show C + 1 + 1 + 0 ≤ 720965; omega, by show S + 6 + 1 + 0 ≤ 6933209; omega⟩) hS (fun locs hS => ?_)
    refine lv_iload hx hb dW_1124 (lv_at hl 1 rfl) ?_
    refine lv_icmp_eq (tgt := 1131) hx hb dW_1126 rfl (fun h9 => ?_) (fun h9 => absurd rfl h9)
    refine lv_iload hx hb dW_1131 (lv_at hl 1 rfl) ?_
    refine lv_if_ne (tgt := 1155) hx hb dW_1133 rfl (fun h9 => absurd rfl h9) (fun h9 => ?_)
    have fin : ∀ locs : List Loc, va_S (fun q => s.heap.size ≤ q) s.heap H locs → W p l e room_1 s m #[Value.ref b] below meth c H locs (C + 1 + 1) (S + 6 + 1) (lw_Z below #[Value.ref b] s) (F0 m 1155 ls []) := fun locs hS => lv_goto (tgt := 1452) hx hb dW_1155 rfl (W.widen (k := C + 2) (n := S + 9) (by omega) (by omega) (K _ _ _ _ _ _ _ _ _ _ _ _ N H locs ls hI hN hN8 (lv_sub hl [2, 3, 4, 5, 6] rfl) hP hD hS))
    refine lv_aload_n hx hb dW_1136 rfl (lv_at hl 5 rfl) ?_
    refine lv_iconst (v := 0) hx hb dW_1137 (by decide) ?_
    refine va_lald hx hb hK hP 0 2 rfl rfl (i := 0) (show ¬ ((0 : Int32) < 0 ∨ 1 ≤ (0 : Int32).toNatClampNeg) by decide) dW_1138 ?_
    refine zt_l (show _ = zBl (fC_isInBounds tg ad mt (xs (i + 1)) (fC_unsigned (xs (i + 2))) (xs (i + 3)).toInt64) from rfl) ?_
    have eV : zBl (fC_isInBounds tg ad mt (xs (i + 1)) (fC_unsigned (xs (i + 2))) (xs (i + 3)).toInt64) = zBl v9 := by rw [hv9]; exact (r_reaches tg ad mt (xs (i + 1)) (xs (i + 2)) (xs (i + 3)) h0).symm
    refine lv_iload hx hb dW_1139 (lv_at hl 0 rfl) ?_
    refine lv_if_eq (tgt := 1148) hx hb dW_1141 rfl (fun h8 => ?_) (fun h8 => ?_)
    · refine lv_lconst (v := 0) hx hb dW_1148 (by decide) ?_
      refine W.lcmp hx hb dW_1149 ?_
      refine lv_if_eq (tgt := 1155) hx hb dW_1150 rfl (fun _ => fin _ hS) (fun h9 => absurd ((lg_cmp_eq _ _).mpr (show zBl (fC_isInBounds tg ad mt (xs (i + 1)) (fC_unsigned (xs (i + 2))) (xs (i + 3)).toInt64) = 0 by rw [eV]; unfold zBl; rw [if_pos h8])) h9)
    · refine lv_lconst (v := 1) hx hb dW_1144 (by decide) ?_
      refine lv_goto (tgt := 1149) hx hb dW_1145 rfl ?_
      refine W.lcmp hx hb dW_1149 ?_
      refine lv_if_eq (tgt := 1155) hx hb dW_1150 rfl (fun _ => fin _ hS) (fun h9 => absurd ((lg_cmp_eq _ _).mpr (show zBl (fC_isInBounds tg ad mt (xs (i + 1)) (fC_unsigned (xs (i + 2))) (xs (i + 3)).toInt64) = 1 by rw [eV]; unfold zBl; rw [if_neg h8])) h9)
  · refine lv_aload_n hx hb dW_1071 rfl (lv_at hl 1 rfl) ?_
    refine ld_j hx hb hXs hbl hbA hS hL (lv_at hl 0 rfl) (lv_at hl 4 rfl) 1 (by omega) dW_1072 dW_1073 dW_1075 dW_1076 dW_1077 ?_
    refine ld_j hx hb hXs hbl hbA hS hL (lv_at hl 0 rfl) (lv_at hl 4 rfl) 2 (by omega) dW_1078 dW_1079 dW_1081 dW_1082 dW_1083 ?_
    refine ld_j hx hb hXs hbl hbA hS hL (lv_at hl 0 rfl) (lv_at hl 4 rfl) 3 (by omega) dW_1084 dW_1085 dW_1087 dW_1088 dW_1089 ?_
    refine lv_aload_n hx hb dW_1090 rfl (lv_at hl 3 rfl) ?_
    have hPc := hP.sub (ws' := zO k o out :: cW q k tg ad mt rb rt rp nr) [0, 1, 2, 3, 4, 5, 6, 7] rfl
    have hDc := (hD.sub (ws' := zO k o out :: cW q k tg ad mt rb rt rp nr) [0, 1, 2, 3, 4, 5, 6, 7] (by decide) rfl).self (sz := H.size)
    have hFc := va_free (wc := zO k o out :: cW q k tg ad mt rb rt rp nr) hD hS hA [0, 1, 2, 3, 4, 5, 6, 7] rfl
    have hXc := (hZ.kept hS.2.1).narrow hFc
    refine va_calli (vx_runSW (As := [.ref (q 0), .int (xs (i + 1)), .int (xs (i + 2)), .int (xs (i + 3)), .ref o]) (rest := []) ⟨hx, hb, hml, hown, hq⟩ (kL_reaches l hl0 H.size (fun _ h => Or.inr h) o out (xs (i + 1)) (xs (i + 2)) (xs (i + 3))) (vx_cwSW 5 hq (wA_S q_339 q_340 q_0 q_341) rfl rfl rfl (by decide +kernel) ⟨Nat.le_of_ble_eq_true rfl, Nat.le_of_ble_eq_true rfl⟩) (zl_preX hK hPc hDc hXc) rfl rfl hl.1 rfl (lv_room (Nat.le_of_ble_eq_true rfl)) dW_1091 ⟨by show C + 1 ≤ 720965; omega, by show S + 6 ≤ 6933209; omega⟩) hS (fun q _ h => hFc q h) hFc (fun v9 u9 t9 H locs ht9 hvm9 hv9 hB9 hz9 hk9 hS => ?_)
    obtain ⟨hP1, -, hD1⟩ := hB9
    rw [ht9, if_neg h0] at hP1
    rw [if_neg h0] at hD1
    subst hv9
    obtain ⟨hP, hD⟩ := va_join (wr := mW q' k tg ad mt rb rt rp nr th pk ex ro) (w1 := zO k o out :: cW q k tg ad mt rb rt rp nr) hP hD [0, 1, 2, 3, 4, 5, 6, 7] [8, 9, 10, 11, 12, 13, 14] rfl rfl (by decide) (by decide) hk9 hFc hP1 hD1
    clear hz9 hk9 hP1 hD1 hPc hDc hFc hXc
    refine lv_istore (lv' := [(5, .int (xC_reaches tg ad mt (xs (i + 1)) (xs (i + 2)) (xs (i + 3)))), (0, .ref b), (1, .ref (q 0)), (2, .ref (q' 0)), (3, .ref o), (4, .int (zI (i : Nat)))]) hx hb dW_1094 hl (by decide) rfl (fun ls hl => ?_)
    refine lv_aload_n hx hb dW_1096 rfl (lv_at hl 3 rfl) ?_
    refine ld_j hx hb hXs hbl hbA hS hL (lv_at hl 1 rfl) (lv_at hl 5 rfl) 1 (by omega) dW_1097 dW_1098 dW_1100 dW_1101 dW_1102 ?_
    refine ld_j hx hb hXs hbl hbA hS hL (lv_at hl 1 rfl) (lv_at hl 5 rfl) 2 (by omega) dW_1103 dW_1104 dW_1106 dW_1107 dW_1108 ?_
    refine ld_j hx hb hXs hbl hbA hS hL (lv_at hl 1 rfl) (lv_at hl 5 rfl) 3 (by omega) dW_1109 dW_1110 dW_1112 dW_1113 dW_1114 ?_
    have hPm := hP.sub (ws' := mW q' k tg ad mt rb rt rp nr th pk ex ro) [0, 1, 2, 3, 4, 5, 6] rfl
    have hDm := (hD.sub (ws' := mW q' k tg ad mt rb rt rp nr th pk ex ro) [0, 1, 2, 3, 4, 5, 6] (by decide) rfl).self (sz := H.size)
    have hFm := va_free (wc := mW q' k tg ad mt rb rt rp nr th pk ex ro) hD hS hA [0, 1, 2, 3, 4, 5, 6] rfl
    refine va_calli (va_runV (C := "CapUnitModel") (b := q' 0) (As := [.int (xs (i + 1)), .int (xs (i + 2)), .int (xs (i + 3))]) (rest := []) ⟨hx, hb, hml, hown, hq⟩ (kM_reaches l H.size (fun _ h => Or.inr h) (xs (i + 1)) (xs (i + 2)) (xs (i + 3))) (cwV 3 hq (wA_V q_532 q_533 q_534 q_2 q_535) rfl rfl rfl (by decide +kernel) ⟨Nat.le_of_ble_eq_true rfl, Nat.le_of_ble_eq_true rfl⟩) (zl_preM (c := zCl[1]) (q0 := 0) hK hPm hDm rfl rfl) rfl rfl hl.1 rfl (lv_room (Nat.le_of_ble_eq_true rfl)) dW_1115 ⟨by show C + 1 + 1 ≤ 720965; omega, by show S + 6 + 1 ≤ 6933209; omega⟩) hS (fun q _ h => hFm q h) hFm (fun v9 u9 t9 H locs ht9 hvm9 hv9 hB9 hz9 hk9 hS => ?_)
    obtain ⟨hP1, -, hD1⟩ := hB9
    rw [ht9, x_reaches tg ad mt (xs (i + 1)) (xs (i + 2)) (xs (i + 3)), if_neg h0] at hP1
    rw [x_reaches tg ad mt (xs (i + 1)) (xs (i + 2)) (xs (i + 3)), if_neg h0] at hD1
    obtain ⟨hP, hD⟩ := va_join (wr := zO k o out :: cW q k tg ad mt rb rt rp nr) (w1 := mW q' k tg ad mt rb rt rp nr (xC_reaches tg ad mt (xs (i + 1)) (xs (i + 2)) (xs (i + 3))) pk ex ro) hP hD [0, 1, 2, 3, 4, 5, 6] [7, 8, 9, 10, 11, 12, 13, 14] rfl rfl (by decide) (by decide) hk9 hFm hP1 hD1
    clear hz9 hk9 hP1 hD1 hPm hDm hFm
    refine lv_istore (lv' := [(6, .int v9), (5, .int (xC_reaches tg ad mt (xs (i + 1)) (xs (i + 2)) (xs (i + 3)))), (0, .ref b), (1, .ref (q 0)), (2, .ref (q' 0)), (3, .ref o), (4, .int (zI (i : Nat)))]) hx hb dW_1118 hl (by decide) rfl (fun ls hl => ?_)
    refine lv_aload_n hx hb dW_1120 rfl (lv_at hl 4 rfl) ?_
    have hPt := hP.sub (ws' := mW q' k tg ad mt rb rt rp nr (xC_reaches tg ad mt (xs (i + 1)) (xs (i + 2)) (xs (i + 3))) pk ex ro) [8, 9, 10, 11, 12, 13, 14] rfl
    refine zc_i (va_runV (C := "CapUnitModel") (b := q' 0) (As := []) (rest := []) ⟨hx, hb, hml, hown, hq⟩ (kM_thrown l hPt) (cwV 0 hq (wA_V q_404 q_405 q_406 q_2 q_407) rfl rfl rfl (by decide +kernel) ⟨Nat.le_of_ble_eq_true rfl, Nat.le_of_ble_eq_true rfl⟩) (zr_pre (c := zCl[1]) (q0 := 0) hK hPt rfl rfl) rfl rfl hl.1 rfl (lv_room (Nat.le_of_ble_eq_true rfl)) dW_1121 ⟨by show C + 1 + 1 + 0 ≤ 720965; omega, by show S + 6 + 1 + 0 ≤ 6933209; omega⟩) hS (fun locs hS => ?_)
    refine lv_iload hx hb dW_1124 (lv_at hl 1 rfl) ?_
    refine lv_icmp_eq (tgt := 1131) hx hb dW_1126 rfl (fun h9 => ?_) (fun h9 => absurd rfl h9)
    refine lv_iload hx hb dW_1131 (lv_at hl 1 rfl) ?_
    refine lv_if_ne (tgt := 1155) hx hb dW_1133 rfl (fun h9 => ?_) (fun h9 => absurd h9 h0)
    exact lv_goto (tgt := 1452) hx hb dW_1155 rfl (W.widen (k := C + 2) (n := S + 9) (by omega) (by omega) (K _ _ _ _ _ _ _ _ _ _ _ _ N H locs ls hI hN hN8 (lv_sub hl [2, 3, 4, 5, 6] rfl) hP hD hS))
