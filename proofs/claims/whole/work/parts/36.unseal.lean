set_option maxHeartbeats 4000000 in
set_option maxRecDepth 100000 in
theorem cs_unseal {p : Program} {l : Launch} {e : Env} {s : State} {m : MethodId} {below : List Frame} {meth : Method} {c : Code} {b L : Nat} {xs : Nat → Int32} {D : va_G} {k : Nat → ClassId} {q q' : Nat → Nat} {o i C S : Nat} (hl0 : l.stackTraces = false) (G : zC0 p s m meth c b L xs D k) (hi : i + 6 ≤ L) (hC : C + 2 ≤ 720965) (hSl : S + 9 ≤ 6933209) (K : zN p l e s m below meth c b D k q q' o i (C + 2) (S + 9) 1452) : zN p l e s m below meth c b D k q q' o i C S 680 := by
  obtain ⟨hx, hb, hr, hml, hown, hq, hXs, hbl, hlocks, hK, hZ, hL⟩ := G
  intro tg ad mt rb rt rp nr th pk ex ro out N H locs ls hI hN hN8 hl hP hD hS
  have hbA : ¬ (fun q => s.heap.size ≤ q) b := Nat.not_le.mpr hbl
  have hA : ∀ q, s.heap.size ≤ q → (fun q => s.heap.size ≤ q) q := fun _ h => h
  have hn8 := n_8 hN hN8
  by_cases h0 : xC_unseal tg ad mt (xs (i + 1)) (xs (i + 2)) (xs (i + 3)) = 0
  · refine lv_aload_n hx hb dW_680 rfl (lv_at hl 1 rfl) ?_
    refine ld_j hx hb hXs hbl hbA hS hL (lv_at hl 0 rfl) (lv_at hl 4 rfl) 1 (by omega) dW_681 dW_682 dW_684 dW_685 dW_686 ?_
    refine ld_j hx hb hXs hbl hbA hS hL (lv_at hl 0 rfl) (lv_at hl 4 rfl) 2 (by omega) dW_687 dW_688 dW_690 dW_691 dW_692 ?_
    refine ld_j hx hb hXs hbl hbA hS hL (lv_at hl 0 rfl) (lv_at hl 4 rfl) 3 (by omega) dW_693 dW_694 dW_696 dW_697 dW_698 ?_
    refine lv_aload_n hx hb dW_699 rfl (lv_at hl 3 rfl) ?_
    have hPc := hP.sub (ws' := zO k o out :: cW q k tg ad mt rb rt rp nr) [0, 1, 2, 3, 4, 5, 6, 7] rfl
    have hDc := (hD.sub (ws' := zO k o out :: cW q k tg ad mt rb rt rp nr) [0, 1, 2, 3, 4, 5, 6, 7] (by decide) rfl).self (sz := H.size)
    have hFc := va_free (wc := zO k o out :: cW q k tg ad mt rb rt rp nr) hD hS hA [0, 1, 2, 3, 4, 5, 6, 7] rfl
    have hXc := (hZ.kept hS.2.1).narrow hFc
    refine va_calli (vx_runSW (As := [.ref (q 0), .int (xs (i + 1)), .int (xs (i + 2)), .int (xs (i + 3)), .ref o]) (rest := []) ⟨hx, hb, hml, hown, hq⟩ (kL_unseal l hl0 H.size (fun _ h => Or.inr h) o out (xs (i + 1)) (xs (i + 2)) (xs (i + 3))) (vx_cwSW 5 hq (wA_S q_302 q_303 q_0 q_304) rfl rfl rfl (by decide +kernel) ⟨Nat.le_of_ble_eq_true rfl, Nat.le_of_ble_eq_true rfl⟩) (zl_preX hK hPc hDc hXc) rfl rfl hl.1 rfl (lv_room (Nat.le_of_ble_eq_true rfl)) dW_700 ⟨by show C + 1 ≤ 720965; omega, by show S + 6 ≤ 6933209; omega⟩) hS (fun q _ h => hFc q h) hFc (fun v9 u9 t9 H locs ht9 hvm9 hv9 hB9 hz9 hk9 hS => ?_)
    obtain ⟨hP1, -, hD1⟩ := hB9
    rw [ht9, if_pos h0] at hP1
    rw [if_pos h0] at hD1
    have hv9 : v9 = 0 := hv9.trans h0
    subst hv9
    obtain ⟨hP, hD⟩ := va_join (wr := mW q' k tg ad mt rb rt rp nr th pk ex ro) (w1 := zO k o (vp_updL out 0 (zBl (zSr (xs (i + 1)) (tC_unseal tg ad mt (xs (i + 1)) (xs (i + 2)) (xs (i + 3)))))) :: cW q k (zS (xs (i + 1)) (tC_unseal tg ad mt (xs (i + 1)) (xs (i + 2)) (xs (i + 3))) tg) (zS (xs (i + 1)) (ad (xs (i + 2)).toNatClampNeg) ad) (zS (xs (i + 1)) (mC_unseal tg ad mt (xs (i + 1)) (xs (i + 2)) (xs (i + 3))) mt) rb rt rp nr) hP hD [0, 1, 2, 3, 4, 5, 6, 7] [8, 9, 10, 11, 12, 13, 14] rfl rfl (by decide) (by decide) hk9 hFc hP1 hD1
    clear hz9 hk9 hP1 hD1 hPc hDc hFc hXc
    refine lv_istore (lv' := [(5, .int (0)), (0, .ref b), (1, .ref (q 0)), (2, .ref (q' 0)), (3, .ref o), (4, .int (zI (i : Nat)))]) hx hb dW_703 hl (by decide) rfl (fun ls hl => ?_)
    refine lv_aload_n hx hb dW_705 rfl (lv_at hl 3 rfl) ?_
    refine ld_j hx hb hXs hbl hbA hS hL (lv_at hl 1 rfl) (lv_at hl 5 rfl) 1 (by omega) dW_706 dW_707 dW_709 dW_710 dW_711 ?_
    refine ld_j hx hb hXs hbl hbA hS hL (lv_at hl 1 rfl) (lv_at hl 5 rfl) 2 (by omega) dW_712 dW_713 dW_715 dW_716 dW_717 ?_
    refine ld_j hx hb hXs hbl hbA hS hL (lv_at hl 1 rfl) (lv_at hl 5 rfl) 3 (by omega) dW_718 dW_719 dW_721 dW_722 dW_723 ?_
    have hPm := hP.sub (ws' := mW q' k tg ad mt rb rt rp nr th pk ex ro) [0, 1, 2, 3, 4, 5, 6] rfl
    have hDm := (hD.sub (ws' := mW q' k tg ad mt rb rt rp nr th pk ex ro) [0, 1, 2, 3, 4, 5, 6] (by decide) rfl).self (sz := H.size)
    have hFm := va_free (wc := mW q' k tg ad mt rb rt rp nr th pk ex ro) hD hS hA [0, 1, 2, 3, 4, 5, 6] rfl
    refine va_calli (va_runV (C := "CapUnitModel") (b := q' 0) (As := [.int (xs (i + 1)), .int (xs (i + 2)), .int (xs (i + 3))]) (rest := []) ⟨hx, hb, hml, hown, hq⟩ (kM_unseal l H.size (fun _ h => Or.inr h) (xs (i + 1)) (xs (i + 2)) (xs (i + 3))) (cwV 3 hq (wA_V q_508 q_509 q_510 q_2 q_511) rfl rfl rfl (by decide +kernel) ⟨Nat.le_of_ble_eq_true rfl, Nat.le_of_ble_eq_true rfl⟩) (zl_preM (c := zCl[1]) (q0 := 0) hK hPm hDm rfl rfl) rfl rfl hl.1 rfl (lv_room (Nat.le_of_ble_eq_true rfl)) dW_724 ⟨by show C + 1 + 1 ≤ 720965; omega, by show S + 6 + 3 ≤ 6933209; omega⟩) hS (fun q _ h => hFm q h) hFm (fun v9 u9 t9 H locs ht9 hvm9 hv9 hB9 hz9 hk9 hS => ?_)
    obtain ⟨hP1, -, hD1⟩ := hB9
    rw [ht9, x_unseal tg ad mt (xs (i + 1)) (xs (i + 2)) (xs (i + 3)), if_pos h0, t_unseal, m_unseal] at hP1
    rw [x_unseal tg ad mt (xs (i + 1)) (xs (i + 2)) (xs (i + 3)), if_pos h0, t_unseal, m_unseal] at hD1
    obtain ⟨hP, hD⟩ := va_join (wr := zO k o (vp_updL out 0 (zBl (zSr (xs (i + 1)) (tC_unseal tg ad mt (xs (i + 1)) (xs (i + 2)) (xs (i + 3)))))) :: cW q k (zS (xs (i + 1)) (tC_unseal tg ad mt (xs (i + 1)) (xs (i + 2)) (xs (i + 3))) tg) (zS (xs (i + 1)) (ad (xs (i + 2)).toNatClampNeg) ad) (zS (xs (i + 1)) (mC_unseal tg ad mt (xs (i + 1)) (xs (i + 2)) (xs (i + 3))) mt) rb rt rp nr) (w1 := mW q' k (zS (xs (i + 1)) (tC_unseal tg ad mt (xs (i + 1)) (xs (i + 2)) (xs (i + 3))) tg) (zS (xs (i + 1)) (ad (xs (i + 2)).toNatClampNeg) ad) (zS (xs (i + 1)) (mC_unseal tg ad mt (xs (i + 1)) (xs (i + 2)) (xs (i + 3))) mt) rb rt rp nr 0 pk ex ro) hP hD [0, 1, 2, 3, 4, 5, 6] [7, 8, 9, 10, 11, 12, 13, 14] rfl rfl (by decide) (by decide) hk9 hFm hP1 hD1
    clear hz9 hk9 hP1 hD1 hPm hDm hFm
    have hv9 := hv9 ((x_unseal tg ad mt (xs (i + 1)) (xs (i + 2)) (xs (i + 3))).trans h0)
    refine lv_istore (lv' := [(6, .int v9), (5, .int (0)), (0, .ref b), (1, .ref (q 0)), (2, .ref (q' 0)), (3, .ref o), (4, .int (zI (i : Nat)))]) hx hb dW_727 hl (by decide) rfl (fun ls hl => ?_)
    refine lv_aload_n hx hb dW_729 rfl (lv_at hl 4 rfl) ?_
    have hPt := hP.sub (ws' := mW q' k (zS (xs (i + 1)) (tC_unseal tg ad mt (xs (i + 1)) (xs (i + 2)) (xs (i + 3))) tg) (zS (xs (i + 1)) (ad (xs (i + 2)).toNatClampNeg) ad) (zS (xs (i + 1)) (mC_unseal tg ad mt (xs (i + 1)) (xs (i + 2)) (xs (i + 3))) mt) rb rt rp nr 0 pk ex ro) [8, 9, 10, 11, 12, 13, 14] rfl
    refine zc_i (va_runV (C := "CapUnitModel") (b := q' 0) (As := []) (rest := []) ⟨hx, hb, hml, hown, hq⟩ (kM_thrown l hPt) (cwV 0 hq (wA_V q_404 q_405 q_406 q_2 q_407) rfl rfl rfl (by decide +kernel) ⟨Nat.le_of_ble_eq_true rfl, Nat.le_of_ble_eq_true rfl⟩) (zr_pre (c := zCl[1]) (q0 := 0) hK hPt rfl rfl) rfl rfl hl.1 rfl (lv_room (Nat.le_of_ble_eq_true rfl)) dW_730 ⟨by show C + 1 + 1 + 0 ≤ 720965; omega, by show S + 6 + 3 + 0 ≤ 6933209; omega⟩) hS (fun locs hS => ?_)
    refine lv_iload hx hb dW_733 (lv_at hl 1 rfl) ?_
    refine lv_icmp_eq (tgt := 740) hx hb dW_735 rfl (fun h9 => ?_) (fun h9 => absurd rfl h9)
    refine lv_iload hx hb dW_740 (lv_at hl 1 rfl) ?_
    refine lv_if_ne (tgt := 764) hx hb dW_742 rfl (fun h9 => absurd rfl h9) (fun h9 => ?_)
    have fin : ∀ locs : List Loc, va_S (fun q => s.heap.size ≤ q) s.heap H locs → W p l e room_1 s m #[Value.ref b] below meth c H locs (C + 1 + 1) (S + 6 + 3) (lw_Z below #[Value.ref b] s) (F0 m 764 ls []) := fun locs hS => lv_goto (tgt := 1452) hx hb dW_764 rfl (W.widen (k := C + 2) (n := S + 9) (by omega) (by omega) (K _ _ _ _ _ _ _ _ _ _ _ _ N H locs ls (i_unseal hI h0) hN hN8 (lv_sub hl [2, 3, 4, 5, 6] rfl) hP hD hS))
    refine lv_aload_n hx hb dW_745 rfl (lv_at hl 5 rfl) ?_
    refine lv_iconst (v := 0) hx hb dW_746 (by decide) ?_
    refine va_lald hx hb hK hP 0 2 rfl rfl (i := 0) (show ¬ ((0 : Int32) < 0 ∨ 1 ≤ (0 : Int32).toNatClampNeg) by decide) dW_747 ?_
    refine zt_l (show _ = zBl (zSr (xs (i + 1)) (tC_unseal tg ad mt (xs (i + 1)) (xs (i + 2)) (xs (i + 3)))) from rfl) ?_
    have eV : zBl (zSr (xs (i + 1)) (tC_unseal tg ad mt (xs (i + 1)) (xs (i + 2)) (xs (i + 3)))) = zBl v9 := by rw [hv9]; exact (r_unseal tg ad mt (xs (i + 1)) (xs (i + 2)) (xs (i + 3)) h0).symm
    refine lv_iload hx hb dW_748 (lv_at hl 0 rfl) ?_
    refine lv_if_eq (tgt := 757) hx hb dW_750 rfl (fun h8 => ?_) (fun h8 => ?_)
    · refine lv_lconst (v := 0) hx hb dW_757 (by decide) ?_
      refine W.lcmp hx hb dW_758 ?_
      refine lv_if_eq (tgt := 764) hx hb dW_759 rfl (fun _ => fin _ hS) (fun h9 => absurd ((lg_cmp_eq _ _).mpr (show zBl (zSr (xs (i + 1)) (tC_unseal tg ad mt (xs (i + 1)) (xs (i + 2)) (xs (i + 3)))) = 0 by rw [eV]; unfold zBl; rw [if_pos h8])) h9)
    · refine lv_lconst (v := 1) hx hb dW_753 (by decide) ?_
      refine lv_goto (tgt := 758) hx hb dW_754 rfl ?_
      refine W.lcmp hx hb dW_758 ?_
      refine lv_if_eq (tgt := 764) hx hb dW_759 rfl (fun _ => fin _ hS) (fun h9 => absurd ((lg_cmp_eq _ _).mpr (show zBl (zSr (xs (i + 1)) (tC_unseal tg ad mt (xs (i + 1)) (xs (i + 2)) (xs (i + 3)))) = 1 by rw [eV]; unfold zBl; rw [if_neg h8])) h9)
  · refine lv_aload_n hx hb dW_680 rfl (lv_at hl 1 rfl) ?_
    refine ld_j hx hb hXs hbl hbA hS hL (lv_at hl 0 rfl) (lv_at hl 4 rfl) 1 (by omega) dW_681 dW_682 dW_684 dW_685 dW_686 ?_
    refine ld_j hx hb hXs hbl hbA hS hL (lv_at hl 0 rfl) (lv_at hl 4 rfl) 2 (by omega) dW_687 dW_688 dW_690 dW_691 dW_692 ?_
    refine ld_j hx hb hXs hbl hbA hS hL (lv_at hl 0 rfl) (lv_at hl 4 rfl) 3 (by omega) dW_693 dW_694 dW_696 dW_697 dW_698 ?_
    refine lv_aload_n hx hb dW_699 rfl (lv_at hl 3 rfl) ?_
    have hPc := hP.sub (ws' := zO k o out :: cW q k tg ad mt rb rt rp nr) [0, 1, 2, 3, 4, 5, 6, 7] rfl
    have hDc := (hD.sub (ws' := zO k o out :: cW q k tg ad mt rb rt rp nr) [0, 1, 2, 3, 4, 5, 6, 7] (by decide) rfl).self (sz := H.size)
    have hFc := va_free (wc := zO k o out :: cW q k tg ad mt rb rt rp nr) hD hS hA [0, 1, 2, 3, 4, 5, 6, 7] rfl
    have hXc := (hZ.kept hS.2.1).narrow hFc
    refine va_calli (vx_runSW (As := [.ref (q 0), .int (xs (i + 1)), .int (xs (i + 2)), .int (xs (i + 3)), .ref o]) (rest := []) ⟨hx, hb, hml, hown, hq⟩ (kL_unseal l hl0 H.size (fun _ h => Or.inr h) o out (xs (i + 1)) (xs (i + 2)) (xs (i + 3))) (vx_cwSW 5 hq (wA_S q_302 q_303 q_0 q_304) rfl rfl rfl (by decide +kernel) ⟨Nat.le_of_ble_eq_true rfl, Nat.le_of_ble_eq_true rfl⟩) (zl_preX hK hPc hDc hXc) rfl rfl hl.1 rfl (lv_room (Nat.le_of_ble_eq_true rfl)) dW_700 ⟨by show C + 1 ≤ 720965; omega, by show S + 6 ≤ 6933209; omega⟩) hS (fun q _ h => hFc q h) hFc (fun v9 u9 t9 H locs ht9 hvm9 hv9 hB9 hz9 hk9 hS => ?_)
    obtain ⟨hP1, -, hD1⟩ := hB9
    rw [ht9, if_neg h0] at hP1
    rw [if_neg h0] at hD1
    subst hv9
    obtain ⟨hP, hD⟩ := va_join (wr := mW q' k tg ad mt rb rt rp nr th pk ex ro) (w1 := zO k o out :: cW q k tg ad mt rb rt rp nr) hP hD [0, 1, 2, 3, 4, 5, 6, 7] [8, 9, 10, 11, 12, 13, 14] rfl rfl (by decide) (by decide) hk9 hFc hP1 hD1
    clear hz9 hk9 hP1 hD1 hPc hDc hFc hXc
    refine lv_istore (lv' := [(5, .int (xC_unseal tg ad mt (xs (i + 1)) (xs (i + 2)) (xs (i + 3)))), (0, .ref b), (1, .ref (q 0)), (2, .ref (q' 0)), (3, .ref o), (4, .int (zI (i : Nat)))]) hx hb dW_703 hl (by decide) rfl (fun ls hl => ?_)
    refine lv_aload_n hx hb dW_705 rfl (lv_at hl 3 rfl) ?_
    refine ld_j hx hb hXs hbl hbA hS hL (lv_at hl 1 rfl) (lv_at hl 5 rfl) 1 (by omega) dW_706 dW_707 dW_709 dW_710 dW_711 ?_
    refine ld_j hx hb hXs hbl hbA hS hL (lv_at hl 1 rfl) (lv_at hl 5 rfl) 2 (by omega) dW_712 dW_713 dW_715 dW_716 dW_717 ?_
    refine ld_j hx hb hXs hbl hbA hS hL (lv_at hl 1 rfl) (lv_at hl 5 rfl) 3 (by omega) dW_718 dW_719 dW_721 dW_722 dW_723 ?_
    have hPm := hP.sub (ws' := mW q' k tg ad mt rb rt rp nr th pk ex ro) [0, 1, 2, 3, 4, 5, 6] rfl
    have hDm := (hD.sub (ws' := mW q' k tg ad mt rb rt rp nr th pk ex ro) [0, 1, 2, 3, 4, 5, 6] (by decide) rfl).self (sz := H.size)
    have hFm := va_free (wc := mW q' k tg ad mt rb rt rp nr th pk ex ro) hD hS hA [0, 1, 2, 3, 4, 5, 6] rfl
    refine va_calli (va_runV (C := "CapUnitModel") (b := q' 0) (As := [.int (xs (i + 1)), .int (xs (i + 2)), .int (xs (i + 3))]) (rest := []) ⟨hx, hb, hml, hown, hq⟩ (kM_unseal l H.size (fun _ h => Or.inr h) (xs (i + 1)) (xs (i + 2)) (xs (i + 3))) (cwV 3 hq (wA_V q_508 q_509 q_510 q_2 q_511) rfl rfl rfl (by decide +kernel) ⟨Nat.le_of_ble_eq_true rfl, Nat.le_of_ble_eq_true rfl⟩) (zl_preM (c := zCl[1]) (q0 := 0) hK hPm hDm rfl rfl) rfl rfl hl.1 rfl (lv_room (Nat.le_of_ble_eq_true rfl)) dW_724 ⟨by show C + 1 + 1 ≤ 720965; omega, by show S + 6 + 3 ≤ 6933209; omega⟩) hS (fun q _ h => hFm q h) hFm (fun v9 u9 t9 H locs ht9 hvm9 hv9 hB9 hz9 hk9 hS => ?_)
    obtain ⟨hP1, -, hD1⟩ := hB9
    rw [ht9, x_unseal tg ad mt (xs (i + 1)) (xs (i + 2)) (xs (i + 3)), if_neg h0] at hP1
    rw [x_unseal tg ad mt (xs (i + 1)) (xs (i + 2)) (xs (i + 3)), if_neg h0] at hD1
    obtain ⟨hP, hD⟩ := va_join (wr := zO k o out :: cW q k tg ad mt rb rt rp nr) (w1 := mW q' k tg ad mt rb rt rp nr (xC_unseal tg ad mt (xs (i + 1)) (xs (i + 2)) (xs (i + 3))) pk ex ro) hP hD [0, 1, 2, 3, 4, 5, 6] [7, 8, 9, 10, 11, 12, 13, 14] rfl rfl (by decide) (by decide) hk9 hFm hP1 hD1
    clear hz9 hk9 hP1 hD1 hPm hDm hFm
    refine lv_istore (lv' := [(6, .int v9), (5, .int (xC_unseal tg ad mt (xs (i + 1)) (xs (i + 2)) (xs (i + 3)))), (0, .ref b), (1, .ref (q 0)), (2, .ref (q' 0)), (3, .ref o), (4, .int (zI (i : Nat)))]) hx hb dW_727 hl (by decide) rfl (fun ls hl => ?_)
    refine lv_aload_n hx hb dW_729 rfl (lv_at hl 4 rfl) ?_
    have hPt := hP.sub (ws' := mW q' k tg ad mt rb rt rp nr (xC_unseal tg ad mt (xs (i + 1)) (xs (i + 2)) (xs (i + 3))) pk ex ro) [8, 9, 10, 11, 12, 13, 14] rfl
    refine zc_i (va_runV (C := "CapUnitModel") (b := q' 0) (As := []) (rest := []) ⟨hx, hb, hml, hown, hq⟩ (kM_thrown l hPt) (cwV 0 hq (wA_V q_404 q_405 q_406 q_2 q_407) rfl rfl rfl (by decide +kernel) ⟨Nat.le_of_ble_eq_true rfl, Nat.le_of_ble_eq_true rfl⟩) (zr_pre (c := zCl[1]) (q0 := 0) hK hPt rfl rfl) rfl rfl hl.1 rfl (lv_room (Nat.le_of_ble_eq_true rfl)) dW_730 ⟨by show C + 1 + 1 + 0 ≤ 720965; omega, by show S + 6 + 3 + 0 ≤ 6933209; omega⟩) hS (fun locs hS => ?_)
    refine lv_iload hx hb dW_733 (lv_at hl 1 rfl) ?_
    refine lv_icmp_eq (tgt := 740) hx hb dW_735 rfl (fun h9 => ?_) (fun h9 => absurd rfl h9)
    refine lv_iload hx hb dW_740 (lv_at hl 1 rfl) ?_
    refine lv_if_ne (tgt := 764) hx hb dW_742 rfl (fun h9 => ?_) (fun h9 => absurd h9 h0)
    exact lv_goto (tgt := 1452) hx hb dW_764 rfl (W.widen (k := C + 2) (n := S + 9) (by omega) (by omega) (K _ _ _ _ _ _ _ _ _ _ _ _ N H locs ls hI hN hN8 (lv_sub hl [2, 3, 4, 5, 6] rfl) hP hD hS))
