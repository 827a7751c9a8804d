set_option maxHeartbeats 4000000 in
set_option maxRecDepth 100000 in
theorem cs_grown {p : Program} {l : Launch} {e : Env} {s : State} {m : MethodId} {below : List Frame} {meth : Method} {c : Code} {b L : Nat} {xs : Nat → Int32} {D : va_G} {k : Nat → ClassId} {q q' : Nat → Nat} {o i C S : Nat} (hl0 : l.stackTraces = false) (G : zC0 p s m meth c b L xs D k) (hi : i + 6 ≤ L) (hC : C + 2 ≤ 720965) (hSl : S + 9 ≤ 6933209) (K : zN p l e s m below meth c b D k q q' o i (C + 2) (S + 9) 1452) : zN p l e s m below meth c b D k q q' o i C S 1439 := by
  obtain ⟨hx, hb, hr, hml, hown, hq, hXs, hbl, hlocks, hK, hZ, hL⟩ := G
  intro tg ad mt rb rt rp nr th pk ex ro out N H locs ls hI hN hN8 hl hP hD hS
  have hbA : ¬ (fun q => s.heap.size ≤ q) b := Nat.not_le.mpr hbl
  have hA : ∀ q, s.heap.size ≤ q → (fun q => s.heap.size ≤ q) q := fun _ h => h
  have hn8 := n_8 hN hN8
  refine lv_aload_n hx hb dW_1439 rfl (lv_at hl 1 rfl) ?_
  have hPc := hP.sub (ws' := cW q k tg ad mt rb rt rp nr) [1, 2, 3, 4, 5, 6, 7] rfl
  refine zc_i (va_runV (C := "CapUnit") (b := q 0) (As := []) (rest := []) ⟨hx, hb, hml, hown, hq⟩ (kC_grown l hPc hN hN8) (cwV 0 hq (wA_V q_76 q_77 q_78 q_1 q_79) rfl rfl rfl (by decide +kernel) ⟨Nat.le_of_ble_eq_true rfl, Nat.le_of_ble_eq_true rfl⟩) (zr_pre (c := zCl[0]) (q0 := 0) hK hPc rfl rfl) rfl rfl hl.1 rfl (lv_room (Nat.le_of_ble_eq_true rfl)) dW_1440 ⟨by show C + 0 ≤ 720965; omega, by show S + 0 ≤ 6933209; omega⟩) hS (fun locs hS => ?_)
  refine lv_aload_n hx hb dW_1443 rfl (lv_at hl 2 rfl) ?_
  have hPm := hP.sub (ws' := mW q' k tg ad mt rb rt rp nr th pk ex ro) [8, 9, 10, 11, 12, 13, 14] rfl
  have hDm := (hD.sub (ws' := mW q' k tg ad mt rb rt rp nr th pk ex ro) [8, 9, 10, 11, 12, 13, 14] (by decide) rfl).self (sz := H.size)
  have hFm := va_free (wc := mW q' k tg ad mt rb rt rp nr th pk ex ro) hD hS hA [8, 9, 10, 11, 12, 13, 14] rfl
  refine va_calli (va_runV (C := "CapUnitModel") (b := q' 0) (As := []) (rest := [.int (zG tg ad mt rb rt rp N 32 0 0)]) ⟨hx, hb, hml, hown, hq⟩ (kM_grown l hN hN8) (cwV 0 hq (wA_V q_550 q_551 q_552 q_2 q_553) rfl rfl rfl (by decide +kernel) ⟨Nat.le_of_ble_eq_true rfl, Nat.le_of_ble_eq_true rfl⟩) (zw_pre (c := zCl[1]) (q0 := 0) hK hPm hDm rfl rfl) rfl rfl hl.1 rfl (lv_room (Nat.le_of_ble_eq_true rfl)) dW_1444 ⟨by show C + 0 ≤ 720965; omega, by show S + 0 ≤ 6933209; omega⟩) hS (fun q _ h => hFm q h) hFm (fun v9 u9 t9 H locs ht9 hvm9 hv9 hB9 hz9 hk9 hS => ?_)
  obtain ⟨hP1, -, hD1⟩ := hB9
  rw [ht9] at hP1
  obtain ⟨hP, hD⟩ := va_join (wr := zO k o out :: cW q k tg ad mt rb rt rp nr) (w1 := mW q' k tg ad mt rb rt rp nr 0 pk ex ro) hP hD [8, 9, 10, 11, 12, 13, 14] [0, 1, 2, 3, 4, 5, 6, 7] rfl rfl (by decide) (by decide) hk9 hFm hP1 hD1
  exact lv_icmp_eq (tgt := 1452) hx hb dW_1447 rfl (fun _ => W.widen (k := C + 2) (n := S + 9) (by omega) (by omega) (K _ _ _ _ _ _ _ _ _ _ _ _ N H locs ls hI hN hN8 hl hP hD hS)) (fun h9 => absurd hv9.symm h9)
