/-! The law's switch and its loop. -/
theorem zNext {p : Program} {l : Launch} {e : Env} {s : State} {m : MethodId} {below : List Frame} {meth : Method} {c : Code} {b L : Nat} {xs : Nat → Int32} {D : va_G} {k : Nat → ClassId} {q q' : Nat → Nat} {o : Nat} {i C S : Nat} (G : zC0 p s m meth c b L xs D k) (K : zN p l e s m below meth c b D k q q' o (i + 6) C S 23) : zN p l e s m below meth c b D k q q' o i C S 1452 := by
  obtain ⟨hx, hb, hr, hml, hown, hq, hXs, hbl, hlocks, hK, hZ, hL⟩ := G
  intro tg ad mt rb rt rp nr th pk ex ro out N H locs ls hI hN hN8 hl hP hD hS
  refine lv_iinc (k := 4) (v := zI ((i + 6 : Nat) : Int)) (lv' := [(4, .int (zI ((i + 6 : Nat) : Int))), (0, .ref b), (1, .ref (q 0)), (2, .ref (q' 0)), (3, .ref o)]) hx hb dW_1452 hl rfl (by show zI _ + zI 6 = _; rw [zI_add]; rfl) (by decide) rfl (fun ls hl => ?_)
  refine lv_goto (tgt := 23) hx hb dW_1455 rfl ?_
  exact K tg ad mt rb rt rp nr th pk ex ro out N H locs ls hI hN hN8 (lv_sub hl [1, 2, 3, 4, 0] rfl) hP hD hS
theorem zHead {p : Program} {l : Launch} {e : Env} {s : State} {m : MethodId} {below : List Frame} {meth : Method} {c : Code} {b L : Nat} {xs : Nat → Int32} {D : va_G} {k : Nat → ClassId} {q q' : Nat → Nat} {o : Nat} {i C S : Nat} (G : zC0 p s m meth c b L xs D k) (h2 : i ≤ L + 6) (h3 : C ≤ 720965) (h4 : S ≤ 6933209) (go : i + 6 ≤ L → zN p l e s m below meth c b D k q q' o i C S 33) : zN p l e s m below meth c b D k q q' o i C S 23 := by
  obtain ⟨hx, hb, hr, hml, hown, hq, hXs, hbl, hlocks, hK, hZ, hL⟩ := G
  intro tg ad mt rb rt rp nr th pk ex ro out N H locs ls hI hN hN8 hl hP hD hS
  have hbA : ¬ (fun q => s.heap.size ≤ q) b := Nat.not_le.mpr hbl
  refine lv_iload hx hb dW_23 (lv_at hl 4 rfl) ?_
  refine lv_aload_n hx hb dW_25 rfl (lv_at hl 0 rfl) ?_
  refine va_slen hx hb hXs hbl hbA hS dW_26 ?_
  refine lv_bipush (v := 6) hx hb dW_27 (by decide) ?_
  refine lv_isub hx hb dW_29 ?_
  refine zt_i (show Int32.ofNat L - 6 = zI ((L : Int) - 6) by
    have e1 : Int32.ofNat L = zI (L : Nat) := (Int32.ofInt_eq_ofNat).symm
    have e2 : (6 : Int32) = zI 6 := by decide
    rw [e1, e2, zI_sub]) ?_
  refine lv_icmp_gt (tgt := 1458) hx hb dW_30 rfl (fun h => ?_) (fun h => ?_)
  · refine lv_iconst (v := 1) hx hb dW_1458 (by decide) ?_
    refine va_forget hS.2.2 ?_
    refine W.widen (k := 720965) (n := 6933209) h3 h4 ?_
    exact lw_ret hx hb hr hlocks dW_1459
  · rw [zI_lt (by omega) (by omega) (by omega) (by omega)] at h
    exact go (by omega) tg ad mt rb rt rp nr th pk ex ro out N H locs ls hI hN hN8 hl hP hD hS
set_option maxRecDepth 100000 in
theorem zSwitch {p : Program} {l : Launch} {e : Env} {s : State} {m : MethodId} {below : List Frame} {meth : Method} {c : Code} {b L : Nat} {xs : Nat → Int32} {D : va_G} {k : Nat → ClassId} {q q' : Nat → Nat} {o : Nat} {i C S : Nat} (hl0 : l.stackTraces = false) (G : zC0 p s m meth c b L xs D k) (hi : i + 6 ≤ L) (hC : C + 2 ≤ 720965) (hSl : S + 9 ≤ 6933209) (K : zN p l e s m below meth c b D k q q' o i (C + 2) (S + 9) 1452) : zN p l e s m below meth c b D k q q' o i C S 33 := by
  have G0 := G
  obtain ⟨hx, hb, hr, hml, hown, hq, hXs, hbl, hlocks, hK, hZ, hL⟩ := G
  intro tg ad mt rb rt rp nr th pk ex ro out N H locs ls hI hN hN8 hl hP hD hS
  have hbA : ¬ (fun q => s.heap.size ≤ q) b := Nat.not_le.mpr hbl
  refine ld_0 hx hb hXs hbl hbA hS hL (lv_at hl 0 rfl) (lv_at hl 4 rfl) (by omega) dW_33 dW_34 dW_36 ?_
  refine lv_bipush (v := 15) hx hb dW_37 (by decide) ?_
  refine lv_iand hx hb dW_39 ?_
  have e : xs i &&& (15 : Int32) = zI ((xs i).toInt % 16) := by
    have h := zm_15 (xs i).toInt
    rwa [zI_of] at h
  refine zt_i e ?_
  have hv : 0 ≤ (xs i).toInt % 16 ∧ (xs i).toInt % 16 < 16 := by omega
  generalize (xs i).toInt % 16 = v at hv
  by_cases h0 : v = 0
  · subst h0
    refine lv_tableIn (off := 80) (tgt := 120) hx hb dW_40 (by decide) (by decide) (by decide) rfl ?_
    exact cs_root hl0 G0 hi hC hSl K tg ad mt rb rt rp nr th pk ex ro out N H locs ls hI hN hN8 hl hP hD hS
  by_cases h1 : v = 1
  · subst h1
    refine lv_tableIn (off := 204) (tgt := 244) hx hb dW_40 (by decide) (by decide) (by decide) rfl ?_
    exact cs_put hl0 G0 hi hC hSl K tg ad mt rb rt rp nr th pk ex ro out N H locs ls hI hN hN8 hl hP hD hS
  by_cases h2 : v = 2
  · subst h2
    refine lv_tableIn (off := 264) (tgt := 304) hx hb dW_40 (by decide) (by decide) (by decide) rfl ?_
    exact cs_narrow hl0 G0 hi hC hSl K tg ad mt rb rt rp nr th pk ex ro out N H locs ls hI hN hN8 hl hP hD hS
  by_cases h3 : v = 3
  · subst h3
    refine lv_tableIn (off := 379) (tgt := 419) hx hb dW_40 (by decide) (by decide) (by decide) rfl ?_
    exact cs_move hl0 G0 hi hC hSl K tg ad mt rb rt rp nr th pk ex ro out N H locs ls hI hN hN8 hl hP hD hS
  by_cases h4 : v = 4
  · subst h4
    refine lv_tableIn (off := 466) (tgt := 506) hx hb dW_40 (by decide) (by decide) (by decide) rfl ?_
    exact cs_keep hl0 G0 hi hC hSl K tg ad mt rb rt rp nr th pk ex ro out N H locs ls hI hN hN8 hl hP hD hS
  by_cases h5 : v = 5
  · subst h5
    refine lv_tableIn (off := 553) (tgt := 593) hx hb dW_40 (by decide) (by decide) (by decide) rfl ?_
    exact cs_seal hl0 G0 hi hC hSl K tg ad mt rb rt rp nr th pk ex ro out N H locs ls hI hN hN8 hl hP hD hS
  by_cases h6 : v = 6
  · subst h6
    refine lv_tableIn (off := 640) (tgt := 680) hx hb dW_40 (by decide) (by decide) (by decide) rfl ?_
    exact cs_unseal hl0 G0 hi hC hSl K tg ad mt rb rt rp nr th pk ex ro out N H locs ls hI hN hN8 hl hP hD hS
  by_cases h7 : v = 7
  · subst h7
    refine lv_tableIn (off := 727) (tgt := 767) hx hb dW_40 (by decide) (by decide) (by decide) rfl ?_
    exact cs_gate hl0 G0 hi hC hSl K tg ad mt rb rt rp nr th pk ex ro out N H locs ls hI hN hN8 hl hP hD hS
  by_cases h8 : v = 8
  · subst h8
    refine lv_tableIn (off := 802) (tgt := 842) hx hb dW_40 (by decide) (by decide) (by decide) rfl ?_
    exact cs_build hl0 G0 hi hC hSl K tg ad mt rb rt rp nr th pk ex ro out N H locs ls hI hN hN8 hl hP hD hS
  by_cases h9 : v = 9
  · subst h9
    refine lv_tableIn (off := 889) (tgt := 929) hx hb dW_40 (by decide) (by decide) (by decide) rfl ?_
    exact cs_subset hl0 G0 hi hC hSl K tg ad mt rb rt rp nr th pk ex ro out N H locs ls hI hN hN8 hl hP hD hS
  by_cases h10 : v = 10
  · subst h10
    refine lv_tableIn (off := 964) (tgt := 1004) hx hb dW_40 (by decide) (by decide) (by decide) rfl ?_
    exact cs_told hl0 G0 hi hC hSl K tg ad mt rb rt rp nr th pk ex ro out N H locs ls hI hN hN8 hl hP hD hS
  by_cases h11 : v = 11
  · subst h11
    refine lv_tableIn (off := 1031) (tgt := 1071) hx hb dW_40 (by decide) (by decide) (by decide) rfl ?_
    exact cs_reaches hl0 G0 hi hC hSl K tg ad mt rb rt rp nr th pk ex ro out N H locs ls hI hN hN8 hl hP hD hS
  by_cases h12 : v = 12
  · subst h12
    refine lv_tableIn (off := 1118) (tgt := 1158) hx hb dW_40 (by decide) (by decide) (by decide) rfl ?_
    exact cs_pack hl0 G0 hi hC hSl K tg ad mt rb rt rp nr th pk ex ro out N H locs ls hI hN hN8 hl hP hD hS
  by_cases h13 : v = 13
  · subst h13
    refine lv_tableIn (off := 1218) (tgt := 1258) hx hb dW_40 (by decide) (by decide) (by decide) rfl ?_
    exact cs_bound hl0 G0 hi hC hSl K tg ad mt rb rt rp nr th pk ex ro out N H locs ls hI hN hN8 hl hP hD hS
  by_cases h14 : v = 14
  · subst h14
    refine lv_tableIn (off := 1284) (tgt := 1324) hx hb dW_40 (by decide) (by decide) (by decide) rfl ?_
    exact cs_rounded hl0 G0 hi hC hSl K tg ad mt rb rt rp nr th pk ex ro out N H locs ls hI hN hN8 hl hP hD hS
  by_cases h15 : v = 15
  · subst h15
    refine lv_tableIn (off := 1399) (tgt := 1439) hx hb dW_40 (by decide) (by decide) (by decide) rfl ?_
    exact cs_grown hl0 G0 hi hC hSl K tg ad mt rb rt rp nr th pk ex ro out N H locs ls hI hN hN8 hl hP hD hS
  omega
theorem zLoop {p : Program} {l : Launch} {e : Env} {s : State} {m : MethodId} {below : List Frame} {meth : Method} {c : Code} {b L : Nat} {xs : Nat → Int32} {D : va_G} {k : Nat → ClassId} {q q' : Nat → Nat} {o : Nat} (hl0 : l.stackTraces = false) (G : zC0 p s m meth c b L xs D k) : ∀ (n i C S : Nat), L < i + 6 * n + 6 → i ≤ L + 6 → C + 2 * n ≤ 720965 → S + 9 * n ≤ 6933209 → zN p l e s m below meth c b D k q q' o i C S 23 := by
  intro n
  induction n with
  | zero =>
    intro i C S h1 h2 h3 h4
    exact zHead G h2 (by omega) (by omega) (fun h => by omega)
  | succ n ih =>
    intro i C S h1 h2 h3 h4
    refine zHead G h2 (by omega) (by omega) (fun h => ?_)
    refine zSwitch hl0 G h (by omega) (by omega) ?_
    refine zNext G ?_
    exact ih (i + 6) (C + 2) (S + 9) (by omega) (by omega) (by omega) (by omega)
