/-! root, bound; the loops of the class. -/
theorem zz_r32 {r : Int32} (h1 : ¬ r < (1 : Int32)) (h2 : r < (32 : Int32)) : vp_in r 32 := by
  rw [vp_in_iff]
  rw [Int32.lt_iff_toInt_lt] at h1 h2
  have e0 : (1 : Int32).toInt = 1 := by decide
  have e32 : (32 : Int32).toInt = 32 := by decide
  omega
theorem zz_r8 {r : Int32} (h2 : r < (8 : Int32)) (h1 : ¬ r < (0 : Int32)) : vp_in r 8 := by
  rw [vp_in_iff]
  rw [Int32.lt_iff_toInt_lt] at h1 h2
  have e0 : (0 : Int32).toInt = 0 := by decide
  have e32 : (8 : Int32).toInt = 8 := by decide
  omega
theorem zI_cl {i : Nat} (h : i < 2147483648) : (zI (i : Nat)).toNatClampNeg = i := by
  rw [← Int32.toNat_toInt, zI_int (by omega) (by omega)]
  rfl
theorem zI_in {i n : Nat} (h : i < n) (hn : n < 2147483648) : vp_in (zI (i : Nat)) n := by
  rw [vp_in_iff, zI_int (by omega) (by omega)]
  omega

def xC_root (tg : Nat → Int32) (ad : Nat → Int32) (mt : Nat → Int32) (nr : Int32) (r : Int32) (b : Int32) (n : Int64) (y : Int32) : Int32 := if r < (1 : Int32) then 1 else (if r < (32 : Int32) then (if (fC_fitsSpace b n) = 0 then 2 else (if y < 0 then 2 else (if y ≤ (4095 : Int32) then (if nr < (8 : Int32) then 0 else 3) else 2))) else 1)
set_option maxHeartbeats 4000000 in
set_option maxRecDepth 100000 in
theorem kC_root (l : Launch) (hl0 : l.stackTraces = false) {D : va_G} {q : Nat → Nat} {k : Nat → ClassId} {tg : Nat → Int32} {ad : Nat → Int32} {mt : Nat → Int32} {rb : Nat → Int64} {rt : Nat → Int64} {rp : Nat → Int32} {nr : Int32} {A : Nat → Prop} (r : Int32) (b : Int32) (n : Int64) (y : Int32) (in0 : ¬ nr < (0 : Int32)) : vx_Met l yC_root wC_root { frames := 6, cells := 1, slots := 6, locals := 101 } (va_Pc [.ref (q 0), .int r, .int b, .long n, .int y] (fun U => va_P D zCl (cW q k tg ad mt rb rt rp nr) U.heap ∧ va_K D zCl (zT k) U ∧ va_D A (cW q k tg ad mt rb rt rp nr) ∧ zX A U U.heap)) (va_Qi (fun v9 (_ : Unit) => xC_root tg ad mt nr r b n y = 0 ∧ v9 = (fC_baseIn (zS r (1 : Int32) tg) (zS r b ad) (zS r (((y <<< ((20 : Int32) &&& 31)) ||| (983040 : Int32)) ||| ((fC_packed (fC_unsigned b) ((fC_unsigned b) + n)) &&& (32767 : Int32))) mt) r).toInt32) (fun _ t => va_P D zCl (cW q k (zS r (1 : Int32) tg) (zS r b ad) (zS r (((y <<< ((20 : Int32) &&& 31)) ||| (983040 : Int32)) ||| ((fC_packed (fC_unsigned b) ((fC_unsigned b) + n)) &&& (32767 : Int32))) mt) (vp_updL rb nr.toNatClampNeg (fC_baseIn (zS r (1 : Int32) tg) (zS r b ad) (zS r (((y <<< ((20 : Int32) &&& 31)) ||| (983040 : Int32)) ||| ((fC_packed (fC_unsigned b) ((fC_unsigned b) + n)) &&& (32767 : Int32))) mt) r)) (vp_updL rt nr.toNatClampNeg (fC_topIn (zS r (1 : Int32) tg) (zS r b ad) (zS r (((y <<< ((20 : Int32) &&& 31)) ||| (983040 : Int32)) ||| ((fC_packed (fC_unsigned b) ((fC_unsigned b) + n)) &&& (32767 : Int32))) mt) r)) (upd rp nr.toNatClampNeg y) (nr + (1 : Int32))) t.heap ∧ va_K D zCl (zT k) t ∧ va_D A (cW q k (zS r (1 : Int32) tg) (zS r b ad) (zS r (((y <<< ((20 : Int32) &&& 31)) ||| (983040 : Int32)) ||| ((fC_packed (fC_unsigned b) ((fC_unsigned b) + n)) &&& (32767 : Int32))) mt) (vp_updL rb nr.toNatClampNeg (fC_baseIn (zS r (1 : Int32) tg) (zS r b ad) (zS r (((y <<< ((20 : Int32) &&& 31)) ||| (983040 : Int32)) ||| ((fC_packed (fC_unsigned b) ((fC_unsigned b) + n)) &&& (32767 : Int32))) mt) r)) (vp_updL rt nr.toNatClampNeg (fC_topIn (zS r (1 : Int32) tg) (zS r b ad) (zS r (((y <<< ((20 : Int32) &&& 31)) ||| (983040 : Int32)) ||| ((fC_packed (fC_unsigned b) ((fC_unsigned b) + n)) &&& (32767 : Int32))) mt) r)) (upd rp nr.toNatClampNeg y) (nr + (1 : Int32)))) A) (vx_X (fun _ : Unit => True) (fun E _ t => zE E (xC_root tg ad mt nr r b n y) ∧ va_P D zCl (cW q k tg ad mt rb rt rp nr) t.heap ∧ va_K D zCl (zT k) t) A) 1 6 A := by
  refine vx_ofW (cc := cC_root) (maxL := 7) (ret := (some .int)) (by decide) rfl ?_
  intro p e s m args below meth c s₁ B hml hnt hv
  obtain ⟨rfl, hP, hK, hD, hX⟩ := hv
  have hx := B.exec
  have hb := B.bytes
  have hr := B.returns
  have hts := atoms_spec (ws := wC_root) B.pre
  have hq : ∀ w ∈ wA, w.before _ s = true := fun w h => hts w (List.mem_cons_of_mem _ h)
  have hown : s.vm.findClass "CapUnit" = some m.cls := findClass_of_methodNamed B.named
  have hlocks := B.notSynchronized
  have hS : va_S A s.heap s.heap [] := va_S.rf
  have hl := lv_entry ([.ref (q 0), .int r, .int b, .long n, .int y]) (n := 7) (Nat.le_of_ble_eq_true rfl)
  rw [lg_entry_eq]
  generalize (lg_sl ([.ref (q 0), .int r, .int b, .long n, .int y]) ++ List.replicate (7 - (lg_sl ([.ref (q 0), .int r, .int b, .long n, .int y])).length) Slot.unset).toArray = ls at hl ⊢
  have hl : lv_has ls 7 [(0, .ref (q 0)), (1, .int r), (2, .int b), (3, .long n), (5, .int y)] := hl
  refine lv_iload_n hx hb dC_root_0 rfl (lv_at hl 1 rfl) ?_
  refine lv_iconst (v := 1) hx hb dC_root_1 (by decide) ?_
  refine lv_icmp_lt (tgt := 11) hx hb dC_root_2 rfl (fun h1 => ?_) (fun h1 => ?_)
  · exact vx_throwS (rest := []) (names := xUp) (A := A) hx hb hl0 hown (by decide +kernel) (by decide +kernel) (hq _ q_109) (hq _ q_6) hX.2.2.2.2.1.choose_spec (x_all hq x_good39 x_bad39 hX.2.1.1 hX.2.2.2.1.1 hX.2.2.2.1.2.1 hX.2.2.2.1.2.2) x_ot39 hX.1.1 hX.1.2 hS (hl.1.trans hml.symm) dC_root_11 dC_root_14 dC_root_15 dC_root_17 dC_root_20 (fun x h9 => (hnt x h9).elim) (Nat.le_of_ble_eq_true rfl) (Nat.le_of_ble_eq_true rfl) (Nat.le_of_ble_eq_true rfl) (Nat.le_of_ble_eq_true rfl) hlocks (fun t9 ha hz hk9 => ⟨(), trivial, ⟨Or.inl ⟨rfl, (by unfold xC_root; rw [if_pos h1])⟩, hP.kept (fun _ q9 hq9 => hk9 q9.1 (vx_lt hP hq9)), va_K.moved ha hK⟩, hz, fun q9 h1 _ => hk9 q9 h1⟩) hS.2.2 (by decide) (by decide)
  · refine lv_iload_n hx hb dC_root_5 rfl (lv_at hl 1 rfl) ?_
    refine lv_bipush (v := 32) hx hb dC_root_6 (by decide) ?_
    refine lv_icmp_lt (tgt := 21) hx hb dC_root_8 rfl (fun h2 => ?_) (fun h2 => ?_)
    · have gr := zz_r32 h1 h2
      refine lv_iload_n hx hb dC_root_21 rfl (lv_at hl 2 rfl) ?_
      refine lv_lload_n hx hb dC_root_22 rfl (lv_at hl 3 rfl) ?_
      refine zc_i (va_runS (As := [.int b, .long n]) (rest := []) ⟨hx, hb, hml, hown, hq⟩ (kC_fitsSpace l s.heap b n) (va_cwS 2 hq (wA_S q_177 q_178 q_1 q_179) rfl rfl rfl (by decide +kernel) ⟨Nat.le_of_ble_eq_true rfl, Nat.le_of_ble_eq_true rfl⟩) ⟨fun a U g mk q => q, fun U hU hW => ⟨rfl, hU⟩⟩ rfl rfl hl.1 rfl (lv_room (Nat.le_of_ble_eq_true rfl)) dC_root_23 ⟨Nat.zero_le _, Nat.zero_le _⟩) hS (fun locs hS => ?_)
      refine lv_if_eq (tgt := 42) hx hb dC_root_26 rfl (fun h3 => ?_) (fun h3 => ?_)
      · exact vx_throwS (rest := []) (names := xUp) (A := A) hx hb hl0 hown (by decide +kernel) (by decide +kernel) (hq _ q_180) (hq _ q_7) hX.2.2.2.2.2.1.choose_spec (x_all hq x_good50 x_bad50 hX.2.1.2.1 hX.2.2.2.1.1 hX.2.2.2.1.2.1 hX.2.2.2.1.2.2) x_ot50 hX.1.1 hX.1.2 hS (hl.1.trans hml.symm) dC_root_42 dC_root_45 dC_root_46 dC_root_48 dC_root_51 (fun x h9 => (hnt x h9).elim) (Nat.le_of_ble_eq_true rfl) (Nat.le_of_ble_eq_true rfl) (Nat.le_of_ble_eq_true rfl) (Nat.le_of_ble_eq_true rfl) hlocks (fun t9 ha hz hk9 => ⟨(), trivial, ⟨Or.inr (Or.inl ⟨rfl, (by unfold xC_root; rw [if_neg h1, if_pos h2, if_pos h3])⟩), hP.kept (fun _ q9 hq9 => hk9 q9.1 (vx_lt hP hq9)), va_K.moved ha hK⟩, hz, fun q9 h1 _ => hk9 q9 h1⟩) hS.2.2 (by decide) (by decide)
      · refine lv_iload hx hb dC_root_29 (lv_at hl 4 rfl) ?_
        refine lv_if_lt (tgt := 42) hx hb dC_root_31 rfl (fun h4 => ?_) (fun h4 => ?_)
        · exact vx_throwS (rest := []) (names := xUp) (A := A) hx hb hl0 hown (by decide +kernel) (by decide +kernel) (hq _ q_180) (hq _ q_7) hX.2.2.2.2.2.1.choose_spec (x_all hq x_good50 x_bad50 hX.2.1.2.1 hX.2.2.2.1.1 hX.2.2.2.1.2.1 hX.2.2.2.1.2.2) x_ot50 hX.1.1 hX.1.2 hS (hl.1.trans hml.symm) dC_root_42 dC_root_45 dC_root_46 dC_root_48 dC_root_51 (fun x h9 => (hnt x h9).elim) (Nat.le_of_ble_eq_true rfl) (Nat.le_of_ble_eq_true rfl) (Nat.le_of_ble_eq_true rfl) (Nat.le_of_ble_eq_true rfl) hlocks (fun t9 ha hz hk9 => ⟨(), trivial, ⟨Or.inr (Or.inl ⟨rfl, (by unfold xC_root; rw [if_neg h1, if_pos h2, if_neg h3, if_pos h4])⟩), hP.kept (fun _ q9 hq9 => hk9 q9.1 (vx_lt hP hq9)), va_K.moved ha hK⟩, hz, fun q9 h1 _ => hk9 q9 h1⟩) hS.2.2 (by decide) (by decide)
        · refine lv_iload hx hb dC_root_34 (lv_at hl 4 rfl) ?_
          refine lv_sipush (v := 4095) hx hb dC_root_36 (by decide) ?_
          refine lv_icmp_le (tgt := 52) hx hb dC_root_39 rfl (fun h5 => ?_) (fun h5 => ?_)
          · refine lv_aload_n hx hb dC_root_52 rfl (lv_at hl 0 rfl) ?_
            refine va_get (D := D) (ci := 0) (v := .int nr) (C := "CapUnit") (T := TC) (N := 7) hx hb hq uC_in hown hK hP 0 rfl rfl 6 (by decide) (hq _ q_25) (fun _ h9 => h9) rfl dC_root_53 ?_
            refine lv_bipush (v := 8) hx hb dC_root_56 (by decide) ?_
            refine lv_icmp_lt (tgt := 71) hx hb dC_root_58 rfl (fun h6 => ?_) (fun h6 => ?_)
            · have gnr := zz_r8 h6 in0
              refine lv_iload_n hx hb dC_root_71 rfl (lv_at hl 2 rfl) ?_
              refine zc_l (va_runS (As := [.int b]) (rest := []) ⟨hx, hb, hml, hown, hq⟩ (kC_unsigned l s.heap b) (va_cwS 1 hq (wA_S q_63 q_64 q_1 q_65) rfl rfl rfl (by decide +kernel) ⟨Nat.le_of_ble_eq_true rfl, Nat.le_of_ble_eq_true rfl⟩) ⟨fun a U g mk q => q, fun U hU hW => ⟨rfl, hU⟩⟩ rfl rfl hl.1 rfl (lv_room (Nat.le_of_ble_eq_true rfl)) dC_root_72 ⟨Nat.zero_le _, Nat.zero_le _⟩) hS (fun locs hS => ?_)
              refine lv_iload_n hx hb dC_root_75 rfl (lv_at hl 2 rfl) ?_
              refine zc_l (va_runS (As := [.int b]) (rest := [.long (fC_unsigned b)]) ⟨hx, hb, hml, hown, hq⟩ (kC_unsigned l s.heap b) (va_cwS 1 hq (wA_S q_63 q_64 q_1 q_65) rfl rfl rfl (by decide +kernel) ⟨Nat.le_of_ble_eq_true rfl, Nat.le_of_ble_eq_true rfl⟩) ⟨fun a U g mk q => q, fun U hU hW => ⟨rfl, hU⟩⟩ rfl rfl hl.1 rfl (lv_room (Nat.le_of_ble_eq_true rfl)) dC_root_76 ⟨Nat.zero_le _, Nat.zero_le _⟩) hS (fun locs hS => ?_)
              refine lv_lload_n hx hb dC_root_79 rfl (lv_at hl 3 rfl) ?_
              refine lv_ladd hx hb dC_root_80 ?_
              refine zc_i (va_runS (As := [.long (fC_unsigned b), .long ((fC_unsigned b) + n)]) (rest := []) ⟨hx, hb, hml, hown, hq⟩ (kC_packed l s.heap (fC_unsigned b) ((fC_unsigned b) + n)) (va_cwS 2 hq (wA_S q_212 q_213 q_1 q_214) rfl rfl rfl (by decide +kernel) ⟨Nat.le_of_ble_eq_true rfl, Nat.le_of_ble_eq_true rfl⟩) ⟨fun a U g mk q => q, fun U hU hW => ⟨rfl, hU⟩⟩ rfl rfl hl.1 rfl (lv_room (Nat.le_of_ble_eq_true rfl)) dC_root_81 ⟨Nat.zero_le _, Nat.zero_le _⟩) hS (fun locs hS => ?_)
              refine lv_sipush (v := 32767) hx hb dC_root_84 (by decide) ?_
              refine lv_iand hx hb dC_root_87 ?_
              refine lv_istore (lv' := [(6, .int ((fC_packed (fC_unsigned b) ((fC_unsigned b) + n)) &&& (32767 : Int32))), (0, .ref (q 0)), (1, .int r), (2, .int b), (3, .long n), (5, .int y)]) hx hb dC_root_88 hl (by decide) rfl (fun ls hl => ?_)
              refine lv_aload_n hx hb dC_root_90 rfl (lv_at hl 1 rfl) ?_
              refine lv_iload_n hx hb dC_root_91 rfl (lv_at hl 2 rfl) ?_
              refine lv_iconst (v := 1) hx hb dC_root_92 (by decide) ?_
              refine lv_iload_n hx hb dC_root_93 rfl (lv_at hl 3 rfl) ?_
              refine lv_iload hx hb dC_root_94 (lv_at hl 5 rfl) ?_
              refine lv_bipush (v := 20) hx hb dC_root_96 (by decide) ?_
              refine lv_ishl hx hb dC_root_98 ?_
              refine lv_ldc (v := 983040) hx hb hown (hts (.constant "CapUnit" 64 983040) (by decide +kernel)) dC_root_99 ?_
              refine lv_ior hx hb dC_root_101 ?_
              refine lv_iload hx hb dC_root_102 (lv_at hl 0 rfl) ?_
              refine lv_ior hx hb dC_root_104 ?_
              refine va_calli (va_runV (C := "CapUnit") (b := q 0) (As := [.int r, .int (1 : Int32), .int b, .int (((y <<< ((20 : Int32) &&& 31)) ||| (983040 : Int32)) ||| ((fC_packed (fC_unsigned b) ((fC_unsigned b) + n)) &&& (32767 : Int32)))]) (rest := []) ⟨hx, hb, hml, hown, hq⟩ (kC_become l r (1 : Int32) b (((y <<< ((20 : Int32) &&& 31)) ||| (983040 : Int32)) ||| ((fC_packed (fC_unsigned b) ((fC_unsigned b) + n)) &&& (32767 : Int32))) gr (Or.inr rfl)) (cwV 4 hq (wA_V q_232 q_234 sC_become q_1 q_235) rfl rfl rfl (by decide +kernel) ⟨Nat.le_of_ble_eq_true rfl, Nat.le_of_ble_eq_true rfl⟩) (zw_pre (c := zCl[0]) (q0 := 0) hK hP hD rfl rfl) rfl rfl hl.1 rfl (lv_room (Nat.le_of_ble_eq_true rfl)) dC_root_105 ⟨Nat.le_of_ble_eq_true rfl, Nat.le_of_ble_eq_true rfl⟩) hS (fun _ _ h9 => h9) (fun _ h9 => h9) (fun v9 u9 t9 H locs ht9 hvm9 hv9 hB9 hz9 hk9 hS => ?_)
              obtain ⟨hP, -, hD⟩ := hB9
              rw [ht9] at hP
              subst hv9
              clear hz9 hk9
              refine lv_pop hx hb dC_root_108 rfl ?_
              refine lv_aload_n hx hb dC_root_109 rfl (lv_at hl 1 rfl) ?_
              refine va_get (D := D) (ci := 0) (v := .ref (q 4)) (C := "CapUnit") (T := TC) (N := 7) hx hb hq uC_in hown hK hP 0 rfl rfl 3 (by decide) (hq _ q_22) (fun _ h9 => h9) rfl dC_root_110 ?_
              refine lv_aload_n hx hb dC_root_113 rfl (lv_at hl 1 rfl) ?_
              refine va_get (D := D) (ci := 0) (v := .int nr) (C := "CapUnit") (T := TC) (N := 7) hx hb hq uC_in hown hK hP 0 rfl rfl 6 (by decide) (hq _ q_25) (fun _ h9 => h9) rfl dC_root_114 ?_
              refine lv_aload_n hx hb dC_root_117 rfl (lv_at hl 1 rfl) ?_
              refine lv_iload_n hx hb dC_root_118 rfl (lv_at hl 2 rfl) ?_
              refine zc_l (va_runV (C := "CapUnit") (b := q 0) (As := [.int r]) (rest := [.int nr, .ref (q 4)]) ⟨hx, hb, hml, hown, hq⟩ (kC_baseIn l hP r gr) (cwV 1 hq (wA_V q_88 q_90 sC_baseIn q_1 q_91) rfl rfl rfl (by decide +kernel) ⟨Nat.le_of_ble_eq_true rfl, Nat.le_of_ble_eq_true rfl⟩) (zr_pre (c := zCl[0]) (q0 := 0) hK hP rfl rfl) rfl rfl hl.1 rfl (lv_room (Nat.le_of_ble_eq_true rfl)) dC_root_119 ⟨Nat.le_of_ble_eq_true rfl, Nat.le_of_ble_eq_true rfl⟩) hS (fun locs hS => ?_)
              refine va_last hx hb hK hP hD hS 4 2 rfl rfl gnr dC_root_122 (fun H locs hP hD hS => ?_)
              have hP : va_P D zCl (cW q k (zS r (1 : Int32) tg) (zS r b ad) (zS r (((y <<< ((20 : Int32) &&& 31)) ||| (983040 : Int32)) ||| ((fC_packed (fC_unsigned b) ((fC_unsigned b) + n)) &&& (32767 : Int32))) mt) (vp_updL rb nr.toNatClampNeg (fC_baseIn (zS r (1 : Int32) tg) (zS r b ad) (zS r (((y <<< ((20 : Int32) &&& 31)) ||| (983040 : Int32)) ||| ((fC_packed (fC_unsigned b) ((fC_unsigned b) + n)) &&& (32767 : Int32))) mt) r)) rt rp nr) H := hP
              have hD : va_D A (cW q k (zS r (1 : Int32) tg) (zS r b ad) (zS r (((y <<< ((20 : Int32) &&& 31)) ||| (983040 : Int32)) ||| ((fC_packed (fC_unsigned b) ((fC_unsigned b) + n)) &&& (32767 : Int32))) mt) (vp_updL rb nr.toNatClampNeg (fC_baseIn (zS r (1 : Int32) tg) (zS r b ad) (zS r (((y <<< ((20 : Int32) &&& 31)) ||| (983040 : Int32)) ||| ((fC_packed (fC_unsigned b) ((fC_unsigned b) + n)) &&& (32767 : Int32))) mt) r)) rt rp nr) := hD
              refine lv_aload_n hx hb dC_root_123 rfl (lv_at hl 1 rfl) ?_
              refine va_get (D := D) (ci := 0) (v := .ref (q 5)) (C := "CapUnit") (T := TC) (N := 7) hx hb hq uC_in hown hK hP 0 rfl rfl 4 (by decide) (hq _ q_23) (fun _ h9 => h9) rfl dC_root_124 ?_
              refine lv_aload_n hx hb dC_root_127 rfl (lv_at hl 1 rfl) ?_
              refine va_get (D := D) (ci := 0) (v := .int nr) (C := "CapUnit") (T := TC) (N := 7) hx hb hq uC_in hown hK hP 0 rfl rfl 6 (by decide) (hq _ q_25) (fun _ h9 => h9) rfl dC_root_128 ?_
              refine lv_aload_n hx hb dC_root_131 rfl (lv_at hl 1 rfl) ?_
              refine lv_iload_n hx hb dC_root_132 rfl (lv_at hl 2 rfl) ?_
              refine zc_l (va_runV (C := "CapUnit") (b := q 0) (As := [.int r]) (rest := [.int nr, .ref (q 5)]) ⟨hx, hb, hml, hown, hq⟩ (kC_topIn l hP r gr) (cwV 1 hq (wA_V q_92 q_94 sC_topIn q_1 q_95) rfl rfl rfl (by decide +kernel) ⟨Nat.le_of_ble_eq_true rfl, Nat.le_of_ble_eq_true rfl⟩) (zr_pre (c := zCl[0]) (q0 := 0) hK hP rfl rfl) rfl rfl hl.1 rfl (lv_room (Nat.le_of_ble_eq_true rfl)) dC_root_133 ⟨Nat.le_of_ble_eq_true rfl, Nat.le_of_ble_eq_true rfl⟩) hS (fun locs hS => ?_)
              refine va_last hx hb hK hP hD hS 5 2 rfl rfl gnr dC_root_136 (fun H locs hP hD hS => ?_)
              have hP : va_P D zCl (cW q k (zS r (1 : Int32) tg) (zS r b ad) (zS r (((y <<< ((20 : Int32) &&& 31)) ||| (983040 : Int32)) ||| ((fC_packed (fC_unsigned b) ((fC_unsigned b) + n)) &&& (32767 : Int32))) mt) (vp_updL rb nr.toNatClampNeg (fC_baseIn (zS r (1 : Int32) tg) (zS r b ad) (zS r (((y <<< ((20 : Int32) &&& 31)) ||| (983040 : Int32)) ||| ((fC_packed (fC_unsigned b) ((fC_unsigned b) + n)) &&& (32767 : Int32))) mt) r)) (vp_updL rt nr.toNatClampNeg (fC_topIn (zS r (1 : Int32) tg) (zS r b ad) (zS r (((y <<< ((20 : Int32) &&& 31)) ||| (983040 : Int32)) ||| ((fC_packed (fC_unsigned b) ((fC_unsigned b) + n)) &&& (32767 : Int32))) mt) r)) rp nr) H := hP
              have hD : va_D A (cW q k (zS r (1 : Int32) tg) (zS r b ad) (zS r (((y <<< ((20 : Int32) &&& 31)) ||| (983040 : Int32)) ||| ((fC_packed (fC_unsigned b) ((fC_unsigned b) + n)) &&& (32767 : Int32))) mt) (vp_updL rb nr.toNatClampNeg (fC_baseIn (zS r (1 : Int32) tg) (zS r b ad) (zS r (((y <<< ((20 : Int32) &&& 31)) ||| (983040 : Int32)) ||| ((fC_packed (fC_unsigned b) ((fC_unsigned b) + n)) &&& (32767 : Int32))) mt) r)) (vp_updL rt nr.toNatClampNeg (fC_topIn (zS r (1 : Int32) tg) (zS r b ad) (zS r (((y <<< ((20 : Int32) &&& 31)) ||| (983040 : Int32)) ||| ((fC_packed (fC_unsigned b) ((fC_unsigned b) + n)) &&& (32767 : Int32))) mt) r)) rp nr) := hD
              refine lv_aload_n hx hb dC_root_137 rfl (lv_at hl 1 rfl) ?_
              refine va_get (D := D) (ci := 0) (v := .ref (q 6)) (C := "CapUnit") (T := TC) (N := 7) hx hb hq uC_in hown hK hP 0 rfl rfl 5 (by decide) (hq _ q_24) (fun _ h9 => h9) rfl dC_root_138 ?_
              refine lv_aload_n hx hb dC_root_141 rfl (lv_at hl 1 rfl) ?_
              refine va_get (D := D) (ci := 0) (v := .int nr) (C := "CapUnit") (T := TC) (N := 7) hx hb hq uC_in hown hK hP 0 rfl rfl 6 (by decide) (hq _ q_25) (fun _ h9 => h9) rfl dC_root_142 ?_
              refine lv_iload hx hb dC_root_145 (lv_at hl 5 rfl) ?_
              refine va_iast hx hb hK hP hD hS 6 1 rfl rfl gnr dC_root_147 (fun H locs hP hD hS => ?_)
              have hP : va_P D zCl (cW q k (zS r (1 : Int32) tg) (zS r b ad) (zS r (((y <<< ((20 : Int32) &&& 31)) ||| (983040 : Int32)) ||| ((fC_packed (fC_unsigned b) ((fC_unsigned b) + n)) &&& (32767 : Int32))) mt) (vp_updL rb nr.toNatClampNeg (fC_baseIn (zS r (1 : Int32) tg) (zS r b ad) (zS r (((y <<< ((20 : Int32) &&& 31)) ||| (983040 : Int32)) ||| ((fC_packed (fC_unsigned b) ((fC_unsigned b) + n)) &&& (32767 : Int32))) mt) r)) (vp_updL rt nr.toNatClampNeg (fC_topIn (zS r (1 : Int32) tg) (zS r b ad) (zS r (((y <<< ((20 : Int32) &&& 31)) ||| (983040 : Int32)) ||| ((fC_packed (fC_unsigned b) ((fC_unsigned b) + n)) &&& (32767 : Int32))) mt) r)) (upd rp nr.toNatClampNeg y) nr) H := hP
              have hD : va_D A (cW q k (zS r (1 : Int32) tg) (zS r b ad) (zS r (((y <<< ((20 : Int32) &&& 31)) ||| (983040 : Int32)) ||| ((fC_packed (fC_unsigned b) ((fC_unsigned b) + n)) &&& (32767 : Int32))) mt) (vp_updL rb nr.toNatClampNeg (fC_baseIn (zS r (1 : Int32) tg) (zS r b ad) (zS r (((y <<< ((20 : Int32) &&& 31)) ||| (983040 : Int32)) ||| ((fC_packed (fC_unsigned b) ((fC_unsigned b) + n)) &&& (32767 : Int32))) mt) r)) (vp_updL rt nr.toNatClampNeg (fC_topIn (zS r (1 : Int32) tg) (zS r b ad) (zS r (((y <<< ((20 : Int32) &&& 31)) ||| (983040 : Int32)) ||| ((fC_packed (fC_unsigned b) ((fC_unsigned b) + n)) &&& (32767 : Int32))) mt) r)) (upd rp nr.toNatClampNeg y) nr) := hD
              refine lv_aload_n hx hb dC_root_148 rfl (lv_at hl 1 rfl) ?_
              refine lv_dup hx hb dC_root_149 rfl ?_
              refine va_get (D := D) (ci := 0) (v := .int nr) (C := "CapUnit") (T := TC) (N := 7) hx hb hq uC_in hown hK hP 0 rfl rfl 6 (by decide) (hq _ q_25) (fun _ h9 => h9) rfl dC_root_150 ?_
              refine lv_iconst (v := 1) hx hb dC_root_153 (by decide) ?_
              refine lv_iadd hx hb dC_root_154 ?_
              refine va_put (D := D) (ci := 0) (v := .int (nr + (1 : Int32))) (ty := .int) (C := "CapUnit") (T := TC) (N := 7) hx hb hq uC_in tyC tyC_ok nmC hown hK hP hD hS 0 rfl rfl 6 (by decide) (hq _ q_25) (fun _ h9 => h9) rfl (by decide +kernel) (by rfl) (by rfl) (Nat.le_of_ble_eq_true rfl) dC_root_155 (fun H locs hP hD hS => ?_)
              have hP : va_P D zCl (cW q k (zS r (1 : Int32) tg) (zS r b ad) (zS r (((y <<< ((20 : Int32) &&& 31)) ||| (983040 : Int32)) ||| ((fC_packed (fC_unsigned b) ((fC_unsigned b) + n)) &&& (32767 : Int32))) mt) (vp_updL rb nr.toNatClampNeg (fC_baseIn (zS r (1 : Int32) tg) (zS r b ad) (zS r (((y <<< ((20 : Int32) &&& 31)) ||| (983040 : Int32)) ||| ((fC_packed (fC_unsigned b) ((fC_unsigned b) + n)) &&& (32767 : Int32))) mt) r)) (vp_updL rt nr.toNatClampNeg (fC_topIn (zS r (1 : Int32) tg) (zS r b ad) (zS r (((y <<< ((20 : Int32) &&& 31)) ||| (983040 : Int32)) ||| ((fC_packed (fC_unsigned b) ((fC_unsigned b) + n)) &&& (32767 : Int32))) mt) r)) (upd rp nr.toNatClampNeg y) (nr + (1 : Int32))) H := hP
              have hD : va_D A (cW q k (zS r (1 : Int32) tg) (zS r b ad) (zS r (((y <<< ((20 : Int32) &&& 31)) ||| (983040 : Int32)) ||| ((fC_packed (fC_unsigned b) ((fC_unsigned b) + n)) &&& (32767 : Int32))) mt) (vp_updL rb nr.toNatClampNeg (fC_baseIn (zS r (1 : Int32) tg) (zS r b ad) (zS r (((y <<< ((20 : Int32) &&& 31)) ||| (983040 : Int32)) ||| ((fC_packed (fC_unsigned b) ((fC_unsigned b) + n)) &&& (32767 : Int32))) mt) r)) (vp_updL rt nr.toNatClampNeg (fC_topIn (zS r (1 : Int32) tg) (zS r b ad) (zS r (((y <<< ((20 : Int32) &&& 31)) ||| (983040 : Int32)) ||| ((fC_packed (fC_unsigned b) ((fC_unsigned b) + n)) &&& (32767 : Int32))) mt) r)) (upd rp nr.toNatClampNeg y) (nr + (1 : Int32))) := hD
              refine lv_aload_n hx hb dC_root_158 rfl (lv_at hl 1 rfl) ?_
              refine lv_iload_n hx hb dC_root_159 rfl (lv_at hl 2 rfl) ?_
              refine zc_l (va_runV (C := "CapUnit") (b := q 0) (As := [.int r]) (rest := []) ⟨hx, hb, hml, hown, hq⟩ (kC_baseIn l hP r gr) (cwV 1 hq (wA_V q_88 q_90 sC_baseIn q_1 q_91) rfl rfl rfl (by decide +kernel) ⟨Nat.le_of_ble_eq_true rfl, Nat.le_of_ble_eq_true rfl⟩) (zr_pre (c := zCl[0]) (q0 := 0) hK hP rfl rfl) rfl rfl hl.1 rfl (lv_room (Nat.le_of_ble_eq_true rfl)) dC_root_160 ⟨Nat.le_of_ble_eq_true rfl, Nat.le_of_ble_eq_true rfl⟩) hS (fun locs hS => ?_)
              refine lv_l2i hx hb dC_root_163 rfl ?_
              refine vx_ret (W.widen (k := 1) (n := 6) (by decide) (by decide) ?_)
              exact W.iret (v := (fC_baseIn (zS r (1 : Int32) tg) (zS r b ad) (zS r (((y <<< ((20 : Int32) &&& 31)) ||| (983040 : Int32)) ||| ((fC_packed (fC_unsigned b) ((fC_unsigned b) + n)) &&& (32767 : Int32))) mt) r).toInt32) hx hb hr (fun t9 ht hW => ⟨⟨_, (), rfl, ⟨(by unfold xC_root; rw [if_neg h1, if_pos h2, if_neg h3, if_neg h4, if_pos h5, if_pos h6]), (rfl)⟩, by rw [ht]; exact hP, va_K.moved hW.alike hK, hD⟩, hS.F ht⟩) hS.2.2 dC_root_164
            · exact vx_throwS (rest := []) (names := xUp) (A := A) hx hb hl0 hown (by decide +kernel) (by decide +kernel) (hq _ q_196) (hq _ q_8) hX.2.2.2.2.2.2.1.choose_spec (x_all hq x_good55 x_bad55 hX.2.1.2.2 hX.2.2.2.1.1 hX.2.2.2.1.2.1 hX.2.2.2.1.2.2) x_ot55 hX.1.1 hX.1.2 hS (hl.1.trans hml.symm) dC_root_61 dC_root_64 dC_root_65 dC_root_67 dC_root_70 (fun x h9 => (hnt x h9).elim) (Nat.le_of_ble_eq_true rfl) (Nat.le_of_ble_eq_true rfl) (Nat.le_of_ble_eq_true rfl) (Nat.le_of_ble_eq_true rfl) hlocks (fun t9 ha hz hk9 => ⟨(), trivial, ⟨Or.inr (Or.inr ⟨rfl, (by unfold xC_root; rw [if_neg h1, if_pos h2, if_neg h3, if_neg h4, if_pos h5, if_neg h6])⟩), hP.kept (fun _ q9 hq9 => hk9 q9.1 (vx_lt hP hq9)), va_K.moved ha hK⟩, hz, fun q9 h1 _ => hk9 q9 h1⟩) hS.2.2 (by decide) (by decide)
          · exact vx_throwS (rest := []) (names := xUp) (A := A) hx hb hl0 hown (by decide +kernel) (by decide +kernel) (hq _ q_180) (hq _ q_7) hX.2.2.2.2.2.1.choose_spec (x_all hq x_good50 x_bad50 hX.2.1.2.1 hX.2.2.2.1.1 hX.2.2.2.1.2.1 hX.2.2.2.1.2.2) x_ot50 hX.1.1 hX.1.2 hS (hl.1.trans hml.symm) dC_root_42 dC_root_45 dC_root_46 dC_root_48 dC_root_51 (fun x h9 => (hnt x h9).elim) (Nat.le_of_ble_eq_true rfl) (Nat.le_of_ble_eq_true rfl) (Nat.le_of_ble_eq_true rfl) (Nat.le_of_ble_eq_true rfl) hlocks (fun t9 ha hz hk9 => ⟨(), trivial, ⟨Or.inr (Or.inl ⟨rfl, (by unfold xC_root; rw [if_neg h1, if_pos h2, if_neg h3, if_neg h4, if_neg h5])⟩), hP.kept (fun _ q9 hq9 => hk9 q9.1 (vx_lt hP hq9)), va_K.moved ha hK⟩, hz, fun q9 h1 _ => hk9 q9 h1⟩) hS.2.2 (by decide) (by decide)
    · exact vx_throwS (rest := []) (names := xUp) (A := A) hx hb hl0 hown (by decide +kernel) (by decide +kernel) (hq _ q_109) (hq _ q_6) hX.2.2.2.2.1.choose_spec (x_all hq x_good39 x_bad39 hX.2.1.1 hX.2.2.2.1.1 hX.2.2.2.1.2.1 hX.2.2.2.1.2.2) x_ot39 hX.1.1 hX.1.2 hS (hl.1.trans hml.symm) dC_root_11 dC_root_14 dC_root_15 dC_root_17 dC_root_20 (fun x h9 => (hnt x h9).elim) (Nat.le_of_ble_eq_true rfl) (Nat.le_of_ble_eq_true rfl) (Nat.le_of_ble_eq_true rfl) (Nat.le_of_ble_eq_true rfl) hlocks (fun t9 ha hz hk9 => ⟨(), trivial, ⟨Or.inl ⟨rfl, (by unfold xC_root; rw [if_neg h1, if_neg h2])⟩, hP.kept (fun _ q9 hq9 => hk9 q9.1 (vx_lt hP hq9)), va_K.moved ha hK⟩, hz, fun q9 h1 _ => hk9 q9 h1⟩) hS.2.2 (by decide) (by decide)
def fC_bound (tg : Nat → Int32) (ad : Nat → Int32) (mt : Nat → Int32) (z : Int32) (a : Int32) (y : Int32) : Int64 := if y = 0 then (fC_baseOf z a) else (fC_topOf z a)
set_option maxHeartbeats 4000000 in
set_option maxRecDepth 100000 in
theorem kC_bound (l : Launch) {D : va_G} {q : Nat → Nat} {k : Nat → ClassId} {tg : Nat → Int32} {ad : Nat → Int32} {mt : Nat → Int32} {rb : Nat → Int64} {rt : Nat → Int64} {rp : Nat → Int32} {nr : Int32} {H : Heap} (hP : va_P D zCl (cW q k tg ad mt rb rt rp nr) H) (z : Int32) (a : Int32) (y : Int32)  : Met l yC_bound wC_bound { frames := 3, cells := 0, slots := 0, locals := 77 } (va_Pc [.ref (q 0), .int z, .int a, .int y] (fun U => U.heap = H ∧ va_K D zCl (zT k) U)) (va_Ql (fun v9 (_ : Unit) => v9 = fC_bound tg ad mt z a y) (fun _ t => t.heap = H) (fun _ => False)) 0 0 (fun _ => False) := by
  refine Met.ofW (cc := cC_bound) (maxL := 4) (ret := (some .long)) (by decide) rfl ?_
  intro p e s m args below meth c s₁ B hml hv
  obtain ⟨rfl, hH, hK⟩ := hv
  subst hH
  have hx := B.exec
  have hb := B.bytes
  have hr := B.returns
  have hts := atoms_spec (ws := wC_bound) B.pre
  have hq : ∀ w ∈ wA, w.before _ s = true := fun w h => hts w (List.mem_cons_of_mem _ h)
  have hown : s.vm.findClass "CapUnit" = some m.cls := findClass_of_methodNamed B.named
  have hlocks := B.notSynchronized
  have hS : va_S (fun _ => False) s.heap s.heap [] := va_S.rf
  have hl := lv_entry ([.ref (q 0), .int z, .int a, .int y]) (n := 4) (Nat.le_of_ble_eq_true rfl)
  rw [lg_entry_eq]
  generalize (lg_sl ([.ref (q 0), .int z, .int a, .int y]) ++ List.replicate (4 - (lg_sl ([.ref (q 0), .int z, .int a, .int y])).length) Slot.unset).toArray = ls at hl ⊢
  have hl : lv_has ls 4 [(0, .ref (q 0)), (1, .int z), (2, .int a), (3, .int y)] := hl
  refine lv_iload_n hx hb dC_bound_0 rfl (lv_at hl 3 rfl) ?_
  refine lv_if_eq (tgt := 12) hx hb dC_bound_1 rfl (fun h1 => ?_) (fun h1 => ?_)
  · refine lv_iload_n hx hb dC_bound_12 rfl (lv_at hl 1 rfl) ?_
    refine lv_iload_n hx hb dC_bound_13 rfl (lv_at hl 2 rfl) ?_
    refine zc_l (va_runS (As := [.int z, .int a]) (rest := []) ⟨hx, hb, hml, hown, hq⟩ (kC_baseOf l s.heap z a) (va_cwS 2 hq (wA_S q_73 q_74 q_1 q_75) rfl rfl rfl (by decide +kernel) ⟨Nat.le_of_ble_eq_true rfl, Nat.le_of_ble_eq_true rfl⟩) ⟨fun a U g mk q => q, fun U hU hW => ⟨rfl, hU⟩⟩ rfl rfl hl.1 rfl (lv_room (Nat.le_of_ble_eq_true rfl)) dC_bound_14 ⟨Nat.zero_le _, Nat.zero_le _⟩) hS (fun locs hS => ?_)
    exact W.lret (v := fC_baseOf z a) hx hb hr (fun t9 ht hW => ⟨⟨_, (), rfl, (by unfold fC_bound; rw [if_pos h1]), ht⟩, hS.F ht⟩) hS.2.2 dC_bound_17
  · refine lv_iload_n hx hb dC_bound_4 rfl (lv_at hl 1 rfl) ?_
    refine lv_iload_n hx hb dC_bound_5 rfl (lv_at hl 2 rfl) ?_
    refine zc_l (va_runS (As := [.int z, .int a]) (rest := []) ⟨hx, hb, hml, hown, hq⟩ (kC_topOf l s.heap z a) (va_cwS 2 hq (wA_S q_48 q_49 q_1 q_50) rfl rfl rfl (by decide +kernel) ⟨Nat.le_of_ble_eq_true rfl, Nat.le_of_ble_eq_true rfl⟩) ⟨fun a U g mk q => q, fun U hU hW => ⟨rfl, hU⟩⟩ rfl rfl hl.1 rfl (lv_room (Nat.le_of_ble_eq_true rfl)) dC_bound_6 ⟨Nat.zero_le _, Nat.zero_le _⟩) hS (fun locs hS => ?_)
    refine lv_goto (tgt := 17) hx hb dC_bound_9 rfl ?_
    exact W.lret (v := fC_topOf z a) hx hb hr (fun t9 ht hW => ⟨⟨_, (), rfl, (by unfold fC_bound; rw [if_neg h1]), ht⟩, hS.F ht⟩) hS.2.2 dC_bound_17
