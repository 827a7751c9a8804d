/-! The law's wrappers: each answers the code of what was thrown, 0 where nothing was. -/
def zBl (x : Int32) : Int64 := if x = 0 then 0 else 1
set_option maxHeartbeats 4000000 in
set_option maxRecDepth 100000 in
theorem kL_root (l : Launch) (hl0 : l.stackTraces = false) {D : va_G} {q : Nat → Nat} {k : Nat → ClassId} {tg : Nat → Int32} {ad : Nat → Int32} {mt : Nat → Int32} {rb : Nat → Int64} {rt : Nat → Int64} {rp : Nat → Int32} {nr : Int32} {A : Nat → Prop} (sz : Nat) (hA0 : ∀ q, sz ≤ q → A q) (o : Nat) (out : Nat → Int64) (r : Int32) (b : Int32) (n : Int64) (y : Int32) (in0 : ¬ nr < (0 : Int32)) : Met l yL_root wL_root { frames := 7, cells := 1, slots := 6, locals := 127 } (va_Pc [.ref (q 0), .int r, .int b, .long n, .int y, .ref o] (fun U => U.heap.size = sz ∧ va_P D zCl ((o, .inl (k 2, 1, .inr (.inl out))) :: cW q k tg ad mt rb rt rp nr) U.heap ∧ va_K D zCl (zT k) U ∧ va_D A ((o, .inl (k 2, 1, .inr (.inl out))) :: cW q k tg ad mt rb rt rp nr) ∧ zX A U U.heap)) (va_Qi (fun v9 (_ : Unit) => v9 = xC_root tg ad mt nr r b n y) (fun _ t => va_P D zCl (if xC_root tg ad mt nr r b n y = 0 then (o, .inl (k 2, 1, .inr (.inl (vp_updL out 0 (((fC_baseIn (zS r (1 : Int32) tg) (zS r b ad) (zS r (((y <<< ((20 : Int32) &&& 31)) ||| (983040 : Int32)) ||| ((fC_packed (fC_unsigned b) ((fC_unsigned b) + n)) &&& (32767 : Int32))) mt) r).toInt32).toInt64))))) :: cW q k (zS r (1 : Int32) tg) (zS r b ad) (zS r (((y <<< ((20 : Int32) &&& 31)) ||| (983040 : Int32)) ||| ((fC_packed (fC_unsigned b) ((fC_unsigned b) + n)) &&& (32767 : Int32))) mt) (vp_updL rb nr.toNatClampNeg (fC_baseIn (zS r (1 : Int32) tg) (zS r b ad) (zS r (((y <<< ((20 : Int32) &&& 31)) ||| (983040 : Int32)) ||| ((fC_packed (fC_unsigned b) ((fC_unsigned b) + n)) &&& (32767 : Int32))) mt) r)) (vp_updL rt nr.toNatClampNeg (fC_topIn (zS r (1 : Int32) tg) (zS r b ad) (zS r (((y <<< ((20 : Int32) &&& 31)) ||| (983040 : Int32)) ||| ((fC_packed (fC_unsigned b) ((fC_unsigned b) + n)) &&& (32767 : Int32))) mt) r)) (upd rp nr.toNatClampNeg y) (nr + (1 : Int32)) else (o, .inl (k 2, 1, .inr (.inl out))) :: cW q k tg ad mt rb rt rp nr) t.heap ∧ va_K D zCl (zT k) t ∧ va_D A (if xC_root tg ad mt nr r b n y = 0 then (o, .inl (k 2, 1, .inr (.inl (vp_updL out 0 (((fC_baseIn (zS r (1 : Int32) tg) (zS r b ad) (zS r (((y <<< ((20 : Int32) &&& 31)) ||| (983040 : Int32)) ||| ((fC_packed (fC_unsigned b) ((fC_unsigned b) + n)) &&& (32767 : Int32))) mt) r).toInt32).toInt64))))) :: cW q k (zS r (1 : Int32) tg) (zS r b ad) (zS r (((y <<< ((20 : Int32) &&& 31)) ||| (983040 : Int32)) ||| ((fC_packed (fC_unsigned b) ((fC_unsigned b) + n)) &&& (32767 : Int32))) mt) (vp_updL rb nr.toNatClampNeg (fC_baseIn (zS r (1 : Int32) tg) (zS r b ad) (zS r (((y <<< ((20 : Int32) &&& 31)) ||| (983040 : Int32)) ||| ((fC_packed (fC_unsigned b) ((fC_unsigned b) + n)) &&& (32767 : Int32))) mt) r)) (vp_updL rt nr.toNatClampNeg (fC_topIn (zS r (1 : Int32) tg) (zS r b ad) (zS r (((y <<< ((20 : Int32) &&& 31)) ||| (983040 : Int32)) ||| ((fC_packed (fC_unsigned b) ((fC_unsigned b) + n)) &&& (32767 : Int32))) mt) r)) (upd rp nr.toNatClampNeg y) (nr + (1 : Int32)) else (o, .inl (k 2, 1, .inr (.inl out))) :: cW q k tg ad mt rb rt rp nr)) A) 1 6 A := by
  refine va_MetW (cc := cL_root) (maxL := 8) (ret := (some .int)) (hh := [(0, 14, 17, 13), (0, 14, 21, 15), (0, 14, 25, 17)]) (by decide) rfl ?_
  intro p e s m args below meth c s₁ B hml hv
  obtain ⟨rfl, hsz, hP, hK, hD, hX⟩ := hv
  have hx := B.exec
  have hb := B.bytes
  have hr := B.returns
  have hts := atoms_spec (ws := wL_root) B.pre
  have hq : ∀ w ∈ wA, w.before _ s = true := fun w h => hts w (List.mem_cons_of_mem _ h)
  have hown : s.vm.findClass "CapUnitLaw" = some m.cls := findClass_of_methodNamed B.named
  have hlocks := B.notSynchronized
  have hS : va_S A s.heap s.heap [] := va_S.rf
  have hl := lv_entry ([.ref (q 0), .int r, .int b, .long n, .int y, .ref o]) (n := 8) (Nat.le_of_ble_eq_true rfl)
  rw [lg_entry_eq]
  generalize (lg_sl ([.ref (q 0), .int r, .int b, .long n, .int y, .ref o]) ++ List.replicate (8 - (lg_sl ([.ref (q 0), .int r, .int b, .long n, .int y, .ref o])).length) Slot.unset).toArray = ls at hl ⊢
  have hl : lv_has ls 8 [(0, .ref (q 0)), (1, .int r), (2, .int b), (3, .long n), (5, .int y), (6, .ref o)] := hl
  have hA : ∀ q, s.heap.size ≤ q → A q := fun q h => hA0 q (by omega)
  have htab := vx_table (x := yL_root) B (hts _ List.mem_cons_self)
  refine lv_aload hx hb dL_root_0 (lv_at hl 5 rfl) ?_
  refine lv_iconst (v := 0) hx hb dL_root_2 (by decide) ?_
  refine lv_aload_n hx hb dL_root_3 rfl (lv_at hl 0 rfl) ?_
  refine lv_iload_n hx hb dL_root_4 rfl (lv_at hl 1 rfl) ?_
  refine lv_iload_n hx hb dL_root_5 rfl (lv_at hl 2 rfl) ?_
  refine lv_lload_n hx hb dL_root_6 rfl (lv_at hl 3 rfl) ?_
  refine lv_iload hx hb dL_root_7 (lv_at hl 4 rfl) ?_
  have hPc := hP.sub (ws' := cW q k tg ad mt rb rt rp nr) [1, 2, 3, 4, 5, 6, 7] rfl
  have hDc0 := hD.sub (ws' := cW q k tg ad mt rb rt rp nr) [1, 2, 3, 4, 5, 6, 7] (by decide) rfl
  have hDc := hDc0.self (sz := s.heap.size)
  have hFc := va_free (wc := cW q k tg ad mt rb rt rp nr) hD hS hA [1, 2, 3, 4, 5, 6, 7] rfl
  have hXc := hX.narrow hFc
  refine vx_calli (vx_runV (C := "CapUnit") (b := q 0) (As := [.int r, .int b, .long n, .int y]) (rest := [.int (0 : Int32), .ref o]) ⟨hx, hb, hml, hown, hq⟩ (kC_root l hl0 r b n y in0) (cwV 4 hq (wA_V q_105 q_106 q_107 q_1 q_108) rfl rfl rfl (by decide +kernel) ⟨Nat.le_of_ble_eq_true rfl, Nat.le_of_ble_eq_true rfl⟩) (zx_pre (c := zCl[0]) (q0 := 0) hK hPc hDc hXc rfl rfl) rfl rfl hl.1 rfl (lv_room (Nat.le_of_ble_eq_true rfl)) dL_root_9 ⟨Nat.le_of_ble_eq_true rfl, Nat.le_of_ble_eq_true rfl⟩) hS (fun q _ h => hFc q h) hFc (fun q _ h => hFc q h) (fun E ce q9 u9 t9 H locs ht9 hvm9 _ hB9 hz9 hk9 hS hce hcv hcl => ?_) (fun v9 u9 t9 H locs ht9 hvm9 hv9 hB9 hz9 hk9 hS => ?_)
  · obtain ⟨hE, hP1, hK1⟩ := hB9
    rw [ht9] at hP1
    obtain ⟨hP, hD⟩ := va_join (wr := [(o, .inl (k 2, 1, .inr (.inl out)))]) (w1 := cW q k tg ad mt rb rt rp nr) hP hD [1, 2, 3, 4, 5, 6, 7] [0] rfl rfl (by decide) (by decide) hk9 hFc hP1 hDc
    have hP : va_P D zCl ((o, .inl (k 2, 1, .inr (.inl out))) :: cW q k tg ad mt rb rt rp nr) H := hP
    have hD : va_D A ((o, .inl (k 2, 1, .inr (.inl out))) :: cW q k tg ad mt rb rt rp nr) := hD
    rcases hE with ⟨hEn, hxe⟩ | ⟨hEn, hxe⟩ | ⟨hEn, hxe⟩
    · subst hEn
      refine vx_catch (own := "CapUnitLaw") (name := xIO) hown [] ⟨0, 14, 17, 13⟩ [⟨0, 14, 21, 15⟩, ⟨0, 14, 25, 17⟩] (htab.trans rfl) (fun _ h => absurd h List.not_mem_nil) (by decide) (by decide) (hq _ q_102) (va_Nw.use rfl hX.2.1.1) hce hcv hcl ?_
      refine lv_astore (lv' := [(7, .ref q9), (0, .ref (q 0)), (1, .int r), (2, .int b), (3, .long n), (5, .int y), (6, .ref o)]) hx hb dL_root_17 hl (by decide) rfl (fun ls hl => ?_)
      refine lv_iconst (v := 1) hx hb dL_root_19 (by decide) ?_
      rw [if_neg (show ¬ xC_root tg ad mt nr r b n y = 0 by rw [hxe]; decide)]
      exact W.iret (v := (1 : Int32)) hx hb hr (fun t9 ht hW => ⟨⟨_, (), rfl, hxe.symm, by rw [ht]; exact hP, va_K.moved hW.alike hK, hD⟩, hS.F ht⟩) hS.2.2 dL_root_20
    · subst hEn
      refine vx_catch (own := "CapUnitLaw") (name := xIA) hown [⟨0, 14, 17, 13⟩] ⟨0, 14, 21, 15⟩ [⟨0, 14, 25, 17⟩] (htab.trans rfl) (List.forall_mem_cons.mpr ⟨Or.inr ⟨by decide, xIO, hq _ q_102, hX.2.2.1.1⟩, fun _ h => absurd h List.not_mem_nil⟩) (by decide) (by decide) (hq _ q_103) (va_Nw.use rfl hX.2.1.2.1) hce hcv hcl ?_
      refine lv_astore (lv' := [(7, .ref q9), (0, .ref (q 0)), (1, .int r), (2, .int b), (3, .long n), (5, .int y), (6, .ref o)]) hx hb dL_root_21 hl (by decide) rfl (fun ls hl => ?_)
      refine lv_iconst (v := 2) hx hb dL_root_23 (by decide) ?_
      rw [if_neg (show ¬ xC_root tg ad mt nr r b n y = 0 by rw [hxe]; decide)]
      exact W.iret (v := (2 : Int32)) hx hb hr (fun t9 ht hW => ⟨⟨_, (), rfl, hxe.symm, by rw [ht]; exact hP, va_K.moved hW.alike hK, hD⟩, hS.F ht⟩) hS.2.2 dL_root_24
    · subst hEn
      refine vx_catch (own := "CapUnitLaw") (name := xIS) hown [⟨0, 14, 17, 13⟩, ⟨0, 14, 21, 15⟩] ⟨0, 14, 25, 17⟩ [] (htab.trans rfl) (List.forall_mem_cons.mpr ⟨Or.inr ⟨by decide, xIO, hq _ q_102, hX.2.2.1.2.1⟩, List.forall_mem_cons.mpr ⟨Or.inr ⟨by decide, xIA, hq _ q_103, hX.2.2.1.2.2⟩, fun _ h => absurd h List.not_mem_nil⟩⟩) (by decide) (by decide) (hq _ q_104) (va_Nw.use rfl hX.2.1.2.2) hce hcv hcl ?_
      refine lv_astore (lv' := [(7, .ref q9), (0, .ref (q 0)), (1, .int r), (2, .int b), (3, .long n), (5, .int y), (6, .ref o)]) hx hb dL_root_25 hl (by decide) rfl (fun ls hl => ?_)
      refine lv_iconst (v := 3) hx hb dL_root_27 (by decide) ?_
      rw [if_neg (show ¬ xC_root tg ad mt nr r b n y = 0 by rw [hxe]; decide)]
      exact W.iret (v := (3 : Int32)) hx hb hr (fun t9 ht hW => ⟨⟨_, (), rfl, hxe.symm, by rw [ht]; exact hP, va_K.moved hW.alike hK, hD⟩, hS.F ht⟩) hS.2.2 dL_root_28
  · obtain ⟨hP1, hK1, hD1⟩ := hB9
    rw [ht9] at hP1
    obtain ⟨hP, hD⟩ := va_join (wr := [(o, .inl (k 2, 1, .inr (.inl out)))]) (w1 := cW q k (zS r (1 : Int32) tg) (zS r b ad) (zS r (((y <<< ((20 : Int32) &&& 31)) ||| (983040 : Int32)) ||| ((fC_packed (fC_unsigned b) ((fC_unsigned b) + n)) &&& (32767 : Int32))) mt) (vp_updL rb nr.toNatClampNeg (fC_baseIn (zS r (1 : Int32) tg) (zS r b ad) (zS r (((y <<< ((20 : Int32) &&& 31)) ||| (983040 : Int32)) ||| ((fC_packed (fC_unsigned b) ((fC_unsigned b) + n)) &&& (32767 : Int32))) mt) r)) (vp_updL rt nr.toNatClampNeg (fC_topIn (zS r (1 : Int32) tg) (zS r b ad) (zS r (((y <<< ((20 : Int32) &&& 31)) ||| (983040 : Int32)) ||| ((fC_packed (fC_unsigned b) ((fC_unsigned b) + n)) &&& (32767 : Int32))) mt) r)) (upd rp nr.toNatClampNeg y) (nr + (1 : Int32))) hP hD [1, 2, 3, 4, 5, 6, 7] [0] rfl rfl (by decide) (by decide) hk9 hFc hP1 hD1
    obtain ⟨hx0, hv9⟩ := hv9
    subst hv9
    have hP : va_P D zCl ((o, .inl (k 2, 1, .inr (.inl out))) :: cW q k (zS r (1 : Int32) tg) (zS r b ad) (zS r (((y <<< ((20 : Int32) &&& 31)) ||| (983040 : Int32)) ||| ((fC_packed (fC_unsigned b) ((fC_unsigned b) + n)) &&& (32767 : Int32))) mt) (vp_updL rb nr.toNatClampNeg (fC_baseIn (zS r (1 : Int32) tg) (zS r b ad) (zS r (((y <<< ((20 : Int32) &&& 31)) ||| (983040 : Int32)) ||| ((fC_packed (fC_unsigned b) ((fC_unsigned b) + n)) &&& (32767 : Int32))) mt) r)) (vp_updL rt nr.toNatClampNeg (fC_topIn (zS r (1 : Int32) tg) (zS r b ad) (zS r (((y <<< ((20 : Int32) &&& 31)) ||| (983040 : Int32)) ||| ((fC_packed (fC_unsigned b) ((fC_unsigned b) + n)) &&& (32767 : Int32))) mt) r)) (upd rp nr.toNatClampNeg y) (nr + (1 : Int32))) H := hP
    have hD : va_D A ((o, .inl (k 2, 1, .inr (.inl out))) :: cW q k (zS r (1 : Int32) tg) (zS r b ad) (zS r (((y <<< ((20 : Int32) &&& 31)) ||| (983040 : Int32)) ||| ((fC_packed (fC_unsigned b) ((fC_unsigned b) + n)) &&& (32767 : Int32))) mt) (vp_updL rb nr.toNatClampNeg (fC_baseIn (zS r (1 : Int32) tg) (zS r b ad) (zS r (((y <<< ((20 : Int32) &&& 31)) ||| (983040 : Int32)) ||| ((fC_packed (fC_unsigned b) ((fC_unsigned b) + n)) &&& (32767 : Int32))) mt) r)) (vp_updL rt nr.toNatClampNeg (fC_topIn (zS r (1 : Int32) tg) (zS r b ad) (zS r (((y <<< ((20 : Int32) &&& 31)) ||| (983040 : Int32)) ||| ((fC_packed (fC_unsigned b) ((fC_unsigned b) + n)) &&& (32767 : Int32))) mt) r)) (upd rp nr.toNatClampNeg y) (nr + (1 : Int32))) := hD
    rw [if_pos hx0]
    refine lv_i2l hx hb dL_root_12 rfl ?_
    refine va_last hx hb hK hP hD hS 0 2 rfl rfl (show ¬ ((0 : Int32) < 0 ∨ 1 ≤ (0 : Int32).toNatClampNeg) by decide) dL_root_13 (fun H locs hP hD hS => ?_)
    have hP : va_P D zCl ((o, .inl (k 2, 1, .inr (.inl (vp_updL out 0 (((fC_baseIn (zS r (1 : Int32) tg) (zS r b ad) (zS r (((y <<< ((20 : Int32) &&& 31)) ||| (983040 : Int32)) ||| ((fC_packed (fC_unsigned b) ((fC_unsigned b) + n)) &&& (32767 : Int32))) mt) r).toInt32).toInt64))))) :: cW q k (zS r (1 : Int32) tg) (zS r b ad) (zS r (((y <<< ((20 : Int32) &&& 31)) ||| (983040 : Int32)) ||| ((fC_packed (fC_unsigned b) ((fC_unsigned b) + n)) &&& (32767 : Int32))) mt) (vp_updL rb nr.toNatClampNeg (fC_baseIn (zS r (1 : Int32) tg) (zS r b ad) (zS r (((y <<< ((20 : Int32) &&& 31)) ||| (983040 : Int32)) ||| ((fC_packed (fC_unsigned b) ((fC_unsigned b) + n)) &&& (32767 : Int32))) mt) r)) (vp_updL rt nr.toNatClampNeg (fC_topIn (zS r (1 : Int32) tg) (zS r b ad) (zS r (((y <<< ((20 : Int32) &&& 31)) ||| (983040 : Int32)) ||| ((fC_packed (fC_unsigned b) ((fC_unsigned b) + n)) &&& (32767 : Int32))) mt) r)) (upd rp nr.toNatClampNeg y) (nr + (1 : Int32))) H := hP
    have hD : va_D A ((o, .inl (k 2, 1, .inr (.inl (vp_updL out 0 (((fC_baseIn (zS r (1 : Int32) tg) (zS r b ad) (zS r (((y <<< ((20 : Int32) &&& 31)) ||| (983040 : Int32)) ||| ((fC_packed (fC_unsigned b) ((fC_unsigned b) + n)) &&& (32767 : Int32))) mt) r).toInt32).toInt64))))) :: cW q k (zS r (1 : Int32) tg) (zS r b ad) (zS r (((y <<< ((20 : Int32) &&& 31)) ||| (983040 : Int32)) ||| ((fC_packed (fC_unsigned b) ((fC_unsigned b) + n)) &&& (32767 : Int32))) mt) (vp_updL rb nr.toNatClampNeg (fC_baseIn (zS r (1 : Int32) tg) (zS r b ad) (zS r (((y <<< ((20 : Int32) &&& 31)) ||| (983040 : Int32)) ||| ((fC_packed (fC_unsigned b) ((fC_unsigned b) + n)) &&& (32767 : Int32))) mt) r)) (vp_updL rt nr.toNatClampNeg (fC_topIn (zS r (1 : Int32) tg) (zS r b ad) (zS r (((y <<< ((20 : Int32) &&& 31)) ||| (983040 : Int32)) ||| ((fC_packed (fC_unsigned b) ((fC_unsigned b) + n)) &&& (32767 : Int32))) mt) r)) (upd rp nr.toNatClampNeg y) (nr + (1 : Int32))) := hD
    refine lv_goto (tgt := 29) hx hb dL_root_14 rfl ?_
    refine lv_iconst (v := 0) hx hb dL_root_29 (by decide) ?_
    exact W.iret (v := (0 : Int32)) hx hb hr (fun t9 ht hW => ⟨⟨_, (), rfl, hx0.symm, by rw [ht]; exact hP, va_K.moved hW.alike hK, hD⟩, hS.F ht⟩) hS.2.2 dL_root_30
theorem vxC_put (tg ad mt : Nat → Int32) (d : Int32) (a : Int32) (z : Int32) : xC_put tg ad mt d a z = 0 ∨ xC_put tg ad mt d a z = 1 := by
  unfold xC_put
  repeat' split
  all_goals first | exact Or.inl rfl | exact Or.inr rfl
set_option maxHeartbeats 4000000 in
set_option maxRecDepth 100000 in
theorem kL_put (l : Launch) (hl0 : l.stackTraces = false) {D : va_G} {q : Nat → Nat} {k : Nat → ClassId} {tg : Nat → Int32} {ad : Nat → Int32} {mt : Nat → Int32} {rb : Nat → Int64} {rt : Nat → Int64} {rp : Nat → Int32} {nr : Int32} {A : Nat → Prop} (sz : Nat) (hA0 : ∀ q, sz ≤ q → A q) (d : Int32) (a : Int32) (z : Int32) : Met l yL_put wL_put { frames := 7, cells := 1, slots := 6, locals := 105 } (va_Pc [.ref (q 0), .int d, .int a, .int z] (fun U => U.heap.size = sz ∧ va_P D zCl (cW q k tg ad mt rb rt rp nr) U.heap ∧ va_K D zCl (zT k) U ∧ va_D A (cW q k tg ad mt rb rt rp nr) ∧ zX A U U.heap)) (va_Qi (fun v9 (_ : Unit) => v9 = xC_put tg ad mt d a z) (fun _ t => va_P D zCl (if xC_put tg ad mt d a z = 0 then cW q k (zS d (0 : Int32) tg) (zS d a ad) (zS d (z ^^^ (1000194 : Int32)) mt) rb rt rp nr else cW q k tg ad mt rb rt rp nr) t.heap ∧ va_K D zCl (zT k) t ∧ va_D A (if xC_put tg ad mt d a z = 0 then cW q k (zS d (0 : Int32) tg) (zS d a ad) (zS d (z ^^^ (1000194 : Int32)) mt) rb rt rp nr else cW q k tg ad mt rb rt rp nr)) A) 1 6 A := by
  refine va_MetW (cc := cL_put) (maxL := 5) (ret := (some .int)) (hh := [(0, 7, 10, 13)]) (by decide) rfl ?_
  intro p e s m args below meth c s₁ B hml hv
  obtain ⟨rfl, hsz, hP, hK, hD, hX⟩ := hv
  have hx := B.exec
  have hb := B.bytes
  have hr := B.returns
  have hts := atoms_spec (ws := wL_put) B.pre
  have hq : ∀ w ∈ wA, w.before _ s = true := fun w h => hts w (List.mem_cons_of_mem _ h)
  have hown : s.vm.findClass "CapUnitLaw" = some m.cls := findClass_of_methodNamed B.named
  have hlocks := B.notSynchronized
  have hS : va_S A s.heap s.heap [] := va_S.rf
  have hl := lv_entry ([.ref (q 0), .int d, .int a, .int z]) (n := 5) (Nat.le_of_ble_eq_true rfl)
  rw [lg_entry_eq]
  generalize (lg_sl ([.ref (q 0), .int d, .int a, .int z]) ++ List.replicate (5 - (lg_sl ([.ref (q 0), .int d, .int a, .int z])).length) Slot.unset).toArray = ls at hl ⊢
  have hl : lv_has ls 5 [(0, .ref (q 0)), (1, .int d), (2, .int a), (3, .int z)] := hl
  have hA : ∀ q, s.heap.size ≤ q → A q := fun q h => hA0 q (by omega)
  have htab := vx_table (x := yL_put) B (hts _ List.mem_cons_self)
  refine lv_aload_n hx hb dL_put_0 rfl (lv_at hl 0 rfl) ?_
  refine lv_iload_n hx hb dL_put_1 rfl (lv_at hl 1 rfl) ?_
  refine lv_iload_n hx hb dL_put_2 rfl (lv_at hl 2 rfl) ?_
  refine lv_iload_n hx hb dL_put_3 rfl (lv_at hl 3 rfl) ?_
  have hPc := hP.sub (ws' := cW q k tg ad mt rb rt rp nr) [0, 1, 2, 3, 4, 5, 6] rfl
  have hDc0 := hD.sub (ws' := cW q k tg ad mt rb rt rp nr) [0, 1, 2, 3, 4, 5, 6] (by decide) rfl
  have hDc := hDc0.self (sz := s.heap.size)
  have hFc := va_free (wc := cW q k tg ad mt rb rt rp nr) hD hS hA [0, 1, 2, 3, 4, 5, 6] rfl
  have hXc := hX.narrow hFc
  refine vx_callv (vx_runV (C := "CapUnit") (b := q 0) (As := [.int d, .int a, .int z]) (rest := []) ⟨hx, hb, hml, hown, hq⟩ (kC_put l hl0 d a z ) (cwV 3 hq (wA_V q_239 q_240 q_241 q_1 q_242) rfl rfl rfl (by decide +kernel) ⟨Nat.le_of_ble_eq_true rfl, Nat.le_of_ble_eq_true rfl⟩) (zx_pre (c := zCl[0]) (q0 := 0) hK hPc hDc hXc rfl rfl) rfl rfl hl.1 rfl (lv_room (Nat.le_of_ble_eq_true rfl)) dL_put_4 ⟨Nat.le_of_ble_eq_true rfl, Nat.le_of_ble_eq_true rfl⟩) hS (fun q _ h => hFc q h) hFc (fun q _ h => hFc q h) (fun E ce q9 u9 t9 H locs ht9 hvm9 _ hB9 hz9 hk9 hS hce hcv hcl => ?_) (fun u9 t9 H locs ht9 hvm9 hv9 hB9 hz9 hk9 hS => ?_)
  · obtain ⟨hE, hP1, hK1⟩ := hB9
    rw [ht9] at hP1
    obtain ⟨hP, hD⟩ := va_join (wr := []) (w1 := cW q k tg ad mt rb rt rp nr) hP hD [0, 1, 2, 3, 4, 5, 6] [] rfl rfl (by decide) (by decide) hk9 hFc hP1 hDc
    have hP : va_P D zCl (cW q k tg ad mt rb rt rp nr) H := hP
    have hD : va_D A (cW q k tg ad mt rb rt rp nr) := hD
    rcases hE with ⟨hEn, hxe⟩ | ⟨hEn, hxe⟩ | ⟨hEn, hxe⟩
    · subst hEn
      refine vx_catch (own := "CapUnitLaw") (name := xIO) hown [] ⟨0, 7, 10, 13⟩ [] (htab.trans rfl) (fun _ h => absurd h List.not_mem_nil) (by decide) (by decide) (hq _ q_102) (va_Nw.use rfl hX.2.1.1) hce hcv hcl ?_
      refine lv_astore (lv' := [(4, .ref q9), (0, .ref (q 0)), (1, .int d), (2, .int a), (3, .int z)]) hx hb dL_put_10 hl (by decide) rfl (fun ls hl => ?_)
      refine lv_iconst (v := 1) hx hb dL_put_12 (by decide) ?_
      rw [if_neg (show ¬ xC_put tg ad mt d a z = 0 by rw [hxe]; decide)]
      exact W.iret (v := (1 : Int32)) hx hb hr (fun t9 ht hW => ⟨⟨_, (), rfl, hxe.symm, by rw [ht]; exact hP, va_K.moved hW.alike hK, hD⟩, hS.F ht⟩) hS.2.2 dL_put_13
    · rcases vxC_put tg ad mt d a z with h9 | h9 <;> rw [h9] at hxe <;> exact absurd hxe (by decide)
    · rcases vxC_put tg ad mt d a z with h9 | h9 <;> rw [h9] at hxe <;> exact absurd hxe (by decide)
  · obtain ⟨hP1, hK1, hD1⟩ := hB9
    rw [ht9] at hP1
    obtain ⟨hP, hD⟩ := va_join (wr := []) (w1 := cW q k (zS d (0 : Int32) tg) (zS d a ad) (zS d (z ^^^ (1000194 : Int32)) mt) rb rt rp nr) hP hD [0, 1, 2, 3, 4, 5, 6] [] rfl rfl (by decide) (by decide) hk9 hFc hP1 hD1
    have hx0 := hv9
    have hP : va_P D zCl (cW q k (zS d (0 : Int32) tg) (zS d a ad) (zS d (z ^^^ (1000194 : Int32)) mt) rb rt rp nr) H := hP
    have hD : va_D A (cW q k (zS d (0 : Int32) tg) (zS d a ad) (zS d (z ^^^ (1000194 : Int32)) mt) rb rt rp nr) := hD
    rw [if_pos hx0]
    refine lv_goto (tgt := 14) hx hb dL_put_7 rfl ?_
    refine lv_iconst (v := 0) hx hb dL_put_14 (by decide) ?_
    exact W.iret (v := (0 : Int32)) hx hb hr (fun t9 ht hW => ⟨⟨_, (), rfl, hx0.symm, by rw [ht]; exact hP, va_K.moved hW.alike hK, hD⟩, hS.F ht⟩) hS.2.2 dL_put_15
theorem vxC_narrow (tg ad mt : Nat → Int32) (d : Int32) (r : Int32) (n : Int32) (y : Int32) : xC_narrow tg ad mt d r n y = 0 ∨ xC_narrow tg ad mt d r n y = 1 := by
  unfold xC_narrow
  repeat' split
  all_goals first | exact Or.inl rfl | exact Or.inr rfl
set_option maxHeartbeats 4000000 in
set_option maxRecDepth 100000 in
theorem kL_narrow (l : Launch) (hl0 : l.stackTraces = false) {D : va_G} {q : Nat → Nat} {k : Nat → ClassId} {tg : Nat → Int32} {ad : Nat → Int32} {mt : Nat → Int32} {rb : Nat → Int64} {rt : Nat → Int64} {rp : Nat → Int32} {nr : Int32} {A : Nat → Prop} (sz : Nat) (hA0 : ∀ q, sz ≤ q → A q) (o : Nat) (out : Nat → Int64) (d : Int32) (r : Int32) (n : Int32) (y : Int32) : Met l yL_narrow wL_narrow { frames := 7, cells := 1, slots := 6, locals := 153 } (va_Pc [.ref (q 0), .int d, .int r, .int n, .int y, .ref o] (fun U => U.heap.size = sz ∧ va_P D zCl ((o, .inl (k 2, 1, .inr (.inl out))) :: cW q k tg ad mt rb rt rp nr) U.heap ∧ va_K D zCl (zT k) U ∧ va_D A ((o, .inl (k 2, 1, .inr (.inl out))) :: cW q k tg ad mt rb rt rp nr) ∧ zX A U U.heap)) (va_Qi (fun v9 (_ : Unit) => v9 = xC_narrow tg ad mt d r n y) (fun _ t => va_P D zCl (if xC_narrow tg ad mt d r n y = 0 then (o, .inl (k 2, 1, .inr (.inl (vp_updL out 0 (zBl (zSr d (tC_narrow tg ad mt d r n y))))))) :: cW q k (zS d (tC_narrow tg ad mt d r n y) tg) (zS d (ad r.toNatClampNeg) ad) (zS d (((mt r.toNatClampNeg) &&& (-32768 : Int32)) ||| ((fC_packed (fC_unsigned (ad r.toNatClampNeg)) (if (4294967296 : Int64) < ((fC_unsigned (ad r.toNatClampNeg)) + (fC_unsigned n)) then (4294967296 : Int64) else ((fC_unsigned (ad r.toNatClampNeg)) + (fC_unsigned n)))) &&& (32767 : Int32))) mt) rb rt rp nr else (o, .inl (k 2, 1, .inr (.inl out))) :: cW q k tg ad mt rb rt rp nr) t.heap ∧ va_K D zCl (zT k) t ∧ va_D A (if xC_narrow tg ad mt d r n y = 0 then (o, .inl (k 2, 1, .inr (.inl (vp_updL out 0 (zBl (zSr d (tC_narrow tg ad mt d r n y))))))) :: cW q k (zS d (tC_narrow tg ad mt d r n y) tg) (zS d (ad r.toNatClampNeg) ad) (zS d (((mt r.toNatClampNeg) &&& (-32768 : Int32)) ||| ((fC_packed (fC_unsigned (ad r.toNatClampNeg)) (if (4294967296 : Int64) < ((fC_unsigned (ad r.toNatClampNeg)) + (fC_unsigned n)) then (4294967296 : Int64) else ((fC_unsigned (ad r.toNatClampNeg)) + (fC_unsigned n)))) &&& (32767 : Int32))) mt) rb rt rp nr else (o, .inl (k 2, 1, .inr (.inl out))) :: cW q k tg ad mt rb rt rp nr)) A) 1 6 A := by
  refine va_MetW (cc := cL_narrow) (maxL := 7) (ret := (some .int)) (hh := [(0, 21, 24, 13)]) (by decide) rfl ?_
  intro p e s m args below meth c s₁ B hml hv
  obtain ⟨rfl, hsz, hP, hK, hD, hX⟩ := hv
  have hx := B.exec
  have hb := B.bytes
  have hr := B.returns
  have hts := atoms_spec (ws := wL_narrow) B.pre
  have hq : ∀ w ∈ wA, w.before _ s = true := fun w h => hts w (List.mem_cons_of_mem _ h)
  have hown : s.vm.findClass "CapUnitLaw" = some m.cls := findClass_of_methodNamed B.named
  have hlocks := B.notSynchronized
  have hS : va_S A s.heap s.heap [] := va_S.rf
  have hl := lv_entry ([.ref (q 0), .int d, .int r, .int n, .int y, .ref o]) (n := 7) (Nat.le_of_ble_eq_true rfl)
  rw [lg_entry_eq]
  generalize (lg_sl ([.ref (q 0), .int d, .int r, .int n, .int y, .ref o]) ++ List.replicate (7 - (lg_sl ([.ref (q 0), .int d, .int r, .int n, .int y, .ref o])).length) Slot.unset).toArray = ls at hl ⊢
  have hl : lv_has ls 7 [(0, .ref (q 0)), (1, .int d), (2, .int r), (3, .int n), (4, .int y), (5, .ref o)] := hl
  have hA : ∀ q, s.heap.size ≤ q → A q := fun q h => hA0 q (by omega)
  have htab := vx_table (x := yL_narrow) B (hts _ List.mem_cons_self)
  refine lv_aload hx hb dL_narrow_0 (lv_at hl 5 rfl) ?_
  refine lv_iconst (v := 0) hx hb dL_narrow_2 (by decide) ?_
  refine lv_aload_n hx hb dL_narrow_3 rfl (lv_at hl 0 rfl) ?_
  refine lv_iload_n hx hb dL_narrow_4 rfl (lv_at hl 1 rfl) ?_
  refine lv_iload_n hx hb dL_narrow_5 rfl (lv_at hl 2 rfl) ?_
  refine lv_iload_n hx hb dL_narrow_6 rfl (lv_at hl 3 rfl) ?_
  refine lv_iload hx hb dL_narrow_7 (lv_at hl 4 rfl) ?_
  have hPc := hP.sub (ws' := cW q k tg ad mt rb rt rp nr) [1, 2, 3, 4, 5, 6, 7] rfl
  have hDc0 := hD.sub (ws' := cW q k tg ad mt rb rt rp nr) [1, 2, 3, 4, 5, 6, 7] (by decide) rfl
  have hDc := hDc0.self (sz := s.heap.size)
  have hFc := va_free (wc := cW q k tg ad mt rb rt rp nr) hD hS hA [1, 2, 3, 4, 5, 6, 7] rfl
  have hXc := hX.narrow hFc
  refine vx_calli (vx_runV (C := "CapUnit") (b := q 0) (As := [.int d, .int r, .int n, .int y]) (rest := [.int (0 : Int32), .ref o]) ⟨hx, hb, hml, hown, hq⟩ (kC_narrow l hl0 d r n y ) (cwV 4 hq (wA_V q_250 q_251 q_252 q_1 q_253) rfl rfl rfl (by decide +kernel) ⟨Nat.le_of_ble_eq_true rfl, Nat.le_of_ble_eq_true rfl⟩) (zx_pre (c := zCl[0]) (q0 := 0) hK hPc hDc hXc rfl rfl) rfl rfl hl.1 rfl (lv_room (Nat.le_of_ble_eq_true rfl)) dL_narrow_9 ⟨Nat.le_of_ble_eq_true rfl, Nat.le_of_ble_eq_true rfl⟩) hS (fun q _ h => hFc q h) hFc (fun q _ h => hFc q h) (fun E ce q9 u9 t9 H locs ht9 hvm9 _ hB9 hz9 hk9 hS hce hcv hcl => ?_) (fun v9 u9 t9 H locs ht9 hvm9 hv9 hB9 hz9 hk9 hS => ?_)
  · obtain ⟨hE, hP1, hK1⟩ := hB9
    rw [ht9] at hP1
    obtain ⟨hP, hD⟩ := va_join (wr := [(o, .inl (k 2, 1, .inr (.inl out)))]) (w1 := cW q k tg ad mt rb rt rp nr) hP hD [1, 2, 3, 4, 5, 6, 7] [0] rfl rfl (by decide) (by decide) hk9 hFc hP1 hDc
    have hP : va_P D zCl ((o, .inl (k 2, 1, .inr (.inl out))) :: cW q k tg ad mt rb rt rp nr) H := hP
    have hD : va_D A ((o, .inl (k 2, 1, .inr (.inl out))) :: cW q k tg ad mt rb rt rp nr) := hD
    rcases hE with ⟨hEn, hxe⟩ | ⟨hEn, hxe⟩ | ⟨hEn, hxe⟩
    · subst hEn
      refine vx_catch (own := "CapUnitLaw") (name := xIO) hown [] ⟨0, 21, 24, 13⟩ [] (htab.trans rfl) (fun _ h => absurd h List.not_mem_nil) (by decide) (by decide) (hq _ q_102) (va_Nw.use rfl hX.2.1.1) hce hcv hcl ?_
      refine lv_astore (lv' := [(6, .ref q9), (0, .ref (q 0)), (1, .int d), (2, .int r), (3, .int n), (4, .int y), (5, .ref o)]) hx hb dL_narrow_24 hl (by decide) rfl (fun ls hl => ?_)
      refine lv_iconst (v := 1) hx hb dL_narrow_26 (by decide) ?_
      rw [if_neg (show ¬ xC_narrow tg ad mt d r n y = 0 by rw [hxe]; decide)]
      exact W.iret (v := (1 : Int32)) hx hb hr (fun t9 ht hW => ⟨⟨_, (), rfl, hxe.symm, by rw [ht]; exact hP, va_K.moved hW.alike hK, hD⟩, hS.F ht⟩) hS.2.2 dL_narrow_27
    · rcases vxC_narrow tg ad mt d r n y with h9 | h9 <;> rw [h9] at hxe <;> exact absurd hxe (by decide)
    · rcases vxC_narrow tg ad mt d r n y with h9 | h9 <;> rw [h9] at hxe <;> exact absurd hxe (by decide)
  · obtain ⟨hP1, hK1, hD1⟩ := hB9
    rw [ht9] at hP1
    obtain ⟨hP, hD⟩ := va_join (wr := [(o, .inl (k 2, 1, .inr (.inl out)))]) (w1 := cW q k (zS d (tC_narrow tg ad mt d r n y) tg) (zS d (ad r.toNatClampNeg) ad) (zS d (((mt r.toNatClampNeg) &&& (-32768 : Int32)) ||| ((fC_packed (fC_unsigned (ad r.toNatClampNeg)) (if (4294967296 : Int64) < ((fC_unsigned (ad r.toNatClampNeg)) + (fC_unsigned n)) then (4294967296 : Int64) else ((fC_unsigned (ad r.toNatClampNeg)) + (fC_unsigned n)))) &&& (32767 : Int32))) mt) rb rt rp nr) hP hD [1, 2, 3, 4, 5, 6, 7] [0] rfl rfl (by decide) (by decide) hk9 hFc hP1 hD1
    obtain ⟨hx0, hv9⟩ := hv9
    subst hv9
    have hP : va_P D zCl ((o, .inl (k 2, 1, .inr (.inl out))) :: cW q k (zS d (tC_narrow tg ad mt d r n y) tg) (zS d (ad r.toNatClampNeg) ad) (zS d (((mt r.toNatClampNeg) &&& (-32768 : Int32)) ||| ((fC_packed (fC_unsigned (ad r.toNatClampNeg)) (if (4294967296 : Int64) < ((fC_unsigned (ad r.toNatClampNeg)) + (fC_unsigned n)) then (4294967296 : Int64) else ((fC_unsigned (ad r.toNatClampNeg)) + (fC_unsigned n)))) &&& (32767 : Int32))) mt) rb rt rp nr) H := hP
    have hD : va_D A ((o, .inl (k 2, 1, .inr (.inl out))) :: cW q k (zS d (tC_narrow tg ad mt d r n y) tg) (zS d (ad r.toNatClampNeg) ad) (zS d (((mt r.toNatClampNeg) &&& (-32768 : Int32)) ||| ((fC_packed (fC_unsigned (ad r.toNatClampNeg)) (if (4294967296 : Int64) < ((fC_unsigned (ad r.toNatClampNeg)) + (fC_unsigned n)) then (4294967296 : Int64) else ((fC_unsigned (ad r.toNatClampNeg)) + (fC_unsigned n)))) &&& (32767 : Int32))) mt) rb rt rp nr) := hD
    rw [if_pos hx0]
    refine lv_if_eq (tgt := 19) hx hb dL_narrow_12 rfl (fun h1 => ?_) (fun h1 => ?_)
    · refine lv_lconst (v := 0) hx hb dL_narrow_19 (by decide) ?_
      refine zt_l (show _ = zBl (zSr d (tC_narrow tg ad mt d r n y)) by unfold zBl; rw [if_pos h1]) ?_
      refine va_last hx hb hK hP hD hS 0 2 rfl rfl (show ¬ ((0 : Int32) < 0 ∨ 1 ≤ (0 : Int32).toNatClampNeg) by decide) dL_narrow_20 (fun H locs hP hD hS => ?_)
      have hP : va_P D zCl ((o, .inl (k 2, 1, .inr (.inl (vp_updL out 0 (zBl (zSr d (tC_narrow tg ad mt d r n y))))))) :: cW q k (zS d (tC_narrow tg ad mt d r n y) tg) (zS d (ad r.toNatClampNeg) ad) (zS d (((mt r.toNatClampNeg) &&& (-32768 : Int32)) ||| ((fC_packed (fC_unsigned (ad r.toNatClampNeg)) (if (4294967296 : Int64) < ((fC_unsigned (ad r.toNatClampNeg)) + (fC_unsigned n)) then (4294967296 : Int64) else ((fC_unsigned (ad r.toNatClampNeg)) + (fC_unsigned n)))) &&& (32767 : Int32))) mt) rb rt rp nr) H := hP
      have hD : va_D A ((o, .inl (k 2, 1, .inr (.inl (vp_updL out 0 (zBl (zSr d (tC_narrow tg ad mt d r n y))))))) :: cW q k (zS d (tC_narrow tg ad mt d r n y) tg) (zS d (ad r.toNatClampNeg) ad) (zS d (((mt r.toNatClampNeg) &&& (-32768 : Int32)) ||| ((fC_packed (fC_unsigned (ad r.toNatClampNeg)) (if (4294967296 : Int64) < ((fC_unsigned (ad r.toNatClampNeg)) + (fC_unsigned n)) then (4294967296 : Int64) else ((fC_unsigned (ad r.toNatClampNeg)) + (fC_unsigned n)))) &&& (32767 : Int32))) mt) rb rt rp nr) := hD
      refine lv_goto (tgt := 28) hx hb dL_narrow_21 rfl ?_
      refine lv_iconst (v := 0) hx hb dL_narrow_28 (by decide) ?_
      exact W.iret (v := (0 : Int32)) hx hb hr (fun t9 ht hW => ⟨⟨_, (), rfl, hx0.symm, by rw [ht]; exact hP, va_K.moved hW.alike hK, hD⟩, hS.F ht⟩) hS.2.2 dL_narrow_29
    · refine lv_lconst (v := 1) hx hb dL_narrow_15 (by decide) ?_
      refine lv_goto (tgt := 20) hx hb dL_narrow_16 rfl ?_
      refine zt_l (show _ = zBl (zSr d (tC_narrow tg ad mt d r n y)) by unfold zBl; rw [if_neg h1]) ?_
      refine va_last hx hb hK hP hD hS 0 2 rfl rfl (show ¬ ((0 : Int32) < 0 ∨ 1 ≤ (0 : Int32).toNatClampNeg) by decide) dL_narrow_20 (fun H locs hP hD hS => ?_)
      have hP : va_P D zCl ((o, .inl (k 2, 1, .inr (.inl (vp_updL out 0 (zBl (zSr d (tC_narrow tg ad mt d r n y))))))) :: cW q k (zS d (tC_narrow tg ad mt d r n y) tg) (zS d (ad r.toNatClampNeg) ad) (zS d (((mt r.toNatClampNeg) &&& (-32768 : Int32)) ||| ((fC_packed (fC_unsigned (ad r.toNatClampNeg)) (if (4294967296 : Int64) < ((fC_unsigned (ad r.toNatClampNeg)) + (fC_unsigned n)) then (4294967296 : Int64) else ((fC_unsigned (ad r.toNatClampNeg)) + (fC_unsigned n)))) &&& (32767 : Int32))) mt) rb rt rp nr) H := hP
      have hD : va_D A ((o, .inl (k 2, 1, .inr (.inl (vp_updL out 0 (zBl (zSr d (tC_narrow tg ad mt d r n y))))))) :: cW q k (zS d (tC_narrow tg ad mt d r n y) tg) (zS d (ad r.toNatClampNeg) ad) (zS d (((mt r.toNatClampNeg) &&& (-32768 : Int32)) ||| ((fC_packed (fC_unsigned (ad r.toNatClampNeg)) (if (4294967296 : Int64) < ((fC_unsigned (ad r.toNatClampNeg)) + (fC_unsigned n)) then (4294967296 : Int64) else ((fC_unsigned (ad r.toNatClampNeg)) + (fC_unsigned n)))) &&& (32767 : Int32))) mt) rb rt rp nr) := hD
      refine lv_goto (tgt := 28) hx hb dL_narrow_21 rfl ?_
      refine lv_iconst (v := 0) hx hb dL_narrow_28 (by decide) ?_
      exact W.iret (v := (0 : Int32)) hx hb hr (fun t9 ht hW => ⟨⟨_, (), rfl, hx0.symm, by rw [ht]; exact hP, va_K.moved hW.alike hK, hD⟩, hS.F ht⟩) hS.2.2 dL_narrow_29
theorem vxC_move (tg ad mt : Nat → Int32) (d : Int32) (r : Int32) (x : Int32) : xC_move tg ad mt d r x = 0 ∨ xC_move tg ad mt d r x = 1 := by
  unfold xC_move
  repeat' split
  all_goals first | exact Or.inl rfl | exact Or.inr rfl
set_option maxHeartbeats 4000000 in
set_option maxRecDepth 100000 in
theorem kL_move (l : Launch) (hl0 : l.stackTraces = false) {D : va_G} {q : Nat → Nat} {k : Nat → ClassId} {tg : Nat → Int32} {ad : Nat → Int32} {mt : Nat → Int32} {rb : Nat → Int64} {rt : Nat → Int64} {rp : Nat → Int32} {nr : Int32} {A : Nat → Prop} (sz : Nat) (hA0 : ∀ q, sz ≤ q → A q) (o : Nat) (out : Nat → Int64) (d : Int32) (r : Int32) (x : Int32) : Met l yL_move wL_move { frames := 7, cells := 1, slots := 6, locals := 123 } (va_Pc [.ref (q 0), .int d, .int r, .int x, .ref o] (fun U => U.heap.size = sz ∧ va_P D zCl ((o, .inl (k 2, 1, .inr (.inl out))) :: cW q k tg ad mt rb rt rp nr) U.heap ∧ va_K D zCl (zT k) U ∧ va_D A ((o, .inl (k 2, 1, .inr (.inl out))) :: cW q k tg ad mt rb rt rp nr) ∧ zX A U U.heap)) (va_Qi (fun v9 (_ : Unit) => v9 = xC_move tg ad mt d r x) (fun _ t => va_P D zCl (if xC_move tg ad mt d r x = 0 then (o, .inl (k 2, 1, .inr (.inl (vp_updL out 0 (zBl (zSr d (tC_move tg ad mt d r x))))))) :: cW q k (zS d (tC_move tg ad mt d r x) tg) (zS d x ad) (zS d (mt r.toNatClampNeg) mt) rb rt rp nr else (o, .inl (k 2, 1, .inr (.inl out))) :: cW q k tg ad mt rb rt rp nr) t.heap ∧ va_K D zCl (zT k) t ∧ va_D A (if xC_move tg ad mt d r x = 0 then (o, .inl (k 2, 1, .inr (.inl (vp_updL out 0 (zBl (zSr d (tC_move tg ad mt d r x))))))) :: cW q k (zS d (tC_move tg ad mt d r x) tg) (zS d x ad) (zS d (mt r.toNatClampNeg) mt) rb rt rp nr else (o, .inl (k 2, 1, .inr (.inl out))) :: cW q k tg ad mt rb rt rp nr)) A) 1 6 A := by
  refine va_MetW (cc := cL_move) (maxL := 6) (ret := (some .int)) (hh := [(0, 19, 22, 13)]) (by decide) rfl ?_
  intro p e s m args below meth c s₁ B hml hv
  obtain ⟨rfl, hsz, hP, hK, hD, hX⟩ := hv
  have hx := B.exec
  have hb := B.bytes
  have hr := B.returns
  have hts := atoms_spec (ws := wL_move) B.pre
  have hq : ∀ w ∈ wA, w.before _ s = true := fun w h => hts w (List.mem_cons_of_mem _ h)
  have hown : s.vm.findClass "CapUnitLaw" = some m.cls := findClass_of_methodNamed B.named
  have hlocks := B.notSynchronized
  have hS : va_S A s.heap s.heap [] := va_S.rf
  have hl := lv_entry ([.ref (q 0), .int d, .int r, .int x, .ref o]) (n := 6) (Nat.le_of_ble_eq_true rfl)
  rw [lg_entry_eq]
  generalize (lg_sl ([.ref (q 0), .int d, .int r, .int x, .ref o]) ++ List.replicate (6 - (lg_sl ([.ref (q 0), .int d, .int r, .int x, .ref o])).length) Slot.unset).toArray = ls at hl ⊢
  have hl : lv_has ls 6 [(0, .ref (q 0)), (1, .int d), (2, .int r), (3, .int x), (4, .ref o)] := hl
  have hA : ∀ q, s.heap.size ≤ q → A q := fun q h => hA0 q (by omega)
  have htab := vx_table (x := yL_move) B (hts _ List.mem_cons_self)
  refine lv_aload hx hb dL_move_0 (lv_at hl 4 rfl) ?_
  refine lv_iconst (v := 0) hx hb dL_move_2 (by decide) ?_
  refine lv_aload_n hx hb dL_move_3 rfl (lv_at hl 0 rfl) ?_
  refine lv_iload_n hx hb dL_move_4 rfl (lv_at hl 1 rfl) ?_
  refine lv_iload_n hx hb dL_move_5 rfl (lv_at hl 2 rfl) ?_
  refine lv_iload_n hx hb dL_move_6 rfl (lv_at hl 3 rfl) ?_
  have hPc := hP.sub (ws' := cW q k tg ad mt rb rt rp nr) [1, 2, 3, 4, 5, 6, 7] rfl
  have hDc0 := hD.sub (ws' := cW q k tg ad mt rb rt rp nr) [1, 2, 3, 4, 5, 6, 7] (by decide) rfl
  have hDc := hDc0.self (sz := s.heap.size)
  have hFc := va_free (wc := cW q k tg ad mt rb rt rp nr) hD hS hA [1, 2, 3, 4, 5, 6, 7] rfl
  have hXc := hX.narrow hFc
  refine vx_calli (vx_runV (C := "CapUnit") (b := q 0) (As := [.int d, .int r, .int x]) (rest := [.int (0 : Int32), .ref o]) ⟨hx, hb, hml, hown, hq⟩ (kC_move l hl0 d r x ) (cwV 3 hq (wA_V q_271 q_272 q_273 q_1 q_274) rfl rfl rfl (by decide +kernel) ⟨Nat.le_of_ble_eq_true rfl, Nat.le_of_ble_eq_true rfl⟩) (zx_pre (c := zCl[0]) (q0 := 0) hK hPc hDc hXc rfl rfl) rfl rfl hl.1 rfl (lv_room (Nat.le_of_ble_eq_true rfl)) dL_move_7 ⟨Nat.le_of_ble_eq_true rfl, Nat.le_of_ble_eq_true rfl⟩) hS (fun q _ h => hFc q h) hFc (fun q _ h => hFc q h) (fun E ce q9 u9 t9 H locs ht9 hvm9 _ hB9 hz9 hk9 hS hce hcv hcl => ?_) (fun v9 u9 t9 H locs ht9 hvm9 hv9 hB9 hz9 hk9 hS => ?_)
  · obtain ⟨hE, hP1, hK1⟩ := hB9
    rw [ht9] at hP1
    obtain ⟨hP, hD⟩ := va_join (wr := [(o, .inl (k 2, 1, .inr (.inl out)))]) (w1 := cW q k tg ad mt rb rt rp nr) hP hD [1, 2, 3, 4, 5, 6, 7] [0] rfl rfl (by decide) (by decide) hk9 hFc hP1 hDc
    have hP : va_P D zCl ((o, .inl (k 2, 1, .inr (.inl out))) :: cW q k tg ad mt rb rt rp nr) H := hP
    have hD : va_D A ((o, .inl (k 2, 1, .inr (.inl out))) :: cW q k tg ad mt rb rt rp nr) := hD
    rcases hE with ⟨hEn, hxe⟩ | ⟨hEn, hxe⟩ | ⟨hEn, hxe⟩
    · subst hEn
      refine vx_catch (own := "CapUnitLaw") (name := xIO) hown [] ⟨0, 19, 22, 13⟩ [] (htab.trans rfl) (fun _ h => absurd h List.not_mem_nil) (by decide) (by decide) (hq _ q_102) (va_Nw.use rfl hX.2.1.1) hce hcv hcl ?_
      refine lv_astore (lv' := [(5, .ref q9), (0, .ref (q 0)), (1, .int d), (2, .int r), (3, .int x), (4, .ref o)]) hx hb dL_move_22 hl (by decide) rfl (fun ls hl => ?_)
      refine lv_iconst (v := 1) hx hb dL_move_24 (by decide) ?_
      rw [if_neg (show ¬ xC_move tg ad mt d r x = 0 by rw [hxe]; decide)]
      exact W.iret (v := (1 : Int32)) hx hb hr (fun t9 ht hW => ⟨⟨_, (), rfl, hxe.symm, by rw [ht]; exact hP, va_K.moved hW.alike hK, hD⟩, hS.F ht⟩) hS.2.2 dL_move_25
    · rcases vxC_move tg ad mt d r x with h9 | h9 <;> rw [h9] at hxe <;> exact absurd hxe (by decide)
    · rcases vxC_move tg ad mt d r x with h9 | h9 <;> rw [h9] at hxe <;> exact absurd hxe (by decide)
  · obtain ⟨hP1, hK1, hD1⟩ := hB9
    rw [ht9] at hP1
    obtain ⟨hP, hD⟩ := va_join (wr := [(o, .inl (k 2, 1, .inr (.inl out)))]) (w1 := cW q k (zS d (tC_move tg ad mt d r x) tg) (zS d x ad) (zS d (mt r.toNatClampNeg) mt) rb rt rp nr) hP hD [1, 2, 3, 4, 5, 6, 7] [0] rfl rfl (by decide) (by decide) hk9 hFc hP1 hD1
    obtain ⟨hx0, hv9⟩ := hv9
    subst hv9
    have hP : va_P D zCl ((o, .inl (k 2, 1, .inr (.inl out))) :: cW q k (zS d (tC_move tg ad mt d r x) tg) (zS d x ad) (zS d (mt r.toNatClampNeg) mt) rb rt rp nr) H := hP
    have hD : va_D A ((o, .inl (k 2, 1, .inr (.inl out))) :: cW q k (zS d (tC_move tg ad mt d r x) tg) (zS d x ad) (zS d (mt r.toNatClampNeg) mt) rb rt rp nr) := hD
    rw [if_pos hx0]
    refine lv_if_eq (tgt := 17) hx hb dL_move_10 rfl (fun h1 => ?_) (fun h1 => ?_)
    · refine lv_lconst (v := 0) hx hb dL_move_17 (by decide) ?_
      refine zt_l (show _ = zBl (zSr d (tC_move tg ad mt d r x)) by unfold zBl; rw [if_pos h1]) ?_
      refine va_last hx hb hK hP hD hS 0 2 rfl rfl (show ¬ ((0 : Int32) < 0 ∨ 1 ≤ (0 : Int32).toNatClampNeg) by decide) dL_move_18 (fun H locs hP hD hS => ?_)
      have hP : va_P D zCl ((o, .inl (k 2, 1, .inr (.inl (vp_updL out 0 (zBl (zSr d (tC_move tg ad mt d r x))))))) :: cW q k (zS d (tC_move tg ad mt d r x) tg) (zS d x ad) (zS d (mt r.toNatClampNeg) mt) rb rt rp nr) H := hP
      have hD : va_D A ((o, .inl (k 2, 1, .inr (.inl (vp_updL out 0 (zBl (zSr d (tC_move tg ad mt d r x))))))) :: cW q k (zS d (tC_move tg ad mt d r x) tg) (zS d x ad) (zS d (mt r.toNatClampNeg) mt) rb rt rp nr) := hD
      refine lv_goto (tgt := 26) hx hb dL_move_19 rfl ?_
      refine lv_iconst (v := 0) hx hb dL_move_26 (by decide) ?_
      exact W.iret (v := (0 : Int32)) hx hb hr (fun t9 ht hW => ⟨⟨_, (), rfl, hx0.symm, by rw [ht]; exact hP, va_K.moved hW.alike hK, hD⟩, hS.F ht⟩) hS.2.2 dL_move_27
    · refine lv_lconst (v := 1) hx hb dL_move_13 (by decide) ?_
      refine lv_goto (tgt := 18) hx hb dL_move_14 rfl ?_
      refine zt_l (show _ = zBl (zSr d (tC_move tg ad mt d r x)) by unfold zBl; rw [if_neg h1]) ?_
      refine va_last hx hb hK hP hD hS 0 2 rfl rfl (show ¬ ((0 : Int32) < 0 ∨ 1 ≤ (0 : Int32).toNatClampNeg) by decide) dL_move_18 (fun H locs hP hD hS => ?_)
      have hP : va_P D zCl ((o, .inl (k 2, 1, .inr (.inl (vp_updL out 0 (zBl (zSr d (tC_move tg ad mt d r x))))))) :: cW q k (zS d (tC_move tg ad mt d r x) tg) (zS d x ad) (zS d (mt r.toNatClampNeg) mt) rb rt rp nr) H := hP
      have hD : va_D A ((o, .inl (k 2, 1, .inr (.inl (vp_updL out 0 (zBl (zSr d (tC_move tg ad mt d r x))))))) :: cW q k (zS d (tC_move tg ad mt d r x) tg) (zS d x ad) (zS d (mt r.toNatClampNeg) mt) rb rt rp nr) := hD
      refine lv_goto (tgt := 26) hx hb dL_move_19 rfl ?_
      refine lv_iconst (v := 0) hx hb dL_move_26 (by decide) ?_
      exact W.iret (v := (0 : Int32)) hx hb hr (fun t9 ht hW => ⟨⟨_, (), rfl, hx0.symm, by rw [ht]; exact hP, va_K.moved hW.alike hK, hD⟩, hS.F ht⟩) hS.2.2 dL_move_27
theorem vxC_keep (tg ad mt : Nat → Int32) (d : Int32) (r : Int32) (y : Int32) : xC_keep tg ad mt d r y = 0 ∨ xC_keep tg ad mt d r y = 1 := by
  unfold xC_keep
  repeat' split
  all_goals first | exact Or.inl rfl | exact Or.inr rfl
set_option maxHeartbeats 4000000 in
set_option maxRecDepth 100000 in
theorem kL_keep (l : Launch) (hl0 : l.stackTraces = false) {D : va_G} {q : Nat → Nat} {k : Nat → ClassId} {tg : Nat → Int32} {ad : Nat → Int32} {mt : Nat → Int32} {rb : Nat → Int64} {rt : Nat → Int64} {rp : Nat → Int32} {nr : Int32} {A : Nat → Prop} (sz : Nat) (hA0 : ∀ q, sz ≤ q → A q) (o : Nat) (out : Nat → Int64) (d : Int32) (r : Int32) (y : Int32) : Met l yL_keep wL_keep { frames := 7, cells := 1, slots := 6, locals := 106 } (va_Pc [.ref (q 0), .int d, .int r, .int y, .ref o] (fun U => U.heap.size = sz ∧ va_P D zCl ((o, .inl (k 2, 1, .inr (.inl out))) :: cW q k tg ad mt rb rt rp nr) U.heap ∧ va_K D zCl (zT k) U ∧ va_D A ((o, .inl (k 2, 1, .inr (.inl out))) :: cW q k tg ad mt rb rt rp nr) ∧ zX A U U.heap)) (va_Qi (fun v9 (_ : Unit) => v9 = xC_keep tg ad mt d r y) (fun _ t => va_P D zCl (if xC_keep tg ad mt d r y = 0 then (o, .inl (k 2, 1, .inr (.inl (vp_updL out 0 (zBl (zSr d (fC_isOpenWithTag tg ad mt r))))))) :: cW q k (zS d (fC_isOpenWithTag tg ad mt r) tg) (zS d (ad r.toNatClampNeg) ad) (zS d ((mt r.toNatClampNeg) &&& (((y ^^^ (-1 : Int32)) <<< ((20 : Int32) &&& 31)) ^^^ (-1 : Int32))) mt) rb rt rp nr else (o, .inl (k 2, 1, .inr (.inl out))) :: cW q k tg ad mt rb rt rp nr) t.heap ∧ va_K D zCl (zT k) t ∧ va_D A (if xC_keep tg ad mt d r y = 0 then (o, .inl (k 2, 1, .inr (.inl (vp_updL out 0 (zBl (zSr d (fC_isOpenWithTag tg ad mt r))))))) :: cW q k (zS d (fC_isOpenWithTag tg ad mt r) tg) (zS d (ad r.toNatClampNeg) ad) (zS d ((mt r.toNatClampNeg) &&& (((y ^^^ (-1 : Int32)) <<< ((20 : Int32) &&& 31)) ^^^ (-1 : Int32))) mt) rb rt rp nr else (o, .inl (k 2, 1, .inr (.inl out))) :: cW q k tg ad mt rb rt rp nr)) A) 1 6 A := by
  refine va_MetW (cc := cL_keep) (maxL := 6) (ret := (some .int)) (hh := [(0, 19, 22, 13)]) (by decide) rfl ?_
  intro p e s m args below meth c s₁ B hml hv
  obtain ⟨rfl, hsz, hP, hK, hD, hX⟩ := hv
  have hx := B.exec
  have hb := B.bytes
  have hr := B.returns
  have hts := atoms_spec (ws := wL_keep) B.pre
  have hq : ∀ w ∈ wA, w.before _ s = true := fun w h => hts w (List.mem_cons_of_mem _ h)
  have hown : s.vm.findClass "CapUnitLaw" = some m.cls := findClass_of_methodNamed B.named
  have hlocks := B.notSynchronized
  have hS : va_S A s.heap s.heap [] := va_S.rf
  have hl := lv_entry ([.ref (q 0), .int d, .int r, .int y, .ref o]) (n := 6) (Nat.le_of_ble_eq_true rfl)
  rw [lg_entry_eq]
  generalize (lg_sl ([.ref (q 0), .int d, .int r, .int y, .ref o]) ++ List.replicate (6 - (lg_sl ([.ref (q 0), .int d, .int r, .int y, .ref o])).length) Slot.unset).toArray = ls at hl ⊢
  have hl : lv_has ls 6 [(0, .ref (q 0)), (1, .int d), (2, .int r), (3, .int y), (4, .ref o)] := hl
  have hA : ∀ q, s.heap.size ≤ q → A q := fun q h => hA0 q (by omega)
  have htab := vx_table (x := yL_keep) B (hts _ List.mem_cons_self)
  refine lv_aload hx hb dL_keep_0 (lv_at hl 4 rfl) ?_
  refine lv_iconst (v := 0) hx hb dL_keep_2 (by decide) ?_
  refine lv_aload_n hx hb dL_keep_3 rfl (lv_at hl 0 rfl) ?_
  refine lv_iload_n hx hb dL_keep_4 rfl (lv_at hl 1 rfl) ?_
  refine lv_iload_n hx hb dL_keep_5 rfl (lv_at hl 2 rfl) ?_
  refine lv_iload_n hx hb dL_keep_6 rfl (lv_at hl 3 rfl) ?_
  have hPc := hP.sub (ws' := cW q k tg ad mt rb rt rp nr) [1, 2, 3, 4, 5, 6, 7] rfl
  have hDc0 := hD.sub (ws' := cW q k tg ad mt rb rt rp nr) [1, 2, 3, 4, 5, 6, 7] (by decide) rfl
  have hDc := hDc0.self (sz := s.heap.size)
  have hFc := va_free (wc := cW q k tg ad mt rb rt rp nr) hD hS hA [1, 2, 3, 4, 5, 6, 7] rfl
  have hXc := hX.narrow hFc
  refine vx_calli (vx_runV (C := "CapUnit") (b := q 0) (As := [.int d, .int r, .int y]) (rest := [.int (0 : Int32), .ref o]) ⟨hx, hb, hml, hown, hq⟩ (kC_keep l hl0 d r y ) (cwV 3 hq (wA_V q_278 q_279 q_280 q_1 q_281) rfl rfl rfl (by decide +kernel) ⟨Nat.le_of_ble_eq_true rfl, Nat.le_of_ble_eq_true rfl⟩) (zx_pre (c := zCl[0]) (q0 := 0) hK hPc hDc hXc rfl rfl) rfl rfl hl.1 rfl (lv_room (Nat.le_of_ble_eq_true rfl)) dL_keep_7 ⟨Nat.le_of_ble_eq_true rfl, Nat.le_of_ble_eq_true rfl⟩) hS (fun q _ h => hFc q h) hFc (fun q _ h => hFc q h) (fun E ce q9 u9 t9 H locs ht9 hvm9 _ hB9 hz9 hk9 hS hce hcv hcl => ?_) (fun v9 u9 t9 H locs ht9 hvm9 hv9 hB9 hz9 hk9 hS => ?_)
  · obtain ⟨hE, hP1, hK1⟩ := hB9
    rw [ht9] at hP1
    obtain ⟨hP, hD⟩ := va_join (wr := [(o, .inl (k 2, 1, .inr (.inl out)))]) (w1 := cW q k tg ad mt rb rt rp nr) hP hD [1, 2, 3, 4, 5, 6, 7] [0] rfl rfl (by decide) (by decide) hk9 hFc hP1 hDc
    have hP : va_P D zCl ((o, .inl (k 2, 1, .inr (.inl out))) :: cW q k tg ad mt rb rt rp nr) H := hP
    have hD : va_D A ((o, .inl (k 2, 1, .inr (.inl out))) :: cW q k tg ad mt rb rt rp nr) := hD
    rcases hE with ⟨hEn, hxe⟩ | ⟨hEn, hxe⟩ | ⟨hEn, hxe⟩
    · subst hEn
      refine vx_catch (own := "CapUnitLaw") (name := xIO) hown [] ⟨0, 19, 22, 13⟩ [] (htab.trans rfl) (fun _ h => absurd h List.not_mem_nil) (by decide) (by decide) (hq _ q_102) (va_Nw.use rfl hX.2.1.1) hce hcv hcl ?_
      refine lv_astore (lv' := [(5, .ref q9), (0, .ref (q 0)), (1, .int d), (2, .int r), (3, .int y), (4, .ref o)]) hx hb dL_keep_22 hl (by decide) rfl (fun ls hl => ?_)
      refine lv_iconst (v := 1) hx hb dL_keep_24 (by decide) ?_
      rw [if_neg (show ¬ xC_keep tg ad mt d r y = 0 by rw [hxe]; decide)]
      exact W.iret (v := (1 : Int32)) hx hb hr (fun t9 ht hW => ⟨⟨_, (), rfl, hxe.symm, by rw [ht]; exact hP, va_K.moved hW.alike hK, hD⟩, hS.F ht⟩) hS.2.2 dL_keep_25
    · rcases vxC_keep tg ad mt d r y with h9 | h9 <;> rw [h9] at hxe <;> exact absurd hxe (by decide)
    · rcases vxC_keep tg ad mt d r y with h9 | h9 <;> rw [h9] at hxe <;> exact absurd hxe (by decide)
  · obtain ⟨hP1, hK1, hD1⟩ := hB9
    rw [ht9] at hP1
    obtain ⟨hP, hD⟩ := va_join (wr := [(o, .inl (k 2, 1, .inr (.inl out)))]) (w1 := cW q k (zS d (fC_isOpenWithTag tg ad mt r) tg) (zS d (ad r.toNatClampNeg) ad) (zS d ((mt r.toNatClampNeg) &&& (((y ^^^ (-1 : Int32)) <<< ((20 : Int32) &&& 31)) ^^^ (-1 : Int32))) mt) rb rt rp nr) hP hD [1, 2, 3, 4, 5, 6, 7] [0] rfl rfl (by decide) (by decide) hk9 hFc hP1 hD1
    obtain ⟨hx0, hv9⟩ := hv9
    subst hv9
    have hP : va_P D zCl ((o, .inl (k 2, 1, .inr (.inl out))) :: cW q k (zS d (fC_isOpenWithTag tg ad mt r) tg) (zS d (ad r.toNatClampNeg) ad) (zS d ((mt r.toNatClampNeg) &&& (((y ^^^ (-1 : Int32)) <<< ((20 : Int32) &&& 31)) ^^^ (-1 : Int32))) mt) rb rt rp nr) H := hP
    have hD : va_D A ((o, .inl (k 2, 1, .inr (.inl out))) :: cW q k (zS d (fC_isOpenWithTag tg ad mt r) tg) (zS d (ad r.toNatClampNeg) ad) (zS d ((mt r.toNatClampNeg) &&& (((y ^^^ (-1 : Int32)) <<< ((20 : Int32) &&& 31)) ^^^ (-1 : Int32))) mt) rb rt rp nr) := hD
    rw [if_pos hx0]
    refine lv_if_eq (tgt := 17) hx hb dL_keep_10 rfl (fun h1 => ?_) (fun h1 => ?_)
    · refine lv_lconst (v := 0) hx hb dL_keep_17 (by decide) ?_
      refine zt_l (show _ = zBl (zSr d (fC_isOpenWithTag tg ad mt r)) by unfold zBl; rw [if_pos h1]) ?_
      refine va_last hx hb hK hP hD hS 0 2 rfl rfl (show ¬ ((0 : Int32) < 0 ∨ 1 ≤ (0 : Int32).toNatClampNeg) by decide) dL_keep_18 (fun H locs hP hD hS => ?_)
      have hP : va_P D zCl ((o, .inl (k 2, 1, .inr (.inl (vp_updL out 0 (zBl (zSr d (fC_isOpenWithTag tg ad mt r))))))) :: cW q k (zS d (fC_isOpenWithTag tg ad mt r) tg) (zS d (ad r.toNatClampNeg) ad) (zS d ((mt r.toNatClampNeg) &&& (((y ^^^ (-1 : Int32)) <<< ((20 : Int32) &&& 31)) ^^^ (-1 : Int32))) mt) rb rt rp nr) H := hP
      have hD : va_D A ((o, .inl (k 2, 1, .inr (.inl (vp_updL out 0 (zBl (zSr d (fC_isOpenWithTag tg ad mt r))))))) :: cW q k (zS d (fC_isOpenWithTag tg ad mt r) tg) (zS d (ad r.toNatClampNeg) ad) (zS d ((mt r.toNatClampNeg) &&& (((y ^^^ (-1 : Int32)) <<< ((20 : Int32) &&& 31)) ^^^ (-1 : Int32))) mt) rb rt rp nr) := hD
      refine lv_goto (tgt := 26) hx hb dL_keep_19 rfl ?_
      refine lv_iconst (v := 0) hx hb dL_keep_26 (by decide) ?_
      exact W.iret (v := (0 : Int32)) hx hb hr (fun t9 ht hW => ⟨⟨_, (), rfl, hx0.symm, by rw [ht]; exact hP, va_K.moved hW.alike hK, hD⟩, hS.F ht⟩) hS.2.2 dL_keep_27
    · refine lv_lconst (v := 1) hx hb dL_keep_13 (by decide) ?_
      refine lv_goto (tgt := 18) hx hb dL_keep_14 rfl ?_
      refine zt_l (show _ = zBl (zSr d (fC_isOpenWithTag tg ad mt r)) by unfold zBl; rw [if_neg h1]) ?_
      refine va_last hx hb hK hP hD hS 0 2 rfl rfl (show ¬ ((0 : Int32) < 0 ∨ 1 ≤ (0 : Int32).toNatClampNeg) by decide) dL_keep_18 (fun H locs hP hD hS => ?_)
      have hP : va_P D zCl ((o, .inl (k 2, 1, .inr (.inl (vp_updL out 0 (zBl (zSr d (fC_isOpenWithTag tg ad mt r))))))) :: cW q k (zS d (fC_isOpenWithTag tg ad mt r) tg) (zS d (ad r.toNatClampNeg) ad) (zS d ((mt r.toNatClampNeg) &&& (((y ^^^ (-1 : Int32)) <<< ((20 : Int32) &&& 31)) ^^^ (-1 : Int32))) mt) rb rt rp nr) H := hP
      have hD : va_D A ((o, .inl (k 2, 1, .inr (.inl (vp_updL out 0 (zBl (zSr d (fC_isOpenWithTag tg ad mt r))))))) :: cW q k (zS d (fC_isOpenWithTag tg ad mt r) tg) (zS d (ad r.toNatClampNeg) ad) (zS d ((mt r.toNatClampNeg) &&& (((y ^^^ (-1 : Int32)) <<< ((20 : Int32) &&& 31)) ^^^ (-1 : Int32))) mt) rb rt rp nr) := hD
      refine lv_goto (tgt := 26) hx hb dL_keep_19 rfl ?_
      refine lv_iconst (v := 0) hx hb dL_keep_26 (by decide) ?_
      exact W.iret (v := (0 : Int32)) hx hb hr (fun t9 ht hW => ⟨⟨_, (), rfl, hx0.symm, by rw [ht]; exact hP, va_K.moved hW.alike hK, hD⟩, hS.F ht⟩) hS.2.2 dL_keep_27
theorem vxC_seal (tg ad mt : Nat → Int32) (d : Int32) (r : Int32) (y : Int32) : xC_seal tg ad mt d r y = 0 ∨ xC_seal tg ad mt d r y = 1 := by
  unfold xC_seal
  repeat' split
  all_goals first | exact Or.inl rfl | exact Or.inr rfl
set_option maxHeartbeats 4000000 in
set_option maxRecDepth 100000 in
theorem kL_seal (l : Launch) (hl0 : l.stackTraces = false) {D : va_G} {q : Nat → Nat} {k : Nat → ClassId} {tg : Nat → Int32} {ad : Nat → Int32} {mt : Nat → Int32} {rb : Nat → Int64} {rt : Nat → Int64} {rp : Nat → Int32} {nr : Int32} {A : Nat → Prop} (sz : Nat) (hA0 : ∀ q, sz ≤ q → A q) (o : Nat) (out : Nat → Int64) (d : Int32) (r : Int32) (y : Int32) : Met l yL_seal wL_seal { frames := 7, cells := 1, slots := 6, locals := 169 } (va_Pc [.ref (q 0), .int d, .int r, .int y, .ref o] (fun U => U.heap.size = sz ∧ va_P D zCl ((o, .inl (k 2, 1, .inr (.inl out))) :: cW q k tg ad mt rb rt rp nr) U.heap ∧ va_K D zCl (zT k) U ∧ va_D A ((o, .inl (k 2, 1, .inr (.inl out))) :: cW q k tg ad mt rb rt rp nr) ∧ zX A U U.heap)) (va_Qi (fun v9 (_ : Unit) => v9 = xC_seal tg ad mt d r y) (fun _ t => va_P D zCl (if xC_seal tg ad mt d r y = 0 then (o, .inl (k 2, 1, .inr (.inl (vp_updL out 0 (zBl (zSr d (tC_seal tg ad mt d r y))))))) :: cW q k (zS d (tC_seal tg ad mt d r y) tg) (zS d (ad r.toNatClampNeg) ad) (zS d (fC_withType (mt r.toNatClampNeg) ((ad y.toNatClampNeg) &&& (15 : Int32))) mt) rb rt rp nr else (o, .inl (k 2, 1, .inr (.inl out))) :: cW q k tg ad mt rb rt rp nr) t.heap ∧ va_K D zCl (zT k) t ∧ va_D A (if xC_seal tg ad mt d r y = 0 then (o, .inl (k 2, 1, .inr (.inl (vp_updL out 0 (zBl (zSr d (tC_seal tg ad mt d r y))))))) :: cW q k (zS d (tC_seal tg ad mt d r y) tg) (zS d (ad r.toNatClampNeg) ad) (zS d (fC_withType (mt r.toNatClampNeg) ((ad y.toNatClampNeg) &&& (15 : Int32))) mt) rb rt rp nr else (o, .inl (k 2, 1, .inr (.inl out))) :: cW q k tg ad mt rb rt rp nr)) A) 1 6 A := by
  refine va_MetW (cc := cL_seal) (maxL := 6) (ret := (some .int)) (hh := [(0, 19, 22, 13)]) (by decide) rfl ?_
  intro p e s m args below meth c s₁ B hml hv
  obtain ⟨rfl, hsz, hP, hK, hD, hX⟩ := hv
  have hx := B.exec
  have hb := B.bytes
  have hr := B.returns
  have hts := atoms_spec (ws := wL_seal) B.pre
  have hq : ∀ w ∈ wA, w.before _ s = true := fun w h => hts w (List.mem_cons_of_mem _ h)
  have hown : s.vm.findClass "CapUnitLaw" = some m.cls := findClass_of_methodNamed B.named
  have hlocks := B.notSynchronized
  have hS : va_S A s.heap s.heap [] := va_S.rf
  have hl := lv_entry ([.ref (q 0), .int d, .int r, .int y, .ref o]) (n := 6) (Nat.le_of_ble_eq_true rfl)
  rw [lg_entry_eq]
  generalize (lg_sl ([.ref (q 0), .int d, .int r, .int y, .ref o]) ++ List.replicate (6 - (lg_sl ([.ref (q 0), .int d, .int r, .int y, .ref o])).length) Slot.unset).toArray = ls at hl ⊢
  have hl : lv_has ls 6 [(0, .ref (q 0)), (1, .int d), (2, .int r), (3, .int y), (4, .ref o)] := hl
  have hA : ∀ q, s.heap.size ≤ q → A q := fun q h => hA0 q (by omega)
  have htab := vx_table (x := yL_seal) B (hts _ List.mem_cons_self)
  refine lv_aload hx hb dL_seal_0 (lv_at hl 4 rfl) ?_
  refine lv_iconst (v := 0) hx hb dL_seal_2 (by decide) ?_
  refine lv_aload_n hx hb dL_seal_3 rfl (lv_at hl 0 rfl) ?_
  refine lv_iload_n hx hb dL_seal_4 rfl (lv_at hl 1 rfl) ?_
  refine lv_iload_n hx hb dL_seal_5 rfl (lv_at hl 2 rfl) ?_
  refine lv_iload_n hx hb dL_seal_6 rfl (lv_at hl 3 rfl) ?_
  have hPc := hP.sub (ws' := cW q k tg ad mt rb rt rp nr) [1, 2, 3, 4, 5, 6, 7] rfl
  have hDc0 := hD.sub (ws' := cW q k tg ad mt rb rt rp nr) [1, 2, 3, 4, 5, 6, 7] (by decide) rfl
  have hDc := hDc0.self (sz := s.heap.size)
  have hFc := va_free (wc := cW q k tg ad mt rb rt rp nr) hD hS hA [1, 2, 3, 4, 5, 6, 7] rfl
  have hXc := hX.narrow hFc
  refine vx_calli (vx_runV (C := "CapUnit") (b := q 0) (As := [.int d, .int r, .int y]) (rest := [.int (0 : Int32), .ref o]) ⟨hx, hb, hml, hown, hq⟩ (kC_seal l hl0 d r y ) (cwV 3 hq (wA_V q_285 q_286 q_287 q_1 q_288) rfl rfl rfl (by decide +kernel) ⟨Nat.le_of_ble_eq_true rfl, Nat.le_of_ble_eq_true rfl⟩) (zx_pre (c := zCl[0]) (q0 := 0) hK hPc hDc hXc rfl rfl) rfl rfl hl.1 rfl (lv_room (Nat.le_of_ble_eq_true rfl)) dL_seal_7 ⟨Nat.le_of_ble_eq_true rfl, Nat.le_of_ble_eq_true rfl⟩) hS (fun q _ h => hFc q h) hFc (fun q _ h => hFc q h) (fun E ce q9 u9 t9 H locs ht9 hvm9 _ hB9 hz9 hk9 hS hce hcv hcl => ?_) (fun v9 u9 t9 H locs ht9 hvm9 hv9 hB9 hz9 hk9 hS => ?_)
  · obtain ⟨hE, hP1, hK1⟩ := hB9
    rw [ht9] at hP1
    obtain ⟨hP, hD⟩ := va_join (wr := [(o, .inl (k 2, 1, .inr (.inl out)))]) (w1 := cW q k tg ad mt rb rt rp nr) hP hD [1, 2, 3, 4, 5, 6, 7] [0] rfl rfl (by decide) (by decide) hk9 hFc hP1 hDc
    have hP : va_P D zCl ((o, .inl (k 2, 1, .inr (.inl out))) :: cW q k tg ad mt rb rt rp nr) H := hP
    have hD : va_D A ((o, .inl (k 2, 1, .inr (.inl out))) :: cW q k tg ad mt rb rt rp nr) := hD
    rcases hE with ⟨hEn, hxe⟩ | ⟨hEn, hxe⟩ | ⟨hEn, hxe⟩
    · subst hEn
      refine vx_catch (own := "CapUnitLaw") (name := xIO) hown [] ⟨0, 19, 22, 13⟩ [] (htab.trans rfl) (fun _ h => absurd h List.not_mem_nil) (by decide) (by decide) (hq _ q_102) (va_Nw.use rfl hX.2.1.1) hce hcv hcl ?_
      refine lv_astore (lv' := [(5, .ref q9), (0, .ref (q 0)), (1, .int d), (2, .int r), (3, .int y), (4, .ref o)]) hx hb dL_seal_22 hl (by decide) rfl (fun ls hl => ?_)
      refine lv_iconst (v := 1) hx hb dL_seal_24 (by decide) ?_
      rw [if_neg (show ¬ xC_seal tg ad mt d r y = 0 by rw [hxe]; decide)]
      exact W.iret (v := (1 : Int32)) hx hb hr (fun t9 ht hW => ⟨⟨_, (), rfl, hxe.symm, by rw [ht]; exact hP, va_K.moved hW.alike hK, hD⟩, hS.F ht⟩) hS.2.2 dL_seal_25
    · rcases vxC_seal tg ad mt d r y with h9 | h9 <;> rw [h9] at hxe <;> exact absurd hxe (by decide)
    · rcases vxC_seal tg ad mt d r y with h9 | h9 <;> rw [h9] at hxe <;> exact absurd hxe (by decide)
  · obtain ⟨hP1, hK1, hD1⟩ := hB9
    rw [ht9] at hP1
    obtain ⟨hP, hD⟩ := va_join (wr := [(o, .inl (k 2, 1, .inr (.inl out)))]) (w1 := cW q k (zS d (tC_seal tg ad mt d r y) tg) (zS d (ad r.toNatClampNeg) ad) (zS d (fC_withType (mt r.toNatClampNeg) ((ad y.toNatClampNeg) &&& (15 : Int32))) mt) rb rt rp nr) hP hD [1, 2, 3, 4, 5, 6, 7] [0] rfl rfl (by decide) (by decide) hk9 hFc hP1 hD1
    obtain ⟨hx0, hv9⟩ := hv9
    subst hv9
    have hP : va_P D zCl ((o, .inl (k 2, 1, .inr (.inl out))) :: cW q k (zS d (tC_seal tg ad mt d r y) tg) (zS d (ad r.toNatClampNeg) ad) (zS d (fC_withType (mt r.toNatClampNeg) ((ad y.toNatClampNeg) &&& (15 : Int32))) mt) rb rt rp nr) H := hP
    have hD : va_D A ((o, .inl (k 2, 1, .inr (.inl out))) :: cW q k (zS d (tC_seal tg ad mt d r y) tg) (zS d (ad r.toNatClampNeg) ad) (zS d (fC_withType (mt r.toNatClampNeg) ((ad y.toNatClampNeg) &&& (15 : Int32))) mt) rb rt rp nr) := hD
    rw [if_pos hx0]
    refine lv_if_eq (tgt := 17) hx hb dL_seal_10 rfl (fun h1 => ?_) (fun h1 => ?_)
    · refine lv_lconst (v := 0) hx hb dL_seal_17 (by decide) ?_
      refine zt_l (show _ = zBl (zSr d (tC_seal tg ad mt d r y)) by unfold zBl; rw [if_pos h1]) ?_
      refine va_last hx hb hK hP hD hS 0 2 rfl rfl (show ¬ ((0 : Int32) < 0 ∨ 1 ≤ (0 : Int32).toNatClampNeg) by decide) dL_seal_18 (fun H locs hP hD hS => ?_)
      have hP : va_P D zCl ((o, .inl (k 2, 1, .inr (.inl (vp_updL out 0 (zBl (zSr d (tC_seal tg ad mt d r y))))))) :: cW q k (zS d (tC_seal tg ad mt d r y) tg) (zS d (ad r.toNatClampNeg) ad) (zS d (fC_withType (mt r.toNatClampNeg) ((ad y.toNatClampNeg) &&& (15 : Int32))) mt) rb rt rp nr) H := hP
      have hD : va_D A ((o, .inl (k 2, 1, .inr (.inl (vp_updL out 0 (zBl (zSr d (tC_seal tg ad mt d r y))))))) :: cW q k (zS d (tC_seal tg ad mt d r y) tg) (zS d (ad r.toNatClampNeg) ad) (zS d (fC_withType (mt r.toNatClampNeg) ((ad y.toNatClampNeg) &&& (15 : Int32))) mt) rb rt rp nr) := hD
      refine lv_goto (tgt := 26) hx hb dL_seal_19 rfl ?_
      refine lv_iconst (v := 0) hx hb dL_seal_26 (by decide) ?_
      exact W.iret (v := (0 : Int32)) hx hb hr (fun t9 ht hW => ⟨⟨_, (), rfl, hx0.symm, by rw [ht]; exact hP, va_K.moved hW.alike hK, hD⟩, hS.F ht⟩) hS.2.2 dL_seal_27
    · refine lv_lconst (v := 1) hx hb dL_seal_13 (by decide) ?_
      refine lv_goto (tgt := 18) hx hb dL_seal_14 rfl ?_
      refine zt_l (show _ = zBl (zSr d (tC_seal tg ad mt d r y)) by unfold zBl; rw [if_neg h1]) ?_
      refine va_last hx hb hK hP hD hS 0 2 rfl rfl (show ¬ ((0 : Int32) < 0 ∨ 1 ≤ (0 : Int32).toNatClampNeg) by decide) dL_seal_18 (fun H locs hP hD hS => ?_)
      have hP : va_P D zCl ((o, .inl (k 2, 1, .inr (.inl (vp_updL out 0 (zBl (zSr d (tC_seal tg ad mt d r y))))))) :: cW q k (zS d (tC_seal tg ad mt d r y) tg) (zS d (ad r.toNatClampNeg) ad) (zS d (fC_withType (mt r.toNatClampNeg) ((ad y.toNatClampNeg) &&& (15 : Int32))) mt) rb rt rp nr) H := hP
      have hD : va_D A ((o, .inl (k 2, 1, .inr (.inl (vp_updL out 0 (zBl (zSr d (tC_seal tg ad mt d r y))))))) :: cW q k (zS d (tC_seal tg ad mt d r y) tg) (zS d (ad r.toNatClampNeg) ad) (zS d (fC_withType (mt r.toNatClampNeg) ((ad y.toNatClampNeg) &&& (15 : Int32))) mt) rb rt rp nr) := hD
      refine lv_goto (tgt := 26) hx hb dL_seal_19 rfl ?_
      refine lv_iconst (v := 0) hx hb dL_seal_26 (by decide) ?_
      exact W.iret (v := (0 : Int32)) hx hb hr (fun t9 ht hW => ⟨⟨_, (), rfl, hx0.symm, by rw [ht]; exact hP, va_K.moved hW.alike hK, hD⟩, hS.F ht⟩) hS.2.2 dL_seal_27
theorem vxC_unseal (tg ad mt : Nat → Int32) (d : Int32) (r : Int32) (y : Int32) : xC_unseal tg ad mt d r y = 0 ∨ xC_unseal tg ad mt d r y = 1 := by
  unfold xC_unseal
  repeat' split
  all_goals first | exact Or.inl rfl | exact Or.inr rfl
set_option maxHeartbeats 4000000 in
set_option maxRecDepth 100000 in
theorem kL_unseal (l : Launch) (hl0 : l.stackTraces = false) {D : va_G} {q : Nat → Nat} {k : Nat → ClassId} {tg : Nat → Int32} {ad : Nat → Int32} {mt : Nat → Int32} {rb : Nat → Int64} {rt : Nat → Int64} {rp : Nat → Int32} {nr : Int32} {A : Nat → Prop} (sz : Nat) (hA0 : ∀ q, sz ≤ q → A q) (o : Nat) (out : Nat → Int64) (d : Int32) (r : Int32) (y : Int32) : Met l yL_unseal wL_unseal { frames := 7, cells := 1, slots := 6, locals := 171 } (va_Pc [.ref (q 0), .int d, .int r, .int y, .ref o] (fun U => U.heap.size = sz ∧ va_P D zCl ((o, .inl (k 2, 1, .inr (.inl out))) :: cW q k tg ad mt rb rt rp nr) U.heap ∧ va_K D zCl (zT k) U ∧ va_D A ((o, .inl (k 2, 1, .inr (.inl out))) :: cW q k tg ad mt rb rt rp nr) ∧ zX A U U.heap)) (va_Qi (fun v9 (_ : Unit) => v9 = xC_unseal tg ad mt d r y) (fun _ t => va_P D zCl (if xC_unseal tg ad mt d r y = 0 then (o, .inl (k 2, 1, .inr (.inl (vp_updL out 0 (zBl (zSr d (tC_unseal tg ad mt d r y))))))) :: cW q k (zS d (tC_unseal tg ad mt d r y) tg) (zS d (ad r.toNatClampNeg) ad) (zS d (mC_unseal tg ad mt d r y) mt) rb rt rp nr else (o, .inl (k 2, 1, .inr (.inl out))) :: cW q k tg ad mt rb rt rp nr) t.heap ∧ va_K D zCl (zT k) t ∧ va_D A (if xC_unseal tg ad mt d r y = 0 then (o, .inl (k 2, 1, .inr (.inl (vp_updL out 0 (zBl (zSr d (tC_unseal tg ad mt d r y))))))) :: cW q k (zS d (tC_unseal tg ad mt d r y) tg) (zS d (ad r.toNatClampNeg) ad) (zS d (mC_unseal tg ad mt d r y) mt) rb rt rp nr else (o, .inl (k 2, 1, .inr (.inl out))) :: cW q k tg ad mt rb rt rp nr)) A) 1 6 A := by
  refine va_MetW (cc := cL_unseal) (maxL := 6) (ret := (some .int)) (hh := [(0, 19, 22, 13)]) (by decide) rfl ?_
  intro p e s m args below meth c s₁ B hml hv
  obtain ⟨rfl, hsz, hP, hK, hD, hX⟩ := hv
  have hx := B.exec
  have hb := B.bytes
  have hr := B.returns
  have hts := atoms_spec (ws := wL_unseal) B.pre
  have hq : ∀ w ∈ wA, w.before _ s = true := fun w h => hts w (List.mem_cons_of_mem _ h)
  have hown : s.vm.findClass "CapUnitLaw" = some m.cls := findClass_of_methodNamed B.named
  have hlocks := B.notSynchronized
  have hS : va_S A s.heap s.heap [] := va_S.rf
  have hl := lv_entry ([.ref (q 0), .int d, .int r, .int y, .ref o]) (n := 6) (Nat.le_of_ble_eq_true rfl)
  rw [lg_entry_eq]
  generalize (lg_sl ([.ref (q 0), .int d, .int r, .int y, .ref o]) ++ List.replicate (6 - (lg_sl ([.ref (q 0), .int d, .int r, .int y, .ref o])).length) Slot.unset).toArray = ls at hl ⊢
  have hl : lv_has ls 6 [(0, .ref (q 0)), (1, .int d), (2, .int r), (3, .int y), (4, .ref o)] := hl
  have hA : ∀ q, s.heap.size ≤ q → A q := fun q h => hA0 q (by omega)
  have htab := vx_table (x := yL_unseal) B (hts _ List.mem_cons_self)
  refine lv_aload hx hb dL_unseal_0 (lv_at hl 4 rfl) ?_
  refine lv_iconst (v := 0) hx hb dL_unseal_2 (by decide) ?_
  refine lv_aload_n hx hb dL_unseal_3 rfl (lv_at hl 0 rfl) ?_
  refine lv_iload_n hx hb dL_unseal_4 rfl (lv_at hl 1 rfl) ?_
  refine lv_iload_n hx hb dL_unseal_5 rfl (lv_at hl 2 rfl) ?_
  refine lv_iload_n hx hb dL_unseal_6 rfl (lv_at hl 3 rfl) ?_
  have hPc := hP.sub (ws' := cW q k tg ad mt rb rt rp nr) [1, 2, 3, 4, 5, 6, 7] rfl
  have hDc0 := hD.sub (ws' := cW q k tg ad mt rb rt rp nr) [1, 2, 3, 4, 5, 6, 7] (by decide) rfl
  have hDc := hDc0.self (sz := s.heap.size)
  have hFc := va_free (wc := cW q k tg ad mt rb rt rp nr) hD hS hA [1, 2, 3, 4, 5, 6, 7] rfl
  have hXc := hX.narrow hFc
  refine vx_calli (vx_runV (C := "CapUnit") (b := q 0) (As := [.int d, .int r, .int y]) (rest := [.int (0 : Int32), .ref o]) ⟨hx, hb, hml, hown, hq⟩ (kC_unseal l hl0 d r y ) (cwV 3 hq (wA_V q_305 q_306 q_307 q_1 q_308) rfl rfl rfl (by decide +kernel) ⟨Nat.le_of_ble_eq_true rfl, Nat.le_of_ble_eq_true rfl⟩) (zx_pre (c := zCl[0]) (q0 := 0) hK hPc hDc hXc rfl rfl) rfl rfl hl.1 rfl (lv_room (Nat.le_of_ble_eq_true rfl)) dL_unseal_7 ⟨Nat.le_of_ble_eq_true rfl, Nat.le_of_ble_eq_true rfl⟩) hS (fun q _ h => hFc q h) hFc (fun q _ h => hFc q h) (fun E ce q9 u9 t9 H locs ht9 hvm9 _ hB9 hz9 hk9 hS hce hcv hcl => ?_) (fun v9 u9 t9 H locs ht9 hvm9 hv9 hB9 hz9 hk9 hS => ?_)
  · obtain ⟨hE, hP1, hK1⟩ := hB9
    rw [ht9] at hP1
    obtain ⟨hP, hD⟩ := va_join (wr := [(o, .inl (k 2, 1, .inr (.inl out)))]) (w1 := cW q k tg ad mt rb rt rp nr) hP hD [1, 2, 3, 4, 5, 6, 7] [0] rfl rfl (by decide) (by decide) hk9 hFc hP1 hDc
    have hP : va_P D zCl ((o, .inl (k 2, 1, .inr (.inl out))) :: cW q k tg ad mt rb rt rp nr) H := hP
    have hD : va_D A ((o, .inl (k 2, 1, .inr (.inl out))) :: cW q k tg ad mt rb rt rp nr) := hD
    rcases hE with ⟨hEn, hxe⟩ | ⟨hEn, hxe⟩ | ⟨hEn, hxe⟩
    · subst hEn
      refine vx_catch (own := "CapUnitLaw") (name := xIO) hown [] ⟨0, 19, 22, 13⟩ [] (htab.trans rfl) (fun _ h => absurd h List.not_mem_nil) (by decide) (by decide) (hq _ q_102) (va_Nw.use rfl hX.2.1.1) hce hcv hcl ?_
      refine lv_astore (lv' := [(5, .ref q9), (0, .ref (q 0)), (1, .int d), (2, .int r), (3, .int y), (4, .ref o)]) hx hb dL_unseal_22 hl (by decide) rfl (fun ls hl => ?_)
      refine lv_iconst (v := 1) hx hb dL_unseal_24 (by decide) ?_
      rw [if_neg (show ¬ xC_unseal tg ad mt d r y = 0 by rw [hxe]; decide)]
      exact W.iret (v := (1 : Int32)) hx hb hr (fun t9 ht hW => ⟨⟨_, (), rfl, hxe.symm, by rw [ht]; exact hP, va_K.moved hW.alike hK, hD⟩, hS.F ht⟩) hS.2.2 dL_unseal_25
    · rcases vxC_unseal tg ad mt d r y with h9 | h9 <;> rw [h9] at hxe <;> exact absurd hxe (by decide)
    · rcases vxC_unseal tg ad mt d r y with h9 | h9 <;> rw [h9] at hxe <;> exact absurd hxe (by decide)
  · obtain ⟨hP1, hK1, hD1⟩ := hB9
    rw [ht9] at hP1
    obtain ⟨hP, hD⟩ := va_join (wr := [(o, .inl (k 2, 1, .inr (.inl out)))]) (w1 := cW q k (zS d (tC_unseal tg ad mt d r y) tg) (zS d (ad r.toNatClampNeg) ad) (zS d (mC_unseal tg ad mt d r y) mt) rb rt rp nr) hP hD [1, 2, 3, 4, 5, 6, 7] [0] rfl rfl (by decide) (by decide) hk9 hFc hP1 hD1
    obtain ⟨hx0, hv9⟩ := hv9
    subst hv9
    have hP : va_P D zCl ((o, .inl (k 2, 1, .inr (.inl out))) :: cW q k (zS d (tC_unseal tg ad mt d r y) tg) (zS d (ad r.toNatClampNeg) ad) (zS d (mC_unseal tg ad mt d r y) mt) rb rt rp nr) H := hP
    have hD : va_D A ((o, .inl (k 2, 1, .inr (.inl out))) :: cW q k (zS d (tC_unseal tg ad mt d r y) tg) (zS d (ad r.toNatClampNeg) ad) (zS d (mC_unseal tg ad mt d r y) mt) rb rt rp nr) := hD
    rw [if_pos hx0]
    refine lv_if_eq (tgt := 17) hx hb dL_unseal_10 rfl (fun h1 => ?_) (fun h1 => ?_)
    · refine lv_lconst (v := 0) hx hb dL_unseal_17 (by decide) ?_
      refine zt_l (show _ = zBl (zSr d (tC_unseal tg ad mt d r y)) by unfold zBl; rw [if_pos h1]) ?_
      refine va_last hx hb hK hP hD hS 0 2 rfl rfl (show ¬ ((0 : Int32) < 0 ∨ 1 ≤ (0 : Int32).toNatClampNeg) by decide) dL_unseal_18 (fun H locs hP hD hS => ?_)
      have hP : va_P D zCl ((o, .inl (k 2, 1, .inr (.inl (vp_updL out 0 (zBl (zSr d (tC_unseal tg ad mt d r y))))))) :: cW q k (zS d (tC_unseal tg ad mt d r y) tg) (zS d (ad r.toNatClampNeg) ad) (zS d (mC_unseal tg ad mt d r y) mt) rb rt rp nr) H := hP
      have hD : va_D A ((o, .inl (k 2, 1, .inr (.inl (vp_updL out 0 (zBl (zSr d (tC_unseal tg ad mt d r y))))))) :: cW q k (zS d (tC_unseal tg ad mt d r y) tg) (zS d (ad r.toNatClampNeg) ad) (zS d (mC_unseal tg ad mt d r y) mt) rb rt rp nr) := hD
      refine lv_goto (tgt := 26) hx hb dL_unseal_19 rfl ?_
      refine lv_iconst (v := 0) hx hb dL_unseal_26 (by decide) ?_
      exact W.iret (v := (0 : Int32)) hx hb hr (fun t9 ht hW => ⟨⟨_, (), rfl, hx0.symm, by rw [ht]; exact hP, va_K.moved hW.alike hK, hD⟩, hS.F ht⟩) hS.2.2 dL_unseal_27
    · refine lv_lconst (v := 1) hx hb dL_unseal_13 (by decide) ?_
      refine lv_goto (tgt := 18) hx hb dL_unseal_14 rfl ?_
      refine zt_l (show _ = zBl (zSr d (tC_unseal tg ad mt d r y)) by unfold zBl; rw [if_neg h1]) ?_
      refine va_last hx hb hK hP hD hS 0 2 rfl rfl (show ¬ ((0 : Int32) < 0 ∨ 1 ≤ (0 : Int32).toNatClampNeg) by decide) dL_unseal_18 (fun H locs hP hD hS => ?_)
      have hP : va_P D zCl ((o, .inl (k 2, 1, .inr (.inl (vp_updL out 0 (zBl (zSr d (tC_unseal tg ad mt d r y))))))) :: cW q k (zS d (tC_unseal tg ad mt d r y) tg) (zS d (ad r.toNatClampNeg) ad) (zS d (mC_unseal tg ad mt d r y) mt) rb rt rp nr) H := hP
      have hD : va_D A ((o, .inl (k 2, 1, .inr (.inl (vp_updL out 0 (zBl (zSr d (tC_unseal tg ad mt d r y))))))) :: cW q k (zS d (tC_unseal tg ad mt d r y) tg) (zS d (ad r.toNatClampNeg) ad) (zS d (mC_unseal tg ad mt d r y) mt) rb rt rp nr) := hD
      refine lv_goto (tgt := 26) hx hb dL_unseal_19 rfl ?_
      refine lv_iconst (v := 0) hx hb dL_unseal_26 (by decide) ?_
      exact W.iret (v := (0 : Int32)) hx hb hr (fun t9 ht hW => ⟨⟨_, (), rfl, hx0.symm, by rw [ht]; exact hP, va_K.moved hW.alike hK, hD⟩, hS.F ht⟩) hS.2.2 dL_unseal_27
theorem vxC_gate (tg ad mt : Nat → Int32) (d : Int32) (r : Int32) : xC_gate tg ad mt d r = 0 ∨ xC_gate tg ad mt d r = 1 := by
  unfold xC_gate
  repeat' split
  all_goals first | exact Or.inl rfl | exact Or.inr rfl
set_option maxHeartbeats 4000000 in
set_option maxRecDepth 100000 in
theorem kL_gate (l : Launch) (hl0 : l.stackTraces = false) {D : va_G} {q : Nat → Nat} {k : Nat → ClassId} {tg : Nat → Int32} {ad : Nat → Int32} {mt : Nat → Int32} {rb : Nat → Int64} {rt : Nat → Int64} {rp : Nat → Int32} {nr : Int32} {A : Nat → Prop} (sz : Nat) (hA0 : ∀ q, sz ≤ q → A q) (o : Nat) (out : Nat → Int64) (d : Int32) (r : Int32) : Met l yL_gate wL_gate { frames := 7, cells := 1, slots := 6, locals := 105 } (va_Pc [.ref (q 0), .int d, .int r, .ref o] (fun U => U.heap.size = sz ∧ va_P D zCl ((o, .inl (k 2, 1, .inr (.inl out))) :: cW q k tg ad mt rb rt rp nr) U.heap ∧ va_K D zCl (zT k) U ∧ va_D A ((o, .inl (k 2, 1, .inr (.inl out))) :: cW q k tg ad mt rb rt rp nr) ∧ zX A U U.heap)) (va_Qi (fun v9 (_ : Unit) => v9 = xC_gate tg ad mt d r) (fun _ t => va_P D zCl (if xC_gate tg ad mt d r = 0 then (o, .inl (k 2, 1, .inr (.inl (vp_updL out 0 (zBl (zSr d (tC_gate tg ad mt d r))))))) :: cW q k (zS d (tC_gate tg ad mt d r) tg) (zS d (ad r.toNatClampNeg) ad) (zS d (fC_withType (mt r.toNatClampNeg) (14 : Int32)) mt) rb rt rp nr else (o, .inl (k 2, 1, .inr (.inl out))) :: cW q k tg ad mt rb rt rp nr) t.heap ∧ va_K D zCl (zT k) t ∧ va_D A (if xC_gate tg ad mt d r = 0 then (o, .inl (k 2, 1, .inr (.inl (vp_updL out 0 (zBl (zSr d (tC_gate tg ad mt d r))))))) :: cW q k (zS d (tC_gate tg ad mt d r) tg) (zS d (ad r.toNatClampNeg) ad) (zS d (fC_withType (mt r.toNatClampNeg) (14 : Int32)) mt) rb rt rp nr else (o, .inl (k 2, 1, .inr (.inl out))) :: cW q k tg ad mt rb rt rp nr)) A) 1 6 A := by
  refine va_MetW (cc := cL_gate) (maxL := 5) (ret := (some .int)) (hh := [(0, 17, 20, 13)]) (by decide) rfl ?_
  intro p e s m args below meth c s₁ B hml hv
  obtain ⟨rfl, hsz, hP, hK, hD, hX⟩ := hv
  have hx := B.exec
  have hb := B.bytes
  have hr := B.returns
  have hts := atoms_spec (ws := wL_gate) B.pre
  have hq : ∀ w ∈ wA, w.before _ s = true := fun w h => hts w (List.mem_cons_of_mem _ h)
  have hown : s.vm.findClass "CapUnitLaw" = some m.cls := findClass_of_methodNamed B.named
  have hlocks := B.notSynchronized
  have hS : va_S A s.heap s.heap [] := va_S.rf
  have hl := lv_entry ([.ref (q 0), .int d, .int r, .ref o]) (n := 5) (Nat.le_of_ble_eq_true rfl)
  rw [lg_entry_eq]
  generalize (lg_sl ([.ref (q 0), .int d, .int r, .ref o]) ++ List.replicate (5 - (lg_sl ([.ref (q 0), .int d, .int r, .ref o])).length) Slot.unset).toArray = ls at hl ⊢
  have hl : lv_has ls 5 [(0, .ref (q 0)), (1, .int d), (2, .int r), (3, .ref o)] := hl
  have hA : ∀ q, s.heap.size ≤ q → A q := fun q h => hA0 q (by omega)
  have htab := vx_table (x := yL_gate) B (hts _ List.mem_cons_self)
  refine lv_aload_n hx hb dL_gate_0 rfl (lv_at hl 3 rfl) ?_
  refine lv_iconst (v := 0) hx hb dL_gate_1 (by decide) ?_
  refine lv_aload_n hx hb dL_gate_2 rfl (lv_at hl 0 rfl) ?_
  refine lv_iload_n hx hb dL_gate_3 rfl (lv_at hl 1 rfl) ?_
  refine lv_iload_n hx hb dL_gate_4 rfl (lv_at hl 2 rfl) ?_
  have hPc := hP.sub (ws' := cW q k tg ad mt rb rt rp nr) [1, 2, 3, 4, 5, 6, 7] rfl
  have hDc0 := hD.sub (ws' := cW q k tg ad mt rb rt rp nr) [1, 2, 3, 4, 5, 6, 7] (by decide) rfl
  have hDc := hDc0.self (sz := s.heap.size)
  have hFc := va_free (wc := cW q k tg ad mt rb rt rp nr) hD hS hA [1, 2, 3, 4, 5, 6, 7] rfl
  have hXc := hX.narrow hFc
  refine vx_calli (vx_runV (C := "CapUnit") (b := q 0) (As := [.int d, .int r]) (rest := [.int (0 : Int32), .ref o]) ⟨hx, hb, hml, hown, hq⟩ (kC_gate l hl0 d r ) (cwV 2 hq (wA_V q_313 q_314 q_315 q_1 q_316) rfl rfl rfl (by decide +kernel) ⟨Nat.le_of_ble_eq_true rfl, Nat.le_of_ble_eq_true rfl⟩) (zx_pre (c := zCl[0]) (q0 := 0) hK hPc hDc hXc rfl rfl) rfl rfl hl.1 rfl (lv_room (Nat.le_of_ble_eq_true rfl)) dL_gate_5 ⟨Nat.le_of_ble_eq_true rfl, Nat.le_of_ble_eq_true rfl⟩) hS (fun q _ h => hFc q h) hFc (fun q _ h => hFc q h) (fun E ce q9 u9 t9 H locs ht9 hvm9 _ hB9 hz9 hk9 hS hce hcv hcl => ?_) (fun v9 u9 t9 H locs ht9 hvm9 hv9 hB9 hz9 hk9 hS => ?_)
  · obtain ⟨hE, hP1, hK1⟩ := hB9
    rw [ht9] at hP1
    obtain ⟨hP, hD⟩ := va_join (wr := [(o, .inl (k 2, 1, .inr (.inl out)))]) (w1 := cW q k tg ad mt rb rt rp nr) hP hD [1, 2, 3, 4, 5, 6, 7] [0] rfl rfl (by decide) (by decide) hk9 hFc hP1 hDc
    have hP : va_P D zCl ((o, .inl (k 2, 1, .inr (.inl out))) :: cW q k tg ad mt rb rt rp nr) H := hP
    have hD : va_D A ((o, .inl (k 2, 1, .inr (.inl out))) :: cW q k tg ad mt rb rt rp nr) := hD
    rcases hE with ⟨hEn, hxe⟩ | ⟨hEn, hxe⟩ | ⟨hEn, hxe⟩
    · subst hEn
      refine vx_catch (own := "CapUnitLaw") (name := xIO) hown [] ⟨0, 17, 20, 13⟩ [] (htab.trans rfl) (fun _ h => absurd h List.not_mem_nil) (by decide) (by decide) (hq _ q_102) (va_Nw.use rfl hX.2.1.1) hce hcv hcl ?_
      refine lv_astore (lv' := [(4, .ref q9), (0, .ref (q 0)), (1, .int d), (2, .int r), (3, .ref o)]) hx hb dL_gate_20 hl (by decide) rfl (fun ls hl => ?_)
      refine lv_iconst (v := 1) hx hb dL_gate_22 (by decide) ?_
      rw [if_neg (show ¬ xC_gate tg ad mt d r = 0 by rw [hxe]; decide)]
      exact W.iret (v := (1 : Int32)) hx hb hr (fun t9 ht hW => ⟨⟨_, (), rfl, hxe.symm, by rw [ht]; exact hP, va_K.moved hW.alike hK, hD⟩, hS.F ht⟩) hS.2.2 dL_gate_23
    · rcases vxC_gate tg ad mt d r with h9 | h9 <;> rw [h9] at hxe <;> exact absurd hxe (by decide)
    · rcases vxC_gate tg ad mt d r with h9 | h9 <;> rw [h9] at hxe <;> exact absurd hxe (by decide)
  · obtain ⟨hP1, hK1, hD1⟩ := hB9
    rw [ht9] at hP1
    obtain ⟨hP, hD⟩ := va_join (wr := [(o, .inl (k 2, 1, .inr (.inl out)))]) (w1 := cW q k (zS d (tC_gate tg ad mt d r) tg) (zS d (ad r.toNatClampNeg) ad) (zS d (fC_withType (mt r.toNatClampNeg) (14 : Int32)) mt) rb rt rp nr) hP hD [1, 2, 3, 4, 5, 6, 7] [0] rfl rfl (by decide) (by decide) hk9 hFc hP1 hD1
    obtain ⟨hx0, hv9⟩ := hv9
    subst hv9
    have hP : va_P D zCl ((o, .inl (k 2, 1, .inr (.inl out))) :: cW q k (zS d (tC_gate tg ad mt d r) tg) (zS d (ad r.toNatClampNeg) ad) (zS d (fC_withType (mt r.toNatClampNeg) (14 : Int32)) mt) rb rt rp nr) H := hP
    have hD : va_D A ((o, .inl (k 2, 1, .inr (.inl out))) :: cW q k (zS d (tC_gate tg ad mt d r) tg) (zS d (ad r.toNatClampNeg) ad) (zS d (fC_withType (mt r.toNatClampNeg) (14 : Int32)) mt) rb rt rp nr) := hD
    rw [if_pos hx0]
    refine lv_if_eq (tgt := 15) hx hb dL_gate_8 rfl (fun h1 => ?_) (fun h1 => ?_)
    · refine lv_lconst (v := 0) hx hb dL_gate_15 (by decide) ?_
      refine zt_l (show _ = zBl (zSr d (tC_gate tg ad mt d r)) by unfold zBl; rw [if_pos h1]) ?_
      refine va_last hx hb hK hP hD hS 0 2 rfl rfl (show ¬ ((0 : Int32) < 0 ∨ 1 ≤ (0 : Int32).toNatClampNeg) by decide) dL_gate_16 (fun H locs hP hD hS => ?_)
      have hP : va_P D zCl ((o, .inl (k 2, 1, .inr (.inl (vp_updL out 0 (zBl (zSr d (tC_gate tg ad mt d r))))))) :: cW q k (zS d (tC_gate tg ad mt d r) tg) (zS d (ad r.toNatClampNeg) ad) (zS d (fC_withType (mt r.toNatClampNeg) (14 : Int32)) mt) rb rt rp nr) H := hP
      have hD : va_D A ((o, .inl (k 2, 1, .inr (.inl (vp_updL out 0 (zBl (zSr d (tC_gate tg ad mt d r))))))) :: cW q k (zS d (tC_gate tg ad mt d r) tg) (zS d (ad r.toNatClampNeg) ad) (zS d (fC_withType (mt r.toNatClampNeg) (14 : Int32)) mt) rb rt rp nr) := hD
      refine lv_goto (tgt := 24) hx hb dL_gate_17 rfl ?_
      refine lv_iconst (v := 0) hx hb dL_gate_24 (by decide) ?_
      exact W.iret (v := (0 : Int32)) hx hb hr (fun t9 ht hW => ⟨⟨_, (), rfl, hx0.symm, by rw [ht]; exact hP, va_K.moved hW.alike hK, hD⟩, hS.F ht⟩) hS.2.2 dL_gate_25
    · refine lv_lconst (v := 1) hx hb dL_gate_11 (by decide) ?_
      refine lv_goto (tgt := 16) hx hb dL_gate_12 rfl ?_
      refine zt_l (show _ = zBl (zSr d (tC_gate tg ad mt d r)) by unfold zBl; rw [if_neg h1]) ?_
      refine va_last hx hb hK hP hD hS 0 2 rfl rfl (show ¬ ((0 : Int32) < 0 ∨ 1 ≤ (0 : Int32).toNatClampNeg) by decide) dL_gate_16 (fun H locs hP hD hS => ?_)
      have hP : va_P D zCl ((o, .inl (k 2, 1, .inr (.inl (vp_updL out 0 (zBl (zSr d (tC_gate tg ad mt d r))))))) :: cW q k (zS d (tC_gate tg ad mt d r) tg) (zS d (ad r.toNatClampNeg) ad) (zS d (fC_withType (mt r.toNatClampNeg) (14 : Int32)) mt) rb rt rp nr) H := hP
      have hD : va_D A ((o, .inl (k 2, 1, .inr (.inl (vp_updL out 0 (zBl (zSr d (tC_gate tg ad mt d r))))))) :: cW q k (zS d (tC_gate tg ad mt d r) tg) (zS d (ad r.toNatClampNeg) ad) (zS d (fC_withType (mt r.toNatClampNeg) (14 : Int32)) mt) rb rt rp nr) := hD
      refine lv_goto (tgt := 24) hx hb dL_gate_17 rfl ?_
      refine lv_iconst (v := 0) hx hb dL_gate_24 (by decide) ?_
      exact W.iret (v := (0 : Int32)) hx hb hr (fun t9 ht hW => ⟨⟨_, (), rfl, hx0.symm, by rw [ht]; exact hP, va_K.moved hW.alike hK, hD⟩, hS.F ht⟩) hS.2.2 dL_gate_25
theorem vxC_build (tg ad mt : Nat → Int32) (d : Int32) (r : Int32) (y : Int32) : xC_build tg ad mt d r y = 0 ∨ xC_build tg ad mt d r y = 1 := by
  unfold xC_build
  repeat' split
  all_goals first | exact Or.inl rfl | exact Or.inr rfl
set_option maxHeartbeats 4000000 in
set_option maxRecDepth 100000 in
theorem kL_build (l : Launch) (hl0 : l.stackTraces = false) {D : va_G} {q : Nat → Nat} {k : Nat → ClassId} {tg : Nat → Int32} {ad : Nat → Int32} {mt : Nat → Int32} {rb : Nat → Int64} {rt : Nat → Int64} {rp : Nat → Int32} {nr : Int32} {A : Nat → Prop} (sz : Nat) (hA0 : ∀ q, sz ≤ q → A q) (o : Nat) (out : Nat → Int64) (d : Int32) (r : Int32) (y : Int32) : Met l yL_build wL_build { frames := 7, cells := 1, slots := 6, locals := 149 } (va_Pc [.ref (q 0), .int d, .int r, .int y, .ref o] (fun U => U.heap.size = sz ∧ va_P D zCl ((o, .inl (k 2, 1, .inr (.inl out))) :: cW q k tg ad mt rb rt rp nr) U.heap ∧ va_K D zCl (zT k) U ∧ va_D A ((o, .inl (k 2, 1, .inr (.inl out))) :: cW q k tg ad mt rb rt rp nr) ∧ zX A U U.heap)) (va_Qi (fun v9 (_ : Unit) => v9 = xC_build tg ad mt d r y) (fun _ t => va_P D zCl (if xC_build tg ad mt d r y = 0 then (o, .inl (k 2, 1, .inr (.inl (vp_updL out 0 (zBl (zSr d (tC_build tg ad mt d r y))))))) :: cW q k (zS d (tC_build tg ad mt d r y) tg) (zS d (ad y.toNatClampNeg) ad) (zS d (fC_withType (mt y.toNatClampNeg) (uC_build tg ad mt d r y)) mt) rb rt rp nr else (o, .inl (k 2, 1, .inr (.inl out))) :: cW q k tg ad mt rb rt rp nr) t.heap ∧ va_K D zCl (zT k) t ∧ va_D A (if xC_build tg ad mt d r y = 0 then (o, .inl (k 2, 1, .inr (.inl (vp_updL out 0 (zBl (zSr d (tC_build tg ad mt d r y))))))) :: cW q k (zS d (tC_build tg ad mt d r y) tg) (zS d (ad y.toNatClampNeg) ad) (zS d (fC_withType (mt y.toNatClampNeg) (uC_build tg ad mt d r y)) mt) rb rt rp nr else (o, .inl (k 2, 1, .inr (.inl out))) :: cW q k tg ad mt rb rt rp nr)) A) 1 6 A := by
  refine va_MetW (cc := cL_build) (maxL := 6) (ret := (some .int)) (hh := [(0, 19, 22, 13)]) (by decide) rfl ?_
  intro p e s m args below meth c s₁ B hml hv
  obtain ⟨rfl, hsz, hP, hK, hD, hX⟩ := hv
  have hx := B.exec
  have hb := B.bytes
  have hr := B.returns
  have hts := atoms_spec (ws := wL_build) B.pre
  have hq : ∀ w ∈ wA, w.before _ s = true := fun w h => hts w (List.mem_cons_of_mem _ h)
  have hown : s.vm.findClass "CapUnitLaw" = some m.cls := findClass_of_methodNamed B.named
  have hlocks := B.notSynchronized
  have hS : va_S A s.heap s.heap [] := va_S.rf
  have hl := lv_entry ([.ref (q 0), .int d, .int r, .int y, .ref o]) (n := 6) (Nat.le_of_ble_eq_true rfl)
  rw [lg_entry_eq]
  generalize (lg_sl ([.ref (q 0), .int d, .int r, .int y, .ref o]) ++ List.replicate (6 - (lg_sl ([.ref (q 0), .int d, .int r, .int y, .ref o])).length) Slot.unset).toArray = ls at hl ⊢
  have hl : lv_has ls 6 [(0, .ref (q 0)), (1, .int d), (2, .int r), (3, .int y), (4, .ref o)] := hl
  have hA : ∀ q, s.heap.size ≤ q → A q := fun q h => hA0 q (by omega)
  have htab := vx_table (x := yL_build) B (hts _ List.mem_cons_self)
  refine lv_aload hx hb dL_build_0 (lv_at hl 4 rfl) ?_
  refine lv_iconst (v := 0) hx hb dL_build_2 (by decide) ?_
  refine lv_aload_n hx hb dL_build_3 rfl (lv_at hl 0 rfl) ?_
  refine lv_iload_n hx hb dL_build_4 rfl (lv_at hl 1 rfl) ?_
  refine lv_iload_n hx hb dL_build_5 rfl (lv_at hl 2 rfl) ?_
  refine lv_iload_n hx hb dL_build_6 rfl (lv_at hl 3 rfl) ?_
  have hPc := hP.sub (ws' := cW q k tg ad mt rb rt rp nr) [1, 2, 3, 4, 5, 6, 7] rfl
  have hDc0 := hD.sub (ws' := cW q k tg ad mt rb rt rp nr) [1, 2, 3, 4, 5, 6, 7] (by decide) rfl
  have hDc := hDc0.self (sz := s.heap.size)
  have hFc := va_free (wc := cW q k tg ad mt rb rt rp nr) hD hS hA [1, 2, 3, 4, 5, 6, 7] rfl
  have hXc := hX.narrow hFc
  refine vx_calli (vx_runV (C := "CapUnit") (b := q 0) (As := [.int d, .int r, .int y]) (rest := [.int (0 : Int32), .ref o]) ⟨hx, hb, hml, hown, hq⟩ (kC_build l hl0 d r y ) (cwV 3 hq (wA_V q_320 q_321 q_322 q_1 q_323) rfl rfl rfl (by decide +kernel) ⟨Nat.le_of_ble_eq_true rfl, Nat.le_of_ble_eq_true rfl⟩) (zx_pre (c := zCl[0]) (q0 := 0) hK hPc hDc hXc rfl rfl) rfl rfl hl.1 rfl (lv_room (Nat.le_of_ble_eq_true rfl)) dL_build_7 ⟨Nat.le_of_ble_eq_true rfl, Nat.le_of_ble_eq_true rfl⟩) hS (fun q _ h => hFc q h) hFc (fun q _ h => hFc q h) (fun E ce q9 u9 t9 H locs ht9 hvm9 _ hB9 hz9 hk9 hS hce hcv hcl => ?_) (fun v9 u9 t9 H locs ht9 hvm9 hv9 hB9 hz9 hk9 hS => ?_)
  · obtain ⟨hE, hP1, hK1⟩ := hB9
    rw [ht9] at hP1
    obtain ⟨hP, hD⟩ := va_join (wr := [(o, .inl (k 2, 1, .inr (.inl out)))]) (w1 := cW q k tg ad mt rb rt rp nr) hP hD [1, 2, 3, 4, 5, 6, 7] [0] rfl rfl (by decide) (by decide) hk9 hFc hP1 hDc
    have hP : va_P D zCl ((o, .inl (k 2, 1, .inr (.inl out))) :: cW q k tg ad mt rb rt rp nr) H := hP
    have hD : va_D A ((o, .inl (k 2, 1, .inr (.inl out))) :: cW q k tg ad mt rb rt rp nr) := hD
    rcases hE with ⟨hEn, hxe⟩ | ⟨hEn, hxe⟩ | ⟨hEn, hxe⟩
    · subst hEn
      refine vx_catch (own := "CapUnitLaw") (name := xIO) hown [] ⟨0, 19, 22, 13⟩ [] (htab.trans rfl) (fun _ h => absurd h List.not_mem_nil) (by decide) (by decide) (hq _ q_102) (va_Nw.use rfl hX.2.1.1) hce hcv hcl ?_
      refine lv_astore (lv' := [(5, .ref q9), (0, .ref (q 0)), (1, .int d), (2, .int r), (3, .int y), (4, .ref o)]) hx hb dL_build_22 hl (by decide) rfl (fun ls hl => ?_)
      refine lv_iconst (v := 1) hx hb dL_build_24 (by decide) ?_
      rw [if_neg (show ¬ xC_build tg ad mt d r y = 0 by rw [hxe]; decide)]
      exact W.iret (v := (1 : Int32)) hx hb hr (fun t9 ht hW => ⟨⟨_, (), rfl, hxe.symm, by rw [ht]; exact hP, va_K.moved hW.alike hK, hD⟩, hS.F ht⟩) hS.2.2 dL_build_25
    · rcases vxC_build tg ad mt d r y with h9 | h9 <;> rw [h9] at hxe <;> exact absurd hxe (by decide)
    · rcases vxC_build tg ad mt d r y with h9 | h9 <;> rw [h9] at hxe <;> exact absurd hxe (by decide)
  · obtain ⟨hP1, hK1, hD1⟩ := hB9
    rw [ht9] at hP1
    obtain ⟨hP, hD⟩ := va_join (wr := [(o, .inl (k 2, 1, .inr (.inl out)))]) (w1 := cW q k (zS d (tC_build tg ad mt d r y) tg) (zS d (ad y.toNatClampNeg) ad) (zS d (fC_withType (mt y.toNatClampNeg) (uC_build tg ad mt d r y)) mt) rb rt rp nr) hP hD [1, 2, 3, 4, 5, 6, 7] [0] rfl rfl (by decide) (by decide) hk9 hFc hP1 hD1
    obtain ⟨hx0, hv9⟩ := hv9
    subst hv9
    have hP : va_P D zCl ((o, .inl (k 2, 1, .inr (.inl out))) :: cW q k (zS d (tC_build tg ad mt d r y) tg) (zS d (ad y.toNatClampNeg) ad) (zS d (fC_withType (mt y.toNatClampNeg) (uC_build tg ad mt d r y)) mt) rb rt rp nr) H := hP
    have hD : va_D A ((o, .inl (k 2, 1, .inr (.inl out))) :: cW q k (zS d (tC_build tg ad mt d r y) tg) (zS d (ad y.toNatClampNeg) ad) (zS d (fC_withType (mt y.toNatClampNeg) (uC_build tg ad mt d r y)) mt) rb rt rp nr) := hD
    rw [if_pos hx0]
    refine lv_if_eq (tgt := 17) hx hb dL_build_10 rfl (fun h1 => ?_) (fun h1 => ?_)
    · refine lv_lconst (v := 0) hx hb dL_build_17 (by decide) ?_
      refine zt_l (show _ = zBl (zSr d (tC_build tg ad mt d r y)) by unfold zBl; rw [if_pos h1]) ?_
      refine va_last hx hb hK hP hD hS 0 2 rfl rfl (show ¬ ((0 : Int32) < 0 ∨ 1 ≤ (0 : Int32).toNatClampNeg) by decide) dL_build_18 (fun H locs hP hD hS => ?_)
      have hP : va_P D zCl ((o, .inl (k 2, 1, .inr (.inl (vp_updL out 0 (zBl (zSr d (tC_build tg ad mt d r y))))))) :: cW q k (zS d (tC_build tg ad mt d r y) tg) (zS d (ad y.toNatClampNeg) ad) (zS d (fC_withType (mt y.toNatClampNeg) (uC_build tg ad mt d r y)) mt) rb rt rp nr) H := hP
      have hD : va_D A ((o, .inl (k 2, 1, .inr (.inl (vp_updL out 0 (zBl (zSr d (tC_build tg ad mt d r y))))))) :: cW q k (zS d (tC_build tg ad mt d r y) tg) (zS d (ad y.toNatClampNeg) ad) (zS d (fC_withType (mt y.toNatClampNeg) (uC_build tg ad mt d r y)) mt) rb rt rp nr) := hD
      refine lv_goto (tgt := 26) hx hb dL_build_19 rfl ?_
      refine lv_iconst (v := 0) hx hb dL_build_26 (by decide) ?_
      exact W.iret (v := (0 : Int32)) hx hb hr (fun t9 ht hW => ⟨⟨_, (), rfl, hx0.symm, by rw [ht]; exact hP, va_K.moved hW.alike hK, hD⟩, hS.F ht⟩) hS.2.2 dL_build_27
    · refine lv_lconst (v := 1) hx hb dL_build_13 (by decide) ?_
      refine lv_goto (tgt := 18) hx hb dL_build_14 rfl ?_
      refine zt_l (show _ = zBl (zSr d (tC_build tg ad mt d r y)) by unfold zBl; rw [if_neg h1]) ?_
      refine va_last hx hb hK hP hD hS 0 2 rfl rfl (show ¬ ((0 : Int32) < 0 ∨ 1 ≤ (0 : Int32).toNatClampNeg) by decide) dL_build_18 (fun H locs hP hD hS => ?_)
      have hP : va_P D zCl ((o, .inl (k 2, 1, .inr (.inl (vp_updL out 0 (zBl (zSr d (tC_build tg ad mt d r y))))))) :: cW q k (zS d (tC_build tg ad mt d r y) tg) (zS d (ad y.toNatClampNeg) ad) (zS d (fC_withType (mt y.toNatClampNeg) (uC_build tg ad mt d r y)) mt) rb rt rp nr) H := hP
      have hD : va_D A ((o, .inl (k 2, 1, .inr (.inl (vp_updL out 0 (zBl (zSr d (tC_build tg ad mt d r y))))))) :: cW q k (zS d (tC_build tg ad mt d r y) tg) (zS d (ad y.toNatClampNeg) ad) (zS d (fC_withType (mt y.toNatClampNeg) (uC_build tg ad mt d r y)) mt) rb rt rp nr) := hD
      refine lv_goto (tgt := 26) hx hb dL_build_19 rfl ?_
      refine lv_iconst (v := 0) hx hb dL_build_26 (by decide) ?_
      exact W.iret (v := (0 : Int32)) hx hb hr (fun t9 ht hW => ⟨⟨_, (), rfl, hx0.symm, by rw [ht]; exact hP, va_K.moved hW.alike hK, hD⟩, hS.F ht⟩) hS.2.2 dL_build_27
theorem vxC_subset (tg ad mt : Nat → Int32) (r : Int32) (y : Int32) : xC_subset tg ad mt r y = 0 ∨ xC_subset tg ad mt r y = 1 := by
  unfold xC_subset
  repeat' split
  all_goals first | exact Or.inl rfl | exact Or.inr rfl
set_option maxHeartbeats 4000000 in
set_option maxRecDepth 100000 in
theorem kL_subset (l : Launch) (hl0 : l.stackTraces = false) {D : va_G} {q : Nat → Nat} {k : Nat → ClassId} {tg : Nat → Int32} {ad : Nat → Int32} {mt : Nat → Int32} {rb : Nat → Int64} {rt : Nat → Int64} {rp : Nat → Int32} {nr : Int32} {A : Nat → Prop} (sz : Nat) (hA0 : ∀ q, sz ≤ q → A q) (o : Nat) (out : Nat → Int64) (r : Int32) (y : Int32) : Met l yL_subset wL_subset { frames := 7, cells := 1, slots := 6, locals := 146 } (va_Pc [.ref (q 0), .int r, .int y, .ref o] (fun U => U.heap.size = sz ∧ va_P D zCl ((o, .inl (k 2, 1, .inr (.inl out))) :: cW q k tg ad mt rb rt rp nr) U.heap ∧ va_K D zCl (zT k) U ∧ va_D A ((o, .inl (k 2, 1, .inr (.inl out))) :: cW q k tg ad mt rb rt rp nr) ∧ zX A U U.heap)) (va_Qi (fun v9 (_ : Unit) => v9 = xC_subset tg ad mt r y) (fun _ t => va_P D zCl (if xC_subset tg ad mt r y = 0 then (o, .inl (k 2, 1, .inr (.inl (vp_updL out 0 (zBl (fC_subset tg ad mt r y)))))) :: cW q k tg ad mt rb rt rp nr else (o, .inl (k 2, 1, .inr (.inl out))) :: cW q k tg ad mt rb rt rp nr) t.heap ∧ va_K D zCl (zT k) t ∧ va_D A (if xC_subset tg ad mt r y = 0 then (o, .inl (k 2, 1, .inr (.inl (vp_updL out 0 (zBl (fC_subset tg ad mt r y)))))) :: cW q k tg ad mt rb rt rp nr else (o, .inl (k 2, 1, .inr (.inl out))) :: cW q k tg ad mt rb rt rp nr)) A) 1 6 A := by
  refine va_MetW (cc := cL_subset) (maxL := 5) (ret := (some .int)) (hh := [(0, 17, 20, 13)]) (by decide) rfl ?_
  intro p e s m args below meth c s₁ B hml hv
  obtain ⟨rfl, hsz, hP, hK, hD, hX⟩ := hv
  have hx := B.exec
  have hb := B.bytes
  have hr := B.returns
  have hts := atoms_spec (ws := wL_subset) B.pre
  have hq : ∀ w ∈ wA, w.before _ s = true := fun w h => hts w (List.mem_cons_of_mem _ h)
  have hown : s.vm.findClass "CapUnitLaw" = some m.cls := findClass_of_methodNamed B.named
  have hlocks := B.notSynchronized
  have hS : va_S A s.heap s.heap [] := va_S.rf
  have hl := lv_entry ([.ref (q 0), .int r, .int y, .ref o]) (n := 5) (Nat.le_of_ble_eq_true rfl)
  rw [lg_entry_eq]
  generalize (lg_sl ([.ref (q 0), .int r, .int y, .ref o]) ++ List.replicate (5 - (lg_sl ([.ref (q 0), .int r, .int y, .ref o])).length) Slot.unset).toArray = ls at hl ⊢
  have hl : lv_has ls 5 [(0, .ref (q 0)), (1, .int r), (2, .int y), (3, .ref o)] := hl
  have hA : ∀ q, s.heap.size ≤ q → A q := fun q h => hA0 q (by omega)
  have htab := vx_table (x := yL_subset) B (hts _ List.mem_cons_self)
  refine lv_aload_n hx hb dL_subset_0 rfl (lv_at hl 3 rfl) ?_
  refine lv_iconst (v := 0) hx hb dL_subset_1 (by decide) ?_
  refine lv_aload_n hx hb dL_subset_2 rfl (lv_at hl 0 rfl) ?_
  refine lv_iload_n hx hb dL_subset_3 rfl (lv_at hl 1 rfl) ?_
  refine lv_iload_n hx hb dL_subset_4 rfl (lv_at hl 2 rfl) ?_
  have hPc := hP.sub (ws' := cW q k tg ad mt rb rt rp nr) [1, 2, 3, 4, 5, 6, 7] rfl
  have hDc0 := hD.sub (ws' := cW q k tg ad mt rb rt rp nr) [1, 2, 3, 4, 5, 6, 7] (by decide) rfl
  have hDc := hDc0.self (sz := s.heap.size)
  have hFc := va_free (wc := cW q k tg ad mt rb rt rp nr) hD hS hA [1, 2, 3, 4, 5, 6, 7] rfl
  have hXc := hX.narrow hFc
  refine vx_calli (vx_runV (C := "CapUnit") (b := q 0) (As := [.int r, .int y]) (rest := [.int (0 : Int32), .ref o]) ⟨hx, hb, hml, hown, hq⟩ (kC_subset l hl0 r y ) (cwV 2 hq (wA_V q_327 q_328 q_329 q_1 q_330) rfl rfl rfl (by decide +kernel) ⟨Nat.le_of_ble_eq_true rfl, Nat.le_of_ble_eq_true rfl⟩) (zx_pre (c := zCl[0]) (q0 := 0) hK hPc hDc hXc rfl rfl) rfl rfl hl.1 rfl (lv_room (Nat.le_of_ble_eq_true rfl)) dL_subset_5 ⟨Nat.le_of_ble_eq_true rfl, Nat.le_of_ble_eq_true rfl⟩) hS (fun q _ h => hFc q h) hFc (fun q _ h => hFc q h) (fun E ce q9 u9 t9 H locs ht9 hvm9 _ hB9 hz9 hk9 hS hce hcv hcl => ?_) (fun v9 u9 t9 H locs ht9 hvm9 hv9 hB9 hz9 hk9 hS => ?_)
  · obtain ⟨hE, hP1, hK1⟩ := hB9
    rw [ht9] at hP1
    obtain ⟨hP, hD⟩ := va_join (wr := [(o, .inl (k 2, 1, .inr (.inl out)))]) (w1 := cW q k tg ad mt rb rt rp nr) hP hD [1, 2, 3, 4, 5, 6, 7] [0] rfl rfl (by decide) (by decide) hk9 hFc hP1 hDc
    have hP : va_P D zCl ((o, .inl (k 2, 1, .inr (.inl out))) :: cW q k tg ad mt rb rt rp nr) H := hP
    have hD : va_D A ((o, .inl (k 2, 1, .inr (.inl out))) :: cW q k tg ad mt rb rt rp nr) := hD
    rcases hE with ⟨hEn, hxe⟩ | ⟨hEn, hxe⟩ | ⟨hEn, hxe⟩
    · subst hEn
      refine vx_catch (own := "CapUnitLaw") (name := xIO) hown [] ⟨0, 17, 20, 13⟩ [] (htab.trans rfl) (fun _ h => absurd h List.not_mem_nil) (by decide) (by decide) (hq _ q_102) (va_Nw.use rfl hX.2.1.1) hce hcv hcl ?_
      refine lv_astore (lv' := [(4, .ref q9), (0, .ref (q 0)), (1, .int r), (2, .int y), (3, .ref o)]) hx hb dL_subset_20 hl (by decide) rfl (fun ls hl => ?_)
      refine lv_iconst (v := 1) hx hb dL_subset_22 (by decide) ?_
      rw [if_neg (show ¬ xC_subset tg ad mt r y = 0 by rw [hxe]; decide)]
      exact W.iret (v := (1 : Int32)) hx hb hr (fun t9 ht hW => ⟨⟨_, (), rfl, hxe.symm, by rw [ht]; exact hP, va_K.moved hW.alike hK, hD⟩, hS.F ht⟩) hS.2.2 dL_subset_23
    · rcases vxC_subset tg ad mt r y with h9 | h9 <;> rw [h9] at hxe <;> exact absurd hxe (by decide)
    · rcases vxC_subset tg ad mt r y with h9 | h9 <;> rw [h9] at hxe <;> exact absurd hxe (by decide)
  · obtain ⟨hP1, hK1, hD1⟩ := hB9
    rw [ht9] at hP1
    obtain ⟨hP, hD⟩ := va_join (wr := [(o, .inl (k 2, 1, .inr (.inl out)))]) (w1 := cW q k tg ad mt rb rt rp nr) hP hD [1, 2, 3, 4, 5, 6, 7] [0] rfl rfl (by decide) (by decide) hk9 hFc hP1 hD1
    obtain ⟨hx0, hv9⟩ := hv9
    subst hv9
    have hP : va_P D zCl ((o, .inl (k 2, 1, .inr (.inl out))) :: cW q k tg ad mt rb rt rp nr) H := hP
    have hD : va_D A ((o, .inl (k 2, 1, .inr (.inl out))) :: cW q k tg ad mt rb rt rp nr) := hD
    rw [if_pos hx0]
    refine lv_if_eq (tgt := 15) hx hb dL_subset_8 rfl (fun h1 => ?_) (fun h1 => ?_)
    · refine lv_lconst (v := 0) hx hb dL_subset_15 (by decide) ?_
      refine zt_l (show _ = zBl (fC_subset tg ad mt r y) by unfold zBl; rw [if_pos h1]) ?_
      refine va_last hx hb hK hP hD hS 0 2 rfl rfl (show ¬ ((0 : Int32) < 0 ∨ 1 ≤ (0 : Int32).toNatClampNeg) by decide) dL_subset_16 (fun H locs hP hD hS => ?_)
      have hP : va_P D zCl ((o, .inl (k 2, 1, .inr (.inl (vp_updL out 0 (zBl (fC_subset tg ad mt r y)))))) :: cW q k tg ad mt rb rt rp nr) H := hP
      have hD : va_D A ((o, .inl (k 2, 1, .inr (.inl (vp_updL out 0 (zBl (fC_subset tg ad mt r y)))))) :: cW q k tg ad mt rb rt rp nr) := hD
      refine lv_goto (tgt := 24) hx hb dL_subset_17 rfl ?_
      refine lv_iconst (v := 0) hx hb dL_subset_24 (by decide) ?_
      exact W.iret (v := (0 : Int32)) hx hb hr (fun t9 ht hW => ⟨⟨_, (), rfl, hx0.symm, by rw [ht]; exact hP, va_K.moved hW.alike hK, hD⟩, hS.F ht⟩) hS.2.2 dL_subset_25
    · refine lv_lconst (v := 1) hx hb dL_subset_11 (by decide) ?_
      refine lv_goto (tgt := 16) hx hb dL_subset_12 rfl ?_
      refine zt_l (show _ = zBl (fC_subset tg ad mt r y) by unfold zBl; rw [if_neg h1]) ?_
      refine va_last hx hb hK hP hD hS 0 2 rfl rfl (show ¬ ((0 : Int32) < 0 ∨ 1 ≤ (0 : Int32).toNatClampNeg) by decide) dL_subset_16 (fun H locs hP hD hS => ?_)
      have hP : va_P D zCl ((o, .inl (k 2, 1, .inr (.inl (vp_updL out 0 (zBl (fC_subset tg ad mt r y)))))) :: cW q k tg ad mt rb rt rp nr) H := hP
      have hD : va_D A ((o, .inl (k 2, 1, .inr (.inl (vp_updL out 0 (zBl (fC_subset tg ad mt r y)))))) :: cW q k tg ad mt rb rt rp nr) := hD
      refine lv_goto (tgt := 24) hx hb dL_subset_17 rfl ?_
      refine lv_iconst (v := 0) hx hb dL_subset_24 (by decide) ?_
      exact W.iret (v := (0 : Int32)) hx hb hr (fun t9 ht hW => ⟨⟨_, (), rfl, hx0.symm, by rw [ht]; exact hP, va_K.moved hW.alike hK, hD⟩, hS.F ht⟩) hS.2.2 dL_subset_25
theorem vxC_told (tg ad mt : Nat → Int32) (r : Int32) (y : Int32) : xC_told tg ad mt r y = 0 ∨ xC_told tg ad mt r y = 1 ∨ xC_told tg ad mt r y = 2 := by
  unfold xC_told
  repeat' split
  all_goals first | exact Or.inl rfl | exact Or.inr (Or.inl rfl) | exact Or.inr (Or.inr rfl)
set_option maxHeartbeats 4000000 in
set_option maxRecDepth 100000 in
theorem kL_told (l : Launch) (hl0 : l.stackTraces = false) {D : va_G} {q : Nat → Nat} {k : Nat → ClassId} {tg : Nat → Int32} {ad : Nat → Int32} {mt : Nat → Int32} {rb : Nat → Int64} {rt : Nat → Int64} {rp : Nat → Int32} {nr : Int32} {A : Nat → Prop} (sz : Nat) (hA0 : ∀ q, sz ≤ q → A q) (o : Nat) (out : Nat → Int64) (r : Int32) (y : Int32) : Met l yL_told wL_told { frames := 7, cells := 1, slots := 6, locals := 120 } (va_Pc [.ref (q 0), .int r, .int y, .ref o] (fun U => U.heap.size = sz ∧ va_P D zCl ((o, .inl (k 2, 1, .inr (.inl out))) :: cW q k tg ad mt rb rt rp nr) U.heap ∧ va_K D zCl (zT k) U ∧ va_D A ((o, .inl (k 2, 1, .inr (.inl out))) :: cW q k tg ad mt rb rt rp nr) ∧ zX A U U.heap)) (va_Qi (fun v9 (_ : Unit) => v9 = xC_told tg ad mt r y) (fun _ t => va_P D zCl (if xC_told tg ad mt r y = 0 then (o, .inl (k 2, 1, .inr (.inl (vp_updL out 0 (fC_told tg ad mt r y))))) :: cW q k tg ad mt rb rt rp nr else (o, .inl (k 2, 1, .inr (.inl out))) :: cW q k tg ad mt rb rt rp nr) t.heap ∧ va_K D zCl (zT k) t ∧ va_D A (if xC_told tg ad mt r y = 0 then (o, .inl (k 2, 1, .inr (.inl (vp_updL out 0 (fC_told tg ad mt r y))))) :: cW q k tg ad mt rb rt rp nr else (o, .inl (k 2, 1, .inr (.inl out))) :: cW q k tg ad mt rb rt rp nr)) A) 1 6 A := by
  refine va_MetW (cc := cL_told) (maxL := 5) (ret := (some .int)) (hh := [(0, 9, 12, 13), (0, 9, 16, 15)]) (by decide) rfl ?_
  intro p e s m args below meth c s₁ B hml hv
  obtain ⟨rfl, hsz, hP, hK, hD, hX⟩ := hv
  have hx := B.exec
  have hb := B.bytes
  have hr := B.returns
  have hts := atoms_spec (ws := wL_told) B.pre
  have hq : ∀ w ∈ wA, w.before _ s = true := fun w h => hts w (List.mem_cons_of_mem _ h)
  have hown : s.vm.findClass "CapUnitLaw" = some m.cls := findClass_of_methodNamed B.named
  have hlocks := B.notSynchronized
  have hS : va_S A s.heap s.heap [] := va_S.rf
  have hl := lv_entry ([.ref (q 0), .int r, .int y, .ref o]) (n := 5) (Nat.le_of_ble_eq_true rfl)
  rw [lg_entry_eq]
  generalize (lg_sl ([.ref (q 0), .int r, .int y, .ref o]) ++ List.replicate (5 - (lg_sl ([.ref (q 0), .int r, .int y, .ref o])).length) Slot.unset).toArray = ls at hl ⊢
  have hl : lv_has ls 5 [(0, .ref (q 0)), (1, .int r), (2, .int y), (3, .ref o)] := hl
  have hA : ∀ q, s.heap.size ≤ q → A q := fun q h => hA0 q (by omega)
  have htab := vx_table (x := yL_told) B (hts _ List.mem_cons_self)
  refine lv_aload_n hx hb dL_told_0 rfl (lv_at hl 3 rfl) ?_
  refine lv_iconst (v := 0) hx hb dL_told_1 (by decide) ?_
  refine lv_aload_n hx hb dL_told_2 rfl (lv_at hl 0 rfl) ?_
  refine lv_iload_n hx hb dL_told_3 rfl (lv_at hl 1 rfl) ?_
  refine lv_iload_n hx hb dL_told_4 rfl (lv_at hl 2 rfl) ?_
  have hPc := hP.sub (ws' := cW q k tg ad mt rb rt rp nr) [1, 2, 3, 4, 5, 6, 7] rfl
  have hDc0 := hD.sub (ws' := cW q k tg ad mt rb rt rp nr) [1, 2, 3, 4, 5, 6, 7] (by decide) rfl
  have hDc := hDc0.self (sz := s.heap.size)
  have hFc := va_free (wc := cW q k tg ad mt rb rt rp nr) hD hS hA [1, 2, 3, 4, 5, 6, 7] rfl
  have hXc := hX.narrow hFc
  refine vx_calll (vx_runV (C := "CapUnit") (b := q 0) (As := [.int r, .int y]) (rest := [.int (0 : Int32), .ref o]) ⟨hx, hb, hml, hown, hq⟩ (kC_told l hl0 r y ) (cwV 2 hq (wA_V q_334 q_335 q_336 q_1 q_337) rfl rfl rfl (by decide +kernel) ⟨Nat.le_of_ble_eq_true rfl, Nat.le_of_ble_eq_true rfl⟩) (zx_pre (c := zCl[0]) (q0 := 0) hK hPc hDc hXc rfl rfl) rfl rfl hl.1 rfl (lv_room (Nat.le_of_ble_eq_true rfl)) dL_told_5 ⟨Nat.le_of_ble_eq_true rfl, Nat.le_of_ble_eq_true rfl⟩) hS (fun q _ h => hFc q h) hFc (fun q _ h => hFc q h) (fun E ce q9 u9 t9 H locs ht9 hvm9 _ hB9 hz9 hk9 hS hce hcv hcl => ?_) (fun v9 u9 t9 H locs ht9 hvm9 hv9 hB9 hz9 hk9 hS => ?_)
  · obtain ⟨hE, hP1, hK1⟩ := hB9
    rw [ht9] at hP1
    obtain ⟨hP, hD⟩ := va_join (wr := [(o, .inl (k 2, 1, .inr (.inl out)))]) (w1 := cW q k tg ad mt rb rt rp nr) hP hD [1, 2, 3, 4, 5, 6, 7] [0] rfl rfl (by decide) (by decide) hk9 hFc hP1 hDc
    have hP : va_P D zCl ((o, .inl (k 2, 1, .inr (.inl out))) :: cW q k tg ad mt rb rt rp nr) H := hP
    have hD : va_D A ((o, .inl (k 2, 1, .inr (.inl out))) :: cW q k tg ad mt rb rt rp nr) := hD
    rcases hE with ⟨hEn, hxe⟩ | ⟨hEn, hxe⟩ | ⟨hEn, hxe⟩
    · subst hEn
      refine vx_catch (own := "CapUnitLaw") (name := xIO) hown [] ⟨0, 9, 12, 13⟩ [⟨0, 9, 16, 15⟩] (htab.trans rfl) (fun _ h => absurd h List.not_mem_nil) (by decide) (by decide) (hq _ q_102) (va_Nw.use rfl hX.2.1.1) hce hcv hcl ?_
      refine lv_astore (lv' := [(4, .ref q9), (0, .ref (q 0)), (1, .int r), (2, .int y), (3, .ref o)]) hx hb dL_told_12 hl (by decide) rfl (fun ls hl => ?_)
      refine lv_iconst (v := 1) hx hb dL_told_14 (by decide) ?_
      rw [if_neg (show ¬ xC_told tg ad mt r y = 0 by rw [hxe]; decide)]
      exact W.iret (v := (1 : Int32)) hx hb hr (fun t9 ht hW => ⟨⟨_, (), rfl, hxe.symm, by rw [ht]; exact hP, va_K.moved hW.alike hK, hD⟩, hS.F ht⟩) hS.2.2 dL_told_15
    · subst hEn
      refine vx_catch (own := "CapUnitLaw") (name := xIA) hown [⟨0, 9, 12, 13⟩] ⟨0, 9, 16, 15⟩ [] (htab.trans rfl) (List.forall_mem_cons.mpr ⟨Or.inr ⟨by decide, xIO, hq _ q_102, hX.2.2.1.1⟩, fun _ h => absurd h List.not_mem_nil⟩) (by decide) (by decide) (hq _ q_103) (va_Nw.use rfl hX.2.1.2.1) hce hcv hcl ?_
      refine lv_astore (lv' := [(4, .ref q9), (0, .ref (q 0)), (1, .int r), (2, .int y), (3, .ref o)]) hx hb dL_told_16 hl (by decide) rfl (fun ls hl => ?_)
      refine lv_iconst (v := 2) hx hb dL_told_18 (by decide) ?_
      rw [if_neg (show ¬ xC_told tg ad mt r y = 0 by rw [hxe]; decide)]
      exact W.iret (v := (2 : Int32)) hx hb hr (fun t9 ht hW => ⟨⟨_, (), rfl, hxe.symm, by rw [ht]; exact hP, va_K.moved hW.alike hK, hD⟩, hS.F ht⟩) hS.2.2 dL_told_19
    · rcases vxC_told tg ad mt r y with h9 | h9 | h9 <;> rw [h9] at hxe <;> exact absurd hxe (by decide)
  · obtain ⟨hP1, hK1, hD1⟩ := hB9
    rw [ht9] at hP1
    obtain ⟨hP, hD⟩ := va_join (wr := [(o, .inl (k 2, 1, .inr (.inl out)))]) (w1 := cW q k tg ad mt rb rt rp nr) hP hD [1, 2, 3, 4, 5, 6, 7] [0] rfl rfl (by decide) (by decide) hk9 hFc hP1 hD1
    obtain ⟨hx0, hv9⟩ := hv9
    subst hv9
    have hP : va_P D zCl ((o, .inl (k 2, 1, .inr (.inl out))) :: cW q k tg ad mt rb rt rp nr) H := hP
    have hD : va_D A ((o, .inl (k 2, 1, .inr (.inl out))) :: cW q k tg ad mt rb rt rp nr) := hD
    rw [if_pos hx0]
    refine va_last hx hb hK hP hD hS 0 2 rfl rfl (show ¬ ((0 : Int32) < 0 ∨ 1 ≤ (0 : Int32).toNatClampNeg) by decide) dL_told_8 (fun H locs hP hD hS => ?_)
    have hP : va_P D zCl ((o, .inl (k 2, 1, .inr (.inl (vp_updL out 0 (fC_told tg ad mt r y))))) :: cW q k tg ad mt rb rt rp nr) H := hP
    have hD : va_D A ((o, .inl (k 2, 1, .inr (.inl (vp_updL out 0 (fC_told tg ad mt r y))))) :: cW q k tg ad mt rb rt rp nr) := hD
    refine lv_goto (tgt := 20) hx hb dL_told_9 rfl ?_
    refine lv_iconst (v := 0) hx hb dL_told_20 (by decide) ?_
    exact W.iret (v := (0 : Int32)) hx hb hr (fun t9 ht hW => ⟨⟨_, (), rfl, hx0.symm, by rw [ht]; exact hP, va_K.moved hW.alike hK, hD⟩, hS.F ht⟩) hS.2.2 dL_told_21
theorem vxC_reaches (tg ad mt : Nat → Int32) (r : Int32) (x : Int32) (n : Int32) : xC_reaches tg ad mt r x n = 0 ∨ xC_reaches tg ad mt r x n = 1 ∨ xC_reaches tg ad mt r x n = 2 := by
  unfold xC_reaches
  repeat' split
  all_goals first | exact Or.inl rfl | exact Or.inr (Or.inl rfl) | exact Or.inr (Or.inr rfl)
set_option maxHeartbeats 4000000 in
set_option maxRecDepth 100000 in
theorem kL_reaches (l : Launch) (hl0 : l.stackTraces = false) {D : va_G} {q : Nat → Nat} {k : Nat → ClassId} {tg : Nat → Int32} {ad : Nat → Int32} {mt : Nat → Int32} {rb : Nat → Int64} {rt : Nat → Int64} {rp : Nat → Int32} {nr : Int32} {A : Nat → Prop} (sz : Nat) (hA0 : ∀ q, sz ≤ q → A q) (o : Nat) (out : Nat → Int64) (r : Int32) (x : Int32) (n : Int32) : Met l yL_reaches wL_reaches { frames := 7, cells := 1, slots := 6, locals := 146 } (va_Pc [.ref (q 0), .int r, .int x, .int n, .ref o] (fun U => U.heap.size = sz ∧ va_P D zCl ((o, .inl (k 2, 1, .inr (.inl out))) :: cW q k tg ad mt rb rt rp nr) U.heap ∧ va_K D zCl (zT k) U ∧ va_D A ((o, .inl (k 2, 1, .inr (.inl out))) :: cW q k tg ad mt rb rt rp nr) ∧ zX A U U.heap)) (va_Qi (fun v9 (_ : Unit) => v9 = xC_reaches tg ad mt r x n) (fun _ t => va_P D zCl (if xC_reaches tg ad mt r x n = 0 then (o, .inl (k 2, 1, .inr (.inl (vp_updL out 0 (zBl (fC_isInBounds tg ad mt r (fC_unsigned x) n.toInt64)))))) :: cW q k tg ad mt rb rt rp nr else (o, .inl (k 2, 1, .inr (.inl out))) :: cW q k tg ad mt rb rt rp nr) t.heap ∧ va_K D zCl (zT k) t ∧ va_D A (if xC_reaches tg ad mt r x n = 0 then (o, .inl (k 2, 1, .inr (.inl (vp_updL out 0 (zBl (fC_isInBounds tg ad mt r (fC_unsigned x) n.toInt64)))))) :: cW q k tg ad mt rb rt rp nr else (o, .inl (k 2, 1, .inr (.inl out))) :: cW q k tg ad mt rb rt rp nr)) A) 1 6 A := by
  refine va_MetW (cc := cL_reaches) (maxL := 6) (ret := (some .int)) (hh := [(0, 19, 22, 13), (0, 19, 26, 15)]) (by decide) rfl ?_
  intro p e s m args below meth c s₁ B hml hv
  obtain ⟨rfl, hsz, hP, hK, hD, hX⟩ := hv
  have hx := B.exec
  have hb := B.bytes
  have hr := B.returns
  have hts := atoms_spec (ws := wL_reaches) B.pre
  have hq : ∀ w ∈ wA, w.before _ s = true := fun w h => hts w (List.mem_cons_of_mem _ h)
  have hown : s.vm.findClass "CapUnitLaw" = some m.cls := findClass_of_methodNamed B.named
  have hlocks := B.notSynchronized
  have hS : va_S A s.heap s.heap [] := va_S.rf
  have hl := lv_entry ([.ref (q 0), .int r, .int x, .int n, .ref o]) (n := 6) (Nat.le_of_ble_eq_true rfl)
  rw [lg_entry_eq]
  generalize (lg_sl ([.ref (q 0), .int r, .int x, .int n, .ref o]) ++ List.replicate (6 - (lg_sl ([.ref (q 0), .int r, .int x, .int n, .ref o])).length) Slot.unset).toArray = ls at hl ⊢
  have hl : lv_has ls 6 [(0, .ref (q 0)), (1, .int r), (2, .int x), (3, .int n), (4, .ref o)] := hl
  have hA : ∀ q, s.heap.size ≤ q → A q := fun q h => hA0 q (by omega)
  have htab := vx_table (x := yL_reaches) B (hts _ List.mem_cons_self)
  refine lv_aload hx hb dL_reaches_0 (lv_at hl 4 rfl) ?_
  refine lv_iconst (v := 0) hx hb dL_reaches_2 (by decide) ?_
  refine lv_aload_n hx hb dL_reaches_3 rfl (lv_at hl 0 rfl) ?_
  refine lv_iload_n hx hb dL_reaches_4 rfl (lv_at hl 1 rfl) ?_
  refine lv_iload_n hx hb dL_reaches_5 rfl (lv_at hl 2 rfl) ?_
  refine lv_iload_n hx hb dL_reaches_6 rfl (lv_at hl 3 rfl) ?_
  have hPc := hP.sub (ws' := cW q k tg ad mt rb rt rp nr) [1, 2, 3, 4, 5, 6, 7] rfl
  have hDc0 := hD.sub (ws' := cW q k tg ad mt rb rt rp nr) [1, 2, 3, 4, 5, 6, 7] (by decide) rfl
  have hDc := hDc0.self (sz := s.heap.size)
  have hFc := va_free (wc := cW q k tg ad mt rb rt rp nr) hD hS hA [1, 2, 3, 4, 5, 6, 7] rfl
  have hXc := hX.narrow hFc
  refine vx_calli (vx_runV (C := "CapUnit") (b := q 0) (As := [.int r, .int x, .int n]) (rest := [.int (0 : Int32), .ref o]) ⟨hx, hb, hml, hown, hq⟩ (kC_reaches l hl0 r x n ) (cwV 3 hq (wA_V q_342 q_343 q_344 q_1 q_345) rfl rfl rfl (by decide +kernel) ⟨Nat.le_of_ble_eq_true rfl, Nat.le_of_ble_eq_true rfl⟩) (zx_pre (c := zCl[0]) (q0 := 0) hK hPc hDc hXc rfl rfl) rfl rfl hl.1 rfl (lv_room (Nat.le_of_ble_eq_true rfl)) dL_reaches_7 ⟨Nat.le_of_ble_eq_true rfl, Nat.le_of_ble_eq_true rfl⟩) hS (fun q _ h => hFc q h) hFc (fun q _ h => hFc q h) (fun E ce q9 u9 t9 H locs ht9 hvm9 _ hB9 hz9 hk9 hS hce hcv hcl => ?_) (fun v9 u9 t9 H locs ht9 hvm9 hv9 hB9 hz9 hk9 hS => ?_)
  · obtain ⟨hE, hP1, hK1⟩ := hB9
    rw [ht9] at hP1
    obtain ⟨hP, hD⟩ := va_join (wr := [(o, .inl (k 2, 1, .inr (.inl out)))]) (w1 := cW q k tg ad mt rb rt rp nr) hP hD [1, 2, 3, 4, 5, 6, 7] [0] rfl rfl (by decide) (by decide) hk9 hFc hP1 hDc
    have hP : va_P D zCl ((o, .inl (k 2, 1, .inr (.inl out))) :: cW q k tg ad mt rb rt rp nr) H := hP
    have hD : va_D A ((o, .inl (k 2, 1, .inr (.inl out))) :: cW q k tg ad mt rb rt rp nr) := hD
    rcases hE with ⟨hEn, hxe⟩ | ⟨hEn, hxe⟩ | ⟨hEn, hxe⟩
    · subst hEn
      refine vx_catch (own := "CapUnitLaw") (name := xIO) hown [] ⟨0, 19, 22, 13⟩ [⟨0, 19, 26, 15⟩] (htab.trans rfl) (fun _ h => absurd h List.not_mem_nil) (by decide) (by decide) (hq _ q_102) (va_Nw.use rfl hX.2.1.1) hce hcv hcl ?_
      refine lv_astore (lv' := [(5, .ref q9), (0, .ref (q 0)), (1, .int r), (2, .int x), (3, .int n), (4, .ref o)]) hx hb dL_reaches_22 hl (by decide) rfl (fun ls hl => ?_)
      refine lv_iconst (v := 1) hx hb dL_reaches_24 (by decide) ?_
      rw [if_neg (show ¬ xC_reaches tg ad mt r x n = 0 by rw [hxe]; decide)]
      exact W.iret (v := (1 : Int32)) hx hb hr (fun t9 ht hW => ⟨⟨_, (), rfl, hxe.symm, by rw [ht]; exact hP, va_K.moved hW.alike hK, hD⟩, hS.F ht⟩) hS.2.2 dL_reaches_25
    · subst hEn
      refine vx_catch (own := "CapUnitLaw") (name := xIA) hown [⟨0, 19, 22, 13⟩] ⟨0, 19, 26, 15⟩ [] (htab.trans rfl) (List.forall_mem_cons.mpr ⟨Or.inr ⟨by decide, xIO, hq _ q_102, hX.2.2.1.1⟩, fun _ h => absurd h List.not_mem_nil⟩) (by decide) (by decide) (hq _ q_103) (va_Nw.use rfl hX.2.1.2.1) hce hcv hcl ?_
      refine lv_astore (lv' := [(5, .ref q9), (0, .ref (q 0)), (1, .int r), (2, .int x), (3, .int n), (4, .ref o)]) hx hb dL_reaches_26 hl (by decide) rfl (fun ls hl => ?_)
      refine lv_iconst (v := 2) hx hb dL_reaches_28 (by decide) ?_
      rw [if_neg (show ¬ xC_reaches tg ad mt r x n = 0 by rw [hxe]; decide)]
      exact W.iret (v := (2 : Int32)) hx hb hr (fun t9 ht hW => ⟨⟨_, (), rfl, hxe.symm, by rw [ht]; exact hP, va_K.moved hW.alike hK, hD⟩, hS.F ht⟩) hS.2.2 dL_reaches_29
    · rcases vxC_reaches tg ad mt r x n with h9 | h9 | h9 <;> rw [h9] at hxe <;> exact absurd hxe (by decide)
  · obtain ⟨hP1, hK1, hD1⟩ := hB9
    rw [ht9] at hP1
    obtain ⟨hP, hD⟩ := va_join (wr := [(o, .inl (k 2, 1, .inr (.inl out)))]) (w1 := cW q k tg ad mt rb rt rp nr) hP hD [1, 2, 3, 4, 5, 6, 7] [0] rfl rfl (by decide) (by decide) hk9 hFc hP1 hD1
    obtain ⟨hx0, hv9⟩ := hv9
    subst hv9
    have hP : va_P D zCl ((o, .inl (k 2, 1, .inr (.inl out))) :: cW q k tg ad mt rb rt rp nr) H := hP
    have hD : va_D A ((o, .inl (k 2, 1, .inr (.inl out))) :: cW q k tg ad mt rb rt rp nr) := hD
    rw [if_pos hx0]
    refine lv_if_eq (tgt := 17) hx hb dL_reaches_10 rfl (fun h1 => ?_) (fun h1 => ?_)
    · refine lv_lconst (v := 0) hx hb dL_reaches_17 (by decide) ?_
      refine zt_l (show _ = zBl (fC_isInBounds tg ad mt r (fC_unsigned x) n.toInt64) by unfold zBl; rw [if_pos h1]) ?_
      refine va_last hx hb hK hP hD hS 0 2 rfl rfl (show ¬ ((0 : Int32) < 0 ∨ 1 ≤ (0 : Int32).toNatClampNeg) by decide) dL_reaches_18 (fun H locs hP hD hS => ?_)
      have hP : va_P D zCl ((o, .inl (k 2, 1, .inr (.inl (vp_updL out 0 (zBl (fC_isInBounds tg ad mt r (fC_unsigned x) n.toInt64)))))) :: cW q k tg ad mt rb rt rp nr) H := hP
      have hD : va_D A ((o, .inl (k 2, 1, .inr (.inl (vp_updL out 0 (zBl (fC_isInBounds tg ad mt r (fC_unsigned x) n.toInt64)))))) :: cW q k tg ad mt rb rt rp nr) := hD
      refine lv_goto (tgt := 30) hx hb dL_reaches_19 rfl ?_
      refine lv_iconst (v := 0) hx hb dL_reaches_30 (by decide) ?_
      exact W.iret (v := (0 : Int32)) hx hb hr (fun t9 ht hW => ⟨⟨_, (), rfl, hx0.symm, by rw [ht]; exact hP, va_K.moved hW.alike hK, hD⟩, hS.F ht⟩) hS.2.2 dL_reaches_31
    · refine lv_lconst (v := 1) hx hb dL_reaches_13 (by decide) ?_
      refine lv_goto (tgt := 18) hx hb dL_reaches_14 rfl ?_
      refine zt_l (show _ = zBl (fC_isInBounds tg ad mt r (fC_unsigned x) n.toInt64) by unfold zBl; rw [if_neg h1]) ?_
      refine va_last hx hb hK hP hD hS 0 2 rfl rfl (show ¬ ((0 : Int32) < 0 ∨ 1 ≤ (0 : Int32).toNatClampNeg) by decide) dL_reaches_18 (fun H locs hP hD hS => ?_)
      have hP : va_P D zCl ((o, .inl (k 2, 1, .inr (.inl (vp_updL out 0 (zBl (fC_isInBounds tg ad mt r (fC_unsigned x) n.toInt64)))))) :: cW q k tg ad mt rb rt rp nr) H := hP
      have hD : va_D A ((o, .inl (k 2, 1, .inr (.inl (vp_updL out 0 (zBl (fC_isInBounds tg ad mt r (fC_unsigned x) n.toInt64)))))) :: cW q k tg ad mt rb rt rp nr) := hD
      refine lv_goto (tgt := 30) hx hb dL_reaches_19 rfl ?_
      refine lv_iconst (v := 0) hx hb dL_reaches_30 (by decide) ?_
      exact W.iret (v := (0 : Int32)) hx hb hr (fun t9 ht hW => ⟨⟨_, (), rfl, hx0.symm, by rw [ht]; exact hP, va_K.moved hW.alike hK, hD⟩, hS.F ht⟩) hS.2.2 dL_reaches_31
set_option maxHeartbeats 4000000 in
set_option maxRecDepth 100000 in
theorem kL_pack (l : Launch) (hl0 : l.stackTraces = false) {D : va_G} {q : Nat → Nat} {k : Nat → ClassId} {tg : Nat → Int32} {ad : Nat → Int32} {mt : Nat → Int32} {rb : Nat → Int64} {rt : Nat → Int64} {rp : Nat → Int32} {nr : Int32} {A : Nat → Prop} (sz : Nat) (hA0 : ∀ q, sz ≤ q → A q) (o : Nat) (out : Nat → Int64) (b : Int32) (n : Int64) : Met l yL_pack wL_pack { frames := 7, cells := 1, slots := 6, locals := 124 } (va_Pc [.ref (q 0), .int b, .long n, .ref o] (fun U => U.heap.size = sz ∧ va_P D zCl ((o, .inl (k 2, 1, .inr (.inl out))) :: cW q k tg ad mt rb rt rp nr) U.heap ∧ va_K D zCl (zT k) U ∧ va_D A ((o, .inl (k 2, 1, .inr (.inl out))) :: cW q k tg ad mt rb rt rp nr) ∧ zX A U U.heap)) (va_Qi (fun v9 (_ : Unit) => v9 = xC_pack tg ad mt b n) (fun _ t => va_P D zCl (if xC_pack tg ad mt b n = 0 then (o, .inl (k 2, 1, .inr (.inl (vp_updL out 0 ((fC_packed (fC_unsigned b) ((fC_unsigned b) + n)).toInt64))))) :: cW q k tg ad mt rb rt rp nr else (o, .inl (k 2, 1, .inr (.inl out))) :: cW q k tg ad mt rb rt rp nr) t.heap ∧ va_K D zCl (zT k) t ∧ va_D A (if xC_pack tg ad mt b n = 0 then (o, .inl (k 2, 1, .inr (.inl (vp_updL out 0 ((fC_packed (fC_unsigned b) ((fC_unsigned b) + n)).toInt64))))) :: cW q k tg ad mt rb rt rp nr else (o, .inl (k 2, 1, .inr (.inl out))) :: cW q k tg ad mt rb rt rp nr)) A) 1 6 A := by
  refine va_MetW (cc := cL_pack) (maxL := 6) (ret := (some .int)) (hh := [(0, 11, 14, 15)]) (by decide) rfl ?_
  intro p e s m args below meth c s₁ B hml hv
  obtain ⟨rfl, hsz, hP, hK, hD, hX⟩ := hv
  have hx := B.exec
  have hb := B.bytes
  have hr := B.returns
  have hts := atoms_spec (ws := wL_pack) B.pre
  have hq : ∀ w ∈ wA, w.before _ s = true := fun w h => hts w (List.mem_cons_of_mem _ h)
  have hown : s.vm.findClass "CapUnitLaw" = some m.cls := findClass_of_methodNamed B.named
  have hlocks := B.notSynchronized
  have hS : va_S A s.heap s.heap [] := va_S.rf
  have hl := lv_entry ([.ref (q 0), .int b, .long n, .ref o]) (n := 6) (Nat.le_of_ble_eq_true rfl)
  rw [lg_entry_eq]
  generalize (lg_sl ([.ref (q 0), .int b, .long n, .ref o]) ++ List.replicate (6 - (lg_sl ([.ref (q 0), .int b, .long n, .ref o])).length) Slot.unset).toArray = ls at hl ⊢
  have hl : lv_has ls 6 [(0, .ref (q 0)), (1, .int b), (2, .long n), (4, .ref o)] := hl
  have hA : ∀ q, s.heap.size ≤ q → A q := fun q h => hA0 q (by omega)
  have htab := vx_table (x := yL_pack) B (hts _ List.mem_cons_self)
  refine lv_aload hx hb dL_pack_0 (lv_at hl 3 rfl) ?_
  refine lv_iconst (v := 0) hx hb dL_pack_2 (by decide) ?_
  refine lv_aload_n hx hb dL_pack_3 rfl (lv_at hl 0 rfl) ?_
  refine lv_iload_n hx hb dL_pack_4 rfl (lv_at hl 1 rfl) ?_
  refine lv_lload_n hx hb dL_pack_5 rfl (lv_at hl 2 rfl) ?_
  have hPc := hP.sub (ws' := cW q k tg ad mt rb rt rp nr) [1, 2, 3, 4, 5, 6, 7] rfl
  have hDc0 := hD.sub (ws' := cW q k tg ad mt rb rt rp nr) [1, 2, 3, 4, 5, 6, 7] (by decide) rfl
  have hDc := hDc0.self (sz := s.heap.size)
  have hFc := va_free (wc := cW q k tg ad mt rb rt rp nr) hD hS hA [1, 2, 3, 4, 5, 6, 7] rfl
  have hXc := hX.narrow hFc
  refine vx_calli (vx_runV (C := "CapUnit") (b := q 0) (As := [.int b, .long n]) (rest := [.int (0 : Int32), .ref o]) ⟨hx, hb, hml, hown, hq⟩ (kC_pack l hl0 b n ) (cwV 2 hq (wA_V q_350 q_351 q_352 q_1 q_353) rfl rfl rfl (by decide +kernel) ⟨Nat.le_of_ble_eq_true rfl, Nat.le_of_ble_eq_true rfl⟩) (zx_pre (c := zCl[0]) (q0 := 0) hK hPc hDc hXc rfl rfl) rfl rfl hl.1 rfl (lv_room (Nat.le_of_ble_eq_true rfl)) dL_pack_6 ⟨Nat.le_of_ble_eq_true rfl, Nat.le_of_ble_eq_true rfl⟩) hS (fun q _ h => hFc q h) hFc (fun q _ h => hFc q h) (fun E ce q9 u9 t9 H locs ht9 hvm9 _ hB9 hz9 hk9 hS hce hcv hcl => ?_) (fun v9 u9 t9 H locs ht9 hvm9 hv9 hB9 hz9 hk9 hS => ?_)
  · obtain ⟨hE, hP1, hK1⟩ := hB9
    rw [ht9] at hP1
    obtain ⟨hP, hD⟩ := va_join (wr := [(o, .inl (k 2, 1, .inr (.inl out)))]) (w1 := cW q k tg ad mt rb rt rp nr) hP hD [1, 2, 3, 4, 5, 6, 7] [0] rfl rfl (by decide) (by decide) hk9 hFc hP1 hDc
    have hP : va_P D zCl ((o, .inl (k 2, 1, .inr (.inl out))) :: cW q k tg ad mt rb rt rp nr) H := hP
    have hD : va_D A ((o, .inl (k 2, 1, .inr (.inl out))) :: cW q k tg ad mt rb rt rp nr) := hD
    obtain ⟨hEn, hxe⟩ := hE
    subst hEn
    refine vx_catch (own := "CapUnitLaw") (name := xIA) hown [] ⟨0, 11, 14, 15⟩ [] (htab.trans rfl) (fun _ h => absurd h List.not_mem_nil) (by decide) (by decide) (hq _ q_103) (va_Nw.use rfl hX.2.1.2.1) hce hcv hcl ?_
    refine lv_astore (lv' := [(5, .ref q9), (0, .ref (q 0)), (1, .int b), (2, .long n), (4, .ref o)]) hx hb dL_pack_14 hl (by decide) rfl (fun ls hl => ?_)
    refine lv_iconst (v := 1) hx hb dL_pack_16 (by decide) ?_
    rw [if_neg (show ¬ xC_pack tg ad mt b n = 0 by rw [hxe]; decide)]
    exact W.iret (v := (1 : Int32)) hx hb hr (fun t9 ht hW => ⟨⟨_, (), rfl, hxe.symm, by rw [ht]; exact hP, va_K.moved hW.alike hK, hD⟩, hS.F ht⟩) hS.2.2 dL_pack_17
  · obtain ⟨hP1, hK1, hD1⟩ := hB9
    rw [ht9] at hP1
    obtain ⟨hP, hD⟩ := va_join (wr := [(o, .inl (k 2, 1, .inr (.inl out)))]) (w1 := cW q k tg ad mt rb rt rp nr) hP hD [1, 2, 3, 4, 5, 6, 7] [0] rfl rfl (by decide) (by decide) hk9 hFc hP1 hD1
    obtain ⟨hx0, hv9⟩ := hv9
    subst hv9
    have hP : va_P D zCl ((o, .inl (k 2, 1, .inr (.inl out))) :: cW q k tg ad mt rb rt rp nr) H := hP
    have hD : va_D A ((o, .inl (k 2, 1, .inr (.inl out))) :: cW q k tg ad mt rb rt rp nr) := hD
    rw [if_pos hx0]
    refine lv_i2l hx hb dL_pack_9 rfl ?_
    refine va_last hx hb hK hP hD hS 0 2 rfl rfl (show ¬ ((0 : Int32) < 0 ∨ 1 ≤ (0 : Int32).toNatClampNeg) by decide) dL_pack_10 (fun H locs hP hD hS => ?_)
    have hP : va_P D zCl ((o, .inl (k 2, 1, .inr (.inl (vp_updL out 0 ((fC_packed (fC_unsigned b) ((fC_unsigned b) + n)).toInt64))))) :: cW q k tg ad mt rb rt rp nr) H := hP
    have hD : va_D A ((o, .inl (k 2, 1, .inr (.inl (vp_updL out 0 ((fC_packed (fC_unsigned b) ((fC_unsigned b) + n)).toInt64))))) :: cW q k tg ad mt rb rt rp nr) := hD
    refine lv_goto (tgt := 18) hx hb dL_pack_11 rfl ?_
    refine lv_iconst (v := 0) hx hb dL_pack_18 (by decide) ?_
    exact W.iret (v := (0 : Int32)) hx hb hr (fun t9 ht hW => ⟨⟨_, (), rfl, hx0.symm, by rw [ht]; exact hP, va_K.moved hW.alike hK, hD⟩, hS.F ht⟩) hS.2.2 dL_pack_19
set_option maxHeartbeats 4000000 in
set_option maxRecDepth 100000 in
theorem kL_rounded (l : Launch) (hl0 : l.stackTraces = false) {D : va_G} {q : Nat → Nat} {k : Nat → ClassId} {tg : Nat → Int32} {ad : Nat → Int32} {mt : Nat → Int32} {rb : Nat → Int64} {rt : Nat → Int64} {rp : Nat → Int32} {nr : Int32} {A : Nat → Prop} (sz : Nat) (hA0 : ∀ q, sz ≤ q → A q) (o : Nat) (out : Nat → Int64) (n : Int64) (y : Int32) : Met l yL_rounded wL_rounded { frames := 7, cells := 1, slots := 6, locals := 125 } (va_Pc [.ref (q 0), .long n, .int y, .ref o] (fun U => U.heap.size = sz ∧ va_P D zCl ((o, .inl (k 2, 1, .inr (.inl out))) :: cW q k tg ad mt rb rt rp nr) U.heap ∧ va_K D zCl (zT k) U ∧ va_D A ((o, .inl (k 2, 1, .inr (.inl out))) :: cW q k tg ad mt rb rt rp nr) ∧ zX A U U.heap)) (va_Qi (fun v9 (_ : Unit) => v9 = xC_rounded tg ad mt n y) (fun _ t => va_P D zCl (if xC_rounded tg ad mt n y = 0 then (o, .inl (k 2, 1, .inr (.inl (vp_updL out 0 (fC_rounded tg ad mt n y))))) :: cW q k tg ad mt rb rt rp nr else (o, .inl (k 2, 1, .inr (.inl out))) :: cW q k tg ad mt rb rt rp nr) t.heap ∧ va_K D zCl (zT k) t ∧ va_D A (if xC_rounded tg ad mt n y = 0 then (o, .inl (k 2, 1, .inr (.inl (vp_updL out 0 (fC_rounded tg ad mt n y))))) :: cW q k tg ad mt rb rt rp nr else (o, .inl (k 2, 1, .inr (.inl out))) :: cW q k tg ad mt rb rt rp nr)) A) 1 6 A := by
  refine va_MetW (cc := cL_rounded) (maxL := 6) (ret := (some .int)) (hh := [(0, 10, 13, 15)]) (by decide) rfl ?_
  intro p e s m args below meth c s₁ B hml hv
  obtain ⟨rfl, hsz, hP, hK, hD, hX⟩ := hv
  have hx := B.exec
  have hb := B.bytes
  have hr := B.returns
  have hts := atoms_spec (ws := wL_rounded) B.pre
  have hq : ∀ w ∈ wA, w.before _ s = true := fun w h => hts w (List.mem_cons_of_mem _ h)
  have hown : s.vm.findClass "CapUnitLaw" = some m.cls := findClass_of_methodNamed B.named
  have hlocks := B.notSynchronized
  have hS : va_S A s.heap s.heap [] := va_S.rf
  have hl := lv_entry ([.ref (q 0), .long n, .int y, .ref o]) (n := 6) (Nat.le_of_ble_eq_true rfl)
  rw [lg_entry_eq]
  generalize (lg_sl ([.ref (q 0), .long n, .int y, .ref o]) ++ List.replicate (6 - (lg_sl ([.ref (q 0), .long n, .int y, .ref o])).length) Slot.unset).toArray = ls at hl ⊢
  have hl : lv_has ls 6 [(0, .ref (q 0)), (1, .long n), (3, .int y), (4, .ref o)] := hl
  have hA : ∀ q, s.heap.size ≤ q → A q := fun q h => hA0 q (by omega)
  have htab := vx_table (x := yL_rounded) B (hts _ List.mem_cons_self)
  refine lv_aload hx hb dL_rounded_0 (lv_at hl 3 rfl) ?_
  refine lv_iconst (v := 0) hx hb dL_rounded_2 (by decide) ?_
  refine lv_aload_n hx hb dL_rounded_3 rfl (lv_at hl 0 rfl) ?_
  refine lv_lload_n hx hb dL_rounded_4 rfl (lv_at hl 1 rfl) ?_
  refine lv_iload_n hx hb dL_rounded_5 rfl (lv_at hl 2 rfl) ?_
  have hPc := hP.sub (ws' := cW q k tg ad mt rb rt rp nr) [1, 2, 3, 4, 5, 6, 7] rfl
  have hDc0 := hD.sub (ws' := cW q k tg ad mt rb rt rp nr) [1, 2, 3, 4, 5, 6, 7] (by decide) rfl
  have hDc := hDc0.self (sz := s.heap.size)
  have hFc := va_free (wc := cW q k tg ad mt rb rt rp nr) hD hS hA [1, 2, 3, 4, 5, 6, 7] rfl
  have hXc := hX.narrow hFc
  refine vx_calll (vx_runV (C := "CapUnit") (b := q 0) (As := [.long n, .int y]) (rest := [.int (0 : Int32), .ref o]) ⟨hx, hb, hml, hown, hq⟩ (kC_rounded l hl0 n y ) (cwV 2 hq (wA_V q_358 q_359 q_360 q_1 q_361) rfl rfl rfl (by decide +kernel) ⟨Nat.le_of_ble_eq_true rfl, Nat.le_of_ble_eq_true rfl⟩) (zx_pre (c := zCl[0]) (q0 := 0) hK hPc hDc hXc rfl rfl) rfl rfl hl.1 rfl (lv_room (Nat.le_of_ble_eq_true rfl)) dL_rounded_6 ⟨Nat.le_of_ble_eq_true rfl, Nat.le_of_ble_eq_true rfl⟩) hS (fun q _ h => hFc q h) hFc (fun q _ h => hFc q h) (fun E ce q9 u9 t9 H locs ht9 hvm9 _ hB9 hz9 hk9 hS hce hcv hcl => ?_) (fun v9 u9 t9 H locs ht9 hvm9 hv9 hB9 hz9 hk9 hS => ?_)
  · obtain ⟨hE, hP1, hK1⟩ := hB9
    rw [ht9] at hP1
    obtain ⟨hP, hD⟩ := va_join (wr := [(o, .inl (k 2, 1, .inr (.inl out)))]) (w1 := cW q k tg ad mt rb rt rp nr) hP hD [1, 2, 3, 4, 5, 6, 7] [0] rfl rfl (by decide) (by decide) hk9 hFc hP1 hDc
    have hP : va_P D zCl ((o, .inl (k 2, 1, .inr (.inl out))) :: cW q k tg ad mt rb rt rp nr) H := hP
    have hD : va_D A ((o, .inl (k 2, 1, .inr (.inl out))) :: cW q k tg ad mt rb rt rp nr) := hD
    obtain ⟨hEn, hxe⟩ := hE
    subst hEn
    refine vx_catch (own := "CapUnitLaw") (name := xIA) hown [] ⟨0, 10, 13, 15⟩ [] (htab.trans rfl) (fun _ h => absurd h List.not_mem_nil) (by decide) (by decide) (hq _ q_103) (va_Nw.use rfl hX.2.1.2.1) hce hcv hcl ?_
    refine lv_astore (lv' := [(5, .ref q9), (0, .ref (q 0)), (1, .long n), (3, .int y), (4, .ref o)]) hx hb dL_rounded_13 hl (by decide) rfl (fun ls hl => ?_)
    refine lv_iconst (v := 1) hx hb dL_rounded_15 (by decide) ?_
    rw [if_neg (show ¬ xC_rounded tg ad mt n y = 0 by rw [hxe]; decide)]
    exact W.iret (v := (1 : Int32)) hx hb hr (fun t9 ht hW => ⟨⟨_, (), rfl, hxe.symm, by rw [ht]; exact hP, va_K.moved hW.alike hK, hD⟩, hS.F ht⟩) hS.2.2 dL_rounded_16
  · obtain ⟨hP1, hK1, hD1⟩ := hB9
    rw [ht9] at hP1
    obtain ⟨hP, hD⟩ := va_join (wr := [(o, .inl (k 2, 1, .inr (.inl out)))]) (w1 := cW q k tg ad mt rb rt rp nr) hP hD [1, 2, 3, 4, 5, 6, 7] [0] rfl rfl (by decide) (by decide) hk9 hFc hP1 hD1
    obtain ⟨hx0, hv9⟩ := hv9
    subst hv9
    have hP : va_P D zCl ((o, .inl (k 2, 1, .inr (.inl out))) :: cW q k tg ad mt rb rt rp nr) H := hP
    have hD : va_D A ((o, .inl (k 2, 1, .inr (.inl out))) :: cW q k tg ad mt rb rt rp nr) := hD
    rw [if_pos hx0]
    refine va_last hx hb hK hP hD hS 0 2 rfl rfl (show ¬ ((0 : Int32) < 0 ∨ 1 ≤ (0 : Int32).toNatClampNeg) by decide) dL_rounded_9 (fun H locs hP hD hS => ?_)
    have hP : va_P D zCl ((o, .inl (k 2, 1, .inr (.inl (vp_updL out 0 (fC_rounded tg ad mt n y))))) :: cW q k tg ad mt rb rt rp nr) H := hP
    have hD : va_D A ((o, .inl (k 2, 1, .inr (.inl (vp_updL out 0 (fC_rounded tg ad mt n y))))) :: cW q k tg ad mt rb rt rp nr) := hD
    refine lv_goto (tgt := 17) hx hb dL_rounded_10 rfl ?_
    refine lv_iconst (v := 0) hx hb dL_rounded_17 (by decide) ?_
    exact W.iret (v := (0 : Int32)) hx hb hr (fun t9 ht hW => ⟨⟨_, (), rfl, hx0.symm, by rw [ht]; exact hP, va_K.moved hW.alike hK, hD⟩, hS.F ht⟩) hS.2.2 dL_rounded_18
