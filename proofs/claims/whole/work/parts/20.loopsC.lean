def zF (tg ad mt : Nat → Int32) (rb rt : Nat → Int64) (rp : Nat → Int32) (r : Int32) : Nat → Nat → Int32
  | 0, _ => 0
  | k + 1, i => if fC_isWithin tg ad mt r (rb i) (rt i) (rp i) = 0 then zF tg ad mt rb rt rp r k (i + 1) else 1
theorem zF_b (tg ad mt : Nat → Int32) (rb rt : Nat → Int64) (rp : Nat → Int32) (r : Int32) : ∀ k i : Nat, zF tg ad mt rb rt rp r k i = 0 ∨ zF tg ad mt rb rt rp r k i = 1 := by
  intro k
  induction k with
  | zero => exact fun i => Or.inl rfl
  | succ k ih =>
    intro i
    rw [zF]
    split
    · exact ih (i + 1)
    · exact Or.inr rfl
set_option maxHeartbeats 4000000 in
set_option maxRecDepth 100000 in
theorem kC_isFromRoot (l : Launch) {D : va_G} {q : Nat → Nat} {k : Nat → ClassId} {tg : Nat → Int32} {ad : Nat → Int32} {mt : Nat → Int32} {rb : Nat → Int64} {rt : Nat → Int64} {rp : Nat → Int32} {nr : Int32} {H : Heap} (hP : va_P D zCl (cW q k tg ad mt rb rt rp nr) H) (r : Int32) (ir : vp_in r 32) {N : Nat} (hN : nr = zI (N : Nat)) (hN8 : N ≤ 8) : Met l yC_isFromRoot wC_isFromRoot { frames := 5, cells := 0, slots := 0, locals := 124 } (va_Pc [.ref (q 0), .int r] (fun U => U.heap = H ∧ va_K D zCl (zT k) U)) (va_Qi (fun v9 (_ : Unit) => v9 = zF tg ad mt rb rt rp r N 0) (fun _ t => t.heap = H) (fun _ => False)) 0 0 (fun _ => False) := by
  refine Met.ofW (cc := cC_isFromRoot) (maxL := 3) (ret := (some .boolean)) (by decide) rfl ?_
  intro p e s m args below meth c s₁ B hml hv
  obtain ⟨rfl, hH, hK⟩ := hv
  subst hH
  have hx := B.exec
  have hb := B.bytes
  have hr := B.returns
  have hts := atoms_spec (ws := wC_isFromRoot) B.pre
  have hq : ∀ w ∈ wA, w.before _ s = true := fun w h => hts w (List.mem_cons_of_mem _ h)
  have hown : s.vm.findClass "CapUnit" = some m.cls := findClass_of_methodNamed B.named
  have hlocks := B.notSynchronized
  have hS : va_S (fun _ => False) s.heap s.heap [] := va_S.rf
  have hl := lv_entry ([.ref (q 0), .int r]) (n := 3) (Nat.le_of_ble_eq_true rfl)
  rw [lg_entry_eq]
  generalize (lg_sl ([.ref (q 0), .int r]) ++ List.replicate (3 - (lg_sl ([.ref (q 0), .int r])).length) Slot.unset).toArray = ls at hl ⊢
  have hl : lv_has ls 3 [(0, .ref (q 0)), (1, .int r)] := hl
  have key : ∀ (j i : Nat), i + j = N → zF tg ad mt rb rt rp r N 0 = zF tg ad mt rb rt rp r j i → ∀ (ls : Array Slot) (locs : List Loc), lv_has ls 3 [(2, .int (zI (i : Nat))), (0, .ref (q 0)), (1, .int r)] → va_S (fun _ => False) s.heap s.heap locs → W p l e (headSpec wC_isFromRoot { frames := 5, cells := 0, slots := 0, locals := 124 }).room s m [Value.ref (q 0), .int r].toArray below meth c s.heap locs 0 0 (MQ below (va_Qi (fun v9 (_ : Unit) => v9 = zF tg ad mt rb rt rp r N 0) (fun _ t => t.heap = s.heap) (fun _ => False)) [Value.ref (q 0), .int r].toArray s 0 0 (fun _ => False)) (F0 m 2 ls []) := by
    intro j
    induction j with
    | zero =>
      intro i hi hz ls locs hl hS
      refine lv_iload_n hx hb dC_isFromRoot_2 rfl (lv_at hl 0 rfl) ?_
      refine lv_aload_n hx hb dC_isFromRoot_3 rfl (lv_at hl 1 rfl) ?_
      refine va_get (D := D) (ci := 0) (v := .int nr) (C := "CapUnit") (T := TC) (N := 7) hx hb hq uC_in hown hK hP 0 rfl rfl 6 (by decide) (hq _ q_25) (fun _ h9 => h9) rfl dC_isFromRoot_4 ?_
      refine lv_icmp_ge (tgt := 44) hx hb dC_isFromRoot_7 rfl (fun h1 => ?_) (fun h1 => absurd (show nr ≤ zI (i : Nat) by rw [hN, zI_le (by omega) (by omega) (by omega) (by omega)]; omega) h1)
      refine lv_iconst (v := 0) hx hb dC_isFromRoot_44 (by decide) ?_
      exact W.zret (v := (0 : Int32)) hx hb hr (by decide) (fun t9 ht hW => ⟨⟨_, (), rfl, (by rw [hz]; rfl), ht⟩, hS.F ht⟩) hS.2.2 dC_isFromRoot_45
    | succ j ih =>
      intro i hi hz ls locs hl hS
      have hi8 : vp_in (zI (i : Nat)) 8 := zI_in (by omega) (by omega)
      refine lv_iload_n hx hb dC_isFromRoot_2 rfl (lv_at hl 0 rfl) ?_
      refine lv_aload_n hx hb dC_isFromRoot_3 rfl (lv_at hl 1 rfl) ?_
      refine va_get (D := D) (ci := 0) (v := .int nr) (C := "CapUnit") (T := TC) (N := 7) hx hb hq uC_in hown hK hP 0 rfl rfl 6 (by decide) (hq _ q_25) (fun _ h9 => h9) rfl dC_isFromRoot_4 ?_
      refine lv_icmp_ge (tgt := 44) hx hb dC_isFromRoot_7 rfl (fun h1 => ?_) (fun h1 => ?_)
      · rw [hN, zI_le (by omega) (by omega) (by omega) (by omega)] at h1
        omega
      refine lv_aload_n hx hb dC_isFromRoot_10 rfl (lv_at hl 1 rfl) ?_
      refine lv_iload_n hx hb dC_isFromRoot_11 rfl (lv_at hl 2 rfl) ?_
      refine lv_aload_n hx hb dC_isFromRoot_12 rfl (lv_at hl 1 rfl) ?_
      refine va_get (D := D) (ci := 0) (v := .ref (q 4)) (C := "CapUnit") (T := TC) (N := 7) hx hb hq uC_in hown hK hP 0 rfl rfl 3 (by decide) (hq _ q_22) (fun _ h9 => h9) rfl dC_isFromRoot_13 ?_
      refine lv_iload_n hx hb dC_isFromRoot_16 rfl (lv_at hl 0 rfl) ?_
      refine va_lald hx hb hK hP 4 2 rfl rfl (i := (zI (i : Nat))) hi8 dC_isFromRoot_17 ?_
      refine zt_l (show _ = rb i by rw [zI_cl (by omega)]) ?_
      refine lv_aload_n hx hb dC_isFromRoot_18 rfl (lv_at hl 1 rfl) ?_
      refine va_get (D := D) (ci := 0) (v := .ref (q 5)) (C := "CapUnit") (T := TC) (N := 7) hx hb hq uC_in hown hK hP 0 rfl rfl 4 (by decide) (hq _ q_23) (fun _ h9 => h9) rfl dC_isFromRoot_19 ?_
      refine lv_iload_n hx hb dC_isFromRoot_22 rfl (lv_at hl 0 rfl) ?_
      refine va_lald hx hb hK hP 5 2 rfl rfl (i := (zI (i : Nat))) hi8 dC_isFromRoot_23 ?_
      refine zt_l (show _ = rt i by rw [zI_cl (by omega)]) ?_
      refine lv_aload_n hx hb dC_isFromRoot_24 rfl (lv_at hl 1 rfl) ?_
      refine va_get (D := D) (ci := 0) (v := .ref (q 6)) (C := "CapUnit") (T := TC) (N := 7) hx hb hq uC_in hown hK hP 0 rfl rfl 5 (by decide) (hq _ q_24) (fun _ h9 => h9) rfl dC_isFromRoot_25 ?_
      refine lv_iload_n hx hb dC_isFromRoot_28 rfl (lv_at hl 0 rfl) ?_
      refine va_iald hx hb hK hP 6 1 rfl rfl (i := (zI (i : Nat))) hi8 dC_isFromRoot_29 ?_
      refine zt_i (show _ = rp i by rw [zI_cl (by omega)]) ?_
      refine zc_i (va_runV (C := "CapUnit") (b := q 0) (As := [.int r, .long (rb i), .long (rt i), .int (rp i)]) (rest := []) ⟨hx, hb, hml, hown, hq⟩ (kC_isWithin l hP r (rb i) (rt i) (rp i) ir) (cwV 4 hq (wA_V q_84 q_86 sC_isWithin q_1 q_87) rfl rfl rfl (by decide +kernel) ⟨Nat.le_of_ble_eq_true rfl, Nat.le_of_ble_eq_true rfl⟩) (zr_pre (c := zCl[0]) (q0 := 0) hK hP rfl rfl) rfl rfl hl.1 rfl (lv_room (Nat.le_of_ble_eq_true rfl)) dC_isFromRoot_30 ⟨Nat.le_of_ble_eq_true rfl, Nat.le_of_ble_eq_true rfl⟩) hS (fun locs hS => ?_)
      refine lv_if_eq (tgt := 38) hx hb dC_isFromRoot_33 rfl (fun h2 => ?_) (fun h2 => ?_)
      · refine lv_iinc (k := 0) (v := zI ((i + 1 : Nat) : Int)) (lv' := [(2, .int (zI ((i + 1 : Nat) : Int))), (0, .ref (q 0)), (1, .int r)]) hx hb dC_isFromRoot_38 hl rfl (by show zI _ + zI 1 = _; rw [zI_add]; rfl) (by decide) rfl (fun ls hl => ?_)
        refine lv_goto (tgt := 2) hx hb dC_isFromRoot_41 rfl ?_
        exact ih (i + 1) (by omega) (by rw [hz, zF, if_pos h2]) ls locs hl hS
      · refine lv_iconst (v := 1) hx hb dC_isFromRoot_36 (by decide) ?_
        exact W.zret (v := (1 : Int32)) hx hb hr (by decide) (fun t9 ht hW => ⟨⟨_, (), rfl, (by rw [hz, zF, if_neg h2]), ht⟩, hS.F ht⟩) hS.2.2 dC_isFromRoot_37
  refine lv_iconst (v := 0) hx hb dC_isFromRoot_0 (by decide) ?_
  refine lv_istore_n (lv' := [(2, .int (zI ((0 : Nat) : Int))), (0, .ref (q 0)), (1, .int r)]) hx hb dC_isFromRoot_1 rfl hl (by decide) rfl (fun ls hl => ?_)
  exact key N 0 (by omega) rfl ls [] hl hS
def zG (tg ad mt : Nat → Int32) (rb rt : Nat → Int64) (rp : Nat → Int32) (N : Nat) : Nat → Nat → Int32 → Int32
  | 0, _, x => x
  | k + 1, i, x => if tg i = 0 then zG tg ad mt rb rt rp N k (i + 1) x else if zF tg ad mt rb rt rp (zI (i : Nat)) N 0 = 0 then zG tg ad mt rb rt rp N k (i + 1) (x + 1) else zG tg ad mt rb rt rp N k (i + 1) x
set_option maxHeartbeats 4000000 in
set_option maxRecDepth 100000 in
theorem kC_grown (l : Launch) {D : va_G} {q : Nat → Nat} {k : Nat → ClassId} {tg : Nat → Int32} {ad : Nat → Int32} {mt : Nat → Int32} {rb : Nat → Int64} {rt : Nat → Int64} {rp : Nat → Int32} {nr : Int32} {H : Heap} (hP : va_P D zCl (cW q k tg ad mt rb rt rp nr) H) {N : Nat} (hN : nr = zI (N : Nat)) (hN8 : N ≤ 8) : Met l yC_grown wC_grown { frames := 6, cells := 0, slots := 0, locals := 146 } (va_Pc [.ref (q 0)] (fun U => U.heap = H ∧ va_K D zCl (zT k) U)) (va_Qi (fun v9 (_ : Unit) => v9 = zG tg ad mt rb rt rp N 32 0 0) (fun _ t => t.heap = H) (fun _ => False)) 0 0 (fun _ => False) := by
  refine Met.ofW (cc := cC_grown) (maxL := 3) (ret := (some .int)) (by decide) rfl ?_
  intro p e s m args below meth c s₁ B hml hv
  obtain ⟨rfl, hH, hK⟩ := hv
  subst hH
  have hx := B.exec
  have hb := B.bytes
  have hr := B.returns
  have hts := atoms_spec (ws := wC_grown) B.pre
  have hq : ∀ w ∈ wA, w.before _ s = true := fun w h => hts w (List.mem_cons_of_mem _ h)
  have hown : s.vm.findClass "CapUnit" = some m.cls := findClass_of_methodNamed B.named
  have hlocks := B.notSynchronized
  have hS : va_S (fun _ => False) s.heap s.heap [] := va_S.rf
  have hl := lv_entry ([.ref (q 0)]) (n := 3) (Nat.le_of_ble_eq_true rfl)
  rw [lg_entry_eq]
  generalize (lg_sl ([.ref (q 0)]) ++ List.replicate (3 - (lg_sl ([.ref (q 0)])).length) Slot.unset).toArray = ls at hl ⊢
  have hl : lv_has ls 3 [(0, .ref (q 0))] := hl
  have key : ∀ (j i : Nat) (n0 : Int32), i + j = 32 → zG tg ad mt rb rt rp N 32 0 0 = zG tg ad mt rb rt rp N j i n0 → ∀ (ls : Array Slot) (locs : List Loc), lv_has ls 3 [(2, .int (zI (i : Nat))), (1, .int n0), (0, .ref (q 0))] → va_S (fun _ => False) s.heap s.heap locs → W p l e (headSpec wC_grown { frames := 6, cells := 0, slots := 0, locals := 146 }).room s m [Value.ref (q 0)].toArray below meth c s.heap locs 0 0 (MQ below (va_Qi (fun v9 (_ : Unit) => v9 = zG tg ad mt rb rt rp N 32 0 0) (fun _ t => t.heap = s.heap) (fun _ => False)) [Value.ref (q 0)].toArray s 0 0 (fun _ => False)) (F0 m 4 ls []) := by
    intro j
    induction j with
    | zero =>
      intro i n0 hi hz ls locs hl hS
      refine lv_iload_n hx hb dC_grown_4 rfl (lv_at hl 0 rfl) ?_
      refine lv_bipush (v := 32) hx hb dC_grown_5 (by decide) ?_
      refine lv_icmp_ge (tgt := 36) hx hb dC_grown_7 rfl (fun h1 => ?_) (fun h1 => absurd (show (32 : Int32) ≤ zI (i : Nat) by rw [(show (32 : Int32) = zI 32 by decide), zI_le (by omega) (by omega) (by omega) (by omega)]; omega) h1)
      refine lv_iload_n hx hb dC_grown_36 rfl (lv_at hl 1 rfl) ?_
      exact W.iret (v := n0) hx hb hr (fun t9 ht hW => ⟨⟨_, (), rfl, (by rw [hz]; rfl), ht⟩, hS.F ht⟩) hS.2.2 dC_grown_37
    | succ j ih =>
      intro i n0 hi hz ls locs hl hS
      have hi32 : vp_in (zI (i : Nat)) 32 := zI_in (by omega) (by omega)
      refine lv_iload_n hx hb dC_grown_4 rfl (lv_at hl 0 rfl) ?_
      refine lv_bipush (v := 32) hx hb dC_grown_5 (by decide) ?_
      refine lv_icmp_ge (tgt := 36) hx hb dC_grown_7 rfl (fun h1 => ?_) (fun h1 => ?_)
      · rw [(show (32 : Int32) = zI 32 by decide), zI_le (by omega) (by omega) (by omega) (by omega)] at h1
        omega
      refine lv_aload_n hx hb dC_grown_10 rfl (lv_at hl 2 rfl) ?_
      refine va_get (D := D) (ci := 0) (v := .ref (q 1)) (C := "CapUnit") (T := TC) (N := 7) hx hb hq uC_in hown hK hP 0 rfl rfl 0 (by decide) (hq _ q_19) (fun _ h9 => h9) rfl dC_grown_11 ?_
      refine lv_iload_n hx hb dC_grown_14 rfl (lv_at hl 0 rfl) ?_
      refine va_zald hx hb hK hP 1 0 rfl rfl (i := (zI (i : Nat))) hi32 dC_grown_15 ?_
      refine zt_i (show _ = tg i by rw [zI_cl (by omega)]) ?_
      refine lv_if_eq (tgt := 30) hx hb dC_grown_16 rfl (fun h2 => ?_) (fun h2 => ?_)
      · refine lv_iinc (k := 0) (v := zI ((i + 1 : Nat) : Int)) (lv' := [(2, .int (zI ((i + 1 : Nat) : Int))), (1, .int n0), (0, .ref (q 0))]) hx hb dC_grown_30 hl rfl (by show zI _ + zI 1 = _; rw [zI_add]; rfl) (by decide) rfl (fun ls hl => ?_)
        refine lv_goto (tgt := 4) hx hb dC_grown_33 rfl ?_
        exact ih (i + 1) n0 (by omega) (by rw [hz, zG, if_pos h2]) ls locs hl hS
      · refine lv_aload_n hx hb dC_grown_19 rfl (lv_at hl 2 rfl) ?_
        refine lv_iload_n hx hb dC_grown_20 rfl (lv_at hl 0 rfl) ?_
        refine zc_i (va_runV (C := "CapUnit") (b := q 0) (As := [.int (zI (i : Nat))]) (rest := []) ⟨hx, hb, hml, hown, hq⟩ (kC_isFromRoot l hP (zI (i : Nat)) hi32 hN hN8) (cwV 1 hq (wA_V q_80 q_82 sC_isFromRoot q_1 q_83) rfl rfl rfl (by decide +kernel) ⟨Nat.le_of_ble_eq_true rfl, Nat.le_of_ble_eq_true rfl⟩) (zr_pre (c := zCl[0]) (q0 := 0) hK hP rfl rfl) rfl rfl hl.1 rfl (lv_room (Nat.le_of_ble_eq_true rfl)) dC_grown_21 ⟨Nat.le_of_ble_eq_true rfl, Nat.le_of_ble_eq_true rfl⟩) hS (fun locs hS => ?_)
        refine lv_if_ne (tgt := 30) hx hb dC_grown_24 rfl (fun h3 => ?_) (fun h3 => ?_)
        · refine lv_iinc (k := 0) (v := zI ((i + 1 : Nat) : Int)) (lv' := [(2, .int (zI ((i + 1 : Nat) : Int))), (1, .int n0), (0, .ref (q 0))]) hx hb dC_grown_30 hl rfl (by show zI _ + zI 1 = _; rw [zI_add]; rfl) (by decide) rfl (fun ls hl => ?_)
          refine lv_goto (tgt := 4) hx hb dC_grown_33 rfl ?_
          exact ih (i + 1) n0 (by omega) (by rw [hz, zG, if_neg h2, if_neg h3]) ls locs hl hS
        · refine lv_iinc (k := 1) (v := n0 + 1) (lv' := [(1, .int (n0 + 1)), (2, .int (zI (i : Nat))), (0, .ref (q 0))]) hx hb dC_grown_27 hl rfl rfl (by decide) rfl (fun ls hl => ?_)
          refine lv_iinc (k := 0) (v := zI ((i + 1 : Nat) : Int)) (lv' := [(2, .int (zI ((i + 1 : Nat) : Int))), (1, .int (n0 + 1)), (0, .ref (q 0))]) hx hb dC_grown_30 (lv_sub hl [1, 0, 2] rfl) rfl (by show zI _ + zI 1 = _; rw [zI_add]; rfl) (by decide) rfl (fun ls hl => ?_)
          refine lv_goto (tgt := 4) hx hb dC_grown_33 rfl ?_
          exact ih (i + 1) (n0 + 1) (by omega) (by rw [hz, zG, if_neg h2, if_pos h3]) ls locs hl hS
  refine lv_iconst (v := 0) hx hb dC_grown_0 (by decide) ?_
  refine lv_istore_n (lv' := [(1, .int 0), (0, .ref (q 0))]) hx hb dC_grown_1 rfl hl (by decide) rfl (fun ls hl => ?_)
  refine lv_iconst (v := 0) hx hb dC_grown_2 (by decide) ?_
  refine lv_istore_n (lv' := [(2, .int (zI ((0 : Nat) : Int))), (1, .int 0), (0, .ref (q 0))]) hx hb dC_grown_3 rfl hl (by decide) rfl (fun ls hl => ?_)
  exact key 32 0 0 (by omega) rfl ls [] hl hS
