/-! The reference: fail, is, pack. -/
def zRb (x : Int32) : Int32 := if x = 0 then 1 else 0
theorem zRb_b (x : Int32) : zRb x = 0 ∨ zRb x = 1 := by
  unfold zRb
  split
  · exact Or.inr rfl
  · exact Or.inl rfl
def zIs (f : Nat → Int32) : Nat → Nat → Int32 → Int32
  | 0, _, x => x
  | j + 1, i, x => zIs f j (i + 1) (if f i < 0 then 1 else if f i ≤ 31 then x else 1)
set_option maxHeartbeats 4000000 in
set_option maxRecDepth 100000 in
theorem kM_is (l : Launch) {D : va_G} {q : Nat → Nat} {k : Nat → ClassId} {tg : Nat → Int32} {ad : Nat → Int32} {mt : Nat → Int32} {rb : Nat → Int64} {rt : Nat → Int64} {rp : Nat → Int32} {nr : Int32} {th : Int32} {pk : Int32} {ex : Int32} {ro : Int64} {A : Nat → Prop} (a0 n : Nat) (f : Nat → Int32) (hn : n < 1000) : Met l yM_is wM_is { frames := 0, cells := 0, slots := 0, locals := 0 } (va_Pc [.ref (q 0), .ref a0] (fun U => va_P D zCl (mW q k tg ad mt rb rt rp nr th pk ex ro ++ [(a0, .inl (k 1, n, .inl f))]) U.heap ∧ va_K D zCl (zT k) U ∧ va_D A (mW q k tg ad mt rb rt rp nr th pk ex ro ++ [(a0, .inl (k 1, n, .inl f))]))) (va_Qi (fun v9 (_ : Unit) => v9 = zRb (zIs f n 0 0)) (fun _ t => va_P D zCl (mW q k tg ad mt rb rt rp nr (zIs f n 0 0) pk ex ro) t.heap ∧ va_K D zCl (zT k) t ∧ va_D A (mW q k tg ad mt rb rt rp nr (zIs f n 0 0) pk ex ro)) A) 0 0 A := by
  refine Met.ofW (cc := cM_is) (maxL := 6) (ret := (some .boolean)) (by decide) rfl ?_
  intro p e s m args below meth c s₁ B hml hv
  obtain ⟨rfl, hP, hK, hD⟩ := hv
  have hx := B.exec
  have hb := B.bytes
  have hr := B.returns
  have hts := atoms_spec (ws := wM_is) B.pre
  have hq : ∀ w ∈ wA, w.before _ s = true := fun w h => hts w (List.mem_cons_of_mem _ h)
  have hown : s.vm.findClass "CapUnitModel" = some m.cls := findClass_of_methodNamed B.named
  have hlocks := B.notSynchronized
  have hS : va_S A s.heap s.heap [] := va_S.rf
  have hl := lv_entry ([.ref (q 0), .ref a0]) (n := 6) (Nat.le_of_ble_eq_true rfl)
  rw [lg_entry_eq]
  generalize (lg_sl ([.ref (q 0), .ref a0]) ++ List.replicate (6 - (lg_sl ([.ref (q 0), .ref a0])).length) Slot.unset).toArray = ls at hl ⊢
  have hl : lv_has ls 6 [(0, .ref (q 0)), (1, .ref a0)] := hl
  have key : ∀ (j i : Nat) (th : Int32) (ls : Array Slot) (H : Heap) (locs : List Loc), i + j = n → zIs f n 0 0 = zIs f j i th → lv_has ls 6 [(4, .int (zI (i : Nat))), (3, .int (zI (n : Nat))), (2, .ref a0), (0, .ref (q 0)), (1, .ref a0)] → va_P D zCl (mW q k tg ad mt rb rt rp nr th pk ex ro ++ [(a0, .inl (k 1, n, .inl f))]) H → va_D A (mW q k tg ad mt rb rt rp nr th pk ex ro ++ [(a0, .inl (k 1, n, .inl f))]) → va_S A s.heap H locs → W p l e (headSpec wM_is { frames := 0, cells := 0, slots := 0, locals := 0 }).room s m [Value.ref (q 0), Value.ref a0].toArray below meth c H locs 0 0 (MQ below (va_Qi (fun v9 (_ : Unit) => v9 = zRb (zIs f n 0 0)) (fun _ t => va_P D zCl (mW q k tg ad mt rb rt rp nr (zIs f n 0 0) pk ex ro) t.heap ∧ va_K D zCl (zT k) t ∧ va_D A (mW q k tg ad mt rb rt rp nr (zIs f n 0 0) pk ex ro)) A) [Value.ref (q 0), Value.ref a0].toArray s 0 0 A) (F0 m 13 ls []) := by
    intro j
    induction j with
    | zero =>
      intro i th ls H locs hi hz hl hP hD hS
      refine lv_iload hx hb dM_is_13 (lv_at hl 0 rfl) ?_
      refine lv_iload_n hx hb dM_is_15 rfl (lv_at hl 1 rfl) ?_
      refine lv_icmp_ge (tgt := 48) hx hb dM_is_16 rfl (fun h1 => ?_) (fun h1 => absurd ((zI_le (by omega) (by omega) (by omega) (by omega)).mpr (by omega)) h1)
      refine lv_aload_n hx hb dM_is_48 rfl (lv_at hl 3 rfl) ?_
      refine va_get (D := D) (ci := 1) (v := .int th) (C := "CapUnitModel") (T := TM) (N := 11) hx hb hq uM_in hown hK hP 0 rfl rfl 7 (by decide) (hq _ q_377) (fun _ h9 => h9) rfl dM_is_49 ?_
      have ez : zIs f n 0 0 = th := hz
      have hP9 : va_P D zCl (mW q k tg ad mt rb rt rp nr (zIs f n 0 0) pk ex ro) H := by rw [ez]; exact hP.sub [0, 1, 2, 3, 4, 5, 6] rfl
      have hD9 : va_D A (mW q k tg ad mt rb rt rp nr (zIs f n 0 0) pk ex ro) := by rw [ez]; exact hD.sub [0, 1, 2, 3, 4, 5, 6] (by decide) rfl
      refine lv_if_ne (tgt := 59) hx hb dM_is_52 rfl (fun h2 => ?_) (fun h2 => ?_)
      · refine lv_iconst (v := 0) hx hb dM_is_59 (by decide) ?_
        exact W.zret (v := (0 : Int32)) hx hb hr (by decide) (fun t9 ht hW => ⟨⟨_, (), rfl, (by rw [ez]; unfold zRb; rw [if_neg h2]), by rw [ht]; exact hP9, va_K.moved hW.alike hK, hD9⟩, hS.F ht⟩) hS.2.2 dM_is_60
      · refine lv_iconst (v := 1) hx hb dM_is_55 (by decide) ?_
        refine lv_goto (tgt := 60) hx hb dM_is_56 rfl ?_
        exact W.zret (v := (1 : Int32)) hx hb hr (by decide) (fun t9 ht hW => ⟨⟨_, (), rfl, (by rw [ez]; unfold zRb; rw [if_pos h2]), by rw [ht]; exact hP9, va_K.moved hW.alike hK, hD9⟩, hS.F ht⟩) hS.2.2 dM_is_60
    | succ j ih =>
      intro i th ls H locs hi hz hl hP hD hS
      have hin9 : vp_in (zI (i : Nat)) n := zI_in (by omega) (by omega)
      refine lv_iload hx hb dM_is_13 (lv_at hl 0 rfl) ?_
      refine lv_iload_n hx hb dM_is_15 rfl (lv_at hl 1 rfl) ?_
      refine lv_icmp_ge (tgt := 48) hx hb dM_is_16 rfl (fun h1 => ?_) (fun h1 => ?_)
      · rw [zI_le (by omega) (by omega) (by omega) (by omega)] at h1
        omega
      refine lv_aload_n hx hb dM_is_19 rfl (lv_at hl 2 rfl) ?_
      refine lv_iload hx hb dM_is_20 (lv_at hl 0 rfl) ?_
      refine va_iald hx hb hK hP 7 1 rfl rfl (i := zI (i : Nat)) hin9 dM_is_22 ?_
      refine zt_i (show _ = f i by rw [zI_cl (by omega)]) ?_
      refine lv_istore (lv' := [(5, .int (f i)), (4, .int (zI (i : Nat))), (3, .int (zI (n : Nat))), (2, .ref a0), (0, .ref (q 0)), (1, .ref a0)]) hx hb dM_is_23 hl (by decide) rfl (fun ls hl => ?_)
      have J : ∀ (th2 : Int32) (H : Heap) (locs : List Loc), th2 = (if f i < 0 then 1 else if f i ≤ 31 then th else 1) → va_P D zCl (mW q k tg ad mt rb rt rp nr th2 pk ex ro ++ [(a0, .inl (k 1, n, .inl f))]) H → va_D A (mW q k tg ad mt rb rt rp nr th2 pk ex ro ++ [(a0, .inl (k 1, n, .inl f))]) → va_S A s.heap H locs → W p l e (headSpec wM_is { frames := 0, cells := 0, slots := 0, locals := 0 }).room s m [Value.ref (q 0), Value.ref a0].toArray below meth c H locs 0 0 (MQ below (va_Qi (fun v9 (_ : Unit) => v9 = zRb (zIs f n 0 0)) (fun _ t => va_P D zCl (mW q k tg ad mt rb rt rp nr (zIs f n 0 0) pk ex ro) t.heap ∧ va_K D zCl (zT k) t ∧ va_D A (mW q k tg ad mt rb rt rp nr (zIs f n 0 0) pk ex ro)) A) [Value.ref (q 0), Value.ref a0].toArray s 0 0 A) (F0 m 42 ls []) := by
        intro th2 H locs e2 hP hD hS
        refine lv_iinc (k := 1) (v := zI ((i + 1 : Nat) : Int)) (lv' := [(4, .int (zI ((i + 1 : Nat) : Int))), (5, .int (f i)), (3, .int (zI (n : Nat))), (2, .ref a0), (0, .ref (q 0)), (1, .ref a0)]) hx hb dM_is_42 hl rfl (by show zI _ + zI 1 = _; rw [zI_add]; rfl) (by decide) rfl (fun ls hl => ?_)
        refine lv_goto (tgt := 13) hx hb dM_is_45 rfl ?_
        exact ih (i + 1) th2 ls H locs (by omega) (by rw [hz, e2]; rfl) (lv_sub hl [0, 2, 3, 4, 5] rfl) hP hD hS
      refine lv_iload hx hb dM_is_25 (lv_at hl 0 rfl) ?_
      refine lv_if_lt (tgt := 37) hx hb dM_is_27 rfl (fun h2 => ?_) (fun h2 => ?_)
      · refine lv_aload_n hx hb dM_is_37 rfl (lv_at hl 4 rfl) ?_
        refine lv_iconst (v := 1) hx hb dM_is_38 (by decide) ?_
        refine va_put (D := D) (ci := 1) (v := .int 1) (ty := .int) (C := "CapUnitModel") (T := TM) (N := 11) hx hb hq uM_in tyM tyM_ok nmM hown hK hP hD hS 0 rfl rfl 7 (by decide) (hq _ q_377) (fun _ h9 => h9) rfl (by decide +kernel) rfl rfl (Nat.le_of_ble_eq_true rfl) dM_is_39 (fun H locs hP hD hS => ?_)
        have hP : va_P D zCl (mW q k tg ad mt rb rt rp nr 1 pk ex ro ++ [(a0, .inl (k 1, n, .inl f))]) H := hP
        have hD : va_D A (mW q k tg ad mt rb rt rp nr 1 pk ex ro ++ [(a0, .inl (k 1, n, .inl f))]) := hD
        exact J 1 H locs (by rw [if_pos h2]) hP hD hS
      · refine lv_iload hx hb dM_is_30 (lv_at hl 0 rfl) ?_
        refine lv_bipush (v := 31) hx hb dM_is_32 (by decide) ?_
        refine lv_icmp_le (tgt := 42) hx hb dM_is_34 rfl (fun h3 => ?_) (fun h3 => ?_)
        · exact J th H locs (by rw [if_neg h2, if_pos h3]) hP hD hS
        · refine lv_aload_n hx hb dM_is_37 rfl (lv_at hl 4 rfl) ?_
          refine lv_iconst (v := 1) hx hb dM_is_38 (by decide) ?_
          refine va_put (D := D) (ci := 1) (v := .int 1) (ty := .int) (C := "CapUnitModel") (T := TM) (N := 11) hx hb hq uM_in tyM tyM_ok nmM hown hK hP hD hS 0 rfl rfl 7 (by decide) (hq _ q_377) (fun _ h9 => h9) rfl (by decide +kernel) rfl rfl (Nat.le_of_ble_eq_true rfl) dM_is_39 (fun H locs hP hD hS => ?_)
          have hP : va_P D zCl (mW q k tg ad mt rb rt rp nr 1 pk ex ro ++ [(a0, .inl (k 1, n, .inl f))]) H := hP
          have hD : va_D A (mW q k tg ad mt rb rt rp nr 1 pk ex ro ++ [(a0, .inl (k 1, n, .inl f))]) := hD
          exact J 1 H locs (by rw [if_neg h2, if_neg h3]) hP hD hS
  refine lv_aload_n hx hb dM_is_0 rfl (lv_at hl 0 rfl) ?_
  refine lv_iconst (v := 0) hx hb dM_is_1 (by decide) ?_
  refine va_put (D := D) (ci := 1) (v := .int 0) (ty := .int) (C := "CapUnitModel") (T := TM) (N := 11) hx hb hq uM_in tyM tyM_ok nmM hown hK hP hD hS 0 rfl rfl 7 (by decide) (hq _ q_377) (fun _ h9 => h9) rfl (by decide +kernel) rfl rfl (Nat.le_of_ble_eq_true rfl) dM_is_2 (fun H locs hP hD hS => ?_)
  have hP : va_P D zCl (mW q k tg ad mt rb rt rp nr 0 pk ex ro ++ [(a0, .inl (k 1, n, .inl f))]) H := hP
  have hD : va_D A (mW q k tg ad mt rb rt rp nr 0 pk ex ro ++ [(a0, .inl (k 1, n, .inl f))]) := hD
  refine lv_aload_n hx hb dM_is_5 rfl (lv_at hl 1 rfl) ?_
  refine lv_astore_n (lv' := [(2, .ref a0), (0, .ref (q 0)), (1, .ref a0)]) hx hb dM_is_6 rfl hl (by decide) rfl (fun ls hl => ?_)
  refine lv_aload_n hx hb dM_is_7 rfl (lv_at hl 0 rfl) ?_
  refine va_alen hx hb hK hP 7 1 (x := (n, .inl f)) rfl (ty := .int) rfl (v := zI (n : Nat)) (Int32.ofInt_eq_ofNat).symm dM_is_8 ?_
  refine lv_istore_n (lv' := [(3, .int (zI (n : Nat))), (2, .ref a0), (0, .ref (q 0)), (1, .ref a0)]) hx hb dM_is_9 rfl hl (by decide) rfl (fun ls hl => ?_)
  refine lv_iconst (v := 0) hx hb dM_is_10 (by decide) ?_
  refine lv_istore (lv' := [(4, .int (zI ((0 : Nat) : Int))), (3, .int (zI (n : Nat))), (2, .ref a0), (0, .ref (q 0)), (1, .ref a0)]) hx hb dM_is_11 hl (by decide) rfl (fun ls hl => ?_)
  exact key n 0 0 ls H locs (by omega) rfl hl hP hD hS
def zx1 (d : Int32) : Int32 := if fC_isRegister d = 0 then 1 else 0
def zx2 (d r : Int32) : Int32 := if fC_isRegister r = 0 then 1 else if fC_isRegister d = 0 then 1 else 0
def zx3 (d r y : Int32) : Int32 := if fC_isRegister r = 0 then 1 else if fC_isRegister d = 0 then 1 else if fC_isRegister y = 0 then 1 else 0
theorem z_rg (x th : Int32) : (if x < 0 then 1 else if x ≤ 31 then th else 1) = if fC_isRegister x = 0 then 1 else th := by
  have e31 : (31 : Int32).toInt = 31 := by decide
  have e32 : (32 : Int32).toInt = 32 := by decide
  unfold fC_isRegister
  by_cases h1 : x < 0
  · rw [if_pos h1, if_pos h1, if_pos rfl]
  · rw [if_neg h1, if_neg h1]
    by_cases h2 : x ≤ 31
    · have h3 : ¬ (32 : Int32) ≤ x := by
        intro h3
        rw [Int32.le_iff_toInt_le] at h2 h3
        omega
      rw [if_pos h2, if_neg h3, if_neg (show ¬ (1 : Int32) = 0 by decide)]
    · have h3 : (32 : Int32) ≤ x := by
        rw [Int32.le_iff_toInt_le] at h2 ⊢
        omega
      rw [if_neg h2, if_pos h3, if_pos rfl]
theorem zIs_1 (d : Int32) : zIs (upd (fun _ => 0) 0 d) 1 0 0 = zx1 d := by
  show (if d < 0 then 1 else if d ≤ 31 then 0 else 1) = _
  rw [z_rg]
  rfl
theorem zIs_2 (d r : Int32) : zIs (upd (upd (fun _ => 0) 0 d) 1 r) 2 0 0 = zx2 d r := by
  show (if r < 0 then 1 else if r ≤ 31 then (if d < 0 then 1 else if d ≤ 31 then 0 else 1) else 1) = _
  rw [z_rg, z_rg]
  rfl
theorem zIs_3 (d r y : Int32) : zIs (upd (upd (upd (fun _ => 0) 0 d) 1 r) 2 y) 3 0 0 = zx3 d r y := by
  show (if y < 0 then 1 else if y ≤ 31 then (if r < 0 then 1 else if r ≤ 31 then (if d < 0 then 1 else if d ≤ 31 then 0 else 1) else 1) else 1) = _
  rw [z_rg, z_rg, z_rg]
  unfold zx3
  by_cases h1 : fC_isRegister y = 0
  · rw [if_pos h1]
    by_cases h2 : fC_isRegister r = 0
    · rw [if_pos h2]
    · rw [if_neg h2]
      by_cases h3 : fC_isRegister d = 0
      · rw [if_pos h3]
      · rw [if_neg h3, if_pos h1]
  · rw [if_neg h1]
    by_cases h2 : fC_isRegister r = 0
    · rw [if_pos h2, if_pos h2]
    · rw [if_neg h2, if_neg h2]
      by_cases h3 : fC_isRegister d = 0
      · rw [if_pos h3, if_pos h3]
      · rw [if_neg h3, if_neg h3, if_neg h1]
theorem kM_is1 (l : Launch) {D : va_G} {q : Nat → Nat} {k : Nat → ClassId} {tg : Nat → Int32} {ad : Nat → Int32} {mt : Nat → Int32} {rb : Nat → Int64} {rt : Nat → Int64} {rp : Nat → Int32} {nr : Int32} {th : Int32} {pk : Int32} {ex : Int32} {ro : Int64} {A : Nat → Prop} (a0 : Nat) (d : Int32) : Met l yM_is wM_is { frames := 0, cells := 0, slots := 0, locals := 0 } (va_Pc [.ref (q 0), .ref a0] (fun U => va_P D zCl (mW q k tg ad mt rb rt rp nr th pk ex ro ++ [(a0, .inl (k 1, 1, .inl (upd (fun _ => 0) 0 d)))]) U.heap ∧ va_K D zCl (zT k) U ∧ va_D A (mW q k tg ad mt rb rt rp nr th pk ex ro ++ [(a0, .inl (k 1, 1, .inl (upd (fun _ => 0) 0 d)))]))) (va_Qi (fun v9 (_ : Unit) => v9 = zRb (zx1 d)) (fun _ t => va_P D zCl (mW q k tg ad mt rb rt rp nr (zx1 d) pk ex ro) t.heap ∧ va_K D zCl (zT k) t ∧ va_D A (mW q k tg ad mt rb rt rp nr (zx1 d) pk ex ro)) A) 0 0 A := by
  rw [← zIs_1 d]
  exact kM_is l a0 1 (upd (fun _ => 0) 0 d) (by decide)
theorem kM_is2 (l : Launch) {D : va_G} {q : Nat → Nat} {k : Nat → ClassId} {tg : Nat → Int32} {ad : Nat → Int32} {mt : Nat → Int32} {rb : Nat → Int64} {rt : Nat → Int64} {rp : Nat → Int32} {nr : Int32} {th : Int32} {pk : Int32} {ex : Int32} {ro : Int64} {A : Nat → Prop} (a0 : Nat) (d r : Int32) : Met l yM_is wM_is { frames := 0, cells := 0, slots := 0, locals := 0 } (va_Pc [.ref (q 0), .ref a0] (fun U => va_P D zCl (mW q k tg ad mt rb rt rp nr th pk ex ro ++ [(a0, .inl (k 1, 2, .inl (upd (upd (fun _ => 0) 0 d) 1 r)))]) U.heap ∧ va_K D zCl (zT k) U ∧ va_D A (mW q k tg ad mt rb rt rp nr th pk ex ro ++ [(a0, .inl (k 1, 2, .inl (upd (upd (fun _ => 0) 0 d) 1 r)))]))) (va_Qi (fun v9 (_ : Unit) => v9 = zRb (zx2 d r)) (fun _ t => va_P D zCl (mW q k tg ad mt rb rt rp nr (zx2 d r) pk ex ro) t.heap ∧ va_K D zCl (zT k) t ∧ va_D A (mW q k tg ad mt rb rt rp nr (zx2 d r) pk ex ro)) A) 0 0 A := by
  rw [← zIs_2 d r]
  exact kM_is l a0 2 (upd (upd (fun _ => 0) 0 d) 1 r) (by decide)
theorem kM_is3 (l : Launch) {D : va_G} {q : Nat → Nat} {k : Nat → ClassId} {tg : Nat → Int32} {ad : Nat → Int32} {mt : Nat → Int32} {rb : Nat → Int64} {rt : Nat → Int64} {rp : Nat → Int32} {nr : Int32} {th : Int32} {pk : Int32} {ex : Int32} {ro : Int64} {A : Nat → Prop} (a0 : Nat) (d r y : Int32) : Met l yM_is wM_is { frames := 0, cells := 0, slots := 0, locals := 0 } (va_Pc [.ref (q 0), .ref a0] (fun U => va_P D zCl (mW q k tg ad mt rb rt rp nr th pk ex ro ++ [(a0, .inl (k 1, 3, .inl (upd (upd (upd (fun _ => 0) 0 d) 1 r) 2 y)))]) U.heap ∧ va_K D zCl (zT k) U ∧ va_D A (mW q k tg ad mt rb rt rp nr th pk ex ro ++ [(a0, .inl (k 1, 3, .inl (upd (upd (upd (fun _ => 0) 0 d) 1 r) 2 y)))]))) (va_Qi (fun v9 (_ : Unit) => v9 = zRb (zx3 d r y)) (fun _ t => va_P D zCl (mW q k tg ad mt rb rt rp nr (zx3 d r y) pk ex ro) t.heap ∧ va_K D zCl (zT k) t ∧ va_D A (mW q k tg ad mt rb rt rp nr (zx3 d r y) pk ex ro)) A) 0 0 A := by
  rw [← zIs_3 d r y]
  exact kM_is l a0 3 (upd (upd (upd (fun _ => 0) 0 d) 1 r) 2 y) (by decide)
set_option maxHeartbeats 4000000 in
set_option maxRecDepth 100000 in
theorem kM_fail (l : Launch) {D : va_G} {q : Nat → Nat} {k : Nat → ClassId} {tg : Nat → Int32} {ad : Nat → Int32} {mt : Nat → Int32} {rb : Nat → Int64} {rt : Nat → Int64} {rp : Nat → Int32} {nr : Int32} {th : Int32} {pk : Int32} {ex : Int32} {ro : Int64} {A : Nat → Prop} (y : Int32) : Met l yM_fail wM_fail { frames := 0, cells := 0, slots := 0, locals := 0 } (va_Pc [.ref (q 0), .int y] (fun U => va_P D zCl (mW q k tg ad mt rb rt rp nr th pk ex ro) U.heap ∧ va_K D zCl (zT k) U ∧ va_D A (mW q k tg ad mt rb rt rp nr th pk ex ro))) (va_Qi (fun v9 (_ : Unit) => v9 = 0) (fun _ t => va_P D zCl (mW q k tg ad mt rb rt rp nr y pk ex ro) t.heap ∧ va_K D zCl (zT k) t ∧ va_D A (mW q k tg ad mt rb rt rp nr y pk ex ro)) A) 0 0 A := by
  refine Met.ofW (cc := cM_fail) (maxL := 2) (ret := (some .int)) (by decide) rfl ?_
  intro p e s m args below meth c s₁ B hml hv
  obtain ⟨rfl, hP, hK, hD⟩ := hv
  have hx := B.exec
  have hb := B.bytes
  have hr := B.returns
  have hts := atoms_spec (ws := wM_fail) B.pre
  have hq : ∀ w ∈ wA, w.before _ s = true := fun w h => hts w (List.mem_cons_of_mem _ h)
  have hown : s.vm.findClass "CapUnitModel" = some m.cls := findClass_of_methodNamed B.named
  have hlocks := B.notSynchronized
  have hS : va_S A s.heap s.heap [] := va_S.rf
  have hl := lv_entry ([.ref (q 0), .int y]) (n := 2) (Nat.le_of_ble_eq_true rfl)
  rw [lg_entry_eq]
  generalize (lg_sl ([.ref (q 0), .int y]) ++ List.replicate (2 - (lg_sl ([.ref (q 0), .int y])).length) Slot.unset).toArray = ls at hl ⊢
  have hl : lv_has ls 2 [(0, .ref (q 0)), (1, .int y)] := hl
  refine lv_aload_n hx hb dM_fail_0 rfl (lv_at hl 0 rfl) ?_
  refine lv_iload_n hx hb dM_fail_1 rfl (lv_at hl 1 rfl) ?_
  refine va_put (D := D) (ci := 1) (v := .int y) (ty := .int) (C := "CapUnitModel") (T := TM) (N := 11) hx hb hq uM_in tyM tyM_ok nmM hown hK hP hD hS 0 rfl rfl 7 (by decide) (hq _ q_377) (fun _ h9 => h9) rfl (by decide +kernel) rfl rfl (Nat.le_of_ble_eq_true rfl) dM_fail_2 (fun H locs hP hD hS => ?_)
  have hP : va_P D zCl (mW q k tg ad mt rb rt rp nr y pk ex ro) H := hP
  have hD : va_D A (mW q k tg ad mt rb rt rp nr y pk ex ro) := hD
  refine lv_iconst (v := 0) hx hb dM_fail_5 (by decide) ?_
  exact W.iret (v := (0 : Int32)) hx hb hr (fun t9 ht hW => ⟨⟨_, (), rfl, rfl, by rw [ht]; exact hP, va_K.moved hW.alike hK, hD⟩, hS.F ht⟩) hS.2.2 dM_fail_6
def fM_thrown (th : Int32)  : Int32 := th
set_option maxHeartbeats 4000000 in
set_option maxRecDepth 100000 in
theorem kM_thrown (l : Launch) {D : va_G} {q : Nat → Nat} {k : Nat → ClassId} {tg : Nat → Int32} {ad : Nat → Int32} {mt : Nat → Int32} {rb : Nat → Int64} {rt : Nat → Int64} {rp : Nat → Int32} {nr : Int32} {th : Int32} {pk : Int32} {ex : Int32} {ro : Int64} {H : Heap} (hP : va_P D zCl (mW q k tg ad mt rb rt rp nr th pk ex ro) H)   : Met l yM_thrown wM_thrown { frames := 0, cells := 0, slots := 0, locals := 0 } (va_Pc [.ref (q 0)] (fun U => U.heap = H ∧ va_K D zCl (zT k) U)) (va_Qi (fun v9 (_ : Unit) => v9 = fM_thrown th ) (fun _ t => t.heap = H) (fun _ => False)) 0 0 (fun _ => False) := by
  refine Met.ofW (cc := cM_thrown) (maxL := 1) (ret := (some .int)) (by decide) rfl ?_
  intro p e s m args below meth c s₁ B hml hv
  obtain ⟨rfl, hH, hK⟩ := hv
  subst hH
  have hx := B.exec
  have hb := B.bytes
  have hr := B.returns
  have hts := atoms_spec (ws := wM_thrown) B.pre
  have hq : ∀ w ∈ wA, w.before _ s = true := fun w h => hts w (List.mem_cons_of_mem _ h)
  have hown : s.vm.findClass "CapUnitModel" = some m.cls := findClass_of_methodNamed B.named
  have hlocks := B.notSynchronized
  have hS : va_S (fun _ => False) s.heap s.heap [] := va_S.rf
  have hl := lv_entry ([.ref (q 0)]) (n := 1) (Nat.le_of_ble_eq_true rfl)
  rw [lg_entry_eq]
  generalize (lg_sl ([.ref (q 0)]) ++ List.replicate (1 - (lg_sl ([.ref (q 0)])).length) Slot.unset).toArray = ls at hl ⊢
  have hl : lv_has ls 1 [(0, .ref (q 0))] := hl
  refine lv_aload_n hx hb dM_thrown_0 rfl (lv_at hl 0 rfl) ?_
  refine va_get (D := D) (ci := 1) (v := .int th) (C := "CapUnitModel") (T := TM) (N := 11) hx hb hq uM_in hown hK hP 0 rfl rfl 7 (by decide) (hq _ q_377) (fun _ h9 => h9) rfl dM_thrown_1 ?_
  exact W.iret (v := th) hx hb hr (fun t9 ht hW => ⟨⟨_, (), rfl, (by unfold fM_thrown; rfl), ht⟩, hS.F ht⟩) hS.2.2 dM_thrown_4
