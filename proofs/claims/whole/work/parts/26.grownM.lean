/-! The reference's grown. -/
/-- one root more: is it fine by now? -/
def zWi (tg ad mt : Nat → Int32) (rb rt : Nat → Int64) (rp : Nat → Int32) (r : Int32) (u : Nat) (x : Int32) : Int32 := if ¬ x = 0 then 1 else fC_isWithin tg ad mt r (rb u) (rt u) (rp u)
def zY (tg ad mt : Nat → Int32) (rb rt : Nat → Int64) (rp : Nat → Int32) (N i : Nat) : Int32 := if tg i = 0 then 1 else zF tg ad mt rb rt rp (zI (i : Nat)) N 0
theorem zG_s (tg ad mt : Nat → Int32) (rb rt : Nat → Int64) (rp : Nat → Int32) (N j i : Nat) (x : Int32) : zG tg ad mt rb rt rp N (j + 1) i x = zG tg ad mt rb rt rp N j (i + 1) (if zY tg ad mt rb rt rp N i = 0 then x + 1 else x) := by
  rw [zG]
  unfold zY
  by_cases h : tg i = 0
  · rw [if_pos h, if_pos h, if_neg (show ¬ (1 : Int32) = 0 by decide)]
  · rw [if_neg h, if_neg h]
    by_cases h2 : zF tg ad mt rb rt rp (zI (i : Nat)) N 0 = 0
    · rw [if_pos h2, if_pos h2]
    · rw [if_neg h2, if_neg h2]
set_option maxHeartbeats 4000000 in
set_option maxRecDepth 100000 in
theorem kM_grown (l : Launch) {D : va_G} {q : Nat → Nat} {k : Nat → ClassId} {tg : Nat → Int32} {ad : Nat → Int32} {mt : Nat → Int32} {rb : Nat → Int64} {rt : Nat → Int64} {rp : Nat → Int32} {nr : Int32} {th : Int32} {pk : Int32} {ex : Int32} {ro : Int64} {A : Nat → Prop} {N : Nat} (hN : nr = zI (N : Nat)) (hN8 : N ≤ 8) : Met l yM_grown wM_grown { frames := 4, cells := 0, slots := 0, locals := 99 } (va_Pc [.ref (q 0)] (fun U => va_P D zCl (mW q k tg ad mt rb rt rp nr th pk ex ro) U.heap ∧ va_K D zCl (zT k) U ∧ va_D A (mW q k tg ad mt rb rt rp nr th pk ex ro))) (va_Qi (fun v9 (_ : Unit) => v9 = zG tg ad mt rb rt rp N 32 0 0) (fun _ t => va_P D zCl (mW q k tg ad mt rb rt rp nr 0 pk ex ro) t.heap ∧ va_K D zCl (zT k) t ∧ va_D A (mW q k tg ad mt rb rt rp nr 0 pk ex ro)) A) 0 0 A := by
  refine Met.ofW (cc := cM_grown) (maxL := 5) (ret := (some .int)) (by decide) rfl ?_
  intro p e s m args below meth c s₁ B hml hv
  obtain ⟨rfl, hP, hK, hD⟩ := hv
  have hx := B.exec
  have hb := B.bytes
  have hr := B.returns
  have hts := atoms_spec (ws := wM_grown) B.pre
  have hq : ∀ w ∈ wA, w.before _ s = true := fun w h => hts w (List.mem_cons_of_mem _ h)
  have hown : s.vm.findClass "CapUnitModel" = some m.cls := findClass_of_methodNamed B.named
  have hlocks := B.notSynchronized
  have hS : va_S A s.heap s.heap [] := va_S.rf
  have hl := lv_entry ([.ref (q 0)]) (n := 5) (Nat.le_of_ble_eq_true rfl)
  rw [lg_entry_eq]
  generalize (lg_sl ([.ref (q 0)]) ++ List.replicate (5 - (lg_sl ([.ref (q 0)])).length) Slot.unset).toArray = ls at hl ⊢
  have hl : lv_has ls 5 [(0, .ref (q 0))] := hl
  refine lv_aload_n hx hb dM_grown_0 rfl (lv_at hl 0 rfl) ?_
  refine lv_iconst (v := 0) hx hb dM_grown_1 (by decide) ?_
  refine va_put (D := D) (ci := 1) (v := .int 0) (ty := .int) (C := "CapUnitModel") (T := TM) (N := 11) hx hb hq uM_in tyM tyM_ok nmM hown hK hP hD hS 0 rfl rfl 7 (by decide) (hq _ q_377) (fun _ h9 => h9) rfl (by decide +kernel) rfl rfl (Nat.le_of_ble_eq_true rfl) dM_grown_2 (fun H locs hP hD hS => ?_)
  have hP : va_P D zCl (mW q k tg ad mt rb rt rp nr 0 pk ex ro) H := hP
  have hD : va_D A (mW q k tg ad mt rb rt rp nr 0 pk ex ro) := hD
  have key : ∀ (j i : Nat) (n0 : Int32), i + j = 32 → zG tg ad mt rb rt rp N 32 0 0 = zG tg ad mt rb rt rp N j i n0 → ∀ (ls : Array Slot) (locs : List Loc), lv_has ls 5 [(2, .int (zI (i : Nat))), (1, .int n0), (0, .ref (q 0))] → va_S A s.heap H locs → W p l e (headSpec wM_grown { frames := 4, cells := 0, slots := 0, locals := 99 }).room s m [Value.ref (q 0)].toArray below meth c H locs 0 0 (MQ below (va_Qi (fun v9 (_ : Unit) => v9 = zG tg ad mt rb rt rp N 32 0 0) (fun _ t => va_P D zCl (mW q k tg ad mt rb rt rp nr 0 pk ex ro) t.heap ∧ va_K D zCl (zT k) t ∧ va_D A (mW q k tg ad mt rb rt rp nr 0 pk ex ro)) A) [Value.ref (q 0)].toArray s 0 0 A) (F0 m 9 ls []) := by
    intro j
    induction j with
    | zero =>
      intro i n0 hi hz ls locs hl hS
      refine lv_iload_n hx hb dM_grown_9 rfl (lv_at hl 0 rfl) ?_
      refine lv_bipush (v := 32) hx hb dM_grown_10 (by decide) ?_
      refine lv_icmp_ge (tgt := 145) hx hb dM_grown_12 rfl (fun h1 => ?_) (fun h1 => absurd (show (32 : Int32) ≤ zI (i : Nat) by rw [(show (32 : Int32) = zI 32 by decide), zI_le (by omega) (by omega) (by omega) (by omega)]; omega) h1)
      refine lv_iload_n hx hb dM_grown_145 rfl (lv_at hl 1 rfl) ?_
      exact W.iret (v := n0) hx hb hr (fun t9 ht hW => ⟨⟨_, (), rfl, (by rw [hz]; rfl), by rw [ht]; exact hP, va_K.moved hW.alike hK, hD⟩, hS.F ht⟩) hS.2.2 dM_grown_146
    | succ j ih =>
      intro i n0 hi hz ls locs hl hS
      have hi32 : vp_in (zI (i : Nat)) 32 := zI_in (by omega) (by omega)
      refine lv_iload_n hx hb dM_grown_9 rfl (lv_at hl 0 rfl) ?_
      refine lv_bipush (v := 32) hx hb dM_grown_10 (by decide) ?_
      refine lv_icmp_ge (tgt := 145) hx hb dM_grown_12 rfl (fun h1 => ?_) (fun h1 => ?_)
      · rw [(show (32 : Int32) = zI 32 by decide), zI_le (by omega) (by omega) (by omega) (by omega)] at h1
        omega
      have hz := hz.trans (zG_s tg ad mt rb rt rp N j i n0)
      have done : ∀ (ls : Array Slot) (locs : List Loc), lv_has ls 5 [(3, .int (zY tg ad mt rb rt rp N i)), (2, .int (zI (i : Nat))), (1, .int n0), (0, .ref (q 0))] → va_S A s.heap H locs → W p l e (headSpec wM_grown { frames := 4, cells := 0, slots := 0, locals := 99 }).room s m [Value.ref (q 0)].toArray below meth c H locs 0 0 (MQ below (va_Qi (fun v9 (_ : Unit) => v9 = zG tg ad mt rb rt rp N 32 0 0) (fun _ t => va_P D zCl (mW q k tg ad mt rb rt rp nr 0 pk ex ro) t.heap ∧ va_K D zCl (zT k) t ∧ va_D A (mW q k tg ad mt rb rt rp nr 0 pk ex ro)) A) [Value.ref (q 0)].toArray s 0 0 A) (F0 m 132 ls []) := by
        intro ls locs hl hS
        refine lv_iload_n hx hb dM_grown_132 rfl (lv_at hl 0 rfl) ?_
        refine lv_if_ne (tgt := 139) hx hb dM_grown_133 rfl (fun h2 => ?_) (fun h2 => ?_)
        · rw [if_neg h2] at hz
          refine lv_iinc (k := 1) (v := zI ((i + 1 : Nat) : Int)) (lv' := [(2, .int (zI ((i + 1 : Nat) : Int))), (3, .int (zY tg ad mt rb rt rp N i)), (1, .int n0), (0, .ref (q 0))]) hx hb dM_grown_139 hl rfl (by show zI _ + zI 1 = _; rw [zI_add]; rfl) (by decide) rfl (fun ls hl => ?_)
          refine lv_goto (tgt := 9) hx hb dM_grown_142 rfl ?_
          exact ih (i + 1) n0 (by omega) hz ls locs (lv_sub hl [0, 2, 3] rfl) hS
        · rw [if_pos h2] at hz
          refine lv_iinc (k := 2) (v := n0 + 1) (lv' := [(1, .int (n0 + 1)), (3, .int (zY tg ad mt rb rt rp N i)), (2, .int (zI (i : Nat))), (0, .ref (q 0))]) hx hb dM_grown_136 hl rfl rfl (by decide) rfl (fun ls hl => ?_)
          refine lv_iinc (k := 2) (v := zI ((i + 1 : Nat) : Int)) (lv' := [(2, .int (zI ((i + 1 : Nat) : Int))), (1, .int (n0 + 1)), (3, .int (zY tg ad mt rb rt rp N i)), (0, .ref (q 0))]) hx hb dM_grown_139 hl rfl (by show zI _ + zI 1 = _; rw [zI_add]; rfl) (by decide) rfl (fun ls hl => ?_)
          refine lv_goto (tgt := 9) hx hb dM_grown_142 rfl ?_
          exact ih (i + 1) (n0 + 1) (by omega) hz ls locs (lv_sub hl [0, 1, 3] rfl) hS
      have inner : ∀ (v u : Nat) (x9 : Int32), u + v = N → ((x9 = 0 ∧ zY tg ad mt rb rt rp N i = zF tg ad mt rb rt rp (zI (i : Nat)) v u) ∨ (x9 = 1 ∧ zY tg ad mt rb rt rp N i = 1)) → ∀ (ls : Array Slot) (locs : List Loc), lv_has ls 5 [(4, .int (zI (u : Nat))), (3, .int x9), (2, .int (zI (i : Nat))), (1, .int n0), (0, .ref (q 0))] → va_S A s.heap H locs → W p l e (headSpec wM_grown { frames := 4, cells := 0, slots := 0, locals := 99 }).room s m [Value.ref (q 0)].toArray below meth c H locs 0 0 (MQ below (va_Qi (fun v9 (_ : Unit) => v9 = zG tg ad mt rb rt rp N 32 0 0) (fun _ t => va_P D zCl (mW q k tg ad mt rb rt rp nr 0 pk ex ro) t.heap ∧ va_K D zCl (zT k) t ∧ va_D A (mW q k tg ad mt rb rt rp nr 0 pk ex ro)) A) [Value.ref (q 0)].toArray s 0 0 A) (F0 m 33 ls []) := by
        intro v
        induction v with
        | zero =>
          intro u x9 hu hx9 ls locs hl hS
          refine lv_iload hx hb dM_grown_33 (lv_at hl 0 rfl) ?_
          refine lv_aload_n hx hb dM_grown_35 rfl (lv_at hl 4 rfl) ?_
          refine va_get (D := D) (ci := 1) (v := .int nr) (C := "CapUnitModel") (T := TM) (N := 11) hx hb hq uM_in hown hK hP 0 rfl rfl 6 (by decide) (hq _ q_376) (fun _ h9 => h9) rfl dM_grown_36 ?_
          refine lv_icmp_ge (tgt := 132) hx hb dM_grown_39 rfl (fun h1 => ?_) (fun h1 => absurd (show nr ≤ zI (u : Nat) by rw [hN, zI_le (by omega) (by omega) (by omega) (by omega)]; omega) h1)
          have e9 : x9 = zY tg ad mt rb rt rp N i := by
            rcases hx9 with ⟨h2, h3⟩ | ⟨h2, h3⟩
            · rw [h2, h3]
              rfl
            · rw [h2, h3]
          rw [e9] at hl
          exact done ls locs (lv_sub hl [1, 2, 3, 4] rfl) hS
        | succ v ihv =>
          intro u x9 hu hx9 ls locs hl hS
          have hu8 : vp_in (zI (u : Nat)) 8 := zI_in (by omega) (by omega)
          refine lv_iload hx hb dM_grown_33 (lv_at hl 0 rfl) ?_
          refine lv_aload_n hx hb dM_grown_35 rfl (lv_at hl 4 rfl) ?_
          refine va_get (D := D) (ci := 1) (v := .int nr) (C := "CapUnitModel") (T := TM) (N := 11) hx hb hq uM_in hown hK hP 0 rfl rfl 6 (by decide) (hq _ q_376) (fun _ h9 => h9) rfl dM_grown_36 ?_
          refine lv_icmp_ge (tgt := 132) hx hb dM_grown_39 rfl (fun h1 => ?_) (fun h1 => ?_)
          · rw [hN, zI_le (by omega) (by omega) (by omega) (by omega)] at h1
            omega
          refine lv_iload_n hx hb dM_grown_42 rfl (lv_at hl 1 rfl) ?_
          have J9 : ∀ (locs : List Loc) (y9 : Int32), y9 = zWi tg ad mt rb rt rp (zI (i : Nat)) u x9 → va_S A s.heap H locs → W p l e (headSpec wM_grown { frames := 4, cells := 0, slots := 0, locals := 99 }).room s m [Value.ref (q 0)].toArray below meth c H locs 0 0 (MQ below (va_Qi (fun v9 (_ : Unit) => v9 = zG tg ad mt rb rt rp N 32 0 0) (fun _ t => va_P D zCl (mW q k tg ad mt rb rt rp nr 0 pk ex ro) t.heap ∧ va_K D zCl (zT k) t ∧ va_D A (mW q k tg ad mt rb rt rp nr 0 pk ex ro)) A) [Value.ref (q 0)].toArray s 0 0 A) (F0 m 125 ls [.int y9]) := by
            intro locs y9 ey hS
            rw [ey]
            refine lv_istore_n (lv' := [(3, .int (zWi tg ad mt rb rt rp (zI (i : Nat)) u x9)), (4, .int (zI (u : Nat))), (2, .int (zI (i : Nat))), (1, .int n0), (0, .ref (q 0))]) hx hb dM_grown_125 rfl hl (by decide) rfl (fun ls hl => ?_)
            refine lv_iinc (k := 1) (v := zI ((u + 1 : Nat) : Int)) (lv' := [(4, .int (zI ((u + 1 : Nat) : Int))), (3, .int (zWi tg ad mt rb rt rp (zI (i : Nat)) u x9)), (2, .int (zI (i : Nat))), (1, .int n0), (0, .ref (q 0))]) hx hb dM_grown_126 hl rfl (by show zI _ + zI 1 = _; rw [zI_add]; rfl) (by decide) rfl (fun ls hl => ?_)
            refine lv_goto (tgt := 33) hx hb dM_grown_129 rfl ?_
            refine ihv (u + 1) (zWi tg ad mt rb rt rp (zI (i : Nat)) u x9) (by omega) ?_ ls locs hl hS
            unfold zWi
            rcases hx9 with ⟨h2, h3⟩ | ⟨h2, h3⟩
            · rw [if_neg (show ¬ ¬ x9 = 0 from fun h => h h2)]
              rw [zF] at h3
              rcases bC_isWithin tg ad mt (zI (i : Nat)) (rb u) (rt u) (rp u) with h4 | h4
              · rw [if_pos h4] at h3
                exact Or.inl ⟨h4, h3⟩
              · rw [if_neg (by rw [h4]; decide)] at h3
                exact Or.inr ⟨h4, h3⟩
            · rw [if_pos (by rw [h2]; decide)]
              exact Or.inr ⟨rfl, h3⟩
          refine lv_if_ne (tgt := 120) hx hb dM_grown_43 rfl (fun hx0 => ?_) (fun hx0 => ?_)
          · refine lv_iconst (v := 1) hx hb dM_grown_120 (by decide) ?_
            refine lv_goto (tgt := 125) hx hb dM_grown_121 rfl ?_
            exact J9 _ _ (by unfold zWi; rw [if_pos hx0]) hS
          · refine lv_aload_n hx hb dM_grown_46 rfl (lv_at hl 4 rfl) ?_
            refine va_get (D := D) (ci := 1) (v := .ref (q 3)) (C := "CapUnitModel") (T := TM) (N := 11) hx hb hq uM_in hown hK hP 0 rfl rfl 2 (by decide) (hq _ q_372) (fun _ h9 => h9) rfl dM_grown_47 ?_
            refine lv_iload_n hx hb dM_grown_50 rfl (lv_at hl 2 rfl) ?_
            refine va_iald hx hb hK hP 3 1 rfl rfl (i := (zI (i : Nat))) hi32 dM_grown_51 ?_
            refine zt_i (show _ = mt i by rw [zI_cl (by omega)]) ?_
            refine lv_aload_n hx hb dM_grown_52 rfl (lv_at hl 4 rfl) ?_
            refine va_get (D := D) (ci := 1) (v := .ref (q 2)) (C := "CapUnitModel") (T := TM) (N := 11) hx hb hq uM_in hown hK hP 0 rfl rfl 1 (by decide) (hq _ q_371) (fun _ h9 => h9) rfl dM_grown_53 ?_
            refine lv_iload_n hx hb dM_grown_56 rfl (lv_at hl 2 rfl) ?_
            refine va_iald hx hb hK hP 2 1 rfl rfl (i := (zI (i : Nat))) hi32 dM_grown_57 ?_
            refine zt_i (show _ = ad i by rw [zI_cl (by omega)]) ?_
            refine zc_l (va_runS (As := [.int (mt i), .int (ad i)]) (rest := []) ⟨hx, hb, hml, hown, hq⟩ (kM_base l H (mt i) (ad i)) (va_cwS 2 hq (wA_S q_433 q_434 q_2 q_435) rfl rfl rfl (by decide +kernel) ⟨Nat.le_of_ble_eq_true rfl, Nat.le_of_ble_eq_true rfl⟩) ⟨fun a U g mk q => q, fun U hU hW => ⟨rfl, hU⟩⟩ rfl rfl hl.1 rfl (lv_room (Nat.le_of_ble_eq_true rfl)) dM_grown_58 ⟨Nat.zero_le _, Nat.zero_le _⟩) hS (fun locs hS => ?_)
            refine lv_aload_n hx hb dM_grown_61 rfl (lv_at hl 4 rfl) ?_
            refine va_get (D := D) (ci := 1) (v := .ref (q 4)) (C := "CapUnitModel") (T := TM) (N := 11) hx hb hq uM_in hown hK hP 0 rfl rfl 3 (by decide) (hq _ q_373) (fun _ h9 => h9) rfl dM_grown_62 ?_
            refine lv_iload hx hb dM_grown_65 (lv_at hl 0 rfl) ?_
            refine va_lald hx hb hK hP 4 2 rfl rfl (i := (zI (u : Nat))) hu8 dM_grown_67 ?_
            refine zt_l (show _ = rb u by rw [zI_cl (by omega)]) ?_
            refine W.lcmp hx hb dM_grown_68 ?_
            refine lv_if_lt (tgt := 124) hx hb dM_grown_69 rfl (fun h1 => ?_) (fun h1 => ?_)
            · have h1 := (lg_cmp_lt _ _).mp h1
              refine lv_iconst (v := 0) hx hb dM_grown_124 (by decide) ?_
              exact J9 _ _ (by unfold zWi fC_isWithin; rw [if_neg (show ¬ ¬ x9 = 0 from fun h => h hx0)]; unfold fC_baseIn fC_topIn; rw [zI_cl (show i < 2147483648 by omega), ← e_base, ← e_top, show ∀ z, fC_permsOf z = fM_perms z from fun _ => rfl]; rw [if_pos h1]) hS
            · have h1 := Not.imp h1 (lg_cmp_lt _ _).mpr
              refine lv_aload_n hx hb dM_grown_72 rfl (lv_at hl 4 rfl) ?_
              refine va_get (D := D) (ci := 1) (v := .ref (q 3)) (C := "CapUnitModel") (T := TM) (N := 11) hx hb hq uM_in hown hK hP 0 rfl rfl 2 (by decide) (hq _ q_372) (fun _ h9 => h9) rfl dM_grown_73 ?_
              refine lv_iload_n hx hb dM_grown_76 rfl (lv_at hl 2 rfl) ?_
              refine va_iald hx hb hK hP 3 1 rfl rfl (i := (zI (i : Nat))) hi32 dM_grown_77 ?_
              refine zt_i (show _ = mt i by rw [zI_cl (by omega)]) ?_
              refine lv_aload_n hx hb dM_grown_78 rfl (lv_at hl 4 rfl) ?_
              refine va_get (D := D) (ci := 1) (v := .ref (q 2)) (C := "CapUnitModel") (T := TM) (N := 11) hx hb hq uM_in hown hK hP 0 rfl rfl 1 (by decide) (hq _ q_371) (fun _ h9 => h9) rfl dM_grown_79 ?_
              refine lv_iload_n hx hb dM_grown_82 rfl (lv_at hl 2 rfl) ?_
              refine va_iald hx hb hK hP 2 1 rfl rfl (i := (zI (i : Nat))) hi32 dM_grown_83 ?_
              refine zt_i (show _ = ad i by rw [zI_cl (by omega)]) ?_
              refine zc_l (va_runS (As := [.int (mt i), .int (ad i)]) (rest := []) ⟨hx, hb, hml, hown, hq⟩ (kM_top l H (mt i) (ad i)) (va_cwS 2 hq (wA_S q_451 q_452 q_2 q_453) rfl rfl rfl (by decide +kernel) ⟨Nat.le_of_ble_eq_true rfl, Nat.le_of_ble_eq_true rfl⟩) ⟨fun a U g mk q => q, fun U hU hW => ⟨rfl, hU⟩⟩ rfl rfl hl.1 rfl (lv_room (Nat.le_of_ble_eq_true rfl)) dM_grown_84 ⟨Nat.zero_le _, Nat.zero_le _⟩) hS (fun locs hS => ?_)
              refine lv_aload_n hx hb dM_grown_87 rfl (lv_at hl 4 rfl) ?_
              refine va_get (D := D) (ci := 1) (v := .ref (q 5)) (C := "CapUnitModel") (T := TM) (N := 11) hx hb hq uM_in hown hK hP 0 rfl rfl 4 (by decide) (hq _ q_374) (fun _ h9 => h9) rfl dM_grown_88 ?_
              refine lv_iload hx hb dM_grown_91 (lv_at hl 0 rfl) ?_
              refine va_lald hx hb hK hP 5 2 rfl rfl (i := (zI (u : Nat))) hu8 dM_grown_93 ?_
              refine zt_l (show _ = rt u by rw [zI_cl (by omega)]) ?_
              refine W.lcmp hx hb dM_grown_94 ?_
              refine lv_if_gt (tgt := 124) hx hb dM_grown_95 rfl (fun h2 => ?_) (fun h2 => ?_)
              · have h2 := (lg_cmp_gt _ _).mp h2
                refine lv_iconst (v := 0) hx hb dM_grown_124 (by decide) ?_
                exact J9 _ _ (by unfold zWi fC_isWithin; rw [if_neg (show ¬ ¬ x9 = 0 from fun h => h hx0)]; unfold fC_baseIn fC_topIn; rw [zI_cl (show i < 2147483648 by omega), ← e_base, ← e_top, show ∀ z, fC_permsOf z = fM_perms z from fun _ => rfl]; rw [if_neg h1, if_pos h2]) hS
              · have h2 := Not.imp h2 (lg_cmp_gt _ _).mpr
                refine lv_aload_n hx hb dM_grown_98 rfl (lv_at hl 4 rfl) ?_
                refine va_get (D := D) (ci := 1) (v := .ref (q 3)) (C := "CapUnitModel") (T := TM) (N := 11) hx hb hq uM_in hown hK hP 0 rfl rfl 2 (by decide) (hq _ q_372) (fun _ h9 => h9) rfl dM_grown_99 ?_
                refine lv_iload_n hx hb dM_grown_102 rfl (lv_at hl 2 rfl) ?_
                refine va_iald hx hb hK hP 3 1 rfl rfl (i := (zI (i : Nat))) hi32 dM_grown_103 ?_
                refine zt_i (show _ = mt i by rw [zI_cl (by omega)]) ?_
                refine zc_i (va_runS (As := [.int (mt i)]) (rest := []) ⟨hx, hb, hml, hown, hq⟩ (kM_perms l H (mt i)) (va_cwS 1 hq (wA_S q_485 q_486 q_2 q_487) rfl rfl rfl (by decide +kernel) ⟨Nat.le_of_ble_eq_true rfl, Nat.le_of_ble_eq_true rfl⟩) ⟨fun a U g mk q => q, fun U hU hW => ⟨rfl, hU⟩⟩ rfl rfl hl.1 rfl (lv_room (Nat.le_of_ble_eq_true rfl)) dM_grown_104 ⟨Nat.zero_le _, Nat.zero_le _⟩) hS (fun locs hS => ?_)
                refine lv_aload_n hx hb dM_grown_107 rfl (lv_at hl 4 rfl) ?_
                refine va_get (D := D) (ci := 1) (v := .ref (q 6)) (C := "CapUnitModel") (T := TM) (N := 11) hx hb hq uM_in hown hK hP 0 rfl rfl 5 (by decide) (hq _ q_375) (fun _ h9 => h9) rfl dM_grown_108 ?_
                refine lv_iload hx hb dM_grown_111 (lv_at hl 0 rfl) ?_
                refine va_iald hx hb hK hP 6 1 rfl rfl (i := (zI (u : Nat))) hu8 dM_grown_113 ?_
                refine zt_i (show _ = rp u by rw [zI_cl (by omega)]) ?_
                refine lv_iconst (v := -1) hx hb dM_grown_114 (by decide) ?_
                refine lv_ixor hx hb dM_grown_115 ?_
                refine lv_iand hx hb dM_grown_116 ?_
                refine lv_if_ne (tgt := 124) hx hb dM_grown_117 rfl (fun h3 => ?_) (fun h3 => ?_)
                · refine lv_iconst (v := 0) hx hb dM_grown_124 (by decide) ?_
                  exact J9 _ _ (by unfold zWi fC_isWithin; rw [if_neg (show ¬ ¬ x9 = 0 from fun h => h hx0)]; unfold fC_baseIn fC_topIn; rw [zI_cl (show i < 2147483648 by omega), ← e_base, ← e_top, show ∀ z, fC_permsOf z = fM_perms z from fun _ => rfl]; rw [if_neg h1, if_neg h2, if_neg h3]) hS
                · refine lv_iconst (v := 1) hx hb dM_grown_120 (by decide) ?_
                  refine lv_goto (tgt := 125) hx hb dM_grown_121 rfl ?_
                  exact J9 _ _ (by unfold zWi fC_isWithin; rw [if_neg (show ¬ ¬ x9 = 0 from fun h => h hx0)]; unfold fC_baseIn fC_topIn; rw [zI_cl (show i < 2147483648 by omega), ← e_base, ← e_top, show ∀ z, fC_permsOf z = fM_perms z from fun _ => rfl]; rw [if_neg h1, if_neg h2, if_pos h3]) hS
      refine lv_aload_n hx hb dM_grown_15 rfl (lv_at hl 2 rfl) ?_
      refine va_get (D := D) (ci := 1) (v := .ref (q 1)) (C := "CapUnitModel") (T := TM) (N := 11) hx hb hq uM_in hown hK hP 0 rfl rfl 0 (by decide) (hq _ q_370) (fun _ h9 => h9) rfl dM_grown_16 ?_
      refine lv_iload_n hx hb dM_grown_19 rfl (lv_at hl 0 rfl) ?_
      refine va_zald hx hb hK hP 1 0 rfl rfl (i := (zI (i : Nat))) hi32 dM_grown_20 ?_
      refine zt_i (show _ = tg i by rw [zI_cl (by omega)]) ?_
      refine lv_if_ne (tgt := 28) hx hb dM_grown_21 rfl (fun h2 => ?_) (fun h2 => ?_)
      · refine lv_iconst (v := 0) hx hb dM_grown_28 (by decide) ?_
        refine lv_istore_n (lv' := [(3, .int 0), (2, .int (zI (i : Nat))), (1, .int n0), (0, .ref (q 0))]) hx hb dM_grown_29 rfl hl (by decide) rfl (fun ls hl => ?_)
        refine lv_iconst (v := 0) hx hb dM_grown_30 (by decide) ?_
        refine lv_istore (lv' := [(4, .int (zI ((0 : Nat) : Int))), (3, .int 0), (2, .int (zI (i : Nat))), (1, .int n0), (0, .ref (q 0))]) hx hb dM_grown_31 hl (by decide) rfl (fun ls hl => ?_)
        exact inner N 0 0 (by omega) (Or.inl ⟨rfl, by unfold zY; rw [if_neg h2]⟩) ls locs hl hS
      · refine lv_iconst (v := 1) hx hb dM_grown_24 (by decide) ?_
        refine lv_goto (tgt := 29) hx hb dM_grown_25 rfl ?_
        refine lv_istore_n (lv' := [(3, .int 1), (2, .int (zI (i : Nat))), (1, .int n0), (0, .ref (q 0))]) hx hb dM_grown_29 rfl hl (by decide) rfl (fun ls hl => ?_)
        refine lv_iconst (v := 0) hx hb dM_grown_30 (by decide) ?_
        refine lv_istore (lv' := [(4, .int (zI ((0 : Nat) : Int))), (3, .int 1), (2, .int (zI (i : Nat))), (1, .int n0), (0, .ref (q 0))]) hx hb dM_grown_31 hl (by decide) rfl (fun ls hl => ?_)
        exact inner N 0 1 (by omega) (Or.inr ⟨rfl, by unfold zY; rw [if_pos h2]⟩) ls locs hl hS
  refine lv_iconst (v := 0) hx hb dM_grown_5 (by decide) ?_
  refine lv_istore_n (lv' := [(1, .int 0), (0, .ref (q 0))]) hx hb dM_grown_6 rfl hl (by decide) rfl (fun ls hl => ?_)
  refine lv_iconst (v := 0) hx hb dM_grown_7 (by decide) ?_
  refine lv_istore_n (lv' := [(2, .int (zI ((0 : Nat) : Int))), (1, .int 0), (0, .ref (q 0))]) hx hb dM_grown_8 rfl hl (by decide) rfl (fun ls hl => ?_)
  exact key 32 0 0 (by omega) rfl ls locs hl hS
