/-! The reference's pack: the fields packed, exact, rounded. -/
def zEx (b t : Int) : Int32 := if kFr b t = b ∧ kTo b t = t then 1 else 0
theorem zEx_b (b t : Int) : zEx b t = 0 ∨ zEx b t = 1 := by
  unfold zEx
  split
  · exact Or.inr rfl
  · exact Or.inl rfl
theorem zL_div {a d : Int} (a0 : 0 ≤ a) (a1 : a < 9223372036854775808) (d0 : 0 < d) (d1 : d < 9223372036854775808) : zL a / zL d = zL (a / d) := by
  apply Int64.toInt_inj.mp
  have hn : zL d ≠ -1 := by
    intro h
    have h := congrArg Int64.toInt h
    rw [zL_int (by omega) (by omega)] at h
    have : (-1 : Int64).toInt = -1 := by decide
    omega
  have b1 : 0 ≤ a / d := Int.ediv_nonneg a0 (by omega)
  have b2 : a / d ≤ a := Int.ediv_le_self _ a0
  rw [Int64.toInt_div_of_ne_right _ _ hn, zL_int (by omega) (by omega), zL_int (by omega) (by omega), Int.tdiv_eq_ediv_of_nonneg a0, zL_int (by omega) (by omega)]
theorem zL_n0 {z : Int} (h1 : 0 < z) (h2 : z < 9223372036854775808) : ¬ zL z = 0 := by
  have e0 : (0 : Int64) = zL 0 := by decide
  rw [e0, zL_eq (by omega) (by omega) (by omega) (by omega)]
  omega
theorem zK_pl {b t : Int} (h0 : 0 ≤ b) (hbt : b ≤ t) (ht : t ≤ 4294967296) (h : ¬ t - b ≤ 63) {e : Nat} (he : e = kF b t) : (((16384 : Int32) ||| ((((zI (kRu e t / p2 e)) &&& (56 : Int32)) ||| (zI (e : Nat) >>> ((3 : Int32) &&& 31))) <<< ((8 : Int32) &&& 31))) ||| (((zI (kRd e b / p2 e)) &&& (248 : Int32)) ||| (zI (e : Nat) &&& (7 : Int32)))) = zI (kPk b t) := by
  have hf := kF_le h0 hbt ht h
  rw [← he] at hf
  have g8 := kRu_8 e t
  have d8 := kRd_8 e b
  have c1 : (16384 : Int32) = zI 16384 := by decide
  unfold kPk
  rw [if_neg h, ← he, zI_56, zI_248, zs_3 (by omega) (by omega), zI_or 3 (by decide) _ _ (P := 8) rfl (by omega) (by omega) (by omega), zh_8, c1, zI_or 14 (by decide) _ _ (P := 16384) rfl (by omega) (by omega) (by omega), zm_7, zI_or 3 (by decide) _ _ (P := 8) rfl (by omega) (by omega) (by omega), zI_or 8 (by decide) _ _ (P := 256) rfl (by omega) (by omega) (by omega)]
  congr 1
  omega
theorem zK_ps {b t : Int} (h0 : 0 ≤ b) (h : t - b ≤ 63) : ((((zL t &&& (63 : Int64)).toInt32) <<< ((8 : Int32) &&& 31)) ||| (((zL b).toInt32) &&& (255 : Int32))) = zI (kPk b t) := by
  have m1 : zL t &&& (63 : Int64) = zL (t % 64) := zL_mask t 6 (by decide) rfl (P := 64) rfl
  unfold kPk
  rw [if_pos h, m1, zL_i, zL_i, zh_8, zm_255, zI_or 8 (by decide) _ _ (P := 256) rfl (by omega) (by omega) (by omega)]
set_option maxHeartbeats 4000000 in
set_option maxRecDepth 100000 in
theorem kM_packJ (l : Launch) {D : va_G} {q : Nat → Nat} {k : Nat → ClassId} {tg : Nat → Int32} {ad : Nat → Int32} {mt : Nat → Int32} {rb : Nat → Int64} {rt : Nat → Int64} {rp : Nat → Int32} {nr : Int32} {th : Int32} {pk : Int32} {ex : Int32} {ro : Int64} {A : Nat → Prop} (b t : Int) (h0 : 0 ≤ b) (hbt : b ≤ t) (ht : t ≤ 4294967296) : Met l yM_packJ wM_packJ { frames := 0, cells := 0, slots := 0, locals := 0 } (va_Pc [.ref (q 0), .long (zL b), .long (zL t)] (fun U => va_P D zCl (mW q k tg ad mt rb rt rp nr th pk ex ro) U.heap ∧ va_K D zCl (zT k) U ∧ va_D A (mW q k tg ad mt rb rt rp nr th pk ex ro))) (va_Qv (fun _ : Unit => True) (fun _ t9 => va_P D zCl (mW q k tg ad mt rb rt rp nr th (zI (kPk b t)) (zEx b t) (zL (kTo b t - kFr b t))) t9.heap ∧ va_K D zCl (zT k) t9 ∧ va_D A (mW q k tg ad mt rb rt rp nr th (zI (kPk b t)) (zEx b t) (zL (kTo b t - kFr b t)))) A) 0 0 A := by
  refine Met.ofW (cc := cM_packJ) (maxL := 16) (ret := none) (by decide) rfl ?_
  intro p e s m args below meth c s₁ B hml hv
  obtain ⟨rfl, hP, hK, hD⟩ := hv
  have hx := B.exec
  have hb := B.bytes
  have hr := B.returns
  have hts := atoms_spec (ws := wM_packJ) B.pre
  have hq : ∀ w ∈ wA, w.before _ s = true := fun w h => hts w (List.mem_cons_of_mem _ h)
  have hown : s.vm.findClass "CapUnitModel" = some m.cls := findClass_of_methodNamed B.named
  have hlocks := B.notSynchronized
  have hS : va_S A s.heap s.heap [] := va_S.rf
  have hl := lv_entry ([.ref (q 0), .long (zL b), .long (zL t)]) (n := 16) (Nat.le_of_ble_eq_true rfl)
  rw [lg_entry_eq]
  generalize (lg_sl ([.ref (q 0), .long (zL b), .long (zL t)]) ++ List.replicate (16 - (lg_sl ([.ref (q 0), .long (zL b), .long (zL t)])).length) Slot.unset).toArray = ls at hl ⊢
  have hl : lv_has ls 16 [(0, .ref (q 0)), (1, .long (zL b)), (3, .long (zL t))] := hl
  have tail : ¬ t - b ≤ 63 → ∀ (e9 : Nat) (ls : Array Slot), e9 = kF b t → lv_has ls 16 [(12, .long (zL (kRu e9 t))), (10, .long (zL (kRd e9 b))), (7, .int (zI (e9 : Nat))), (0, .ref (q 0)), (1, .long (zL b)), (3, .long (zL t))] → W p l e (headSpec wM_packJ { frames := 0, cells := 0, slots := 0, locals := 0 }).room s m [Value.ref (q 0), Value.long (zL b), Value.long (zL t)].toArray below meth c s.heap [] 0 0 (MQ below (va_Qv (fun _ : Unit => True) (fun _ t9 => va_P D zCl (mW q k tg ad mt rb rt rp nr th (zI (kPk b t)) (zEx b t) (zL (kTo b t - kFr b t))) t9.heap ∧ va_K D zCl (zT k) t9 ∧ va_D A (mW q k tg ad mt rb rt rp nr th (zI (kPk b t)) (zEx b t) (zL (kTo b t - kFr b t)))) A) [Value.ref (q 0), Value.long (zL b), Value.long (zL t)].toArray s 0 0 A) (F0 m 154 ls []) := by
    intro hs e9 ls he hl
    have hf := kF_le h0 hbt ht hs
    rw [← he] at hf
    have r1 := kRd_in e9 b
    have r2 := kRu_in e9 t
    have r0 := kRd_0 e9 h0
    have hp := p2_29 hf
    have eF : kFr b t = kRd e9 b := by unfold kFr; rw [if_neg hs, ← he]
    have eT : kTo b t = kRu e9 t := by unfold kTo; rw [if_neg hs, ← he]
    refine lv_lload hx hb dM_packJ_154 (lv_at hl 1 rfl) ?_
    refine lv_iload hx hb dM_packJ_156 (lv_at hl 2 rfl) ?_
    refine lv_lshr hx hb dM_packJ_158 (zL_shr (by omega) (by omega) e9 (by omega) rfl rfl) ?_
    refine lv_l2i hx hb dM_packJ_159 (zL_i _) ?_
    refine lv_sipush (v := 248) hx hb dM_packJ_160 (by decide) ?_
    refine lv_iand hx hb dM_packJ_163 ?_
    refine lv_iload hx hb dM_packJ_164 (lv_at hl 2 rfl) ?_
    refine lv_bipush (v := 7) hx hb dM_packJ_166 (by decide) ?_
    refine lv_iand hx hb dM_packJ_168 ?_
    refine lv_ior hx hb dM_packJ_169 ?_
    refine lv_istore (lv' := [(14, .int ((zI (kRd e9 b / p2 e9) &&& (248 : Int32)) ||| (zI (e9 : Nat) &&& (7 : Int32)))), (12, .long (zL (kRu e9 t))), (10, .long (zL (kRd e9 b))), (7, .int (zI (e9 : Nat))), (0, .ref (q 0)), (1, .long (zL b)), (3, .long (zL t))]) hx hb dM_packJ_170 hl (by decide) rfl (fun ls hl => ?_)
    refine lv_lload hx hb dM_packJ_172 (lv_at hl 1 rfl) ?_
    refine lv_iload hx hb dM_packJ_174 (lv_at hl 3 rfl) ?_
    refine lv_lshr hx hb dM_packJ_176 (zL_shr (by omega) (by omega) e9 (by omega) rfl rfl) ?_
    refine lv_l2i hx hb dM_packJ_177 (zL_i _) ?_
    refine lv_bipush (v := 56) hx hb dM_packJ_178 (by decide) ?_
    refine lv_iand hx hb dM_packJ_180 ?_
    refine lv_iload hx hb dM_packJ_181 (lv_at hl 3 rfl) ?_
    refine lv_iconst (v := 3) hx hb dM_packJ_183 (by decide) ?_
    refine lv_ishr hx hb dM_packJ_184 ?_
    refine lv_ior hx hb dM_packJ_185 ?_
    refine lv_istore (lv' := [(15, .int ((zI (kRu e9 t / p2 e9) &&& (56 : Int32)) ||| (zI (e9 : Nat) >>> ((3 : Int32) &&& 31)))), (14, .int ((zI (kRd e9 b / p2 e9) &&& (248 : Int32)) ||| (zI (e9 : Nat) &&& (7 : Int32)))), (12, .long (zL (kRu e9 t))), (10, .long (zL (kRd e9 b))), (7, .int (zI (e9 : Nat))), (0, .ref (q 0)), (1, .long (zL b)), (3, .long (zL t))]) hx hb dM_packJ_186 hl (by decide) rfl (fun ls hl => ?_)
    refine lv_aload_n hx hb dM_packJ_188 rfl (lv_at hl 5 rfl) ?_
    refine lv_sipush (v := 16384) hx hb dM_packJ_189 (by decide) ?_
    refine lv_iload hx hb dM_packJ_192 (lv_at hl 0 rfl) ?_
    refine lv_bipush (v := 8) hx hb dM_packJ_194 (by decide) ?_
    refine lv_ishl hx hb dM_packJ_196 ?_
    refine lv_ior hx hb dM_packJ_197 ?_
    refine lv_iload hx hb dM_packJ_198 (lv_at hl 1 rfl) ?_
    refine lv_ior hx hb dM_packJ_200 ?_
    refine zt_i (zK_pl h0 hbt ht hs he) ?_
    refine va_put (D := D) (ci := 1) (v := .int (zI (kPk b t))) (ty := .int) (C := "CapUnitModel") (T := TM) (N := 11) hx hb hq uM_in tyM tyM_ok nmM hown hK hP hD hS 0 rfl rfl 8 (by decide) (hq _ q_378) (fun _ h9 => h9) rfl (by decide +kernel) rfl rfl (Nat.le_of_ble_eq_true rfl) dM_packJ_201 (fun H locs hP hD hS => ?_)
    have hP : va_P D zCl (mW q k tg ad mt rb rt rp nr th (zI (kPk b t)) ex ro) H := hP
    have hD : va_D A (mW q k tg ad mt rb rt rp nr th (zI (kPk b t)) ex ro) := hD
    refine lv_aload_n hx hb dM_packJ_204 rfl (lv_at hl 5 rfl) ?_
    refine zj_i (A0 := A) (H0 := s.heap) (zEx b t) 224 [.ref (q 0)] (fun locs hS => ?_) (fun J9 => ?_)
    rotate_left
    · refine lv_lload hx hb dM_packJ_205 (lv_at hl 3 rfl) ?_
      refine lv_lload_n hx hb dM_packJ_207 rfl (lv_at hl 6 rfl) ?_
      refine W.lcmp hx hb dM_packJ_208 ?_
      refine lv_if_ne (tgt := 223) hx hb dM_packJ_209 rfl (fun h1 => ?_) (fun h1 => ?_)
      · have h1 := Not.imp h1 (lg_cmp_eq _ _).mpr
        have h2 : ¬ kRd e9 b = b := fun h3 => h1 (by rw [h3])
        refine lv_iconst (v := 0) hx hb dM_packJ_223 (by decide) ?_
        exact J9 _ _ (by unfold zEx; rw [eF, if_neg (fun h3 => h2 h3.1)]) hS
      · have h1 := (lg_cmp_eq _ _).mp h1
        have h2 : kRd e9 b = b := (zL_eq (by omega) (by omega) (by omega) (by omega)).mp h1
        refine lv_lload hx hb dM_packJ_212 (lv_at hl 2 rfl) ?_
        refine lv_lload_n hx hb dM_packJ_214 rfl (lv_at hl 7 rfl) ?_
        refine W.lcmp hx hb dM_packJ_215 ?_
        refine lv_if_ne (tgt := 223) hx hb dM_packJ_216 rfl (fun h3 => ?_) (fun h3 => ?_)
        · have h3 := Not.imp h3 (lg_cmp_eq _ _).mpr
          have h4 : ¬ kRu e9 t = t := fun h5 => h3 (by rw [h5])
          refine lv_iconst (v := 0) hx hb dM_packJ_223 (by decide) ?_
          exact J9 _ _ (by unfold zEx; rw [eT, if_neg (fun h5 => h4 h5.2)]) hS
        · have h3 := (lg_cmp_eq _ _).mp h3
          have h4 : kRu e9 t = t := (zL_eq (by omega) (by omega) (by omega) (by omega)).mp h3
          refine lv_iconst (v := 1) hx hb dM_packJ_219 (by decide) ?_
          refine lv_goto (tgt := 224) hx hb dM_packJ_220 rfl ?_
          exact J9 _ _ (by unfold zEx; rw [eF, eT, if_pos ⟨h2, h4⟩]) hS
    refine va_put (D := D) (ci := 1) (v := .int (zEx b t)) (ty := .boolean) (C := "CapUnitModel") (T := TM) (N := 11) hx hb hq uM_in tyM tyM_ok nmM hown hK hP hD hS 0 rfl rfl 9 (by decide) (hq _ q_379) (fun _ h9 => h9) rfl (by decide +kernel) (zz_nar (zEx_b b t)) (zz_fit (zEx_b b t)) (Nat.le_of_ble_eq_true rfl) dM_packJ_224 (fun H locs hP hD hS => ?_)
    have hP : va_P D zCl (mW q k tg ad mt rb rt rp nr th (zI (kPk b t)) (zEx b t) ro) H := hP
    have hD : va_D A (mW q k tg ad mt rb rt rp nr th (zI (kPk b t)) (zEx b t) ro) := hD
    refine lv_aload_n hx hb dM_packJ_227 rfl (lv_at hl 5 rfl) ?_
    refine lv_lload hx hb dM_packJ_228 (lv_at hl 2 rfl) ?_
    refine lv_lload hx hb dM_packJ_230 (lv_at hl 3 rfl) ?_
    refine lv_lsub hx hb dM_packJ_232 ?_
    refine zt_l (show _ = zL (kTo b t - kFr b t) by rw [zL_sub, eF, eT]) ?_
    refine va_put (D := D) (ci := 1) (v := .long (zL (kTo b t - kFr b t))) (ty := .long) (C := "CapUnitModel") (T := TM) (N := 11) hx hb hq uM_in tyM tyM_ok nmM hown hK hP hD hS 0 rfl rfl 10 (by decide) (hq _ q_380) (fun _ h9 => h9) rfl (by decide +kernel) rfl rfl (Nat.le_of_ble_eq_true rfl) dM_packJ_233 (fun H locs hP hD hS => ?_)
    have hP : va_P D zCl (mW q k tg ad mt rb rt rp nr th (zI (kPk b t)) (zEx b t) (zL (kTo b t - kFr b t))) H := hP
    have hD : va_D A (mW q k tg ad mt rb rt rp nr th (zI (kPk b t)) (zEx b t) (zL (kTo b t - kFr b t))) := hD
    exact W.vret hx hb hr (fun t9 ht9 hW => ⟨⟨(), rfl, trivial, by rw [ht9]; exact hP, va_K.moved hW.alike hK, hD⟩, hS.F ht9⟩) hS.2.2 dM_packJ_236
  have mid : ¬ t - b ≤ 63 → ∀ ls : Array Slot, lv_has ls 16 [(7, .int (zI ((kL ((t - b) / 128)) : Nat))), (5, .long (zL (t - b))), (0, .ref (q 0)), (1, .long (zL b)), (3, .long (zL t))] → W p l e (headSpec wM_packJ { frames := 0, cells := 0, slots := 0, locals := 0 }).room s m [Value.ref (q 0), Value.long (zL b), Value.long (zL t)].toArray below meth c s.heap [] 0 0 (MQ below (va_Qv (fun _ : Unit => True) (fun _ t9 => va_P D zCl (mW q k tg ad mt rb rt rp nr th (zI (kPk b t)) (zEx b t) (zL (kTo b t - kFr b t))) t9.heap ∧ va_K D zCl (zT k) t9 ∧ va_D A (mW q k tg ad mt rb rt rp nr th (zI (kPk b t)) (zEx b t) (zL (kTo b t - kFr b t)))) A) [Value.ref (q 0), Value.long (zL b), Value.long (zL t)].toArray s 0 0 A) (F0 m 74 ls []) := by
    intro hs ls hl
    have hn : kL ((t - b) / 128) ≤ 26 := kL_le (show (t - b) / 128 < 67108864 by omega)
    have hF : kF b t = if 16 ≤ kUn (kL ((t - b) / 128)) b t then kL ((t - b) / 128) + 1 else kL ((t - b) / 128) := rfl
    have hff := kF_le h0 hbt ht hs
    generalize kL ((t - b) / 128) = e at hl hn hF
    have hp := p2_29 (e := e) (by omega)
    have hp0 := p2_pos (e + 3)
    have r1 := kRd_in (e) b
    have r2 := kRu_in (e) t
    have r0 := kRd_0 (e) h0
    refine lv_lconst (v := 1) hx hb dM_packJ_74 (by decide) ?_
    refine lv_iload hx hb dM_packJ_75 (lv_at hl 0 rfl) ?_
    refine lv_iconst (v := 3) hx hb dM_packJ_77 (by decide) ?_
    refine lv_iadd hx hb dM_packJ_78 ?_
    refine zt_i (zn_add (e) 3 (by decide)) ?_
    refine lv_lshl hx hb dM_packJ_79 (show _ = zL (p2 (e + 3)) by rw [z_1l, zL_shl 1 (e + 3) (by omega) rfl rfl, Int.one_mul]) ?_
    refine lv_lstore (lv' := [(8, .long (zL (p2 (e + 3)))), (7, .int (zI (e : Nat))), (5, .long (zL (t - b))), (0, .ref (q 0)), (1, .long (zL b)), (3, .long (zL t))]) hx hb dM_packJ_80 hl (by decide) rfl (fun ls hl => ?_)
    refine lv_lload_n hx hb dM_packJ_82 rfl (lv_at hl 4 rfl) ?_
    refine lv_lload hx hb dM_packJ_83 (lv_at hl 0 rfl) ?_
    refine lv_ldiv hx hb dM_packJ_85 (zL_n0 (by omega) (by omega)) ?_
    refine lv_lload hx hb dM_packJ_86 (lv_at hl 0 rfl) ?_
    refine lv_lmul hx hb dM_packJ_88 ?_
    refine zt_l (show _ = zL (kRd (e) b) by rw [zL_div (by omega) (by omega) (by omega) (by omega), zL_mul]; rfl) ?_
    refine lv_lstore (lv' := [(10, .long (zL (kRd (e) b))), (8, .long (zL (p2 (e + 3)))), (7, .int (zI (e : Nat))), (5, .long (zL (t - b))), (0, .ref (q 0)), (1, .long (zL b)), (3, .long (zL t))]) hx hb dM_packJ_89 hl (by decide) rfl (fun ls hl => ?_)
    refine lv_lload_n hx hb dM_packJ_91 rfl (lv_at hl 6 rfl) ?_
    refine lv_lload hx hb dM_packJ_92 (lv_at hl 1 rfl) ?_
    refine lv_ladd hx hb dM_packJ_94 ?_
    refine lv_lconst (v := 1) hx hb dM_packJ_95 (by decide) ?_
    refine lv_lsub hx hb dM_packJ_96 ?_
    refine lv_lload hx hb dM_packJ_97 (lv_at hl 1 rfl) ?_
    refine lv_ldiv hx hb dM_packJ_99 (zL_n0 (by omega) (by omega)) ?_
    refine lv_lload hx hb dM_packJ_100 (lv_at hl 1 rfl) ?_
    refine lv_lmul hx hb dM_packJ_102 ?_
    refine zt_l (show _ = zL (kRu (e) t) by rw [zL_add, z_1l, zL_sub, zL_div (by omega) (by omega) (by omega) (by omega), zL_mul]; rfl) ?_
    refine lv_lstore (lv' := [(12, .long (zL (kRu (e) t))), (10, .long (zL (kRd (e) b))), (8, .long (zL (p2 (e + 3)))), (7, .int (zI (e : Nat))), (5, .long (zL (t - b))), (0, .ref (q 0)), (1, .long (zL b)), (3, .long (zL t))]) hx hb dM_packJ_103 hl (by decide) rfl (fun ls hl => ?_)
    have hU : 0 ≤ kUn e b t ∧ kUn e b t ≤ kRu e t - kRd e b := by
      rw [← kUn_eq]
      exact ⟨Int.ediv_nonneg (by omega) (by omega), Int.ediv_le_self _ (by omega)⟩
    refine lv_lload hx hb dM_packJ_105 (lv_at hl 0 rfl) ?_
    refine lv_lload hx hb dM_packJ_107 (lv_at hl 1 rfl) ?_
    refine lv_lsub hx hb dM_packJ_109 ?_
    refine lv_lload hx hb dM_packJ_110 (lv_at hl 2 rfl) ?_
    refine lv_ldiv hx hb dM_packJ_112 (zL_n0 (by omega) (by omega)) ?_
    refine zt_l (show _ = zL (kUn e b t) by rw [zL_sub, zL_div (by omega) (by omega) (by omega) (by omega), kUn_eq]) ?_
    refine lv_ldc2 (v := 16) hx hb hown (hq _ q_427) dM_packJ_113 ?_
    refine W.lcmp hx hb dM_packJ_116 ?_
    have e16 : (16 : Int64) = zL 16 := by decide
    refine lv_if_lt (tgt := 154) hx hb dM_packJ_117 rfl (fun h1 => ?_) (fun h1 => ?_)
    · have h1 := (lg_cmp_lt _ _).mp h1
      rw [e16, zL_lt (by omega) (by omega) (by omega) (by omega)] at h1
      have he : e = kF b t := by rw [hF, if_neg (by omega)]
      exact tail hs e ls he (lv_sub hl [0, 1, 3, 5, 6, 7] rfl)
    · have h1 := Not.imp h1 (lg_cmp_lt _ _).mpr
      rw [e16, zL_lt (by omega) (by omega) (by omega) (by omega)] at h1
      have he : e + 1 = kF b t := by rw [hF, if_pos (by omega)]
      refine lv_iinc (k := 3) (v := zI ((e + 1 : Nat) : Int)) (lv' := [(7, .int (zI ((e + 1 : Nat) : Int))), (12, .long (zL (kRu (e) t))), (10, .long (zL (kRd (e) b))), (8, .long (zL (p2 (e + 3)))), (5, .long (zL (t - b))), (0, .ref (q 0)), (1, .long (zL b)), (3, .long (zL t))]) hx hb dM_packJ_120 hl rfl (by show zI _ + zI 1 = _; rw [zI_add]; rfl) (by decide) rfl (fun ls hl => ?_)
      have hp := p2_29 (e := e + 1) (by omega)
      have hp0 := p2_pos (e + 1 + 3)
      have r1 := kRd_in (e + 1) b
      have r2 := kRu_in (e + 1) t
      have r0 := kRd_0 (e + 1) h0
      refine lv_lconst (v := 1) hx hb dM_packJ_123 (by decide) ?_
      refine lv_iload hx hb dM_packJ_124 (lv_at hl 0 rfl) ?_
      refine lv_iconst (v := 3) hx hb dM_packJ_126 (by decide) ?_
      refine lv_iadd hx hb dM_packJ_127 ?_
      refine zt_i (zn_add (e + 1) 3 (by decide)) ?_
      refine lv_lshl hx hb dM_packJ_128 (show _ = zL (p2 (e + 1 + 3)) by rw [z_1l, zL_shl 1 (e + 1 + 3) (by omega) rfl rfl, Int.one_mul]) ?_
      refine lv_lstore (lv' := [(8, .long (zL (p2 (e + 1 + 3)))), (7, .int (zI ((e + 1 : Nat) : Int))), (12, .long (zL (kRu (e) t))), (10, .long (zL (kRd (e) b))), (5, .long (zL (t - b))), (0, .ref (q 0)), (1, .long (zL b)), (3, .long (zL t))]) hx hb dM_packJ_129 hl (by decide) rfl (fun ls hl => ?_)
      refine lv_lload_n hx hb dM_packJ_131 rfl (lv_at hl 6 rfl) ?_
      refine lv_lload hx hb dM_packJ_132 (lv_at hl 0 rfl) ?_
      refine lv_ldiv hx hb dM_packJ_134 (zL_n0 (by omega) (by omega)) ?_
      refine lv_lload hx hb dM_packJ_135 (lv_at hl 0 rfl) ?_
      refine lv_lmul hx hb dM_packJ_137 ?_
      refine zt_l (show _ = zL (kRd (e + 1) b) by rw [zL_div (by omega) (by omega) (by omega) (by omega), zL_mul]; rfl) ?_
      refine lv_lstore (lv' := [(10, .long (zL (kRd (e + 1) b))), (8, .long (zL (p2 (e + 1 + 3)))), (7, .int (zI ((e + 1 : Nat) : Int))), (12, .long (zL (kRu (e) t))), (5, .long (zL (t - b))), (0, .ref (q 0)), (1, .long (zL b)), (3, .long (zL t))]) hx hb dM_packJ_138 hl (by decide) rfl (fun ls hl => ?_)
      refine lv_lload_n hx hb dM_packJ_140 rfl (lv_at hl 7 rfl) ?_
      refine lv_lload hx hb dM_packJ_141 (lv_at hl 1 rfl) ?_
      refine lv_ladd hx hb dM_packJ_143 ?_
      refine lv_lconst (v := 1) hx hb dM_packJ_144 (by decide) ?_
      refine lv_lsub hx hb dM_packJ_145 ?_
      refine lv_lload hx hb dM_packJ_146 (lv_at hl 1 rfl) ?_
      refine lv_ldiv hx hb dM_packJ_148 (zL_n0 (by omega) (by omega)) ?_
      refine lv_lload hx hb dM_packJ_149 (lv_at hl 1 rfl) ?_
      refine lv_lmul hx hb dM_packJ_151 ?_
      refine zt_l (show _ = zL (kRu (e + 1) t) by rw [zL_add, z_1l, zL_sub, zL_div (by omega) (by omega) (by omega) (by omega), zL_mul]; rfl) ?_
      refine lv_lstore (lv' := [(12, .long (zL (kRu (e + 1) t))), (10, .long (zL (kRd (e + 1) b))), (8, .long (zL (p2 (e + 1 + 3)))), (7, .int (zI ((e + 1 : Nat) : Int))), (5, .long (zL (t - b))), (0, .ref (q 0)), (1, .long (zL b)), (3, .long (zL t))]) hx hb dM_packJ_152 hl (by decide) rfl (fun ls hl => ?_)
      exact tail hs (e + 1) ls he (lv_sub hl [0, 1, 3, 5, 6, 7] rfl)
  have aft : ∀ ls : Array Slot, lv_has ls 16 [(7, .int (zI ((kL ((t - b) / 128)) : Nat))), (5, .long (zL (t - b))), (0, .ref (q 0)), (1, .long (zL b)), (3, .long (zL t))] → W p l e (headSpec wM_packJ { frames := 0, cells := 0, slots := 0, locals := 0 }).room s m [Value.ref (q 0), Value.long (zL b), Value.long (zL t)].toArray below meth c s.heap [] 0 0 (MQ below (va_Qv (fun _ : Unit => True) (fun _ t9 => va_P D zCl (mW q k tg ad mt rb rt rp nr th (zI (kPk b t)) (zEx b t) (zL (kTo b t - kFr b t))) t9.heap ∧ va_K D zCl (zT k) t9 ∧ va_D A (mW q k tg ad mt rb rt rp nr th (zI (kPk b t)) (zEx b t) (zL (kTo b t - kFr b t)))) A) [Value.ref (q 0), Value.long (zL b), Value.long (zL t)].toArray s 0 0 A) (F0 m 28 ls []) := by
    intro ls hl
    have hn : kL ((t - b) / 128) ≤ 26 := kL_le (show (t - b) / 128 < 67108864 by omega)
    refine lv_iload hx hb dM_packJ_28 (lv_at hl 0 rfl) ?_
    have e63 : (63 : Int64) = zL 63 := by decide
    refine lv_if_ne (tgt := 74) hx hb dM_packJ_30 rfl (fun h1 => ?_) (fun h1 => ?_)
    · refine mid (fun hs => h1 ?_) ls hl
      have h2 : kL ((t - b) / 128) ≤ 0 := kL_le (show (t - b) / 128 < 1 by omega)
      have h3 : kL ((t - b) / 128) = 0 := by omega
      rw [h3]
      rfl
    · refine lv_lload hx hb dM_packJ_33 (lv_at hl 1 rfl) ?_
      refine lv_ldc2 (v := 63) hx hb hown (hq _ q_426) dM_packJ_35 ?_
      refine W.lcmp hx hb dM_packJ_38 ?_
      refine lv_if_gt (tgt := 74) hx hb dM_packJ_39 rfl (fun h2 => ?_) (fun h2 => ?_)
      · have h2 := (lg_cmp_gt _ _).mp h2
        rw [e63, zL_lt (by omega) (by omega) (by omega) (by omega)] at h2
        exact mid (by omega) ls hl
      · have h2 := Not.imp h2 (lg_cmp_gt _ _).mpr
        rw [e63, zL_lt (by omega) (by omega) (by omega) (by omega)] at h2
        have hs : t - b ≤ 63 := by omega
        have eF : kFr b t = b := by unfold kFr; rw [if_pos hs]
        have eT : kTo b t = t := by unfold kTo; rw [if_pos hs]
        have eX : zEx b t = 1 := by unfold zEx; rw [if_pos ⟨eF, eT⟩]
        refine lv_aload_n hx hb dM_packJ_42 rfl (lv_at hl 2 rfl) ?_
        refine lv_lload_n hx hb dM_packJ_43 rfl (lv_at hl 4 rfl) ?_
        refine lv_ldc2 (v := 63) hx hb hown (hq _ q_426) dM_packJ_44 ?_
        refine lv_land hx hb dM_packJ_47 ?_
        refine lv_l2i hx hb dM_packJ_48 rfl ?_
        refine lv_bipush (v := 8) hx hb dM_packJ_49 (by decide) ?_
        refine lv_ishl hx hb dM_packJ_51 ?_
        refine lv_lload_n hx hb dM_packJ_52 rfl (lv_at hl 3 rfl) ?_
        refine lv_l2i hx hb dM_packJ_53 rfl ?_
        refine lv_sipush (v := 255) hx hb dM_packJ_54 (by decide) ?_
        refine lv_iand hx hb dM_packJ_57 ?_
        refine lv_ior hx hb dM_packJ_58 ?_
        refine zt_i (zK_ps h0 hs) ?_
        refine va_put (D := D) (ci := 1) (v := .int (zI (kPk b t))) (ty := .int) (C := "CapUnitModel") (T := TM) (N := 11) hx hb hq uM_in tyM tyM_ok nmM hown hK hP hD hS 0 rfl rfl 8 (by decide) (hq _ q_378) (fun _ h9 => h9) rfl (by decide +kernel) rfl rfl (Nat.le_of_ble_eq_true rfl) dM_packJ_59 (fun H locs hP hD hS => ?_)
        have hP : va_P D zCl (mW q k tg ad mt rb rt rp nr th (zI (kPk b t)) ex ro) H := hP
        have hD : va_D A (mW q k tg ad mt rb rt rp nr th (zI (kPk b t)) ex ro) := hD
        refine lv_aload_n hx hb dM_packJ_62 rfl (lv_at hl 2 rfl) ?_
        refine lv_iconst (v := 1) hx hb dM_packJ_63 (by decide) ?_
        refine zt_i eX.symm ?_
        refine va_put (D := D) (ci := 1) (v := .int (zEx b t)) (ty := .boolean) (C := "CapUnitModel") (T := TM) (N := 11) hx hb hq uM_in tyM tyM_ok nmM hown hK hP hD hS 0 rfl rfl 9 (by decide) (hq _ q_379) (fun _ h9 => h9) rfl (by decide +kernel) (zz_nar (zEx_b b t)) (zz_fit (zEx_b b t)) (Nat.le_of_ble_eq_true rfl) dM_packJ_64 (fun H locs hP hD hS => ?_)
        have hP : va_P D zCl (mW q k tg ad mt rb rt rp nr th (zI (kPk b t)) (zEx b t) ro) H := hP
        have hD : va_D A (mW q k tg ad mt rb rt rp nr th (zI (kPk b t)) (zEx b t) ro) := hD
        refine lv_aload_n hx hb dM_packJ_67 rfl (lv_at hl 2 rfl) ?_
        refine lv_lload hx hb dM_packJ_68 (lv_at hl 1 rfl) ?_
        refine zt_l (show _ = zL (kTo b t - kFr b t) by rw [eF, eT]) ?_
        refine va_put (D := D) (ci := 1) (v := .long (zL (kTo b t - kFr b t))) (ty := .long) (C := "CapUnitModel") (T := TM) (N := 11) hx hb hq uM_in tyM tyM_ok nmM hown hK hP hD hS 0 rfl rfl 10 (by decide) (hq _ q_380) (fun _ h9 => h9) rfl (by decide +kernel) rfl rfl (Nat.le_of_ble_eq_true rfl) dM_packJ_70 (fun H locs hP hD hS => ?_)
        have hP : va_P D zCl (mW q k tg ad mt rb rt rp nr th (zI (kPk b t)) (zEx b t) (zL (kTo b t - kFr b t))) H := hP
        have hD : va_D A (mW q k tg ad mt rb rt rp nr th (zI (kPk b t)) (zEx b t) (zL (kTo b t - kFr b t))) := hD
        exact W.vret hx hb hr (fun t9 ht9 hW => ⟨⟨(), rfl, trivial, by rw [ht9]; exact hP, va_K.moved hW.alike hK, hD⟩, hS.F ht9⟩) hS.2.2 dM_packJ_73
  have loop : ∀ (j i : Nat) (ls : Array Slot), i + j = kL ((t - b) / 128) → lv_has ls 16 [(7, .int (zI (i : Nat))), (5, .long (zL (t - b))), (0, .ref (q 0)), (1, .long (zL b)), (3, .long (zL t))] → W p l e (headSpec wM_packJ { frames := 0, cells := 0, slots := 0, locals := 0 }).room s m [Value.ref (q 0), Value.long (zL b), Value.long (zL t)].toArray below meth c s.heap [] 0 0 (MQ below (va_Qv (fun _ : Unit => True) (fun _ t9 => va_P D zCl (mW q k tg ad mt rb rt rp nr th (zI (kPk b t)) (zEx b t) (zL (kTo b t - kFr b t))) t9.heap ∧ va_K D zCl (zT k) t9 ∧ va_D A (mW q k tg ad mt rb rt rp nr th (zI (kPk b t)) (zEx b t) (zL (kTo b t - kFr b t)))) A) [Value.ref (q 0), Value.long (zL b), Value.long (zL t)].toArray s 0 0 A) (F0 m 8 ls []) := by
    intro j
    have hn : kL ((t - b) / 128) ≤ 26 := kL_le (show (t - b) / 128 < 67108864 by omega)
    have e0 : (0 : Int64) = zL 0 := by decide
    have e128 : (128 : Int64) = zL 128 := by decide
    induction j with
    | zero =>
      intro i ls hi hl
      have hp := p2_pos i
      have a1 : 0 ≤ ((t - b) / 128) / p2 i := Int.ediv_nonneg (by omega) (by omega)
      have a2 : ((t - b) / 128) / p2 i ≤ ((t - b) / 128) := Int.ediv_le_self _ (by omega)
      refine lv_lload hx hb dM_packJ_8 (lv_at hl 1 rfl) ?_
      refine lv_ldc2 (v := 128) hx hb hown (hq _ q_425) dM_packJ_10 ?_
      refine lv_ldiv hx hb dM_packJ_13 (by decide) ?_
      refine zt_l (show _ = zL ((t - b) / 128) by rw [e128, zL_div (by omega) (by omega) (by omega) (by omega)]) ?_
      refine lv_iload hx hb dM_packJ_14 (lv_at hl 0 rfl) ?_
      refine lv_lshr hx hb dM_packJ_16 (zL_shr (by omega) (by omega) i (by omega) rfl rfl) ?_
      refine lv_lconst (v := 0) hx hb dM_packJ_17 (by decide) ?_
      refine W.lcmp hx hb dM_packJ_18 ?_
      refine lv_if_le (tgt := 28) hx hb dM_packJ_19 rfl (fun h1 => ?_) (fun h1 => ?_)
      · have hi2 : i = kL ((t - b) / 128) := by omega
        subst hi2
        exact aft ls hl
      · have h1 := Not.imp h1 (lg_cmp_le _ _).mpr
        rw [e0, zL_le (by omega) (by omega) (by omega) (by omega)] at h1
        have h3 := kL_lt (show 0 ≤ ((t - b) / 128) by omega)
        have h4 : ((t - b) / 128) / p2 i = 0 := Int.ediv_eq_zero_of_lt (by omega) (by rw [show i = kL ((t - b) / 128) by omega]; exact h3)
        omega
    | succ j ih =>
      intro i ls hi hl
      have hp := p2_pos i
      have a1 : 0 ≤ ((t - b) / 128) / p2 i := Int.ediv_nonneg (by omega) (by omega)
      have a2 : ((t - b) / 128) / p2 i ≤ ((t - b) / 128) := Int.ediv_le_self _ (by omega)
      refine lv_lload hx hb dM_packJ_8 (lv_at hl 1 rfl) ?_
      refine lv_ldc2 (v := 128) hx hb hown (hq _ q_425) dM_packJ_10 ?_
      refine lv_ldiv hx hb dM_packJ_13 (by decide) ?_
      refine zt_l (show _ = zL ((t - b) / 128) by rw [e128, zL_div (by omega) (by omega) (by omega) (by omega)]) ?_
      refine lv_iload hx hb dM_packJ_14 (lv_at hl 0 rfl) ?_
      refine lv_lshr hx hb dM_packJ_16 (zL_shr (by omega) (by omega) i (by omega) rfl rfl) ?_
      refine lv_lconst (v := 0) hx hb dM_packJ_17 (by decide) ?_
      refine W.lcmp hx hb dM_packJ_18 ?_
      refine lv_if_le (tgt := 28) hx hb dM_packJ_19 rfl (fun h1 => ?_) (fun h1 => ?_)
      · have h1 := (lg_cmp_le _ _).mp h1
        rw [e0, zL_le (by omega) (by omega) (by omega) (by omega)] at h1
        have h3 : p2 i ≤ ((t - b) / 128) := kL_ge (by omega)
        have h4 : 1 ≤ ((t - b) / 128) / p2 i := (Int.le_ediv_iff_mul_le hp).mpr (by omega)
        omega
      · refine lv_iinc (k := 0) (v := zI ((i + 1 : Nat) : Int)) (lv' := [(7, .int (zI (i + 1 : Nat))), (5, .long (zL (t - b))), (0, .ref (q 0)), (1, .long (zL b)), (3, .long (zL t))]) hx hb dM_packJ_22 hl rfl (by show zI _ + zI 1 = _; rw [zI_add]; rfl) (by decide) rfl (fun ls hl => ?_)
        refine lv_goto (tgt := 8) hx hb dM_packJ_25 rfl ?_
        exact ih (i + 1) ls (by omega) hl
  refine lv_lload_n hx hb dM_packJ_0 rfl (lv_at hl 2 rfl) ?_
  refine lv_lload_n hx hb dM_packJ_1 rfl (lv_at hl 1 rfl) ?_
  refine lv_lsub hx hb dM_packJ_2 ?_
  refine zt_l (zL_sub t b) ?_
  refine lv_lstore (lv' := [(5, .long (zL (t - b))), (0, .ref (q 0)), (1, .long (zL b)), (3, .long (zL t))]) hx hb dM_packJ_3 hl (by decide) rfl (fun ls hl => ?_)
  refine lv_iconst (v := 0) hx hb dM_packJ_5 (by decide) ?_
  refine lv_istore (lv' := [(7, .int (zI (0 : Nat))), (5, .long (zL (t - b))), (0, .ref (q 0)), (1, .long (zL b)), (3, .long (zL t))]) hx hb dM_packJ_6 hl (by decide) rfl (fun ls hl => ?_)
  exact loop (kL ((t - b) / 128)) 0 ls (by omega) hl
