/-! bitsOf: the class's loop; floorMod in numbers. -/
def zb (n : Int64) : Nat → Nat → Nat
  | 0, i => i
  | k + 1, i => if n >>> ((zI (i : Nat)).toInt64 &&& 63) = 0 then i else zb n k (i + 1)
def fC_bitsOf (n : Int64) : Int32 := zI (zb n 26 0 : Nat)
set_option maxHeartbeats 4000000 in
set_option maxRecDepth 100000 in
theorem kC_bitsOf (l : Launch) (H : Heap) (n : Int64) : Met l yC_bitsOf wC_bitsOf { frames := 0, cells := 0, slots := 0, locals := 0 } (va_Pc [.long n] (fun U => U.heap = H)) (va_Qi (fun v9 (_ : Unit) => v9 = fC_bitsOf n) (fun _ t => t.heap = H) (fun _ => False)) 0 0 (fun _ => False) := by
  refine Met.ofW (cc := cC_bitsOf) (maxL := 3) (ret := (some .int)) (by decide) rfl ?_
  intro p e s m args below meth c s₁ B hml hv
  obtain ⟨rfl, hH⟩ := hv
  have hx := B.exec
  have hb := B.bytes
  have hr := B.returns
  have hlocks := B.notSynchronized
  have hS : va_S (fun _ => False) s.heap s.heap [] := va_S.rf
  have hl := lv_entry ([.long n]) (n := 3) (Nat.le_of_ble_eq_true rfl)
  rw [lg_entry_eq]
  generalize (lg_sl ([.long n]) ++ List.replicate (3 - (lg_sl ([.long n])).length) Slot.unset).toArray = ls at hl ⊢
  have hl : lv_has ls 3 [(0, .long n)] := hl
  have key : ∀ (k i : Nat), i + k = 26 → zb n 26 0 = zb n k i → ∀ ls : Array Slot, lv_has ls 3 [(2, .int (zI (i : Nat))), (0, .long n)] → W p l e (headSpec wC_bitsOf { frames := 0, cells := 0, slots := 0, locals := 0 }).room s m [Value.long n].toArray below meth c s.heap [] 0 0 (MQ below (va_Qi (fun v9 (_ : Unit) => v9 = fC_bitsOf n) (fun _ t => t.heap = H) (fun _ => False)) [Value.long n].toArray s 0 0 (fun _ => False)) (F0 m 2 ls []) := by
    intro k
    induction k with
    | zero =>
      intro i hi hz ls hl
      have h26 : i = 26 := by omega
      subst h26
      refine lv_iload_n hx hb dC_bitsOf_2 rfl (lv_at hl 0 rfl) ?_
      refine lv_bipush (v := 26) hx hb dC_bitsOf_3 (by decide) ?_
      refine lv_icmp_ge (tgt := 22) hx hb dC_bitsOf_5 rfl (fun h1 => ?_) (fun h1 => absurd (show (26 : Int32) ≤ zI ((26 : Nat) : Int) by decide) h1)
      refine lv_iload_n hx hb dC_bitsOf_22 rfl (lv_at hl 0 rfl) ?_
      exact W.iret (v := zI ((26 : Nat) : Int)) hx hb hr (fun t ht hW => ⟨⟨zI ((26 : Nat) : Int), (), rfl, (by unfold fC_bitsOf; rw [hz]; rfl), ht.trans hH⟩, hS.F ht⟩) hS.2.2 dC_bitsOf_23
    | succ k ih =>
      intro i hi hz ls hl
      refine lv_iload_n hx hb dC_bitsOf_2 rfl (lv_at hl 0 rfl) ?_
      refine lv_bipush (v := 26) hx hb dC_bitsOf_3 (by decide) ?_
      have e26 : (26 : Int32) = zI 26 := by decide
      refine lv_icmp_ge (tgt := 22) hx hb dC_bitsOf_5 rfl (fun h1 => ?_) (fun h1 => ?_)
      · rw [e26, zI_le (by omega) (by omega) (by omega) (by omega)] at h1
        omega
      refine lv_lload_n hx hb dC_bitsOf_8 rfl (lv_at hl 1 rfl) ?_
      refine lv_iload_n hx hb dC_bitsOf_9 rfl (lv_at hl 0 rfl) ?_
      refine lv_lshr hx hb dC_bitsOf_10 rfl ?_
      refine lv_lconst (v := 0) hx hb dC_bitsOf_11 (by decide) ?_
      refine W.lcmp hx hb dC_bitsOf_12 ?_
      refine lv_if_eq (tgt := 22) hx hb dC_bitsOf_13 rfl (fun h2 => ?_) (fun h2 => ?_)
      · have h2 := (lg_cmp_eq _ _).mp h2
        refine lv_iload_n hx hb dC_bitsOf_22 rfl (lv_at hl 0 rfl) ?_
        have ez : zb n 26 0 = i := by rw [hz, zb, if_pos h2]
        exact W.iret (v := zI (i : Nat)) hx hb hr (fun t ht hW => ⟨⟨zI (i : Nat), (), rfl, (by unfold fC_bitsOf; rw [ez]), ht.trans hH⟩, hS.F ht⟩) hS.2.2 dC_bitsOf_23
      · have h2 := mt (lg_cmp_eq _ _).mpr h2
        have ez : zb n 26 0 = zb n k (i + 1) := by rw [hz, zb, if_neg h2]
        refine lv_iinc (k := 0) (v := zI ((i + 1 : Nat) : Int)) (lv' := [(2, .int (zI ((i + 1 : Nat) : Int))), (0, .long n)]) hx hb dC_bitsOf_16 hl rfl (by show zI _ + zI 1 = _; rw [zI_add]; rfl) (by decide) rfl (fun ls hl => ?_)
        refine lv_goto (tgt := 2) hx hb dC_bitsOf_19 rfl ?_
        exact ih (i + 1) (by omega) ez ls hl
  refine lv_iconst (v := 0) hx hb dC_bitsOf_0 (by decide) ?_
  refine lv_istore_n (lv' := [(2, .int (zI ((0 : Nat) : Int))), (0, .long n)]) hx hb dC_bitsOf_1 rfl hl (by decide) rfl (fun ls hl => ?_)
  exact key 26 0 rfl rfl ls hl
theorem p2_le {a b : Nat} (h : a ≤ b) : p2 a ≤ p2 b := by
  have := Nat.pow_le_pow_right (n := 2) (by decide) h
  unfold p2
  omega
theorem zb_eq {n : Int} (h0 : 0 ≤ n) (h1 : n < 9223372036854775808) : ∀ (k i : Nat), i + k ≤ 63 → i ≤ kL n → kL n ≤ i + k → zb (zL n) k i = kL n := by
  intro k
  induction k with
  | zero =>
    intro i _ h2 h3
    show i = _
    omega
  | succ k ih =>
    intro i hi h2 h3
    have hp := p2_pos i
    rw [zb, zL_shr h0 h1 i (by omega) rfl rfl]
    have a1 : 0 ≤ n / p2 i := Int.ediv_nonneg h0 (by omega)
    have a2 : n / p2 i ≤ n := Int.ediv_le_self _ h0
    have e0 : (0 : Int64) = zL 0 := by decide
    by_cases h : i < kL n
    · have h4 := kL_ge h
      have h5 : 1 ≤ n / p2 i := (Int.le_ediv_iff_mul_le hp).mpr (by omega)
      rw [if_neg (by rw [e0, zL_eq (by omega) (by omega) (by omega) (by omega)]; omega)]
      exact ih (i + 1) (by omega) (by omega) (by omega)
    · have h4 : kL n = i := by omega
      have h5 := kL_lt h0
      rw [h4] at h5
      have h6 : n / p2 i = 0 := Int.ediv_eq_zero_of_lt h0 h5
      rw [if_pos (by rw [h6]; rfl), h4]
theorem eC_bits {n : Int} (h0 : 0 ≤ n) (h1 : n < 67108864) : fC_bitsOf (zL n) = zI (kL n : Nat) := by
  have h2 : kL n ≤ 26 := kL_le h1
  unfold fC_bitsOf
  rw [zb_eq h0 (by omega) 26 0 (by omega) (by omega) (by omega)]
theorem z_xs {x y : Int} (x0 : -9223372036854775808 ≤ x) (x1 : x < 9223372036854775808) (y0 : 0 ≤ y) (y1 : y < 9223372036854775808) : (0 : Int64) ≤ (zL x ^^^ zL y) ↔ 0 ≤ x := by
  have e : (zL x ^^^ zL y).toBitVec.msb = ((zL x).toBitVec.msb ^^ (zL y).toBitVec.msb) := by
    rw [Int64.toBitVec_xor, BitVec.msb_xor]
  rw [BitVec.msb_eq_toInt, BitVec.msb_eq_toInt, BitVec.msb_eq_toInt, Int64.toInt_toBitVec, Int64.toInt_toBitVec, Int64.toInt_toBitVec, zL_int x0 x1, zL_int (by omega) y1] at e
  have hy : ¬ y < 0 := by omega
  rw [Int64.le_iff_toInt_le, Int64.toInt_zero]
  simp only [hy, decide_false, Bool.xor_false] at e
  have e2 := decide_eq_decide.mp e
  omega
theorem z_dv {x y : Int} (x0 : -4611686018427387904 ≤ x) (x1 : x < 4611686018427387904) (y0 : 0 < y) (y1 : y < 4611686018427387904) : zL x - zL x / zL y * zL y = zL (x.tmod y) := by
  have e1 : zL x / zL y = zL (x.tdiv y) := by
    apply Int64.toInt_inj.mp
    have hn : zL y ≠ -1 := by
      intro h
      have h := congrArg Int64.toInt h
      rw [zL_int (by omega) (by omega)] at h
      have : (-1 : Int64).toInt = -1 := by decide
      omega
    rw [Int64.toInt_div_of_ne_right _ _ hn, zL_int (by omega) (by omega), zL_int (by omega) (by omega)]
    have b2 : (x.tdiv y).natAbs ≤ x.natAbs := Int.natAbs_tdiv_le_natAbs x y
    rw [zL_int (by omega) (by omega)]
  rw [e1, zL_mul, zL_sub]
  congr 1
  have := Int.tdiv_mul_add_tmod x y
  omega
theorem eJ_floorMod {x y : Int} (x0 : -4611686018427387904 ≤ x) (x1 : x < 4611686018427387904) (y0 : 0 < y) (y1 : y < 4611686018427387904) : fJ_floorMod (zL x) (zL y) = zL (x % y) := by
  have m0 : 0 ≤ x % y := Int.emod_nonneg _ (by omega)
  have m1 : x % y < y := Int.emod_lt_of_pos _ y0
  have e0 : (0 : Int64) = zL 0 := by decide
  unfold fJ_floorMod
  rw [z_dv x0 x1 y0 y1]
  by_cases h : 0 ≤ x
  · rw [if_pos ((z_xs (by omega) (by omega) (by omega) (by omega)).mpr h), Int.tmod_eq_emod_of_nonneg h]
  · rw [if_neg (mt (z_xs (by omega) (by omega) (by omega) (by omega)).mp h)]
    have et := @Int.tmod_eq_emod x y
    by_cases hd : y ∣ x
    · rw [if_pos (Or.inr hd)] at et
      have hz : x % y = 0 := Int.emod_eq_zero_of_dvd hd
      have e2 : x.tmod y = 0 := by omega
      rw [e2, if_pos e0.symm, hz]
    · rw [if_neg (by intro h3; rcases h3 with h3 | h3; exact h h3; exact hd h3)] at et
      have hz : x % y ≠ 0 := fun h3 => hd (Int.dvd_of_emod_eq_zero h3)
      have e2 : x.tmod y = x % y - y := by omega
      rw [e2, e0, if_neg (by rw [zL_eq (by omega) (by omega) (by omega) (by omega)]; omega), zL_add]
      congr 1
      omega
