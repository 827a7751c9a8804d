/-! The constructors. -/
def zM : Nat → Nat → Int32
  | 0 => fun _ => 0
  | i + 1 => upd (zM i) i 1000194
section ZN
variable {p : Program} {l : Launch} {e : Env} {R : Room} {s : State} {m : MethodId} {args : Array Value} {below : List Frame} {meth : Method} {c : Code} {H : Heap} {locs : List Loc} {cells slots : Nat} {Q : State → Prop}
variable {cc : ByteArray} {pc : Nat} {ls : Array Slot} {rest : List Value} {D : va_G} {A : Nat → Prop} {ws : va_W} {H0 : Heap} {k : Nat → ClassId}
theorem zn_z (hexec : p.tables.exec = Jvm.exec) (hb : c.code = cc) (harr : (Cond.arrayClass .boolean).before args s = true) (hK : va_K D zCl (zT k) s) (hP : va_P D zCl ws H) (hD : va_D A ws) (hS : va_S A H0 H locs) (hA : ∀ q, H0.size ≤ q → A q)
    {n : Int32} {N' : Nat} (hn : ¬ n < 0) (hN : n.toNatClampNeg = N') (hbytes : N' * componentBytes .boolean ≤ 536870912) (hcells : cells + 1 ≤ R.cells) (hslots : slots + N' ≤ R.slots) (hdg : decode cc pc = .ok (.newarray .boolean, 2))
    (kk : ∀ (q : Nat) (H1 : Heap), va_P D zCl (ws ++ [(q, .inl (k 0, N', .inl (fun _ => (0 : Int32))))]) H1 → va_D A (ws ++ [(q, .inl (k 0, N', .inl (fun _ => (0 : Int32))))]) → va_S A H0 H1 locs →
      W p l e R s m args below meth c H1 locs (cells + 1) (slots + N') Q (F0 m (pc + 2) ls (.ref q :: rest))) : W p l e R s m args below meth c H locs cells slots Q (F0 m pc ls (.int n :: rest)) := by
  refine va_newa hexec hb (atype := .boolean) (ty := .boolean) harr rfl hK hP hD hS hA (a0 := (N', .inl (fun _ => (0 : Int32)))) (fun _ => rfl) hn hN hbytes hcells hslots hdg (fun q cA H1 hK1 hP1 hD1 hS1 => ?_)
  have e1 : s.vm.findClass ("[" ++ (FieldType.toString .boolean)) = some cA := (hK1.2 3 (cA, .boolean) rfl).2
  have e2 : s.vm.findClass ("[" ++ (FieldType.toString .boolean)) = some (k 0) := (hK.2 0 (k 0, .boolean) rfl).2
  have e3 : cA = k 0 := Option.some.inj (e1.symm.trans e2)
  subst e3
  exact kk q H1 hP1 hD1 hS1
theorem zn_i (hexec : p.tables.exec = Jvm.exec) (hb : c.code = cc) (harr : (Cond.arrayClass .int).before args s = true) (hK : va_K D zCl (zT k) s) (hP : va_P D zCl ws H) (hD : va_D A ws) (hS : va_S A H0 H locs) (hA : ∀ q, H0.size ≤ q → A q)
    {n : Int32} {N' : Nat} (hn : ¬ n < 0) (hN : n.toNatClampNeg = N') (hbytes : N' * componentBytes .int ≤ 536870912) (hcells : cells + 1 ≤ R.cells) (hslots : slots + N' ≤ R.slots) (hdg : decode cc pc = .ok (.newarray .int, 2))
    (kk : ∀ (q : Nat) (H1 : Heap), va_P D zCl (ws ++ [(q, .inl (k 1, N', .inl (fun _ => (0 : Int32))))]) H1 → va_D A (ws ++ [(q, .inl (k 1, N', .inl (fun _ => (0 : Int32))))]) → va_S A H0 H1 locs →
      W p l e R s m args below meth c H1 locs (cells + 1) (slots + N') Q (F0 m (pc + 2) ls (.ref q :: rest))) : W p l e R s m args below meth c H locs cells slots Q (F0 m pc ls (.int n :: rest)) := by
  refine va_newa hexec hb (atype := .int) (ty := .int) harr rfl hK hP hD hS hA (a0 := (N', .inl (fun _ => (0 : Int32)))) (fun _ => rfl) hn hN hbytes hcells hslots hdg (fun q cA H1 hK1 hP1 hD1 hS1 => ?_)
  have e1 : s.vm.findClass ("[" ++ (FieldType.toString .int)) = some cA := (hK1.2 3 (cA, .int) rfl).2
  have e2 : s.vm.findClass ("[" ++ (FieldType.toString .int)) = some (k 1) := (hK.2 1 (k 1, .int) rfl).2
  have e3 : cA = k 1 := Option.some.inj (e1.symm.trans e2)
  subst e3
  exact kk q H1 hP1 hD1 hS1
theorem zn_l (hexec : p.tables.exec = Jvm.exec) (hb : c.code = cc) (harr : (Cond.arrayClass .long).before args s = true) (hK : va_K D zCl (zT k) s) (hP : va_P D zCl ws H) (hD : va_D A ws) (hS : va_S A H0 H locs) (hA : ∀ q, H0.size ≤ q → A q)
    {n : Int32} {N' : Nat} (hn : ¬ n < 0) (hN : n.toNatClampNeg = N') (hbytes : N' * componentBytes .long ≤ 536870912) (hcells : cells + 1 ≤ R.cells) (hslots : slots + N' ≤ R.slots) (hdg : decode cc pc = .ok (.newarray .long, 2))
    (kk : ∀ (q : Nat) (H1 : Heap), va_P D zCl (ws ++ [(q, .inl (k 2, N', .inr (.inl (fun _ => (0 : Int64)))))]) H1 → va_D A (ws ++ [(q, .inl (k 2, N', .inr (.inl (fun _ => (0 : Int64)))))]) → va_S A H0 H1 locs →
      W p l e R s m args below meth c H1 locs (cells + 1) (slots + N') Q (F0 m (pc + 2) ls (.ref q :: rest))) : W p l e R s m args below meth c H locs cells slots Q (F0 m pc ls (.int n :: rest)) := by
  refine va_newa hexec hb (atype := .long) (ty := .long) harr rfl hK hP hD hS hA (a0 := (N', .inr (.inl (fun _ => (0 : Int64))))) (fun _ => rfl) hn hN hbytes hcells hslots hdg (fun q cA H1 hK1 hP1 hD1 hS1 => ?_)
  have e1 : s.vm.findClass ("[" ++ (FieldType.toString .long)) = some cA := (hK1.2 3 (cA, .long) rfl).2
  have e2 : s.vm.findClass ("[" ++ (FieldType.toString .long)) = some (k 2) := (hK.2 2 (k 2, .long) rfl).2
  have e3 : cA = k 2 := Option.some.inj (e1.symm.trans e2)
  subst e3
  exact kk q H1 hP1 hD1 hS1
end ZN

def zQ7 (a b c d e f g : Nat) : Nat → Nat := fun n => match n with
  | 0 => a
  | 1 => b
  | 2 => c
  | 3 => d
  | 4 => e
  | 5 => f
  | _ => g

set_option maxHeartbeats 4000000 in
set_option maxRecDepth 100000 in
theorem kC_init (l : Launch) {D : va_G} {k : Nat → ClassId} (h0 sz : Nat) {A : Nat → Prop} (hA0 : ∀ q, sz ≤ q → A q) : Met l yC_init wC_init { frames := 1, cells := 6, slots := 120, locals := 13 } (va_Pc [.ref h0] (fun U => U.heap.size = sz ∧ va_P D zCl [(h0, .inr (0, [.null, .null, .null, .null, .null, .null, .int 0]))] U.heap ∧ va_K D zCl (zT k) U ∧ va_D A [(h0, .inr (0, [.null, .null, .null, .null, .null, .null, .int 0]))])) (va_Qv (fun q : Nat → Nat => q 0 = h0) (fun q t => va_P D zCl (cW q k (fun _ => 0) (fun _ => 0) (zM 32) (fun _ => 0) (fun _ => 0) (fun _ => 0) 0) t.heap ∧ va_K D zCl (zT k) t ∧ va_D A (cW q k (fun _ => 0) (fun _ => 0) (zM 32) (fun _ => 0) (fun _ => 0) (fun _ => 0) 0)) A) 6 120 A := by
  refine Met.ofW (cc := cC_init) (maxL := 2) (ret := none) (by decide) rfl ?_
  intro p e s m args below meth c s₁ B hml hv
  obtain ⟨rfl, hsz, hP, hK, hD⟩ := hv
  have hx := B.exec
  have hb := B.bytes
  have hr := B.returns
  have hts := atoms_spec (ws := wC_init) B.pre
  have hq : ∀ w ∈ wA, w.before _ s = true := fun w h => hts w (List.mem_cons_of_mem _ h)
  have hown : s.vm.findClass "CapUnit" = some m.cls := findClass_of_methodNamed B.named
  have hlocks := B.notSynchronized
  have hS : va_S A s.heap s.heap [] := va_S.rf
  have hl := lv_entry ([.ref h0]) (n := 2) (Nat.le_of_ble_eq_true rfl)
  rw [lg_entry_eq]
  generalize (lg_sl ([.ref h0]) ++ List.replicate (2 - (lg_sl ([.ref h0])).length) Slot.unset).toArray = ls at hl ⊢
  have hl : lv_has ls 2 [(0, .ref h0)] := hl
  have hA : ∀ q, s.heap.size ≤ q → A q := fun q h => hA0 q (by omega)
  have hin : meth.name = "<init>" := (name_of_methodNamed B.named B.method).1
  refine lv_aload_n hx hb dC_init_0 rfl (lv_at hl 0 rfl) ?_
  refine W.objInit hx hb hown (hq _ q_15) (hq _ q_16) (hq _ q_17) rfl (by rw [hml]; exact hl.1) rfl dC_init_1 (Nat.le_of_ble_eq_true rfl) (Nat.le_of_ble_eq_true rfl) ?_
  refine W.eq (g2 := F0 m 4 ls []) rfl ?_
  refine lv_aload_n hx hb dC_init_4 rfl (lv_at hl 0 rfl) ?_
  refine lv_bipush (v := 32) hx hb dC_init_5 (by decide) ?_
  refine zn_z hx hb (hq _ q_41) hK hP hD hS hA (N' := 32) (by decide) (by decide) (by decide) (Nat.le_of_ble_eq_true rfl) (Nat.le_of_ble_eq_true rfl) dC_init_7 (fun q7 H hP hD hS => ?_)
  have hP : va_P D zCl [(h0, .inr (0, [.null, .null, .null, .null, .null, .null, .int 0])), (q7, .inl (k 0, 32, .inl (fun _ => (0 : Int32))))] H := hP
  have hD : va_D A [(h0, .inr (0, [.null, .null, .null, .null, .null, .null, .int 0])), (q7, .inl (k 0, 32, .inl (fun _ => (0 : Int32))))] := hD
  refine va_putF (D := D) (ci := 0) (v := .ref q7) (ty := .array .boolean) (C := "CapUnit") (T := TC) (N := 7) hx hb hq uC_in tyC tyC_ok nmC hown hK hP hD hS 0 rfl rfl 0 (by decide) (hq _ q_19) (fun _ h9 => h9) rfl hin rfl (by decide +kernel) rfl rfl (Nat.le_of_ble_eq_true rfl) dC_init_9 (fun H locs hP hD hS => ?_)
  have hP : va_P D zCl [(h0, .inr (0, [.ref q7, .null, .null, .null, .null, .null, .int 0])), (q7, .inl (k 0, 32, .inl (fun _ => (0 : Int32))))] H := hP
  have hD : va_D A [(h0, .inr (0, [.ref q7, .null, .null, .null, .null, .null, .int 0])), (q7, .inl (k 0, 32, .inl (fun _ => (0 : Int32))))] := hD
  refine lv_aload_n hx hb dC_init_12 rfl (lv_at hl 0 rfl) ?_
  refine lv_bipush (v := 32) hx hb dC_init_13 (by decide) ?_
  refine zn_i hx hb (hq _ q_42) hK hP hD hS hA (N' := 32) (by decide) (by decide) (by decide) (Nat.le_of_ble_eq_true rfl) (Nat.le_of_ble_eq_true rfl) dC_init_15 (fun q15 H hP hD hS => ?_)
  have hP : va_P D zCl [(h0, .inr (0, [.ref q7, .null, .null, .null, .null, .null, .int 0])), (q7, .inl (k 0, 32, .inl (fun _ => (0 : Int32)))), (q15, .inl (k 1, 32, .inl (fun _ => (0 : Int32))))] H := hP
  have hD : va_D A [(h0, .inr (0, [.ref q7, .null, .null, .null, .null, .null, .int 0])), (q7, .inl (k 0, 32, .inl (fun _ => (0 : Int32)))), (q15, .inl (k 1, 32, .inl (fun _ => (0 : Int32))))] := hD
  refine va_putF (D := D) (ci := 0) (v := .ref q15) (ty := .array .int) (C := "CapUnit") (T := TC) (N := 7) hx hb hq uC_in tyC tyC_ok nmC hown hK hP hD hS 0 rfl rfl 1 (by decide) (hq _ q_20) (fun _ h9 => h9) rfl hin rfl (by decide +kernel) rfl rfl (Nat.le_of_ble_eq_true rfl) dC_init_17 (fun H locs hP hD hS => ?_)
  have hP : va_P D zCl [(h0, .inr (0, [.ref q7, .ref q15, .null, .null, .null, .null, .int 0])), (q7, .inl (k 0, 32, .inl (fun _ => (0 : Int32)))), (q15, .inl (k 1, 32, .inl (fun _ => (0 : Int32))))] H := hP
  have hD : va_D A [(h0, .inr (0, [.ref q7, .ref q15, .null, .null, .null, .null, .int 0])), (q7, .inl (k 0, 32, .inl (fun _ => (0 : Int32)))), (q15, .inl (k 1, 32, .inl (fun _ => (0 : Int32))))] := hD
  refine lv_aload_n hx hb dC_init_20 rfl (lv_at hl 0 rfl) ?_
  refine lv_bipush (v := 32) hx hb dC_init_21 (by decide) ?_
  refine zn_i hx hb (hq _ q_42) hK hP hD hS hA (N' := 32) (by decide) (by decide) (by decide) (Nat.le_of_ble_eq_true rfl) (Nat.le_of_ble_eq_true rfl) dC_init_23 (fun q23 H hP hD hS => ?_)
  have hP : va_P D zCl [(h0, .inr (0, [.ref q7, .ref q15, .null, .null, .null, .null, .int 0])), (q7, .inl (k 0, 32, .inl (fun _ => (0 : Int32)))), (q15, .inl (k 1, 32, .inl (fun _ => (0 : Int32)))), (q23, .inl (k 1, 32, .inl (fun _ => (0 : Int32))))] H := hP
  have hD : va_D A [(h0, .inr (0, [.ref q7, .ref q15, .null, .null, .null, .null, .int 0])), (q7, .inl (k 0, 32, .inl (fun _ => (0 : Int32)))), (q15, .inl (k 1, 32, .inl (fun _ => (0 : Int32)))), (q23, .inl (k 1, 32, .inl (fun _ => (0 : Int32))))] := hD
  refine va_putF (D := D) (ci := 0) (v := .ref q23) (ty := .array .int) (C := "CapUnit") (T := TC) (N := 7) hx hb hq uC_in tyC tyC_ok nmC hown hK hP hD hS 0 rfl rfl 2 (by decide) (hq _ q_21) (fun _ h9 => h9) rfl hin rfl (by decide +kernel) rfl rfl (Nat.le_of_ble_eq_true rfl) dC_init_25 (fun H locs hP hD hS => ?_)
  have hP : va_P D zCl [(h0, .inr (0, [.ref q7, .ref q15, .ref q23, .null, .null, .null, .int 0])), (q7, .inl (k 0, 32, .inl (fun _ => (0 : Int32)))), (q15, .inl (k 1, 32, .inl (fun _ => (0 : Int32)))), (q23, .inl (k 1, 32, .inl (fun _ => (0 : Int32))))] H := hP
  have hD : va_D A [(h0, .inr (0, [.ref q7, .ref q15, .ref q23, .null, .null, .null, .int 0])), (q7, .inl (k 0, 32, .inl (fun _ => (0 : Int32)))), (q15, .inl (k 1, 32, .inl (fun _ => (0 : Int32)))), (q23, .inl (k 1, 32, .inl (fun _ => (0 : Int32))))] := hD
  refine lv_iconst (v := 0) hx hb dC_init_28 (by decide) ?_
  refine lv_istore_n (lv' := [(1, .int (zI ((0 : Nat) : Int))), (0, .ref h0)]) hx hb dC_init_29 rfl hl (by decide) rfl (fun ls hl => ?_)
  have key : ∀ (j i : Nat) (ls : Array Slot) (H : Heap) (locs : List Loc), i + j = 32 → lv_has ls 2 [(1, .int (zI (i : Nat))), (0, .ref h0)] → va_P D zCl [(h0, .inr (0, [.ref q7, .ref q15, .ref q23, .null, .null, .null, .int 0])), (q7, .inl (k 0, 32, .inl (fun _ => (0 : Int32)))), (q15, .inl (k 1, 32, .inl (fun _ => (0 : Int32)))), (q23, .inl (k 1, 32, .inl (zM i)))] H → va_D A [(h0, .inr (0, [.ref q7, .ref q15, .ref q23, .null, .null, .null, .int 0])), (q7, .inl (k 0, 32, .inl (fun _ => (0 : Int32)))), (q15, .inl (k 1, 32, .inl (fun _ => (0 : Int32)))), (q23, .inl (k 1, 32, .inl (zM i)))] → va_S A s.heap H locs → W p l e (headSpec wC_init { frames := 1, cells := 6, slots := 120, locals := 13 }).room s m [Value.ref h0].toArray below meth c H locs 3 96 (MQ below (va_Qv (fun q : Nat → Nat => q 0 = h0) (fun q t => va_P D zCl (cW q k (fun _ => 0) (fun _ => 0) (zM 32) (fun _ => 0) (fun _ => 0) (fun _ => 0) 0) t.heap ∧ va_K D zCl (zT k) t ∧ va_D A (cW q k (fun _ => 0) (fun _ => 0) (zM 32) (fun _ => 0) (fun _ => 0) (fun _ => 0) 0)) A) [Value.ref h0].toArray s 6 120 A) (F0 m 30 ls []) := by
    intro j
    induction j with
    | zero =>
      intro i ls H locs hi hl hP hD hS
      have h32 : i = 32 := by omega
      subst h32
      refine lv_iload_n hx hb dC_init_30 rfl (lv_at hl 0 rfl) ?_
      refine lv_bipush (v := 32) hx hb dC_init_31 (by decide) ?_
      refine lv_icmp_ge (tgt := 50) hx hb dC_init_33 rfl (fun h1 => ?_) (fun h1 => absurd (show (32 : Int32) ≤ zI ((32 : Nat) : Int) by decide) h1)
      refine lv_aload_n hx hb dC_init_50 rfl (lv_at hl 1 rfl) ?_
      refine lv_bipush (v := 8) hx hb dC_init_51 (by decide) ?_
      refine zn_l hx hb (hq _ q_43) hK hP hD hS hA (N' := 8) (by decide) (by decide) (by decide) (Nat.le_of_ble_eq_true rfl) (Nat.le_of_ble_eq_true rfl) dC_init_53 (fun q53 H hP hD hS => ?_)
      have hP : va_P D zCl [(h0, .inr (0, [.ref q7, .ref q15, .ref q23, .null, .null, .null, .int 0])), (q7, .inl (k 0, 32, .inl (fun _ => (0 : Int32)))), (q15, .inl (k 1, 32, .inl (fun _ => (0 : Int32)))), (q23, .inl (k 1, 32, .inl (zM 32))), (q53, .inl (k 2, 8, .inr (.inl (fun _ => (0 : Int64)))))] H := hP
      have hD : va_D A [(h0, .inr (0, [.ref q7, .ref q15, .ref q23, .null, .null, .null, .int 0])), (q7, .inl (k 0, 32, .inl (fun _ => (0 : Int32)))), (q15, .inl (k 1, 32, .inl (fun _ => (0 : Int32)))), (q23, .inl (k 1, 32, .inl (zM 32))), (q53, .inl (k 2, 8, .inr (.inl (fun _ => (0 : Int64)))))] := hD
      refine va_putF (D := D) (ci := 0) (v := .ref q53) (ty := .array .long) (C := "CapUnit") (T := TC) (N := 7) hx hb hq uC_in tyC tyC_ok nmC hown hK hP hD hS 0 rfl rfl 3 (by decide) (hq _ q_22) (fun _ h9 => h9) rfl hin rfl (by decide +kernel) rfl rfl (Nat.le_of_ble_eq_true rfl) dC_init_55 (fun H locs hP hD hS => ?_)
      have hP : va_P D zCl [(h0, .inr (0, [.ref q7, .ref q15, .ref q23, .ref q53, .null, .null, .int 0])), (q7, .inl (k 0, 32, .inl (fun _ => (0 : Int32)))), (q15, .inl (k 1, 32, .inl (fun _ => (0 : Int32)))), (q23, .inl (k 1, 32, .inl (zM 32))), (q53, .inl (k 2, 8, .inr (.inl (fun _ => (0 : Int64)))))] H := hP
      have hD : va_D A [(h0, .inr (0, [.ref q7, .ref q15, .ref q23, .ref q53, .null, .null, .int 0])), (q7, .inl (k 0, 32, .inl (fun _ => (0 : Int32)))), (q15, .inl (k 1, 32, .inl (fun _ => (0 : Int32)))), (q23, .inl (k 1, 32, .inl (zM 32))), (q53, .inl (k 2, 8, .inr (.inl (fun _ => (0 : Int64)))))] := hD
      refine lv_aload_n hx hb dC_init_58 rfl (lv_at hl 1 rfl) ?_
      refine lv_bipush (v := 8) hx hb dC_init_59 (by decide) ?_
      refine zn_l hx hb (hq _ q_43) hK hP hD hS hA (N' := 8) (by decide) (by decide) (by decide) (Nat.le_of_ble_eq_true rfl) (Nat.le_of_ble_eq_true rfl) dC_init_61 (fun q61 H hP hD hS => ?_)
      have hP : va_P D zCl [(h0, .inr (0, [.ref q7, .ref q15, .ref q23, .ref q53, .null, .null, .int 0])), (q7, .inl (k 0, 32, .inl (fun _ => (0 : Int32)))), (q15, .inl (k 1, 32, .inl (fun _ => (0 : Int32)))), (q23, .inl (k 1, 32, .inl (zM 32))), (q53, .inl (k 2, 8, .inr (.inl (fun _ => (0 : Int64))))), (q61, .inl (k 2, 8, .inr (.inl (fun _ => (0 : Int64)))))] H := hP
      have hD : va_D A [(h0, .inr (0, [.ref q7, .ref q15, .ref q23, .ref q53, .null, .null, .int 0])), (q7, .inl (k 0, 32, .inl (fun _ => (0 : Int32)))), (q15, .inl (k 1, 32, .inl (fun _ => (0 : Int32)))), (q23, .inl (k 1, 32, .inl (zM 32))), (q53, .inl (k 2, 8, .inr (.inl (fun _ => (0 : Int64))))), (q61, .inl (k 2, 8, .inr (.inl (fun _ => (0 : Int64)))))] := hD
      refine va_putF (D := D) (ci := 0) (v := .ref q61) (ty := .array .long) (C := "CapUnit") (T := TC) (N := 7) hx hb hq uC_in tyC tyC_ok nmC hown hK hP hD hS 0 rfl rfl 4 (by decide) (hq _ q_23) (fun _ h9 => h9) rfl hin rfl (by decide +kernel) rfl rfl (Nat.le_of_ble_eq_true rfl) dC_init_63 (fun H locs hP hD hS => ?_)
      have hP : va_P D zCl [(h0, .inr (0, [.ref q7, .ref q15, .ref q23, .ref q53, .ref q61, .null, .int 0])), (q7, .inl (k 0, 32, .inl (fun _ => (0 : Int32)))), (q15, .inl (k 1, 32, .inl (fun _ => (0 : Int32)))), (q23, .inl (k 1, 32, .inl (zM 32))), (q53, .inl (k 2, 8, .inr (.inl (fun _ => (0 : Int64))))), (q61, .inl (k 2, 8, .inr (.inl (fun _ => (0 : Int64)))))] H := hP
      have hD : va_D A [(h0, .inr (0, [.ref q7, .ref q15, .ref q23, .ref q53, .ref q61, .null, .int 0])), (q7, .inl (k 0, 32, .inl (fun _ => (0 : Int32)))), (q15, .inl (k 1, 32, .inl (fun _ => (0 : Int32)))), (q23, .inl (k 1, 32, .inl (zM 32))), (q53, .inl (k 2, 8, .inr (.inl (fun _ => (0 : Int64))))), (q61, .inl (k 2, 8, .inr (.inl (fun _ => (0 : Int64)))))] := hD
      refine lv_aload_n hx hb dC_init_66 rfl (lv_at hl 1 rfl) ?_
      refine lv_bipush (v := 8) hx hb dC_init_67 (by decide) ?_
      refine zn_i hx hb (hq _ q_42) hK hP hD hS hA (N' := 8) (by decide) (by decide) (by decide) (Nat.le_of_ble_eq_true rfl) (Nat.le_of_ble_eq_true rfl) dC_init_69 (fun q69 H hP hD hS => ?_)
      have hP : va_P D zCl [(h0, .inr (0, [.ref q7, .ref q15, .ref q23, .ref q53, .ref q61, .null, .int 0])), (q7, .inl (k 0, 32, .inl (fun _ => (0 : Int32)))), (q15, .inl (k 1, 32, .inl (fun _ => (0 : Int32)))), (q23, .inl (k 1, 32, .inl (zM 32))), (q53, .inl (k 2, 8, .inr (.inl (fun _ => (0 : Int64))))), (q61, .inl (k 2, 8, .inr (.inl (fun _ => (0 : Int64))))), (q69, .inl (k 1, 8, .inl (fun _ => (0 : Int32))))] H := hP
      have hD : va_D A [(h0, .inr (0, [.ref q7, .ref q15, .ref q23, .ref q53, .ref q61, .null, .int 0])), (q7, .inl (k 0, 32, .inl (fun _ => (0 : Int32)))), (q15, .inl (k 1, 32, .inl (fun _ => (0 : Int32)))), (q23, .inl (k 1, 32, .inl (zM 32))), (q53, .inl (k 2, 8, .inr (.inl (fun _ => (0 : Int64))))), (q61, .inl (k 2, 8, .inr (.inl (fun _ => (0 : Int64))))), (q69, .inl (k 1, 8, .inl (fun _ => (0 : Int32))))] := hD
      refine va_putF (D := D) (ci := 0) (v := .ref q69) (ty := .array .int) (C := "CapUnit") (T := TC) (N := 7) hx hb hq uC_in tyC tyC_ok nmC hown hK hP hD hS 0 rfl rfl 5 (by decide) (hq _ q_24) (fun _ h9 => h9) rfl hin rfl (by decide +kernel) rfl rfl (Nat.le_of_ble_eq_true rfl) dC_init_71 (fun H locs hP hD hS => ?_)
      have hP : va_P D zCl [(h0, .inr (0, [.ref q7, .ref q15, .ref q23, .ref q53, .ref q61, .ref q69, .int 0])), (q7, .inl (k 0, 32, .inl (fun _ => (0 : Int32)))), (q15, .inl (k 1, 32, .inl (fun _ => (0 : Int32)))), (q23, .inl (k 1, 32, .inl (zM 32))), (q53, .inl (k 2, 8, .inr (.inl (fun _ => (0 : Int64))))), (q61, .inl (k 2, 8, .inr (.inl (fun _ => (0 : Int64))))), (q69, .inl (k 1, 8, .inl (fun _ => (0 : Int32))))] H := hP
      have hD : va_D A [(h0, .inr (0, [.ref q7, .ref q15, .ref q23, .ref q53, .ref q61, .ref q69, .int 0])), (q7, .inl (k 0, 32, .inl (fun _ => (0 : Int32)))), (q15, .inl (k 1, 32, .inl (fun _ => (0 : Int32)))), (q23, .inl (k 1, 32, .inl (zM 32))), (q53, .inl (k 2, 8, .inr (.inl (fun _ => (0 : Int64))))), (q61, .inl (k 2, 8, .inr (.inl (fun _ => (0 : Int64))))), (q69, .inl (k 1, 8, .inl (fun _ => (0 : Int32))))] := hD
      refine lv_aload_n hx hb dC_init_74 rfl (lv_at hl 1 rfl) ?_
      refine lv_iconst (v := 0) hx hb dC_init_75 (by decide) ?_
      refine va_put (D := D) (ci := 0) (v := .int (0 : Int32)) (ty := .int) (C := "CapUnit") (T := TC) (N := 7) hx hb hq uC_in tyC tyC_ok nmC hown hK hP hD hS 0 rfl rfl 6 (by decide) (hq _ q_25) (fun _ h9 => h9) rfl (by decide +kernel) rfl rfl (Nat.le_of_ble_eq_true rfl) dC_init_76 (fun H locs hP hD hS => ?_)
      have hP : va_P D zCl [(h0, .inr (0, [.ref q7, .ref q15, .ref q23, .ref q53, .ref q61, .ref q69, .int (0 : Int32)])), (q7, .inl (k 0, 32, .inl (fun _ => (0 : Int32)))), (q15, .inl (k 1, 32, .inl (fun _ => (0 : Int32)))), (q23, .inl (k 1, 32, .inl (zM 32))), (q53, .inl (k 2, 8, .inr (.inl (fun _ => (0 : Int64))))), (q61, .inl (k 2, 8, .inr (.inl (fun _ => (0 : Int64))))), (q69, .inl (k 1, 8, .inl (fun _ => (0 : Int32))))] H := hP
      have hD : va_D A [(h0, .inr (0, [.ref q7, .ref q15, .ref q23, .ref q53, .ref q61, .ref q69, .int (0 : Int32)])), (q7, .inl (k 0, 32, .inl (fun _ => (0 : Int32)))), (q15, .inl (k 1, 32, .inl (fun _ => (0 : Int32)))), (q23, .inl (k 1, 32, .inl (zM 32))), (q53, .inl (k 2, 8, .inr (.inl (fun _ => (0 : Int64))))), (q61, .inl (k 2, 8, .inr (.inl (fun _ => (0 : Int64))))), (q69, .inl (k 1, 8, .inl (fun _ => (0 : Int32))))] := hD
      exact W.vret hx hb hr (fun t9 ht hW => ⟨⟨zQ7 h0 q7 q15 q23 q53 q61 q69, rfl, rfl, by rw [ht]; exact hP, va_K.moved hW.alike hK, hD⟩, hS.F ht⟩) hS.2.2 dC_init_79
    | succ j ih =>
      intro i ls H locs hi hl hP hD hS
      have hi32 : vp_in (zI (i : Nat)) 32 := zI_in (by omega) (by omega)
      refine lv_iload_n hx hb dC_init_30 rfl (lv_at hl 0 rfl) ?_
      refine lv_bipush (v := 32) hx hb dC_init_31 (by decide) ?_
      refine lv_icmp_ge (tgt := 50) hx hb dC_init_33 rfl (fun h1 => ?_) (fun h1 => ?_)
      · rw [(show (32 : Int32) = zI 32 by decide), zI_le (by omega) (by omega) (by omega) (by omega)] at h1
        omega
      refine lv_aload_n hx hb dC_init_36 rfl (lv_at hl 1 rfl) ?_
      refine va_get (D := D) (ci := 0) (v := .ref q23) (C := "CapUnit") (T := TC) (N := 7) hx hb hq uC_in hown hK hP 0 rfl rfl 2 (by decide) (hq _ q_21) (fun _ h9 => h9) rfl dC_init_37 ?_
      refine lv_iload_n hx hb dC_init_40 rfl (lv_at hl 0 rfl) ?_
      refine lv_ldc (v := 1000194) hx hb hown (hts (.constant "CapUnit" 20 1000194) (by decide +kernel)) dC_init_41 ?_
      refine va_iast hx hb hK hP hD hS 3 1 rfl rfl hi32 dC_init_43 (fun H locs hP hD hS => ?_)
      rw [zI_cl (show i < 2147483648 by omega)] at hP hD
      have hP : va_P D zCl [(h0, .inr (0, [.ref q7, .ref q15, .ref q23, .null, .null, .null, .int 0])), (q7, .inl (k 0, 32, .inl (fun _ => (0 : Int32)))), (q15, .inl (k 1, 32, .inl (fun _ => (0 : Int32)))), (q23, .inl (k 1, 32, .inl (zM (i + 1))))] H := hP
      have hD : va_D A [(h0, .inr (0, [.ref q7, .ref q15, .ref q23, .null, .null, .null, .int 0])), (q7, .inl (k 0, 32, .inl (fun _ => (0 : Int32)))), (q15, .inl (k 1, 32, .inl (fun _ => (0 : Int32)))), (q23, .inl (k 1, 32, .inl (zM (i + 1))))] := hD
      refine lv_iinc (k := 0) (v := zI ((i + 1 : Nat) : Int)) (lv' := [(1, .int (zI ((i + 1 : Nat) : Int))), (0, .ref h0)]) hx hb dC_init_44 hl rfl (by show zI _ + zI 1 = _; rw [zI_add]; rfl) (by decide) rfl (fun ls hl => ?_)
      refine lv_goto (tgt := 30) hx hb dC_init_47 rfl ?_
      exact ih (i + 1) ls H locs (by omega) hl hP hD hS
  exact key 32 0 ls H _ (by omega) hl hP hD hS
set_option maxHeartbeats 4000000 in
set_option maxRecDepth 100000 in
theorem kM_init (l : Launch) {D : va_G} {k : Nat → ClassId} (h0 sz : Nat) {A : Nat → Prop} (hA0 : ∀ q, sz ≤ q → A q) : Met l yM_init wM_init { frames := 1, cells := 6, slots := 120, locals := 13 } (va_Pc [.ref h0] (fun U => U.heap.size = sz ∧ va_P D zCl [(h0, .inr (1, [.null, .null, .null, .null, .null, .null, .int 0, .int 0, .int 0, .int 0, .long 0]))] U.heap ∧ va_K D zCl (zT k) U ∧ va_D A [(h0, .inr (1, [.null, .null, .null, .null, .null, .null, .int 0, .int 0, .int 0, .int 0, .long 0]))])) (va_Qv (fun q : Nat → Nat => q 0 = h0) (fun q t => va_P D zCl (mW q k (fun _ => 0) (fun _ => 0) (zM 32) (fun _ => 0) (fun _ => 0) (fun _ => 0) 0 0 0 0 0) t.heap ∧ va_K D zCl (zT k) t ∧ va_D A (mW q k (fun _ => 0) (fun _ => 0) (zM 32) (fun _ => 0) (fun _ => 0) (fun _ => 0) 0 0 0 0 0)) A) 6 120 A := by
  refine Met.ofW (cc := cM_init) (maxL := 2) (ret := none) (by decide) rfl ?_
  intro p e s m args below meth c s₁ B hml hv
  obtain ⟨rfl, hsz, hP, hK, hD⟩ := hv
  have hx := B.exec
  have hb := B.bytes
  have hr := B.returns
  have hts := atoms_spec (ws := wM_init) B.pre
  have hq : ∀ w ∈ wA, w.before _ s = true := fun w h => hts w (List.mem_cons_of_mem _ h)
  have hown : s.vm.findClass "CapUnitModel" = some m.cls := findClass_of_methodNamed B.named
  have hlocks := B.notSynchronized
  have hS : va_S A s.heap s.heap [] := va_S.rf
  have hl := lv_entry ([.ref h0]) (n := 2) (Nat.le_of_ble_eq_true rfl)
  rw [lg_entry_eq]
  generalize (lg_sl ([.ref h0]) ++ List.replicate (2 - (lg_sl ([.ref h0])).length) Slot.unset).toArray = ls at hl ⊢
  have hl : lv_has ls 2 [(0, .ref h0)] := hl
  have hA : ∀ q, s.heap.size ≤ q → A q := fun q h => hA0 q (by omega)
  have hin : meth.name = "<init>" := (name_of_methodNamed B.named B.method).1
  refine lv_aload_n hx hb dM_init_0 rfl (lv_at hl 0 rfl) ?_
  refine W.objInit hx hb hown (hq _ q_368) (hq _ q_16) (hq _ q_17) rfl (by rw [hml]; exact hl.1) rfl dM_init_1 (Nat.le_of_ble_eq_true rfl) (Nat.le_of_ble_eq_true rfl) ?_
  refine W.eq (g2 := F0 m 4 ls []) rfl ?_
  refine lv_aload_n hx hb dM_init_4 rfl (lv_at hl 0 rfl) ?_
  refine lv_bipush (v := 32) hx hb dM_init_5 (by decide) ?_
  refine zn_z hx hb (hq _ q_41) hK hP hD hS hA (N' := 32) (by decide) (by decide) (by decide) (Nat.le_of_ble_eq_true rfl) (Nat.le_of_ble_eq_true rfl) dM_init_7 (fun q7 H hP hD hS => ?_)
  have hP : va_P D zCl [(h0, .inr (1, [.null, .null, .null, .null, .null, .null, .int 0, .int 0, .int 0, .int 0, .long 0])), (q7, .inl (k 0, 32, .inl (fun _ => (0 : Int32))))] H := hP
  have hD : va_D A [(h0, .inr (1, [.null, .null, .null, .null, .null, .null, .int 0, .int 0, .int 0, .int 0, .long 0])), (q7, .inl (k 0, 32, .inl (fun _ => (0 : Int32))))] := hD
  refine va_putF (D := D) (ci := 1) (v := .ref q7) (ty := .array .boolean) (C := "CapUnitModel") (T := TM) (N := 11) hx hb hq uM_in tyM tyM_ok nmM hown hK hP hD hS 0 rfl rfl 0 (by decide) (hq _ q_370) (fun _ h9 => h9) rfl hin rfl (by decide +kernel) rfl rfl (Nat.le_of_ble_eq_true rfl) dM_init_9 (fun H locs hP hD hS => ?_)
  have hP : va_P D zCl [(h0, .inr (1, [.ref q7, .null, .null, .null, .null, .null, .int 0, .int 0, .int 0, .int 0, .long 0])), (q7, .inl (k 0, 32, .inl (fun _ => (0 : Int32))))] H := hP
  have hD : va_D A [(h0, .inr (1, [.ref q7, .null, .null, .null, .null, .null, .int 0, .int 0, .int 0, .int 0, .long 0])), (q7, .inl (k 0, 32, .inl (fun _ => (0 : Int32))))] := hD
  refine lv_aload_n hx hb dM_init_12 rfl (lv_at hl 0 rfl) ?_
  refine lv_bipush (v := 32) hx hb dM_init_13 (by decide) ?_
  refine zn_i hx hb (hq _ q_42) hK hP hD hS hA (N' := 32) (by decide) (by decide) (by decide) (Nat.le_of_ble_eq_true rfl) (Nat.le_of_ble_eq_true rfl) dM_init_15 (fun q15 H hP hD hS => ?_)
  have hP : va_P D zCl [(h0, .inr (1, [.ref q7, .null, .null, .null, .null, .null, .int 0, .int 0, .int 0, .int 0, .long 0])), (q7, .inl (k 0, 32, .inl (fun _ => (0 : Int32)))), (q15, .inl (k 1, 32, .inl (fun _ => (0 : Int32))))] H := hP
  have hD : va_D A [(h0, .inr (1, [.ref q7, .null, .null, .null, .null, .null, .int 0, .int 0, .int 0, .int 0, .long 0])), (q7, .inl (k 0, 32, .inl (fun _ => (0 : Int32)))), (q15, .inl (k 1, 32, .inl (fun _ => (0 : Int32))))] := hD
  refine va_putF (D := D) (ci := 1) (v := .ref q15) (ty := .array .int) (C := "CapUnitModel") (T := TM) (N := 11) hx hb hq uM_in tyM tyM_ok nmM hown hK hP hD hS 0 rfl rfl 1 (by decide) (hq _ q_371) (fun _ h9 => h9) rfl hin rfl (by decide +kernel) rfl rfl (Nat.le_of_ble_eq_true rfl) dM_init_17 (fun H locs hP hD hS => ?_)
  have hP : va_P D zCl [(h0, .inr (1, [.ref q7, .ref q15, .null, .null, .null, .null, .int 0, .int 0, .int 0, .int 0, .long 0])), (q7, .inl (k 0, 32, .inl (fun _ => (0 : Int32)))), (q15, .inl (k 1, 32, .inl (fun _ => (0 : Int32))))] H := hP
  have hD : va_D A [(h0, .inr (1, [.ref q7, .ref q15, .null, .null, .null, .null, .int 0, .int 0, .int 0, .int 0, .long 0])), (q7, .inl (k 0, 32, .inl (fun _ => (0 : Int32)))), (q15, .inl (k 1, 32, .inl (fun _ => (0 : Int32))))] := hD
  refine lv_aload_n hx hb dM_init_20 rfl (lv_at hl 0 rfl) ?_
  refine lv_bipush (v := 32) hx hb dM_init_21 (by decide) ?_
  refine zn_i hx hb (hq _ q_42) hK hP hD hS hA (N' := 32) (by decide) (by decide) (by decide) (Nat.le_of_ble_eq_true rfl) (Nat.le_of_ble_eq_true rfl) dM_init_23 (fun q23 H hP hD hS => ?_)
  have hP : va_P D zCl [(h0, .inr (1, [.ref q7, .ref q15, .null, .null, .null, .null, .int 0, .int 0, .int 0, .int 0, .long 0])), (q7, .inl (k 0, 32, .inl (fun _ => (0 : Int32)))), (q15, .inl (k 1, 32, .inl (fun _ => (0 : Int32)))), (q23, .inl (k 1, 32, .inl (fun _ => (0 : Int32))))] H := hP
  have hD : va_D A [(h0, .inr (1, [.ref q7, .ref q15, .null, .null, .null, .null, .int 0, .int 0, .int 0, .int 0, .long 0])), (q7, .inl (k 0, 32, .inl (fun _ => (0 : Int32)))), (q15, .inl (k 1, 32, .inl (fun _ => (0 : Int32)))), (q23, .inl (k 1, 32, .inl (fun _ => (0 : Int32))))] := hD
  refine va_putF (D := D) (ci := 1) (v := .ref q23) (ty := .array .int) (C := "CapUnitModel") (T := TM) (N := 11) hx hb hq uM_in tyM tyM_ok nmM hown hK hP hD hS 0 rfl rfl 2 (by decide) (hq _ q_372) (fun _ h9 => h9) rfl hin rfl (by decide +kernel) rfl rfl (Nat.le_of_ble_eq_true rfl) dM_init_25 (fun H locs hP hD hS => ?_)
  have hP : va_P D zCl [(h0, .inr (1, [.ref q7, .ref q15, .ref q23, .null, .null, .null, .int 0, .int 0, .int 0, .int 0, .long 0])), (q7, .inl (k 0, 32, .inl (fun _ => (0 : Int32)))), (q15, .inl (k 1, 32, .inl (fun _ => (0 : Int32)))), (q23, .inl (k 1, 32, .inl (fun _ => (0 : Int32))))] H := hP
  have hD : va_D A [(h0, .inr (1, [.ref q7, .ref q15, .ref q23, .null, .null, .null, .int 0, .int 0, .int 0, .int 0, .long 0])), (q7, .inl (k 0, 32, .inl (fun _ => (0 : Int32)))), (q15, .inl (k 1, 32, .inl (fun _ => (0 : Int32)))), (q23, .inl (k 1, 32, .inl (fun _ => (0 : Int32))))] := hD
  refine lv_aload_n hx hb dM_init_28 rfl (lv_at hl 0 rfl) ?_
  refine lv_bipush (v := 8) hx hb dM_init_29 (by decide) ?_
  refine zn_l hx hb (hq _ q_43) hK hP hD hS hA (N' := 8) (by decide) (by decide) (by decide) (Nat.le_of_ble_eq_true rfl) (Nat.le_of_ble_eq_true rfl) dM_init_31 (fun q31 H hP hD hS => ?_)
  have hP : va_P D zCl [(h0, .inr (1, [.ref q7, .ref q15, .ref q23, .null, .null, .null, .int 0, .int 0, .int 0, .int 0, .long 0])), (q7, .inl (k 0, 32, .inl (fun _ => (0 : Int32)))), (q15, .inl (k 1, 32, .inl (fun _ => (0 : Int32)))), (q23, .inl (k 1, 32, .inl (fun _ => (0 : Int32)))), (q31, .inl (k 2, 8, .inr (.inl (fun _ => (0 : Int64)))))] H := hP
  have hD : va_D A [(h0, .inr (1, [.ref q7, .ref q15, .ref q23, .null, .null, .null, .int 0, .int 0, .int 0, .int 0, .long 0])), (q7, .inl (k 0, 32, .inl (fun _ => (0 : Int32)))), (q15, .inl (k 1, 32, .inl (fun _ => (0 : Int32)))), (q23, .inl (k 1, 32, .inl (fun _ => (0 : Int32)))), (q31, .inl (k 2, 8, .inr (.inl (fun _ => (0 : Int64)))))] := hD
  refine va_putF (D := D) (ci := 1) (v := .ref q31) (ty := .array .long) (C := "CapUnitModel") (T := TM) (N := 11) hx hb hq uM_in tyM tyM_ok nmM hown hK hP hD hS 0 rfl rfl 3 (by decide) (hq _ q_373) (fun _ h9 => h9) rfl hin rfl (by decide +kernel) rfl rfl (Nat.le_of_ble_eq_true rfl) dM_init_33 (fun H locs hP hD hS => ?_)
  have hP : va_P D zCl [(h0, .inr (1, [.ref q7, .ref q15, .ref q23, .ref q31, .null, .null, .int 0, .int 0, .int 0, .int 0, .long 0])), (q7, .inl (k 0, 32, .inl (fun _ => (0 : Int32)))), (q15, .inl (k 1, 32, .inl (fun _ => (0 : Int32)))), (q23, .inl (k 1, 32, .inl (fun _ => (0 : Int32)))), (q31, .inl (k 2, 8, .inr (.inl (fun _ => (0 : Int64)))))] H := hP
  have hD : va_D A [(h0, .inr (1, [.ref q7, .ref q15, .ref q23, .ref q31, .null, .null, .int 0, .int 0, .int 0, .int 0, .long 0])), (q7, .inl (k 0, 32, .inl (fun _ => (0 : Int32)))), (q15, .inl (k 1, 32, .inl (fun _ => (0 : Int32)))), (q23, .inl (k 1, 32, .inl (fun _ => (0 : Int32)))), (q31, .inl (k 2, 8, .inr (.inl (fun _ => (0 : Int64)))))] := hD
  refine lv_aload_n hx hb dM_init_36 rfl (lv_at hl 0 rfl) ?_
  refine lv_bipush (v := 8) hx hb dM_init_37 (by decide) ?_
  refine zn_l hx hb (hq _ q_43) hK hP hD hS hA (N' := 8) (by decide) (by decide) (by decide) (Nat.le_of_ble_eq_true rfl) (Nat.le_of_ble_eq_true rfl) dM_init_39 (fun q39 H hP hD hS => ?_)
  have hP : va_P D zCl [(h0, .inr (1, [.ref q7, .ref q15, .ref q23, .ref q31, .null, .null, .int 0, .int 0, .int 0, .int 0, .long 0])), (q7, .inl (k 0, 32, .inl (fun _ => (0 : Int32)))), (q15, .inl (k 1, 32, .inl (fun _ => (0 : Int32)))), (q23, .inl (k 1, 32, .inl (fun _ => (0 : Int32)))), (q31, .inl (k 2, 8, .inr (.inl (fun _ => (0 : Int64))))), (q39, .inl (k 2, 8, .inr (.inl (fun _ => (0 : Int64)))))] H := hP
  have hD : va_D A [(h0, .inr (1, [.ref q7, .ref q15, .ref q23, .ref q31, .null, .null, .int 0, .int 0, .int 0, .int 0, .long 0])), (q7, .inl (k 0, 32, .inl (fun _ => (0 : Int32)))), (q15, .inl (k 1, 32, .inl (fun _ => (0 : Int32)))), (q23, .inl (k 1, 32, .inl (fun _ => (0 : Int32)))), (q31, .inl (k 2, 8, .inr (.inl (fun _ => (0 : Int64))))), (q39, .inl (k 2, 8, .inr (.inl (fun _ => (0 : Int64)))))] := hD
  refine va_putF (D := D) (ci := 1) (v := .ref q39) (ty := .array .long) (C := "CapUnitModel") (T := TM) (N := 11) hx hb hq uM_in tyM tyM_ok nmM hown hK hP hD hS 0 rfl rfl 4 (by decide) (hq _ q_374) (fun _ h9 => h9) rfl hin rfl (by decide +kernel) rfl rfl (Nat.le_of_ble_eq_true rfl) dM_init_41 (fun H locs hP hD hS => ?_)
  have hP : va_P D zCl [(h0, .inr (1, [.ref q7, .ref q15, .ref q23, .ref q31, .ref q39, .null, .int 0, .int 0, .int 0, .int 0, .long 0])), (q7, .inl (k 0, 32, .inl (fun _ => (0 : Int32)))), (q15, .inl (k 1, 32, .inl (fun _ => (0 : Int32)))), (q23, .inl (k 1, 32, .inl (fun _ => (0 : Int32)))), (q31, .inl (k 2, 8, .inr (.inl (fun _ => (0 : Int64))))), (q39, .inl (k 2, 8, .inr (.inl (fun _ => (0 : Int64)))))] H := hP
  have hD : va_D A [(h0, .inr (1, [.ref q7, .ref q15, .ref q23, .ref q31, .ref q39, .null, .int 0, .int 0, .int 0, .int 0, .long 0])), (q7, .inl (k 0, 32, .inl (fun _ => (0 : Int32)))), (q15, .inl (k 1, 32, .inl (fun _ => (0 : Int32)))), (q23, .inl (k 1, 32, .inl (fun _ => (0 : Int32)))), (q31, .inl (k 2, 8, .inr (.inl (fun _ => (0 : Int64))))), (q39, .inl (k 2, 8, .inr (.inl (fun _ => (0 : Int64)))))] := hD
  refine lv_aload_n hx hb dM_init_44 rfl (lv_at hl 0 rfl) ?_
  refine lv_bipush (v := 8) hx hb dM_init_45 (by decide) ?_
  refine zn_i hx hb (hq _ q_42) hK hP hD hS hA (N' := 8) (by decide) (by decide) (by decide) (Nat.le_of_ble_eq_true rfl) (Nat.le_of_ble_eq_true rfl) dM_init_47 (fun q47 H hP hD hS => ?_)
  have hP : va_P D zCl [(h0, .inr (1, [.ref q7, .ref q15, .ref q23, .ref q31, .ref q39, .null, .int 0, .int 0, .int 0, .int 0, .long 0])), (q7, .inl (k 0, 32, .inl (fun _ => (0 : Int32)))), (q15, .inl (k 1, 32, .inl (fun _ => (0 : Int32)))), (q23, .inl (k 1, 32, .inl (fun _ => (0 : Int32)))), (q31, .inl (k 2, 8, .inr (.inl (fun _ => (0 : Int64))))), (q39, .inl (k 2, 8, .inr (.inl (fun _ => (0 : Int64))))), (q47, .inl (k 1, 8, .inl (fun _ => (0 : Int32))))] H := hP
  have hD : va_D A [(h0, .inr (1, [.ref q7, .ref q15, .ref q23, .ref q31, .ref q39, .null, .int 0, .int 0, .int 0, .int 0, .long 0])), (q7, .inl (k 0, 32, .inl (fun _ => (0 : Int32)))), (q15, .inl (k 1, 32, .inl (fun _ => (0 : Int32)))), (q23, .inl (k 1, 32, .inl (fun _ => (0 : Int32)))), (q31, .inl (k 2, 8, .inr (.inl (fun _ => (0 : Int64))))), (q39, .inl (k 2, 8, .inr (.inl (fun _ => (0 : Int64))))), (q47, .inl (k 1, 8, .inl (fun _ => (0 : Int32))))] := hD
  refine va_putF (D := D) (ci := 1) (v := .ref q47) (ty := .array .int) (C := "CapUnitModel") (T := TM) (N := 11) hx hb hq uM_in tyM tyM_ok nmM hown hK hP hD hS 0 rfl rfl 5 (by decide) (hq _ q_375) (fun _ h9 => h9) rfl hin rfl (by decide +kernel) rfl rfl (Nat.le_of_ble_eq_true rfl) dM_init_49 (fun H locs hP hD hS => ?_)
  have hP : va_P D zCl [(h0, .inr (1, [.ref q7, .ref q15, .ref q23, .ref q31, .ref q39, .ref q47, .int 0, .int 0, .int 0, .int 0, .long 0])), (q7, .inl (k 0, 32, .inl (fun _ => (0 : Int32)))), (q15, .inl (k 1, 32, .inl (fun _ => (0 : Int32)))), (q23, .inl (k 1, 32, .inl (fun _ => (0 : Int32)))), (q31, .inl (k 2, 8, .inr (.inl (fun _ => (0 : Int64))))), (q39, .inl (k 2, 8, .inr (.inl (fun _ => (0 : Int64))))), (q47, .inl (k 1, 8, .inl (fun _ => (0 : Int32))))] H := hP
  have hD : va_D A [(h0, .inr (1, [.ref q7, .ref q15, .ref q23, .ref q31, .ref q39, .ref q47, .int 0, .int 0, .int 0, .int 0, .long 0])), (q7, .inl (k 0, 32, .inl (fun _ => (0 : Int32)))), (q15, .inl (k 1, 32, .inl (fun _ => (0 : Int32)))), (q23, .inl (k 1, 32, .inl (fun _ => (0 : Int32)))), (q31, .inl (k 2, 8, .inr (.inl (fun _ => (0 : Int64))))), (q39, .inl (k 2, 8, .inr (.inl (fun _ => (0 : Int64))))), (q47, .inl (k 1, 8, .inl (fun _ => (0 : Int32))))] := hD
  refine lv_iconst (v := 0) hx hb dM_init_52 (by decide) ?_
  refine lv_istore_n (lv' := [(1, .int (zI ((0 : Nat) : Int))), (0, .ref h0)]) hx hb dM_init_53 rfl hl (by decide) rfl (fun ls hl => ?_)
  have key : ∀ (j i : Nat) (ls : Array Slot) (H : Heap) (locs : List Loc), i + j = 32 → lv_has ls 2 [(1, .int (zI (i : Nat))), (0, .ref h0)] → va_P D zCl [(h0, .inr (1, [.ref q7, .ref q15, .ref q23, .ref q31, .ref q39, .ref q47, .int 0, .int 0, .int 0, .int 0, .long 0])), (q7, .inl (k 0, 32, .inl (fun _ => (0 : Int32)))), (q15, .inl (k 1, 32, .inl (fun _ => (0 : Int32)))), (q23, .inl (k 1, 32, .inl (zM i))), (q31, .inl (k 2, 8, .inr (.inl (fun _ => (0 : Int64))))), (q39, .inl (k 2, 8, .inr (.inl (fun _ => (0 : Int64))))), (q47, .inl (k 1, 8, .inl (fun _ => (0 : Int32))))] H → va_D A [(h0, .inr (1, [.ref q7, .ref q15, .ref q23, .ref q31, .ref q39, .ref q47, .int 0, .int 0, .int 0, .int 0, .long 0])), (q7, .inl (k 0, 32, .inl (fun _ => (0 : Int32)))), (q15, .inl (k 1, 32, .inl (fun _ => (0 : Int32)))), (q23, .inl (k 1, 32, .inl (zM i))), (q31, .inl (k 2, 8, .inr (.inl (fun _ => (0 : Int64))))), (q39, .inl (k 2, 8, .inr (.inl (fun _ => (0 : Int64))))), (q47, .inl (k 1, 8, .inl (fun _ => (0 : Int32))))] → va_S A s.heap H locs → W p l e (headSpec wM_init { frames := 1, cells := 6, slots := 120, locals := 13 }).room s m [Value.ref h0].toArray below meth c H locs 6 120 (MQ below (va_Qv (fun q : Nat → Nat => q 0 = h0) (fun q t => va_P D zCl (mW q k (fun _ => 0) (fun _ => 0) (zM 32) (fun _ => 0) (fun _ => 0) (fun _ => 0) 0 0 0 0 0) t.heap ∧ va_K D zCl (zT k) t ∧ va_D A (mW q k (fun _ => 0) (fun _ => 0) (zM 32) (fun _ => 0) (fun _ => 0) (fun _ => 0) 0 0 0 0 0)) A) [Value.ref h0].toArray s 6 120 A) (F0 m 54 ls []) := by
    intro j
    induction j with
    | zero =>
      intro i ls H locs hi hl hP hD hS
      have h32 : i = 32 := by omega
      subst h32
      refine lv_iload_n hx hb dM_init_54 rfl (lv_at hl 0 rfl) ?_
      refine lv_bipush (v := 32) hx hb dM_init_55 (by decide) ?_
      refine lv_icmp_ge (tgt := 74) hx hb dM_init_57 rfl (fun h1 => ?_) (fun h1 => absurd (show (32 : Int32) ≤ zI ((32 : Nat) : Int) by decide) h1)
      exact W.vret hx hb hr (fun t9 ht hW => ⟨⟨zQ7 h0 q7 q15 q23 q31 q39 q47, rfl, rfl, by rw [ht]; exact hP, va_K.moved hW.alike hK, hD⟩, hS.F ht⟩) hS.2.2 dM_init_74
    | succ j ih =>
      intro i ls H locs hi hl hP hD hS
      have hi32 : vp_in (zI (i : Nat)) 32 := zI_in (by omega) (by omega)
      refine lv_iload_n hx hb dM_init_54 rfl (lv_at hl 0 rfl) ?_
      refine lv_bipush (v := 32) hx hb dM_init_55 (by decide) ?_
      refine lv_icmp_ge (tgt := 74) hx hb dM_init_57 rfl (fun h1 => ?_) (fun h1 => ?_)
      · rw [(show (32 : Int32) = zI 32 by decide), zI_le (by omega) (by omega) (by omega) (by omega)] at h1
        omega
      refine lv_aload_n hx hb dM_init_60 rfl (lv_at hl 1 rfl) ?_
      refine va_get (D := D) (ci := 1) (v := .ref q23) (C := "CapUnitModel") (T := TM) (N := 11) hx hb hq uM_in hown hK hP 0 rfl rfl 2 (by decide) (hq _ q_372) (fun _ h9 => h9) rfl dM_init_61 ?_
      refine lv_iload_n hx hb dM_init_64 rfl (lv_at hl 0 rfl) ?_
      refine lv_ldc (v := 1000194) hx hb hown (hts (.constant "CapUnitModel" 30 1000194) (by decide +kernel)) dM_init_65 ?_
      refine va_iast hx hb hK hP hD hS 3 1 rfl rfl hi32 dM_init_67 (fun H locs hP hD hS => ?_)
      rw [zI_cl (show i < 2147483648 by omega)] at hP hD
      have hP : va_P D zCl [(h0, .inr (1, [.ref q7, .ref q15, .ref q23, .ref q31, .ref q39, .ref q47, .int 0, .int 0, .int 0, .int 0, .long 0])), (q7, .inl (k 0, 32, .inl (fun _ => (0 : Int32)))), (q15, .inl (k 1, 32, .inl (fun _ => (0 : Int32)))), (q23, .inl (k 1, 32, .inl (zM (i + 1)))), (q31, .inl (k 2, 8, .inr (.inl (fun _ => (0 : Int64))))), (q39, .inl (k 2, 8, .inr (.inl (fun _ => (0 : Int64))))), (q47, .inl (k 1, 8, .inl (fun _ => (0 : Int32))))] H := hP
      have hD : va_D A [(h0, .inr (1, [.ref q7, .ref q15, .ref q23, .ref q31, .ref q39, .ref q47, .int 0, .int 0, .int 0, .int 0, .long 0])), (q7, .inl (k 0, 32, .inl (fun _ => (0 : Int32)))), (q15, .inl (k 1, 32, .inl (fun _ => (0 : Int32)))), (q23, .inl (k 1, 32, .inl (zM (i + 1)))), (q31, .inl (k 2, 8, .inr (.inl (fun _ => (0 : Int64))))), (q39, .inl (k 2, 8, .inr (.inl (fun _ => (0 : Int64))))), (q47, .inl (k 1, 8, .inl (fun _ => (0 : Int32))))] := hD
      refine lv_iinc (k := 0) (v := zI ((i + 1 : Nat) : Int)) (lv' := [(1, .int (zI ((i + 1 : Nat) : Int))), (0, .ref h0)]) hx hb dM_init_68 hl rfl (by show zI _ + zI 1 = _; rw [zI_add]; rfl) (by decide) rfl (fun ls hl => ?_)
      refine lv_goto (tgt := 54) hx hb dM_init_71 rfl ?_
      exact ih (i + 1) ls H locs (by omega) hl hP hD hS
  exact key 32 0 ls H _ (by omega) hl hP hD hS
