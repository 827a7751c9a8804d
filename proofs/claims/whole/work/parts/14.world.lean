/-! The worlds: the class's object and its six arrays, the reference's object and its six arrays. -/
def TC : u_T := fun k => match k with
  | 0 => ("CapUnit", "tags", "[Z", true)
  | 1 => ("CapUnit", "addresses", "[I", true)
  | 2 => ("CapUnit", "metas", "[I", true)
  | 3 => ("CapUnit", "rootBases", "[J", true)
  | 4 => ("CapUnit", "rootTops", "[J", true)
  | 5 => ("CapUnit", "rootPerms", "[I", true)
  | _ => ("CapUnit", "roots", "I", false)
def tyC : Nat → FieldType := fun k => match k with
  | 0 => .array .boolean
  | 1 => .array .int
  | 2 => .array .int
  | 3 => .array .long
  | 4 => .array .long
  | 5 => .array .int
  | _ => .int
theorem nmC : ∀ a, a < 7 → ∀ b, b < 7 → a ≠ b → (TC a).2.1 ≠ (TC b).2.1 := by decide +kernel
theorem tyC_ok : ∀ k, k < 7 → parseFieldDescriptor (TC k).2.2.1 = some (tyC k) := by decide +kernel
def TM : u_T := fun k => match k with
  | 0 => ("CapUnitModel", "tag", "[Z", true)
  | 1 => ("CapUnitModel", "address", "[I", true)
  | 2 => ("CapUnitModel", "meta", "[I", true)
  | 3 => ("CapUnitModel", "rootBase", "[J", true)
  | 4 => ("CapUnitModel", "rootTop", "[J", true)
  | 5 => ("CapUnitModel", "rootPerms", "[I", true)
  | 6 => ("CapUnitModel", "roots", "I", false)
  | 7 => ("CapUnitModel", "thrown", "I", false)
  | 8 => ("CapUnitModel", "packed", "I", false)
  | 9 => ("CapUnitModel", "exact", "Z", false)
  | _ => ("CapUnitModel", "rounded", "J", false)
def tyM : Nat → FieldType := fun k => match k with
  | 0 => .array .boolean
  | 1 => .array .int
  | 2 => .array .int
  | 3 => .array .long
  | 4 => .array .long
  | 5 => .array .int
  | 6 => .int
  | 7 => .int
  | 8 => .int
  | 9 => .boolean
  | _ => .long
theorem nmM : ∀ a, a < 11 → ∀ b, b < 11 → a ≠ b → (TM a).2.1 ≠ (TM b).2.1 := by decide +kernel
theorem tyM_ok : ∀ k, k < 11 → parseFieldDescriptor (TM k).2.2.1 = some (tyM k) := by decide +kernel
abbrev zCl : List vw_C := [("CapUnit", TC, 7), ("CapUnitModel", TM, 11)]
abbrev zT (k : Nat → ClassId) : List (ClassId × FieldType) := [(k 0, .boolean), (k 1, .int), (k 2, .long)]
theorem uC_in : ∀ w ∈ u_ws "CapUnit" TC 7, w ∈ wA := List.forall_mem_cons.mpr ⟨q_26, List.forall_mem_cons.mpr ⟨q_28, List.forall_mem_cons.mpr ⟨q_30, List.forall_mem_cons.mpr ⟨q_32, List.forall_mem_cons.mpr ⟨q_34, List.forall_mem_cons.mpr ⟨q_36, List.forall_mem_cons.mpr ⟨q_38, fun _ h => absurd h List.not_mem_nil⟩⟩⟩⟩⟩⟩⟩
theorem uM_in : ∀ w ∈ u_ws "CapUnitModel" TM 11, w ∈ wA := List.forall_mem_cons.mpr ⟨q_381, List.forall_mem_cons.mpr ⟨q_383, List.forall_mem_cons.mpr ⟨q_385, List.forall_mem_cons.mpr ⟨q_387, List.forall_mem_cons.mpr ⟨q_389, List.forall_mem_cons.mpr ⟨q_391, List.forall_mem_cons.mpr ⟨q_393, List.forall_mem_cons.mpr ⟨q_395, List.forall_mem_cons.mpr ⟨q_397, List.forall_mem_cons.mpr ⟨q_399, List.forall_mem_cons.mpr ⟨q_401, fun _ h => absurd h List.not_mem_nil⟩⟩⟩⟩⟩⟩⟩⟩⟩⟩⟩
/-- the class's object: its cells q, array classes k, tags, addresses, metas, the roots' bases, tops and perms, their number -/
abbrev cW (q : Nat → Nat) (k : Nat → ClassId) (tg ad mt : Nat → Int32) (rb rt : Nat → Int64) (rp : Nat → Int32) (nr : Int32) : va_W := [(q 0, .inr (0, [.ref (q 1), .ref (q 2), .ref (q 3), .ref (q 4), .ref (q 5), .ref (q 6), .int nr])), (q 1, .inl (k 0, 32, .inl tg)), (q 2, .inl (k 1, 32, .inl ad)), (q 3, .inl (k 1, 32, .inl mt)), (q 4, .inl (k 2, 8, .inr (.inl rb))), (q 5, .inl (k 2, 8, .inr (.inl rt))), (q 6, .inl (k 1, 8, .inl rp))]
/-- the reference's object: beside the same the fields thrown, packed, exact, rounded -/
abbrev mW (q : Nat → Nat) (k : Nat → ClassId) (tg ad mt : Nat → Int32) (rb rt : Nat → Int64) (rp : Nat → Int32) (nr th pk ex : Int32) (ro : Int64) : va_W := [(q 0, .inr (1, [.ref (q 1), .ref (q 2), .ref (q 3), .ref (q 4), .ref (q 5), .ref (q 6), .int nr, .int th, .int pk, .int ex, .long ro])), (q 1, .inl (k 0, 32, .inl tg)), (q 2, .inl (k 1, 32, .inl ad)), (q 3, .inl (k 1, 32, .inl mt)), (q 4, .inl (k 2, 8, .inr (.inl rb))), (q 5, .inl (k 2, 8, .inr (.inl rt))), (q 6, .inl (k 1, 8, .inl rp))]
theorem zr_blind {av : List Value} {H : Heap} {D : va_G} {ty : List (ClassId × FieldType)} : FrameBlind (va_Pc av (fun U => U.heap = H ∧ va_K D zCl ty U)) := fun a U g mk h => ⟨h.1, h.2.1, va_K.moved (u := U) (U := U.calling g mk a) (Vm.Alike.refl U.vm) h.2.2⟩
theorem zr_pre {s : State} {H : Heap} {D : va_G} {ws : va_W} {ty : List (ClassId × FieldType)} {b : Nat} {As : List Value} {c : vw_C} {ci q0 : Nat} {fs : List Value} (hK : va_K D zCl ty s) (hP : va_P D zCl ws H) (hc : zCl[ci]? = some c) (he : ws[q0]? = some (b, .inr (ci, fs))) : PreV s H c.1 b (va_Pc (.ref b :: As) (fun U => U.heap = H ∧ va_K D zCl ty U)) As :=
  ⟨zr_blind, va_recv hK hP hc he, fun U hU hW => ⟨rfl, hU, va_K.moved hW.alike hK⟩⟩
theorem zz_nar {v : Int32} (h : v = 0 ∨ v = 1) : narrow .boolean (.int v) = .int v := by
  rcases h with rfl | rfl <;> rfl
theorem zz_reg {r : Int32} (h : ¬ fC_isRegister r = 0) : vp_in r 32 := by
  unfold fC_isRegister at h
  split at h
  · exact absurd rfl h
  · split at h
    · exact absurd rfl h
    · rename_i h1 h2
      rw [vp_in_iff]
      rw [Int32.lt_iff_toInt_lt] at h1
      rw [Int32.le_iff_toInt_le] at h2
      have e0 : (0 : Int32).toInt = 0 := by decide
      have e32 : (32 : Int32).toInt = 32 := by decide
      omega
theorem zz_reg' {r : Int32} (h : vp_in r 32) : fC_isRegister r = 1 := by
  rw [vp_in_iff] at h
  have e0 : (0 : Int32).toInt = 0 := by decide
  have e32 : (32 : Int32).toInt = 32 := by decide
  unfold fC_isRegister
  rw [if_neg (by rw [Int32.lt_iff_toInt_lt]; omega), if_neg (by rw [Int32.le_iff_toInt_le]; omega)]
