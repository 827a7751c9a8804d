section
-- ===== PART A: goes FIRST, ahead of the names: the tables' words, and 'selects' of the private methods out of them =====
/-- a private method of a class that the tables say can be made, by its rows of tables_1 -/
def lw_okq (q : MethodName × Nat) : Prop := (q.1.cls ≠ "java/lang/invoke/MethodHandle" ∧ q.1.cls ≠ "java/lang/invoke/VarHandle") ∧ Cond.instantiable q.1.cls q.2 ∈ tables_1 ∧ Cond.privateMethod q.1 ∈ tables_1 ∧ Cond.instanceMethod q.1 ∈ tables_1
theorem lw_p0 : lw_okq (⟨"CapUnit", "isFromRoot", "(I)Z"⟩, 7) := ⟨⟨by decide +kernel, by decide +kernel⟩, List.mem_of_getElem? (i := 11) (by decide +kernel), List.mem_of_getElem? (i := 81) (by decide +kernel), List.mem_of_getElem? (i := 82) (by decide +kernel)⟩
theorem lw_p1 : lw_okq (⟨"CapUnit", "isWithin", "(IJJI)Z"⟩, 7) := ⟨⟨by decide +kernel, by decide +kernel⟩, List.mem_of_getElem? (i := 11) (by decide +kernel), List.mem_of_getElem? (i := 85) (by decide +kernel), List.mem_of_getElem? (i := 86) (by decide +kernel)⟩
theorem lw_p2 : lw_okq (⟨"CapUnit", "baseIn", "(I)J"⟩, 7) := ⟨⟨by decide +kernel, by decide +kernel⟩, List.mem_of_getElem? (i := 11) (by decide +kernel), List.mem_of_getElem? (i := 89) (by decide +kernel), List.mem_of_getElem? (i := 90) (by decide +kernel)⟩
theorem lw_p3 : lw_okq (⟨"CapUnit", "topIn", "(I)J"⟩, 7) := ⟨⟨by decide +kernel, by decide +kernel⟩, List.mem_of_getElem? (i := 11) (by decide +kernel), List.mem_of_getElem? (i := 93) (by decide +kernel), List.mem_of_getElem? (i := 94) (by decide +kernel)⟩
theorem lw_p4 : lw_okq (⟨"java/lang/Throwable", "fillInStackTrace", "(I)Ljava/lang/Throwable;"⟩, 6) := ⟨⟨by decide +kernel, by decide +kernel⟩, List.mem_of_getElem? (i := 148) (by decide +kernel), List.mem_of_getElem? (i := 146) (by decide +kernel), List.mem_of_getElem? (i := 147) (by decide +kernel)⟩
theorem lw_p5 : lw_okq (⟨"CapUnit", "become", "(IZII)Z"⟩, 7) := ⟨⟨by decide +kernel, by decide +kernel⟩, List.mem_of_getElem? (i := 11) (by decide +kernel), List.mem_of_getElem? (i := 233) (by decide +kernel), List.mem_of_getElem? (i := 234) (by decide +kernel)⟩
theorem lw_p6 : lw_okq (⟨"CapUnit", "isOpenWithTag", "(I)Z"⟩, 7) := ⟨⟨by decide +kernel, by decide +kernel⟩, List.mem_of_getElem? (i := 11) (by decide +kernel), List.mem_of_getElem? (i := 258) (by decide +kernel), List.mem_of_getElem? (i := 259) (by decide +kernel)⟩
theorem lw_p7 : lw_okq (⟨"CapUnit", "isInBounds", "(IJJ)Z"⟩, 7) := ⟨⟨by decide +kernel, by decide +kernel⟩, List.mem_of_getElem? (i := 11) (by decide +kernel), List.mem_of_getElem? (i := 265) (by decide +kernel), List.mem_of_getElem? (i := 266) (by decide +kernel)⟩
theorem lw_p8 : lw_okq (⟨"CapUnit", "isKey", "(II)Z"⟩, 7) := ⟨⟨by decide +kernel, by decide +kernel⟩, List.mem_of_getElem? (i := 11) (by decide +kernel), List.mem_of_getElem? (i := 290) (by decide +kernel), List.mem_of_getElem? (i := 291) (by decide +kernel)⟩
theorem lw_p9 : lw_okq (⟨"CapUnit", "hasPerm", "(II)Z"⟩, 7) := ⟨⟨by decide +kernel, by decide +kernel⟩, List.mem_of_getElem? (i := 11) (by decide +kernel), List.mem_of_getElem? (i := 294) (by decide +kernel), List.mem_of_getElem? (i := 295) (by decide +kernel)⟩
theorem lw_p10 : lw_okq (⟨"CapUnitModel", "fail", "(I)I"⟩, 11) := ⟨⟨by decide +kernel, by decide +kernel⟩, List.mem_of_getElem? (i := 364) (by decide +kernel), List.mem_of_getElem? (i := 413) (by decide +kernel), List.mem_of_getElem? (i := 414) (by decide +kernel)⟩
theorem lw_p11 : lw_okq (⟨"CapUnitModel", "pack", "(JJ)V"⟩, 11) := ⟨⟨by decide +kernel, by decide +kernel⟩, List.mem_of_getElem? (i := 364) (by decide +kernel), List.mem_of_getElem? (i := 422) (by decide +kernel), List.mem_of_getElem? (i := 423) (by decide +kernel)⟩
theorem lw_p12 : lw_okq (⟨"CapUnitModel", "set", "(IZII)Z"⟩, 11) := ⟨⟨by decide +kernel, by decide +kernel⟩, List.mem_of_getElem? (i := 364) (by decide +kernel), List.mem_of_getElem? (i := 430) (by decide +kernel), List.mem_of_getElem? (i := 431) (by decide +kernel)⟩
theorem lw_p13 : lw_okq (⟨"CapUnitModel", "is", "([I)Z"⟩, 11) := ⟨⟨by decide +kernel, by decide +kernel⟩, List.mem_of_getElem? (i := 364) (by decide +kernel), List.mem_of_getElem? (i := 463) (by decide +kernel), List.mem_of_getElem? (i := 464) (by decide +kernel)⟩
theorem lw_p14 : lw_okq (⟨"CapUnitModel", "isOpen", "(I)Z"⟩, 11) := ⟨⟨by decide +kernel, by decide +kernel⟩, List.mem_of_getElem? (i := 364) (by decide +kernel), List.mem_of_getElem? (i := 471) (by decide +kernel), List.mem_of_getElem? (i := 472) (by decide +kernel)⟩
theorem lw_p15 : lw_okq (⟨"CapUnitModel", "has", "(II)Z"⟩, 11) := ⟨⟨by decide +kernel, by decide +kernel⟩, List.mem_of_getElem? (i := 364) (by decide +kernel), List.mem_of_getElem? (i := 497) (by decide +kernel), List.mem_of_getElem? (i := 498) (by decide +kernel)⟩
def lw_privs_1 : List (MethodName × Nat) := [(⟨"CapUnit", "isFromRoot", "(I)Z"⟩, 7), (⟨"CapUnit", "isWithin", "(IJJI)Z"⟩, 7), (⟨"CapUnit", "baseIn", "(I)J"⟩, 7), (⟨"CapUnit", "topIn", "(I)J"⟩, 7), (⟨"java/lang/Throwable", "fillInStackTrace", "(I)Ljava/lang/Throwable;"⟩, 6), (⟨"CapUnit", "become", "(IZII)Z"⟩, 7), (⟨"CapUnit", "isOpenWithTag", "(I)Z"⟩, 7), (⟨"CapUnit", "isInBounds", "(IJJ)Z"⟩, 7), (⟨"CapUnit", "isKey", "(II)Z"⟩, 7), (⟨"CapUnit", "hasPerm", "(II)Z"⟩, 7), (⟨"CapUnitModel", "fail", "(I)I"⟩, 11), (⟨"CapUnitModel", "pack", "(JJ)V"⟩, 11), (⟨"CapUnitModel", "set", "(IZII)Z"⟩, 11), (⟨"CapUnitModel", "is", "([I)Z"⟩, 11), (⟨"CapUnitModel", "isOpen", "(I)Z"⟩, 11), (⟨"CapUnitModel", "has", "(II)Z"⟩, 11)]
theorem lw_r1 : ∀ q ∈ lw_privs_1, lw_okq q := List.forall_mem_cons.mpr ⟨lw_p0, List.forall_mem_cons.mpr ⟨lw_p1, List.forall_mem_cons.mpr ⟨lw_p2, List.forall_mem_cons.mpr ⟨lw_p3, List.forall_mem_cons.mpr ⟨lw_p4, List.forall_mem_cons.mpr ⟨lw_p5, List.forall_mem_cons.mpr ⟨lw_p6, List.forall_mem_cons.mpr ⟨lw_p7, List.forall_mem_cons.mpr ⟨lw_p8, List.forall_mem_cons.mpr ⟨lw_p9, List.forall_mem_cons.mpr ⟨lw_p10, List.forall_mem_cons.mpr ⟨lw_p11, List.forall_mem_cons.mpr ⟨lw_p12, List.forall_mem_cons.mpr ⟨lw_p13, List.forall_mem_cons.mpr ⟨lw_p14, List.forall_mem_cons.mpr ⟨lw_p15, fun _ h => absurd h List.not_mem_nil⟩⟩⟩⟩⟩⟩⟩⟩⟩⟩⟩⟩⟩⟩⟩⟩
theorem lw_p16 : lw_okq (⟨"CapUnitModel", "isWithin", "(II)Z"⟩, 11) := ⟨⟨by decide +kernel, by decide +kernel⟩, List.mem_of_getElem? (i := 364) (by decide +kernel), List.mem_of_getElem? (i := 521) (by decide +kernel), List.mem_of_getElem? (i := 522) (by decide +kernel)⟩
def lw_privs_2 : List (MethodName × Nat) := [(⟨"CapUnitModel", "isWithin", "(II)Z"⟩, 11)]
theorem lw_r2 : ∀ q ∈ lw_privs_2, lw_okq q := List.forall_mem_cons.mpr ⟨lw_p16, fun _ h => absurd h List.not_mem_nil⟩
def lw_privs : List (MethodName × Nat) := lw_privs_1 ++ (lw_privs_2)
def lw_tbl : List Cond := k2_sels lw_privs ++ tables_1
theorem lw_privs_ok : ∀ q ∈ lw_privs, lw_okq q := by
  show ∀ q ∈ lw_privs_1 ++ (lw_privs_2), lw_okq q
  exact List.forall_mem_append.mpr ⟨lw_r1, lw_r2⟩
end
section
/-! ===== BEGIN words of one list among another's, by their places ===== -/
theorem goodIn_r {big : List Cond} (ws : List Cond) (ps : List Nat) (hp : ws = ps.filterMap (fun i => big[i]?)) (h : ws.all goodWord = true) : GoodIn big ws := by
  intro w hw
  have h1 := List.all_eq_true.mp h w hw
  rw [hp] at hw
  obtain ⟨i, -, hi⟩ := List.mem_filterMap.mp hw
  have hm : w ∈ big := by first | exact List.mem_of_getElem? hi | exact List.getElem?_mem hi
  exact ⟨hm, good_of_word h1⟩
theorem goodIn_app {big a b : List Cond} (ha : GoodIn big a) (hb : GoodIn big b) : GoodIn big (a ++ b) := fun w h => (List.mem_append.mp h).elim (ha w) (hb w)
theorem goodIn_ca {big a b : List Cond} {c : Cond} (ha : GoodIn big (c :: a)) (hb : GoodIn big b) : GoodIn big (c :: (a ++ b)) := fun w h => (List.mem_cons.mp h).elim (fun e => ha w (List.mem_cons.mpr (Or.inl e))) (fun h => (List.mem_append.mp h).elim (fun h => ha w (List.mem_cons.mpr (Or.inr h))) (hb w))
theorem goodIn_sub {big ws : List Cond} (hm : ∀ w ∈ ws, w ∈ big) (h : ws.all goodWord = true) : GoodIn big ws := fun w hw => ⟨hm w hw, good_of_word (List.all_eq_true.mp h w hw)⟩
/-! ===== END ===== -/

/-! ===== BEGIN exceptions that leave a method, and their catching by the caller (launches without stack traces) ===== -/
section VXA
/-! The laws vx_back, vx_callV, vx_callS, vx_callSW, vx_throw0, vx_throwS follow proofs of the library, with one case more: JvmDerived/Free/Laws.lean (Back.of_free), Shelf42/LK1.lean (callV, callS), Shelf/KitTraced.lean (throwNew0V, throwNewS). -/
/-- where a method has thrown q: the class by its name, the cell, what was written, the world -/
def vx_T (XC : String → State → State → Prop) (st : State) (q : Addr) (t : State) (mc ms : Nat) (free : Addr → Prop) : Prop :=
  ∃ (E : String) (ce : Cell) (L : List Loc), XC E st t ∧ t.heap[q]? = some ce ∧ ce.vm = .none ∧ st.vm.findClass E = some ce.cls ∧ st.WarmedH t.vm ∧ st.sameButNew ({ t with vm := st.vm } : State) L mc ms ∧ ∀ z ∈ L, free z.base
def vx_Q (Qc : Array Value → State → Outcome → State → Prop) (XC : String → State → State → Prop) (mc ms : Nat) (free : Addr → Prop) : Array Value → State → Outcome → State → Prop := fun a st o t =>
  (Qc a st o t ∧ ∃ L, FrameEnd st o t L mc ms ∧ ∀ q ∈ L, free q.base) ∨ ∃ q, o = .threw q ∧ vx_T XC st q t mc ms free
/-- a callee that returns or throws -/
def vx_Met (l : Launch) (y : MethodName) (ws : List Cond) (rm : Room) (Pc : Array Value → State → Prop) (Qc : Array Value → State → Outcome → State → Prop) (XC : String → State → State → Prop) (mc ms : Nat) (free : Addr → Prop) : Prop :=
  MetFree l y (headSpec ws rm) Pc (fun _ _ _ _ _ => True) (vx_Q Qc XC mc ms free)
def vx_Post (XC : String → State → State → Prop) (mc ms : Nat) (free : Addr → Prop) : Pt → Array Value → Addr → Pt → Prop := fun A a q B =>
  ∃ (g : JFrame) (mk : MethodId) (t : State) (L : List Loc) (E : String) (ce : Cell), B.U.heap = t.heap ∧ B.U.vm = t.vm ∧ XC E (A.U.calling g mk a) t ∧ t.heap[q]? = some ce ∧ ce.vm = .none ∧ A.U.vm.findClass E = some ce.cls ∧ B.locs = A.locs ++ L ∧ (∀ z ∈ L, free z.base) ∧ B.cells = A.cells + mc ∧ B.slots = A.slots + ms
def vx_Back (l : Launch) (R : Room) (p : Program) (e : Env) (below : List Frame) (s : State) (sargs : Array Value) (y : MethodName) (len W9 : Nat)
    (Pre : Pt → Array Value → Prop) (Post : Pt → Array Value → Option Value → Pt → Prop) (PostX : Pt → Array Value → Addr → Pt → Prop) : Prop :=
  ∀ (m : MethodId) (meth : Method) (c : Code) (A : Pt) (g : JFrame) (ig : Instr) (mk : MethodId) (a : Array Value),
    Stand p l e R s m sargs below meth c A.U A.locs A.cells A.slots → g.method = m → g.locals.size = c.maxLocals → decode c.code g.pc = .ok (ig, len) →
    2 * g.monitorRoom + (g.stack.map fun v => v.category).sum ≤ W9 → A.U.methodNamed? y = some mk → Pre A a →
    (∃ (v : Option Value) (B : Pt), Stand p l e R s m sargs below meth c B.U B.locs B.cells B.slots ∧ Post A a v B ∧
      Steps p.tables e below (doInvoke e (A.U.setTop g) [] mk a).1 (B.U.setTop { g with pc := g.pc + len, stack := v.toList ++ g.stack })) ∨
    (∃ (q : Addr) (B : Pt), Stand p l e R s m sargs below meth c B.U B.locs B.cells B.slots ∧ PostX A a q B ∧
      Steps p.tables e below (doInvoke e (A.U.setTop g) [] mk a).1 ((B.U.setTop g).pushFrame (.throwing q)))
section Payer
variable {l : Launch} {R : Room} {p : Program} {e : Env} {below : List Frame} {s : State} {sargs : Array Value} {y : MethodName} {len W9 : Nat}
theorem vx_back {ws : List Cond} {rm : Room} {Pc : Array Value → State → Prop} {Qc : Array Value → State → Outcome → State → Prop} {XC : String → State → State → Prop} {mc ms : Nat} {free : Addr → Prop} {bytes : ByteArray} {maxL : Nat} {ret : Option FieldType}
    (hM : vx_Met l y ws rm Pc Qc XC mc ms free) (hblind : FrameBlind Pc) (hrc : rm.cells = mc) (hrs : rm.slots = ms)
    (hframes : rm.frames + 1 ≤ R.frames) (hlocals : W9 + (maxL + 11) + rm.locals ≤ R.locals)
    (hws : ∀ w ∈ ws, ∀ a' U, s.WarmedH U.vm → w.before a' U = true) (hcode : Cond.code y bytes maxL ret ∈ ws) (hinit : ∀ a' U, s.WarmedH U.vm → (Cond.initialized y.cls).before a' U = true) :
    vx_Back l R p e below s sargs y len W9 (PreOf R mc ms Pc) (PostOf Qc mc ms free) (vx_Post XC mc ms free) := by
  intro m meth c A g ig mk a X hg hsize hdg hW hn hp
  have h1 : (headSpec ws rm).pre.before a A.U = true := atoms_intro fun w hw => hws w hw _ _ X.warmed
  have h2 : (Cond.code y bytes maxL ret).before a A.U = true := hws _ hcode _ _ X.warmed
  have h3 : (Cond.initialized y.cls).before a A.U = true := hinit _ _ X.warmed
  have h4 : A.cells + (headSpec ws rm).room.cells ≤ R.cells := by rw [show (headSpec ws rm).room.cells = mc from hrc]; exact hp.1
  have h5 : A.slots + (headSpec ws rm).room.slots ≤ R.slots := by rw [show (headSpec ws rm).room.slots = ms from hrs]; exact hp.2.1
  have hPc : Pc a (A.U.calling g mk a) := hblind _ _ _ _ hp.2.2
  obtain ⟨U, Ls, c0, s0⟩ := A
  dsimp only [Pt.U, Pt.locs, Pt.cells, Pt.slots] at h1 h2 h3 h4 h5 X hn hPc ⊢
  obtain ⟨methY, cY, hmY, hcY, -, hlY, -, -, -, -⟩ := Cond.code_spec hn h2
  obtain ⟨kY, hkY, -⟩ := className_of_methodNamed hn
  have hinitY : kY.init = .initialized := Cond.initialized_spec (findClass_of_methodNamed hn) hkY h3
  have h : At U g.method c below := by rw [hg]; exact X.here
  have hlocals9 : W9 + (maxL + 11) + (headSpec ws rm).room.locals ≤ R.locals := hlocals
  have happ : (headSpec ws rm).appliesLoose y e.platform (U.calling g mk a) = true :=
    Spec.appliesLoose_calling (g := g) h hdg hn hkY hinitY
      (X.room_calling (g := g) (R' := (headSpec ws rm).room) hsize hmY hcY hframes (by rw [hlY]; omega) h4 h5) h1
  obtain ⟨mid, hmid⟩ := h.above
  have hfr : (U.setTop g).frames = (.java g :: mid) ++ below := by rw [State.frames_setTop' g h.top, hmid]; rfl
  obtain ⟨o, s₂, hsteps, -, hend, hq⟩ := Steps.callFree hM p X.admits X.cas X.clock (acts := []) hfr happ hPc trivial
  have hq' : vx_Q Qc XC mc ms free a (U.calling g mk a) o s₂ := hq
  rw [State.frames_setTop' g h.top] at hend
  obtain ⟨g₀, hg0⟩ := Option.isSome_iff_exists.mp h.top
  obtain ⟨r, hr⟩ := State.topJava?_eq_some.mp hg0
  have hr' : (({ U with heap := s₂.heap, slotsUsed := s₂.slotsUsed } : State).setVm s₂.vm).frames = .java g₀ :: r := hr
  rcases hq' with ⟨hqc, L, hfe, hL⟩ | ⟨q, rfl, E, ce, L, hx, hce, hcv, hcl, hW₂, hsm, hL⟩
  · obtain ⟨⟨v, rfl⟩, hW₂, e2, q2, q3, q4, q5, q6⟩ := id hfe
    have e3 : s₂ = ({ (U.calling g mk a).setFrames s₂.frames with heap := s₂.heap, slotsUsed := s₂.slotsUsed } : State).setVm s₂.vm := by
      have : s₂ = ({ s₂ with vm := (U.calling g mk a).vm } : State).setVm s₂.vm := rfl
      rw [e2] at this
      exact this
    obtain ⟨c₂, i₂, len₂, hc₂, hd₂, hf₂⟩ := hend
    have hW' : U.WarmedH s₂.vm := hW₂
    have hcc : c₂ = c := by
      have h1 : s₂.code? g.method = U.code? g.method := by
        rw [State.code?_eq, State.code?_eq, hW'.alike.method?]
      exact Option.some.inj (hc₂.symm.trans (h1.trans h.code))
    subst hcc
    have hlen : len₂ = len := by rw [hdg] at hd₂; cases hd₂; rfl
    subst hlen
    have hs₂ : s₂ = (({ U with heap := s₂.heap, slotsUsed := s₂.slotsUsed } : State).setVm s₂.vm).setTop { g with pc := g.pc + len₂, stack := v.toList ++ g.stack } := by
      refine e3.trans ?_
      rw [hf₂, State.calling_eq h.top, State.setFrames_setFrames, State.setTop_of_frames _ hr', hr]
      rfl
    have hsame : U.sameButNew ({ U with heap := s₂.heap, slotsUsed := s₂.slotsUsed } : State) L mc ms := by
      refine ⟨?_, q2, q3, q4, q5, q6⟩
      obtain ⟨t, ht, -⟩ := State.frames_cons hr
      show ({ U with heap := s₂.heap, slotsUsed := s₂.slotsUsed } : State) = { U.setFrames U.frames with heap := s₂.heap, slotsUsed := s₂.slotsUsed }
      rw [State.setFrames_self ht]
    subst hg
    refine Or.inl ⟨v, ⟨(({ U with heap := s₂.heap, slotsUsed := s₂.slotsUsed } : State).setVm s₂.vm), Ls ++ L, c0 + mc, s0 + ms⟩,
      ⟨X.admits, X.cas, X.clock, X.frames, X.room, X.hears, X.method, X.code, (X.here.setHeapUsed s₂.heap s₂.slotsUsed).setVm hW'.alike, X.tail, State.WarmedH.trans X.warmed hW', X.limits, X.bytes, X.same.trans (hsame.setVm s.vm)⟩,
      ⟨g, mk, s₂, L, rfl, rfl, hqc, rfl, hL, rfl, rfl⟩, ?_⟩
    show Steps p.tables e below _ ((({ U with heap := s₂.heap, slotsUsed := s₂.slotsUsed } : State).setVm s₂.vm).setTop { g with pc := g.pc + len₂, stack := v.toList ++ g.stack })
    rw [← hs₂]
    exact hsteps
  · obtain ⟨e2, q2, q3, q4, q5, q6⟩ := id hsm
    have e3 : s₂ = ({ (U.calling g mk a).setFrames s₂.frames with heap := s₂.heap, slotsUsed := s₂.slotsUsed } : State).setVm s₂.vm := by
      have : s₂ = ({ s₂ with vm := (U.calling g mk a).vm } : State).setVm s₂.vm := rfl
      rw [e2] at this
      exact this
    have hf₂ : s₂.frames = .throwing q :: .java g :: U.frames.tail := hend
    have hW' : U.WarmedH s₂.vm := hW₂
    have hs₂ : s₂ = ((({ U with heap := s₂.heap, slotsUsed := s₂.slotsUsed } : State).setVm s₂.vm).setTop g).pushFrame (.throwing q) := by
      refine e3.trans ?_
      rw [hf₂, State.calling_eq h.top, State.setFrames_setFrames, State.pushFrame, State.frames_setTop _ hr', State.setTop_of_frames _ hr', State.setFrames_setFrames, hr]
      rfl
    have hsame : U.sameButNew ({ U with heap := s₂.heap, slotsUsed := s₂.slotsUsed } : State) L mc ms := by
      refine ⟨?_, q2, q3, q4, q5, q6⟩
      obtain ⟨t, ht, -⟩ := State.frames_cons hr
      show ({ U with heap := s₂.heap, slotsUsed := s₂.slotsUsed } : State) = { U.setFrames U.frames with heap := s₂.heap, slotsUsed := s₂.slotsUsed }
      rw [State.setFrames_self ht]
    subst hg
    refine Or.inr ⟨q, ⟨(({ U with heap := s₂.heap, slotsUsed := s₂.slotsUsed } : State).setVm s₂.vm), Ls ++ L, c0 + mc, s0 + ms⟩,
      ⟨X.admits, X.cas, X.clock, X.frames, X.room, X.hears, X.method, X.code, (X.here.setHeapUsed s₂.heap s₂.slotsUsed).setVm hW'.alike, X.tail, State.WarmedH.trans X.warmed hW', X.limits, X.bytes, X.same.trans (hsame.setVm s.vm)⟩,
      ⟨g, mk, s₂, L, E, ce, rfl, rfl, hx, hce, hcv, hcl, rfl, hL, rfl, rfl⟩, ?_⟩
    show Steps p.tables e below _ (((({ U with heap := s₂.heap, slotsUsed := s₂.slotsUsed } : State).setVm s₂.vm).setTop g).pushFrame (.throwing q))
    rw [← hs₂]
    exact hsteps
end Payer
section Calls
variable {p : Program} {l : Launch} {e : Env} {R : Room} {s : State} {m : MethodId} {args : Array Value} {below : List Frame} {meth : Method} {c : Code} {T : State} {locs : List Loc} {cells slots : Nat}
theorem vx_callV (X : Stand p l e R s m args below meth c T locs cells slots) (hexec : p.tables.exec = Jvm.exec) {own C : String} {index : Nat} {y : MethodName} {bytes : ByteArray} {maxL : Nat} {ret : Option FieldType}
    (hown : s.vm.findClass own = some m.cls) (hlink : (Cond.methodLink own index y).before args s = true) (hinst : (Cond.instanceMethod y).before args s = true) (hsel : (Cond.selects C y y).before args s = true)
    (hcode : (Cond.code y bytes maxL ret).before args s = true) (hy : y.cls ≠ "java/lang/invoke/MethodHandle" ∧ y.cls ≠ "java/lang/invoke/VarHandle")
    {W9 : Nat} {Pre : Pt → Array Value → Prop} {Post : Pt → Array Value → Option Value → Pt → Prop} {PostX : Pt → Array Value → Addr → Pt → Prop} (hK : vx_Back l R p e below s args y 3 W9 Pre Post PostX)
    {b : Addr} {cellB : Cell} (hcell : T.heap[b]? = some cellB) (hobj : cellB.vm.isStatics = false) (hcls : s.vm.findClass C = some cellB.cls)
    {g : JFrame} (hg : g.method = m) (hsize : g.locals.size = c.maxLocals) {argsL rest : List Value} (hlen : ∀ sig, parseMethodDescriptor y.desc = some sig → argsL.length = sig.parameters.length)
    (hstack : g.stack = argsL.reverse ++ .ref b :: rest) (hW : 2 * g.monitorRoom + (rest.map fun v => v.category).sum ≤ W9) (hdg : decode c.code g.pc = .ok (.invokevirtual index, 3))
    (hpre : ∀ vm₁, s.WarmedH vm₁ → Pre ⟨T.setVm vm₁, locs, cells, slots⟩ (Value.ref b :: argsL).toArray) :
    (∃ (v : Option Value) (vm₁ : Vm) (B : Pt), s.WarmedH vm₁ ∧ Stand p l e R s m args below meth c B.U B.locs B.cells B.slots ∧ Post ⟨T.setVm vm₁, locs, cells, slots⟩ (Value.ref b :: argsL).toArray v B ∧
      ∀ target, Steps p.tables e below (B.U.setTop { g with pc := g.pc + 3, stack := v.toList ++ rest }) target → Steps p.tables e below (T.setTop g) target) ∨
    (∃ (q : Addr) (vm₁ : Vm) (B : Pt), s.WarmedH vm₁ ∧ Stand p l e R s m args below meth c B.U B.locs B.cells B.slots ∧ PostX ⟨T.setVm vm₁, locs, cells, slots⟩ (Value.ref b :: argsL).toArray q B ∧
      Steps p.tables e below (T.setTop g) ((B.U.setTop { g with stack := rest }).pushFrame (.throwing q))) := by
  obtain ⟨mk, methM, hnamed, hmethM, hstM, habM⟩ := Cond.instanceMethod_spec hinst
  obtain ⟨methM', cM, hmethM', -, -, -, -, -, -, hsigM⟩ := Cond.code_spec hnamed hcode
  cases hmethM.symm.trans hmethM'
  obtain ⟨c2, r2, m2, q1, q2, q3, q4, kP, hkP, hkPi⟩ := Cond.selects_spec hsel
  cases hcls.symm.trans q1
  cases (State.methodFound?_of_named hnamed hy).symm.trans q2
  cases hnamed.symm.trans q3
  have hselP : selectMethod e.platform s.vm cellB.cls mk = .method mk := by rw [Launch.admits_selectMethod X.admits]; exact q4
  obtain ⟨vm₁, X₁, hstep₁⟩ := X.invokevirtual hexec hown hlink hnamed hmethM hstM hkP hkPi hy (a := b) (cell := cellB) hcell
    (fun z h => by rw [h] at hobj; cases hobj) hselP hmethM habM hkP hkPi (g := g) hg (argsL := argsL) (rest := rest) (hlen _ hsigM) hstack hdg
  rcases hK m meth c ⟨T.setVm vm₁, locs, cells, slots⟩ { g with stack := rest } (.invokevirtual index) mk (Value.ref b :: argsL).toArray X₁ hg hsize hdg hW (X₁.named hnamed) (hpre vm₁ X₁.warmed) with ⟨v, B, X', hpost, hsteps⟩ | ⟨q, B, X', hpost, hsteps⟩
  · exact Or.inl ⟨v, vm₁, B, X₁.warmed, X', hpost, fun target h => hstep₁ _ fun acts => by rw [doInvoke_state]; exact hsteps.trans h⟩
  · exact Or.inr ⟨q, vm₁, B, X₁.warmed, X', hpost, hstep₁ _ fun acts => by rw [doInvoke_state]; exact hsteps⟩
theorem vx_callS (X : Stand p l e R s m args below meth c T locs cells slots) (hexec : p.tables.exec = Jvm.exec) {own : String} {index : Nat} {y : MethodName} {bytes : ByteArray} {maxL : Nat} {ret : Option FieldType}
    (hown : s.vm.findClass own = some m.cls) (hlink : (Cond.methodLink own index y).before args s = true) (hstat : (Cond.static y).before args s = true) (hinit : (Cond.initialized y.cls).before args s = true)
    (hcode : (Cond.code y bytes maxL ret).before args s = true) (hy : y.cls ≠ "java/lang/invoke/MethodHandle" ∧ y.cls ≠ "java/lang/invoke/VarHandle")
    {W9 : Nat} {Pre : Pt → Array Value → Prop} {Post : Pt → Array Value → Option Value → Pt → Prop} {PostX : Pt → Array Value → Addr → Pt → Prop} (hK : vx_Back l R p e below s args y 3 W9 Pre Post PostX)
    {g : JFrame} (hg : g.method = m) (hsize : g.locals.size = c.maxLocals) {argsL rest : List Value} (hlen : ∀ sig, parseMethodDescriptor y.desc = some sig → argsL.length = sig.parameters.length)
    (hstack : g.stack = argsL.reverse ++ rest) (hW : 2 * g.monitorRoom + (rest.map fun v => v.category).sum ≤ W9) (hdg : decode c.code g.pc = .ok (.invokestatic index, 3))
    (hpre : ∀ vm₁, s.WarmedH vm₁ → Pre ⟨T.setVm vm₁, locs, cells, slots⟩ argsL.toArray) :
    (∃ (v : Option Value) (vm₁ : Vm) (B : Pt), s.WarmedH vm₁ ∧ Stand p l e R s m args below meth c B.U B.locs B.cells B.slots ∧ Post ⟨T.setVm vm₁, locs, cells, slots⟩ argsL.toArray v B ∧
      ∀ target, Steps p.tables e below (B.U.setTop { g with pc := g.pc + 3, stack := v.toList ++ rest }) target → Steps p.tables e below (T.setTop g) target) ∨
    (∃ (q : Addr) (vm₁ : Vm) (B : Pt), s.WarmedH vm₁ ∧ Stand p l e R s m args below meth c B.U B.locs B.cells B.slots ∧ PostX ⟨T.setVm vm₁, locs, cells, slots⟩ argsL.toArray q B ∧
      Steps p.tables e below (T.setTop g) ((B.U.setTop { g with stack := rest }).pushFrame (.throwing q))) := by
  obtain ⟨mk, hnamed⟩ := Cond.code_named hcode
  obtain ⟨methM, cM, hmethM, -, -, -, -, -, -, hsigM⟩ := Cond.code_spec hnamed hcode
  have hstatic : methM.isStatic = true := Cond.static_spec hnamed hmethM hstat
  obtain ⟨kP, hkP, -⟩ := className_of_methodNamed hnamed
  have hinitP : kP.init = .initialized := Cond.initialized_spec (findClass_of_methodNamed hnamed) hkP hinit
  obtain ⟨vm₁, X₁, hstep₁⟩ := X.invokestatic hexec hown hlink hnamed hmethM hstatic hkP hinitP hy (g := g) hg (argsL := argsL) (rest := rest) (hlen _ hsigM) hstack hdg
  rcases hK m meth c ⟨T.setVm vm₁, locs, cells, slots⟩ { g with stack := rest } (.invokestatic index) mk argsL.toArray X₁ hg hsize hdg hW (X₁.named hnamed) (hpre vm₁ X₁.warmed) with ⟨v, B, X', hpost, hsteps⟩ | ⟨q, B, X', hpost, hsteps⟩
  · exact Or.inl ⟨v, vm₁, B, X₁.warmed, X', hpost, fun target h => hstep₁ _ fun acts => by rw [doInvoke_state]; exact hsteps.trans h⟩
  · exact Or.inr ⟨q, vm₁, B, X₁.warmed, X', hpost, hstep₁ _ fun acts => by rw [doInvoke_state]; exact hsteps⟩
end Calls
theorem vx_cls {s : State} {T : State} {vm₁ : Vm} {E : String} {k : ClassId} (hW : s.WarmedH vm₁) (h : (T.setVm vm₁).vm.findClass E = some k) : s.vm.findClass E = some k := by
  have h1 : vm₁.findClass E = some k := h
  rw [hW.alike.findClass] at h1
  exact h1
/-- the method's frame g, with q thrown over it -/
def vx_W (p : Program) (l : Launch) (e : Env) (R : Room) (s : State) (m : MethodId) (args : Array Value) (below : List Frame) (meth : Method) (c : Code) (H : Heap) (locs : List Loc) (cells slots : Nat) (Q : State → Prop) (g : JFrame) (q : Addr) : Prop :=
  ∀ T : State, T.heap = H → Stand p l e R s m args below meth c T locs cells slots → ∃ t, Steps p.tables e below ((T.setTop g).pushFrame (.throwing q)) t ∧ Q t
def vx_Run (p : Program) (l : Launch) (e : Env) (R : Room) (s : State) (m : MethodId) (args : Array Value) (below : List Frame) (meth : Method) (c : Code) (H : Heap) (locs : List Loc) (cells slots mc ms : Nat) (g : JFrame) (rest : List Value) (Qa : State → Outcome → State → Prop) (XC : String → State → State → Prop) (free : Addr → Prop) : Prop :=
  ∀ T : State, T.heap = H → Stand p l e R s m args below meth c T locs cells slots →
    (∃ (v : Option Value) (st₀ t T' : State) (L : List Loc), st₀.heap = H ∧ Stand p l e R s m args below meth c T' (locs ++ L) (cells + mc) (slots + ms) ∧ (∀ q ∈ L, free q.base) ∧ T'.heap = t.heap ∧ T'.vm = t.vm ∧ Qa st₀ (.returned v) t ∧
      Goes p e below T g T' { g with pc := g.pc + 3, stack := v.toList ++ rest }) ∨
    (∃ (q : Addr) (st₀ t T' : State) (L : List Loc) (E : String) (ce : Cell), st₀.heap = H ∧ Stand p l e R s m args below meth c T' (locs ++ L) (cells + mc) (slots + ms) ∧ (∀ z ∈ L, free z.base) ∧ T'.heap = t.heap ∧ T'.vm = t.vm ∧ XC E st₀ t ∧ t.heap[q]? = some ce ∧ ce.vm = .none ∧ s.vm.findClass E = some ce.cls ∧
      Steps p.tables e below (T.setTop g) ((T'.setTop { g with stack := rest }).pushFrame (.throwing q)))
def vx_X {S : Type} (px : S → Prop) (B : String → S → State → Prop) (A : Nat → Prop) : String → State → State → Prop := fun E st t => ∃ u : S, px u ∧ B E u t ∧ va_F A st t
section Runs
variable {p : Program} {l : Launch} {e : Env} {R : Room} {s : State} {m : MethodId} {args : Array Value} {below : List Frame} {meth : Method} {c : Code} {H : Heap} {locs : List Loc} {cells slots : Nat}
variable {y : MethodName} {bytes cc : ByteArray} {maxL nL mc ms n index : Nat} {ret : Option FieldType} {ws : List Cond} {rm : Room} {Pc : Array Value → State → Prop} {Qc : Array Value → State → Outcome → State → Prop} {XC : String → State → State → Prop} {free : Addr → Prop} {Ts : List Cond} {own C : String} {b : Addr} {As rest : List Value} {g : JFrame}
theorem vx_callBack (cb : CallB R s args own index y bytes maxL ret ws rm mc ms n) (hM : vx_Met l y ws rm Pc Qc XC mc ms free) (hbl : FrameBlind Pc) : vx_Back l R p e below s args y 3 8 (PreOf R mc ms Pc) (PostOf Qc mc ms free) (vx_Post XC mc ms free) := by
  obtain ⟨hrc, hrs, hfr, hlo, hws, hcw, -, hini, -⟩ := cb
  exact vx_back (bytes := bytes) (maxL := maxL) (ret := ret) hM hbl hrc hrs hfr hlo hws hcw (fun a' U hW => word_at hW (Or.inl (by first | rfl | simp [Cond.onTables, Cond.keeps, Cond.steady])) hini)
theorem vx_runV (S : CallFix p m c cc nL s args Ts own) (hM : vx_Met l y ws rm Pc Qc XC mc ms free) (cw : CallW R s args own C index y bytes maxL ret ws rm mc ms n) (hp : PreV s H C b Pc As)
    (hg : g.method = m) (hn : As.length = n) (hsize : g.locals.size = nL) (hstack : g.stack = As.reverse ++ .ref b :: rest) (hW : 2 * g.monitorRoom + (rest.map fun v => v.category).sum ≤ 8) (hdg : decode cc g.pc = .ok (.invokevirtual index, 3)) (hf : cells + mc ≤ R.cells ∧ slots + ms ≤ R.slots) :
    vx_Run p l e R s m args below meth c H locs cells slots mc ms g rest (Qc (Value.ref b :: As).toArray) XC free := by
  have hK : vx_Back l R p e below s args y 3 8 (PreOf R mc ms Pc) (PostOf Qc mc ms free) (vx_Post XC mc ms free) := vx_callBack cw.1 hM hp.1
  obtain ⟨⟨-, -, -, -, -, -, hcode, -, hy, hlen, hl⟩, hin, hse⟩ := cw
  obtain ⟨hx, hb, hml, ho, -⟩ := S
  obtain ⟨-, ⟨cellB, hcB, hoB, hclB⟩, hPc⟩ := hp
  intro T hT X
  rcases vx_callV X hx (C := C) (bytes := bytes) (maxL := maxL) (ret := ret) ho hl hin hse hcode hy hK (by rw [hT]; exact hcB) hoB hclB hg (hsize.trans hml.symm) (argsL := As) (rest := rest) (fun sig h => hn.trans (hlen sig h)) hstack hW (by rw [hb]; exact hdg)
    (fun vm₁ hW₁ => ⟨hf.1, hf.2, hPc (T.setVm vm₁) hT hW₁⟩) with ⟨v, vm₁, ⟨U', l2, c2, s2⟩, hW₁, X', ⟨g', mk, t, L, e1, e2, hq, h1, hL, h2, h3⟩, st⟩ | ⟨q, vm₁, ⟨U', l2, c2, s2⟩, hW₁, X', ⟨g', mk, t, L, E, ce, e1, e2, hq, hce, hcv, hcl, h1, hL, h2, h3⟩, st⟩
  · dsimp only [Pt.U, Pt.locs, Pt.cells, Pt.slots] at X' e1 e2 h1 h2 h3 st
    subst h1; subst h2; subst h3
    exact Or.inl ⟨v, (T.setVm vm₁).calling g' mk (Value.ref b :: As).toArray, t, U', L, hT, X', hL, e1, e2, hq, st⟩
  · dsimp only [Pt.U, Pt.locs, Pt.cells, Pt.slots] at X' e1 e2 h1 h2 h3 st hcl
    subst h1; subst h2; subst h3
    exact Or.inr ⟨q, (T.setVm vm₁).calling g' mk (Value.ref b :: As).toArray, t, U', L, E, ce, hT, X', hL, e1, e2, hq, hce, hcv, vx_cls hW₁ hcl, st⟩
theorem vx_runS (S : CallFix p m c cc nL s args Ts own) (hM : vx_Met l y ws rm Pc Qc XC mc ms free) (cw : CallB R s args own index y bytes maxL ret ws rm mc ms n ∧ (Cond.static y).before args s = true) (hp : PreS s H Pc As)
    (hg : g.method = m) (hn : As.length = n) (hsize : g.locals.size = nL) (hstack : g.stack = As.reverse ++ rest) (hW : 2 * g.monitorRoom + (rest.map fun v => v.category).sum ≤ 8) (hdg : decode cc g.pc = .ok (.invokestatic index, 3)) (hf : cells + mc ≤ R.cells ∧ slots + ms ≤ R.slots) :
    vx_Run p l e R s m args below meth c H locs cells slots mc ms g rest (Qc As.toArray) XC free := by
  have hK : vx_Back l R p e below s args y 3 8 (PreOf R mc ms Pc) (PostOf Qc mc ms free) (vx_Post XC mc ms free) := vx_callBack cw.1 hM hp.1
  obtain ⟨⟨-, -, -, -, -, -, hcode, hini, hy, hlen, hl⟩, hstt⟩ := cw
  obtain ⟨hx, hb, hml, ho, -⟩ := S
  intro T hT X
  rcases vx_callS X hx (bytes := bytes) (maxL := maxL) (ret := ret) ho hl hstt hini hcode hy hK hg (hsize.trans hml.symm) (argsL := As) (rest := rest) (fun sig h => hn.trans (hlen sig h)) hstack hW (by rw [hb]; exact hdg)
    (fun vm₁ hW₁ => ⟨hf.1, hf.2, hp.2 (T.setVm vm₁) hT hW₁⟩) with ⟨v, vm₁, ⟨U', l2, c2, s2⟩, hW₁, X', ⟨g', mk, t, L, e1, e2, hq, h1, hL, h2, h3⟩, st⟩ | ⟨q, vm₁, ⟨U', l2, c2, s2⟩, hW₁, X', ⟨g', mk, t, L, E, ce, e1, e2, hq, hce, hcv, hcl, h1, hL, h2, h3⟩, st⟩
  · dsimp only [Pt.U, Pt.locs, Pt.cells, Pt.slots] at X' e1 e2 h1 h2 h3 st
    subst h1; subst h2; subst h3
    exact Or.inl ⟨v, (T.setVm vm₁).calling g' mk As.toArray, t, U', L, hT, X', hL, e1, e2, hq, st⟩
  · dsimp only [Pt.U, Pt.locs, Pt.cells, Pt.slots] at X' e1 e2 h1 h2 h3 st hcl
    subst h1; subst h2; subst h3
    exact Or.inr ⟨q, (T.setVm vm₁).calling g' mk As.toArray, t, U', L, E, ce, hT, X', hL, e1, e2, hq, hce, hcv, vx_cls hW₁ hcl, st⟩
end Runs
section Rows
variable {p : Program} {l : Launch} {e : Env} {R : Room} {s : State} {m : MethodId} {args : Array Value} {below : List Frame} {meth : Method} {c : Code} {H : Heap} {locs : List Loc} {cells slots : Nat} {Q : State → Prop}
variable {mc ms : Nat} {free : Addr → Prop} {A0 A1 : Nat → Prop} {H0 : Heap} {a : Array Value} {pc : Nat} {ls : Array Slot} {st0 rest : List Value}
theorem vx_keep {st₀ t T' : State} {L : List Loc} (h0 : st₀.heap = H) (e1 : T'.heap = t.heap) (hS : va_S A0 H0 H locs) (hA : ∀ q, q < H.size → A1 q → A0 q) (hf : ∀ q, free q → A0 q) (hL : ∀ q ∈ L, free q.base) (hF : va_F A1 st₀ t) :
    H.size ≤ T'.heap.size ∧ (∀ q : Nat, q < H.size → ¬ A1 q → T'.heap[q]? = H[q]?) ∧ va_S A0 H0 T'.heap (locs ++ L) := by
  obtain ⟨hz, hk⟩ := hF
  rw [h0] at hz hk
  exact ⟨by rw [e1]; exact hz, fun q h1 h2 => by rw [e1]; exact hk q h1 h2,
    ⟨Nat.le_trans hS.1 (by rw [e1]; exact hz), fun q h1 h2 => by rw [e1, hk q (Nat.lt_of_lt_of_le h1 hS.1) (fun z => h2 (hA q (Nat.lt_of_lt_of_le h1 hS.1) z))]; exact hS.2.1 q h1 h2, fun q hq => by
      rcases List.mem_append.mp hq with h | h
      · exact hS.2.2 q h
      · exact hf _ (hL q h)⟩⟩
theorem vx_calli {S SX : Type} {post : Int32 → S → Prop} {px : SX → Prop} {B : S → State → Prop} {BX : String → SX → State → Prop} {AX : Nat → Prop} (hr : vx_Run p l e R s m args below meth c H locs cells slots mc ms (F0 m pc ls st0) rest (va_Qi post B A1 a) (vx_X px BX AX) free) (hS : va_S A0 H0 H locs) (hA : ∀ q, q < H.size → A1 q → A0 q) (hf : ∀ q, free q → A0 q) (hAX : ∀ q, q < H.size → AX q → A0 q)
    (kx : ∀ (E : String) (ce : Cell) (q9 : Addr) (u : SX) (t : State) (H1 : Heap) (locs1 : List Loc), t.heap = H1 → s.vm.Alike t.vm → px u → BX E u t → H.size ≤ H1.size → (∀ q : Nat, q < H.size → ¬ AX q → H1[q]? = H[q]?) → va_S A0 H0 H1 locs1 → H1[q9]? = some ce → ce.vm = .none → s.vm.findClass E = some ce.cls → vx_W p l e R s m args below meth c H1 locs1 (cells + mc) (slots + ms) Q (F0 m pc ls rest) q9)
    (kk : ∀ (r : Int32) (u : S) (t : State) (H1 : Heap) (locs1 : List Loc), t.heap = H1 → s.vm.Alike t.vm → post r u → B u t → H.size ≤ H1.size → (∀ q : Nat, q < H.size → ¬ A1 q → H1[q]? = H[q]?) → va_S A0 H0 H1 locs1 → W p l e R s m args below meth c H1 locs1 (cells + mc) (slots + ms) Q (F0 m (pc + 3) ls (.int r :: rest))) : W p l e R s m args below meth c H locs cells slots Q (F0 m pc ls st0) := by
  intro T hT X
  rcases hr T hT X with ⟨v, st₀, t, T', L, h0, X', hL, e1, e2, ⟨⟨r, u, hv, hp, hb⟩, hF⟩, st⟩ | ⟨q, st₀, t, T', L, E, ce, h0, X', hL, e1, e2, ⟨u, hp, hb, hF⟩, hce, hcv, hcl, st⟩
  · cases hv
    obtain ⟨k1, k2, k3⟩ := vx_keep h0 e1 hS hA hf hL hF
    obtain ⟨t2, a1, b1⟩ := kk r u t T'.heap (locs ++ L) e1.symm (by rw [← e2]; exact X'.warmed.alike) hp hb k1 k2 k3 T' rfl X'
    exact ⟨t2, st t2 a1, b1⟩
  · obtain ⟨k1, k2, k3⟩ := vx_keep h0 e1 hS hAX hf hL hF
    obtain ⟨t2, a1, b1⟩ := kx E ce q u t T'.heap (locs ++ L) e1.symm (by rw [← e2]; exact X'.warmed.alike) hp hb k1 k2 k3 (by rw [e1]; exact hce) hcv hcl T' rfl X'
    exact ⟨t2, st.trans a1, b1⟩
theorem vx_calll {S SX : Type} {post : Int64 → S → Prop} {px : SX → Prop} {B : S → State → Prop} {BX : String → SX → State → Prop} {AX : Nat → Prop} (hr : vx_Run p l e R s m args below meth c H locs cells slots mc ms (F0 m pc ls st0) rest (va_Ql post B A1 a) (vx_X px BX AX) free) (hS : va_S A0 H0 H locs) (hA : ∀ q, q < H.size → A1 q → A0 q) (hf : ∀ q, free q → A0 q) (hAX : ∀ q, q < H.size → AX q → A0 q)
    (kx : ∀ (E : String) (ce : Cell) (q9 : Addr) (u : SX) (t : State) (H1 : Heap) (locs1 : List Loc), t.heap = H1 → s.vm.Alike t.vm → px u → BX E u t → H.size ≤ H1.size → (∀ q : Nat, q < H.size → ¬ AX q → H1[q]? = H[q]?) → va_S A0 H0 H1 locs1 → H1[q9]? = some ce → ce.vm = .none → s.vm.findClass E = some ce.cls → vx_W p l e R s m args below meth c H1 locs1 (cells + mc) (slots + ms) Q (F0 m pc ls rest) q9)
    (kk : ∀ (r : Int64) (u : S) (t : State) (H1 : Heap) (locs1 : List Loc), t.heap = H1 → s.vm.Alike t.vm → post r u → B u t → H.size ≤ H1.size → (∀ q : Nat, q < H.size → ¬ A1 q → H1[q]? = H[q]?) → va_S A0 H0 H1 locs1 → W p l e R s m args below meth c H1 locs1 (cells + mc) (slots + ms) Q (F0 m (pc + 3) ls (.long r :: rest))) : W p l e R s m args below meth c H locs cells slots Q (F0 m pc ls st0) := by
  intro T hT X
  rcases hr T hT X with ⟨v, st₀, t, T', L, h0, X', hL, e1, e2, ⟨⟨r, u, hv, hp, hb⟩, hF⟩, st⟩ | ⟨q, st₀, t, T', L, E, ce, h0, X', hL, e1, e2, ⟨u, hp, hb, hF⟩, hce, hcv, hcl, st⟩
  · cases hv
    obtain ⟨k1, k2, k3⟩ := vx_keep h0 e1 hS hA hf hL hF
    obtain ⟨t2, a1, b1⟩ := kk r u t T'.heap (locs ++ L) e1.symm (by rw [← e2]; exact X'.warmed.alike) hp hb k1 k2 k3 T' rfl X'
    exact ⟨t2, st t2 a1, b1⟩
  · obtain ⟨k1, k2, k3⟩ := vx_keep h0 e1 hS hAX hf hL hF
    obtain ⟨t2, a1, b1⟩ := kx E ce q u t T'.heap (locs ++ L) e1.symm (by rw [← e2]; exact X'.warmed.alike) hp hb k1 k2 k3 (by rw [e1]; exact hce) hcv hcl T' rfl X'
    exact ⟨t2, st.trans a1, b1⟩
theorem vx_callf {S SX : Type} {post : UInt32 → S → Prop} {px : SX → Prop} {B : S → State → Prop} {BX : String → SX → State → Prop} {AX : Nat → Prop} (hr : vx_Run p l e R s m args below meth c H locs cells slots mc ms (F0 m pc ls st0) rest (va_Qf post B A1 a) (vx_X px BX AX) free) (hS : va_S A0 H0 H locs) (hA : ∀ q, q < H.size → A1 q → A0 q) (hf : ∀ q, free q → A0 q) (hAX : ∀ q, q < H.size → AX q → A0 q)
    (kx : ∀ (E : String) (ce : Cell) (q9 : Addr) (u : SX) (t : State) (H1 : Heap) (locs1 : List Loc), t.heap = H1 → s.vm.Alike t.vm → px u → BX E u t → H.size ≤ H1.size → (∀ q : Nat, q < H.size → ¬ AX q → H1[q]? = H[q]?) → va_S A0 H0 H1 locs1 → H1[q9]? = some ce → ce.vm = .none → s.vm.findClass E = some ce.cls → vx_W p l e R s m args below meth c H1 locs1 (cells + mc) (slots + ms) Q (F0 m pc ls rest) q9)
    (kk : ∀ (r : UInt32) (u : S) (t : State) (H1 : Heap) (locs1 : List Loc), t.heap = H1 → s.vm.Alike t.vm → post r u → B u t → H.size ≤ H1.size → (∀ q : Nat, q < H.size → ¬ A1 q → H1[q]? = H[q]?) → va_S A0 H0 H1 locs1 → W p l e R s m args below meth c H1 locs1 (cells + mc) (slots + ms) Q (F0 m (pc + 3) ls (.float r :: rest))) : W p l e R s m args below meth c H locs cells slots Q (F0 m pc ls st0) := by
  intro T hT X
  rcases hr T hT X with ⟨v, st₀, t, T', L, h0, X', hL, e1, e2, ⟨⟨r, u, hv, hp, hb⟩, hF⟩, st⟩ | ⟨q, st₀, t, T', L, E, ce, h0, X', hL, e1, e2, ⟨u, hp, hb, hF⟩, hce, hcv, hcl, st⟩
  · cases hv
    obtain ⟨k1, k2, k3⟩ := vx_keep h0 e1 hS hA hf hL hF
    obtain ⟨t2, a1, b1⟩ := kk r u t T'.heap (locs ++ L) e1.symm (by rw [← e2]; exact X'.warmed.alike) hp hb k1 k2 k3 T' rfl X'
    exact ⟨t2, st t2 a1, b1⟩
  · obtain ⟨k1, k2, k3⟩ := vx_keep h0 e1 hS hAX hf hL hF
    obtain ⟨t2, a1, b1⟩ := kx E ce q u t T'.heap (locs ++ L) e1.symm (by rw [← e2]; exact X'.warmed.alike) hp hb k1 k2 k3 (by rw [e1]; exact hce) hcv hcl T' rfl X'
    exact ⟨t2, st.trans a1, b1⟩
theorem vx_calld {S SX : Type} {post : UInt64 → S → Prop} {px : SX → Prop} {B : S → State → Prop} {BX : String → SX → State → Prop} {AX : Nat → Prop} (hr : vx_Run p l e R s m args below meth c H locs cells slots mc ms (F0 m pc ls st0) rest (va_Qd post B A1 a) (vx_X px BX AX) free) (hS : va_S A0 H0 H locs) (hA : ∀ q, q < H.size → A1 q → A0 q) (hf : ∀ q, free q → A0 q) (hAX : ∀ q, q < H.size → AX q → A0 q)
    (kx : ∀ (E : String) (ce : Cell) (q9 : Addr) (u : SX) (t : State) (H1 : Heap) (locs1 : List Loc), t.heap = H1 → s.vm.Alike t.vm → px u → BX E u t → H.size ≤ H1.size → (∀ q : Nat, q < H.size → ¬ AX q → H1[q]? = H[q]?) → va_S A0 H0 H1 locs1 → H1[q9]? = some ce → ce.vm = .none → s.vm.findClass E = some ce.cls → vx_W p l e R s m args below meth c H1 locs1 (cells + mc) (slots + ms) Q (F0 m pc ls rest) q9)
    (kk : ∀ (r : UInt64) (u : S) (t : State) (H1 : Heap) (locs1 : List Loc), t.heap = H1 → s.vm.Alike t.vm → post r u → B u t → H.size ≤ H1.size → (∀ q : Nat, q < H.size → ¬ A1 q → H1[q]? = H[q]?) → va_S A0 H0 H1 locs1 → W p l e R s m args below meth c H1 locs1 (cells + mc) (slots + ms) Q (F0 m (pc + 3) ls (.double r :: rest))) : W p l e R s m args below meth c H locs cells slots Q (F0 m pc ls st0) := by
  intro T hT X
  rcases hr T hT X with ⟨v, st₀, t, T', L, h0, X', hL, e1, e2, ⟨⟨r, u, hv, hp, hb⟩, hF⟩, st⟩ | ⟨q, st₀, t, T', L, E, ce, h0, X', hL, e1, e2, ⟨u, hp, hb, hF⟩, hce, hcv, hcl, st⟩
  · cases hv
    obtain ⟨k1, k2, k3⟩ := vx_keep h0 e1 hS hA hf hL hF
    obtain ⟨t2, a1, b1⟩ := kk r u t T'.heap (locs ++ L) e1.symm (by rw [← e2]; exact X'.warmed.alike) hp hb k1 k2 k3 T' rfl X'
    exact ⟨t2, st t2 a1, b1⟩
  · obtain ⟨k1, k2, k3⟩ := vx_keep h0 e1 hS hAX hf hL hF
    obtain ⟨t2, a1, b1⟩ := kx E ce q u t T'.heap (locs ++ L) e1.symm (by rw [← e2]; exact X'.warmed.alike) hp hb k1 k2 k3 (by rw [e1]; exact hce) hcv hcl T' rfl X'
    exact ⟨t2, st.trans a1, b1⟩
theorem vx_callv {S SX : Type} {post : S → Prop} {px : SX → Prop} {B : S → State → Prop} {BX : String → SX → State → Prop} {AX : Nat → Prop} (hr : vx_Run p l e R s m args below meth c H locs cells slots mc ms (F0 m pc ls st0) rest (va_Qv post B A1 a) (vx_X px BX AX) free) (hS : va_S A0 H0 H locs) (hA : ∀ q, q < H.size → A1 q → A0 q) (hf : ∀ q, free q → A0 q) (hAX : ∀ q, q < H.size → AX q → A0 q)
    (kx : ∀ (E : String) (ce : Cell) (q9 : Addr) (u : SX) (t : State) (H1 : Heap) (locs1 : List Loc), t.heap = H1 → s.vm.Alike t.vm → px u → BX E u t → H.size ≤ H1.size → (∀ q : Nat, q < H.size → ¬ AX q → H1[q]? = H[q]?) → va_S A0 H0 H1 locs1 → H1[q9]? = some ce → ce.vm = .none → s.vm.findClass E = some ce.cls → vx_W p l e R s m args below meth c H1 locs1 (cells + mc) (slots + ms) Q (F0 m pc ls rest) q9)
    (kk : ∀ (u : S) (t : State) (H1 : Heap) (locs1 : List Loc), t.heap = H1 → s.vm.Alike t.vm → post u → B u t → H.size ≤ H1.size → (∀ q : Nat, q < H.size → ¬ A1 q → H1[q]? = H[q]?) → va_S A0 H0 H1 locs1 → W p l e R s m args below meth c H1 locs1 (cells + mc) (slots + ms) Q (F0 m (pc + 3) ls (rest))) : W p l e R s m args below meth c H locs cells slots Q (F0 m pc ls st0) := by
  intro T hT X
  rcases hr T hT X with ⟨v, st₀, t, T', L, h0, X', hL, e1, e2, ⟨⟨u, hv, hp, hb⟩, hF⟩, st⟩ | ⟨q, st₀, t, T', L, E, ce, h0, X', hL, e1, e2, ⟨u, hp, hb, hF⟩, hce, hcv, hcl, st⟩
  · cases hv
    obtain ⟨k1, k2, k3⟩ := vx_keep h0 e1 hS hA hf hL hF
    obtain ⟨t2, a1, b1⟩ := kk u t T'.heap (locs ++ L) e1.symm (by rw [← e2]; exact X'.warmed.alike) hp hb k1 k2 k3 T' rfl X'
    exact ⟨t2, st t2 a1, b1⟩
  · obtain ⟨k1, k2, k3⟩ := vx_keep h0 e1 hS hAX hf hL hF
    obtain ⟨t2, a1, b1⟩ := kx E ce q u t T'.heap (locs ++ L) e1.symm (by rw [← e2]; exact X'.warmed.alike) hp hb k1 k2 k3 (by rw [e1]; exact hce) hcv hcl T' rfl X'
    exact ⟨t2, st.trans a1, b1⟩
/-- caught by the row x of this method's table; the rows ahead don't take it -/
theorem vx_catch {own name : String} {E : String} {ce : Cell} {q : Addr} (hown : s.vm.findClass own = some m.cls) (pre : List ExceptionTableEntry) (x : ExceptionTableEntry) (suf : List ExceptionTableEntry) (hsplit : c.exceptionTable.toList = pre ++ x :: suf)
    (hpass : ∀ z ∈ pre, covers z pc = false ∨ (z.catchType ≠ 0 ∧ ∃ nm : String, (Cond.classLink own z.catchType nm).before args s = true ∧ va_Nc E nm s)) (hx : covers x pc = true) (h0 : x.catchType ≠ 0)
    (hlink : (Cond.classLink own x.catchType name).before args s = true) (hcast : (Cond.castable E name).before args s = true) (hcell : H[q]? = some ce) (hv : ce.vm = .none) (hcl : s.vm.findClass E = some ce.cls)
    (kk : W p l e R s m args below meth c H locs cells slots Q (F0 m x.handlerPc ls [.ref q])) : vx_W p l e R s m args below meth c H locs cells slots Q (F0 m pc ls rest) q := by
  intro T hT X
  have hpl : e.platform.magicAccessors = ({} : Platform).magicAccessors := by rw [X.admits.platform]
  obtain ⟨c3, c4, hc3, hc4, hasg⟩ := Cond.castable_spec hcast
  cases Option.some.inj (hc3.symm.trans hcl)
  obtain ⟨c5, hc5, hcl5⟩ := Cond.classLink_spec hown hlink e.platform hpl
  cases Option.some.inj (hc4.symm.trans hc5)
  obtain ⟨vm', X', st⟩ := X.thenCaughtThrough q (g := F0 m pc ls rest) rfl (Steps.refl _) (by rw [hT]; exact hcell) (by rw [hv]; rfl) (by obtain ⟨k9, h9, -⟩ := Vm.findClass_spec hcl; exact ⟨k9, h9⟩) pre x suf hsplit
    (fun z hz => by
      rcases hpass z hz with h | ⟨hz0, nm, hl1, hn1⟩
      · exact Or.inl h
      · obtain ⟨c6, hc6, hcl6⟩ := Cond.classLink_spec hown hl1 e.platform hpl
        obtain ⟨a8, b8, h1, h2, h3⟩ := hn1
        cases Option.some.inj (h1.symm.trans hcl)
        cases Option.some.inj (h2.symm.trans hc6)
        exact Or.inr ⟨hz0, _, hcl6, h3⟩) hx (Or.inr ⟨h0, c4, hcl5, hasg⟩)
  obtain ⟨t, a1, b1⟩ := kk (T.setVm vm') hT X'
  exact ⟨t, st.trans a1, b1⟩
end Rows
section Ends
variable {p : Program} {l : Launch} {e : Env} {R : Room} {s : State} {m : MethodId} {args : Array Value} {below : List Frame} {meth : Method} {c : Code} {H : Heap} {locs : List Loc} {cells slots : Nat} {Q : State → Prop}
variable {mc ms : Nat} {free : Addr → Prop} {A0 A1 : Nat → Prop} {H0 : Heap} {a : Array Value} {ls : Array Slot} {st0 rest : List Value}
variable {Qc : Array Value → State → Outcome → State → Prop} {XC : String → State → State → Prop}
/-- what a body that may throw owes at its end -/
def vx_MQ (below : List Frame) (Qc : Array Value → State → Outcome → State → Prop) (XC : String → State → State → Prop) (a : Array Value) (s : State) (mc ms : Nat) (free : Addr → Prop) : State → Prop := fun t =>
  ∃ o, t.status = .running ∧ Ended t below o ∧ vx_Q Qc XC mc ms free a s o t
theorem vx_ret {g : JFrame} {mc ms : Nat} (k : W p l e R s m args below meth c H locs cells slots (MQ below Qc args s mc ms free) g) : W p l e R s m args below meth c H locs cells slots (vx_MQ below Qc XC args s mc ms free) g := by
  intro T hT X
  obtain ⟨t, a1, o, b1, b2, b3, b4⟩ := k T hT X
  exact ⟨t, a1, o, b1, b2, Or.inl ⟨b3, b4⟩⟩
/-- not caught here: it goes on to the caller -/
theorem vx_widen {g : JFrame} {q : Addr} {k n : Nat} (h1 : cells ≤ k) (h2 : slots ≤ n) (kk : vx_W p l e R s m args below meth c H locs k n Q g q) : vx_W p l e R s m args below meth c H locs cells slots Q g q := fun T hT X => kk T hT (stand_widen X h1 h2)
theorem vx_out {pc : Nat} {E : String} {ce : Cell} {q : Addr} {mc ms : Nat} (hout : ∀ x ∈ c.exceptionTable.toList, covers x pc = false) (hlocks : meth.locks = false) (hcell : H[q]? = some ce) (hv : ce.vm = .none) (hcl : s.vm.findClass E = some ce.cls)
    (hx : ∀ t : State, t.heap = H → s.vm.Alike t.vm → XC E s t) (hf : ∀ z ∈ locs, free z.base) (hc : cells ≤ mc) (hs : slots ≤ ms) :
    vx_W p l e R s m args below meth c H locs cells slots (vx_MQ below Qc XC args s mc ms free) (F0 m pc ls rest) q := by
  intro T hT X
  obtain ⟨st1, hrun, hend, hW, hsm⟩ := X.leaveThrown q (g := F0 m pc ls rest) rfl rfl rfl hout hlocks
  have hcell9 : (T.setFrames (.throwing q :: below)).heap[q]? = some ce := by
    show T.heap[q]? = some ce
    rw [hT]; exact hcell
  exact ⟨_, st1, .threw q, hrun, hend, Or.inr ⟨q, rfl, E, ce, locs, hx _ hT hW.alike, hcell9, hv, hcl, hW, hsm.mono hc hs, hf⟩⟩
theorem vx_frame {U : State} {k n : Nat} (h : s.sameButNew ({ U with vm := s.vm } : State) locs k n) : s.heap.size ≤ U.heap.size ∧ ∀ q : Nat, q < s.heap.size → (∀ z ∈ locs, z.base ≠ q) → U.heap[q]? = s.heap[q]? := by
  obtain ⟨-, h2, -, -, -, h6⟩ := h
  refine ⟨h2, fun q hq hz => ?_⟩
  obtain ⟨c9, e1, e2, e3, e4⟩ := h6 q _ (Array.getElem?_eq_getElem hq)
  have hs : c9.slots = (s.heap[q]).slots := Array.ext_getElem? fun i => e4 i fun hm => hz _ hm rfl
  have h9 : c9 = s.heap[q] := by
    rw [hs] at e2
    exact e2
  have e5 : U.heap[q]? = some c9 := e1
  rw [e5, h9, Array.getElem?_eq_getElem hq]
/-- the words of a throw but the four that speak of the heap -/
def vx_no (w : Cond) : Bool := decide (w ≠ .isRef (.static Bundle.tN "UNASSIGNED_STACK" Bundle.steD)) && decide (w ≠ .isRef (.static Bundle.tN "SUPPRESSED_SENTINEL" Bundle.listD)) && decide (w ≠ .laysStatic Bundle.tN "UNASSIGNED_STACK" Bundle.steD) && decide (w ≠ .laysStatic Bundle.tN "SUPPRESSED_SENTINEL" Bundle.listD)
def vx_at0 (own : String) (ic : Nat) (X : String) (names : List String) : List Cond := (Bundle.ownAtoms0 own ic X names).filter vx_no
def vx_atS (own : String) (ic : Nat) (X : String) (names : List String) : List Cond := (Bundle.ownAtoms own ic X names).filter vx_no
/-- a word that the tables alone decide, or a good one -/
def vx_ot (w : Cond) : Bool := w.onTables || goodWord w
theorem vx_ot_at {args a' : Array Value} {s U : State} {w : Cond} (hW : s.WarmedH U.vm) (hvm : s.vm = U.vm) (hg : vx_ot w = true) (h : w.before args s = true) : w.before a' U = true := by
  simp only [vx_ot, Bool.or_eq_true] at hg
  rcases hg with hg | hg
  · exact va_tabs hg hvm h
  · exact word_at hW (good_of_word hg) h
/-- a list's words: the good ones out of the method's own list, the others by premises of their own -/
theorem vx_hat {args : Array Value} {s : State} {L B : List Cond} (h1 : ∀ w ∈ L.filter goodWord, w.before args s = true) (h2 : ∀ w ∈ L.filter (fun w => !goodWord w), w ∈ B) (h3 : ∀ w ∈ B, w.before args s = true) : ∀ w ∈ L, w.before args s = true := by
  intro w hw
  by_cases g : goodWord w = true
  · exact h1 w (List.mem_filter.mpr ⟨hw, g⟩)
  · refine h3 w (h2 w (List.mem_filter.mpr ⟨hw, ?_⟩))
    show (!goodWord w) = true
    cases hgw : goodWord w
    · rfl
    · exact absurd hgw g
theorem vx_c {args : Array Value} {s : State} {w : Cond} {B : List Cond} (h : w.before args s = true) (t : ∀ w ∈ B, w.before args s = true) : ∀ w' ∈ w :: B, w'.before args s = true := fun w' h' => (List.mem_cons.mp h').elim (fun e => by rw [e]; exact h) (t w')
theorem vx_n {args : Array Value} {s : State} : ∀ w ∈ ([] : List Cond), w.before args s = true := fun _ h => nomatch h
theorem vx_own {args : Array Value} {s : State} {L : List Cond} (h1 : ∀ w ∈ L.filter vx_no, w.before args s = true)
    (hU : (Cond.isRef (.static Bundle.tN "UNASSIGNED_STACK" Bundle.steD)).before args s = true) (hN : (Cond.isRef (.static Bundle.tN "SUPPRESSED_SENTINEL" Bundle.listD)).before args s = true)
    (lU : (Cond.laysStatic Bundle.tN "UNASSIGNED_STACK" Bundle.steD).before args s = true) (lN : (Cond.laysStatic Bundle.tN "SUPPRESSED_SENTINEL" Bundle.listD).before args s = true) : ∀ w ∈ L, w.before args s = true := by
  intro w hw
  by_cases e1 : w = .isRef (.static Bundle.tN "UNASSIGNED_STACK" Bundle.steD)
  · rw [e1]; exact hU
  · by_cases e2 : w = .isRef (.static Bundle.tN "SUPPRESSED_SENTINEL" Bundle.listD)
    · rw [e2]; exact hN
    · by_cases e3 : w = .laysStatic Bundle.tN "UNASSIGNED_STACK" Bundle.steD
      · rw [e3]; exact lU
      · by_cases e4 : w = .laysStatic Bundle.tN "SUPPRESSED_SENTINEL" Bundle.listD
        · rw [e4]; exact lN
        · exact h1 w (List.mem_filter.mpr ⟨hw, by unfold vx_no; rw [decide_eq_true e1, decide_eq_true e2, decide_eq_true e3, decide_eq_true e4]; rfl⟩)
/-- where a static field lies, its class's statics cell in H -/
def vx_L (C n d : String) (A : Nat → Prop) (U : State) (H : Heap) : Prop := ∃ (c : ClassId) (k : Class) (i : Nat) (f : Field) (a : Nat) (cell : Cell), U.vm.findClass C = some c ∧ U.fieldFound? C n d = some (c, k, i, f) ∧ f.isStatic = true ∧ k.statics = some a ∧ H[a]? = some cell ∧ cell.vm.isStatics = true ∧ cell.cls = c ∧ f.slot < cell.slots.size ∧ k.staticTypes[f.slot]? = some f.type ∧ ¬ A a
theorem vx_L.moved {C n d : String} {A : Nat → Prop} {u U : State} {H : Heap} (hvm : u.vm.Alike U.vm) (h : vx_L C n d A u H) : vx_L C n d A U H := by
  obtain ⟨c, k, i, f, a, cell, h1, h2, h3, h4, h5, h6, h7, h8, h9, h10⟩ := h
  obtain ⟨k', hi', he⟩ := State.fieldFound?_setVm hvm h2
  exact ⟨c, k', i, f, a, cell, by rw [hvm.findClass]; exact h1, hi', h3, by rw [he]; exact h4, h5, h6, h7, h8, by rw [he]; exact h9, h10⟩
theorem vx_L.kept {C n d : String} {A : Nat → Prop} {U : State} {H H1 : Heap} (h : vx_L C n d A U H) (hq : ∀ a : Nat, a < H.size → ¬ A a → H1[a]? = H[a]?) : vx_L C n d A U H1 := by
  obtain ⟨c, k, i, f, a, cell, h1, h2, h3, h4, h5, h6, h7, h8, h9, h10⟩ := h
  exact ⟨c, k, i, f, a, cell, h1, h2, h3, h4, by rw [hq a (Array.getElem?_eq_some_iff.mp h5).1 h10]; exact h5, h6, h7, h8, h9, h10⟩
theorem vx_L.narrow {C n d : String} {A B : Nat → Prop} {U : State} {H : Heap} (h : vx_L C n d A U H) (hAB : ∀ q, B q → A q) : vx_L C n d B U H := by
  obtain ⟨c, k, i, f, a, cell, h1, h2, h3, h4, h5, h6, h7, h8, h9, h10⟩ := h
  exact ⟨c, k, i, f, a, cell, h1, h2, h3, h4, h5, h6, h7, h8, h9, fun z => h10 (hAB _ z)⟩
theorem vx_L.word {C n d : String} {A : Nat → Prop} {s : State} {args : Array Value} (h : vx_L C n d A s s.heap) : (Cond.laysStatic C n d).before args s = true := by
  obtain ⟨c, k, i, f, a, cell, h1, h2, h3, h4, h5, h6, h7, h8, h9, -⟩ := h
  show (Cond.laysStatic C n d).holds args s none s [] = true
  exact Cond.laysStatic_of h1 h2 h3 h4 h5 h6 h7 h8 h9
/-- .. and what it holds: null or some reference -/
def vx_Zq (C n d : String) (A : Nat → Prop) (U : State) (H : Heap) : Prop := va_Zq C n d A U H ∧ vx_L C n d A U H
theorem vx_Zq.moved {C n d : String} {A : Nat → Prop} {u U : State} {H : Heap} (hvm : u.vm.Alike U.vm) (h : vx_Zq C n d A u H) : vx_Zq C n d A U H := ⟨va_Zq.moved hvm h.1, vx_L.moved hvm h.2⟩
theorem vx_Zq.kept {C n d : String} {A : Nat → Prop} {U : State} {H H1 : Heap} (h : vx_Zq C n d A U H) (hq : ∀ a : Nat, a < H.size → ¬ A a → H1[a]? = H[a]?) : vx_Zq C n d A U H1 := ⟨va_Zq.kept h.1 hq, vx_L.kept h.2 hq⟩
theorem vx_Zq.narrow {C n d : String} {A B : Nat → Prop} {U : State} {H : Heap} (h : vx_Zq C n d A U H) (hAB : ∀ q, B q → A q) : vx_Zq C n d B U H := ⟨va_Zq.narrow h.1 hAB, vx_L.narrow h.2 hAB⟩
theorem vx_Zqof {args : Array Value} {s : State} {C n d : String} {A : Nat → Prop} (hl : (Cond.laysStatic C n d).before args s = true) (hini : (Cond.initialized C).before args s = true) (h : (Cond.isRef (.static C n d)).before args s = true) (hA : ∀ a : Nat, a < s.heap.size → ¬ A a) : vx_Zq C n d A s s.heap := by
  refine ⟨va_Zqof hl hini h hA, ?_⟩
  obtain ⟨c, k, i, f, a, cell, h1, h2, h3, h4, h5, h6, h7, h8, h9⟩ := Cond.laysStatic_spec hl
  exact ⟨c, k, i, f, a, cell, h1, h2, h3, h4, h5, h6, h7, h8, h9, hA a (Array.getElem?_eq_some_iff.mp h5).1⟩
theorem vx_isRef {C n d : String} {v : Value} {A : Nat → Prop} {s : State} {args : Array Value} (h : va_Z C n d v A s s.heap) (hv : v.isRef = true) : (Cond.isRef (.static C n d)).before args s = true := by
  obtain ⟨cf, kf, fi, f, a, cell, h1, h2, h3, h4, h5, h6, h7, -⟩ := h
  have he : (Term.static C n d).eval args s none [] s = some v := by
    simp [Term.eval, State.fieldNamed?, h1, h2, h4, h5, h6, h7]
  simp only [Cond.before, Cond.holds, Cond.value, he]
  cases v <;> simp_all [Value.isRef]
theorem vx_isRefq {C n d : String} {A : Nat → Prop} {s : State} {args : Array Value} (h : va_Zq C n d A s s.heap) : (Cond.isRef (.static C n d)).before args s = true := by
  rcases h with h | ⟨t, h⟩
  · exact vx_isRef h rfl
  · exact vx_isRef h rfl
/-- the same frame, seen from here: as if the method were called anew in this heap -/
theorem vx_rebase {T : State} (X : Stand p l e R s m args below meth c T locs cells slots) {R' : Room} (hf : R'.frames ≤ R.frames) (hl : R'.locals ≤ R.locals) (hc : cells + R'.cells ≤ R.cells) (hs : slots + R'.slots ≤ R.slots) :
    Stand p l e R' ((T.setVm s.vm).setFrames (.invoking m args :: below)) m args below meth c T [] 0 0 := by
  have htop : (T.setVm s.vm).topJava?.isSome := X.here.top
  have hF : ((T.setVm s.vm).setFrames (.invoking m args :: below)).frames = .invoking m args :: below := State.frames_setFrames _ (State.cur_lt_of_top htop)
  obtain ⟨g₀, hg0⟩ := Option.isSome_iff_exists.mp htop
  obtain ⟨r, hr⟩ := State.topJava?_eq_some.mp hg0
  have hl9 : e.platform.stackLimits (T.setVm s.vm).me = e.platform.stackLimits s.me := X.limits
  have hb9 : (T.setVm s.vm).me.stackBytes = s.me.stackBytes := X.bytes
  refine ⟨X.admits, X.cas, X.clock, hF, ?_, X.hears, X.method, X.code, X.here, X.tail, X.warmed, ?_, ?_, ?_⟩
  · have h := X.room
    have hU : ((T.setVm s.vm).setFrames (.invoking m args :: below)).localsInUse = s.localsInUse := by
      rw [State.localsInUse_invoking hF (meth := meth) (c := c) X.method X.code, State.localsInUse_invoking X.frames X.method X.code]
    simp only [State.hasRoom, Bool.and_eq_true, decide_eq_true_eq] at h ⊢
    obtain ⟨⟨⟨⟨h1, h2, h3, h4, h5, h6⟩, h7⟩, h8⟩, h9⟩ := h
    rw [X.frames, List.length_cons] at h2 h3
    have q1 := X.heapSize
    have q2 := X.used
    simp only [hF, hU, List.length_cons, State.stackLimits_setFrames, State.stackBytes_setFrames, hl9, hb9]
    refine ⟨⟨⟨⟨by omega, by omega, by omega, by omega, by omega, h6⟩, ?_⟩, ?_⟩, X.book⟩
    · show T.heap.size + R'.cells ≤ e.platform.maxCells
      omega
    · show T.slotsUsed + R'.slots ≤ e.platform.maxSlots
      omega
  · rw [State.stackLimits_setFrames]; rfl
  · rw [State.stackBytes_setFrames]; rfl
  · refine ⟨?_, Nat.le_refl _, Nat.le_refl _, ?_, ?_, fun a c9 h9 => ⟨c9, h9, rfl, rfl, fun _ _ => rfl⟩⟩
    · obtain ⟨t, ht, -⟩ := State.frames_cons hr
      show T.setVm s.vm = { ((T.setVm s.vm).setFrames (.invoking m args :: below)).setFrames (T.setVm s.vm).frames with heap := T.heap, slotsUsed := T.slotsUsed }
      rw [State.setFrames_setFrames, State.setFrames_self ht]
      rfl
    · show T.slotsUsed = T.slotsUsed + ((T.heap.toList.drop T.heap.size).map (·.slots.size)).sum
      rw [List.drop_eq_nil_of_le (Nat.le_of_eq Array.length_toList)]
      rfl
    · show ((T.heap.toList.drop T.heap.size).map (·.slots.size)).sum ≤ 0
      rw [List.drop_eq_nil_of_le (Nat.le_of_eq Array.length_toList)]
      exact Nat.le_refl _
/-- 'throw new E()': new; dup; invokespecial; athrow -/
theorem vx_throw0 {cc : ByteArray} {pc : Nat} (hexec : p.tables.exec = Jvm.exec) (hb : c.code = cc) (hl : l.stackTraces = false) {own cls : String} {names : List String} {ik ic mc ms : Nat} {A : Nat → Prop}
    (hown : s.vm.findClass own = some m.cls) (hcls : Bundle.fit cls = true) (hnames : ∀ n ∈ names, Bundle.fit n = true)
    (hk : (Cond.classLink own ik cls).before args s = true) (hini : (Cond.initialized cls).before args s = true) (hat : ∀ w ∈ vx_at0 own ic cls names, w.before args s = true)
    (hgood : ∀ w ∈ Cond.classLink own ik cls :: Cond.initialized cls :: vx_at0 own ic cls names, vx_ot w = true)
    (hU : vx_Zq Bundle.tN "UNASSIGNED_STACK" Bundle.steD A s s.heap) (hN : vx_Zq Bundle.tN "SUPPRESSED_SENTINEL" Bundle.listD A s s.heap) (hS : va_S A s.heap H locs) (hsize : ls.size = c.maxLocals)
    (d0 : decode cc pc = .ok (.new ik, 3)) (d3 : decode cc (pc + 3) = .ok (.dup, 1)) (d4 : decode cc (pc + 4) = .ok (.invokespecial ic, 3)) (d7 : decode cc (pc + 7) = .ok (.athrow, 1))
    (hout : ∀ x ∈ c.exceptionTable.toList, covers x (pc + 7) = false)
    (hRframes : names.length + 3 < R.frames) (hRlocals : (rest.map fun v => v.category).sum + (13 * (names.length + 1) + 42) ≤ R.locals) (hRcells : cells + 1 ≤ R.cells) (hRslots : slots + 6 ≤ R.slots) (hlocks : meth.locks = false)
    (hx : ∀ t : State, s.vm.Alike t.vm → H.size ≤ t.heap.size → (∀ q : Nat, q < H.size → t.heap[q]? = H[q]?) → XC cls s t)
    (hf : ∀ z ∈ locs, free z.base) (hc : cells + 1 ≤ mc) (hs : slots + 6 ≤ ms) :
    W p l e R s m args below meth c H locs cells slots (vx_MQ below Qc XC args s mc ms free) (F0 m pc ls rest) := by
  intro T hT X
  have htr : e.platform.stackTraces = false := (show e.platform.stackTraces = l.stackTraces by rw [X.admits.platform]).trans hl
  have Y := vx_rebase X (R' := { frames := R.frames, locals := R.locals, cells := 1, slots := 6 }) (Nat.le_refl _) (Nat.le_refl _) hRcells hRslots
  obtain ⟨s', hA⟩ : ∃ z, z = (T.setVm s.vm).setFrames (.invoking m args :: below) := ⟨_, rfl⟩
  rw [← hA] at Y
  have hvm : s'.vm = s.vm := by rw [hA]; rfl
  have hhp : s'.heap = H := by rw [hA]; exact hT
  have hW0 : s.WarmedH s'.vm := by rw [hvm]; exact State.WarmedH.refl s
  have hat' : ∀ w ∈ vx_at0 own ic cls names, w.before args s' = true := fun w hw => vx_ot_at hW0 hvm.symm (hgood w (List.mem_cons_of_mem _ (List.mem_cons_of_mem _ hw))) (hat w hw)
  have hk' : (Cond.classLink own ik cls).before args s' = true := vx_ot_at hW0 hvm.symm (hgood _ List.mem_cons_self) hk
  have hini' : (Cond.initialized cls).before args s' = true := vx_ot_at hW0 hvm.symm (hgood _ (List.mem_cons_of_mem _ List.mem_cons_self)) hini
  have hU' : vx_Zq Bundle.tN "UNASSIGNED_STACK" Bundle.steD A s' s'.heap := by rw [hhp]; exact vx_Zq.moved hW0.alike (hU.kept hS.2.1)
  have hN' : vx_Zq Bundle.tN "SUPPRESSED_SENTINEL" Bundle.listD A s' s'.heap := by rw [hhp]; exact vx_Zq.moved hW0.alike (hN.kept hS.2.1)
  have h : ∀ w ∈ Bundle.ownAtoms0 own ic cls names, w.before args s' = true := vx_own hat' (vx_isRefq hU'.1) (vx_isRefq hN'.1) hU'.2.word hN'.2.word
  have hown' : s'.vm.findClass own = some m.cls := by rw [hvm]; exact hown
  have hins : (Cond.instantiable cls 6).before args s' = true := h _ (by simp [Bundle.ownAtoms0])
  obtain ⟨vm₁, cX, kX, hfX, hkX, -, -, X₁, st1⟩ := Y.newCold hexec (own := own) (C := cls) (index := ik) (n := 6) hown' hk' hins hini'
    (g := F0 m pc ls rest) rfl (by rw [hb]; exact d0) (Nat.le_refl _) (Nat.le_refl _)
  generalize hT1 : (T.setVm vm₁).pushCell { cls := cX, slots := kX.instanceTypes.map defaultValue, vm := .none } = T1 at X₁ st1
  have hcat : (Value.ref T.heap.size).category = 1 := rfl
  have hcellA : T1.heap[T.heap.size]? = some (freshCell cX kX) := by rw [← hT1]; exact State.heap_pushCell_size _ _
  have d3' : decode c.code (pc + 3) = .ok (.dup, 1) := by rw [hb]; exact d3
  obtain ⟨U, hsteps, hrun, hend, hW, hsame, ce, hce, hO⟩ := X₁.ctorThrow0 hexec htr (own := own) (cls := cls) (names := names) (ic := ic) hown' hcls hnames h (fun x hx => nomatch hx) hfX hkX hcellA (by rw [hhp, hT]; exact Nat.le_refl _)
    (g := { method := m, pc := pc + 4, locals := ls, stack := .ref T.heap.size :: .ref T.heap.size :: rest, locked := none }) rfl hsize rfl rfl (rest := rest) rfl
    (by rw [hb]; exact d4) (by rw [hb]; exact d7) hout hRframes (by simp only [List.map_cons, List.sum_cons, hcat]; omega) hlocks
  obtain ⟨f1, f2⟩ := vx_frame hsame
  rw [hhp] at f1 f2
  have hWs : s.WarmedH U.vm := State.WarmedH.trans hW0 hW
  have hcl : s.vm.findClass cls = some ce.cls := by
    have h9 := hO.cls
    rw [hvm] at h9
    exact h9
  have hall : s.sameButNew ({ U with vm := s.vm } : State) locs mc ms := by
    subst hA
    obtain ⟨e1, e2⟩ := hsame
    rw [State.setFrames_setFrames] at e1
    have h2 : (T.setVm s.vm).sameButNew ({ U with vm := s.vm } : State) [] (0 + 1) (0 + 6) := ⟨e1, e2⟩
    have h3 := X.same.trans h2
    rw [List.append_nil] at h3
    exact h3.mono hc hs
  refine ⟨U, ?_, .threw T.heap.size, hrun, hend, Or.inr ⟨T.heap.size, rfl, cls, ce, locs, hx U hWs.alike f1 (fun q hq => f2 q hq (fun z hz => nomatch hz)), hce, hO.vm, hcl, hWs, hall, hf⟩⟩
  refine st1 _ ?_
  show Steps p.tables e below (T1.setTop { method := m, pc := pc + 3, locals := ls, stack := .ref T.heap.size :: rest, locked := none }) _
  jvm_step X₁.here [X₁.here.top, hexec, d3', Value.category]
  exact hsteps
/-- 'throw new E("text")': new; dup; ldc; invokespecial; athrow -/
theorem vx_throwS {cc : ByteArray} {pc : Nat} (hexec : p.tables.exec = Jvm.exec) (hb : c.code = cc) (hl : l.stackTraces = false) {own cls text : String} {names : List String} {ik is ic mc ms sa : Nat} {A : Nat → Prop}
    (hown : s.vm.findClass own = some m.cls) (hcls : Bundle.fit cls = true) (hnames : ∀ n ∈ names, Bundle.fit n = true)
    (hk : (Cond.classLink own ik cls).before args s = true) (hini : (Cond.initialized cls).before args s = true) (hstr : vk_R own is text sa s) (hat : ∀ w ∈ vx_atS own ic cls names, w.before args s = true)
    (hgood : ∀ w ∈ Cond.classLink own ik cls :: Cond.initialized cls :: vx_atS own ic cls names, vx_ot w = true)
    (hU : vx_Zq Bundle.tN "UNASSIGNED_STACK" Bundle.steD A s s.heap) (hN : vx_Zq Bundle.tN "SUPPRESSED_SENTINEL" Bundle.listD A s s.heap) (hS : va_S A s.heap H locs) (hsize : ls.size = c.maxLocals)
    (d0 : decode cc pc = .ok (.new ik, 3)) (d3 : decode cc (pc + 3) = .ok (.dup, 1)) (d4 : decode cc (pc + 4) = .ok (.ldc is, 2)) (d6 : decode cc (pc + 6) = .ok (.invokespecial ic, 3)) (d9 : decode cc (pc + 9) = .ok (.athrow, 1))
    (hout : ∀ x ∈ c.exceptionTable.toList, covers x (pc + 9) = false)
    (hRframes : names.length + 3 < R.frames) (hRlocals : (rest.map fun v => v.category).sum + (13 * (names.length + 1) + 43) ≤ R.locals) (hRcells : cells + 1 ≤ R.cells) (hRslots : slots + 6 ≤ R.slots) (hlocks : meth.locks = false)
    (hx : ∀ t : State, s.vm.Alike t.vm → H.size ≤ t.heap.size → (∀ q : Nat, q < H.size → t.heap[q]? = H[q]?) → XC cls s t)
    (hf : ∀ z ∈ locs, free z.base) (hc : cells + 1 ≤ mc) (hs : slots + 6 ≤ ms) :
    W p l e R s m args below meth c H locs cells slots (vx_MQ below Qc XC args s mc ms free) (F0 m pc ls rest) := by
  intro T hT X
  have htr : e.platform.stackTraces = false := (show e.platform.stackTraces = l.stackTraces by rw [X.admits.platform]).trans hl
  have Y := vx_rebase X (R' := { frames := R.frames, locals := R.locals, cells := 1, slots := 6 }) (Nat.le_refl _) (Nat.le_refl _) hRcells hRslots
  obtain ⟨s', hA⟩ : ∃ z, z = (T.setVm s.vm).setFrames (.invoking m args :: below) := ⟨_, rfl⟩
  rw [← hA] at Y
  have hvm : s'.vm = s.vm := by rw [hA]; rfl
  have hhp : s'.heap = H := by rw [hA]; exact hT
  have hW0 : s.WarmedH s'.vm := by rw [hvm]; exact State.WarmedH.refl s
  have hat' : ∀ w ∈ vx_atS own ic cls names, w.before args s' = true := fun w hw => vx_ot_at hW0 hvm.symm (hgood w (List.mem_cons_of_mem _ (List.mem_cons_of_mem _ hw))) (hat w hw)
  have hk' : (Cond.classLink own ik cls).before args s' = true := vx_ot_at hW0 hvm.symm (hgood _ List.mem_cons_self) hk
  have hini' : (Cond.initialized cls).before args s' = true := vx_ot_at hW0 hvm.symm (hgood _ (List.mem_cons_of_mem _ List.mem_cons_self)) hini
  have hU' : vx_Zq Bundle.tN "UNASSIGNED_STACK" Bundle.steD A s' s'.heap := by rw [hhp]; exact vx_Zq.moved hW0.alike (hU.kept hS.2.1)
  have hN' : vx_Zq Bundle.tN "SUPPRESSED_SENTINEL" Bundle.listD A s' s'.heap := by rw [hhp]; exact vx_Zq.moved hW0.alike (hN.kept hS.2.1)
  have h : ∀ w ∈ Bundle.ownAtoms own ic cls names, w.before args s' = true := vx_own hat' (vx_isRefq hU'.1) (vx_isRefq hN'.1) hU'.2.word hN'.2.word
  have hown' : s'.vm.findClass own = some m.cls := by rw [hvm]; exact hown
  have hins : (Cond.instantiable cls 6).before args s' = true := h _ (by simp [Bundle.ownAtoms])
  obtain ⟨vm₁, cX, kX, hfX, hkX, -, -, X₁, st1⟩ := Y.newCold hexec (own := own) (C := cls) (index := ik) (n := 6) hown' hk' hins hini'
    (g := F0 m pc ls rest) rfl (by rw [hb]; exact d0) (Nat.le_refl _) (Nat.le_refl _)
  generalize hT1 : (T.setVm vm₁).pushCell { cls := cX, slots := kX.instanceTypes.map defaultValue, vm := .none } = T1 at X₁ st1
  have hcat : (Value.ref T.heap.size).category = 1 := rfl
  have hcellA : T1.heap[T.heap.size]? = some (freshCell cX kX) := by rw [← hT1]; exact State.heap_pushCell_size _ _
  have d3' : decode c.code (pc + 3) = .ok (.dup, 1) := by rw [hb]; exact d3
  have d4' : decode c.code (pc + 4) = .ok (.ldc is, 2) := by rw [hb]; exact d4
  have hstr' : vk_R own is text sa s' := vk_R.warm hW0 hstr
  obtain ⟨U, hsteps, hrun, hend, hW, hsame, ce, hce, hO⟩ := X₁.ctorThrowS hexec htr (own := own) (cls := cls) (names := names) (ic := ic) hown' hcls hnames h (fun x hx => nomatch hx) hfX hkX hcellA (by rw [hhp, hT]; exact Nat.le_refl _) (msg := .ref sa) rfl
    (g := { method := m, pc := pc + 6, locals := ls, stack := .ref sa :: .ref T.heap.size :: .ref T.heap.size :: rest, locked := none }) rfl hsize rfl rfl (rest := rest) rfl
    (by rw [hb]; exact d6) (by rw [hb]; exact d9) hout hRframes (by simp only [List.map_cons, List.sum_cons, hcat]; omega) hlocks
  obtain ⟨f1, f2⟩ := vx_frame hsame
  rw [hhp] at f1 f2
  have hWs : s.WarmedH U.vm := State.WarmedH.trans hW0 hW
  have hcl : s.vm.findClass cls = some ce.cls := by
    have h9 := hO.cls
    rw [hvm] at h9
    exact h9
  have hall : s.sameButNew ({ U with vm := s.vm } : State) locs mc ms := by
    subst hA
    obtain ⟨e1, e2⟩ := hsame
    rw [State.setFrames_setFrames] at e1
    have h2 : (T.setVm s.vm).sameButNew ({ U with vm := s.vm } : State) [] (0 + 1) (0 + 6) := ⟨e1, e2⟩
    have h3 := X.same.trans h2
    rw [List.append_nil] at h3
    exact h3.mono hc hs
  refine ⟨U, ?_, .threw T.heap.size, hrun, hend, Or.inr ⟨T.heap.size, rfl, cls, ce, locs, hx U hWs.alike f1 (fun q hq => f2 q hq (fun z hz => nomatch hz)), hce, hO.vm, hcl, hWs, hall, hf⟩⟩
  refine st1 _ ?_
  show Steps p.tables e below (T1.setTop { method := m, pc := pc + 3, locals := ls, stack := .ref T.heap.size :: rest, locked := none }) _
  jvm_step X₁.here [X₁.here.top, hexec, d3', Value.category]
  exact X₁.ldcString hexec (own := own) (text := text) (index := is) (a := sa) hown' hstr'.1 hstr'.2
    (g := { method := m, pc := pc + 4, locals := ls, stack := .ref T.heap.size :: .ref T.heap.size :: rest, locked := none }) rfl d4' _ hsteps
/-- 'throw new E("text")', the text by a wide index -/
theorem vx_throwSW {cc : ByteArray} {pc : Nat} (hexec : p.tables.exec = Jvm.exec) (hb : c.code = cc) (hl : l.stackTraces = false) {own cls text : String} {names : List String} {ik is ic mc ms sa : Nat} {A : Nat → Prop}
    (hown : s.vm.findClass own = some m.cls) (hcls : Bundle.fit cls = true) (hnames : ∀ n ∈ names, Bundle.fit n = true)
    (hk : (Cond.classLink own ik cls).before args s = true) (hini : (Cond.initialized cls).before args s = true) (hstr : vk_R own is text sa s) (hat : ∀ w ∈ vx_atS own ic cls names, w.before args s = true)
    (hgood : ∀ w ∈ Cond.classLink own ik cls :: Cond.initialized cls :: vx_atS own ic cls names, vx_ot w = true)
    (hU : vx_Zq Bundle.tN "UNASSIGNED_STACK" Bundle.steD A s s.heap) (hN : vx_Zq Bundle.tN "SUPPRESSED_SENTINEL" Bundle.listD A s s.heap) (hS : va_S A s.heap H locs) (hsize : ls.size = c.maxLocals)
    (d0 : decode cc pc = .ok (.new ik, 3)) (d3 : decode cc (pc + 3) = .ok (.dup, 1)) (d4 : decode cc (pc + 4) = .ok (.ldc_w is, 3)) (d7 : decode cc (pc + 7) = .ok (.invokespecial ic, 3)) (d10 : decode cc (pc + 10) = .ok (.athrow, 1))
    (hout : ∀ x ∈ c.exceptionTable.toList, covers x (pc + 10) = false)
    (hRframes : names.length + 3 < R.frames) (hRlocals : (rest.map fun v => v.category).sum + (13 * (names.length + 1) + 43) ≤ R.locals) (hRcells : cells + 1 ≤ R.cells) (hRslots : slots + 6 ≤ R.slots) (hlocks : meth.locks = false)
    (hx : ∀ t : State, s.vm.Alike t.vm → H.size ≤ t.heap.size → (∀ q : Nat, q < H.size → t.heap[q]? = H[q]?) → XC cls s t)
    (hf : ∀ z ∈ locs, free z.base) (hc : cells + 1 ≤ mc) (hs : slots + 6 ≤ ms) :
    W p l e R s m args below meth c H locs cells slots (vx_MQ below Qc XC args s mc ms free) (F0 m pc ls rest) := by
  intro T hT X
  have htr : e.platform.stackTraces = false := (show e.platform.stackTraces = l.stackTraces by rw [X.admits.platform]).trans hl
  have Y := vx_rebase X (R' := { frames := R.frames, locals := R.locals, cells := 1, slots := 6 }) (Nat.le_refl _) (Nat.le_refl _) hRcells hRslots
  obtain ⟨s', hA⟩ : ∃ z, z = (T.setVm s.vm).setFrames (.invoking m args :: below) := ⟨_, rfl⟩
  rw [← hA] at Y
  have hvm : s'.vm = s.vm := by rw [hA]; rfl
  have hhp : s'.heap = H := by rw [hA]; exact hT
  have hW0 : s.WarmedH s'.vm := by rw [hvm]; exact State.WarmedH.refl s
  have hat' : ∀ w ∈ vx_atS own ic cls names, w.before args s' = true := fun w hw => vx_ot_at hW0 hvm.symm (hgood w (List.mem_cons_of_mem _ (List.mem_cons_of_mem _ hw))) (hat w hw)
  have hk' : (Cond.classLink own ik cls).before args s' = true := vx_ot_at hW0 hvm.symm (hgood _ List.mem_cons_self) hk
  have hini' : (Cond.initialized cls).before args s' = true := vx_ot_at hW0 hvm.symm (hgood _ (List.mem_cons_of_mem _ List.mem_cons_self)) hini
  have hU' : vx_Zq Bundle.tN "UNASSIGNED_STACK" Bundle.steD A s' s'.heap := by rw [hhp]; exact vx_Zq.moved hW0.alike (hU.kept hS.2.1)
  have hN' : vx_Zq Bundle.tN "SUPPRESSED_SENTINEL" Bundle.listD A s' s'.heap := by rw [hhp]; exact vx_Zq.moved hW0.alike (hN.kept hS.2.1)
  have h : ∀ w ∈ Bundle.ownAtoms own ic cls names, w.before args s' = true := vx_own hat' (vx_isRefq hU'.1) (vx_isRefq hN'.1) hU'.2.word hN'.2.word
  have hown' : s'.vm.findClass own = some m.cls := by rw [hvm]; exact hown
  have hins : (Cond.instantiable cls 6).before args s' = true := h _ (by simp [Bundle.ownAtoms])
  obtain ⟨vm₁, cX, kX, hfX, hkX, -, -, X₁, st1⟩ := Y.newCold hexec (own := own) (C := cls) (index := ik) (n := 6) hown' hk' hins hini'
    (g := F0 m pc ls rest) rfl (by rw [hb]; exact d0) (Nat.le_refl _) (Nat.le_refl _)
  generalize hT1 : (T.setVm vm₁).pushCell { cls := cX, slots := kX.instanceTypes.map defaultValue, vm := .none } = T1 at X₁ st1
  have hcat : (Value.ref T.heap.size).category = 1 := rfl
  have hcellA : T1.heap[T.heap.size]? = some (freshCell cX kX) := by rw [← hT1]; exact State.heap_pushCell_size _ _
  have d3' : decode c.code (pc + 3) = .ok (.dup, 1) := by rw [hb]; exact d3
  have d4' : decode c.code (pc + 4) = .ok (.ldc_w is, 3) := by rw [hb]; exact d4
  have hstr' : vk_R own is text sa s' := vk_R.warm hW0 hstr
  obtain ⟨U, hsteps, hrun, hend, hW, hsame, ce, hce, hO⟩ := X₁.ctorThrowS hexec htr (own := own) (cls := cls) (names := names) (ic := ic) hown' hcls hnames h (fun x hx => nomatch hx) hfX hkX hcellA (by rw [hhp, hT]; exact Nat.le_refl _) (msg := .ref sa) rfl
    (g := { method := m, pc := pc + 7, locals := ls, stack := .ref sa :: .ref T.heap.size :: .ref T.heap.size :: rest, locked := none }) rfl hsize rfl rfl (rest := rest) rfl
    (by rw [hb]; exact d7) (by rw [hb]; exact d10) hout hRframes (by simp only [List.map_cons, List.sum_cons, hcat]; omega) hlocks
  obtain ⟨f1, f2⟩ := vx_frame hsame
  rw [hhp] at f1 f2
  have hWs : s.WarmedH U.vm := State.WarmedH.trans hW0 hW
  have hcl : s.vm.findClass cls = some ce.cls := by
    have h9 := hO.cls
    rw [hvm] at h9
    exact h9
  have hall : s.sameButNew ({ U with vm := s.vm } : State) locs mc ms := by
    subst hA
    obtain ⟨e1, e2⟩ := hsame
    rw [State.setFrames_setFrames] at e1
    have h2 : (T.setVm s.vm).sameButNew ({ U with vm := s.vm } : State) [] (0 + 1) (0 + 6) := ⟨e1, e2⟩
    have h3 := X.same.trans h2
    rw [List.append_nil] at h3
    exact h3.mono hc hs
  refine ⟨U, ?_, .threw T.heap.size, hrun, hend, Or.inr ⟨T.heap.size, rfl, cls, ce, locs, hx U hWs.alike f1 (fun q hq => f2 q hq (fun z hz => nomatch hz)), hce, hO.vm, hcl, hWs, hall, hf⟩⟩
  refine st1 _ ?_
  show Steps p.tables e below (T1.setTop { method := m, pc := pc + 3, locals := ls, stack := .ref T.heap.size :: rest, locked := none }) _
  jvm_step X₁.here [X₁.here.top, hexec, d3', Value.category]
  exact X₁.ldcStringW hexec (own := own) (text := text) (index := is) (a := sa) hown' hstr'.1 hstr'.2
    (g := { method := m, pc := pc + 4, locals := ls, stack := .ref T.heap.size :: .ref T.heap.size :: rest, locked := none }) rfl d4' _ hsteps
end Ends
section Bodies
variable {l : Launch}
theorem vx_ofW {y : MethodName} {ws ws' : List Cond} {rm : Room} {Pc : Array Value → State → Prop} {Qc : Array Value → State → Outcome → State → Prop} {XC : String → State → State → Prop} {mc ms : Nat} {free : Addr → Prop} {cc : ByteArray} {maxL : Nat} {ret : Option FieldType}
    (hy : plainName y.cls = true) (hw : ws = Cond.code y cc maxL ret :: ws')
    (body : ∀ p e s m args below meth c s₁, BodyLoose p l y (headSpec ws rm) cc maxL ret e s m args below meth c s₁ → c.maxLocals = maxL → (∀ x ∈ c.exceptionTable.toList, False) → Pc args s →
      W p l e (headSpec ws rm).room s m args below meth c s.heap [] 0 0 (vx_MQ below Qc XC args s mc ms free) (entryFrame m args maxL)) : vx_Met l y ws rm Pc Qc XC mc ms free := by
  refine MetFree.of_bodyS (code := cc) (maxLocals := maxL) (ret := ret) hy ?_ ?_
  · intro args s m h hn
    obtain ⟨meth, c, h1, h2, h3, h4, h5, h6, -, -⟩ := Cond.code_spec hn (atoms_spec (ws := ws) h _ (by rw [hw]; exact List.mem_cons_self))
    exact ⟨meth, c, h1, h2, h3, h4, h5, h6⟩
  · intro p e s m args below meth c s₁ B hml hP _
    have hh0 : s₁.heap = s.heap := by rw [B.state]; rfl
    have ht : ∀ x ∈ c.exceptionTable.toList, False := by
      obtain ⟨meth9, c9, h1, h2, -, -, -, -, h7, -⟩ := Cond.code_spec B.named (atoms_spec (ws := ws) B.pre _ (by rw [hw]; exact List.mem_cons_self))
      cases Option.some.inj (h1.symm.trans B.method)
      cases Option.some.inj (h2.symm.trans (Stand.of_body B).code)
      intro x hx
      rw [Array.isEmpty_iff.mp h7] at hx
      cases hx
    obtain ⟨t, a1, o, b1, b2, b3⟩ := body p e s m args below meth c s₁ B hml ht hP s₁ hh0 (Stand.of_body B)
    exact ⟨t, o, a1, b1, b2, b3⟩
/-- the table of a body with handlers -/
theorem vx_table {p : Program} {x y : MethodName} {S : Spec} {cc bytes : ByteArray} {maxL maxL' : Nat} {ret ret' : Option FieldType} {e : Env} {s s₁ : State} {m : MethodId} {args : Array Value} {below : List Frame} {meth : Method} {c : Code} {hh : List (Nat × Nat × Nat × Nat)}
    (B : BodyLoose p l y S cc maxL ret e s m args below meth c s₁) (h : (Cond.codeWith y bytes maxL' ret' hh).before args s = true) : c.exceptionTable.toList = tableOf hh := by
  obtain ⟨m9, meth9, c9, hn9, h1, h2, -, -, h6, -⟩ := Cond.codeWith_spec h
  cases Option.some.inj (hn9.symm.trans B.named)
  cases Option.some.inj (h1.symm.trans B.method)
  cases Option.some.inj (h2.symm.trans (Stand.of_body B).code)
  rw [← h6, table_eq]
end Bodies
end VXA
/-! ===== END ===== -/
/-! ===== BEGIN a static call of a method with an exception table ===== -/
section VXS
variable {p : Program} {l : Launch} {e : Env} {R : Room} {s : State} {m : MethodId} {args : Array Value} {below : List Frame} {meth : Method} {c : Code} {T : State} {H : Heap} {locs : List Loc} {cells slots : Nat}
abbrev vx_CSW (R : Room) (s : State) (args : Array Value) (own : String) (index : Nat) (y : MethodName) (bytes : ByteArray) (maxL : Nat) (ret : Option FieldType) (hh : List (Nat × Nat × Nat × Nat)) (ws : List Cond) (rm : Room) (mc ms n : Nat) : Prop :=
  (rm.cells = mc ∧ rm.slots = ms ∧ rm.frames + 1 ≤ R.frames ∧ 8 + (maxL + 11) + rm.locals ≤ R.locals ∧ (∀ w ∈ ws, ∀ (a' : Array Value) (U : State), s.WarmedH U.vm → w.before a' U = true) ∧ Cond.codeWith y bytes maxL ret hh ∈ ws) ∧
  (Cond.codeWith y bytes maxL ret hh).before args s = true ∧ (Cond.initialized y.cls).before args s = true ∧ (y.cls ≠ "java/lang/invoke/MethodHandle" ∧ y.cls ≠ "java/lang/invoke/VarHandle") ∧
  (∀ sig, parseMethodDescriptor y.desc = some sig → n = sig.parameters.length) ∧ (Cond.methodLink own index y).before args s = true ∧ (Cond.static y).before args s = true
theorem vx_cwSW {own : String} {index maxL mc ms : Nat} {y : MethodName} {bytes : ByteArray} {ret : Option FieldType} {hh : List (Nat × Nat × Nat × Nat)} {Ts ws ws' : List Cond} {rm : Room} (n : Nat) (ht : ∀ w ∈ Ts, w.before args s = true) (hT : GoodIn Ts (va_wsS own index y ws)) (hw : ws = Cond.codeWith y bytes maxL ret hh :: ws') (hrc : rm.cells = mc) (hrs : rm.slots = ms)
    (hd : y.cls ≠ "java/lang/invoke/MethodHandle" ∧ y.cls ≠ "java/lang/invoke/VarHandle" ∧ (parseMethodDescriptor y.desc).map (fun d => d.parameters.length) = some n) (hR : rm.frames + 1 ≤ R.frames ∧ 8 + (maxL + 11) + rm.locals ≤ R.locals) :
    vx_CSW R s args own index y bytes maxL ret hh ws rm mc ms n := by
  have ok : ∀ w ∈ va_wsS own index y ws, w.before args s = true := fun w h => ht w (hT w h).1
  have hG : GoodIn Ts ws := fun w h => hT w (by unfold va_wsS; exact List.mem_append_right _ h)
  have hc : Cond.codeWith y bytes maxL ret hh ∈ ws := by rw [hw]; exact List.mem_cons_self
  refine ⟨⟨hrc, hrs, hR.1, hR.2, pay_in ht hG, hc⟩, ht _ (hG _ hc).1, ok _ (by simp [va_wsS]), ⟨hd.1, hd.2.1⟩, fun sig h => ?_, ok _ (by simp [va_wsS]), ok _ (by simp [va_wsS])⟩
  have h2 := hd.2.2
  rw [h] at h2
  exact (Option.some.inj h2).symm
theorem vx_callSW (X : Stand p l e R s m args below meth c T locs cells slots) (hexec : p.tables.exec = Jvm.exec) {own : String} {index : Nat} {y : MethodName} {bytes : ByteArray} {maxL : Nat} {ret : Option FieldType} {hh : List (Nat × Nat × Nat × Nat)}
    (hown : s.vm.findClass own = some m.cls) (hlink : (Cond.methodLink own index y).before args s = true) (hstat : (Cond.static y).before args s = true) (hinit : (Cond.initialized y.cls).before args s = true)
    (hcode : (Cond.codeWith y bytes maxL ret hh).before args s = true) (hy : y.cls ≠ "java/lang/invoke/MethodHandle" ∧ y.cls ≠ "java/lang/invoke/VarHandle")
    {W9 : Nat} {Pre : Pt → Array Value → Prop} {Post : Pt → Array Value → Option Value → Pt → Prop} (hK : Back l R p e below s args y 3 W9 Pre Post)
    {g : JFrame} (hg : g.method = m) (hsize : g.locals.size = c.maxLocals) {argsL rest : List Value} (hlen : ∀ sig, parseMethodDescriptor y.desc = some sig → argsL.length = sig.parameters.length)
    (hstack : g.stack = argsL.reverse ++ rest) (hW : 2 * g.monitorRoom + (rest.map fun v => v.category).sum ≤ W9) (hdg : decode c.code g.pc = .ok (.invokestatic index, 3))
    (hpre : ∀ vm₁, s.WarmedH vm₁ → Pre ⟨T.setVm vm₁, locs, cells, slots⟩ argsL.toArray) :
    ∃ (v : Option Value) (vm₁ : Vm) (B : Pt), s.WarmedH vm₁ ∧ Stand p l e R s m args below meth c B.U B.locs B.cells B.slots ∧ Post ⟨T.setVm vm₁, locs, cells, slots⟩ argsL.toArray v B ∧
      ∀ target, Steps p.tables e below (B.U.setTop { g with pc := g.pc + 3, stack := v.toList ++ rest }) target → Steps p.tables e below (T.setTop g) target := by
  obtain ⟨mk, methM, cM, hnamed, hmethM, -, -, -, -, -, -, hsigM⟩ := Cond.codeWith_spec hcode
  have hstatic : methM.isStatic = true := Cond.static_spec hnamed hmethM hstat
  obtain ⟨kP, hkP, -⟩ := className_of_methodNamed hnamed
  have hinitP : kP.init = .initialized := Cond.initialized_spec (findClass_of_methodNamed hnamed) hkP hinit
  obtain ⟨vm₁, X₁, hstep₁⟩ := X.invokestatic hexec hown hlink hnamed hmethM hstatic hkP hinitP hy (g := g) hg (argsL := argsL) (rest := rest) (hlen _ hsigM) hstack hdg
  obtain ⟨v, B, X', hpost, hsteps⟩ := hK m meth c ⟨T.setVm vm₁, locs, cells, slots⟩ { g with stack := rest } (.invokestatic index) mk argsL.toArray X₁ hg hsize hdg hW (X₁.named hnamed) (hpre vm₁ X₁.warmed)
  exact ⟨v, vm₁, B, X₁.warmed, X', hpost, fun target h => hstep₁ _ fun acts => by rw [doInvoke_state]; exact hsteps.trans h⟩
theorem vx_runSW {y : MethodName} {bytes cc : ByteArray} {maxL nL mc ms n index : Nat} {ret : Option FieldType} {hh : List (Nat × Nat × Nat × Nat)} {ws : List Cond} {rm : Room} {Pc : Array Value → State → Prop} {Qc : Array Value → State → Outcome → State → Prop} {free : Addr → Prop} {Ts : List Cond} {own : String} {As rest : List Value} {g : JFrame}
    (S : CallFix p m c cc nL s args Ts own) (hM : Met l y ws rm Pc Qc mc ms free) (cw : vx_CSW R s args own index y bytes maxL ret hh ws rm mc ms n) (hp : PreS s H Pc As)
    (hg : g.method = m) (hn : As.length = n) (hsize : g.locals.size = nL) (hstack : g.stack = As.reverse ++ rest) (hW : 2 * g.monitorRoom + (rest.map fun v => v.category).sum ≤ 8) (hdg : decode cc g.pc = .ok (.invokestatic index, 3)) (hf : cells + mc ≤ R.cells ∧ slots + ms ≤ R.slots) :
    va_Run p l e R s m args below meth c H locs cells slots mc ms g rest (Qc As.toArray) (free) := by
  obtain ⟨⟨hrc, hrs, hfr, hlo, hws, hcw⟩, hcode, hini, hy, hlen, hl, hstt⟩ := cw
  have hK : Back l R p e below s args y 3 8 (PreOf R mc ms Pc) (PostOf Qc mc ms free) := va_backW (hh := hh) (bytes := bytes) (maxL := maxL) (ret := ret) hM hp.1 hrc hrs hfr hlo hws hcw (fun a' U hW => word_at hW (Or.inl (by first | rfl | simp [Cond.onTables, Cond.keeps, Cond.steady])) hini)
  obtain ⟨hx, hb, hml, ho, -⟩ := S
  intro T hT X
  obtain ⟨v, vm₁, ⟨U', l2, c2, s2⟩, hW₁, X', ⟨g', mk, t, L, e1, e2, hq, h1, hL, h2, h3⟩, st⟩ := vx_callSW X hx (hh := hh) (bytes := bytes) (maxL := maxL) (ret := ret) ho hl hstt hini hcode hy hK hg (hsize.trans hml.symm) (argsL := As) (rest := rest) (fun sig h => hn.trans (hlen sig h)) hstack hW (by rw [hb]; exact hdg)
    (fun vm₁ hW₁ => ⟨hf.1, hf.2, hp.2 (T.setVm vm₁) hT hW₁⟩)
  dsimp only [Pt.U, Pt.locs, Pt.cells, Pt.slots] at X' e1 e2 h1 h2 h3 st
  subst h1; subst h2; subst h3
  exact ⟨v, (T.setVm vm₁).calling g' mk As.toArray, t, U', L, hT, X', hL, e1, e2, hq, st⟩
/-- not caught here, past rows that name other classes: it goes on to the caller -/
theorem vx_outP {p : Program} {l : Launch} {e : Env} {R : Room} {s : State} {m : MethodId} {args : Array Value} {below : List Frame} {meth : Method} {c : Code} {H : Heap} {locs : List Loc} {cells slots : Nat} {free : Addr → Prop} {ls : Array Slot} {rest : List Value} {Qc : Array Value → State → Outcome → State → Prop} {XC : String → State → State → Prop}
    {pc : Nat} {own E : String} {ce : Cell} {q : Addr} {mc ms : Nat} (hown : s.vm.findClass own = some m.cls) (hlocks : meth.locks = false)
    (hpass : ∀ z ∈ c.exceptionTable.toList, covers z pc = false ∨ (z.catchType ≠ 0 ∧ ∃ nm : String, (Cond.classLink own z.catchType nm).before args s = true ∧ va_Nc E nm s)) (hcell : H[q]? = some ce) (hv : ce.vm = .none) (hcl : s.vm.findClass E = some ce.cls)
    (hx : ∀ t : State, t.heap = H → s.vm.Alike t.vm → XC E s t) (hf : ∀ z ∈ locs, free z.base) (hc : cells ≤ mc) (hs : slots ≤ ms) :
    vx_W p l e R s m args below meth c H locs cells slots (vx_MQ below Qc XC args s mc ms free) (F0 m pc ls rest) q := by
  intro T hT X
  have hpl : e.platform.magicAccessors = ({} : Platform).magicAccessors := by rw [X.admits.platform]
  obtain ⟨vm', hW', X', st⟩ := X.outThrough hlocks q (g := F0 m pc ls rest) rfl rfl rfl (cell := ce) (by rw [hT]; exact hcell) (by rw [hv]; rfl)
    (by obtain ⟨k9, h9, -⟩ := Vm.findClass_spec hcl; exact ⟨k9, h9⟩) (fun z hz => by
      rcases hpass z hz with h | ⟨hz0, nm, hl1, hn1⟩
      · exact Or.inl h
      · obtain ⟨c6, hc6, hcl6⟩ := Cond.classLink_spec hown hl1 e.platform hpl
        obtain ⟨a8, b8, h1, h2, h3⟩ := hn1
        cases Option.some.inj (h1.symm.trans hcl)
        cases Option.some.inj (h2.symm.trans hc6)
        exact Or.inr ⟨hz0, _, hcl6, h3⟩)
  obtain ⟨g₀, hfr⟩ := X'.frames_eq
  have hcell9 : ((T.setVm vm').setFrames (.throwing q :: below)).heap[q]? = some ce := by
    show T.heap[q]? = some ce
    rw [hT]; exact hcell
  have hend : Ended ((T.setVm vm').setFrames (.throwing q :: below)) below (.threw q) := State.frames_setFrames _ (State.cur_lt_of_frames hfr)
  refine ⟨(T.setVm vm').setFrames (.throwing q :: below), ?_, .threw q, X'.here.running, hend, Or.inr ⟨q, rfl, E, ce, locs, hx _ hT (X'.ends _).1.alike, hcell9, hv, hcl, (X'.ends _).1, (X'.ends _).2.mono hc hs, hf⟩⟩
  rw [X.pushThrowing_eq]
  exact st
/-- a thing of a world lies in the heap -/
theorem vx_lt {D : va_G} {cl : List vw_C} {ws : va_W} {H1 : Heap} (h : va_P D cl ws H1) {k : Nat} {q : Nat × va_E} (hk : ws[k]? = some q) : q.1 < H1.size := (h k q hk).lt
end VXS
/-! ===== END ===== -/
/-! ===== BEGIN methods with a table of their own: called by a name, returning or throwing ===== -/
section VXH
/-! vx_backW, vx_callVX, vx_callSX, vx_callVW, vx_runVW, vx_runVX, vx_runSX, vx_ofWH follow the same proofs as their sisters above (Free/Laws.lean, Shelf42/LK1.lean); vx_outP calls Shelf42/NT130.lean (outThrough). -/
section
variable {l : Launch} {R : Room} {p : Program} {e : Env} {below : List Frame} {s : State} {sargs : Array Value} {y : MethodName} {len W9 : Nat}
theorem vx_backW {ws : List Cond} {rm : Room} {Pc : Array Value → State → Prop} {Qc : Array Value → State → Outcome → State → Prop} {XC : String → State → State → Prop} {mc ms : Nat} {free : Addr → Prop} {bytes : ByteArray} {maxL : Nat} {ret : Option FieldType} {hh : List (Nat × Nat × Nat × Nat)}
    (hM : vx_Met l y ws rm Pc Qc XC mc ms free) (hblind : FrameBlind Pc) (hrc : rm.cells = mc) (hrs : rm.slots = ms)
    (hframes : rm.frames + 1 ≤ R.frames) (hlocals : W9 + (maxL + 11) + rm.locals ≤ R.locals)
    (hws : ∀ w ∈ ws, ∀ a' U, s.WarmedH U.vm → w.before a' U = true) (hcode : Cond.codeWith y bytes maxL ret hh ∈ ws) (hinit : ∀ a' U, s.WarmedH U.vm → (Cond.initialized y.cls).before a' U = true) :
    vx_Back l R p e below s sargs y len W9 (PreOf R mc ms Pc) (PostOf Qc mc ms free) (vx_Post XC mc ms free) := by
  intro m meth c A g ig mk a X hg hsize hdg hW hn hp
  have h1 : (headSpec ws rm).pre.before a A.U = true := atoms_intro fun w hw => hws w hw _ _ X.warmed
  have h2 : (Cond.codeWith y bytes maxL ret hh).before a A.U = true := hws _ hcode _ _ X.warmed
  have h3 : (Cond.initialized y.cls).before a A.U = true := hinit _ _ X.warmed
  have h4 : A.cells + (headSpec ws rm).room.cells ≤ R.cells := by rw [show (headSpec ws rm).room.cells = mc from hrc]; exact hp.1
  have h5 : A.slots + (headSpec ws rm).room.slots ≤ R.slots := by rw [show (headSpec ws rm).room.slots = ms from hrs]; exact hp.2.1
  have hPc : Pc a (A.U.calling g mk a) := hblind _ _ _ _ hp.2.2
  obtain ⟨U, Ls, c0, s0⟩ := A
  dsimp only [Pt.U, Pt.locs, Pt.cells, Pt.slots] at h1 h2 h3 h4 h5 X hn hPc ⊢
  obtain ⟨m9, methY, cY, hn9, hmY, hcY, -, hlY, -⟩ := Cond.codeWith_spec h2
  cases Option.some.inj (hn9.symm.trans hn)
  obtain ⟨kY, hkY, -⟩ := className_of_methodNamed hn
  have hinitY : kY.init = .initialized := Cond.initialized_spec (findClass_of_methodNamed hn) hkY h3
  have h : At U g.method c below := by rw [hg]; exact X.here
  have hlocals9 : W9 + (maxL + 11) + (headSpec ws rm).room.locals ≤ R.locals := hlocals
  have happ : (headSpec ws rm).appliesLoose y e.platform (U.calling g mk a) = true :=
    Spec.appliesLoose_calling (g := g) h hdg hn hkY hinitY
      (X.room_calling (g := g) (R' := (headSpec ws rm).room) hsize hmY hcY hframes (by rw [hlY]; omega) h4 h5) h1
  obtain ⟨mid, hmid⟩ := h.above
  have hfr : (U.setTop g).frames = (.java g :: mid) ++ below := by rw [State.frames_setTop' g h.top, hmid]; rfl
  obtain ⟨o, s₂, hsteps, -, hend, hq⟩ := Steps.callFree hM p X.admits X.cas X.clock (acts := []) hfr happ hPc trivial
  have hq' : vx_Q Qc XC mc ms free a (U.calling g mk a) o s₂ := hq
  rw [State.frames_setTop' g h.top] at hend
  obtain ⟨g₀, hg0⟩ := Option.isSome_iff_exists.mp h.top
  obtain ⟨r, hr⟩ := State.topJava?_eq_some.mp hg0
  have hr' : (({ U with heap := s₂.heap, slotsUsed := s₂.slotsUsed } : State).setVm s₂.vm).frames = .java g₀ :: r := hr
  rcases hq' with ⟨hqc, L, hfe, hL⟩ | ⟨q, rfl, E, ce, L, hx, hce, hcv, hcl, hW₂, hsm, hL⟩
  · obtain ⟨⟨v, rfl⟩, hW₂, e2, q2, q3, q4, q5, q6⟩ := id hfe
    have e3 : s₂ = ({ (U.calling g mk a).setFrames s₂.frames with heap := s₂.heap, slotsUsed := s₂.slotsUsed } : State).setVm s₂.vm := by
      have : s₂ = ({ s₂ with vm := (U.calling g mk a).vm } : State).setVm s₂.vm := rfl
      rw [e2] at this
      exact this
    obtain ⟨c₂, i₂, len₂, hc₂, hd₂, hf₂⟩ := hend
    have hW' : U.WarmedH s₂.vm := hW₂
    have hcc : c₂ = c := by
      have h1 : s₂.code? g.method = U.code? g.method := by
        rw [State.code?_eq, State.code?_eq, hW'.alike.method?]
      exact Option.some.inj (hc₂.symm.trans (h1.trans h.code))
    subst hcc
    have hlen : len₂ = len := by rw [hdg] at hd₂; cases hd₂; rfl
    subst hlen
    have hs₂ : s₂ = (({ U with heap := s₂.heap, slotsUsed := s₂.slotsUsed } : State).setVm s₂.vm).setTop { g with pc := g.pc + len₂, stack := v.toList ++ g.stack } := by
      refine e3.trans ?_
      rw [hf₂, State.calling_eq h.top, State.setFrames_setFrames, State.setTop_of_frames _ hr', hr]
      rfl
    have hsame : U.sameButNew ({ U with heap := s₂.heap, slotsUsed := s₂.slotsUsed } : State) L mc ms := by
      refine ⟨?_, q2, q3, q4, q5, q6⟩
      obtain ⟨t, ht, -⟩ := State.frames_cons hr
      show ({ U with heap := s₂.heap, slotsUsed := s₂.slotsUsed } : State) = { U.setFrames U.frames with heap := s₂.heap, slotsUsed := s₂.slotsUsed }
      rw [State.setFrames_self ht]
    subst hg
    refine Or.inl ⟨v, ⟨(({ U with heap := s₂.heap, slotsUsed := s₂.slotsUsed } : State).setVm s₂.vm), Ls ++ L, c0 + mc, s0 + ms⟩,
      ⟨X.admits, X.cas, X.clock, X.frames, X.room, X.hears, X.method, X.code, (X.here.setHeapUsed s₂.heap s₂.slotsUsed).setVm hW'.alike, X.tail, State.WarmedH.trans X.warmed hW', X.limits, X.bytes, X.same.trans (hsame.setVm s.vm)⟩,
      ⟨g, mk, s₂, L, rfl, rfl, hqc, rfl, hL, rfl, rfl⟩, ?_⟩
    show Steps p.tables e below _ ((({ U with heap := s₂.heap, slotsUsed := s₂.slotsUsed } : State).setVm s₂.vm).setTop { g with pc := g.pc + len₂, stack := v.toList ++ g.stack })
    rw [← hs₂]
    exact hsteps
  · obtain ⟨e2, q2, q3, q4, q5, q6⟩ := id hsm
    have e3 : s₂ = ({ (U.calling g mk a).setFrames s₂.frames with heap := s₂.heap, slotsUsed := s₂.slotsUsed } : State).setVm s₂.vm := by
      have : s₂ = ({ s₂ with vm := (U.calling g mk a).vm } : State).setVm s₂.vm := rfl
      rw [e2] at this
      exact this
    have hf₂ : s₂.frames = .throwing q :: .java g :: U.frames.tail := hend
    have hW' : U.WarmedH s₂.vm := hW₂
    have hs₂ : s₂ = ((({ U with heap := s₂.heap, slotsUsed := s₂.slotsUsed } : State).setVm s₂.vm).setTop g).pushFrame (.throwing q) := by
      refine e3.trans ?_
      rw [hf₂, State.calling_eq h.top, State.setFrames_setFrames, State.pushFrame, State.frames_setTop _ hr', State.setTop_of_frames _ hr', State.setFrames_setFrames, hr]
      rfl
    have hsame : U.sameButNew ({ U with heap := s₂.heap, slotsUsed := s₂.slotsUsed } : State) L mc ms := by
      refine ⟨?_, q2, q3, q4, q5, q6⟩
      obtain ⟨t, ht, -⟩ := State.frames_cons hr
      show ({ U with heap := s₂.heap, slotsUsed := s₂.slotsUsed } : State) = { U.setFrames U.frames with heap := s₂.heap, slotsUsed := s₂.slotsUsed }
      rw [State.setFrames_self ht]
    subst hg
    refine Or.inr ⟨q, ⟨(({ U with heap := s₂.heap, slotsUsed := s₂.slotsUsed } : State).setVm s₂.vm), Ls ++ L, c0 + mc, s0 + ms⟩,
      ⟨X.admits, X.cas, X.clock, X.frames, X.room, X.hears, X.method, X.code, (X.here.setHeapUsed s₂.heap s₂.slotsUsed).setVm hW'.alike, X.tail, State.WarmedH.trans X.warmed hW', X.limits, X.bytes, X.same.trans (hsame.setVm s.vm)⟩,
      ⟨g, mk, s₂, L, E, ce, rfl, rfl, hx, hce, hcv, hcl, rfl, hL, rfl, rfl⟩, ?_⟩
    show Steps p.tables e below _ (((({ U with heap := s₂.heap, slotsUsed := s₂.slotsUsed } : State).setVm s₂.vm).setTop g).pushFrame (.throwing q))
    rw [← hs₂]
    exact hsteps
end
variable {p : Program} {l : Launch} {e : Env} {R : Room} {s : State} {m : MethodId} {args : Array Value} {below : List Frame} {meth : Method} {c : Code} {T : State} {H : Heap} {locs : List Loc} {cells slots : Nat}
theorem vx_callVX (X : Stand p l e R s m args below meth c T locs cells slots) (hexec : p.tables.exec = Jvm.exec) {own C : String} {index : Nat} {y : MethodName} {bytes : ByteArray} {maxL : Nat} {ret : Option FieldType} {hh : List (Nat × Nat × Nat × Nat)}
    (hown : s.vm.findClass own = some m.cls) (hlink : (Cond.methodLink own index y).before args s = true) (hinst : (Cond.instanceMethod y).before args s = true) (hsel : (Cond.selects C y y).before args s = true)
    (hcode : (Cond.codeWith y bytes maxL ret hh).before args s = true) (hy : y.cls ≠ "java/lang/invoke/MethodHandle" ∧ y.cls ≠ "java/lang/invoke/VarHandle")
    {W9 : Nat} {Pre : Pt → Array Value → Prop} {Post : Pt → Array Value → Option Value → Pt → Prop} {PostX : Pt → Array Value → Addr → Pt → Prop} (hK : vx_Back l R p e below s args y 3 W9 Pre Post PostX)
    {b : Addr} {cellB : Cell} (hcell : T.heap[b]? = some cellB) (hobj : cellB.vm.isStatics = false) (hcls : s.vm.findClass C = some cellB.cls)
    {g : JFrame} (hg : g.method = m) (hsize : g.locals.size = c.maxLocals) {argsL rest : List Value} (hlen : ∀ sig, parseMethodDescriptor y.desc = some sig → argsL.length = sig.parameters.length)
    (hstack : g.stack = argsL.reverse ++ .ref b :: rest) (hW : 2 * g.monitorRoom + (rest.map fun v => v.category).sum ≤ W9) (hdg : decode c.code g.pc = .ok (.invokevirtual index, 3))
    (hpre : ∀ vm₁, s.WarmedH vm₁ → Pre ⟨T.setVm vm₁, locs, cells, slots⟩ (Value.ref b :: argsL).toArray) :
    (∃ (v : Option Value) (vm₁ : Vm) (B : Pt), s.WarmedH vm₁ ∧ Stand p l e R s m args below meth c B.U B.locs B.cells B.slots ∧ Post ⟨T.setVm vm₁, locs, cells, slots⟩ (Value.ref b :: argsL).toArray v B ∧
      ∀ target, Steps p.tables e below (B.U.setTop { g with pc := g.pc + 3, stack := v.toList ++ rest }) target → Steps p.tables e below (T.setTop g) target) ∨
    (∃ (q : Addr) (vm₁ : Vm) (B : Pt), s.WarmedH vm₁ ∧ Stand p l e R s m args below meth c B.U B.locs B.cells B.slots ∧ PostX ⟨T.setVm vm₁, locs, cells, slots⟩ (Value.ref b :: argsL).toArray q B ∧
      Steps p.tables e below (T.setTop g) ((B.U.setTop { g with stack := rest }).pushFrame (.throwing q))) := by
  obtain ⟨mk, methM, hnamed, hmethM, hstM, habM⟩ := Cond.instanceMethod_spec hinst
  obtain ⟨m8, methM', cM, hn8, hmethM', -, -, -, -, -, -, hsigM⟩ := Cond.codeWith_spec hcode
  cases Option.some.inj (hn8.symm.trans hnamed)
  cases hmethM.symm.trans hmethM'
  obtain ⟨c2, r2, m2, q1, q2, q3, q4, kP, hkP, hkPi⟩ := Cond.selects_spec hsel
  cases hcls.symm.trans q1
  cases (State.methodFound?_of_named hnamed hy).symm.trans q2
  cases hnamed.symm.trans q3
  have hselP : selectMethod e.platform s.vm cellB.cls mk = .method mk := by rw [Launch.admits_selectMethod X.admits]; exact q4
  obtain ⟨vm₁, X₁, hstep₁⟩ := X.invokevirtual hexec hown hlink hnamed hmethM hstM hkP hkPi hy (a := b) (cell := cellB) hcell
    (fun z h => by rw [h] at hobj; cases hobj) hselP hmethM habM hkP hkPi (g := g) hg (argsL := argsL) (rest := rest) (hlen _ hsigM) hstack hdg
  rcases hK m meth c ⟨T.setVm vm₁, locs, cells, slots⟩ { g with stack := rest } (.invokevirtual index) mk (Value.ref b :: argsL).toArray X₁ hg hsize hdg hW (X₁.named hnamed) (hpre vm₁ X₁.warmed) with ⟨v, B, X', hpost, hsteps⟩ | ⟨q, B, X', hpost, hsteps⟩
  · exact Or.inl ⟨v, vm₁, B, X₁.warmed, X', hpost, fun target h => hstep₁ _ fun acts => by rw [doInvoke_state]; exact hsteps.trans h⟩
  · exact Or.inr ⟨q, vm₁, B, X₁.warmed, X', hpost, hstep₁ _ fun acts => by rw [doInvoke_state]; exact hsteps⟩
theorem vx_callSX (X : Stand p l e R s m args below meth c T locs cells slots) (hexec : p.tables.exec = Jvm.exec) {own : String} {index : Nat} {y : MethodName} {bytes : ByteArray} {maxL : Nat} {ret : Option FieldType} {hh : List (Nat × Nat × Nat × Nat)}
    (hown : s.vm.findClass own = some m.cls) (hlink : (Cond.methodLink own index y).before args s = true) (hstat : (Cond.static y).before args s = true) (hinit : (Cond.initialized y.cls).before args s = true)
    (hcode : (Cond.codeWith y bytes maxL ret hh).before args s = true) (hy : y.cls ≠ "java/lang/invoke/MethodHandle" ∧ y.cls ≠ "java/lang/invoke/VarHandle")
    {W9 : Nat} {Pre : Pt → Array Value → Prop} {Post : Pt → Array Value → Option Value → Pt → Prop} {PostX : Pt → Array Value → Addr → Pt → Prop} (hK : vx_Back l R p e below s args y 3 W9 Pre Post PostX)
    {g : JFrame} (hg : g.method = m) (hsize : g.locals.size = c.maxLocals) {argsL rest : List Value} (hlen : ∀ sig, parseMethodDescriptor y.desc = some sig → argsL.length = sig.parameters.length)
    (hstack : g.stack = argsL.reverse ++ rest) (hW : 2 * g.monitorRoom + (rest.map fun v => v.category).sum ≤ W9) (hdg : decode c.code g.pc = .ok (.invokestatic index, 3))
    (hpre : ∀ vm₁, s.WarmedH vm₁ → Pre ⟨T.setVm vm₁, locs, cells, slots⟩ argsL.toArray) :
    (∃ (v : Option Value) (vm₁ : Vm) (B : Pt), s.WarmedH vm₁ ∧ Stand p l e R s m args below meth c B.U B.locs B.cells B.slots ∧ Post ⟨T.setVm vm₁, locs, cells, slots⟩ argsL.toArray v B ∧
      ∀ target, Steps p.tables e below (B.U.setTop { g with pc := g.pc + 3, stack := v.toList ++ rest }) target → Steps p.tables e below (T.setTop g) target) ∨
    (∃ (q : Addr) (vm₁ : Vm) (B : Pt), s.WarmedH vm₁ ∧ Stand p l e R s m args below meth c B.U B.locs B.cells B.slots ∧ PostX ⟨T.setVm vm₁, locs, cells, slots⟩ argsL.toArray q B ∧
      Steps p.tables e below (T.setTop g) ((B.U.setTop { g with stack := rest }).pushFrame (.throwing q))) := by
  obtain ⟨mk, methM, cM, hnamed, hmethM, -, -, -, -, -, -, hsigM⟩ := Cond.codeWith_spec hcode
  have hstatic : methM.isStatic = true := Cond.static_spec hnamed hmethM hstat
  obtain ⟨kP, hkP, -⟩ := className_of_methodNamed hnamed
  have hinitP : kP.init = .initialized := Cond.initialized_spec (findClass_of_methodNamed hnamed) hkP hinit
  obtain ⟨vm₁, X₁, hstep₁⟩ := X.invokestatic hexec hown hlink hnamed hmethM hstatic hkP hinitP hy (g := g) hg (argsL := argsL) (rest := rest) (hlen _ hsigM) hstack hdg
  rcases hK m meth c ⟨T.setVm vm₁, locs, cells, slots⟩ { g with stack := rest } (.invokestatic index) mk argsL.toArray X₁ hg hsize hdg hW (X₁.named hnamed) (hpre vm₁ X₁.warmed) with ⟨v, B, X', hpost, hsteps⟩ | ⟨q, B, X', hpost, hsteps⟩
  · exact Or.inl ⟨v, vm₁, B, X₁.warmed, X', hpost, fun target h => hstep₁ _ fun acts => by rw [doInvoke_state]; exact hsteps.trans h⟩
  · exact Or.inr ⟨q, vm₁, B, X₁.warmed, X', hpost, hstep₁ _ fun acts => by rw [doInvoke_state]; exact hsteps⟩
theorem vx_callVW (X : Stand p l e R s m args below meth c T locs cells slots) (hexec : p.tables.exec = Jvm.exec) {own C : String} {index : Nat} {y : MethodName} {bytes : ByteArray} {maxL : Nat} {ret : Option FieldType} {hh : List (Nat × Nat × Nat × Nat)}
    (hown : s.vm.findClass own = some m.cls) (hlink : (Cond.methodLink own index y).before args s = true) (hinst : (Cond.instanceMethod y).before args s = true) (hsel : (Cond.selects C y y).before args s = true)
    (hcode : (Cond.codeWith y bytes maxL ret hh).before args s = true) (hy : y.cls ≠ "java/lang/invoke/MethodHandle" ∧ y.cls ≠ "java/lang/invoke/VarHandle")
    {W9 : Nat} {Pre : Pt → Array Value → Prop} {Post : Pt → Array Value → Option Value → Pt → Prop} (hK : Back l R p e below s args y 3 W9 Pre Post)
    {b : Addr} {cellB : Cell} (hcell : T.heap[b]? = some cellB) (hobj : cellB.vm.isStatics = false) (hcls : s.vm.findClass C = some cellB.cls)
    {g : JFrame} (hg : g.method = m) (hsize : g.locals.size = c.maxLocals) {argsL rest : List Value} (hlen : ∀ sig, parseMethodDescriptor y.desc = some sig → argsL.length = sig.parameters.length)
    (hstack : g.stack = argsL.reverse ++ .ref b :: rest) (hW : 2 * g.monitorRoom + (rest.map fun v => v.category).sum ≤ W9) (hdg : decode c.code g.pc = .ok (.invokevirtual index, 3))
    (hpre : ∀ vm₁, s.WarmedH vm₁ → Pre ⟨T.setVm vm₁, locs, cells, slots⟩ (Value.ref b :: argsL).toArray) :
    ∃ (v : Option Value) (vm₁ : Vm) (B : Pt), s.WarmedH vm₁ ∧ Stand p l e R s m args below meth c B.U B.locs B.cells B.slots ∧ Post ⟨T.setVm vm₁, locs, cells, slots⟩ (Value.ref b :: argsL).toArray v B ∧
      ∀ target, Steps p.tables e below (B.U.setTop { g with pc := g.pc + 3, stack := v.toList ++ rest }) target → Steps p.tables e below (T.setTop g) target := by
  obtain ⟨mk, methM, hnamed, hmethM, hstM, habM⟩ := Cond.instanceMethod_spec hinst
  obtain ⟨m8, methM', cM, hn8, hmethM', -, -, -, -, -, -, hsigM⟩ := Cond.codeWith_spec hcode
  cases Option.some.inj (hn8.symm.trans hnamed)
  cases hmethM.symm.trans hmethM'
  obtain ⟨c2, r2, m2, q1, q2, q3, q4, kP, hkP, hkPi⟩ := Cond.selects_spec hsel
  cases hcls.symm.trans q1
  cases (State.methodFound?_of_named hnamed hy).symm.trans q2
  cases hnamed.symm.trans q3
  have hselP : selectMethod e.platform s.vm cellB.cls mk = .method mk := by rw [Launch.admits_selectMethod X.admits]; exact q4
  obtain ⟨vm₁, X₁, hstep₁⟩ := X.invokevirtual hexec hown hlink hnamed hmethM hstM hkP hkPi hy (a := b) (cell := cellB) hcell
    (fun z h => by rw [h] at hobj; cases hobj) hselP hmethM habM hkP hkPi (g := g) hg (argsL := argsL) (rest := rest) (hlen _ hsigM) hstack hdg
  obtain ⟨v, B, X', hpost, hsteps⟩ := hK m meth c ⟨T.setVm vm₁, locs, cells, slots⟩ { g with stack := rest } (.invokevirtual index) mk (Value.ref b :: argsL).toArray X₁ hg hsize hdg hW (X₁.named hnamed) (hpre vm₁ X₁.warmed)
  exact ⟨v, vm₁, B, X₁.warmed, X', hpost, fun target h => hstep₁ _ fun acts => by rw [doInvoke_state]; exact hsteps.trans h⟩
abbrev vx_CVW (R : Room) (s : State) (args : Array Value) (own C : String) (index : Nat) (y : MethodName) (bytes : ByteArray) (maxL : Nat) (ret : Option FieldType) (hh : List (Nat × Nat × Nat × Nat)) (ws : List Cond) (rm : Room) (mc ms n : Nat) : Prop :=
  (rm.cells = mc ∧ rm.slots = ms ∧ rm.frames + 1 ≤ R.frames ∧ 8 + (maxL + 11) + rm.locals ≤ R.locals ∧ (∀ w ∈ ws, ∀ (a' : Array Value) (U : State), s.WarmedH U.vm → w.before a' U = true) ∧ Cond.codeWith y bytes maxL ret hh ∈ ws) ∧
  (Cond.codeWith y bytes maxL ret hh).before args s = true ∧ (Cond.initialized y.cls).before args s = true ∧ (y.cls ≠ "java/lang/invoke/MethodHandle" ∧ y.cls ≠ "java/lang/invoke/VarHandle") ∧
  (∀ sig, parseMethodDescriptor y.desc = some sig → n = sig.parameters.length) ∧ (Cond.methodLink own index y).before args s = true ∧ (Cond.instanceMethod y).before args s = true ∧ (Cond.selects C y y).before args s = true
theorem vx_cwVW {own C : String} {index maxL mc ms : Nat} {y : MethodName} {bytes : ByteArray} {ret : Option FieldType} {hh : List (Nat × Nat × Nat × Nat)} {Ts ws ws' : List Cond} {rm : Room} (n : Nat) (ht : ∀ w ∈ Ts, w.before args s = true) (hT : GoodIn Ts (wsV own index C y ws)) (hw : ws = Cond.codeWith y bytes maxL ret hh :: ws') (hrc : rm.cells = mc) (hrs : rm.slots = ms)
    (hd : y.cls = C ∧ y.cls ≠ "java/lang/invoke/MethodHandle" ∧ y.cls ≠ "java/lang/invoke/VarHandle" ∧ (parseMethodDescriptor y.desc).map (fun d => d.parameters.length) = some n) (hR : rm.frames + 1 ≤ R.frames ∧ 8 + (maxL + 11) + rm.locals ≤ R.locals) :
    vx_CVW R s args own C index y bytes maxL ret hh ws rm mc ms n := by
  obtain ⟨hC, hd⟩ := hd
  subst hC
  have ok : ∀ w ∈ wsV own index y.cls y ws, w.before args s = true := fun w h => ht w (hT w h).1
  have hG : GoodIn Ts ws := fun w h => hT w (by unfold wsV; exact List.mem_append_right _ h)
  have hc : Cond.codeWith y bytes maxL ret hh ∈ ws := by rw [hw]; exact List.mem_cons_self
  refine ⟨⟨hrc, hrs, hR.1, hR.2, pay_in ht hG, hc⟩, ht _ (hG _ hc).1, ok _ (by simp [wsV]), ⟨hd.1, hd.2.1⟩, fun sig h => ?_, ok _ (by simp [wsV]), ok _ (by simp [wsV]), ok _ (by simp [wsV])⟩
  have h2 := hd.2.2
  rw [h] at h2
  exact (Option.some.inj h2).symm
theorem vx_runVW {y : MethodName} {bytes cc : ByteArray} {maxL nL mc ms n index : Nat} {ret : Option FieldType} {hh : List (Nat × Nat × Nat × Nat)} {ws : List Cond} {rm : Room} {Pc : Array Value → State → Prop} {Qc : Array Value → State → Outcome → State → Prop} {free : Addr → Prop} {Ts : List Cond} {own C : String} {b : Addr} {As rest : List Value} {g : JFrame}
    (S : CallFix p m c cc nL s args Ts own) (hM : Met l y ws rm Pc Qc mc ms free) (cw : vx_CVW R s args own C index y bytes maxL ret hh ws rm mc ms n) (hp : PreV s H C b Pc As)
    (hg : g.method = m) (hn : As.length = n) (hsize : g.locals.size = nL) (hstack : g.stack = As.reverse ++ .ref b :: rest) (hW : 2 * g.monitorRoom + (rest.map fun v => v.category).sum ≤ 8) (hdg : decode cc g.pc = .ok (.invokevirtual index, 3)) (hf : cells + mc ≤ R.cells ∧ slots + ms ≤ R.slots) :
    va_Run p l e R s m args below meth c H locs cells slots mc ms g rest (Qc (Value.ref b :: As).toArray) free := by
  obtain ⟨⟨hrc, hrs, hfr, hlo, hws, hcw⟩, hcode, hini, hy, hlen, hl, hin, hse⟩ := cw
  have hK : Back l R p e below s args y 3 8 (PreOf R mc ms Pc) (PostOf Qc mc ms free) := va_backW (hh := hh) (bytes := bytes) (maxL := maxL) (ret := ret) hM hp.1 hrc hrs hfr hlo hws hcw (fun a' U hW => word_at hW (Or.inl (by first | rfl | simp [Cond.onTables, Cond.keeps, Cond.steady])) hini)
  obtain ⟨hx, hb, hml, ho, -⟩ := S
  obtain ⟨-, ⟨cellB, hcB, hoB, hclB⟩, hPc⟩ := hp
  intro T hT X
  obtain ⟨v, vm₁, ⟨U', l2, c2, s2⟩, hW₁, X', ⟨g', mk, t, L, e1, e2, hq, h1, hL, h2, h3⟩, st⟩ := vx_callVW X hx (C := C) (hh := hh) (bytes := bytes) (maxL := maxL) (ret := ret) ho hl hin hse hcode hy hK (by rw [hT]; exact hcB) hoB hclB hg (hsize.trans hml.symm) (argsL := As) (rest := rest) (fun sig h => hn.trans (hlen sig h)) hstack hW (by rw [hb]; exact hdg)
    (fun vm₁ hW₁ => ⟨hf.1, hf.2, hPc (T.setVm vm₁) hT hW₁⟩)
  dsimp only [Pt.U, Pt.locs, Pt.cells, Pt.slots] at X' e1 e2 h1 h2 h3 st
  subst h1; subst h2; subst h3
  exact ⟨v, (T.setVm vm₁).calling g' mk (Value.ref b :: As).toArray, t, U', L, hT, X', hL, e1, e2, hq, st⟩
section
variable {y : MethodName} {bytes cc : ByteArray} {maxL nL mc ms n index : Nat} {ret : Option FieldType} {ws : List Cond} {rm : Room} {Pc : Array Value → State → Prop} {Qc : Array Value → State → Outcome → State → Prop} {XC : String → State → State → Prop} {free : Addr → Prop} {Ts : List Cond} {own C : String} {b : Addr} {As rest : List Value} {g : JFrame}
theorem vx_runVX {hh : List (Nat × Nat × Nat × Nat)} (S : CallFix p m c cc nL s args Ts own) (hM : vx_Met l y ws rm Pc Qc XC mc ms free) (cw : vx_CVW R s args own C index y bytes maxL ret hh ws rm mc ms n) (hp : PreV s H C b Pc As)
    (hg : g.method = m) (hn : As.length = n) (hsize : g.locals.size = nL) (hstack : g.stack = As.reverse ++ .ref b :: rest) (hW : 2 * g.monitorRoom + (rest.map fun v => v.category).sum ≤ 8) (hdg : decode cc g.pc = .ok (.invokevirtual index, 3)) (hf : cells + mc ≤ R.cells ∧ slots + ms ≤ R.slots) :
    vx_Run p l e R s m args below meth c H locs cells slots mc ms g rest (Qc (Value.ref b :: As).toArray) XC free := by
  obtain ⟨⟨hrc, hrs, hfr, hlo, hws, hcw⟩, hcode, hini, hy, hlen, hl, hin, hse⟩ := cw
  have hK : vx_Back l R p e below s args y 3 8 (PreOf R mc ms Pc) (PostOf Qc mc ms free) (vx_Post XC mc ms free) := vx_backW (hh := hh) (bytes := bytes) (maxL := maxL) (ret := ret) hM hp.1 hrc hrs hfr hlo hws hcw (fun a' U hW => word_at hW (Or.inl (by first | rfl | simp [Cond.onTables, Cond.keeps, Cond.steady])) hini)
  obtain ⟨hx, hb, hml, ho, -⟩ := S
  obtain ⟨-, ⟨cellB, hcB, hoB, hclB⟩, hPc⟩ := hp
  intro T hT X
  rcases vx_callVX X hx (C := C) (hh := hh) (bytes := bytes) (maxL := maxL) (ret := ret) ho hl hin hse hcode hy hK (by rw [hT]; exact hcB) hoB hclB hg (hsize.trans hml.symm) (argsL := As) (rest := rest) (fun sig h => hn.trans (hlen sig h)) hstack hW (by rw [hb]; exact hdg)
    (fun vm₁ hW₁ => ⟨hf.1, hf.2, hPc (T.setVm vm₁) hT hW₁⟩) with ⟨v, vm₁, ⟨U', l2, c2, s2⟩, hW₁, X', ⟨g', mk, t, L, e1, e2, hq, h1, hL, h2, h3⟩, st⟩ | ⟨q, vm₁, ⟨U', l2, c2, s2⟩, hW₁, X', ⟨g', mk, t, L, E, ce, e1, e2, hq, hce, hcv, hcl, h1, hL, h2, h3⟩, st⟩
  · dsimp only [Pt.U, Pt.locs, Pt.cells, Pt.slots] at X' e1 e2 h1 h2 h3 st
    subst h1; subst h2; subst h3
    exact Or.inl ⟨v, (T.setVm vm₁).calling g' mk (Value.ref b :: As).toArray, t, U', L, hT, X', hL, e1, e2, hq, st⟩
  · dsimp only [Pt.U, Pt.locs, Pt.cells, Pt.slots] at X' e1 e2 h1 h2 h3 st hcl
    subst h1; subst h2; subst h3
    exact Or.inr ⟨q, (T.setVm vm₁).calling g' mk (Value.ref b :: As).toArray, t, U', L, E, ce, hT, X', hL, e1, e2, hq, hce, hcv, vx_cls hW₁ hcl, st⟩
theorem vx_runSX {hh : List (Nat × Nat × Nat × Nat)} (S : CallFix p m c cc nL s args Ts own) (hM : vx_Met l y ws rm Pc Qc XC mc ms free) (cw : vx_CSW R s args own index y bytes maxL ret hh ws rm mc ms n) (hp : PreS s H Pc As)
    (hg : g.method = m) (hn : As.length = n) (hsize : g.locals.size = nL) (hstack : g.stack = As.reverse ++ rest) (hW : 2 * g.monitorRoom + (rest.map fun v => v.category).sum ≤ 8) (hdg : decode cc g.pc = .ok (.invokestatic index, 3)) (hf : cells + mc ≤ R.cells ∧ slots + ms ≤ R.slots) :
    vx_Run p l e R s m args below meth c H locs cells slots mc ms g rest (Qc As.toArray) XC free := by
  obtain ⟨⟨hrc, hrs, hfr, hlo, hws, hcw⟩, hcode, hini, hy, hlen, hl, hstt⟩ := cw
  have hK : vx_Back l R p e below s args y 3 8 (PreOf R mc ms Pc) (PostOf Qc mc ms free) (vx_Post XC mc ms free) := vx_backW (hh := hh) (bytes := bytes) (maxL := maxL) (ret := ret) hM hp.1 hrc hrs hfr hlo hws hcw (fun a' U hW => word_at hW (Or.inl (by first | rfl | simp [Cond.onTables, Cond.keeps, Cond.steady])) hini)
  obtain ⟨hx, hb, hml, ho, -⟩ := S
  intro T hT X
  rcases vx_callSX X hx (hh := hh) (bytes := bytes) (maxL := maxL) (ret := ret) ho hl hstt hini hcode hy hK hg (hsize.trans hml.symm) (argsL := As) (rest := rest) (fun sig h => hn.trans (hlen sig h)) hstack hW (by rw [hb]; exact hdg)
    (fun vm₁ hW₁ => ⟨hf.1, hf.2, hp.2 (T.setVm vm₁) hT hW₁⟩) with ⟨v, vm₁, ⟨U', l2, c2, s2⟩, hW₁, X', ⟨g', mk, t, L, e1, e2, hq, h1, hL, h2, h3⟩, st⟩ | ⟨q, vm₁, ⟨U', l2, c2, s2⟩, hW₁, X', ⟨g', mk, t, L, E, ce, e1, e2, hq, hce, hcv, hcl, h1, hL, h2, h3⟩, st⟩
  · dsimp only [Pt.U, Pt.locs, Pt.cells, Pt.slots] at X' e1 e2 h1 h2 h3 st
    subst h1; subst h2; subst h3
    exact Or.inl ⟨v, (T.setVm vm₁).calling g' mk As.toArray, t, U', L, hT, X', hL, e1, e2, hq, st⟩
  · dsimp only [Pt.U, Pt.locs, Pt.cells, Pt.slots] at X' e1 e2 h1 h2 h3 st hcl
    subst h1; subst h2; subst h3
    exact Or.inr ⟨q, (T.setVm vm₁).calling g' mk As.toArray, t, U', L, E, ce, hT, X', hL, e1, e2, hq, hce, hcv, vx_cls hW₁ hcl, st⟩
end
end VXH
theorem vx_ofWH {l : Launch} {y : MethodName} {ws ws' : List Cond} {rm : Room} {Pc : Array Value → State → Prop} {Qc : Array Value → State → Outcome → State → Prop} {XC : String → State → State → Prop} {mc ms : Nat} {free : Addr → Prop} {cc : ByteArray} {maxL : Nat} {ret : Option FieldType} {hh : List (Nat × Nat × Nat × Nat)}
    (hy : plainName y.cls = true) (hw : ws = Cond.codeWith y cc maxL ret hh :: ws')
    (body : ∀ p e s m args below meth c s₁, BodyLoose p l y (headSpec ws rm) cc maxL ret e s m args below meth c s₁ → c.maxLocals = maxL → Pc args s →
      W p l e (headSpec ws rm).room s m args below meth c s.heap [] 0 0 (vx_MQ below Qc XC args s mc ms free) (entryFrame m args maxL)) : vx_Met l y ws rm Pc Qc XC mc ms free := by
  refine MetFree.of_bodyS (code := cc) (maxLocals := maxL) (ret := ret) hy ?_ ?_
  · intro args s m h hn
    obtain ⟨m9, meth, c, hn9, h1, h2, h3, h4, -, h5, h6, -⟩ := Cond.codeWith_spec (atoms_spec (ws := ws) h _ (by rw [hw]; exact List.mem_cons_self))
    cases hn.symm.trans hn9
    exact ⟨meth, c, h1, h2, h3, h4, h5, h6⟩
  · intro p e s m args below meth c s₁ B hml hP _
    have hh0 : s₁.heap = s.heap := by rw [B.state]; rfl
    obtain ⟨t, a1, o, b1, b2, b3⟩ := body p e s m args below meth c s₁ B hml hP s₁ hh0 (Stand.of_body B)
    exact ⟨t, o, a1, b1, b2, b3⟩
/-! ===== END ===== -/
end
section
/-! Numbers: an Int64 and an Int32 by their integers (zL, zI); p2 n is 2^n as an integer. -/
def zL (z : Int) : Int64 := Int64.ofInt z
def zI (z : Int) : Int32 := Int32.ofInt z
def p2 (n : Nat) : Int := ((2 ^ n : Nat) : Int)
theorem p2_pos (n : Nat) : 0 < p2 n := by
  have := Nat.two_pow_pos n
  unfold p2
  omega
theorem p2_add (a b : Nat) : p2 (a + b) = p2 a * p2 b := by
  unfold p2
  rw [Nat.pow_add, Int.natCast_mul]
theorem zL_of (x : Int64) : zL x.toInt = x := Int64.ofInt_toInt x
theorem zI_of (x : Int32) : zI x.toInt = x := Int32.ofInt_toInt x
theorem zL_add (a b : Int) : zL a + zL b = zL (a + b) := (Int64.ofInt_add a b).symm
theorem zL_sub (a b : Int) : zL a - zL b = zL (a - b) := (Int64.ofInt_sub a b).symm
theorem zL_mul (a b : Int) : zL a * zL b = zL (a * b) := (Int64.ofInt_mul a b).symm
theorem zL_neg (a : Int) : -zL a = zL (-a) := (Int64.ofInt_neg a).symm
theorem zI_add (a b : Int) : zI a + zI b = zI (a + b) := (Int32.ofInt_add a b).symm
theorem zI_sub (a b : Int) : zI a - zI b = zI (a - b) := (Int32.ofInt_sub a b).symm
theorem zI_mul (a b : Int) : zI a * zI b = zI (a * b) := (Int32.ofInt_mul a b).symm
theorem zI_neg (a : Int) : -zI a = zI (-a) := (Int32.ofInt_neg a).symm
theorem zL_int {z : Int} (h1 : -9223372036854775808 ≤ z) (h2 : z < 9223372036854775808) : (zL z).toInt = z := Int64.toInt_ofInt_of_le (by omega) (by omega)
theorem zI_int {z : Int} (h1 : -2147483648 ≤ z) (h2 : z < 2147483648) : (zI z).toInt = z := Int32.toInt_ofInt_of_le (by omega) (by omega)
theorem zI_lo (x : Int32) : -2147483648 ≤ x.toInt := by
  have := x.le_toInt
  omega
theorem zI_hi (x : Int32) : x.toInt < 2147483648 := by
  have := x.toInt_lt
  omega
theorem zL_i (z : Int) : (zL z).toInt32 = zI z := Int64.toInt32_ofInt
theorem zI_l {z : Int} (h1 : -2147483648 ≤ z) (h2 : z < 2147483648) : (zI z).toInt64 = zL z := by
  rw [← Int64.ofInt_int32ToInt, zI_int h1 h2]
  rfl
theorem zI_x (x : Int32) : x.toInt64 = zL x.toInt := (Int64.ofInt_int32ToInt x).symm
theorem zL_le {a b : Int} (a1 : -9223372036854775808 ≤ a) (a2 : a < 9223372036854775808) (b1 : -9223372036854775808 ≤ b) (b2 : b < 9223372036854775808) : zL a ≤ zL b ↔ a ≤ b := by
  rw [Int64.le_iff_toInt_le, zL_int a1 a2, zL_int b1 b2]
theorem zL_lt {a b : Int} (a1 : -9223372036854775808 ≤ a) (a2 : a < 9223372036854775808) (b1 : -9223372036854775808 ≤ b) (b2 : b < 9223372036854775808) : zL a < zL b ↔ a < b := by
  rw [Int64.lt_iff_toInt_lt, zL_int a1 a2, zL_int b1 b2]
theorem zL_eq {a b : Int} (a1 : -9223372036854775808 ≤ a) (a2 : a < 9223372036854775808) (b1 : -9223372036854775808 ≤ b) (b2 : b < 9223372036854775808) : zL a = zL b ↔ a = b := by
  rw [← Int64.toInt_inj, zL_int a1 a2, zL_int b1 b2]
theorem zI_le {a b : Int} (a1 : -2147483648 ≤ a) (a2 : a < 2147483648) (b1 : -2147483648 ≤ b) (b2 : b < 2147483648) : zI a ≤ zI b ↔ a ≤ b := by
  rw [Int32.le_iff_toInt_le, zI_int a1 a2, zI_int b1 b2]
theorem zI_lt {a b : Int} (a1 : -2147483648 ≤ a) (a2 : a < 2147483648) (b1 : -2147483648 ≤ b) (b2 : b < 2147483648) : zI a < zI b ↔ a < b := by
  rw [Int32.lt_iff_toInt_lt, zI_int a1 a2, zI_int b1 b2]
theorem zI_eq {a b : Int} (a1 : -2147483648 ≤ a) (a2 : a < 2147483648) (b1 : -2147483648 ≤ b) (b2 : b < 2147483648) : zI a = zI b ↔ a = b := by
  rw [← Int32.toInt_inj, zI_int a1 a2, zI_int b1 b2]
theorem bv_mask (w k : Nat) (hk : k ≤ w) (z : Int) : BitVec.ofInt w z &&& BitVec.ofNat w (2 ^ k - 1) = BitVec.ofInt w (z % p2 k) := by
  have hpw : 2 ^ k ≤ 2 ^ w := Nat.pow_le_pow_right (by decide) hk
  have h0 : 0 < 2 ^ k := Nat.two_pow_pos k
  have h0' := p2_pos k
  have h1' := p2_pos w
  have hle : p2 k ≤ p2 w := by unfold p2; omega
  have h1 : 0 ≤ z % p2 w := Int.emod_nonneg _ (by omega)
  have h2 : 0 ≤ z % p2 k := Int.emod_nonneg _ (by omega)
  have h3 : z % p2 k < p2 k := Int.emod_lt_of_pos _ h0'
  apply BitVec.eq_of_toNat_eq
  rw [BitVec.toNat_and, BitVec.toNat_ofInt, BitVec.toNat_ofInt, BitVec.toNat_ofNat, Nat.mod_eq_of_lt (show 2 ^ k - 1 < 2 ^ w by omega), Nat.and_two_pow_sub_one_eq_mod]
  show (z % p2 w).toNat % 2 ^ k = (z % p2 k % p2 w).toNat
  rw [Int.emod_eq_of_lt h2 (by omega)]
  apply Int.ofNat_inj.mp
  rw [Int.natCast_emod, Int.toNat_of_nonneg h1, Int.toNat_of_nonneg h2]
  show z % p2 w % p2 k = z % p2 k
  exact Int.emod_emod_of_dvd z (Int.natCast_dvd_natCast.mpr (Nat.pow_dvd_pow 2 hk))
theorem bv_shl (w k : Nat) (z : Int) : BitVec.ofInt w z <<< k = BitVec.ofInt w (z * p2 k) := by
  rw [BitVec.ofInt_mul, BitVec.shiftLeft_eq_mul_twoPow]
  congr 1
  apply BitVec.eq_of_toNat_eq
  unfold p2
  rw [BitVec.ofInt_natCast, BitVec.toNat_ofNat, BitVec.toNat_twoPow]
theorem bv_split {w : Nat} (x m : BitVec w) : (x &&& ~~~m) + (x &&& m) = x := by
  rw [BitVec.add_eq_or_of_and_eq_zero]
  · apply BitVec.eq_of_getLsbD_eq
    intro i hi
    rw [BitVec.getLsbD_or, BitVec.getLsbD_and, BitVec.getLsbD_and, BitVec.getLsbD_not]
    cases x.getLsbD i <;> cases m.getLsbD i <;> simp [hi]
  · apply BitVec.eq_of_getLsbD_eq
    intro i hi
    rw [BitVec.getLsbD_and, BitVec.getLsbD_and, BitVec.getLsbD_and, BitVec.getLsbD_not]
    cases x.getLsbD i <;> cases m.getLsbD i <;> simp
theorem bv_or (w k : Nat) (hk : k ≤ w) (x y : Int) (hx : x % p2 k = 0) (hy0 : 0 ≤ y) (hy : y < p2 k) : BitVec.ofInt w x ||| BitVec.ofInt w y = BitVec.ofInt w (x + y) := by
  have h1 := bv_mask w k hk y
  rw [Int.emod_eq_of_lt hy0 hy] at h1
  have h2 := bv_mask w k hk x
  rw [hx] at h2
  rw [BitVec.ofInt_add, BitVec.add_eq_or_of_and_eq_zero]
  calc BitVec.ofInt w x &&& BitVec.ofInt w y = BitVec.ofInt w x &&& (BitVec.ofInt w y &&& BitVec.ofNat w (2 ^ k - 1)) := by rw [h1]
    _ = (BitVec.ofInt w x &&& BitVec.ofNat w (2 ^ k - 1)) &&& BitVec.ofInt w y := by rw [BitVec.and_comm (BitVec.ofInt w y), BitVec.and_assoc]
    _ = 0#w := by rw [h2]; simp
theorem zL_mask (z : Int) (k : Nat) (hk : k ≤ 64) {m : Int64} (hm : m.toBitVec = BitVec.ofNat 64 (2 ^ k - 1)) {P : Int} (hP : p2 k = P) : zL z &&& m = zL (z % P) := by
  subst hP
  apply Int64.toBitVec_inj.mp
  rw [Int64.toBitVec_and, hm]
  exact bv_mask 64 k hk z
theorem zI_mask (z : Int) (k : Nat) (hk : k ≤ 32) {m : Int32} (hm : m.toBitVec = BitVec.ofNat 32 (2 ^ k - 1)) {P : Int} (hP : p2 k = P) : zI z &&& m = zI (z % P) := by
  subst hP
  apply Int32.toBitVec_inj.mp
  rw [Int32.toBitVec_and, hm]
  exact bv_mask 32 k hk z
theorem zI_or (k : Nat) (hk : k ≤ 32) (x y : Int) {P : Int} (hP : p2 k = P) (hx : x % P = 0) (hy0 : 0 ≤ y) (hy : y < P) : zI x ||| zI y = zI (x + y) := by
  subst hP
  apply Int32.toBitVec_inj.mp
  rw [Int32.toBitVec_or]
  exact bv_or 32 k hk x y hx hy0 hy
theorem zL_amt : ∀ k, k < 64 → (((zI (k : Nat)).toInt64 &&& 63).toBitVec.smod 64).toNat = k := by decide +kernel
theorem zI_amt : ∀ k, k < 32 → ((zI (k : Nat) &&& 31).toBitVec.smod 32).toNat = k := by decide +kernel
theorem zU_amt : ∀ k, k < 32 → (((zI (k : Nat)).toUInt32 &&& Int32.toUInt32 31).toBitVec % 32).toNat = k := by decide +kernel
theorem zL_shl (z : Int) (k : Nat) (hk : k < 64) {y : Int32} (hy : zI (k : Nat) = y) {P : Int} (hP : p2 k = P) : zL z <<< (y.toInt64 &&& 63) = zL (z * P) := by
  subst hy hP
  apply Int64.toBitVec_inj.mp
  show (zL z).toBitVec <<< (((zI (k : Nat)).toInt64 &&& 63).toBitVec.smod 64).toNat = _
  rw [zL_amt k hk]
  exact bv_shl 64 k z
theorem zI_shl (z : Int) (k : Nat) (hk : k < 32) {y : Int32} (hy : zI (k : Nat) = y) {P : Int} (hP : p2 k = P) : zI z <<< (y &&& 31) = zI (z * P) := by
  subst hy hP
  apply Int32.toBitVec_inj.mp
  show (zI z).toBitVec <<< ((zI (k : Nat) &&& 31).toBitVec.smod 32).toNat = _
  rw [zI_amt k hk]
  exact bv_shl 32 k z
theorem zL_shr {z : Int} (h1 : 0 ≤ z) (h2 : z < 9223372036854775808) (k : Nat) (hk : k < 64) {y : Int32} (hy : zI (k : Nat) = y) {P : Int} (hP : p2 k = P) : zL z >>> (y.toInt64 &&& 63) = zL (z / P) := by
  subst hy hP
  have hp := p2_pos k
  have a1 : 0 ≤ z / p2 k := Int.ediv_nonneg h1 (by omega)
  have a2 : z / p2 k ≤ z := Int.ediv_le_self _ h1
  apply Int64.toInt_inj.mp
  have e : (zL z >>> ((zI (k : Nat)).toInt64 &&& 63)).toInt = (zL z).toInt >>> k := by
    show ((zL z).toBitVec.sshiftRight (((zI (k : Nat)).toInt64 &&& 63).toBitVec.smod 64).toNat).toInt = _
    rw [zL_amt k hk, BitVec.toInt_sshiftRight]
    rfl
  rw [e, Int.shiftRight_eq_div_pow, zL_int (by omega) h2, zL_int (by omega) (by omega)]
  rfl
theorem zI_shr {z : Int} (h1 : -2147483648 ≤ z) (h2 : z < 2147483648) (k : Nat) (hk : k < 32) {y : Int32} (hy : zI (k : Nat) = y) {P : Int} (hP : p2 k = P) (h3 : -2147483648 ≤ z / P) (h4 : z / P < 2147483648) : zI z >>> (y &&& 31) = zI (z / P) := by
  subst hy hP
  apply Int32.toInt_inj.mp
  rw [pk_shr (zI z) (zI (k : Nat) &&& 31) k (zI_amt k hk), Int.shiftRight_eq_div_pow, zI_int h1 h2, zI_int h3 h4]
  rfl
theorem zI_ushr (x : Int32) (k : Nat) (hk : k < 32) {y : Int32} (hy : zI (k : Nat) = y) {P : Int} (hP : p2 k = P) : (x.toUInt32 >>> (y.toUInt32 &&& Int32.toUInt32 31)).toInt32 = zI (x.toInt % 4294967296 / P) := by
  subst hy hP
  apply Int32.toBitVec_inj.mp
  apply BitVec.eq_of_toNat_eq
  rw [pk_ushr x (zI (k : Nat)) k (zU_amt k hk)]
  show _ = (BitVec.ofInt 32 (x.toInt % 4294967296 / p2 k)).toNat
  have e : (x.toBitVec.toNat : Int) = x.toInt % 4294967296 := by
    have h := BitVec.toInt_eq_toNat_bmod x.toBitVec
    have h2 := x.toBitVec.isLt
    rw [Int32.toInt_toBitVec] at h
    have e9 : ∀ y : Int, y.bmod (2 ^ 32) % 4294967296 = y % 4294967296 := fun y => Int.bmod_emod (x := y) (m := 2 ^ 32)
    rw [h, e9]
    omega
  rw [← e, BitVec.toNat_ofInt]
  have e2 : (x.toBitVec.toNat : Int) / p2 k = ((x.toBitVec.toNat / 2 ^ k : Nat) : Int) := rfl
  rw [e2]
  have h3 : x.toBitVec.toNat / 2 ^ k ≤ x.toBitVec.toNat := Nat.div_le_self _ _
  have h4 := x.toBitVec.isLt
  have e3 : ((x.toBitVec.toNat / 2 ^ k : Nat) : Int) % ((2 ^ 32 : Nat) : Int) = ((x.toBitVec.toNat / 2 ^ k : Nat) : Int) := by
    generalize x.toBitVec.toNat / 2 ^ k = d at h3 ⊢
    omega
  rw [e3]
  rfl
theorem zL_nmask (z : Int) (k : Nat) (hk : k < 64) {m : Int64} (hm : m = zL (-p2 k)) : zL z &&& m = zL (z / p2 k * p2 k) := by
  have hM : (zL (p2 k - 1)).toBitVec = BitVec.ofNat 64 (2 ^ k - 1) := by
    show BitVec.ofInt 64 (p2 k - 1) = _
    have : p2 k - 1 = ((2 ^ k - 1 : Nat) : Int) := by
      have := Nat.two_pow_pos k
      unfold p2
      omega
    rw [this, BitVec.ofInt_natCast]
  have hn : m = ~~~(zL (p2 k - 1)) := by
    rw [hm, Int64.not_eq_neg_add, zL_neg]
    show _ = zL _ - zL 1
    rw [zL_sub]
    congr 1
    omega
  have hs : (zL z &&& m) + (zL z &&& zL (p2 k - 1)) = zL z := by
    rw [hn]
    apply Int64.toBitVec_inj.mp
    exact bv_split _ _
  rw [zL_mask z k (by omega) hM rfl] at hs
  have h2 : (zL z &&& m) = zL z - zL (z % p2 k) := Int64.eq_sub_iff_add_eq.mpr hs
  rw [h2, zL_sub]
  congr 1
  have := Int.ediv_mul_self z (p2 k)
  omega
theorem zI_dif (x : Int32) {B M1 M2 : Int32} (h1 : B ||| M2 = M1) (h2 : B &&& M2 = 0) : x &&& B = (x &&& M1) - (x &&& M2) := by
  apply Int32.eq_sub_iff_add_eq.mpr
  apply Int32.toBitVec_inj.mp
  subst h1
  have h3 : B.toBitVec &&& M2.toBitVec = 0#32 := congrArg Int32.toBitVec h2
  show (x.toBitVec &&& B.toBitVec) + (x.toBitVec &&& M2.toBitVec) = x.toBitVec &&& (B.toBitVec ||| M2.toBitVec)
  rw [BitVec.add_eq_or_of_and_eq_zero]
  · apply BitVec.eq_of_getLsbD_eq
    intro i hi
    rw [BitVec.getLsbD_or, BitVec.getLsbD_and, BitVec.getLsbD_and, BitVec.getLsbD_and, BitVec.getLsbD_or]
    cases x.toBitVec.getLsbD i <;> cases B.toBitVec.getLsbD i <;> cases M2.toBitVec.getLsbD i <;> rfl
  · calc (x.toBitVec &&& B.toBitVec) &&& (x.toBitVec &&& M2.toBitVec) = (x.toBitVec &&& x.toBitVec) &&& (B.toBitVec &&& M2.toBitVec) := by
          apply BitVec.eq_of_getLsbD_eq
          intro i hi
          simp only [BitVec.getLsbD_and]
          cases x.toBitVec.getLsbD i <;> cases B.toBitVec.getLsbD i <;> cases M2.toBitVec.getLsbD i <;> rfl
      _ = 0#32 := by rw [h3]; simp
theorem zI_m1 (z : Int) : zI z &&& (-1) = zI z := by
  apply Int32.toBitVec_inj.mp
  show (zI z).toBitVec &&& (-1 : Int32).toBitVec = (zI z).toBitVec
  have : (-1 : Int32).toBitVec = BitVec.allOnes 32 := by decide
  rw [this, BitVec.and_allOnes]
theorem zI_14 (z : Int) : zI z &&& 16384 = zI (z / 16384 % 2 * 16384) := by
  rw [zI_dif (zI z) (M1 := 32767) (M2 := 16383) (by decide) (by decide), zI_mask z 15 (by decide) rfl (P := 32768) rfl, zI_mask z 14 (by decide) rfl (P := 16384) rfl, zI_sub]
  congr 1
  omega
theorem zI_248 (z : Int) : zI z &&& 248 = zI (z % 256 / 8 * 8) := by
  rw [zI_dif (zI z) (M1 := 255) (M2 := 7) (by decide) (by decide), zI_mask z 8 (by decide) rfl (P := 256) rfl, zI_mask z 3 (by decide) rfl (P := 8) rfl, zI_sub]
  congr 1
  omega
theorem zI_56 (z : Int) : zI z &&& 56 = zI (z % 64 / 8 * 8) := by
  rw [zI_dif (zI z) (M1 := 63) (M2 := 7) (by decide) (by decide), zI_mask z 6 (by decide) rfl (P := 64) rfl, zI_mask z 3 (by decide) rfl (P := 8) rfl, zI_sub]
  congr 1
  omega
theorem zI_m8 (z : Int) : zI z &&& (-8) = zI (z / 8 * 8) := by
  rw [zI_dif (zI z) (M1 := -1) (M2 := 7) (by decide) (by decide), zI_m1, zI_mask z 3 (by decide) rfl (P := 8) rfl, zI_sub]
  congr 1
  omega
theorem zI_m15 (z : Int) : zI z &&& (-32768) = zI (z / 32768 * 32768) := by
  rw [zI_dif (zI z) (M1 := -1) (M2 := 32767) (by decide) (by decide), zI_m1, zI_mask z 15 (by decide) rfl (P := 32768) rfl, zI_sub]
  congr 1
  omega
end
section
/-! The numbers behind bounds: z is a META as an integer, a an address (0 to 2^32 - 1), b and t bounds asked for. -/
def kIE (z : Int) : Int := z / 16384 % 2
def kE (z : Int) : Nat := if kIE z = 0 then 0 else if z / 256 % 8 * 8 + z % 8 < 26 then (z / 256 % 8 * 8 + z % 8).toNat else 26
def kB (z : Int) : Int := if kIE z = 0 then z % 256 else z % 256 / 8 * 8
def kT6 (z : Int) : Int := if kIE z = 0 then z / 256 % 64 else z / 256 % 64 / 8 * 8
def kT (z : Int) : Int := (kB z / 64 + kIE z + (if kT6 z < kB z % 64 then 1 else 0)) % 4 * 64 + kT6 z
def kEd (z : Int) : Int := (kB z / 32 + 7) % 8
def kBl (x ed : Int) : Int := if x / 32 < ed then 1 else 0
def kPl (z a x : Int) : Int := (a / p2 (kE z + 8) + kBl x (kEd z) - kBl (a / p2 (kE z) % 256) (kEd z)) * p2 (kE z + 8) + x * p2 (kE z)
def kBase (z a : Int) : Int := kPl z a (kB z) % 4294967296
def kTop0 (z a : Int) : Int := kPl z a (kT z) % 8589934592
def kTop (z a : Int) : Int := if kE z < 25 ∧ 1 < (kTop0 z a / 2147483648 - kBase z a / 2147483648) % 4 then (kTop0 z a + 4294967296) % 8589934592 else kTop0 z a
theorem kIE_01 (z : Int) : kIE z = 0 ∨ kIE z = 1 := by unfold kIE; omega
theorem kE_le (z : Int) : kE z ≤ 26 := by
  unfold kE
  split
  · omega
  · split
    · omega
    · omega
theorem kB_in (z : Int) : 0 ≤ kB z ∧ kB z < 256 := by
  unfold kB
  split <;> omega
theorem kT6_in (z : Int) : 0 ≤ kT6 z ∧ kT6 z < 64 := by
  unfold kT6
  split <;> omega
theorem kT_in (z : Int) : 0 ≤ kT z ∧ kT z < 256 := by
  have := kT6_in z
  unfold kT
  omega
theorem kEd_in (z : Int) : 0 ≤ kEd z ∧ kEd z < 8 := by
  unfold kEd
  omega
theorem kBase_in (z a : Int) : 0 ≤ kBase z a ∧ kBase z a < 4294967296 := by
  unfold kBase
  omega
theorem kTop0_in (z a : Int) : 0 ≤ kTop0 z a ∧ kTop0 z a < 8589934592 := by
  unfold kTop0
  omega
theorem kTop_in (z a : Int) : 0 ≤ kTop z a ∧ kTop z a < 8589934592 := by
  have := kTop0_in z a
  unfold kTop
  split <;> omega
/-- only the low fifteen bits of a META say its bounds -/
theorem k_low {z z' : Int} (h : z % 32768 = z' % 32768) : kIE z = kIE z' ∧ kE z = kE z' ∧ kB z = kB z' ∧ kT z = kT z' := by
  have h1 : kIE z = kIE z' := by unfold kIE; omega
  have h2 : z / 256 % 8 = z' / 256 % 8 := by omega
  have h3 : z % 8 = z' % 8 := by omega
  have h4 : z % 256 = z' % 256 := by omega
  have h5 : z / 256 % 64 = z' / 256 % 64 := by omega
  have e1 : kE z = kE z' := by unfold kE; rw [h1, h2, h3]
  have e2 : kB z = kB z' := by unfold kB; rw [h1, h4]
  have e3 : kT6 z = kT6 z' := by unfold kT6; rw [h1, h5]
  exact ⟨h1, e1, e2, by unfold kT; rw [h1, e2, e3]⟩
theorem k_low2 {z z' : Int} (h : z % 32768 = z' % 32768) (a : Int) : kBase z a = kBase z' a ∧ kTop z a = kTop z' a := by
  obtain ⟨h1, h2, h3, h4⟩ := k_low h
  have h5 : kEd z = kEd z' := by unfold kEd; rw [h3]
  have h6 : ∀ x, kPl z a x = kPl z' a x := fun x => by unfold kPl; rw [h2, h5]
  have h7 : kBase z a = kBase z' a := by unfold kBase; rw [h6, h3]
  have h8 : kTop0 z a = kTop0 z' a := by unfold kTop0; rw [h6, h4]
  exact ⟨h7, by unfold kTop; rw [h2, h7, h8]⟩
/-- a remainder by 256 P, where P divides all but a rest below P -/
theorem k_mm {P y r : Int} (hP : 0 < P) (h0 : 0 ≤ r) (h1 : r < P) : (P * y + r) % (P * 256) = P * (y % 256) + r := by
  have e : P * y + r = (P * (y % 256) + r) + (P * 256) * (y / 256) := by
    have h := Int.mul_ediv_add_emod y 256
    have : P * y = P * (256 * (y / 256) + y % 256) := by rw [h]
    rw [this, Int.mul_add, Int.mul_assoc]
    omega
  have a1 : 0 ≤ P * (y % 256) := Int.mul_nonneg (by omega) (by omega)
  have a2 : P * (y % 256) ≤ P * 255 := Int.mul_le_mul_of_nonneg_left (by omega) (by omega)
  rw [e, Int.add_mul_emod_self_left, Int.emod_eq_of_lt (by omega) (by omega)]
/-- the window of the one writing and the block of the other give the same place -/
theorem k_win {e : Nat} {a x ed : Int} (hx0 : 0 ≤ x) (hx : x < 256) (h0 : 0 ≤ ed) (h8 : ed < 8) :
    (a - (a - ed * p2 (e + 5)) % p2 (e + 8)) + (x * p2 e - (a - (a - ed * p2 (e + 5)) % p2 (e + 8))) % p2 (e + 8) = (a / p2 (e + 8) + kBl x ed - kBl (a / p2 e % 256) ed) * p2 (e + 8) + x * p2 e := by
  have hP := p2_pos e
  have q5 : p2 (e + 5) = p2 e * 32 := p2_add e 5
  have q8 : p2 (e + 8) = p2 e * 256 := p2_add e 8
  rw [q5, q8, ← Int.ediv_ediv_of_nonneg (show 0 ≤ p2 e by omega)]
  generalize p2 e = P at hP ⊢
  have hv := Int.mul_ediv_add_emod a P
  have r0 : 0 ≤ a % P := Int.emod_nonneg _ (by omega)
  have r1 : a % P < P := Int.emod_lt_of_pos _ hP
  generalize a / P = v at hv ⊢
  generalize a % P = r at hv r0 r1
  subst hv
  have e1 : P * v + r - ed * (P * 32) = P * (v - 32 * ed) + r := by
    rw [Int.mul_sub, Int.mul_left_comm ed P 32, Int.mul_comm ed 32]
    omega
  rw [e1, k_mm hP r0 r1]
  have e2 : P * v + r - (P * ((v - 32 * ed) % 256) + r) = P * (v - (v - 32 * ed) % 256) := by
    rw [Int.mul_sub]
    omega
  rw [e2]
  have e3 : x * P - P * (v - (v - 32 * ed) % 256) = P * (x - (v - (v - 32 * ed) % 256)) + 0 := by
    rw [Int.mul_sub P x, Int.mul_comm x P]
    omega
  rw [e3, k_mm hP (by omega) hP]
  have e4 : (v - (v - 32 * ed) % 256) + (x - (v - (v - 32 * ed) % 256)) % 256 = (v / 256 + kBl x ed - kBl (v % 256) ed) * 256 + x := by
    unfold kBl
    split <;> split <;> omega
  have e5 : P * (v - (v - 32 * ed) % 256) + (P * ((x - (v - (v - 32 * ed) % 256)) % 256) + 0) = P * ((v - (v - 32 * ed) % 256) + (x - (v - (v - 32 * ed) % 256)) % 256) := by
    rw [Int.mul_add]
    omega
  rw [e5, e4, Int.mul_add, Int.mul_comm x P, Int.mul_comm P ((v / 256 + kBl x ed - kBl (v % 256) ed) * 256), Int.mul_assoc, Int.mul_comm 256 P]
/-! packing -/
def kL (n : Int) : Nat := if n ≤ 0 then 0 else n.toNat.log2 + 1
theorem kL_lt {n : Int} (h0 : 0 ≤ n) : n < p2 (kL n) := by
  unfold kL
  split
  · have : n = 0 := by omega
    subst this
    exact p2_pos 0
  · have h := @Nat.lt_log2_self n.toNat
    unfold p2
    omega
theorem kL_ge {n : Int} {i : Nat} (h : i < kL n) : p2 i ≤ n := by
  unfold kL at h
  split at h
  · omega
  · rename_i h0
    have h1 : i ≤ n.toNat.log2 := by omega
    have h2 := (Nat.le_log2 (show n.toNat ≠ 0 by omega)).mp h1
    unfold p2
    omega
theorem kL_le {n : Int} {k : Nat} (h : n < p2 k) : kL n ≤ k := by
  refine Nat.le_of_not_lt fun hk => ?_
  have := kL_ge hk
  omega
def kRd (e : Nat) (b : Int) : Int := b / p2 (e + 3) * p2 (e + 3)
def kRu (e : Nat) (t : Int) : Int := (t + p2 (e + 3) - 1) / p2 (e + 3) * p2 (e + 3)
def kUn (e : Nat) (b t : Int) : Int := (t + p2 (e + 3) - 1) / p2 (e + 3) - b / p2 (e + 3)
def kF (b t : Int) : Nat := if 16 ≤ kUn (kL ((t - b) / 128)) b t then kL ((t - b) / 128) + 1 else kL ((t - b) / 128)
def kPk (b t : Int) : Int := if t - b ≤ 63 then t % 64 * 256 + b % 256 else 16384 + (kRu (kF b t) t / p2 (kF b t) % 64 + (kF b t : Int) / 8) * 256 + (kRd (kF b t) b / p2 (kF b t) % 256 + (kF b t : Int) % 8)
def kTo (b t : Int) : Int := if t - b ≤ 63 then t else kRu (kF b t) t
def kFr (b t : Int) : Int := if t - b ≤ 63 then b else kRd (kF b t) b
theorem k_27 {e : Nat} (h : e ≤ 26) : e = 0 ∨ e = 1 ∨ e = 2 ∨ e = 3 ∨ e = 4 ∨ e = 5 ∨ e = 6 ∨ e = 7 ∨ e = 8 ∨ e = 9 ∨ e = 10 ∨ e = 11 ∨ e = 12 ∨ e = 13 ∨ e = 14 ∨ e = 15 ∨ e = 16 ∨ e = 17 ∨ e = 18 ∨ e = 19 ∨ e = 20 ∨ e = 21 ∨ e = 22 ∨ e = 23 ∨ e = 24 ∨ e = 25 ∨ e = 26 := by omega
theorem kF_aux {e : Nat} (he : e ≤ 26) {b t : Int} (h0 : 0 ≤ b) (h1 : 63 < t - b) (h2 : t ≤ 4294967296) (hlt : (t - b) / 128 < p2 e) (hge : e = 0 ∨ p2 (e - 1) ≤ (t - b) / 128) :
    (16 ≤ kUn e b t → e + 1 ≤ 26 ∧ 8 ≤ kUn (e + 1) b t ∧ kUn (e + 1) b t ≤ 15) ∧ (¬ 16 ≤ kUn e b t → 8 ≤ kUn e b t ∧ kUn e b t ≤ 15) := by
  unfold kUn p2 at *
  rcases k_27 he with rfl | rfl | rfl | rfl | rfl | rfl | rfl | rfl | rfl | rfl | rfl | rfl | rfl | rfl | rfl | rfl | rfl | rfl | rfl | rfl | rfl | rfl | rfl | rfl | rfl | rfl | rfl <;> simp only [Nat.reduceAdd, Nat.reduceSub, Nat.reducePow] at * <;> omega
theorem kF_fit {b t : Int} (h0 : 0 ≤ b) (h1 : 63 < t - b) (h2 : t ≤ 4294967296) : kF b t ≤ 26 ∧ 8 ≤ kUn (kF b t) b t ∧ kUn (kF b t) b t ≤ 15 := by
  have hn : 0 ≤ (t - b) / 128 := by omega
  have hlt := kL_lt hn
  have he : kL ((t - b) / 128) ≤ 26 := kL_le (show (t - b) / 128 < 67108864 by omega)
  have hge : kL ((t - b) / 128) = 0 ∨ p2 (kL ((t - b) / 128) - 1) ≤ (t - b) / 128 := by
    rcases Nat.eq_zero_or_pos (kL ((t - b) / 128)) with h | h
    · exact Or.inl h
    · exact Or.inr (kL_ge (by omega))
  obtain ⟨a1, a2⟩ := kF_aux he h0 h1 h2 hlt hge
  unfold kF
  split
  · rename_i h
    exact a1 h
  · rename_i h
    exact ⟨he, a2 h⟩
theorem k_c1 {u w : Int} (h8 : 8 ≤ w - u) (h15 : w - u ≤ 15) : (8 * (u % 32) / 64 + 1 + (if 8 * (w % 8) < 8 * (u % 32) % 64 then 1 else 0)) % 4 * 64 + 8 * (w % 8) = 8 * (w % 32) := by
  have c1 : 8 * (u % 32) / 64 = (u / 8) % 4 := by omega
  have c2 : 8 * (u % 32) % 64 = 8 * (u % 8) := by omega
  have c3 : 8 * (w % 32) = (w / 8) % 4 * 64 + 8 * (w % 8) := by omega
  rw [c1, c2, c3]
  split
  · have c4 : w / 8 = u / 8 + 2 := by omega
    rw [c4]
    omega
  · have c4 : w / 8 = u / 8 + 1 := by omega
    rw [c4]
    omega
theorem k_c2 {b t : Int} (h0 : b ≤ t) (h : t - b ≤ 63) : (b % 256 / 64 + 0 + (if t % 64 < b % 256 % 64 then 1 else 0)) % 4 * 64 + t % 64 = t % 256 := by
  have c1 : b % 256 / 64 = (b / 64) % 4 := by omega
  have c2 : b % 256 % 64 = b % 64 := by omega
  have c3 : t % 256 = (t / 64) % 4 * 64 + t % 64 := by omega
  rw [c1, c2, c3]
  split
  · have c4 : t / 64 = b / 64 + 1 := by omega
    rw [c4]
    omega
  · have c4 : t / 64 = b / 64 := by omega
    rw [c4]
    omega
theorem k_c3 {B T : Int} (h0 : B ≤ T) (h : T - B ≤ 5) : B / 8 + (if T % 8 < (B % 8 + 7) % 8 then 1 else 0) - (if B % 8 < (B % 8 + 7) % 8 then 1 else 0) = T / 8 := by
  split <;> split <;> omega
theorem k_c4 {b t : Int} (h0 : b ≤ t) (h : t - b ≤ 63) : (b / 256 + kBl (t % 256) ((b % 256 / 32 + 7) % 8) - kBl (b / 1 % 256) ((b % 256 / 32 + 7) % 8)) * 256 + t % 256 * 1 = t := by
  have c1 : t % 256 / 32 = (t / 32) % 8 := by omega
  have c2 : b % 256 / 32 = (b / 32) % 8 := by omega
  have c3 : b / 1 % 256 / 32 = (b / 32) % 8 := by omega
  have c4 : b / 256 = (b / 32) / 8 := by omega
  have c5 : t = (t / 32) / 8 * 256 + t % 256 := by omega
  have c6 := k_c3 (B := b / 32) (T := t / 32) (by omega) (by omega)
  unfold kBl
  rw [c1, c2, c3, c4, c6]
  omega
theorem k_c5 {b t : Int} (h0 : b ≤ t) (h : t - b ≤ 63) : (t / 2147483648 - b / 2147483648) % 4 ≤ 1 := by
  omega
theorem k_rt1 {e : Nat} (he : e ≤ 26) {z u w : Int} (hz : z % 32768 = 16384 + (8 * w % 64 + (e : Int) / 8) * 256 + (8 * u % 256 + (e : Int) % 8)) (h8 : 8 ≤ w - u) (h15 : w - u ≤ 15) : kIE z = 1 ∧ kE z = e ∧ kB z = 8 * (u % 32) ∧ kT z = 8 * (w % 32) := by
  have h1 : kIE z = 1 := by unfold kIE; omega
  have a1 : z / 256 % 8 = (e : Int) / 8 := by omega
  have a2 : z % 8 = (e : Int) % 8 := by omega
  have a3 : z % 256 = 8 * u % 256 + (e : Int) % 8 := by omega
  have a4 : z / 256 % 64 = 8 * w % 64 + (e : Int) / 8 := by omega
  have hn : ¬ kIE z = 0 := by omega
  have b1 : kE z = e := by
    unfold kE
    rw [if_neg hn, a1, a2]
    split <;> omega
  have b2 : kB z = 8 * (u % 32) := by
    unfold kB
    rw [if_neg hn, a3]
    omega
  have b3 : kT6 z = 8 * (w % 8) := by
    unfold kT6
    rw [if_neg hn, a4]
    have c1 : 8 * w % 64 = 8 * (w % 8) := by omega
    rw [c1]
    have c2 : 0 ≤ (e : Int) / 8 ∧ (e : Int) / 8 < 8 := by omega
    generalize (e : Int) / 8 = f at c2
    clear hz a1 a2 a3 a4 h1 hn b1 b2 c1
    omega
  refine ⟨h1, b1, b2, ?_⟩
  unfold kT
  rw [h1, b2, b3]
  exact k_c1 h8 h15
theorem k_rt2 {e : Nat} {z b u w x : Int} (hu : u = b / p2 (e + 3)) (hE : kE z = e) (hB : kB z = 8 * (u % 32)) (hx : x = 8 * (w % 32)) (h0 : 0 ≤ w - u) (h15 : w - u ≤ 15) : kPl z b x = w * p2 (e + 3) := by
  have hP := p2_pos e
  have q3 : p2 (e + 3) = p2 e * 8 := p2_add e 3
  have q8 : p2 (e + 8) = p2 e * 256 := p2_add e 8
  have hv : u = b / p2 e / 8 := by rw [hu, q3, Int.ediv_ediv_of_nonneg (by omega)]
  have hd : kEd z = (8 * (u % 32) / 32 + 7) % 8 := by unfold kEd; rw [hB]
  unfold kPl
  rw [hE, q8, q3, ← Int.ediv_ediv_of_nonneg (show 0 ≤ p2 e by omega), hx, hd]
  generalize p2 e = P at *
  generalize b / P = v at *
  have e4 : (v / 256 + kBl (8 * (w % 32)) ((8 * (u % 32) / 32 + 7) % 8) - kBl (v % 256) ((8 * (u % 32) / 32 + 7) % 8)) * 256 + 8 * (w % 32) = w * 8 := by
    unfold kBl
    subst hv
    split <;> split <;> omega
  generalize v / 256 + kBl (8 * (w % 32)) ((8 * (u % 32) / 32 + 7) % 8) - kBl (v % 256) ((8 * (u % 32) / 32 + 7) % 8) = k at *
  have e5 : k * (P * 256) + 8 * (w % 32) * P = (k * 256 + 8 * (w % 32)) * P := by
    rw [Int.add_mul, Int.mul_assoc k 256 P, Int.mul_comm 256 P]
  rw [e5, e4, Int.mul_assoc, Int.mul_comm 8 P]
theorem k_rt3 {e : Nat} (he : e ≤ 26) {b t u w : Int} (hb : 0 ≤ b) (hb2 : b < 4294967296) (ht : t ≤ 4294967296) (hbt : b ≤ t) (hu : u = b / p2 (e + 3)) (hw : w = (t + p2 (e + 3) - 1) / p2 (e + 3)) (h15 : w - u ≤ 15) :
    (0 ≤ u * p2 (e + 3) ∧ u * p2 (e + 3) < 4294967296) ∧ (0 ≤ w * p2 (e + 3) ∧ w * p2 (e + 3) ≤ 4294967296) ∧ (e < 25 → (w * p2 (e + 3) / 2147483648 - u * p2 (e + 3) / 2147483648) % 4 ≤ 1) := by
  unfold p2 at *
  rcases k_27 he with rfl | rfl | rfl | rfl | rfl | rfl | rfl | rfl | rfl | rfl | rfl | rfl | rfl | rfl | rfl | rfl | rfl | rfl | rfl | rfl | rfl | rfl | rfl | rfl | rfl | rfl | rfl <;> simp only [Nat.reduceAdd, Nat.reduceSub, Nat.reducePow] at * <;> omega
/-- what was packed is read back: BASE and TOP of the packed bounds, seen from their own start -/
theorem k_rt {b t z : Int} (h0 : 0 ≤ b) (hb : b < 4294967296) (hbt : b ≤ t) (ht : t ≤ 4294967296) (hz : z % 32768 = kPk b t) : kBase z b = kFr b t ∧ kTop z b = kTo b t := by
  by_cases hs : t - b ≤ 63
  · unfold kPk at hz
    rw [if_pos hs] at hz
    have h1 : kIE z = 0 := by unfold kIE; omega
    have b1 : kE z = 0 := by unfold kE; rw [if_pos h1]
    have b2 : kB z = b % 256 := by
      unfold kB
      rw [if_pos h1]
      omega
    have b3 : kT6 z = t % 64 := by
      unfold kT6
      rw [if_pos h1]
      omega
    have b4 : kT z = t % 256 := by
      unfold kT
      rw [h1, b2, b3]
      exact k_c2 hbt hs
    have b5 : kEd z = (b % 256 / 32 + 7) % 8 := by unfold kEd; rw [b2]
    have q0 : p2 0 = 1 := rfl
    have q8 : p2 (0 + 8) = 256 := rfl
    have c1 : kPl z b (b % 256) = b := by
      unfold kPl
      rw [b1, b5, q8, q0]
      exact k_c4 (Int.le_refl b) (by omega)
    have c2 : kPl z b (t % 256) = t := by
      unfold kPl
      rw [b1, b5, q8, q0]
      exact k_c4 hbt hs
    have d1 : kBase z b = b := by
      unfold kBase
      rw [b2, c1]
      omega
    have d2 : kTop0 z b = t := by
      unfold kTop0
      rw [b4, c2]
      omega
    refine ⟨by rw [d1]; unfold kFr; rw [if_pos hs], ?_⟩
    unfold kTop kTo
    have hn : ¬ (kE z < 25 ∧ 1 < (t / 2147483648 - b / 2147483648) % 4) := by
      have := k_c5 hbt hs
      rintro ⟨x1, x2⟩
      omega
    rw [d1, d2, if_pos hs, if_neg hn]
  · obtain ⟨he, h8, h15⟩ := kF_fit h0 (by omega) ht
    unfold kPk at hz
    rw [if_neg hs] at hz
    unfold kTo kFr
    rw [if_neg hs, if_neg hs]
    generalize kF b t = e at *
    unfold kUn at h8 h15
    obtain ⟨u, hu⟩ : ∃ u, u = b / p2 (e + 3) := ⟨_, rfl⟩
    obtain ⟨w, hw⟩ : ∃ w, w = (t + p2 (e + 3) - 1) / p2 (e + 3) := ⟨_, rfl⟩
    have q3 : p2 (e + 3) = p2 e * 8 := p2_add e 3
    have hP := p2_pos e
    have f1 : kRu e t = w * p2 (e + 3) := by unfold kRu; rw [hw]
    have f2 : kRd e b = u * p2 (e + 3) := by unfold kRd; rw [hu]
    have f3 : kRu e t / p2 e = 8 * w := by
      rw [f1, q3, Int.mul_comm (p2 e) 8, ← Int.mul_assoc, Int.mul_ediv_cancel _ (by omega)]
      omega
    have f4 : kRd e b / p2 e = 8 * u := by
      rw [f2, q3, Int.mul_comm (p2 e) 8, ← Int.mul_assoc, Int.mul_ediv_cancel _ (by omega)]
      omega
    rw [← hu, ← hw] at h8 h15
    rw [f3, f4] at hz
    obtain ⟨g1, g2, g3, g4⟩ := k_rt1 he hz h8 h15
    obtain ⟨m1, m2, m3⟩ := k_rt3 he h0 hb ht hbt hu hw h15
    have p1 := k_rt2 hu g2 g3 (x := kB z) (w := u) g3 (by omega) (by omega)
    have p3 := k_rt2 hu g2 g3 (x := kT z) (w := w) g4 (by omega) h15
    have d1 : kBase z b = u * p2 (e + 3) := by
      unfold kBase
      rw [p1]
      omega
    have d2 : kTop0 z b = w * p2 (e + 3) := by
      unfold kTop0
      rw [p3]
      omega
    refine ⟨by rw [d1, f2], ?_⟩
    unfold kTop
    rw [d1, d2, g2, f1, if_neg]
    rintro ⟨x1, x2⟩
    have := m3 x1
    omega
theorem kTo_le {b t : Int} (h0 : 0 ≤ b) (hbt : b ≤ t) (ht : t ≤ 4294967296) : kTo b t ≤ 4294967296 := by
  unfold kTo
  split
  · exact ht
  · obtain ⟨he, h8, h15⟩ := kF_fit h0 (by omega) ht
    by_cases hb : b < 4294967296
    · exact (k_rt3 he h0 hb ht hbt rfl rfl h15).2.1.2
    · omega
end
section
/-! The names: classes, fields, methods (code and name); printed by wip/whole/prog/names.py. -/
abbrev wA : List Cond := lw_tbl.filter goodWord
abbrev cC_init : ByteArray := prog_1_method_1_code
abbrev yC_init : MethodName := ⟨"CapUnit", "<init>", "()V"⟩
abbrev wC_init : List Cond := .code yC_init cC_init 2 none :: wA
abbrev cC_bound : ByteArray := prog_1_method_15_code
abbrev yC_bound : MethodName := ⟨"CapUnit", "bound", "(IIZ)J"⟩
abbrev wC_bound : List Cond := .code yC_bound cC_bound 4 (some .long) :: wA
abbrev cC_topOf : ByteArray := prog_1_method_37_code
abbrev yC_topOf : MethodName := ⟨"CapUnit", "topOf", "(II)J"⟩
abbrev wC_topOf : List Cond := .code yC_topOf cC_topOf 8 (some .long) :: wA
abbrev cC_topMantissa : ByteArray := prog_1_method_33_code
abbrev yC_topMantissa : MethodName := ⟨"CapUnit", "topMantissa", "(I)I"⟩
abbrev wC_topMantissa : List Cond := .code yC_topMantissa cC_topMantissa 4 (some .int) :: wA
abbrev cC_baseMantissa : ByteArray := prog_1_method_32_code
abbrev yC_baseMantissa : MethodName := ⟨"CapUnit", "baseMantissa", "(I)I"⟩
abbrev wC_baseMantissa : List Cond := .code yC_baseMantissa cC_baseMantissa 2 (some .int) :: wA
abbrev cC_placed : ByteArray := prog_1_method_38_code
abbrev yC_placed : MethodName := ⟨"CapUnit", "placed", "(III)J"⟩
abbrev wC_placed : List Cond := .code yC_placed cC_placed 10 (some .long) :: wA
abbrev cC_exponentOf : ByteArray := prog_1_method_31_code
abbrev yC_exponentOf : MethodName := ⟨"CapUnit", "exponentOf", "(I)I"⟩
abbrev wC_exponentOf : List Cond := .code yC_exponentOf cC_exponentOf 2 (some .int) :: wA
abbrev cC_unsigned : ByteArray := prog_1_method_34_code
abbrev yC_unsigned : MethodName := ⟨"CapUnit", "unsigned", "(I)J"⟩
abbrev wC_unsigned : List Cond := .code yC_unsigned cC_unsigned 1 (some .long) :: wA
abbrev cC_below : ByteArray := prog_1_method_39_code
abbrev yC_below : MethodName := ⟨"CapUnit", "below", "(II)I"⟩
abbrev wC_below : List Cond := .code yC_below cC_below 2 (some .int) :: wA
abbrev cC_baseOf : ByteArray := prog_1_method_36_code
abbrev yC_baseOf : MethodName := ⟨"CapUnit", "baseOf", "(II)J"⟩
abbrev wC_baseOf : List Cond := .code yC_baseOf cC_baseOf 2 (some .long) :: wA
abbrev cC_grown : ByteArray := prog_1_method_17_code
abbrev yC_grown : MethodName := ⟨"CapUnit", "grown", "()I"⟩
abbrev wC_grown : List Cond := .code yC_grown cC_grown 3 (some .int) :: wA
abbrev cC_isFromRoot : ByteArray := prog_1_method_27_code
abbrev yC_isFromRoot : MethodName := ⟨"CapUnit", "isFromRoot", "(I)Z"⟩
abbrev wC_isFromRoot : List Cond := .code yC_isFromRoot cC_isFromRoot 3 (some .boolean) :: wA
abbrev cC_isWithin : ByteArray := prog_1_method_26_code
abbrev yC_isWithin : MethodName := ⟨"CapUnit", "isWithin", "(IJJI)Z"⟩
abbrev wC_isWithin : List Cond := .code yC_isWithin cC_isWithin 7 (some .boolean) :: wA
abbrev cC_baseIn : ByteArray := prog_1_method_20_code
abbrev yC_baseIn : MethodName := ⟨"CapUnit", "baseIn", "(I)J"⟩
abbrev wC_baseIn : List Cond := .code yC_baseIn cC_baseIn 2 (some .long) :: wA
abbrev cC_topIn : ByteArray := prog_1_method_21_code
abbrev yC_topIn : MethodName := ⟨"CapUnit", "topIn", "(I)J"⟩
abbrev wC_topIn : List Cond := .code yC_topIn cC_topIn 2 (some .long) :: wA
abbrev cC_permsOf : ByteArray := prog_1_method_28_code
abbrev yC_permsOf : MethodName := ⟨"CapUnit", "permsOf", "(I)I"⟩
abbrev wC_permsOf : List Cond := .code yC_permsOf cC_permsOf 1 (some .int) :: wA
abbrev cL_root : ByteArray := method_3_code
abbrev yL_root : MethodName := ⟨"CapUnitLaw", "root", "(LCapUnit;IIJI[J)I"⟩
abbrev wL_root : List Cond := .codeWith yL_root cL_root 8 (some .int) [(0, 14, 17, 13), (0, 14, 21, 15), (0, 14, 25, 17)] :: wA
abbrev cC_root : ByteArray := prog_1_method_2_code
abbrev yC_root : MethodName := ⟨"CapUnit", "root", "(IIJI)I"⟩
abbrev wC_root : List Cond := .code yC_root cC_root 7 (some .int) :: wA
abbrev cC_fitsSpace : ByteArray := prog_1_method_35_code
abbrev yC_fitsSpace : MethodName := ⟨"CapUnit", "fitsSpace", "(IJ)Z"⟩
abbrev wC_fitsSpace : List Cond := .code yC_fitsSpace cC_fitsSpace 3 (some .boolean) :: wA
abbrev cC_packed : ByteArray := prog_1_method_40_code
abbrev yC_packed : MethodName := ⟨"CapUnit", "packed", "(JJ)I"⟩
abbrev wC_packed : List Cond := .code yC_packed cC_packed 12 (some .int) :: wA
abbrev cC_fittingExponent : ByteArray := prog_1_method_41_code
abbrev yC_fittingExponent : MethodName := ⟨"CapUnit", "fittingExponent", "(JJ)I"⟩
abbrev wC_fittingExponent : List Cond := .code yC_fittingExponent cC_fittingExponent 7 (some .int) :: wA
abbrev cC_bitsOf : ByteArray := prog_1_method_42_code
abbrev yC_bitsOf : MethodName := ⟨"CapUnit", "bitsOf", "(J)I"⟩
abbrev wC_bitsOf : List Cond := .code yC_bitsOf cC_bitsOf 3 (some .int) :: wA
abbrev cC_roundedUp : ByteArray := prog_1_method_44_code
abbrev yC_roundedUp : MethodName := ⟨"CapUnit", "roundedUp", "(JI)J"⟩
abbrev wC_roundedUp : List Cond := .code yC_roundedUp cC_roundedUp 3 (some .long) :: wA
abbrev cC_roundedDown : ByteArray := prog_1_method_43_code
abbrev yC_roundedDown : MethodName := ⟨"CapUnit", "roundedDown", "(JI)J"⟩
abbrev wC_roundedDown : List Cond := .code yC_roundedDown cC_roundedDown 3 (some .long) :: wA
abbrev cC_become : ByteArray := prog_1_method_19_code
abbrev yC_become : MethodName := ⟨"CapUnit", "become", "(IZII)Z"⟩
abbrev wC_become : List Cond := .code yC_become cC_become 5 (some .boolean) :: wA
abbrev cL_put : ByteArray := method_4_code
abbrev yL_put : MethodName := ⟨"CapUnitLaw", "put", "(LCapUnit;III)I"⟩
abbrev wL_put : List Cond := .codeWith yL_put cL_put 5 (some .int) [(0, 7, 10, 13)] :: wA
abbrev cC_put : ByteArray := prog_1_method_3_code
abbrev yC_put : MethodName := ⟨"CapUnit", "put", "(III)V"⟩
abbrev wC_put : List Cond := .code yC_put cC_put 4 none :: wA
abbrev cC_isRegister : ByteArray := prog_1_method_18_code
abbrev yC_isRegister : MethodName := ⟨"CapUnit", "isRegister", "(I)Z"⟩
abbrev wC_isRegister : List Cond := .code yC_isRegister cC_isRegister 1 (some .boolean) :: wA
abbrev cL_narrow : ByteArray := method_5_code
abbrev yL_narrow : MethodName := ⟨"CapUnitLaw", "narrow", "(LCapUnit;IIIZ[J)I"⟩
abbrev wL_narrow : List Cond := .codeWith yL_narrow cL_narrow 7 (some .int) [(0, 21, 24, 13)] :: wA
abbrev cC_narrow : ByteArray := prog_1_method_4_code
abbrev yC_narrow : MethodName := ⟨"CapUnit", "narrow", "(IIIZ)Z"⟩
abbrev wC_narrow : List Cond := .code yC_narrow cC_narrow 11 (some .boolean) :: wA
abbrev cJ_min : ByteArray := prog_8_method_70_code
abbrev yJ_min : MethodName := ⟨"java/lang/Math", "min", "(JJ)J"⟩
abbrev wJ_min : List Cond := .code yJ_min cJ_min 4 (some .long) :: wA
abbrev cC_isOpenWithTag : ByteArray := prog_1_method_22_code
abbrev yC_isOpenWithTag : MethodName := ⟨"CapUnit", "isOpenWithTag", "(I)Z"⟩
abbrev wC_isOpenWithTag : List Cond := .code yC_isOpenWithTag cC_isOpenWithTag 2 (some .boolean) :: wA
abbrev cC_typeOf : ByteArray := prog_1_method_29_code
abbrev yC_typeOf : MethodName := ⟨"CapUnit", "typeOf", "(I)I"⟩
abbrev wC_typeOf : List Cond := .code yC_typeOf cC_typeOf 1 (some .int) :: wA
abbrev cC_isInBounds : ByteArray := prog_1_method_24_code
abbrev yC_isInBounds : MethodName := ⟨"CapUnit", "isInBounds", "(IJJ)Z"⟩
abbrev wC_isInBounds : List Cond := .code yC_isInBounds cC_isInBounds 6 (some .boolean) :: wA
abbrev cL_move : ByteArray := method_6_code
abbrev yL_move : MethodName := ⟨"CapUnitLaw", "move", "(LCapUnit;III[J)I"⟩
abbrev wL_move : List Cond := .codeWith yL_move cL_move 6 (some .int) [(0, 19, 22, 13)] :: wA
abbrev cC_move : ByteArray := prog_1_method_5_code
abbrev yC_move : MethodName := ⟨"CapUnit", "move", "(III)Z"⟩
abbrev wC_move : List Cond := .code yC_move cC_move 6 (some .boolean) :: wA
abbrev cL_keep : ByteArray := method_7_code
abbrev yL_keep : MethodName := ⟨"CapUnitLaw", "keep", "(LCapUnit;III[J)I"⟩
abbrev wL_keep : List Cond := .codeWith yL_keep cL_keep 6 (some .int) [(0, 19, 22, 13)] :: wA
abbrev cC_keep : ByteArray := prog_1_method_6_code
abbrev yC_keep : MethodName := ⟨"CapUnit", "keep", "(III)Z"⟩
abbrev wC_keep : List Cond := .code yC_keep cC_keep 5 (some .boolean) :: wA
abbrev cL_seal : ByteArray := method_8_code
abbrev yL_seal : MethodName := ⟨"CapUnitLaw", "seal", "(LCapUnit;III[J)I"⟩
abbrev wL_seal : List Cond := .codeWith yL_seal cL_seal 6 (some .int) [(0, 19, 22, 13)] :: wA
abbrev cC_seal : ByteArray := prog_1_method_7_code
abbrev yC_seal : MethodName := ⟨"CapUnit", "seal", "(III)Z"⟩
abbrev wC_seal : List Cond := .code yC_seal cC_seal 5 (some .boolean) :: wA
abbrev cC_isKey : ByteArray := prog_1_method_25_code
abbrev yC_isKey : MethodName := ⟨"CapUnit", "isKey", "(II)Z"⟩
abbrev wC_isKey : List Cond := .code yC_isKey cC_isKey 3 (some .boolean) :: wA
abbrev cC_hasPerm : ByteArray := prog_1_method_23_code
abbrev yC_hasPerm : MethodName := ⟨"CapUnit", "hasPerm", "(II)Z"⟩
abbrev wC_hasPerm : List Cond := .code yC_hasPerm cC_hasPerm 3 (some .boolean) :: wA
abbrev cC_withType : ByteArray := prog_1_method_30_code
abbrev yC_withType : MethodName := ⟨"CapUnit", "withType", "(II)I"⟩
abbrev wC_withType : List Cond := .code yC_withType cC_withType 2 (some .int) :: wA
abbrev cL_unseal : ByteArray := method_9_code
abbrev yL_unseal : MethodName := ⟨"CapUnitLaw", "unseal", "(LCapUnit;III[J)I"⟩
abbrev wL_unseal : List Cond := .codeWith yL_unseal cL_unseal 6 (some .int) [(0, 19, 22, 13)] :: wA
abbrev cC_unseal : ByteArray := prog_1_method_8_code
abbrev yC_unseal : MethodName := ⟨"CapUnit", "unseal", "(III)Z"⟩
abbrev wC_unseal : List Cond := .code yC_unseal cC_unseal 7 (some .boolean) :: wA
abbrev cL_gate : ByteArray := method_10_code
abbrev yL_gate : MethodName := ⟨"CapUnitLaw", "gate", "(LCapUnit;II[J)I"⟩
abbrev wL_gate : List Cond := .codeWith yL_gate cL_gate 5 (some .int) [(0, 17, 20, 13)] :: wA
abbrev cC_gate : ByteArray := prog_1_method_9_code
abbrev yC_gate : MethodName := ⟨"CapUnit", "gate", "(II)Z"⟩
abbrev wC_gate : List Cond := .code yC_gate cC_gate 4 (some .boolean) :: wA
abbrev cL_build : ByteArray := method_11_code
abbrev yL_build : MethodName := ⟨"CapUnitLaw", "build", "(LCapUnit;III[J)I"⟩
abbrev wL_build : List Cond := .codeWith yL_build cL_build 6 (some .int) [(0, 19, 22, 13)] :: wA
abbrev cC_build : ByteArray := prog_1_method_10_code
abbrev yC_build : MethodName := ⟨"CapUnit", "build", "(III)Z"⟩
abbrev wC_build : List Cond := .code yC_build cC_build 6 (some .boolean) :: wA
abbrev cL_subset : ByteArray := method_12_code
abbrev yL_subset : MethodName := ⟨"CapUnitLaw", "subset", "(LCapUnit;II[J)I"⟩
abbrev wL_subset : List Cond := .codeWith yL_subset cL_subset 5 (some .int) [(0, 17, 20, 13)] :: wA
abbrev cC_subset : ByteArray := prog_1_method_11_code
abbrev yC_subset : MethodName := ⟨"CapUnit", "subset", "(II)Z"⟩
abbrev wC_subset : List Cond := .code yC_subset cC_subset 3 (some .boolean) :: wA
abbrev cL_told : ByteArray := method_13_code
abbrev yL_told : MethodName := ⟨"CapUnitLaw", "told", "(LCapUnit;II[J)I"⟩
abbrev wL_told : List Cond := .codeWith yL_told cL_told 5 (some .int) [(0, 9, 12, 13), (0, 9, 16, 15)] :: wA
abbrev cC_told : ByteArray := prog_1_method_12_code
abbrev yC_told : MethodName := ⟨"CapUnit", "told", "(II)J"⟩
abbrev wC_told : List Cond := .code yC_told cC_told 3 (some .long) :: wA
abbrev cL_reaches : ByteArray := method_14_code
abbrev yL_reaches : MethodName := ⟨"CapUnitLaw", "reaches", "(LCapUnit;III[J)I"⟩
abbrev wL_reaches : List Cond := .codeWith yL_reaches cL_reaches 6 (some .int) [(0, 19, 22, 13), (0, 19, 26, 15)] :: wA
abbrev cC_reaches : ByteArray := prog_1_method_13_code
abbrev yC_reaches : MethodName := ⟨"CapUnit", "reaches", "(III)Z"⟩
abbrev wC_reaches : List Cond := .code yC_reaches cC_reaches 4 (some .boolean) :: wA
abbrev cL_pack : ByteArray := method_15_code
abbrev yL_pack : MethodName := ⟨"CapUnitLaw", "pack", "(LCapUnit;IJ[J)I"⟩
abbrev wL_pack : List Cond := .codeWith yL_pack cL_pack 6 (some .int) [(0, 11, 14, 15)] :: wA
abbrev cC_pack : ByteArray := prog_1_method_14_code
abbrev yC_pack : MethodName := ⟨"CapUnit", "pack", "(IJ)I"⟩
abbrev wC_pack : List Cond := .code yC_pack cC_pack 4 (some .int) :: wA
abbrev cL_rounded : ByteArray := method_16_code
abbrev yL_rounded : MethodName := ⟨"CapUnitLaw", "rounded", "(LCapUnit;JZ[J)I"⟩
abbrev wL_rounded : List Cond := .codeWith yL_rounded cL_rounded 6 (some .int) [(0, 10, 13, 15)] :: wA
abbrev cC_rounded : ByteArray := prog_1_method_16_code
abbrev yC_rounded : MethodName := ⟨"CapUnit", "rounded", "(JZ)J"⟩
abbrev wC_rounded : List Cond := .code yC_rounded cC_rounded 5 (some .long) :: wA
abbrev cM_init : ByteArray := prog_3_method_1_code
abbrev yM_init : MethodName := ⟨"CapUnitModel", "<init>", "()V"⟩
abbrev wM_init : List Cond := .code yM_init cM_init 2 none :: wA
abbrev cM_thrown : ByteArray := prog_3_method_2_code
abbrev yM_thrown : MethodName := ⟨"CapUnitModel", "thrown", "()I"⟩
abbrev wM_thrown : List Cond := .code yM_thrown cM_thrown 1 (some .int) :: wA
abbrev cM_root : ByteArray := prog_3_method_23_code
abbrev yM_root : MethodName := ⟨"CapUnitModel", "root", "(IIJI)I"⟩
abbrev wM_root : List Cond := .code yM_root cM_root 6 (some .int) :: wA
abbrev cM_fail : ByteArray := prog_3_method_3_code
abbrev yM_fail : MethodName := ⟨"CapUnitModel", "fail", "(I)I"⟩
abbrev wM_fail : List Cond := .code yM_fail cM_fail 2 (some .int) :: wA
abbrev cM_low : ByteArray := prog_3_method_4_code
abbrev yM_low : MethodName := ⟨"CapUnitModel", "low", "(I)J"⟩
abbrev wM_low : List Cond := .code yM_low cM_low 1 (some .long) :: wA
abbrev cM_packJ : ByteArray := prog_3_method_17_code
abbrev yM_packJ : MethodName := ⟨"CapUnitModel", "pack", "(JJ)V"⟩
abbrev wM_packJ : List Cond := .code yM_packJ cM_packJ 16 none :: wA
abbrev cM_set : ByteArray := prog_3_method_19_code
abbrev yM_set : MethodName := ⟨"CapUnitModel", "set", "(IZII)Z"⟩
abbrev wM_set : List Cond := .code yM_set cM_set 5 (some .boolean) :: wA
abbrev cM_base : ByteArray := prog_3_method_14_code
abbrev yM_base : MethodName := ⟨"CapUnitModel", "base", "(II)J"⟩
abbrev wM_base : List Cond := .code yM_base cM_base 2 (some .long) :: wA
abbrev cM_bottom : ByteArray := prog_3_method_10_code
abbrev yM_bottom : MethodName := ⟨"CapUnitModel", "bottom", "(I)I"⟩
abbrev wM_bottom : List Cond := .code yM_bottom cM_bottom 1 (some .int) :: wA
abbrev cM_scale : ByteArray := prog_3_method_9_code
abbrev yM_scale : MethodName := ⟨"CapUnitModel", "scale", "(I)I"⟩
abbrev wM_scale : List Cond := .code yM_scale cM_scale 2 (some .int) :: wA
abbrev cM_window : ByteArray := prog_3_method_13_code
abbrev yM_window : MethodName := ⟨"CapUnitModel", "window", "(II)J"⟩
abbrev wM_window : List Cond := .code yM_window cM_window 7 (some .long) :: wA
abbrev cJ_floorMod : ByteArray := prog_8_method_52_code
abbrev yJ_floorMod : MethodName := ⟨"java/lang/Math", "floorMod", "(JJ)J"⟩
abbrev wJ_floorMod : List Cond := .code yJ_floorMod cJ_floorMod 6 (some .long) :: wA
abbrev cM_inWindow : ByteArray := prog_3_method_12_code
abbrev yM_inWindow : MethodName := ⟨"CapUnitModel", "inWindow", "(IIJ)J"⟩
abbrev wM_inWindow : List Cond := .code yM_inWindow cM_inWindow 8 (some .long) :: wA
abbrev cM_top : ByteArray := prog_3_method_15_code
abbrev yM_top : MethodName := ⟨"CapUnitModel", "top", "(II)J"⟩
abbrev wM_top : List Cond := .code yM_top cM_top 7 (some .long) :: wA
abbrev cM_roof : ByteArray := prog_3_method_11_code
abbrev yM_roof : MethodName := ⟨"CapUnitModel", "roof", "(I)I"⟩
abbrev wM_roof : List Cond := .code yM_roof cM_roof 5 (some .int) :: wA
abbrev cM_put : ByteArray := prog_3_method_24_code
abbrev yM_put : MethodName := ⟨"CapUnitModel", "put", "(III)V"⟩
abbrev wM_put : List Cond := .code yM_put cM_put 4 none :: wA
abbrev cM_is : ByteArray := prog_3_method_18_code
abbrev yM_is : MethodName := ⟨"CapUnitModel", "is", "([I)Z"⟩
abbrev wM_is : List Cond := .code yM_is cM_is 6 (some .boolean) :: wA
abbrev cM_narrow : ByteArray := prog_3_method_25_code
abbrev yM_narrow : MethodName := ⟨"CapUnitModel", "narrow", "(IIIZ)Z"⟩
abbrev wM_narrow : List Cond := .code yM_narrow cM_narrow 10 (some .boolean) :: wA
abbrev cM_isOpen : ByteArray := prog_3_method_20_code
abbrev yM_isOpen : MethodName := ⟨"CapUnitModel", "isOpen", "(I)Z"⟩
abbrev wM_isOpen : List Cond := .code yM_isOpen cM_isOpen 2 (some .boolean) :: wA
abbrev cM_type : ByteArray := prog_3_method_6_code
abbrev yM_type : MethodName := ⟨"CapUnitModel", "type", "(I)I"⟩
abbrev wM_type : List Cond := .code yM_type cM_type 1 (some .int) :: wA
abbrev cM_move : ByteArray := prog_3_method_26_code
abbrev yM_move : MethodName := ⟨"CapUnitModel", "move", "(III)Z"⟩
abbrev wM_move : List Cond := .code yM_move cM_move 5 (some .boolean) :: wA
abbrev cM_keep : ByteArray := prog_3_method_27_code
abbrev yM_keep : MethodName := ⟨"CapUnitModel", "keep", "(III)Z"⟩
abbrev wM_keep : List Cond := .code yM_keep cM_keep 4 (some .boolean) :: wA
abbrev cM_perms : ByteArray := prog_3_method_5_code
abbrev yM_perms : MethodName := ⟨"CapUnitModel", "perms", "(I)I"⟩
abbrev wM_perms : List Cond := .code yM_perms cM_perms 1 (some .int) :: wA
abbrev cM_withPerms : ByteArray := prog_3_method_8_code
abbrev yM_withPerms : MethodName := ⟨"CapUnitModel", "withPerms", "(II)I"⟩
abbrev wM_withPerms : List Cond := .code yM_withPerms cM_withPerms 2 (some .int) :: wA
abbrev cM_seal : ByteArray := prog_3_method_28_code
abbrev yM_seal : MethodName := ⟨"CapUnitModel", "seal", "(III)Z"⟩
abbrev wM_seal : List Cond := .code yM_seal cM_seal 5 (some .boolean) :: wA
abbrev cM_has : ByteArray := prog_3_method_21_code
abbrev yM_has : MethodName := ⟨"CapUnitModel", "has", "(II)Z"⟩
abbrev wM_has : List Cond := .code yM_has cM_has 3 (some .boolean) :: wA
abbrev cM_isIn : ByteArray := prog_3_method_16_code
abbrev yM_isIn : MethodName := ⟨"CapUnitModel", "isIn", "(IIJI)Z"⟩
abbrev wM_isIn : List Cond := .code yM_isIn cM_isIn 5 (some .boolean) :: wA
abbrev cM_withType : ByteArray := prog_3_method_7_code
abbrev yM_withType : MethodName := ⟨"CapUnitModel", "withType", "(II)I"⟩
abbrev wM_withType : List Cond := .code yM_withType cM_withType 2 (some .int) :: wA
abbrev cM_unseal : ByteArray := prog_3_method_29_code
abbrev yM_unseal : MethodName := ⟨"CapUnitModel", "unseal", "(III)Z"⟩
abbrev wM_unseal : List Cond := .code yM_unseal cM_unseal 7 (some .boolean) :: wA
abbrev cM_gate : ByteArray := prog_3_method_30_code
abbrev yM_gate : MethodName := ⟨"CapUnitModel", "gate", "(II)Z"⟩
abbrev wM_gate : List Cond := .code yM_gate cM_gate 3 (some .boolean) :: wA
abbrev cM_build : ByteArray := prog_3_method_31_code
abbrev yM_build : MethodName := ⟨"CapUnitModel", "build", "(III)Z"⟩
abbrev wM_build : List Cond := .code yM_build cM_build 6 (some .boolean) :: wA
abbrev cM_isWithin : ByteArray := prog_3_method_22_code
abbrev yM_isWithin : MethodName := ⟨"CapUnitModel", "isWithin", "(II)Z"⟩
abbrev wM_isWithin : List Cond := .code yM_isWithin cM_isWithin 3 (some .boolean) :: wA
abbrev cM_subset : ByteArray := prog_3_method_32_code
abbrev yM_subset : MethodName := ⟨"CapUnitModel", "subset", "(II)Z"⟩
abbrev wM_subset : List Cond := .code yM_subset cM_subset 3 (some .boolean) :: wA
abbrev cM_told : ByteArray := prog_3_method_33_code
abbrev yM_told : MethodName := ⟨"CapUnitModel", "told", "(II)J"⟩
abbrev wM_told : List Cond := .code yM_told cM_told 5 (some .long) :: wA
abbrev cM_reaches : ByteArray := prog_3_method_34_code
abbrev yM_reaches : MethodName := ⟨"CapUnitModel", "reaches", "(III)Z"⟩
abbrev wM_reaches : List Cond := .code yM_reaches cM_reaches 4 (some .boolean) :: wA
abbrev cM_packI : ByteArray := prog_3_method_35_code
abbrev yM_packI : MethodName := ⟨"CapUnitModel", "pack", "(IJ)I"⟩
abbrev wM_packI : List Cond := .code yM_packI cM_packI 4 (some .int) :: wA
abbrev cM_bound : ByteArray := prog_3_method_36_code
abbrev yM_bound : MethodName := ⟨"CapUnitModel", "bound", "(IIZ)J"⟩
abbrev wM_bound : List Cond := .code yM_bound cM_bound 4 (some .long) :: wA
abbrev cM_rounded : ByteArray := prog_3_method_37_code
abbrev yM_rounded : MethodName := ⟨"CapUnitModel", "rounded", "(JZ)J"⟩
abbrev wM_rounded : List Cond := .code yM_rounded cM_rounded 4 (some .long) :: wA
abbrev cM_grown : ByteArray := prog_3_method_38_code
abbrev yM_grown : MethodName := ⟨"CapUnitModel", "grown", "()I"⟩
abbrev wM_grown : List Cond := .code yM_grown cM_grown 5 (some .int) :: wA
theorem wA_mem {w : Cond} (h : w ∈ tables_1) (g : goodWord w = true) : w ∈ wA := List.mem_filter.mpr ⟨List.mem_append_right _ h, g⟩
theorem wA_sel {y : MethodName} {n : Nat} (h : (y, n) ∈ lw_privs) (g : goodWord (Cond.selects y.cls y y) = true) : Cond.selects y.cls y y ∈ wA := List.mem_filter.mpr ⟨List.mem_append_left _ (List.mem_map.mpr ⟨(y, n), h, rfl⟩), g⟩
theorem wA_good {w : Cond} (h : w ∈ wA) : w ∈ wA ∧ ((w.onTables && w.keeps) = true ∨ ∃ ty, w = .arrayClass ty) := ⟨h, good_of_word (List.mem_filter.mp h).2⟩
theorem wA_W {b : Cond} (hb : b ∈ wA) : GoodIn wA (b :: wA) := fun w h => (List.mem_cons.mp h).elim (fun e => by rw [e]; exact wA_good hb) (fun h => wA_good h)
theorem wA_S {own : String} {idx : Nat} {y : MethodName} {b : Cond} (h1 : Cond.methodLink own idx y ∈ wA) (h2 : Cond.static y ∈ wA) (h3 : Cond.initialized y.cls ∈ wA) (hb : b ∈ wA) : GoodIn wA (va_wsS own idx y (b :: wA)) := by
  intro w h
  rcases List.mem_append.mp h with h | h
  · simp only [List.mem_cons, List.not_mem_nil, or_false] at h
    rcases h with rfl | rfl | rfl
    · exact wA_good h1
    · exact wA_good h2
    · exact wA_good h3
  · exact wA_W hb w h
theorem wA_V {own C : String} {idx : Nat} {y : MethodName} {b : Cond} (h1 : Cond.methodLink own idx y ∈ wA) (h2 : Cond.instanceMethod y ∈ wA) (h3 : Cond.selects C y y ∈ wA) (h4 : Cond.initialized C ∈ wA) (hb : b ∈ wA) : GoodIn wA (wsV own idx C y (b :: wA)) := by
  intro w h
  rcases List.mem_append.mp h with h | h
  · simp only [List.mem_cons, List.not_mem_nil, or_false] at h
    rcases h with rfl | rfl | rfl | rfl
    · exact wA_good h1
    · exact wA_good h2
    · exact wA_good h3
    · exact wA_good h4
  · exact wA_W hb w h
end
section
/-! The words of tables_1 in wA, by their places (q_n: the n-th). -/
theorem q_0 : (Cond.initialized "CapUnitLaw") ∈ wA := wA_mem (List.mem_append_left _ (List.mem_of_getElem? (i := 0) rfl)) rfl
theorem q_1 : (Cond.initialized "CapUnit") ∈ wA := wA_mem (List.mem_append_left _ (List.mem_of_getElem? (i := 1) rfl)) rfl
theorem q_2 : (Cond.initialized "CapUnitModel") ∈ wA := wA_mem (List.mem_append_left _ (List.mem_of_getElem? (i := 2) rfl)) rfl
theorem q_3 : (Cond.initialized "java/lang/Throwable") ∈ wA := wA_mem (List.mem_append_left _ (List.mem_of_getElem? (i := 3) rfl)) rfl
theorem q_4 : (Cond.initialized "java/lang/Exception") ∈ wA := wA_mem (List.mem_append_left _ (List.mem_of_getElem? (i := 4) rfl)) rfl
theorem q_5 : (Cond.initialized "java/lang/RuntimeException") ∈ wA := wA_mem (List.mem_append_left _ (List.mem_of_getElem? (i := 5) rfl)) rfl
theorem q_6 : (Cond.initialized "java/lang/IndexOutOfBoundsException") ∈ wA := wA_mem (List.mem_append_left _ (List.mem_of_getElem? (i := 6) rfl)) rfl
theorem q_7 : (Cond.initialized "java/lang/IllegalArgumentException") ∈ wA := wA_mem (List.mem_append_left _ (List.mem_of_getElem? (i := 7) rfl)) rfl
theorem q_8 : (Cond.initialized "java/lang/IllegalStateException") ∈ wA := wA_mem (List.mem_append_left _ (List.mem_of_getElem? (i := 8) rfl)) rfl
theorem q_9 : (Cond.initialized "java/lang/Math") ∈ wA := wA_mem (List.mem_append_left _ (List.mem_of_getElem? (i := 9) rfl)) rfl
theorem q_10 : (Cond.classLink "CapUnitLaw" 8 "CapUnit") ∈ wA := wA_mem (List.mem_append_left _ (List.mem_of_getElem? (i := 10) rfl)) rfl
theorem q_11 : (Cond.instantiable "CapUnit" 7) ∈ wA := wA_mem (List.mem_append_left _ (List.mem_of_getElem? (i := 11) rfl)) rfl
theorem q_12 : (Cond.methodLink "CapUnitLaw" 65 ⟨"CapUnit", "<init>", "()V"⟩) ∈ wA := wA_mem (List.mem_append_left _ (List.mem_of_getElem? (i := 12) rfl)) rfl
theorem q_13 : (Cond.instanceMethod ⟨"CapUnit", "<init>", "()V"⟩) ∈ wA := wA_mem (List.mem_append_left _ (List.mem_of_getElem? (i := 13) rfl)) rfl
theorem q_14 : (Cond.code ⟨"CapUnit", "<init>", "()V"⟩ prog_1_method_1_code 2 none) ∈ wA := wA_mem (List.mem_append_left _ (List.mem_of_getElem? (i := 14) rfl)) rfl
theorem q_15 : (Cond.methodLink "CapUnit" 3 ⟨"java/lang/Object", "<init>", "()V"⟩) ∈ wA := wA_mem (List.mem_append_left _ (List.mem_of_getElem? (i := 15) rfl)) rfl
theorem q_16 : (Cond.instanceMethod ⟨"java/lang/Object", "<init>", "()V"⟩) ∈ wA := wA_mem (List.mem_append_left _ (List.mem_of_getElem? (i := 16) rfl)) rfl
theorem q_17 : (Cond.code ⟨"java/lang/Object", "<init>", "()V"⟩ object_method_1_code 1 none) ∈ wA := wA_mem (List.mem_append_left _ (List.mem_of_getElem? (i := 17) rfl)) rfl
theorem q_18 : (Cond.constant "CapUnit" 20 (1000194 : Int32)) ∈ wA := wA_mem (List.mem_append_left _ (List.mem_of_getElem? (i := 18) rfl)) rfl
theorem q_19 : (Cond.fieldLink "CapUnit" 9 "CapUnit" "tags" "[Z") ∈ wA := wA_mem (List.mem_append_left _ (List.mem_of_getElem? (i := 19) rfl)) rfl
theorem q_20 : (Cond.fieldLink "CapUnit" 13 "CapUnit" "addresses" "[I") ∈ wA := wA_mem (List.mem_append_left _ (List.mem_of_getElem? (i := 20) rfl)) rfl
theorem q_21 : (Cond.fieldLink "CapUnit" 17 "CapUnit" "metas" "[I") ∈ wA := wA_mem (List.mem_append_left _ (List.mem_of_getElem? (i := 21) rfl)) rfl
theorem q_22 : (Cond.fieldLink "CapUnit" 21 "CapUnit" "rootBases" "[J") ∈ wA := wA_mem (List.mem_append_left _ (List.mem_of_getElem? (i := 22) rfl)) rfl
theorem q_23 : (Cond.fieldLink "CapUnit" 25 "CapUnit" "rootTops" "[J") ∈ wA := wA_mem (List.mem_append_left _ (List.mem_of_getElem? (i := 23) rfl)) rfl
theorem q_24 : (Cond.fieldLink "CapUnit" 28 "CapUnit" "rootPerms" "[I") ∈ wA := wA_mem (List.mem_append_left _ (List.mem_of_getElem? (i := 24) rfl)) rfl
theorem q_25 : (Cond.fieldLink "CapUnit" 31 "CapUnit" "roots" "I") ∈ wA := wA_mem (List.mem_append_left _ (List.mem_of_getElem? (i := 25) rfl)) rfl
theorem q_26 : (Cond.laysFinal "CapUnit" "CapUnit" "tags" "[Z") ∈ wA := wA_mem (List.mem_append_left _ (List.mem_of_getElem? (i := 26) rfl)) rfl
theorem q_27 : (Cond.soleField "CapUnit" "tags") ∈ wA := wA_mem (List.mem_append_left _ (List.mem_of_getElem? (i := 27) rfl)) rfl
theorem q_28 : (Cond.laysFinal "CapUnit" "CapUnit" "addresses" "[I") ∈ wA := wA_mem (List.mem_append_left _ (List.mem_of_getElem? (i := 28) rfl)) rfl
theorem q_29 : (Cond.soleField "CapUnit" "addresses") ∈ wA := wA_mem (List.mem_append_left _ (List.mem_of_getElem? (i := 29) rfl)) rfl
theorem q_30 : (Cond.laysFinal "CapUnit" "CapUnit" "metas" "[I") ∈ wA := wA_mem (List.mem_append_left _ (List.mem_of_getElem? (i := 30) rfl)) rfl
theorem q_31 : (Cond.soleField "CapUnit" "metas") ∈ wA := wA_mem (List.mem_append_left _ (List.mem_of_getElem? (i := 31) rfl)) rfl
theorem q_32 : (Cond.laysFinal "CapUnit" "CapUnit" "rootBases" "[J") ∈ wA := wA_mem (List.mem_append_left _ (List.mem_of_getElem? (i := 32) rfl)) rfl
theorem q_33 : (Cond.soleField "CapUnit" "rootBases") ∈ wA := wA_mem (List.mem_append_left _ (List.mem_of_getElem? (i := 33) rfl)) rfl
theorem q_34 : (Cond.laysFinal "CapUnit" "CapUnit" "rootTops" "[J") ∈ wA := wA_mem (List.mem_append_left _ (List.mem_of_getElem? (i := 34) rfl)) rfl
theorem q_35 : (Cond.soleField "CapUnit" "rootTops") ∈ wA := wA_mem (List.mem_append_left _ (List.mem_of_getElem? (i := 35) rfl)) rfl
theorem q_36 : (Cond.laysFinal "CapUnit" "CapUnit" "rootPerms" "[I") ∈ wA := wA_mem (List.mem_append_left _ (List.mem_of_getElem? (i := 36) rfl)) rfl
theorem q_37 : (Cond.soleField "CapUnit" "rootPerms") ∈ wA := wA_mem (List.mem_append_left _ (List.mem_of_getElem? (i := 37) rfl)) rfl
theorem q_38 : (Cond.lays "CapUnit" "CapUnit" "roots" "I") ∈ wA := wA_mem (List.mem_append_left _ (List.mem_of_getElem? (i := 38) rfl)) rfl
theorem q_39 : (Cond.soleField "CapUnit" "roots") ∈ wA := wA_mem (List.mem_append_left _ (List.mem_of_getElem? (i := 39) rfl)) rfl
theorem q_40 : (Cond.superclass "CapUnit" "java/lang/Object") ∈ wA := wA_mem (List.mem_append_left _ (List.mem_of_getElem? (i := 40) rfl)) rfl
theorem q_41 : (Cond.arrayClass .boolean) ∈ wA := wA_mem (List.mem_append_left _ (List.mem_of_getElem? (i := 41) rfl)) rfl
theorem q_42 : (Cond.arrayClass .int) ∈ wA := wA_mem (List.mem_append_left _ (List.mem_of_getElem? (i := 42) rfl)) rfl
theorem q_43 : (Cond.arrayClass .long) ∈ wA := wA_mem (List.mem_append_left _ (List.mem_of_getElem? (i := 43) rfl)) rfl
theorem q_44 : (Cond.methodLink "CapUnitLaw" 122 ⟨"CapUnit", "bound", "(IIZ)J"⟩) ∈ wA := wA_mem (List.mem_append_left _ (List.mem_of_getElem? (i := 44) rfl)) rfl
theorem q_45 : (Cond.instanceMethod ⟨"CapUnit", "bound", "(IIZ)J"⟩) ∈ wA := wA_mem (List.mem_append_left _ (List.mem_of_getElem? (i := 45) rfl)) rfl
theorem q_46 : (Cond.selects "CapUnit" ⟨"CapUnit", "bound", "(IIZ)J"⟩ ⟨"CapUnit", "bound", "(IIZ)J"⟩) ∈ wA := wA_mem (List.mem_append_left _ (List.mem_of_getElem? (i := 46) rfl)) rfl
theorem q_47 : (Cond.code ⟨"CapUnit", "bound", "(IIZ)J"⟩ prog_1_method_15_code 4 (some .long)) ∈ wA := wA_mem (List.mem_append_left _ (List.mem_of_getElem? (i := 47) rfl)) rfl
theorem q_48 : (Cond.methodLink "CapUnit" 101 ⟨"CapUnit", "topOf", "(II)J"⟩) ∈ wA := wA_mem (List.mem_append_left _ (List.mem_of_getElem? (i := 48) rfl)) rfl
theorem q_49 : (Cond.static ⟨"CapUnit", "topOf", "(II)J"⟩) ∈ wA := wA_mem (List.mem_append_left _ (List.mem_of_getElem? (i := 49) rfl)) rfl
theorem q_50 : (Cond.code ⟨"CapUnit", "topOf", "(II)J"⟩ prog_1_method_37_code 8 (some .long)) ∈ wA := wA_mem (List.mem_append_left _ (List.mem_of_getElem? (i := 50) rfl)) rfl
theorem q_51 : (Cond.methodLink "CapUnit" 153 ⟨"CapUnit", "topMantissa", "(I)I"⟩) ∈ wA := wA_mem (List.mem_append_left _ (List.mem_of_getElem? (i := 51) rfl)) rfl
theorem q_52 : (Cond.static ⟨"CapUnit", "topMantissa", "(I)I"⟩) ∈ wA := wA_mem (List.mem_append_left _ (List.mem_of_getElem? (i := 52) rfl)) rfl
theorem q_53 : (Cond.code ⟨"CapUnit", "topMantissa", "(I)I"⟩ prog_1_method_33_code 4 (some .int)) ∈ wA := wA_mem (List.mem_append_left _ (List.mem_of_getElem? (i := 53) rfl)) rfl
theorem q_54 : (Cond.methodLink "CapUnit" 144 ⟨"CapUnit", "baseMantissa", "(I)I"⟩) ∈ wA := wA_mem (List.mem_append_left _ (List.mem_of_getElem? (i := 54) rfl)) rfl
theorem q_55 : (Cond.static ⟨"CapUnit", "baseMantissa", "(I)I"⟩) ∈ wA := wA_mem (List.mem_append_left _ (List.mem_of_getElem? (i := 55) rfl)) rfl
theorem q_56 : (Cond.code ⟨"CapUnit", "baseMantissa", "(I)I"⟩ prog_1_method_32_code 2 (some .int)) ∈ wA := wA_mem (List.mem_append_left _ (List.mem_of_getElem? (i := 56) rfl)) rfl
theorem q_57 : (Cond.methodLink "CapUnit" 149 ⟨"CapUnit", "placed", "(III)J"⟩) ∈ wA := wA_mem (List.mem_append_left _ (List.mem_of_getElem? (i := 57) rfl)) rfl
theorem q_58 : (Cond.static ⟨"CapUnit", "placed", "(III)J"⟩) ∈ wA := wA_mem (List.mem_append_left _ (List.mem_of_getElem? (i := 58) rfl)) rfl
theorem q_59 : (Cond.code ⟨"CapUnit", "placed", "(III)J"⟩ prog_1_method_38_code 10 (some .long)) ∈ wA := wA_mem (List.mem_append_left _ (List.mem_of_getElem? (i := 59) rfl)) rfl
theorem q_60 : (Cond.methodLink "CapUnit" 137 ⟨"CapUnit", "exponentOf", "(I)I"⟩) ∈ wA := wA_mem (List.mem_append_left _ (List.mem_of_getElem? (i := 60) rfl)) rfl
theorem q_61 : (Cond.static ⟨"CapUnit", "exponentOf", "(I)I"⟩) ∈ wA := wA_mem (List.mem_append_left _ (List.mem_of_getElem? (i := 61) rfl)) rfl
theorem q_62 : (Cond.code ⟨"CapUnit", "exponentOf", "(I)I"⟩ prog_1_method_31_code 2 (some .int)) ∈ wA := wA_mem (List.mem_append_left _ (List.mem_of_getElem? (i := 62) rfl)) rfl
theorem q_63 : (Cond.methodLink "CapUnit" 56 ⟨"CapUnit", "unsigned", "(I)J"⟩) ∈ wA := wA_mem (List.mem_append_left _ (List.mem_of_getElem? (i := 63) rfl)) rfl
theorem q_64 : (Cond.static ⟨"CapUnit", "unsigned", "(I)J"⟩) ∈ wA := wA_mem (List.mem_append_left _ (List.mem_of_getElem? (i := 64) rfl)) rfl
theorem q_65 : (Cond.code ⟨"CapUnit", "unsigned", "(I)J"⟩ prog_1_method_34_code 1 (some .long)) ∈ wA := wA_mem (List.mem_append_left _ (List.mem_of_getElem? (i := 65) rfl)) rfl
theorem q_66 : (Cond.constantLong "CapUnit" 147 (4294967295 : Int64)) ∈ wA := wA_mem (List.mem_append_left _ (List.mem_of_getElem? (i := 66) rfl)) rfl
theorem q_67 : (Cond.methodLink "CapUnit" 160 ⟨"CapUnit", "below", "(II)I"⟩) ∈ wA := wA_mem (List.mem_append_left _ (List.mem_of_getElem? (i := 67) rfl)) rfl
theorem q_68 : (Cond.static ⟨"CapUnit", "below", "(II)I"⟩) ∈ wA := wA_mem (List.mem_append_left _ (List.mem_of_getElem? (i := 68) rfl)) rfl
theorem q_69 : (Cond.code ⟨"CapUnit", "below", "(II)I"⟩ prog_1_method_39_code 2 (some .int)) ∈ wA := wA_mem (List.mem_append_left _ (List.mem_of_getElem? (i := 69) rfl)) rfl
theorem q_70 : (Cond.constantLong "CapUnit" 156 (8589934591 : Int64)) ∈ wA := wA_mem (List.mem_append_left _ (List.mem_of_getElem? (i := 70) rfl)) rfl
theorem q_71 : (Cond.constantLong "CapUnit" 158 (3 : Int64)) ∈ wA := wA_mem (List.mem_append_left _ (List.mem_of_getElem? (i := 71) rfl)) rfl
theorem q_72 : (Cond.constantLong "CapUnit" 81 (4294967296 : Int64)) ∈ wA := wA_mem (List.mem_append_left _ (List.mem_of_getElem? (i := 72) rfl)) rfl
theorem q_73 : (Cond.methodLink "CapUnit" 97 ⟨"CapUnit", "baseOf", "(II)J"⟩) ∈ wA := wA_mem (List.mem_append_left _ (List.mem_of_getElem? (i := 73) rfl)) rfl
theorem q_74 : (Cond.static ⟨"CapUnit", "baseOf", "(II)J"⟩) ∈ wA := wA_mem (List.mem_append_left _ (List.mem_of_getElem? (i := 74) rfl)) rfl
theorem q_75 : (Cond.code ⟨"CapUnit", "baseOf", "(II)J"⟩ prog_1_method_36_code 2 (some .long)) ∈ wA := wA_mem (List.mem_append_left _ (List.mem_of_getElem? (i := 75) rfl)) rfl
theorem q_76 : (Cond.methodLink "CapUnitLaw" 131 ⟨"CapUnit", "grown", "()I"⟩) ∈ wA := wA_mem (List.mem_append_left _ (List.mem_of_getElem? (i := 76) rfl)) rfl
theorem q_77 : (Cond.instanceMethod ⟨"CapUnit", "grown", "()I"⟩) ∈ wA := wA_mem (List.mem_append_left _ (List.mem_of_getElem? (i := 77) rfl)) rfl
theorem q_78 : (Cond.selects "CapUnit" ⟨"CapUnit", "grown", "()I"⟩ ⟨"CapUnit", "grown", "()I"⟩) ∈ wA := wA_mem (List.mem_append_left _ (List.mem_of_getElem? (i := 78) rfl)) rfl
theorem q_79 : (Cond.code ⟨"CapUnit", "grown", "()I"⟩ prog_1_method_17_code 3 (some .int)) ∈ wA := wA_mem (List.mem_append_left _ (List.mem_of_getElem? (i := 79) rfl)) rfl
theorem q_80 : (Cond.methodLink "CapUnit" 140 ⟨"CapUnit", "isFromRoot", "(I)Z"⟩) ∈ wA := wA_mem (List.mem_append_left _ (List.mem_of_getElem? (i := 80) rfl)) rfl
theorem q_82 : (Cond.instanceMethod ⟨"CapUnit", "isFromRoot", "(I)Z"⟩) ∈ wA := wA_mem (List.mem_append_left _ (List.mem_of_getElem? (i := 82) rfl)) rfl
theorem q_83 : (Cond.code ⟨"CapUnit", "isFromRoot", "(I)Z"⟩ prog_1_method_27_code 3 (some .boolean)) ∈ wA := wA_mem (List.mem_append_left _ (List.mem_of_getElem? (i := 83) rfl)) rfl
theorem q_84 : (Cond.methodLink "CapUnit" 125 ⟨"CapUnit", "isWithin", "(IJJI)Z"⟩) ∈ wA := wA_mem (List.mem_append_left _ (List.mem_of_getElem? (i := 84) rfl)) rfl
theorem q_86 : (Cond.instanceMethod ⟨"CapUnit", "isWithin", "(IJJI)Z"⟩) ∈ wA := wA_mem (List.mem_append_left _ (List.mem_of_getElem? (i := 86) rfl)) rfl
theorem q_87 : (Cond.code ⟨"CapUnit", "isWithin", "(IJJI)Z"⟩ prog_1_method_26_code 7 (some .boolean)) ∈ wA := wA_mem (List.mem_append_left _ (List.mem_of_getElem? (i := 87) rfl)) rfl
theorem q_88 : (Cond.methodLink "CapUnit" 69 ⟨"CapUnit", "baseIn", "(I)J"⟩) ∈ wA := wA_mem (List.mem_append_left _ (List.mem_of_getElem? (i := 88) rfl)) rfl
theorem q_90 : (Cond.instanceMethod ⟨"CapUnit", "baseIn", "(I)J"⟩) ∈ wA := wA_mem (List.mem_append_left _ (List.mem_of_getElem? (i := 90) rfl)) rfl
theorem q_91 : (Cond.code ⟨"CapUnit", "baseIn", "(I)J"⟩ prog_1_method_20_code 2 (some .long)) ∈ wA := wA_mem (List.mem_append_left _ (List.mem_of_getElem? (i := 91) rfl)) rfl
theorem q_92 : (Cond.methodLink "CapUnit" 72 ⟨"CapUnit", "topIn", "(I)J"⟩) ∈ wA := wA_mem (List.mem_append_left _ (List.mem_of_getElem? (i := 92) rfl)) rfl
theorem q_94 : (Cond.instanceMethod ⟨"CapUnit", "topIn", "(I)J"⟩) ∈ wA := wA_mem (List.mem_append_left _ (List.mem_of_getElem? (i := 94) rfl)) rfl
theorem q_95 : (Cond.code ⟨"CapUnit", "topIn", "(I)J"⟩ prog_1_method_21_code 2 (some .long)) ∈ wA := wA_mem (List.mem_append_left _ (List.mem_of_getElem? (i := 95) rfl)) rfl
theorem q_96 : (Cond.methodLink "CapUnit" 122 ⟨"CapUnit", "permsOf", "(I)I"⟩) ∈ wA := wA_mem (List.mem_append_left _ (List.mem_of_getElem? (i := 96) rfl)) rfl
theorem q_97 : (Cond.static ⟨"CapUnit", "permsOf", "(I)I"⟩) ∈ wA := wA_mem (List.mem_append_left _ (List.mem_of_getElem? (i := 97) rfl)) rfl
theorem q_98 : (Cond.code ⟨"CapUnit", "permsOf", "(I)I"⟩ prog_1_method_28_code 1 (some .int)) ∈ wA := wA_mem (List.mem_append_left _ (List.mem_of_getElem? (i := 98) rfl)) rfl
theorem q_99 : (Cond.methodLink "CapUnitLaw" 71 ⟨"CapUnitLaw", "root", "(LCapUnit;IIJI[J)I"⟩) ∈ wA := wA_mem (List.mem_append_left _ (List.mem_of_getElem? (i := 99) rfl)) rfl
theorem q_100 : (Cond.static ⟨"CapUnitLaw", "root", "(LCapUnit;IIJI[J)I"⟩) ∈ wA := wA_mem (List.mem_append_left _ (List.mem_of_getElem? (i := 100) rfl)) rfl
theorem q_101 : (Cond.codeWith ⟨"CapUnitLaw", "root", "(LCapUnit;IIJI[J)I"⟩ method_3_code 8 (some .int) [(0, 14, 17, 13), (0, 14, 21, 15), (0, 14, 25, 17)]) ∈ wA := wA_mem (List.mem_append_left _ (List.mem_of_getElem? (i := 101) rfl)) rfl
theorem q_102 : (Cond.classLink "CapUnitLaw" 13 "java/lang/IndexOutOfBoundsException") ∈ wA := wA_mem (List.mem_append_left _ (List.mem_of_getElem? (i := 102) rfl)) rfl
theorem q_103 : (Cond.classLink "CapUnitLaw" 15 "java/lang/IllegalArgumentException") ∈ wA := wA_mem (List.mem_append_left _ (List.mem_of_getElem? (i := 103) rfl)) rfl
theorem q_104 : (Cond.classLink "CapUnitLaw" 17 "java/lang/IllegalStateException") ∈ wA := wA_mem (List.mem_append_left _ (List.mem_of_getElem? (i := 104) rfl)) rfl
theorem q_105 : (Cond.methodLink "CapUnitLaw" 7 ⟨"CapUnit", "root", "(IIJI)I"⟩) ∈ wA := wA_mem (List.mem_append_left _ (List.mem_of_getElem? (i := 105) rfl)) rfl
theorem q_106 : (Cond.instanceMethod ⟨"CapUnit", "root", "(IIJI)I"⟩) ∈ wA := wA_mem (List.mem_append_left _ (List.mem_of_getElem? (i := 106) rfl)) rfl
theorem q_107 : (Cond.selects "CapUnit" ⟨"CapUnit", "root", "(IIJI)I"⟩ ⟨"CapUnit", "root", "(IIJI)I"⟩) ∈ wA := wA_mem (List.mem_append_left _ (List.mem_of_getElem? (i := 107) rfl)) rfl
theorem q_108 : (Cond.code ⟨"CapUnit", "root", "(IIJI)I"⟩ prog_1_method_2_code 7 (some .int)) ∈ wA := wA_mem (List.mem_append_left _ (List.mem_of_getElem? (i := 108) rfl)) rfl
theorem q_109 : (Cond.classLink "CapUnit" 35 "java/lang/IndexOutOfBoundsException") ∈ wA := wA_mem (List.mem_append_left _ (List.mem_of_getElem? (i := 109) rfl)) rfl
theorem q_110 : (Cond.instantiable "java/lang/IndexOutOfBoundsException" 6) ∈ wA := wA_mem (List.mem_append_left _ (List.mem_of_getElem? (i := 110) rfl)) rfl
theorem q_118 : (Cond.selects "java/lang/IndexOutOfBoundsException" ⟨"java/lang/Throwable", "fillInStackTrace", "(I)Ljava/lang/Throwable;"⟩ ⟨"java/lang/Throwable", "fillInStackTrace", "(I)Ljava/lang/Throwable;"⟩) ∈ wA := wA_mem (List.mem_append_left _ (List.mem_of_getElem? (i := 118) rfl)) rfl
theorem q_119 : (Cond.selects "java/lang/IndexOutOfBoundsException" ⟨"java/lang/Throwable", "fillInStackTrace", "()Ljava/lang/Throwable;"⟩ ⟨"java/lang/Throwable", "fillInStackTrace", "()Ljava/lang/Throwable;"⟩) ∈ wA := wA_mem (List.mem_append_left _ (List.mem_of_getElem? (i := 119) rfl)) rfl
theorem q_120 : (Cond.lays "java/lang/IndexOutOfBoundsException" "java/lang/Throwable" "cause" "Ljava/lang/Throwable;") ∈ wA := wA_mem (List.mem_append_left _ (List.mem_of_getElem? (i := 120) rfl)) rfl
theorem q_121 : (Cond.lays "java/lang/Throwable" "java/lang/Throwable" "cause" "Ljava/lang/Throwable;") ∈ wA := wA_mem (List.mem_append_left _ (List.mem_of_getElem? (i := 121) rfl)) rfl
theorem q_122 : (Cond.lays "java/lang/IndexOutOfBoundsException" "java/lang/Throwable" "stackTrace" "[Ljava/lang/StackTraceElement;") ∈ wA := wA_mem (List.mem_append_left _ (List.mem_of_getElem? (i := 122) rfl)) rfl
theorem q_123 : (Cond.lays "java/lang/Throwable" "java/lang/Throwable" "stackTrace" "[Ljava/lang/StackTraceElement;") ∈ wA := wA_mem (List.mem_append_left _ (List.mem_of_getElem? (i := 123) rfl)) rfl
theorem q_124 : (Cond.lays "java/lang/IndexOutOfBoundsException" "java/lang/Throwable" "suppressedExceptions" "Ljava/util/List;") ∈ wA := wA_mem (List.mem_append_left _ (List.mem_of_getElem? (i := 124) rfl)) rfl
theorem q_125 : (Cond.lays "java/lang/Throwable" "java/lang/Throwable" "suppressedExceptions" "Ljava/util/List;") ∈ wA := wA_mem (List.mem_append_left _ (List.mem_of_getElem? (i := 125) rfl)) rfl
theorem q_126 : (Cond.lays "java/lang/IndexOutOfBoundsException" "java/lang/Throwable" "detailMessage" "Ljava/lang/String;") ∈ wA := wA_mem (List.mem_append_left _ (List.mem_of_getElem? (i := 126) rfl)) rfl
theorem q_127 : (Cond.lays "java/lang/Throwable" "java/lang/Throwable" "detailMessage" "Ljava/lang/String;") ∈ wA := wA_mem (List.mem_append_left _ (List.mem_of_getElem? (i := 127) rfl)) rfl
theorem q_128 : (Cond.lays "java/lang/IndexOutOfBoundsException" "java/lang/Throwable" "backtrace" "Ljava/lang/Object;") ∈ wA := wA_mem (List.mem_append_left _ (List.mem_of_getElem? (i := 128) rfl)) rfl
theorem q_129 : (Cond.lays "java/lang/Throwable" "java/lang/Throwable" "backtrace" "Ljava/lang/Object;") ∈ wA := wA_mem (List.mem_append_left _ (List.mem_of_getElem? (i := 129) rfl)) rfl
theorem q_130 : (Cond.fieldLink "java/lang/Throwable" 198 "java/lang/Throwable" "backtrace" "Ljava/lang/Object;") ∈ wA := wA_mem (List.mem_append_left _ (List.mem_of_getElem? (i := 130) rfl)) rfl
theorem q_131 : (Cond.superclass "java/lang/Throwable" "java/lang/Object") ∈ wA := wA_mem (List.mem_append_left _ (List.mem_of_getElem? (i := 131) rfl)) rfl
theorem q_132 : (Cond.instanceMethod ⟨"java/lang/Throwable", "<init>", "()V"⟩) ∈ wA := wA_mem (List.mem_append_left _ (List.mem_of_getElem? (i := 132) rfl)) rfl
theorem q_133 : (Cond.code ⟨"java/lang/Throwable", "<init>", "()V"⟩ prog_11_method_1_code 1 none) ∈ wA := wA_mem (List.mem_append_left _ (List.mem_of_getElem? (i := 133) rfl)) rfl
theorem q_134 : (Cond.methodLink "java/lang/Throwable" 1 ⟨"java/lang/Object", "<init>", "()V"⟩) ∈ wA := wA_mem (List.mem_append_left _ (List.mem_of_getElem? (i := 134) rfl)) rfl
theorem q_135 : (Cond.fieldLink "java/lang/Throwable" 13 "java/lang/Throwable" "UNASSIGNED_STACK" "[Ljava/lang/StackTraceElement;") ∈ wA := wA_mem (List.mem_append_left _ (List.mem_of_getElem? (i := 135) rfl)) rfl
theorem q_137 : (Cond.fieldLink "java/lang/Throwable" 20 "java/lang/Throwable" "SUPPRESSED_SENTINEL" "Ljava/util/List;") ∈ wA := wA_mem (List.mem_append_left _ (List.mem_of_getElem? (i := 137) rfl)) rfl
theorem q_139 : (Cond.methodLink "java/lang/Throwable" 27 ⟨"java/lang/Throwable", "fillInStackTrace", "()Ljava/lang/Throwable;"⟩) ∈ wA := wA_mem (List.mem_append_left _ (List.mem_of_getElem? (i := 139) rfl)) rfl
theorem q_140 : (Cond.instanceMethod ⟨"java/lang/Throwable", "fillInStackTrace", "()Ljava/lang/Throwable;"⟩) ∈ wA := wA_mem (List.mem_append_left _ (List.mem_of_getElem? (i := 140) rfl)) rfl
theorem q_141 : (Cond.sameMethod "java/lang/Throwable" "java/lang/Throwable" "fillInStackTrace" "()Ljava/lang/Throwable;") ∈ wA := wA_mem (List.mem_append_left _ (List.mem_of_getElem? (i := 141) rfl)) rfl
theorem q_142 : (Cond.selects "java/lang/IllegalArgumentException" ⟨"java/lang/Throwable", "fillInStackTrace", "()Ljava/lang/Throwable;"⟩ ⟨"java/lang/Throwable", "fillInStackTrace", "()Ljava/lang/Throwable;"⟩) ∈ wA := wA_mem (List.mem_append_left _ (List.mem_of_getElem? (i := 142) rfl)) rfl
theorem q_143 : (Cond.selects "java/lang/IllegalStateException" ⟨"java/lang/Throwable", "fillInStackTrace", "()Ljava/lang/Throwable;"⟩ ⟨"java/lang/Throwable", "fillInStackTrace", "()Ljava/lang/Throwable;"⟩) ∈ wA := wA_mem (List.mem_append_left _ (List.mem_of_getElem? (i := 143) rfl)) rfl
theorem q_144 : (Cond.codeSync ⟨"java/lang/Throwable", "fillInStackTrace", "()Ljava/lang/Throwable;"⟩ prog_11_method_18_code 1 (some (.object "java/lang/Throwable"))) ∈ wA := wA_mem (List.mem_append_left _ (List.mem_of_getElem? (i := 144) rfl)) rfl
theorem q_145 : (Cond.methodLink "java/lang/Throwable" 202 ⟨"java/lang/Throwable", "fillInStackTrace", "(I)Ljava/lang/Throwable;"⟩) ∈ wA := wA_mem (List.mem_append_left _ (List.mem_of_getElem? (i := 145) rfl)) rfl
theorem q_147 : (Cond.instanceMethod ⟨"java/lang/Throwable", "fillInStackTrace", "(I)Ljava/lang/Throwable;"⟩) ∈ wA := wA_mem (List.mem_append_left _ (List.mem_of_getElem? (i := 147) rfl)) rfl
theorem q_148 : (Cond.instantiable "java/lang/Throwable" 6) ∈ wA := wA_mem (List.mem_append_left _ (List.mem_of_getElem? (i := 148) rfl)) rfl
theorem q_151 : (Cond.methodLink "CapUnit" 39 ⟨"java/lang/IndexOutOfBoundsException", "<init>", "(Ljava/lang/String;)V"⟩) ∈ wA := wA_mem (List.mem_append_left _ (List.mem_of_getElem? (i := 151) rfl)) rfl
theorem q_152 : (Cond.instanceMethod ⟨"java/lang/IndexOutOfBoundsException", "<init>", "(Ljava/lang/String;)V"⟩) ∈ wA := wA_mem (List.mem_append_left _ (List.mem_of_getElem? (i := 152) rfl)) rfl
theorem q_153 : (Cond.code ⟨"java/lang/IndexOutOfBoundsException", "<init>", "(Ljava/lang/String;)V"⟩ prog_7_method_2_code 2 none) ∈ wA := wA_mem (List.mem_append_left _ (List.mem_of_getElem? (i := 153) rfl)) rfl
theorem q_154 : (Cond.methodLink "java/lang/IndexOutOfBoundsException" 7 ⟨"java/lang/RuntimeException", "<init>", "(Ljava/lang/String;)V"⟩) ∈ wA := wA_mem (List.mem_append_left _ (List.mem_of_getElem? (i := 154) rfl)) rfl
theorem q_155 : (Cond.instanceMethod ⟨"java/lang/RuntimeException", "<init>", "(Ljava/lang/String;)V"⟩) ∈ wA := wA_mem (List.mem_append_left _ (List.mem_of_getElem? (i := 155) rfl)) rfl
theorem q_156 : (Cond.code ⟨"java/lang/RuntimeException", "<init>", "(Ljava/lang/String;)V"⟩ prog_9_method_2_code 2 none) ∈ wA := wA_mem (List.mem_append_left _ (List.mem_of_getElem? (i := 156) rfl)) rfl
theorem q_157 : (Cond.methodLink "java/lang/RuntimeException" 7 ⟨"java/lang/Exception", "<init>", "(Ljava/lang/String;)V"⟩) ∈ wA := wA_mem (List.mem_append_left _ (List.mem_of_getElem? (i := 157) rfl)) rfl
theorem q_158 : (Cond.instanceMethod ⟨"java/lang/Exception", "<init>", "(Ljava/lang/String;)V"⟩) ∈ wA := wA_mem (List.mem_append_left _ (List.mem_of_getElem? (i := 158) rfl)) rfl
theorem q_159 : (Cond.code ⟨"java/lang/Exception", "<init>", "(Ljava/lang/String;)V"⟩ prog_4_method_2_code 2 none) ∈ wA := wA_mem (List.mem_append_left _ (List.mem_of_getElem? (i := 159) rfl)) rfl
theorem q_160 : (Cond.methodLink "java/lang/Exception" 7 ⟨"java/lang/Throwable", "<init>", "(Ljava/lang/String;)V"⟩) ∈ wA := wA_mem (List.mem_append_left _ (List.mem_of_getElem? (i := 160) rfl)) rfl
theorem q_161 : (Cond.instanceMethod ⟨"java/lang/Throwable", "<init>", "(Ljava/lang/String;)V"⟩) ∈ wA := wA_mem (List.mem_append_left _ (List.mem_of_getElem? (i := 161) rfl)) rfl
theorem q_162 : (Cond.code ⟨"java/lang/Throwable", "<init>", "(Ljava/lang/String;)V"⟩ prog_11_method_2_code 2 none) ∈ wA := wA_mem (List.mem_append_left _ (List.mem_of_getElem? (i := 162) rfl)) rfl
theorem q_163 : (Cond.fieldLink "java/lang/Throwable" 198 "java/lang/Throwable" "backtrace" "Ljava/lang/Object;") ∈ wA := wA_mem (List.mem_append_left _ (List.mem_of_getElem? (i := 163) rfl)) rfl
theorem q_164 : (Cond.fieldLink "java/lang/Throwable" 31 "java/lang/Throwable" "detailMessage" "Ljava/lang/String;") ∈ wA := wA_mem (List.mem_append_left _ (List.mem_of_getElem? (i := 164) rfl)) rfl
theorem q_165 : (Cond.fieldLink "java/lang/Throwable" 7 "java/lang/Throwable" "cause" "Ljava/lang/Throwable;") ∈ wA := wA_mem (List.mem_append_left _ (List.mem_of_getElem? (i := 165) rfl)) rfl
theorem q_166 : (Cond.fieldLink "java/lang/Throwable" 17 "java/lang/Throwable" "stackTrace" "[Ljava/lang/StackTraceElement;") ∈ wA := wA_mem (List.mem_append_left _ (List.mem_of_getElem? (i := 166) rfl)) rfl
theorem q_167 : (Cond.fieldLink "java/lang/Throwable" 24 "java/lang/Throwable" "suppressedExceptions" "Ljava/util/List;") ∈ wA := wA_mem (List.mem_append_left _ (List.mem_of_getElem? (i := 167) rfl)) rfl
theorem q_168 : (Cond.soleField "java/lang/Throwable" "backtrace") ∈ wA := wA_mem (List.mem_append_left _ (List.mem_of_getElem? (i := 168) rfl)) rfl
theorem q_169 : (Cond.soleField "java/lang/Throwable" "detailMessage") ∈ wA := wA_mem (List.mem_append_left _ (List.mem_of_getElem? (i := 169) rfl)) rfl
theorem q_170 : (Cond.soleField "java/lang/Throwable" "cause") ∈ wA := wA_mem (List.mem_append_left _ (List.mem_of_getElem? (i := 170) rfl)) rfl
theorem q_171 : (Cond.soleField "java/lang/Throwable" "stackTrace") ∈ wA := wA_mem (List.mem_append_left _ (List.mem_of_getElem? (i := 171) rfl)) rfl
theorem q_172 : (Cond.lays "java/lang/IndexOutOfBoundsException" "java/lang/Throwable" "depth" "I") ∈ wA := wA_mem (List.mem_append_left _ (List.mem_of_getElem? (i := 172) rfl)) rfl
theorem q_173 : (Cond.soleField "java/lang/Throwable" "depth") ∈ wA := wA_mem (List.mem_append_left _ (List.mem_of_getElem? (i := 173) rfl)) rfl
theorem q_174 : (Cond.soleField "java/lang/Throwable" "suppressedExceptions") ∈ wA := wA_mem (List.mem_append_left _ (List.mem_of_getElem? (i := 174) rfl)) rfl
theorem q_175 : (Cond.superclass "java/lang/IndexOutOfBoundsException" "java/lang/RuntimeException") ∈ wA := wA_mem (List.mem_append_left _ (List.mem_of_getElem? (i := 175) rfl)) rfl
theorem q_176 : (Cond.arrayClass .byte) ∈ wA := wA_mem (List.mem_append_left _ (List.mem_of_getElem? (i := 176) rfl)) rfl
theorem q_177 : (Cond.methodLink "CapUnit" 42 ⟨"CapUnit", "fitsSpace", "(IJ)Z"⟩) ∈ wA := wA_mem (List.mem_append_left _ (List.mem_of_getElem? (i := 177) rfl)) rfl
theorem q_178 : (Cond.static ⟨"CapUnit", "fitsSpace", "(IJ)Z"⟩) ∈ wA := wA_mem (List.mem_append_left _ (List.mem_of_getElem? (i := 178) rfl)) rfl
theorem q_179 : (Cond.code ⟨"CapUnit", "fitsSpace", "(IJ)Z"⟩ prog_1_method_35_code 3 (some .boolean)) ∈ wA := wA_mem (List.mem_append_left _ (List.mem_of_getElem? (i := 179) rfl)) rfl
theorem q_180 : (Cond.classLink "CapUnit" 46 "java/lang/IllegalArgumentException") ∈ wA := wA_mem (List.mem_append_left _ (List.mem_of_getElem? (i := 180) rfl)) rfl
theorem q_181 : (Cond.instantiable "java/lang/IllegalArgumentException" 6) ∈ wA := wA_mem (List.mem_append_left _ (List.mem_of_getElem? (i := 181) rfl)) rfl
theorem q_183 : (Cond.selects "java/lang/IllegalArgumentException" ⟨"java/lang/Throwable", "fillInStackTrace", "(I)Ljava/lang/Throwable;"⟩ ⟨"java/lang/Throwable", "fillInStackTrace", "(I)Ljava/lang/Throwable;"⟩) ∈ wA := wA_mem (List.mem_append_left _ (List.mem_of_getElem? (i := 183) rfl)) rfl
theorem q_184 : (Cond.lays "java/lang/IllegalArgumentException" "java/lang/Throwable" "cause" "Ljava/lang/Throwable;") ∈ wA := wA_mem (List.mem_append_left _ (List.mem_of_getElem? (i := 184) rfl)) rfl
theorem q_185 : (Cond.lays "java/lang/IllegalArgumentException" "java/lang/Throwable" "stackTrace" "[Ljava/lang/StackTraceElement;") ∈ wA := wA_mem (List.mem_append_left _ (List.mem_of_getElem? (i := 185) rfl)) rfl
theorem q_186 : (Cond.lays "java/lang/IllegalArgumentException" "java/lang/Throwable" "suppressedExceptions" "Ljava/util/List;") ∈ wA := wA_mem (List.mem_append_left _ (List.mem_of_getElem? (i := 186) rfl)) rfl
theorem q_187 : (Cond.lays "java/lang/IllegalArgumentException" "java/lang/Throwable" "detailMessage" "Ljava/lang/String;") ∈ wA := wA_mem (List.mem_append_left _ (List.mem_of_getElem? (i := 187) rfl)) rfl
theorem q_188 : (Cond.lays "java/lang/IllegalArgumentException" "java/lang/Throwable" "backtrace" "Ljava/lang/Object;") ∈ wA := wA_mem (List.mem_append_left _ (List.mem_of_getElem? (i := 188) rfl)) rfl
theorem q_190 : (Cond.methodLink "CapUnit" 50 ⟨"java/lang/IllegalArgumentException", "<init>", "(Ljava/lang/String;)V"⟩) ∈ wA := wA_mem (List.mem_append_left _ (List.mem_of_getElem? (i := 190) rfl)) rfl
theorem q_191 : (Cond.instanceMethod ⟨"java/lang/IllegalArgumentException", "<init>", "(Ljava/lang/String;)V"⟩) ∈ wA := wA_mem (List.mem_append_left _ (List.mem_of_getElem? (i := 191) rfl)) rfl
theorem q_192 : (Cond.code ⟨"java/lang/IllegalArgumentException", "<init>", "(Ljava/lang/String;)V"⟩ prog_5_method_2_code 2 none) ∈ wA := wA_mem (List.mem_append_left _ (List.mem_of_getElem? (i := 192) rfl)) rfl
theorem q_193 : (Cond.methodLink "java/lang/IllegalArgumentException" 7 ⟨"java/lang/RuntimeException", "<init>", "(Ljava/lang/String;)V"⟩) ∈ wA := wA_mem (List.mem_append_left _ (List.mem_of_getElem? (i := 193) rfl)) rfl
theorem q_194 : (Cond.lays "java/lang/IllegalArgumentException" "java/lang/Throwable" "depth" "I") ∈ wA := wA_mem (List.mem_append_left _ (List.mem_of_getElem? (i := 194) rfl)) rfl
theorem q_195 : (Cond.superclass "java/lang/IllegalArgumentException" "java/lang/RuntimeException") ∈ wA := wA_mem (List.mem_append_left _ (List.mem_of_getElem? (i := 195) rfl)) rfl
theorem q_196 : (Cond.classLink "CapUnit" 51 "java/lang/IllegalStateException") ∈ wA := wA_mem (List.mem_append_left _ (List.mem_of_getElem? (i := 196) rfl)) rfl
theorem q_197 : (Cond.instantiable "java/lang/IllegalStateException" 6) ∈ wA := wA_mem (List.mem_append_left _ (List.mem_of_getElem? (i := 197) rfl)) rfl
theorem q_199 : (Cond.selects "java/lang/IllegalStateException" ⟨"java/lang/Throwable", "fillInStackTrace", "(I)Ljava/lang/Throwable;"⟩ ⟨"java/lang/Throwable", "fillInStackTrace", "(I)Ljava/lang/Throwable;"⟩) ∈ wA := wA_mem (List.mem_append_left _ (List.mem_of_getElem? (i := 199) rfl)) rfl
theorem q_200 : (Cond.lays "java/lang/IllegalStateException" "java/lang/Throwable" "cause" "Ljava/lang/Throwable;") ∈ wA := wA_mem (List.mem_append_left _ (List.mem_of_getElem? (i := 200) rfl)) rfl
theorem q_201 : (Cond.lays "java/lang/IllegalStateException" "java/lang/Throwable" "stackTrace" "[Ljava/lang/StackTraceElement;") ∈ wA := wA_mem (List.mem_append_left _ (List.mem_of_getElem? (i := 201) rfl)) rfl
theorem q_202 : (Cond.lays "java/lang/IllegalStateException" "java/lang/Throwable" "suppressedExceptions" "Ljava/util/List;") ∈ wA := wA_mem (List.mem_append_left _ (List.mem_of_getElem? (i := 202) rfl)) rfl
theorem q_203 : (Cond.lays "java/lang/IllegalStateException" "java/lang/Throwable" "detailMessage" "Ljava/lang/String;") ∈ wA := wA_mem (List.mem_append_left _ (List.mem_of_getElem? (i := 203) rfl)) rfl
theorem q_204 : (Cond.lays "java/lang/IllegalStateException" "java/lang/Throwable" "backtrace" "Ljava/lang/Object;") ∈ wA := wA_mem (List.mem_append_left _ (List.mem_of_getElem? (i := 204) rfl)) rfl
theorem q_206 : (Cond.methodLink "CapUnit" 55 ⟨"java/lang/IllegalStateException", "<init>", "(Ljava/lang/String;)V"⟩) ∈ wA := wA_mem (List.mem_append_left _ (List.mem_of_getElem? (i := 206) rfl)) rfl
theorem q_207 : (Cond.instanceMethod ⟨"java/lang/IllegalStateException", "<init>", "(Ljava/lang/String;)V"⟩) ∈ wA := wA_mem (List.mem_append_left _ (List.mem_of_getElem? (i := 207) rfl)) rfl
theorem q_208 : (Cond.code ⟨"java/lang/IllegalStateException", "<init>", "(Ljava/lang/String;)V"⟩ prog_6_method_2_code 2 none) ∈ wA := wA_mem (List.mem_append_left _ (List.mem_of_getElem? (i := 208) rfl)) rfl
theorem q_209 : (Cond.methodLink "java/lang/IllegalStateException" 7 ⟨"java/lang/RuntimeException", "<init>", "(Ljava/lang/String;)V"⟩) ∈ wA := wA_mem (List.mem_append_left _ (List.mem_of_getElem? (i := 209) rfl)) rfl
theorem q_210 : (Cond.lays "java/lang/IllegalStateException" "java/lang/Throwable" "depth" "I") ∈ wA := wA_mem (List.mem_append_left _ (List.mem_of_getElem? (i := 210) rfl)) rfl
theorem q_211 : (Cond.superclass "java/lang/IllegalStateException" "java/lang/RuntimeException") ∈ wA := wA_mem (List.mem_append_left _ (List.mem_of_getElem? (i := 211) rfl)) rfl
theorem q_212 : (Cond.methodLink "CapUnit" 60 ⟨"CapUnit", "packed", "(JJ)I"⟩) ∈ wA := wA_mem (List.mem_append_left _ (List.mem_of_getElem? (i := 212) rfl)) rfl
theorem q_213 : (Cond.static ⟨"CapUnit", "packed", "(JJ)I"⟩) ∈ wA := wA_mem (List.mem_append_left _ (List.mem_of_getElem? (i := 213) rfl)) rfl
theorem q_214 : (Cond.code ⟨"CapUnit", "packed", "(JJ)I"⟩ prog_1_method_40_code 12 (some .int)) ∈ wA := wA_mem (List.mem_append_left _ (List.mem_of_getElem? (i := 214) rfl)) rfl
theorem q_215 : (Cond.constantLong "CapUnit" 163 (63 : Int64)) ∈ wA := wA_mem (List.mem_append_left _ (List.mem_of_getElem? (i := 215) rfl)) rfl
theorem q_216 : (Cond.constant "CapUnit" 96 (32768 : Int32)) ∈ wA := wA_mem (List.mem_append_left _ (List.mem_of_getElem? (i := 216) rfl)) rfl
theorem q_217 : (Cond.constantLong "CapUnit" 165 (255 : Int64)) ∈ wA := wA_mem (List.mem_append_left _ (List.mem_of_getElem? (i := 217) rfl)) rfl
theorem q_218 : (Cond.methodLink "CapUnit" 167 ⟨"CapUnit", "fittingExponent", "(JJ)I"⟩) ∈ wA := wA_mem (List.mem_append_left _ (List.mem_of_getElem? (i := 218) rfl)) rfl
theorem q_219 : (Cond.static ⟨"CapUnit", "fittingExponent", "(JJ)I"⟩) ∈ wA := wA_mem (List.mem_append_left _ (List.mem_of_getElem? (i := 219) rfl)) rfl
theorem q_220 : (Cond.code ⟨"CapUnit", "fittingExponent", "(JJ)I"⟩ prog_1_method_41_code 7 (some .int)) ∈ wA := wA_mem (List.mem_append_left _ (List.mem_of_getElem? (i := 220) rfl)) rfl
theorem q_221 : (Cond.methodLink "CapUnit" 177 ⟨"CapUnit", "bitsOf", "(J)I"⟩) ∈ wA := wA_mem (List.mem_append_left _ (List.mem_of_getElem? (i := 221) rfl)) rfl
theorem q_222 : (Cond.static ⟨"CapUnit", "bitsOf", "(J)I"⟩) ∈ wA := wA_mem (List.mem_append_left _ (List.mem_of_getElem? (i := 222) rfl)) rfl
theorem q_223 : (Cond.code ⟨"CapUnit", "bitsOf", "(J)I"⟩ prog_1_method_42_code 3 (some .int)) ∈ wA := wA_mem (List.mem_append_left _ (List.mem_of_getElem? (i := 223) rfl)) rfl
theorem q_224 : (Cond.methodLink "CapUnit" 174 ⟨"CapUnit", "roundedUp", "(JI)J"⟩) ∈ wA := wA_mem (List.mem_append_left _ (List.mem_of_getElem? (i := 224) rfl)) rfl
theorem q_225 : (Cond.static ⟨"CapUnit", "roundedUp", "(JI)J"⟩) ∈ wA := wA_mem (List.mem_append_left _ (List.mem_of_getElem? (i := 225) rfl)) rfl
theorem q_226 : (Cond.code ⟨"CapUnit", "roundedUp", "(JI)J"⟩ prog_1_method_44_code 3 (some .long)) ∈ wA := wA_mem (List.mem_append_left _ (List.mem_of_getElem? (i := 226) rfl)) rfl
theorem q_227 : (Cond.methodLink "CapUnit" 170 ⟨"CapUnit", "roundedDown", "(JI)J"⟩) ∈ wA := wA_mem (List.mem_append_left _ (List.mem_of_getElem? (i := 227) rfl)) rfl
theorem q_228 : (Cond.static ⟨"CapUnit", "roundedDown", "(JI)J"⟩) ∈ wA := wA_mem (List.mem_append_left _ (List.mem_of_getElem? (i := 228) rfl)) rfl
theorem q_229 : (Cond.code ⟨"CapUnit", "roundedDown", "(JI)J"⟩ prog_1_method_43_code 3 (some .long)) ∈ wA := wA_mem (List.mem_append_left _ (List.mem_of_getElem? (i := 229) rfl)) rfl
theorem q_230 : (Cond.constantLong "CapUnit" 181 (16 : Int64)) ∈ wA := wA_mem (List.mem_append_left _ (List.mem_of_getElem? (i := 230) rfl)) rfl
theorem q_231 : (Cond.constant "CapUnit" 64 (983040 : Int32)) ∈ wA := wA_mem (List.mem_append_left _ (List.mem_of_getElem? (i := 231) rfl)) rfl
theorem q_232 : (Cond.methodLink "CapUnit" 65 ⟨"CapUnit", "become", "(IZII)Z"⟩) ∈ wA := wA_mem (List.mem_append_left _ (List.mem_of_getElem? (i := 232) rfl)) rfl
theorem q_234 : (Cond.instanceMethod ⟨"CapUnit", "become", "(IZII)Z"⟩) ∈ wA := wA_mem (List.mem_append_left _ (List.mem_of_getElem? (i := 234) rfl)) rfl
theorem q_235 : (Cond.code ⟨"CapUnit", "become", "(IZII)Z"⟩ prog_1_method_19_code 5 (some .boolean)) ∈ wA := wA_mem (List.mem_append_left _ (List.mem_of_getElem? (i := 235) rfl)) rfl
theorem q_236 : (Cond.methodLink "CapUnitLaw" 81 ⟨"CapUnitLaw", "put", "(LCapUnit;III)I"⟩) ∈ wA := wA_mem (List.mem_append_left _ (List.mem_of_getElem? (i := 236) rfl)) rfl
theorem q_237 : (Cond.static ⟨"CapUnitLaw", "put", "(LCapUnit;III)I"⟩) ∈ wA := wA_mem (List.mem_append_left _ (List.mem_of_getElem? (i := 237) rfl)) rfl
theorem q_238 : (Cond.codeWith ⟨"CapUnitLaw", "put", "(LCapUnit;III)I"⟩ method_4_code 5 (some .int) [(0, 7, 10, 13)]) ∈ wA := wA_mem (List.mem_append_left _ (List.mem_of_getElem? (i := 238) rfl)) rfl
theorem q_239 : (Cond.methodLink "CapUnitLaw" 19 ⟨"CapUnit", "put", "(III)V"⟩) ∈ wA := wA_mem (List.mem_append_left _ (List.mem_of_getElem? (i := 239) rfl)) rfl
theorem q_240 : (Cond.instanceMethod ⟨"CapUnit", "put", "(III)V"⟩) ∈ wA := wA_mem (List.mem_append_right _ (List.mem_append_left _ (List.mem_of_getElem? (i := 0) rfl))) rfl
theorem q_241 : (Cond.selects "CapUnit" ⟨"CapUnit", "put", "(III)V"⟩ ⟨"CapUnit", "put", "(III)V"⟩) ∈ wA := wA_mem (List.mem_append_right _ (List.mem_append_left _ (List.mem_of_getElem? (i := 1) rfl))) rfl
theorem q_242 : (Cond.code ⟨"CapUnit", "put", "(III)V"⟩ prog_1_method_3_code 4 none) ∈ wA := wA_mem (List.mem_append_right _ (List.mem_append_left _ (List.mem_of_getElem? (i := 2) rfl))) rfl
theorem q_243 : (Cond.methodLink "CapUnit" 75 ⟨"CapUnit", "isRegister", "(I)Z"⟩) ∈ wA := wA_mem (List.mem_append_right _ (List.mem_append_left _ (List.mem_of_getElem? (i := 3) rfl))) rfl
theorem q_244 : (Cond.static ⟨"CapUnit", "isRegister", "(I)Z"⟩) ∈ wA := wA_mem (List.mem_append_right _ (List.mem_append_left _ (List.mem_of_getElem? (i := 4) rfl))) rfl
theorem q_245 : (Cond.code ⟨"CapUnit", "isRegister", "(I)Z"⟩ prog_1_method_18_code 1 (some .boolean)) ∈ wA := wA_mem (List.mem_append_right _ (List.mem_append_left _ (List.mem_of_getElem? (i := 5) rfl))) rfl
theorem q_247 : (Cond.methodLink "CapUnitLaw" 85 ⟨"CapUnitLaw", "narrow", "(LCapUnit;IIIZ[J)I"⟩) ∈ wA := wA_mem (List.mem_append_right _ (List.mem_append_left _ (List.mem_of_getElem? (i := 7) rfl))) rfl
theorem q_248 : (Cond.static ⟨"CapUnitLaw", "narrow", "(LCapUnit;IIIZ[J)I"⟩) ∈ wA := wA_mem (List.mem_append_right _ (List.mem_append_left _ (List.mem_of_getElem? (i := 8) rfl))) rfl
theorem q_249 : (Cond.codeWith ⟨"CapUnitLaw", "narrow", "(LCapUnit;IIIZ[J)I"⟩ method_5_code 7 (some .int) [(0, 21, 24, 13)]) ∈ wA := wA_mem (List.mem_append_right _ (List.mem_append_left _ (List.mem_of_getElem? (i := 9) rfl))) rfl
theorem q_250 : (Cond.methodLink "CapUnitLaw" 23 ⟨"CapUnit", "narrow", "(IIIZ)Z"⟩) ∈ wA := wA_mem (List.mem_append_right _ (List.mem_append_left _ (List.mem_of_getElem? (i := 10) rfl))) rfl
theorem q_251 : (Cond.instanceMethod ⟨"CapUnit", "narrow", "(IIIZ)Z"⟩) ∈ wA := wA_mem (List.mem_append_right _ (List.mem_append_left _ (List.mem_of_getElem? (i := 11) rfl))) rfl
theorem q_252 : (Cond.selects "CapUnit" ⟨"CapUnit", "narrow", "(IIIZ)Z"⟩ ⟨"CapUnit", "narrow", "(IIIZ)Z"⟩) ∈ wA := wA_mem (List.mem_append_right _ (List.mem_append_left _ (List.mem_of_getElem? (i := 12) rfl))) rfl
theorem q_253 : (Cond.code ⟨"CapUnit", "narrow", "(IIIZ)Z"⟩ prog_1_method_4_code 11 (some .boolean)) ∈ wA := wA_mem (List.mem_append_right _ (List.mem_append_left _ (List.mem_of_getElem? (i := 13) rfl))) rfl
theorem q_254 : (Cond.methodLink "CapUnit" 83 ⟨"java/lang/Math", "min", "(JJ)J"⟩) ∈ wA := wA_mem (List.mem_append_right _ (List.mem_append_left _ (List.mem_of_getElem? (i := 14) rfl))) rfl
theorem q_255 : (Cond.static ⟨"java/lang/Math", "min", "(JJ)J"⟩) ∈ wA := wA_mem (List.mem_append_right _ (List.mem_append_left _ (List.mem_of_getElem? (i := 15) rfl))) rfl
theorem q_256 : (Cond.code ⟨"java/lang/Math", "min", "(JJ)J"⟩ prog_8_method_70_code 4 (some .long)) ∈ wA := wA_mem (List.mem_append_right _ (List.mem_append_left _ (List.mem_of_getElem? (i := 16) rfl))) rfl
theorem q_257 : (Cond.methodLink "CapUnit" 89 ⟨"CapUnit", "isOpenWithTag", "(I)Z"⟩) ∈ wA := wA_mem (List.mem_append_right _ (List.mem_append_left _ (List.mem_of_getElem? (i := 17) rfl))) rfl
theorem q_259 : (Cond.instanceMethod ⟨"CapUnit", "isOpenWithTag", "(I)Z"⟩) ∈ wA := wA_mem (List.mem_append_right _ (List.mem_append_left _ (List.mem_of_getElem? (i := 19) rfl))) rfl
theorem q_260 : (Cond.code ⟨"CapUnit", "isOpenWithTag", "(I)Z"⟩ prog_1_method_22_code 2 (some .boolean)) ∈ wA := wA_mem (List.mem_append_right _ (List.mem_append_left _ (List.mem_of_getElem? (i := 20) rfl))) rfl
theorem q_261 : (Cond.methodLink "CapUnit" 114 ⟨"CapUnit", "typeOf", "(I)I"⟩) ∈ wA := wA_mem (List.mem_append_right _ (List.mem_append_left _ (List.mem_of_getElem? (i := 21) rfl))) rfl
theorem q_262 : (Cond.static ⟨"CapUnit", "typeOf", "(I)I"⟩) ∈ wA := wA_mem (List.mem_append_right _ (List.mem_append_left _ (List.mem_of_getElem? (i := 22) rfl))) rfl
theorem q_263 : (Cond.code ⟨"CapUnit", "typeOf", "(I)I"⟩ prog_1_method_29_code 1 (some .int)) ∈ wA := wA_mem (List.mem_append_right _ (List.mem_append_left _ (List.mem_of_getElem? (i := 23) rfl))) rfl
theorem q_264 : (Cond.methodLink "CapUnit" 92 ⟨"CapUnit", "isInBounds", "(IJJ)Z"⟩) ∈ wA := wA_mem (List.mem_append_right _ (List.mem_append_left _ (List.mem_of_getElem? (i := 24) rfl))) rfl
theorem q_266 : (Cond.instanceMethod ⟨"CapUnit", "isInBounds", "(IJJ)Z"⟩) ∈ wA := wA_mem (List.mem_append_right _ (List.mem_append_left _ (List.mem_of_getElem? (i := 26) rfl))) rfl
theorem q_267 : (Cond.code ⟨"CapUnit", "isInBounds", "(IJJ)Z"⟩ prog_1_method_24_code 6 (some .boolean)) ∈ wA := wA_mem (List.mem_append_right _ (List.mem_append_left _ (List.mem_of_getElem? (i := 27) rfl))) rfl
theorem q_268 : (Cond.methodLink "CapUnitLaw" 89 ⟨"CapUnitLaw", "move", "(LCapUnit;III[J)I"⟩) ∈ wA := wA_mem (List.mem_append_right _ (List.mem_append_left _ (List.mem_of_getElem? (i := 28) rfl))) rfl
theorem q_269 : (Cond.static ⟨"CapUnitLaw", "move", "(LCapUnit;III[J)I"⟩) ∈ wA := wA_mem (List.mem_append_right _ (List.mem_append_left _ (List.mem_of_getElem? (i := 29) rfl))) rfl
theorem q_270 : (Cond.codeWith ⟨"CapUnitLaw", "move", "(LCapUnit;III[J)I"⟩ method_6_code 6 (some .int) [(0, 19, 22, 13)]) ∈ wA := wA_mem (List.mem_append_right _ (List.mem_append_left _ (List.mem_of_getElem? (i := 30) rfl))) rfl
theorem q_271 : (Cond.methodLink "CapUnitLaw" 27 ⟨"CapUnit", "move", "(III)Z"⟩) ∈ wA := wA_mem (List.mem_append_right _ (List.mem_append_left _ (List.mem_of_getElem? (i := 31) rfl))) rfl
theorem q_272 : (Cond.instanceMethod ⟨"CapUnit", "move", "(III)Z"⟩) ∈ wA := wA_mem (List.mem_append_right _ (List.mem_append_left _ (List.mem_of_getElem? (i := 32) rfl))) rfl
theorem q_273 : (Cond.selects "CapUnit" ⟨"CapUnit", "move", "(III)Z"⟩ ⟨"CapUnit", "move", "(III)Z"⟩) ∈ wA := wA_mem (List.mem_append_right _ (List.mem_append_left _ (List.mem_of_getElem? (i := 33) rfl))) rfl
theorem q_274 : (Cond.code ⟨"CapUnit", "move", "(III)Z"⟩ prog_1_method_5_code 6 (some .boolean)) ∈ wA := wA_mem (List.mem_append_right _ (List.mem_append_left _ (List.mem_of_getElem? (i := 34) rfl))) rfl
theorem q_275 : (Cond.methodLink "CapUnitLaw" 93 ⟨"CapUnitLaw", "keep", "(LCapUnit;III[J)I"⟩) ∈ wA := wA_mem (List.mem_append_right _ (List.mem_append_left _ (List.mem_of_getElem? (i := 35) rfl))) rfl
theorem q_276 : (Cond.static ⟨"CapUnitLaw", "keep", "(LCapUnit;III[J)I"⟩) ∈ wA := wA_mem (List.mem_append_right _ (List.mem_append_left _ (List.mem_of_getElem? (i := 36) rfl))) rfl
theorem q_277 : (Cond.codeWith ⟨"CapUnitLaw", "keep", "(LCapUnit;III[J)I"⟩ method_7_code 6 (some .int) [(0, 19, 22, 13)]) ∈ wA := wA_mem (List.mem_append_right _ (List.mem_append_left _ (List.mem_of_getElem? (i := 37) rfl))) rfl
theorem q_278 : (Cond.methodLink "CapUnitLaw" 31 ⟨"CapUnit", "keep", "(III)Z"⟩) ∈ wA := wA_mem (List.mem_append_right _ (List.mem_append_left _ (List.mem_of_getElem? (i := 38) rfl))) rfl
theorem q_279 : (Cond.instanceMethod ⟨"CapUnit", "keep", "(III)Z"⟩) ∈ wA := wA_mem (List.mem_append_right _ (List.mem_append_left _ (List.mem_of_getElem? (i := 39) rfl))) rfl
theorem q_280 : (Cond.selects "CapUnit" ⟨"CapUnit", "keep", "(III)Z"⟩ ⟨"CapUnit", "keep", "(III)Z"⟩) ∈ wA := wA_mem (List.mem_append_right _ (List.mem_append_left _ (List.mem_of_getElem? (i := 40) rfl))) rfl
theorem q_281 : (Cond.code ⟨"CapUnit", "keep", "(III)Z"⟩ prog_1_method_6_code 5 (some .boolean)) ∈ wA := wA_mem (List.mem_append_right _ (List.mem_append_left _ (List.mem_of_getElem? (i := 41) rfl))) rfl
theorem q_282 : (Cond.methodLink "CapUnitLaw" 96 ⟨"CapUnitLaw", "seal", "(LCapUnit;III[J)I"⟩) ∈ wA := wA_mem (List.mem_append_right _ (List.mem_append_left _ (List.mem_of_getElem? (i := 42) rfl))) rfl
theorem q_283 : (Cond.static ⟨"CapUnitLaw", "seal", "(LCapUnit;III[J)I"⟩) ∈ wA := wA_mem (List.mem_append_right _ (List.mem_append_left _ (List.mem_of_getElem? (i := 43) rfl))) rfl
theorem q_284 : (Cond.codeWith ⟨"CapUnitLaw", "seal", "(LCapUnit;III[J)I"⟩ method_8_code 6 (some .int) [(0, 19, 22, 13)]) ∈ wA := wA_mem (List.mem_append_right _ (List.mem_append_left _ (List.mem_of_getElem? (i := 44) rfl))) rfl
theorem q_285 : (Cond.methodLink "CapUnitLaw" 34 ⟨"CapUnit", "seal", "(III)Z"⟩) ∈ wA := wA_mem (List.mem_append_right _ (List.mem_append_left _ (List.mem_of_getElem? (i := 45) rfl))) rfl
theorem q_286 : (Cond.instanceMethod ⟨"CapUnit", "seal", "(III)Z"⟩) ∈ wA := wA_mem (List.mem_append_right _ (List.mem_append_left _ (List.mem_of_getElem? (i := 46) rfl))) rfl
theorem q_287 : (Cond.selects "CapUnit" ⟨"CapUnit", "seal", "(III)Z"⟩ ⟨"CapUnit", "seal", "(III)Z"⟩) ∈ wA := wA_mem (List.mem_append_right _ (List.mem_append_left _ (List.mem_of_getElem? (i := 47) rfl))) rfl
theorem q_288 : (Cond.code ⟨"CapUnit", "seal", "(III)Z"⟩ prog_1_method_7_code 5 (some .boolean)) ∈ wA := wA_mem (List.mem_append_right _ (List.mem_append_left _ (List.mem_of_getElem? (i := 48) rfl))) rfl
theorem q_289 : (Cond.methodLink "CapUnit" 104 ⟨"CapUnit", "isKey", "(II)Z"⟩) ∈ wA := wA_mem (List.mem_append_right _ (List.mem_append_left _ (List.mem_of_getElem? (i := 49) rfl))) rfl
theorem q_291 : (Cond.instanceMethod ⟨"CapUnit", "isKey", "(II)Z"⟩) ∈ wA := wA_mem (List.mem_append_right _ (List.mem_append_left _ (List.mem_of_getElem? (i := 51) rfl))) rfl
theorem q_292 : (Cond.code ⟨"CapUnit", "isKey", "(II)Z"⟩ prog_1_method_25_code 3 (some .boolean)) ∈ wA := wA_mem (List.mem_append_right _ (List.mem_append_left _ (List.mem_of_getElem? (i := 52) rfl))) rfl
theorem q_293 : (Cond.methodLink "CapUnit" 118 ⟨"CapUnit", "hasPerm", "(II)Z"⟩) ∈ wA := wA_mem (List.mem_append_right _ (List.mem_append_left _ (List.mem_of_getElem? (i := 53) rfl))) rfl
theorem q_295 : (Cond.instanceMethod ⟨"CapUnit", "hasPerm", "(II)Z"⟩) ∈ wA := wA_mem (List.mem_append_right _ (List.mem_append_left _ (List.mem_of_getElem? (i := 55) rfl))) rfl
theorem q_296 : (Cond.code ⟨"CapUnit", "hasPerm", "(II)Z"⟩ prog_1_method_23_code 3 (some .boolean)) ∈ wA := wA_mem (List.mem_append_right _ (List.mem_append_left _ (List.mem_of_getElem? (i := 56) rfl))) rfl
theorem q_297 : (Cond.constantLong "CapUnit" 108 (12 : Int64)) ∈ wA := wA_mem (List.mem_append_right _ (List.mem_append_left _ (List.mem_of_getElem? (i := 57) rfl))) rfl
theorem q_298 : (Cond.methodLink "CapUnit" 110 ⟨"CapUnit", "withType", "(II)I"⟩) ∈ wA := wA_mem (List.mem_append_right _ (List.mem_append_left _ (List.mem_of_getElem? (i := 58) rfl))) rfl
theorem q_299 : (Cond.static ⟨"CapUnit", "withType", "(II)I"⟩) ∈ wA := wA_mem (List.mem_append_right _ (List.mem_append_left _ (List.mem_of_getElem? (i := 59) rfl))) rfl
theorem q_300 : (Cond.code ⟨"CapUnit", "withType", "(II)I"⟩ prog_1_method_30_code 2 (some .int)) ∈ wA := wA_mem (List.mem_append_right _ (List.mem_append_left _ (List.mem_of_getElem? (i := 60) rfl))) rfl
theorem q_301 : (Cond.constant "CapUnit" 143 (-983041 : Int32)) ∈ wA := wA_mem (List.mem_append_right _ (List.mem_append_left _ (List.mem_of_getElem? (i := 61) rfl))) rfl
theorem q_302 : (Cond.methodLink "CapUnitLaw" 99 ⟨"CapUnitLaw", "unseal", "(LCapUnit;III[J)I"⟩) ∈ wA := wA_mem (List.mem_append_right _ (List.mem_append_left _ (List.mem_of_getElem? (i := 62) rfl))) rfl
theorem q_303 : (Cond.static ⟨"CapUnitLaw", "unseal", "(LCapUnit;III[J)I"⟩) ∈ wA := wA_mem (List.mem_append_right _ (List.mem_append_left _ (List.mem_of_getElem? (i := 63) rfl))) rfl
theorem q_304 : (Cond.codeWith ⟨"CapUnitLaw", "unseal", "(LCapUnit;III[J)I"⟩ method_9_code 6 (some .int) [(0, 19, 22, 13)]) ∈ wA := wA_mem (List.mem_append_right _ (List.mem_append_left _ (List.mem_of_getElem? (i := 64) rfl))) rfl
theorem q_305 : (Cond.methodLink "CapUnitLaw" 37 ⟨"CapUnit", "unseal", "(III)Z"⟩) ∈ wA := wA_mem (List.mem_append_right _ (List.mem_append_left _ (List.mem_of_getElem? (i := 65) rfl))) rfl
theorem q_306 : (Cond.instanceMethod ⟨"CapUnit", "unseal", "(III)Z"⟩) ∈ wA := wA_mem (List.mem_append_right _ (List.mem_append_left _ (List.mem_of_getElem? (i := 66) rfl))) rfl
theorem q_307 : (Cond.selects "CapUnit" ⟨"CapUnit", "unseal", "(III)Z"⟩ ⟨"CapUnit", "unseal", "(III)Z"⟩) ∈ wA := wA_mem (List.mem_append_right _ (List.mem_append_left _ (List.mem_of_getElem? (i := 67) rfl))) rfl
theorem q_308 : (Cond.code ⟨"CapUnit", "unseal", "(III)Z"⟩ prog_1_method_8_code 7 (some .boolean)) ∈ wA := wA_mem (List.mem_append_right _ (List.mem_append_left _ (List.mem_of_getElem? (i := 68) rfl))) rfl
theorem q_309 : (Cond.constant "CapUnit" 121 (-1048577 : Int32)) ∈ wA := wA_mem (List.mem_append_right _ (List.mem_append_left _ (List.mem_of_getElem? (i := 69) rfl))) rfl
theorem q_310 : (Cond.methodLink "CapUnitLaw" 102 ⟨"CapUnitLaw", "gate", "(LCapUnit;II[J)I"⟩) ∈ wA := wA_mem (List.mem_append_right _ (List.mem_append_left _ (List.mem_of_getElem? (i := 70) rfl))) rfl
theorem q_311 : (Cond.static ⟨"CapUnitLaw", "gate", "(LCapUnit;II[J)I"⟩) ∈ wA := wA_mem (List.mem_append_right _ (List.mem_append_left _ (List.mem_of_getElem? (i := 71) rfl))) rfl
theorem q_312 : (Cond.codeWith ⟨"CapUnitLaw", "gate", "(LCapUnit;II[J)I"⟩ method_10_code 5 (some .int) [(0, 17, 20, 13)]) ∈ wA := wA_mem (List.mem_append_right _ (List.mem_append_left _ (List.mem_of_getElem? (i := 72) rfl))) rfl
theorem q_313 : (Cond.methodLink "CapUnitLaw" 40 ⟨"CapUnit", "gate", "(II)Z"⟩) ∈ wA := wA_mem (List.mem_append_right _ (List.mem_append_left _ (List.mem_of_getElem? (i := 73) rfl))) rfl
theorem q_314 : (Cond.instanceMethod ⟨"CapUnit", "gate", "(II)Z"⟩) ∈ wA := wA_mem (List.mem_append_right _ (List.mem_append_left _ (List.mem_of_getElem? (i := 74) rfl))) rfl
theorem q_315 : (Cond.selects "CapUnit" ⟨"CapUnit", "gate", "(II)Z"⟩ ⟨"CapUnit", "gate", "(II)Z"⟩) ∈ wA := wA_mem (List.mem_append_right _ (List.mem_append_left _ (List.mem_of_getElem? (i := 75) rfl))) rfl
theorem q_316 : (Cond.code ⟨"CapUnit", "gate", "(II)Z"⟩ prog_1_method_9_code 4 (some .boolean)) ∈ wA := wA_mem (List.mem_append_right _ (List.mem_append_left _ (List.mem_of_getElem? (i := 76) rfl))) rfl
theorem q_317 : (Cond.methodLink "CapUnitLaw" 106 ⟨"CapUnitLaw", "build", "(LCapUnit;III[J)I"⟩) ∈ wA := wA_mem (List.mem_append_right _ (List.mem_append_left _ (List.mem_of_getElem? (i := 77) rfl))) rfl
theorem q_318 : (Cond.static ⟨"CapUnitLaw", "build", "(LCapUnit;III[J)I"⟩) ∈ wA := wA_mem (List.mem_append_right _ (List.mem_append_left _ (List.mem_of_getElem? (i := 78) rfl))) rfl
theorem q_319 : (Cond.codeWith ⟨"CapUnitLaw", "build", "(LCapUnit;III[J)I"⟩ method_11_code 6 (some .int) [(0, 19, 22, 13)]) ∈ wA := wA_mem (List.mem_append_right _ (List.mem_append_left _ (List.mem_of_getElem? (i := 79) rfl))) rfl
theorem q_320 : (Cond.methodLink "CapUnitLaw" 44 ⟨"CapUnit", "build", "(III)Z"⟩) ∈ wA := wA_mem (List.mem_append_right _ (List.mem_append_left _ (List.mem_of_getElem? (i := 80) rfl))) rfl
theorem q_321 : (Cond.instanceMethod ⟨"CapUnit", "build", "(III)Z"⟩) ∈ wA := wA_mem (List.mem_append_right _ (List.mem_append_left _ (List.mem_of_getElem? (i := 81) rfl))) rfl
theorem q_322 : (Cond.selects "CapUnit" ⟨"CapUnit", "build", "(III)Z"⟩ ⟨"CapUnit", "build", "(III)Z"⟩) ∈ wA := wA_mem (List.mem_append_right _ (List.mem_append_left _ (List.mem_of_getElem? (i := 82) rfl))) rfl
theorem q_323 : (Cond.code ⟨"CapUnit", "build", "(III)Z"⟩ prog_1_method_10_code 6 (some .boolean)) ∈ wA := wA_mem (List.mem_append_right _ (List.mem_append_left _ (List.mem_of_getElem? (i := 83) rfl))) rfl
theorem q_324 : (Cond.methodLink "CapUnitLaw" 109 ⟨"CapUnitLaw", "subset", "(LCapUnit;II[J)I"⟩) ∈ wA := wA_mem (List.mem_append_right _ (List.mem_append_left _ (List.mem_of_getElem? (i := 84) rfl))) rfl
theorem q_325 : (Cond.static ⟨"CapUnitLaw", "subset", "(LCapUnit;II[J)I"⟩) ∈ wA := wA_mem (List.mem_append_right _ (List.mem_append_left _ (List.mem_of_getElem? (i := 85) rfl))) rfl
theorem q_326 : (Cond.codeWith ⟨"CapUnitLaw", "subset", "(LCapUnit;II[J)I"⟩ method_12_code 5 (some .int) [(0, 17, 20, 13)]) ∈ wA := wA_mem (List.mem_append_right _ (List.mem_append_left _ (List.mem_of_getElem? (i := 86) rfl))) rfl
theorem q_327 : (Cond.methodLink "CapUnitLaw" 47 ⟨"CapUnit", "subset", "(II)Z"⟩) ∈ wA := wA_mem (List.mem_append_right _ (List.mem_append_left _ (List.mem_of_getElem? (i := 87) rfl))) rfl
theorem q_328 : (Cond.instanceMethod ⟨"CapUnit", "subset", "(II)Z"⟩) ∈ wA := wA_mem (List.mem_append_right _ (List.mem_append_left _ (List.mem_of_getElem? (i := 88) rfl))) rfl
theorem q_329 : (Cond.selects "CapUnit" ⟨"CapUnit", "subset", "(II)Z"⟩ ⟨"CapUnit", "subset", "(II)Z"⟩) ∈ wA := wA_mem (List.mem_append_right _ (List.mem_append_left _ (List.mem_of_getElem? (i := 89) rfl))) rfl
theorem q_330 : (Cond.code ⟨"CapUnit", "subset", "(II)Z"⟩ prog_1_method_11_code 3 (some .boolean)) ∈ wA := wA_mem (List.mem_append_right _ (List.mem_append_left _ (List.mem_of_getElem? (i := 90) rfl))) rfl
theorem q_331 : (Cond.methodLink "CapUnitLaw" 112 ⟨"CapUnitLaw", "told", "(LCapUnit;II[J)I"⟩) ∈ wA := wA_mem (List.mem_append_right _ (List.mem_append_left _ (List.mem_of_getElem? (i := 91) rfl))) rfl
theorem q_332 : (Cond.static ⟨"CapUnitLaw", "told", "(LCapUnit;II[J)I"⟩) ∈ wA := wA_mem (List.mem_append_right _ (List.mem_append_left _ (List.mem_of_getElem? (i := 92) rfl))) rfl
theorem q_333 : (Cond.codeWith ⟨"CapUnitLaw", "told", "(LCapUnit;II[J)I"⟩ method_13_code 5 (some .int) [(0, 9, 12, 13), (0, 9, 16, 15)]) ∈ wA := wA_mem (List.mem_append_right _ (List.mem_append_left _ (List.mem_of_getElem? (i := 93) rfl))) rfl
theorem q_334 : (Cond.methodLink "CapUnitLaw" 50 ⟨"CapUnit", "told", "(II)J"⟩) ∈ wA := wA_mem (List.mem_append_right _ (List.mem_append_left _ (List.mem_of_getElem? (i := 94) rfl))) rfl
theorem q_335 : (Cond.instanceMethod ⟨"CapUnit", "told", "(II)J"⟩) ∈ wA := wA_mem (List.mem_append_right _ (List.mem_append_left _ (List.mem_of_getElem? (i := 95) rfl))) rfl
theorem q_336 : (Cond.selects "CapUnit" ⟨"CapUnit", "told", "(II)J"⟩ ⟨"CapUnit", "told", "(II)J"⟩) ∈ wA := wA_mem (List.mem_append_right _ (List.mem_append_left _ (List.mem_of_getElem? (i := 96) rfl))) rfl
theorem q_337 : (Cond.code ⟨"CapUnit", "told", "(II)J"⟩ prog_1_method_12_code 3 (some .long)) ∈ wA := wA_mem (List.mem_append_right _ (List.mem_append_left _ (List.mem_of_getElem? (i := 97) rfl))) rfl
theorem q_339 : (Cond.methodLink "CapUnitLaw" 115 ⟨"CapUnitLaw", "reaches", "(LCapUnit;III[J)I"⟩) ∈ wA := wA_mem (List.mem_append_right _ (List.mem_append_left _ (List.mem_of_getElem? (i := 99) rfl))) rfl
theorem q_340 : (Cond.static ⟨"CapUnitLaw", "reaches", "(LCapUnit;III[J)I"⟩) ∈ wA := wA_mem (List.mem_append_right _ (List.mem_append_left _ (List.mem_of_getElem? (i := 100) rfl))) rfl
theorem q_341 : (Cond.codeWith ⟨"CapUnitLaw", "reaches", "(LCapUnit;III[J)I"⟩ method_14_code 6 (some .int) [(0, 19, 22, 13), (0, 19, 26, 15)]) ∈ wA := wA_mem (List.mem_append_right _ (List.mem_append_left _ (List.mem_of_getElem? (i := 101) rfl))) rfl
theorem q_342 : (Cond.methodLink "CapUnitLaw" 54 ⟨"CapUnit", "reaches", "(III)Z"⟩) ∈ wA := wA_mem (List.mem_append_right _ (List.mem_append_left _ (List.mem_of_getElem? (i := 102) rfl))) rfl
theorem q_343 : (Cond.instanceMethod ⟨"CapUnit", "reaches", "(III)Z"⟩) ∈ wA := wA_mem (List.mem_append_right _ (List.mem_append_left _ (List.mem_of_getElem? (i := 103) rfl))) rfl
theorem q_344 : (Cond.selects "CapUnit" ⟨"CapUnit", "reaches", "(III)Z"⟩ ⟨"CapUnit", "reaches", "(III)Z"⟩) ∈ wA := wA_mem (List.mem_append_right _ (List.mem_append_left _ (List.mem_of_getElem? (i := 104) rfl))) rfl
theorem q_345 : (Cond.code ⟨"CapUnit", "reaches", "(III)Z"⟩ prog_1_method_13_code 4 (some .boolean)) ∈ wA := wA_mem (List.mem_append_right _ (List.mem_append_left _ (List.mem_of_getElem? (i := 105) rfl))) rfl
theorem q_347 : (Cond.methodLink "CapUnitLaw" 118 ⟨"CapUnitLaw", "pack", "(LCapUnit;IJ[J)I"⟩) ∈ wA := wA_mem (List.mem_append_right _ (List.mem_append_left _ (List.mem_of_getElem? (i := 107) rfl))) rfl
theorem q_348 : (Cond.static ⟨"CapUnitLaw", "pack", "(LCapUnit;IJ[J)I"⟩) ∈ wA := wA_mem (List.mem_append_right _ (List.mem_append_left _ (List.mem_of_getElem? (i := 108) rfl))) rfl
theorem q_349 : (Cond.codeWith ⟨"CapUnitLaw", "pack", "(LCapUnit;IJ[J)I"⟩ method_15_code 6 (some .int) [(0, 11, 14, 15)]) ∈ wA := wA_mem (List.mem_append_right _ (List.mem_append_left _ (List.mem_of_getElem? (i := 109) rfl))) rfl
theorem q_350 : (Cond.methodLink "CapUnitLaw" 57 ⟨"CapUnit", "pack", "(IJ)I"⟩) ∈ wA := wA_mem (List.mem_append_right _ (List.mem_append_left _ (List.mem_of_getElem? (i := 110) rfl))) rfl
theorem q_351 : (Cond.instanceMethod ⟨"CapUnit", "pack", "(IJ)I"⟩) ∈ wA := wA_mem (List.mem_append_right _ (List.mem_append_left _ (List.mem_of_getElem? (i := 111) rfl))) rfl
theorem q_352 : (Cond.selects "CapUnit" ⟨"CapUnit", "pack", "(IJ)I"⟩ ⟨"CapUnit", "pack", "(IJ)I"⟩) ∈ wA := wA_mem (List.mem_append_right _ (List.mem_append_left _ (List.mem_of_getElem? (i := 112) rfl))) rfl
theorem q_353 : (Cond.code ⟨"CapUnit", "pack", "(IJ)I"⟩ prog_1_method_14_code 4 (some .int)) ∈ wA := wA_mem (List.mem_append_right _ (List.mem_append_left _ (List.mem_of_getElem? (i := 113) rfl))) rfl
theorem q_355 : (Cond.methodLink "CapUnitLaw" 127 ⟨"CapUnitLaw", "rounded", "(LCapUnit;JZ[J)I"⟩) ∈ wA := wA_mem (List.mem_append_right _ (List.mem_append_left _ (List.mem_of_getElem? (i := 115) rfl))) rfl
theorem q_356 : (Cond.static ⟨"CapUnitLaw", "rounded", "(LCapUnit;JZ[J)I"⟩) ∈ wA := wA_mem (List.mem_append_right _ (List.mem_append_left _ (List.mem_of_getElem? (i := 116) rfl))) rfl
theorem q_357 : (Cond.codeWith ⟨"CapUnitLaw", "rounded", "(LCapUnit;JZ[J)I"⟩ method_16_code 6 (some .int) [(0, 10, 13, 15)]) ∈ wA := wA_mem (List.mem_append_right _ (List.mem_append_left _ (List.mem_of_getElem? (i := 117) rfl))) rfl
theorem q_358 : (Cond.methodLink "CapUnitLaw" 61 ⟨"CapUnit", "rounded", "(JZ)J"⟩) ∈ wA := wA_mem (List.mem_append_right _ (List.mem_append_left _ (List.mem_of_getElem? (i := 118) rfl))) rfl
theorem q_359 : (Cond.instanceMethod ⟨"CapUnit", "rounded", "(JZ)J"⟩) ∈ wA := wA_mem (List.mem_append_right _ (List.mem_append_left _ (List.mem_of_getElem? (i := 119) rfl))) rfl
theorem q_360 : (Cond.selects "CapUnit" ⟨"CapUnit", "rounded", "(JZ)J"⟩ ⟨"CapUnit", "rounded", "(JZ)J"⟩) ∈ wA := wA_mem (List.mem_append_right _ (List.mem_append_left _ (List.mem_of_getElem? (i := 120) rfl))) rfl
theorem q_361 : (Cond.code ⟨"CapUnit", "rounded", "(JZ)J"⟩ prog_1_method_16_code 5 (some .long)) ∈ wA := wA_mem (List.mem_append_right _ (List.mem_append_left _ (List.mem_of_getElem? (i := 121) rfl))) rfl
theorem q_363 : (Cond.classLink "CapUnitLaw" 66 "CapUnitModel") ∈ wA := wA_mem (List.mem_append_right _ (List.mem_append_left _ (List.mem_of_getElem? (i := 123) rfl))) rfl
theorem q_364 : (Cond.instantiable "CapUnitModel" 11) ∈ wA := wA_mem (List.mem_append_right _ (List.mem_append_left _ (List.mem_of_getElem? (i := 124) rfl))) rfl
theorem q_365 : (Cond.methodLink "CapUnitLaw" 68 ⟨"CapUnitModel", "<init>", "()V"⟩) ∈ wA := wA_mem (List.mem_append_right _ (List.mem_append_left _ (List.mem_of_getElem? (i := 125) rfl))) rfl
theorem q_366 : (Cond.instanceMethod ⟨"CapUnitModel", "<init>", "()V"⟩) ∈ wA := wA_mem (List.mem_append_right _ (List.mem_append_left _ (List.mem_of_getElem? (i := 126) rfl))) rfl
theorem q_367 : (Cond.code ⟨"CapUnitModel", "<init>", "()V"⟩ prog_3_method_1_code 2 none) ∈ wA := wA_mem (List.mem_append_right _ (List.mem_append_left _ (List.mem_of_getElem? (i := 127) rfl))) rfl
theorem q_368 : (Cond.methodLink "CapUnitModel" 1 ⟨"java/lang/Object", "<init>", "()V"⟩) ∈ wA := wA_mem (List.mem_append_right _ (List.mem_append_left _ (List.mem_of_getElem? (i := 128) rfl))) rfl
theorem q_369 : (Cond.constant "CapUnitModel" 30 (1000194 : Int32)) ∈ wA := wA_mem (List.mem_append_right _ (List.mem_append_left _ (List.mem_of_getElem? (i := 129) rfl))) rfl
theorem q_370 : (Cond.fieldLink "CapUnitModel" 7 "CapUnitModel" "tag" "[Z") ∈ wA := wA_mem (List.mem_append_right _ (List.mem_append_left _ (List.mem_of_getElem? (i := 130) rfl))) rfl
theorem q_371 : (Cond.fieldLink "CapUnitModel" 13 "CapUnitModel" "address" "[I") ∈ wA := wA_mem (List.mem_append_right _ (List.mem_append_left _ (List.mem_of_getElem? (i := 131) rfl))) rfl
theorem q_372 : (Cond.fieldLink "CapUnitModel" 17 "CapUnitModel" "meta" "[I") ∈ wA := wA_mem (List.mem_append_right _ (List.mem_append_left _ (List.mem_of_getElem? (i := 132) rfl))) rfl
theorem q_373 : (Cond.fieldLink "CapUnitModel" 20 "CapUnitModel" "rootBase" "[J") ∈ wA := wA_mem (List.mem_append_right _ (List.mem_append_left _ (List.mem_of_getElem? (i := 133) rfl))) rfl
theorem q_374 : (Cond.fieldLink "CapUnitModel" 24 "CapUnitModel" "rootTop" "[J") ∈ wA := wA_mem (List.mem_append_right _ (List.mem_append_left _ (List.mem_of_getElem? (i := 134) rfl))) rfl
theorem q_375 : (Cond.fieldLink "CapUnitModel" 27 "CapUnitModel" "rootPerms" "[I") ∈ wA := wA_mem (List.mem_append_right _ (List.mem_append_left _ (List.mem_of_getElem? (i := 135) rfl))) rfl
theorem q_376 : (Cond.fieldLink "CapUnitModel" 103 "CapUnitModel" "roots" "I") ∈ wA := wA_mem (List.mem_append_right _ (List.mem_append_left _ (List.mem_of_getElem? (i := 136) rfl))) rfl
theorem q_377 : (Cond.fieldLink "CapUnitModel" 31 "CapUnitModel" "thrown" "I") ∈ wA := wA_mem (List.mem_append_right _ (List.mem_append_left _ (List.mem_of_getElem? (i := 137) rfl))) rfl
theorem q_378 : (Cond.fieldLink "CapUnitModel" 81 "CapUnitModel" "packed" "I") ∈ wA := wA_mem (List.mem_append_right _ (List.mem_append_left _ (List.mem_of_getElem? (i := 138) rfl))) rfl
theorem q_379 : (Cond.fieldLink "CapUnitModel" 84 "CapUnitModel" "exact" "Z") ∈ wA := wA_mem (List.mem_append_right _ (List.mem_append_left _ (List.mem_of_getElem? (i := 139) rfl))) rfl
theorem q_380 : (Cond.fieldLink "CapUnitModel" 88 "CapUnitModel" "rounded" "J") ∈ wA := wA_mem (List.mem_append_right _ (List.mem_append_left _ (List.mem_of_getElem? (i := 140) rfl))) rfl
theorem q_381 : (Cond.laysFinal "CapUnitModel" "CapUnitModel" "tag" "[Z") ∈ wA := wA_mem (List.mem_append_right _ (List.mem_append_left _ (List.mem_of_getElem? (i := 141) rfl))) rfl
theorem q_382 : (Cond.soleField "CapUnitModel" "tag") ∈ wA := wA_mem (List.mem_append_right _ (List.mem_append_left _ (List.mem_of_getElem? (i := 142) rfl))) rfl
theorem q_383 : (Cond.laysFinal "CapUnitModel" "CapUnitModel" "address" "[I") ∈ wA := wA_mem (List.mem_append_right _ (List.mem_append_left _ (List.mem_of_getElem? (i := 143) rfl))) rfl
theorem q_384 : (Cond.soleField "CapUnitModel" "address") ∈ wA := wA_mem (List.mem_append_right _ (List.mem_append_left _ (List.mem_of_getElem? (i := 144) rfl))) rfl
theorem q_385 : (Cond.laysFinal "CapUnitModel" "CapUnitModel" "meta" "[I") ∈ wA := wA_mem (List.mem_append_right _ (List.mem_append_left _ (List.mem_of_getElem? (i := 145) rfl))) rfl
theorem q_386 : (Cond.soleField "CapUnitModel" "meta") ∈ wA := wA_mem (List.mem_append_right _ (List.mem_append_left _ (List.mem_of_getElem? (i := 146) rfl))) rfl
theorem q_387 : (Cond.laysFinal "CapUnitModel" "CapUnitModel" "rootBase" "[J") ∈ wA := wA_mem (List.mem_append_right _ (List.mem_append_left _ (List.mem_of_getElem? (i := 147) rfl))) rfl
theorem q_388 : (Cond.soleField "CapUnitModel" "rootBase") ∈ wA := wA_mem (List.mem_append_right _ (List.mem_append_left _ (List.mem_of_getElem? (i := 148) rfl))) rfl
theorem q_389 : (Cond.laysFinal "CapUnitModel" "CapUnitModel" "rootTop" "[J") ∈ wA := wA_mem (List.mem_append_right _ (List.mem_append_left _ (List.mem_of_getElem? (i := 149) rfl))) rfl
theorem q_390 : (Cond.soleField "CapUnitModel" "rootTop") ∈ wA := wA_mem (List.mem_append_right _ (List.mem_append_left _ (List.mem_of_getElem? (i := 150) rfl))) rfl
theorem q_391 : (Cond.laysFinal "CapUnitModel" "CapUnitModel" "rootPerms" "[I") ∈ wA := wA_mem (List.mem_append_right _ (List.mem_append_left _ (List.mem_of_getElem? (i := 151) rfl))) rfl
theorem q_392 : (Cond.soleField "CapUnitModel" "rootPerms") ∈ wA := wA_mem (List.mem_append_right _ (List.mem_append_left _ (List.mem_of_getElem? (i := 152) rfl))) rfl
theorem q_393 : (Cond.lays "CapUnitModel" "CapUnitModel" "roots" "I") ∈ wA := wA_mem (List.mem_append_right _ (List.mem_append_left _ (List.mem_of_getElem? (i := 153) rfl))) rfl
theorem q_394 : (Cond.soleField "CapUnitModel" "roots") ∈ wA := wA_mem (List.mem_append_right _ (List.mem_append_left _ (List.mem_of_getElem? (i := 154) rfl))) rfl
theorem q_395 : (Cond.lays "CapUnitModel" "CapUnitModel" "thrown" "I") ∈ wA := wA_mem (List.mem_append_right _ (List.mem_append_left _ (List.mem_of_getElem? (i := 155) rfl))) rfl
theorem q_396 : (Cond.soleField "CapUnitModel" "thrown") ∈ wA := wA_mem (List.mem_append_right _ (List.mem_append_left _ (List.mem_of_getElem? (i := 156) rfl))) rfl
theorem q_397 : (Cond.lays "CapUnitModel" "CapUnitModel" "packed" "I") ∈ wA := wA_mem (List.mem_append_right _ (List.mem_append_left _ (List.mem_of_getElem? (i := 157) rfl))) rfl
theorem q_398 : (Cond.soleField "CapUnitModel" "packed") ∈ wA := wA_mem (List.mem_append_right _ (List.mem_append_left _ (List.mem_of_getElem? (i := 158) rfl))) rfl
theorem q_399 : (Cond.lays "CapUnitModel" "CapUnitModel" "exact" "Z") ∈ wA := wA_mem (List.mem_append_right _ (List.mem_append_left _ (List.mem_of_getElem? (i := 159) rfl))) rfl
theorem q_400 : (Cond.soleField "CapUnitModel" "exact") ∈ wA := wA_mem (List.mem_append_right _ (List.mem_append_left _ (List.mem_of_getElem? (i := 160) rfl))) rfl
theorem q_401 : (Cond.lays "CapUnitModel" "CapUnitModel" "rounded" "J") ∈ wA := wA_mem (List.mem_append_right _ (List.mem_append_left _ (List.mem_of_getElem? (i := 161) rfl))) rfl
theorem q_402 : (Cond.soleField "CapUnitModel" "rounded") ∈ wA := wA_mem (List.mem_append_right _ (List.mem_append_left _ (List.mem_of_getElem? (i := 162) rfl))) rfl
theorem q_403 : (Cond.superclass "CapUnitModel" "java/lang/Object") ∈ wA := wA_mem (List.mem_append_right _ (List.mem_append_left _ (List.mem_of_getElem? (i := 163) rfl))) rfl
theorem q_404 : (Cond.methodLink "CapUnitLaw" 77 ⟨"CapUnitModel", "thrown", "()I"⟩) ∈ wA := wA_mem (List.mem_append_right _ (List.mem_append_left _ (List.mem_of_getElem? (i := 164) rfl))) rfl
theorem q_405 : (Cond.instanceMethod ⟨"CapUnitModel", "thrown", "()I"⟩) ∈ wA := wA_mem (List.mem_append_right _ (List.mem_append_left _ (List.mem_of_getElem? (i := 165) rfl))) rfl
theorem q_406 : (Cond.selects "CapUnitModel" ⟨"CapUnitModel", "thrown", "()I"⟩ ⟨"CapUnitModel", "thrown", "()I"⟩) ∈ wA := wA_mem (List.mem_append_right _ (List.mem_append_left _ (List.mem_of_getElem? (i := 166) rfl))) rfl
theorem q_407 : (Cond.code ⟨"CapUnitModel", "thrown", "()I"⟩ prog_3_method_2_code 1 (some .int)) ∈ wA := wA_mem (List.mem_append_right _ (List.mem_append_left _ (List.mem_of_getElem? (i := 167) rfl))) rfl
theorem q_408 : (Cond.methodLink "CapUnitLaw" 76 ⟨"CapUnitModel", "root", "(IIJI)I"⟩) ∈ wA := wA_mem (List.mem_append_right _ (List.mem_append_left _ (List.mem_of_getElem? (i := 168) rfl))) rfl
theorem q_409 : (Cond.instanceMethod ⟨"CapUnitModel", "root", "(IIJI)I"⟩) ∈ wA := wA_mem (List.mem_append_right _ (List.mem_append_left _ (List.mem_of_getElem? (i := 169) rfl))) rfl
theorem q_410 : (Cond.selects "CapUnitModel" ⟨"CapUnitModel", "root", "(IIJI)I"⟩ ⟨"CapUnitModel", "root", "(IIJI)I"⟩) ∈ wA := wA_mem (List.mem_append_right _ (List.mem_append_left _ (List.mem_of_getElem? (i := 170) rfl))) rfl
theorem q_411 : (Cond.code ⟨"CapUnitModel", "root", "(IIJI)I"⟩ prog_3_method_23_code 6 (some .int)) ∈ wA := wA_mem (List.mem_append_right _ (List.mem_append_left _ (List.mem_of_getElem? (i := 171) rfl))) rfl
theorem q_412 : (Cond.methodLink "CapUnitModel" 100 ⟨"CapUnitModel", "fail", "(I)I"⟩) ∈ wA := wA_mem (List.mem_append_right _ (List.mem_append_left _ (List.mem_of_getElem? (i := 172) rfl))) rfl
theorem q_414 : (Cond.instanceMethod ⟨"CapUnitModel", "fail", "(I)I"⟩) ∈ wA := wA_mem (List.mem_append_right _ (List.mem_append_left _ (List.mem_of_getElem? (i := 174) rfl))) rfl
theorem q_415 : (Cond.code ⟨"CapUnitModel", "fail", "(I)I"⟩ prog_3_method_3_code 2 (some .int)) ∈ wA := wA_mem (List.mem_append_right _ (List.mem_append_left _ (List.mem_of_getElem? (i := 175) rfl))) rfl
theorem q_416 : (Cond.constantLong "CapUnitModel" 72 (4294967296 : Int64)) ∈ wA := wA_mem (List.mem_append_right _ (List.mem_append_left _ (List.mem_of_getElem? (i := 176) rfl))) rfl
theorem q_417 : (Cond.methodLink "CapUnitModel" 52 ⟨"CapUnitModel", "low", "(I)J"⟩) ∈ wA := wA_mem (List.mem_append_right _ (List.mem_append_left _ (List.mem_of_getElem? (i := 177) rfl))) rfl
theorem q_418 : (Cond.static ⟨"CapUnitModel", "low", "(I)J"⟩) ∈ wA := wA_mem (List.mem_append_right _ (List.mem_append_left _ (List.mem_of_getElem? (i := 178) rfl))) rfl
theorem q_419 : (Cond.code ⟨"CapUnitModel", "low", "(I)J"⟩ prog_3_method_4_code 1 (some .long)) ∈ wA := wA_mem (List.mem_append_right _ (List.mem_append_left _ (List.mem_of_getElem? (i := 179) rfl))) rfl
theorem q_420 : (Cond.constantLong "CapUnitModel" 35 (4294967295 : Int64)) ∈ wA := wA_mem (List.mem_append_right _ (List.mem_append_left _ (List.mem_of_getElem? (i := 180) rfl))) rfl
theorem q_421 : (Cond.methodLink "CapUnitModel" 106 ⟨"CapUnitModel", "pack", "(JJ)V"⟩) ∈ wA := wA_mem (List.mem_append_right _ (List.mem_append_left _ (List.mem_of_getElem? (i := 181) rfl))) rfl
theorem q_423 : (Cond.instanceMethod ⟨"CapUnitModel", "pack", "(JJ)V"⟩) ∈ wA := wA_mem (List.mem_append_right _ (List.mem_append_left _ (List.mem_of_getElem? (i := 183) rfl))) rfl
theorem q_424 : (Cond.code ⟨"CapUnitModel", "pack", "(JJ)V"⟩ prog_3_method_17_code 16 none) ∈ wA := wA_mem (List.mem_append_right _ (List.mem_append_left _ (List.mem_of_getElem? (i := 184) rfl))) rfl
theorem q_425 : (Cond.constantLong "CapUnitModel" 77 (128 : Int64)) ∈ wA := wA_mem (List.mem_append_right _ (List.mem_append_left _ (List.mem_of_getElem? (i := 185) rfl))) rfl
theorem q_426 : (Cond.constantLong "CapUnitModel" 79 (63 : Int64)) ∈ wA := wA_mem (List.mem_append_right _ (List.mem_append_left _ (List.mem_of_getElem? (i := 186) rfl))) rfl
theorem q_427 : (Cond.constantLong "CapUnitModel" 92 (16 : Int64)) ∈ wA := wA_mem (List.mem_append_right _ (List.mem_append_left _ (List.mem_of_getElem? (i := 187) rfl))) rfl
theorem q_428 : (Cond.constant "CapUnitModel" 110 (983040 : Int32)) ∈ wA := wA_mem (List.mem_append_right _ (List.mem_append_left _ (List.mem_of_getElem? (i := 188) rfl))) rfl
theorem q_429 : (Cond.methodLink "CapUnitModel" 111 ⟨"CapUnitModel", "set", "(IZII)Z"⟩) ∈ wA := wA_mem (List.mem_append_right _ (List.mem_append_left _ (List.mem_of_getElem? (i := 189) rfl))) rfl
theorem q_431 : (Cond.instanceMethod ⟨"CapUnitModel", "set", "(IZII)Z"⟩) ∈ wA := wA_mem (List.mem_append_right _ (List.mem_append_left _ (List.mem_of_getElem? (i := 191) rfl))) rfl
theorem q_432 : (Cond.code ⟨"CapUnitModel", "set", "(IZII)Z"⟩ prog_3_method_19_code 5 (some .boolean)) ∈ wA := wA_mem (List.mem_append_right _ (List.mem_append_left _ (List.mem_of_getElem? (i := 192) rfl))) rfl
theorem q_433 : (Cond.methodLink "CapUnitModel" 69 ⟨"CapUnitModel", "base", "(II)J"⟩) ∈ wA := wA_mem (List.mem_append_right _ (List.mem_append_left _ (List.mem_of_getElem? (i := 193) rfl))) rfl
theorem q_434 : (Cond.static ⟨"CapUnitModel", "base", "(II)J"⟩) ∈ wA := wA_mem (List.mem_append_right _ (List.mem_append_left _ (List.mem_of_getElem? (i := 194) rfl))) rfl
theorem q_435 : (Cond.code ⟨"CapUnitModel", "base", "(II)J"⟩ prog_3_method_14_code 2 (some .long)) ∈ wA := wA_mem (List.mem_append_right _ (List.mem_append_left _ (List.mem_of_getElem? (i := 195) rfl))) rfl
theorem q_436 : (Cond.methodLink "CapUnitModel" 39 ⟨"CapUnitModel", "bottom", "(I)I"⟩) ∈ wA := wA_mem (List.mem_append_right _ (List.mem_append_left _ (List.mem_of_getElem? (i := 196) rfl))) rfl
theorem q_437 : (Cond.static ⟨"CapUnitModel", "bottom", "(I)I"⟩) ∈ wA := wA_mem (List.mem_append_right _ (List.mem_append_left _ (List.mem_of_getElem? (i := 197) rfl))) rfl
theorem q_438 : (Cond.code ⟨"CapUnitModel", "bottom", "(I)I"⟩ prog_3_method_10_code 1 (some .int)) ∈ wA := wA_mem (List.mem_append_right _ (List.mem_append_left _ (List.mem_of_getElem? (i := 198) rfl))) rfl
theorem q_439 : (Cond.methodLink "CapUnitModel" 49 ⟨"CapUnitModel", "scale", "(I)I"⟩) ∈ wA := wA_mem (List.mem_append_right _ (List.mem_append_left _ (List.mem_of_getElem? (i := 199) rfl))) rfl
theorem q_440 : (Cond.static ⟨"CapUnitModel", "scale", "(I)I"⟩) ∈ wA := wA_mem (List.mem_append_right _ (List.mem_append_left _ (List.mem_of_getElem? (i := 200) rfl))) rfl
theorem q_441 : (Cond.code ⟨"CapUnitModel", "scale", "(I)I"⟩ prog_3_method_9_code 2 (some .int)) ∈ wA := wA_mem (List.mem_append_right _ (List.mem_append_left _ (List.mem_of_getElem? (i := 201) rfl))) rfl
theorem q_442 : (Cond.methodLink "CapUnitModel" 56 ⟨"CapUnitModel", "window", "(II)J"⟩) ∈ wA := wA_mem (List.mem_append_right _ (List.mem_append_left _ (List.mem_of_getElem? (i := 202) rfl))) rfl
theorem q_443 : (Cond.static ⟨"CapUnitModel", "window", "(II)J"⟩) ∈ wA := wA_mem (List.mem_append_right _ (List.mem_append_left _ (List.mem_of_getElem? (i := 203) rfl))) rfl
theorem q_444 : (Cond.code ⟨"CapUnitModel", "window", "(II)J"⟩ prog_3_method_13_code 7 (some .long)) ∈ wA := wA_mem (List.mem_append_right _ (List.mem_append_left _ (List.mem_of_getElem? (i := 204) rfl))) rfl
theorem q_445 : (Cond.methodLink "CapUnitModel" 43 ⟨"java/lang/Math", "floorMod", "(JJ)J"⟩) ∈ wA := wA_mem (List.mem_append_right _ (List.mem_append_left _ (List.mem_of_getElem? (i := 205) rfl))) rfl
theorem q_446 : (Cond.static ⟨"java/lang/Math", "floorMod", "(JJ)J"⟩) ∈ wA := wA_mem (List.mem_append_right _ (List.mem_append_left _ (List.mem_of_getElem? (i := 206) rfl))) rfl
theorem q_447 : (Cond.code ⟨"java/lang/Math", "floorMod", "(JJ)J"⟩ prog_8_method_52_code 6 (some .long)) ∈ wA := wA_mem (List.mem_append_right _ (List.mem_append_left _ (List.mem_of_getElem? (i := 207) rfl))) rfl
theorem q_448 : (Cond.methodLink "CapUnitModel" 60 ⟨"CapUnitModel", "inWindow", "(IIJ)J"⟩) ∈ wA := wA_mem (List.mem_append_right _ (List.mem_append_left _ (List.mem_of_getElem? (i := 208) rfl))) rfl
theorem q_449 : (Cond.static ⟨"CapUnitModel", "inWindow", "(IIJ)J"⟩) ∈ wA := wA_mem (List.mem_append_right _ (List.mem_append_left _ (List.mem_of_getElem? (i := 209) rfl))) rfl
theorem q_450 : (Cond.code ⟨"CapUnitModel", "inWindow", "(IIJ)J"⟩ prog_3_method_12_code 8 (some .long)) ∈ wA := wA_mem (List.mem_append_right _ (List.mem_append_left _ (List.mem_of_getElem? (i := 210) rfl))) rfl
theorem q_451 : (Cond.methodLink "CapUnitModel" 74 ⟨"CapUnitModel", "top", "(II)J"⟩) ∈ wA := wA_mem (List.mem_append_right _ (List.mem_append_left _ (List.mem_of_getElem? (i := 211) rfl))) rfl
theorem q_452 : (Cond.static ⟨"CapUnitModel", "top", "(II)J"⟩) ∈ wA := wA_mem (List.mem_append_right _ (List.mem_append_left _ (List.mem_of_getElem? (i := 212) rfl))) rfl
theorem q_453 : (Cond.code ⟨"CapUnitModel", "top", "(II)J"⟩ prog_3_method_15_code 7 (some .long)) ∈ wA := wA_mem (List.mem_append_right _ (List.mem_append_left _ (List.mem_of_getElem? (i := 213) rfl))) rfl
theorem q_454 : (Cond.methodLink "CapUnitModel" 64 ⟨"CapUnitModel", "roof", "(I)I"⟩) ∈ wA := wA_mem (List.mem_append_right _ (List.mem_append_left _ (List.mem_of_getElem? (i := 214) rfl))) rfl
theorem q_455 : (Cond.static ⟨"CapUnitModel", "roof", "(I)I"⟩) ∈ wA := wA_mem (List.mem_append_right _ (List.mem_append_left _ (List.mem_of_getElem? (i := 215) rfl))) rfl
theorem q_456 : (Cond.code ⟨"CapUnitModel", "roof", "(I)I"⟩ prog_3_method_11_code 5 (some .int)) ∈ wA := wA_mem (List.mem_append_right _ (List.mem_append_left _ (List.mem_of_getElem? (i := 216) rfl))) rfl
theorem q_457 : (Cond.constantLong "CapUnitModel" 67 (8589934591 : Int64)) ∈ wA := wA_mem (List.mem_append_right _ (List.mem_append_left _ (List.mem_of_getElem? (i := 217) rfl))) rfl
theorem q_458 : (Cond.methodLink "CapUnitLaw" 84 ⟨"CapUnitModel", "put", "(III)V"⟩) ∈ wA := wA_mem (List.mem_append_right _ (List.mem_append_left _ (List.mem_of_getElem? (i := 218) rfl))) rfl
theorem q_459 : (Cond.instanceMethod ⟨"CapUnitModel", "put", "(III)V"⟩) ∈ wA := wA_mem (List.mem_append_right _ (List.mem_append_left _ (List.mem_of_getElem? (i := 219) rfl))) rfl
theorem q_460 : (Cond.selects "CapUnitModel" ⟨"CapUnitModel", "put", "(III)V"⟩ ⟨"CapUnitModel", "put", "(III)V"⟩) ∈ wA := wA_mem (List.mem_append_right _ (List.mem_append_left _ (List.mem_of_getElem? (i := 220) rfl))) rfl
theorem q_461 : (Cond.code ⟨"CapUnitModel", "put", "(III)V"⟩ prog_3_method_24_code 4 none) ∈ wA := wA_mem (List.mem_append_right _ (List.mem_append_left _ (List.mem_of_getElem? (i := 221) rfl))) rfl
theorem q_462 : (Cond.methodLink "CapUnitModel" 115 ⟨"CapUnitModel", "is", "([I)Z"⟩) ∈ wA := wA_mem (List.mem_append_right _ (List.mem_append_left _ (List.mem_of_getElem? (i := 222) rfl))) rfl
theorem q_464 : (Cond.instanceMethod ⟨"CapUnitModel", "is", "([I)Z"⟩) ∈ wA := wA_mem (List.mem_append_right _ (List.mem_append_left _ (List.mem_of_getElem? (i := 224) rfl))) rfl
theorem q_465 : (Cond.code ⟨"CapUnitModel", "is", "([I)Z"⟩ prog_3_method_18_code 6 (some .boolean)) ∈ wA := wA_mem (List.mem_append_right _ (List.mem_append_left _ (List.mem_of_getElem? (i := 225) rfl))) rfl
theorem q_466 : (Cond.methodLink "CapUnitLaw" 88 ⟨"CapUnitModel", "narrow", "(IIIZ)Z"⟩) ∈ wA := wA_mem (List.mem_append_right _ (List.mem_append_left _ (List.mem_of_getElem? (i := 226) rfl))) rfl
theorem q_467 : (Cond.instanceMethod ⟨"CapUnitModel", "narrow", "(IIIZ)Z"⟩) ∈ wA := wA_mem (List.mem_append_right _ (List.mem_append_left _ (List.mem_of_getElem? (i := 227) rfl))) rfl
theorem q_468 : (Cond.selects "CapUnitModel" ⟨"CapUnitModel", "narrow", "(IIIZ)Z"⟩ ⟨"CapUnitModel", "narrow", "(IIIZ)Z"⟩) ∈ wA := wA_mem (List.mem_append_right _ (List.mem_append_left _ (List.mem_of_getElem? (i := 228) rfl))) rfl
theorem q_469 : (Cond.code ⟨"CapUnitModel", "narrow", "(IIIZ)Z"⟩ prog_3_method_25_code 10 (some .boolean)) ∈ wA := wA_mem (List.mem_append_right _ (List.mem_append_left _ (List.mem_of_getElem? (i := 229) rfl))) rfl
theorem q_470 : (Cond.methodLink "CapUnitModel" 119 ⟨"CapUnitModel", "isOpen", "(I)Z"⟩) ∈ wA := wA_mem (List.mem_append_right _ (List.mem_append_left _ (List.mem_of_getElem? (i := 230) rfl))) rfl
theorem q_472 : (Cond.instanceMethod ⟨"CapUnitModel", "isOpen", "(I)Z"⟩) ∈ wA := wA_mem (List.mem_append_right _ (List.mem_append_left _ (List.mem_of_getElem? (i := 232) rfl))) rfl
theorem q_473 : (Cond.code ⟨"CapUnitModel", "isOpen", "(I)Z"⟩ prog_3_method_20_code 2 (some .boolean)) ∈ wA := wA_mem (List.mem_append_right _ (List.mem_append_left _ (List.mem_of_getElem? (i := 233) rfl))) rfl
theorem q_474 : (Cond.methodLink "CapUnitModel" 94 ⟨"CapUnitModel", "type", "(I)I"⟩) ∈ wA := wA_mem (List.mem_append_right _ (List.mem_append_left _ (List.mem_of_getElem? (i := 234) rfl))) rfl
theorem q_475 : (Cond.static ⟨"CapUnitModel", "type", "(I)I"⟩) ∈ wA := wA_mem (List.mem_append_right _ (List.mem_append_left _ (List.mem_of_getElem? (i := 235) rfl))) rfl
theorem q_476 : (Cond.code ⟨"CapUnitModel", "type", "(I)I"⟩ prog_3_method_6_code 1 (some .int)) ∈ wA := wA_mem (List.mem_append_right _ (List.mem_append_left _ (List.mem_of_getElem? (i := 236) rfl))) rfl
theorem q_477 : (Cond.methodLink "CapUnitLaw" 92 ⟨"CapUnitModel", "move", "(III)Z"⟩) ∈ wA := wA_mem (List.mem_append_right _ (List.mem_append_left _ (List.mem_of_getElem? (i := 237) rfl))) rfl
theorem q_478 : (Cond.instanceMethod ⟨"CapUnitModel", "move", "(III)Z"⟩) ∈ wA := wA_mem (List.mem_append_right _ (List.mem_append_left _ (List.mem_of_getElem? (i := 238) rfl))) rfl
theorem q_479 : (Cond.selects "CapUnitModel" ⟨"CapUnitModel", "move", "(III)Z"⟩ ⟨"CapUnitModel", "move", "(III)Z"⟩) ∈ wA := wA_mem (List.mem_append_right _ (List.mem_append_left _ (List.mem_of_getElem? (i := 239) rfl))) rfl
theorem q_480 : (Cond.code ⟨"CapUnitModel", "move", "(III)Z"⟩ prog_3_method_26_code 5 (some .boolean)) ∈ wA := wA_mem (List.mem_append_right _ (List.mem_append_right _ (List.mem_of_getElem? (i := 0) rfl))) rfl
theorem q_481 : (Cond.methodLink "CapUnitLaw" 95 ⟨"CapUnitModel", "keep", "(III)Z"⟩) ∈ wA := wA_mem (List.mem_append_right _ (List.mem_append_right _ (List.mem_of_getElem? (i := 1) rfl))) rfl
theorem q_482 : (Cond.instanceMethod ⟨"CapUnitModel", "keep", "(III)Z"⟩) ∈ wA := wA_mem (List.mem_append_right _ (List.mem_append_right _ (List.mem_of_getElem? (i := 2) rfl))) rfl
theorem q_483 : (Cond.selects "CapUnitModel" ⟨"CapUnitModel", "keep", "(III)Z"⟩ ⟨"CapUnitModel", "keep", "(III)Z"⟩) ∈ wA := wA_mem (List.mem_append_right _ (List.mem_append_right _ (List.mem_of_getElem? (i := 3) rfl))) rfl
theorem q_484 : (Cond.code ⟨"CapUnitModel", "keep", "(III)Z"⟩ prog_3_method_27_code 4 (some .boolean)) ∈ wA := wA_mem (List.mem_append_right _ (List.mem_append_right _ (List.mem_of_getElem? (i := 4) rfl))) rfl
theorem q_485 : (Cond.methodLink "CapUnitModel" 97 ⟨"CapUnitModel", "perms", "(I)I"⟩) ∈ wA := wA_mem (List.mem_append_right _ (List.mem_append_right _ (List.mem_of_getElem? (i := 5) rfl))) rfl
theorem q_486 : (Cond.static ⟨"CapUnitModel", "perms", "(I)I"⟩) ∈ wA := wA_mem (List.mem_append_right _ (List.mem_append_right _ (List.mem_of_getElem? (i := 6) rfl))) rfl
theorem q_487 : (Cond.code ⟨"CapUnitModel", "perms", "(I)I"⟩ prog_3_method_5_code 1 (some .int)) ∈ wA := wA_mem (List.mem_append_right _ (List.mem_append_right _ (List.mem_of_getElem? (i := 7) rfl))) rfl
theorem q_488 : (Cond.methodLink "CapUnitModel" 123 ⟨"CapUnitModel", "withPerms", "(II)I"⟩) ∈ wA := wA_mem (List.mem_append_right _ (List.mem_append_right _ (List.mem_of_getElem? (i := 8) rfl))) rfl
theorem q_489 : (Cond.static ⟨"CapUnitModel", "withPerms", "(II)I"⟩) ∈ wA := wA_mem (List.mem_append_right _ (List.mem_append_right _ (List.mem_of_getElem? (i := 9) rfl))) rfl
theorem q_490 : (Cond.code ⟨"CapUnitModel", "withPerms", "(II)I"⟩ prog_3_method_8_code 2 (some .int)) ∈ wA := wA_mem (List.mem_append_right _ (List.mem_append_right _ (List.mem_of_getElem? (i := 10) rfl))) rfl
theorem q_491 : (Cond.constant "CapUnitModel" 38 (1048575 : Int32)) ∈ wA := wA_mem (List.mem_append_right _ (List.mem_append_right _ (List.mem_of_getElem? (i := 11) rfl))) rfl
theorem q_492 : (Cond.methodLink "CapUnitLaw" 98 ⟨"CapUnitModel", "seal", "(III)Z"⟩) ∈ wA := wA_mem (List.mem_append_right _ (List.mem_append_right _ (List.mem_of_getElem? (i := 12) rfl))) rfl
theorem q_493 : (Cond.instanceMethod ⟨"CapUnitModel", "seal", "(III)Z"⟩) ∈ wA := wA_mem (List.mem_append_right _ (List.mem_append_right _ (List.mem_of_getElem? (i := 13) rfl))) rfl
theorem q_494 : (Cond.selects "CapUnitModel" ⟨"CapUnitModel", "seal", "(III)Z"⟩ ⟨"CapUnitModel", "seal", "(III)Z"⟩) ∈ wA := wA_mem (List.mem_append_right _ (List.mem_append_right _ (List.mem_of_getElem? (i := 14) rfl))) rfl
theorem q_495 : (Cond.code ⟨"CapUnitModel", "seal", "(III)Z"⟩ prog_3_method_28_code 5 (some .boolean)) ∈ wA := wA_mem (List.mem_append_right _ (List.mem_append_right _ (List.mem_of_getElem? (i := 15) rfl))) rfl
theorem q_496 : (Cond.methodLink "CapUnitModel" 127 ⟨"CapUnitModel", "has", "(II)Z"⟩) ∈ wA := wA_mem (List.mem_append_right _ (List.mem_append_right _ (List.mem_of_getElem? (i := 16) rfl))) rfl
theorem q_498 : (Cond.instanceMethod ⟨"CapUnitModel", "has", "(II)Z"⟩) ∈ wA := wA_mem (List.mem_append_right _ (List.mem_append_right _ (List.mem_of_getElem? (i := 18) rfl))) rfl
theorem q_499 : (Cond.code ⟨"CapUnitModel", "has", "(II)Z"⟩ prog_3_method_21_code 3 (some .boolean)) ∈ wA := wA_mem (List.mem_append_right _ (List.mem_append_right _ (List.mem_of_getElem? (i := 19) rfl))) rfl
theorem q_500 : (Cond.methodLink "CapUnitModel" 131 ⟨"CapUnitModel", "isIn", "(IIJI)Z"⟩) ∈ wA := wA_mem (List.mem_append_right _ (List.mem_append_right _ (List.mem_of_getElem? (i := 20) rfl))) rfl
theorem q_501 : (Cond.static ⟨"CapUnitModel", "isIn", "(IIJI)Z"⟩) ∈ wA := wA_mem (List.mem_append_right _ (List.mem_append_right _ (List.mem_of_getElem? (i := 21) rfl))) rfl
theorem q_502 : (Cond.code ⟨"CapUnitModel", "isIn", "(IIJI)Z"⟩ prog_3_method_16_code 5 (some .boolean)) ∈ wA := wA_mem (List.mem_append_right _ (List.mem_append_right _ (List.mem_of_getElem? (i := 22) rfl))) rfl
theorem q_503 : (Cond.constantLong "CapUnitModel" 135 (12 : Int64)) ∈ wA := wA_mem (List.mem_append_right _ (List.mem_append_right _ (List.mem_of_getElem? (i := 23) rfl))) rfl
theorem q_504 : (Cond.methodLink "CapUnitModel" 137 ⟨"CapUnitModel", "withType", "(II)I"⟩) ∈ wA := wA_mem (List.mem_append_right _ (List.mem_append_right _ (List.mem_of_getElem? (i := 24) rfl))) rfl
theorem q_505 : (Cond.static ⟨"CapUnitModel", "withType", "(II)I"⟩) ∈ wA := wA_mem (List.mem_append_right _ (List.mem_append_right _ (List.mem_of_getElem? (i := 25) rfl))) rfl
theorem q_506 : (Cond.code ⟨"CapUnitModel", "withType", "(II)I"⟩ prog_3_method_7_code 2 (some .int)) ∈ wA := wA_mem (List.mem_append_right _ (List.mem_append_right _ (List.mem_of_getElem? (i := 26) rfl))) rfl
theorem q_507 : (Cond.constant "CapUnitModel" 37 (-983041 : Int32)) ∈ wA := wA_mem (List.mem_append_right _ (List.mem_append_right _ (List.mem_of_getElem? (i := 27) rfl))) rfl
theorem q_508 : (Cond.methodLink "CapUnitLaw" 101 ⟨"CapUnitModel", "unseal", "(III)Z"⟩) ∈ wA := wA_mem (List.mem_append_right _ (List.mem_append_right _ (List.mem_of_getElem? (i := 28) rfl))) rfl
theorem q_509 : (Cond.instanceMethod ⟨"CapUnitModel", "unseal", "(III)Z"⟩) ∈ wA := wA_mem (List.mem_append_right _ (List.mem_append_right _ (List.mem_of_getElem? (i := 29) rfl))) rfl
theorem q_510 : (Cond.selects "CapUnitModel" ⟨"CapUnitModel", "unseal", "(III)Z"⟩ ⟨"CapUnitModel", "unseal", "(III)Z"⟩) ∈ wA := wA_mem (List.mem_append_right _ (List.mem_append_right _ (List.mem_of_getElem? (i := 30) rfl))) rfl
theorem q_511 : (Cond.code ⟨"CapUnitModel", "unseal", "(III)Z"⟩ prog_3_method_29_code 7 (some .boolean)) ∈ wA := wA_mem (List.mem_append_right _ (List.mem_append_right _ (List.mem_of_getElem? (i := 31) rfl))) rfl
theorem q_512 : (Cond.methodLink "CapUnitLaw" 105 ⟨"CapUnitModel", "gate", "(II)Z"⟩) ∈ wA := wA_mem (List.mem_append_right _ (List.mem_append_right _ (List.mem_of_getElem? (i := 32) rfl))) rfl
theorem q_513 : (Cond.instanceMethod ⟨"CapUnitModel", "gate", "(II)Z"⟩) ∈ wA := wA_mem (List.mem_append_right _ (List.mem_append_right _ (List.mem_of_getElem? (i := 33) rfl))) rfl
theorem q_514 : (Cond.selects "CapUnitModel" ⟨"CapUnitModel", "gate", "(II)Z"⟩ ⟨"CapUnitModel", "gate", "(II)Z"⟩) ∈ wA := wA_mem (List.mem_append_right _ (List.mem_append_right _ (List.mem_of_getElem? (i := 34) rfl))) rfl
theorem q_515 : (Cond.code ⟨"CapUnitModel", "gate", "(II)Z"⟩ prog_3_method_30_code 3 (some .boolean)) ∈ wA := wA_mem (List.mem_append_right _ (List.mem_append_right _ (List.mem_of_getElem? (i := 35) rfl))) rfl
theorem q_516 : (Cond.methodLink "CapUnitLaw" 108 ⟨"CapUnitModel", "build", "(III)Z"⟩) ∈ wA := wA_mem (List.mem_append_right _ (List.mem_append_right _ (List.mem_of_getElem? (i := 36) rfl))) rfl
theorem q_517 : (Cond.instanceMethod ⟨"CapUnitModel", "build", "(III)Z"⟩) ∈ wA := wA_mem (List.mem_append_right _ (List.mem_append_right _ (List.mem_of_getElem? (i := 37) rfl))) rfl
theorem q_518 : (Cond.selects "CapUnitModel" ⟨"CapUnitModel", "build", "(III)Z"⟩ ⟨"CapUnitModel", "build", "(III)Z"⟩) ∈ wA := wA_mem (List.mem_append_right _ (List.mem_append_right _ (List.mem_of_getElem? (i := 38) rfl))) rfl
theorem q_519 : (Cond.code ⟨"CapUnitModel", "build", "(III)Z"⟩ prog_3_method_31_code 6 (some .boolean)) ∈ wA := wA_mem (List.mem_append_right _ (List.mem_append_right _ (List.mem_of_getElem? (i := 39) rfl))) rfl
theorem q_520 : (Cond.methodLink "CapUnitModel" 140 ⟨"CapUnitModel", "isWithin", "(II)Z"⟩) ∈ wA := wA_mem (List.mem_append_right _ (List.mem_append_right _ (List.mem_of_getElem? (i := 40) rfl))) rfl
theorem q_522 : (Cond.instanceMethod ⟨"CapUnitModel", "isWithin", "(II)Z"⟩) ∈ wA := wA_mem (List.mem_append_right _ (List.mem_append_right _ (List.mem_of_getElem? (i := 42) rfl))) rfl
theorem q_523 : (Cond.code ⟨"CapUnitModel", "isWithin", "(II)Z"⟩ prog_3_method_22_code 3 (some .boolean)) ∈ wA := wA_mem (List.mem_append_right _ (List.mem_append_right _ (List.mem_of_getElem? (i := 43) rfl))) rfl
theorem q_524 : (Cond.methodLink "CapUnitLaw" 111 ⟨"CapUnitModel", "subset", "(II)Z"⟩) ∈ wA := wA_mem (List.mem_append_right _ (List.mem_append_right _ (List.mem_of_getElem? (i := 44) rfl))) rfl
theorem q_525 : (Cond.instanceMethod ⟨"CapUnitModel", "subset", "(II)Z"⟩) ∈ wA := wA_mem (List.mem_append_right _ (List.mem_append_right _ (List.mem_of_getElem? (i := 45) rfl))) rfl
theorem q_526 : (Cond.selects "CapUnitModel" ⟨"CapUnitModel", "subset", "(II)Z"⟩ ⟨"CapUnitModel", "subset", "(II)Z"⟩) ∈ wA := wA_mem (List.mem_append_right _ (List.mem_append_right _ (List.mem_of_getElem? (i := 46) rfl))) rfl
theorem q_527 : (Cond.code ⟨"CapUnitModel", "subset", "(II)Z"⟩ prog_3_method_32_code 3 (some .boolean)) ∈ wA := wA_mem (List.mem_append_right _ (List.mem_append_right _ (List.mem_of_getElem? (i := 47) rfl))) rfl
theorem q_528 : (Cond.methodLink "CapUnitLaw" 114 ⟨"CapUnitModel", "told", "(II)J"⟩) ∈ wA := wA_mem (List.mem_append_right _ (List.mem_append_right _ (List.mem_of_getElem? (i := 48) rfl))) rfl
theorem q_529 : (Cond.instanceMethod ⟨"CapUnitModel", "told", "(II)J"⟩) ∈ wA := wA_mem (List.mem_append_right _ (List.mem_append_right _ (List.mem_of_getElem? (i := 49) rfl))) rfl
theorem q_530 : (Cond.selects "CapUnitModel" ⟨"CapUnitModel", "told", "(II)J"⟩ ⟨"CapUnitModel", "told", "(II)J"⟩) ∈ wA := wA_mem (List.mem_append_right _ (List.mem_append_right _ (List.mem_of_getElem? (i := 50) rfl))) rfl
theorem q_531 : (Cond.code ⟨"CapUnitModel", "told", "(II)J"⟩ prog_3_method_33_code 5 (some .long)) ∈ wA := wA_mem (List.mem_append_right _ (List.mem_append_right _ (List.mem_of_getElem? (i := 51) rfl))) rfl
theorem q_532 : (Cond.methodLink "CapUnitLaw" 117 ⟨"CapUnitModel", "reaches", "(III)Z"⟩) ∈ wA := wA_mem (List.mem_append_right _ (List.mem_append_right _ (List.mem_of_getElem? (i := 52) rfl))) rfl
theorem q_533 : (Cond.instanceMethod ⟨"CapUnitModel", "reaches", "(III)Z"⟩) ∈ wA := wA_mem (List.mem_append_right _ (List.mem_append_right _ (List.mem_of_getElem? (i := 53) rfl))) rfl
theorem q_534 : (Cond.selects "CapUnitModel" ⟨"CapUnitModel", "reaches", "(III)Z"⟩ ⟨"CapUnitModel", "reaches", "(III)Z"⟩) ∈ wA := wA_mem (List.mem_append_right _ (List.mem_append_right _ (List.mem_of_getElem? (i := 54) rfl))) rfl
theorem q_535 : (Cond.code ⟨"CapUnitModel", "reaches", "(III)Z"⟩ prog_3_method_34_code 4 (some .boolean)) ∈ wA := wA_mem (List.mem_append_right _ (List.mem_append_right _ (List.mem_of_getElem? (i := 55) rfl))) rfl
theorem q_536 : (Cond.methodLink "CapUnitLaw" 121 ⟨"CapUnitModel", "pack", "(IJ)I"⟩) ∈ wA := wA_mem (List.mem_append_right _ (List.mem_append_right _ (List.mem_of_getElem? (i := 56) rfl))) rfl
theorem q_537 : (Cond.instanceMethod ⟨"CapUnitModel", "pack", "(IJ)I"⟩) ∈ wA := wA_mem (List.mem_append_right _ (List.mem_append_right _ (List.mem_of_getElem? (i := 57) rfl))) rfl
theorem q_538 : (Cond.selects "CapUnitModel" ⟨"CapUnitModel", "pack", "(IJ)I"⟩ ⟨"CapUnitModel", "pack", "(IJ)I"⟩) ∈ wA := wA_mem (List.mem_append_right _ (List.mem_append_right _ (List.mem_of_getElem? (i := 58) rfl))) rfl
theorem q_539 : (Cond.code ⟨"CapUnitModel", "pack", "(IJ)I"⟩ prog_3_method_35_code 4 (some .int)) ∈ wA := wA_mem (List.mem_append_right _ (List.mem_append_right _ (List.mem_of_getElem? (i := 59) rfl))) rfl
theorem q_540 : (Cond.constant "CapUnitModel" 143 (32768 : Int32)) ∈ wA := wA_mem (List.mem_append_right _ (List.mem_append_right _ (List.mem_of_getElem? (i := 60) rfl))) rfl
theorem q_541 : (Cond.methodLink "CapUnitLaw" 126 ⟨"CapUnitModel", "bound", "(IIZ)J"⟩) ∈ wA := wA_mem (List.mem_append_right _ (List.mem_append_right _ (List.mem_of_getElem? (i := 61) rfl))) rfl
theorem q_542 : (Cond.instanceMethod ⟨"CapUnitModel", "bound", "(IIZ)J"⟩) ∈ wA := wA_mem (List.mem_append_right _ (List.mem_append_right _ (List.mem_of_getElem? (i := 62) rfl))) rfl
theorem q_543 : (Cond.selects "CapUnitModel" ⟨"CapUnitModel", "bound", "(IIZ)J"⟩ ⟨"CapUnitModel", "bound", "(IIZ)J"⟩) ∈ wA := wA_mem (List.mem_append_right _ (List.mem_append_right _ (List.mem_of_getElem? (i := 63) rfl))) rfl
theorem q_544 : (Cond.code ⟨"CapUnitModel", "bound", "(IIZ)J"⟩ prog_3_method_36_code 4 (some .long)) ∈ wA := wA_mem (List.mem_append_right _ (List.mem_append_right _ (List.mem_of_getElem? (i := 64) rfl))) rfl
theorem q_545 : (Cond.methodLink "CapUnitLaw" 130 ⟨"CapUnitModel", "rounded", "(JZ)J"⟩) ∈ wA := wA_mem (List.mem_append_right _ (List.mem_append_right _ (List.mem_of_getElem? (i := 65) rfl))) rfl
theorem q_546 : (Cond.instanceMethod ⟨"CapUnitModel", "rounded", "(JZ)J"⟩) ∈ wA := wA_mem (List.mem_append_right _ (List.mem_append_right _ (List.mem_of_getElem? (i := 66) rfl))) rfl
theorem q_547 : (Cond.selects "CapUnitModel" ⟨"CapUnitModel", "rounded", "(JZ)J"⟩ ⟨"CapUnitModel", "rounded", "(JZ)J"⟩) ∈ wA := wA_mem (List.mem_append_right _ (List.mem_append_right _ (List.mem_of_getElem? (i := 67) rfl))) rfl
theorem q_548 : (Cond.code ⟨"CapUnitModel", "rounded", "(JZ)J"⟩ prog_3_method_37_code 4 (some .long)) ∈ wA := wA_mem (List.mem_append_right _ (List.mem_append_right _ (List.mem_of_getElem? (i := 68) rfl))) rfl
theorem q_549 : (Cond.methodLink "CapUnitModel" 144 ⟨"CapUnitModel", "pack", "(IJ)I"⟩) ∈ wA := wA_mem (List.mem_append_right _ (List.mem_append_right _ (List.mem_of_getElem? (i := 69) rfl))) rfl
theorem q_550 : (Cond.methodLink "CapUnitLaw" 134 ⟨"CapUnitModel", "grown", "()I"⟩) ∈ wA := wA_mem (List.mem_append_right _ (List.mem_append_right _ (List.mem_of_getElem? (i := 70) rfl))) rfl
theorem q_551 : (Cond.instanceMethod ⟨"CapUnitModel", "grown", "()I"⟩) ∈ wA := wA_mem (List.mem_append_right _ (List.mem_append_right _ (List.mem_of_getElem? (i := 71) rfl))) rfl
theorem q_552 : (Cond.selects "CapUnitModel" ⟨"CapUnitModel", "grown", "()I"⟩ ⟨"CapUnitModel", "grown", "()I"⟩) ∈ wA := wA_mem (List.mem_append_right _ (List.mem_append_right _ (List.mem_of_getElem? (i := 72) rfl))) rfl
theorem q_553 : (Cond.code ⟨"CapUnitModel", "grown", "()I"⟩ prog_3_method_38_code 5 (some .int)) ∈ wA := wA_mem (List.mem_append_right _ (List.mem_append_right _ (List.mem_of_getElem? (i := 73) rfl))) rfl
theorem q_554 : (Cond.constantLong "CapUnitLaw" 69 (4294967295 : Int64)) ∈ wA := wA_mem (List.mem_append_right _ (List.mem_append_right _ (List.mem_of_getElem? (i := 74) rfl))) rfl
theorem q_555 : (Cond.sameMethod "java/lang/Throwable" "java/lang/Throwable" "fillInStackTrace" "(I)Ljava/lang/Throwable;") ∈ wA := wA_mem (List.mem_append_right _ (List.mem_append_right _ (List.mem_of_getElem? (i := 75) rfl))) rfl
theorem sC_isFromRoot : Cond.selects "CapUnit" yC_isFromRoot yC_isFromRoot ∈ wA := wA_sel (y := yC_isFromRoot) (n := 7) (List.mem_append_left _ (List.mem_of_getElem? (i := 0) rfl)) rfl
theorem sC_isWithin : Cond.selects "CapUnit" yC_isWithin yC_isWithin ∈ wA := wA_sel (y := yC_isWithin) (n := 7) (List.mem_append_left _ (List.mem_of_getElem? (i := 1) rfl)) rfl
theorem sC_baseIn : Cond.selects "CapUnit" yC_baseIn yC_baseIn ∈ wA := wA_sel (y := yC_baseIn) (n := 7) (List.mem_append_left _ (List.mem_of_getElem? (i := 2) rfl)) rfl
theorem sC_topIn : Cond.selects "CapUnit" yC_topIn yC_topIn ∈ wA := wA_sel (y := yC_topIn) (n := 7) (List.mem_append_left _ (List.mem_of_getElem? (i := 3) rfl)) rfl
theorem sC_become : Cond.selects "CapUnit" yC_become yC_become ∈ wA := wA_sel (y := yC_become) (n := 7) (List.mem_append_left _ (List.mem_of_getElem? (i := 5) rfl)) rfl
theorem sC_isOpenWithTag : Cond.selects "CapUnit" yC_isOpenWithTag yC_isOpenWithTag ∈ wA := wA_sel (y := yC_isOpenWithTag) (n := 7) (List.mem_append_left _ (List.mem_of_getElem? (i := 6) rfl)) rfl
theorem sC_isInBounds : Cond.selects "CapUnit" yC_isInBounds yC_isInBounds ∈ wA := wA_sel (y := yC_isInBounds) (n := 7) (List.mem_append_left _ (List.mem_of_getElem? (i := 7) rfl)) rfl
theorem sC_isKey : Cond.selects "CapUnit" yC_isKey yC_isKey ∈ wA := wA_sel (y := yC_isKey) (n := 7) (List.mem_append_left _ (List.mem_of_getElem? (i := 8) rfl)) rfl
theorem sC_hasPerm : Cond.selects "CapUnit" yC_hasPerm yC_hasPerm ∈ wA := wA_sel (y := yC_hasPerm) (n := 7) (List.mem_append_left _ (List.mem_of_getElem? (i := 9) rfl)) rfl
theorem sM_fail : Cond.selects "CapUnitModel" yM_fail yM_fail ∈ wA := wA_sel (y := yM_fail) (n := 11) (List.mem_append_left _ (List.mem_of_getElem? (i := 10) rfl)) rfl
theorem sM_packJ : Cond.selects "CapUnitModel" yM_packJ yM_packJ ∈ wA := wA_sel (y := yM_packJ) (n := 11) (List.mem_append_left _ (List.mem_of_getElem? (i := 11) rfl)) rfl
theorem sM_set : Cond.selects "CapUnitModel" yM_set yM_set ∈ wA := wA_sel (y := yM_set) (n := 11) (List.mem_append_left _ (List.mem_of_getElem? (i := 12) rfl)) rfl
theorem sM_is : Cond.selects "CapUnitModel" yM_is yM_is ∈ wA := wA_sel (y := yM_is) (n := 11) (List.mem_append_left _ (List.mem_of_getElem? (i := 13) rfl)) rfl
theorem sM_isOpen : Cond.selects "CapUnitModel" yM_isOpen yM_isOpen ∈ wA := wA_sel (y := yM_isOpen) (n := 11) (List.mem_append_left _ (List.mem_of_getElem? (i := 14) rfl)) rfl
theorem sM_has : Cond.selects "CapUnitModel" yM_has yM_has ∈ wA := wA_sel (y := yM_has) (n := 11) (List.mem_append_left _ (List.mem_of_getElem? (i := 15) rfl)) rfl
theorem sM_isWithin : Cond.selects "CapUnitModel" yM_isWithin yM_isWithin ∈ wA := wA_sel (y := yM_isWithin) (n := 11) (List.mem_append_right _ (List.mem_of_getElem? (i := 0) rfl)) rfl
end
section
theorem dC_init_0 : decode cC_init 0 = .ok (.aload_n 0, 1) := by decide +kernel
theorem dC_init_1 : decode cC_init 1 = .ok (.invokespecial 3, 3) := by decide +kernel
theorem dC_init_4 : decode cC_init 4 = .ok (.aload_n 0, 1) := by decide +kernel
theorem dC_init_5 : decode cC_init 5 = .ok (.bipush 32, 2) := by decide +kernel
theorem dC_init_7 : decode cC_init 7 = .ok (.newarray .boolean, 2) := by decide +kernel
theorem dC_init_9 : decode cC_init 9 = .ok (.putfield 9, 3) := by decide +kernel
theorem dC_init_12 : decode cC_init 12 = .ok (.aload_n 0, 1) := by decide +kernel
theorem dC_init_13 : decode cC_init 13 = .ok (.bipush 32, 2) := by decide +kernel
theorem dC_init_15 : decode cC_init 15 = .ok (.newarray .int, 2) := by decide +kernel
theorem dC_init_17 : decode cC_init 17 = .ok (.putfield 13, 3) := by decide +kernel
theorem dC_init_20 : decode cC_init 20 = .ok (.aload_n 0, 1) := by decide +kernel
theorem dC_init_21 : decode cC_init 21 = .ok (.bipush 32, 2) := by decide +kernel
theorem dC_init_23 : decode cC_init 23 = .ok (.newarray .int, 2) := by decide +kernel
theorem dC_init_25 : decode cC_init 25 = .ok (.putfield 17, 3) := by decide +kernel
theorem dC_init_28 : decode cC_init 28 = .ok (.iconst 0, 1) := by decide +kernel
theorem dC_init_29 : decode cC_init 29 = .ok (.istore_n 1, 1) := by decide +kernel
theorem dC_init_30 : decode cC_init 30 = .ok (.iload_n 1, 1) := by decide +kernel
theorem dC_init_31 : decode cC_init 31 = .ok (.bipush 32, 2) := by decide +kernel
theorem dC_init_33 : decode cC_init 33 = .ok (.if_icmp .ge 17, 3) := by decide +kernel
theorem dC_init_36 : decode cC_init 36 = .ok (.aload_n 0, 1) := by decide +kernel
theorem dC_init_37 : decode cC_init 37 = .ok (.getfield 17, 3) := by decide +kernel
theorem dC_init_40 : decode cC_init 40 = .ok (.iload_n 1, 1) := by decide +kernel
theorem dC_init_41 : decode cC_init 41 = .ok (.ldc 20, 2) := by decide +kernel
theorem dC_init_43 : decode cC_init 43 = .ok (.iastore, 1) := by decide +kernel
theorem dC_init_44 : decode cC_init 44 = .ok (.iinc 1 1, 3) := by decide +kernel
theorem dC_init_47 : decode cC_init 47 = .ok (.goto (-17), 3) := by decide +kernel
theorem dC_init_50 : decode cC_init 50 = .ok (.aload_n 0, 1) := by decide +kernel
theorem dC_init_51 : decode cC_init 51 = .ok (.bipush 8, 2) := by decide +kernel
theorem dC_init_53 : decode cC_init 53 = .ok (.newarray .long, 2) := by decide +kernel
theorem dC_init_55 : decode cC_init 55 = .ok (.putfield 21, 3) := by decide +kernel
theorem dC_init_58 : decode cC_init 58 = .ok (.aload_n 0, 1) := by decide +kernel
theorem dC_init_59 : decode cC_init 59 = .ok (.bipush 8, 2) := by decide +kernel
theorem dC_init_61 : decode cC_init 61 = .ok (.newarray .long, 2) := by decide +kernel
theorem dC_init_63 : decode cC_init 63 = .ok (.putfield 25, 3) := by decide +kernel
theorem dC_init_66 : decode cC_init 66 = .ok (.aload_n 0, 1) := by decide +kernel
theorem dC_init_67 : decode cC_init 67 = .ok (.bipush 8, 2) := by decide +kernel
theorem dC_init_69 : decode cC_init 69 = .ok (.newarray .int, 2) := by decide +kernel
theorem dC_init_71 : decode cC_init 71 = .ok (.putfield 28, 3) := by decide +kernel
theorem dC_init_74 : decode cC_init 74 = .ok (.aload_n 0, 1) := by decide +kernel
theorem dC_init_75 : decode cC_init 75 = .ok (.iconst 0, 1) := by decide +kernel
theorem dC_init_76 : decode cC_init 76 = .ok (.putfield 31, 3) := by decide +kernel
theorem dC_init_79 : decode cC_init 79 = .ok (.return_, 1) := by decide +kernel
theorem dC_bound_0 : decode cC_bound 0 = .ok (.iload_n 3, 1) := by decide +kernel
theorem dC_bound_1 : decode cC_bound 1 = .ok (.ifCond .eq 11, 3) := by decide +kernel
theorem dC_bound_4 : decode cC_bound 4 = .ok (.iload_n 1, 1) := by decide +kernel
theorem dC_bound_5 : decode cC_bound 5 = .ok (.iload_n 2, 1) := by decide +kernel
theorem dC_bound_6 : decode cC_bound 6 = .ok (.invokestatic 101, 3) := by decide +kernel
theorem dC_bound_9 : decode cC_bound 9 = .ok (.goto 8, 3) := by decide +kernel
theorem dC_bound_12 : decode cC_bound 12 = .ok (.iload_n 1, 1) := by decide +kernel
theorem dC_bound_13 : decode cC_bound 13 = .ok (.iload_n 2, 1) := by decide +kernel
theorem dC_bound_14 : decode cC_bound 14 = .ok (.invokestatic 97, 3) := by decide +kernel
theorem dC_bound_17 : decode cC_bound 17 = .ok (.lreturn, 1) := by decide +kernel
theorem dC_topOf_0 : decode cC_topOf 0 = .ok (.iload_n 0, 1) := by decide +kernel
theorem dC_topOf_1 : decode cC_topOf 1 = .ok (.iload_n 1, 1) := by decide +kernel
theorem dC_topOf_2 : decode cC_topOf 2 = .ok (.iload_n 0, 1) := by decide +kernel
theorem dC_topOf_3 : decode cC_topOf 3 = .ok (.invokestatic 153, 3) := by decide +kernel
theorem dC_topOf_6 : decode cC_topOf 6 = .ok (.invokestatic 149, 3) := by decide +kernel
theorem dC_topOf_9 : decode cC_topOf 9 = .ok (.ldc2_w 156, 3) := by decide +kernel
theorem dC_topOf_12 : decode cC_topOf 12 = .ok (.land, 1) := by decide +kernel
theorem dC_topOf_13 : decode cC_topOf 13 = .ok (.lstore_n 2, 1) := by decide +kernel
theorem dC_topOf_14 : decode cC_topOf 14 = .ok (.iload_n 0, 1) := by decide +kernel
theorem dC_topOf_15 : decode cC_topOf 15 = .ok (.iload_n 1, 1) := by decide +kernel
theorem dC_topOf_16 : decode cC_topOf 16 = .ok (.iload_n 0, 1) := by decide +kernel
theorem dC_topOf_17 : decode cC_topOf 17 = .ok (.invokestatic 144, 3) := by decide +kernel
theorem dC_topOf_20 : decode cC_topOf 20 = .ok (.invokestatic 149, 3) := by decide +kernel
theorem dC_topOf_23 : decode cC_topOf 23 = .ok (.ldc2_w 147, 3) := by decide +kernel
theorem dC_topOf_26 : decode cC_topOf 26 = .ok (.land, 1) := by decide +kernel
theorem dC_topOf_27 : decode cC_topOf 27 = .ok (.lstore 4, 2) := by decide +kernel
theorem dC_topOf_29 : decode cC_topOf 29 = .ok (.lload_n 2, 1) := by decide +kernel
theorem dC_topOf_30 : decode cC_topOf 30 = .ok (.bipush 31, 2) := by decide +kernel
theorem dC_topOf_32 : decode cC_topOf 32 = .ok (.lshr, 1) := by decide +kernel
theorem dC_topOf_33 : decode cC_topOf 33 = .ok (.lload 4, 2) := by decide +kernel
theorem dC_topOf_35 : decode cC_topOf 35 = .ok (.bipush 31, 2) := by decide +kernel
theorem dC_topOf_37 : decode cC_topOf 37 = .ok (.lshr, 1) := by decide +kernel
theorem dC_topOf_38 : decode cC_topOf 38 = .ok (.lsub, 1) := by decide +kernel
theorem dC_topOf_39 : decode cC_topOf 39 = .ok (.lstore 6, 2) := by decide +kernel
theorem dC_topOf_41 : decode cC_topOf 41 = .ok (.iload_n 0, 1) := by decide +kernel
theorem dC_topOf_42 : decode cC_topOf 42 = .ok (.invokestatic 137, 3) := by decide +kernel
theorem dC_topOf_45 : decode cC_topOf 45 = .ok (.bipush 25, 2) := by decide +kernel
theorem dC_topOf_47 : decode cC_topOf 47 = .ok (.if_icmp .ge 20, 3) := by decide +kernel
theorem dC_topOf_50 : decode cC_topOf 50 = .ok (.lload 6, 2) := by decide +kernel
theorem dC_topOf_52 : decode cC_topOf 52 = .ok (.ldc2_w 158, 3) := by decide +kernel
theorem dC_topOf_55 : decode cC_topOf 55 = .ok (.land, 1) := by decide +kernel
theorem dC_topOf_56 : decode cC_topOf 56 = .ok (.lconst 1, 1) := by decide +kernel
theorem dC_topOf_57 : decode cC_topOf 57 = .ok (.lcmp, 1) := by decide +kernel
theorem dC_topOf_58 : decode cC_topOf 58 = .ok (.ifCond .le 9, 3) := by decide +kernel
theorem dC_topOf_61 : decode cC_topOf 61 = .ok (.lload_n 2, 1) := by decide +kernel
theorem dC_topOf_62 : decode cC_topOf 62 = .ok (.ldc2_w 81, 3) := by decide +kernel
theorem dC_topOf_65 : decode cC_topOf 65 = .ok (.lxor, 1) := by decide +kernel
theorem dC_topOf_66 : decode cC_topOf 66 = .ok (.lreturn, 1) := by decide +kernel
theorem dC_topOf_67 : decode cC_topOf 67 = .ok (.lload_n 2, 1) := by decide +kernel
theorem dC_topOf_68 : decode cC_topOf 68 = .ok (.lreturn, 1) := by decide +kernel
theorem dC_topMantissa_0 : decode cC_topMantissa 0 = .ok (.iload_n 0, 1) := by decide +kernel
theorem dC_topMantissa_1 : decode cC_topMantissa 1 = .ok (.invokestatic 144, 3) := by decide +kernel
theorem dC_topMantissa_4 : decode cC_topMantissa 4 = .ok (.istore_n 1, 1) := by decide +kernel
theorem dC_topMantissa_5 : decode cC_topMantissa 5 = .ok (.iload_n 0, 1) := by decide +kernel
theorem dC_topMantissa_6 : decode cC_topMantissa 6 = .ok (.bipush 8, 2) := by decide +kernel
theorem dC_topMantissa_8 : decode cC_topMantissa 8 = .ok (.ishr, 1) := by decide +kernel
theorem dC_topMantissa_9 : decode cC_topMantissa 9 = .ok (.bipush 63, 2) := by decide +kernel
theorem dC_topMantissa_11 : decode cC_topMantissa 11 = .ok (.iand, 1) := by decide +kernel
theorem dC_topMantissa_12 : decode cC_topMantissa 12 = .ok (.istore_n 2, 1) := by decide +kernel
theorem dC_topMantissa_13 : decode cC_topMantissa 13 = .ok (.iload_n 1, 1) := by decide +kernel
theorem dC_topMantissa_14 : decode cC_topMantissa 14 = .ok (.bipush 6, 2) := by decide +kernel
theorem dC_topMantissa_16 : decode cC_topMantissa 16 = .ok (.ishr, 1) := by decide +kernel
theorem dC_topMantissa_17 : decode cC_topMantissa 17 = .ok (.istore_n 3, 1) := by decide +kernel
theorem dC_topMantissa_18 : decode cC_topMantissa 18 = .ok (.iload_n 0, 1) := by decide +kernel
theorem dC_topMantissa_19 : decode cC_topMantissa 19 = .ok (.sipush 16384, 3) := by decide +kernel
theorem dC_topMantissa_22 : decode cC_topMantissa 22 = .ok (.iand, 1) := by decide +kernel
theorem dC_topMantissa_23 : decode cC_topMantissa 23 = .ok (.ifCond .eq 11, 3) := by decide +kernel
theorem dC_topMantissa_26 : decode cC_topMantissa 26 = .ok (.iload_n 2, 1) := by decide +kernel
theorem dC_topMantissa_27 : decode cC_topMantissa 27 = .ok (.bipush (-8), 2) := by decide +kernel
theorem dC_topMantissa_29 : decode cC_topMantissa 29 = .ok (.iand, 1) := by decide +kernel
theorem dC_topMantissa_30 : decode cC_topMantissa 30 = .ok (.istore_n 2, 1) := by decide +kernel
theorem dC_topMantissa_31 : decode cC_topMantissa 31 = .ok (.iinc 3 1, 3) := by decide +kernel
theorem dC_topMantissa_34 : decode cC_topMantissa 34 = .ok (.iload_n 2, 1) := by decide +kernel
theorem dC_topMantissa_35 : decode cC_topMantissa 35 = .ok (.iload_n 1, 1) := by decide +kernel
theorem dC_topMantissa_36 : decode cC_topMantissa 36 = .ok (.bipush 63, 2) := by decide +kernel
theorem dC_topMantissa_38 : decode cC_topMantissa 38 = .ok (.iand, 1) := by decide +kernel
theorem dC_topMantissa_39 : decode cC_topMantissa 39 = .ok (.if_icmp .ge 6, 3) := by decide +kernel
theorem dC_topMantissa_42 : decode cC_topMantissa 42 = .ok (.iinc 3 1, 3) := by decide +kernel
theorem dC_topMantissa_45 : decode cC_topMantissa 45 = .ok (.iload_n 3, 1) := by decide +kernel
theorem dC_topMantissa_46 : decode cC_topMantissa 46 = .ok (.iconst 3, 1) := by decide +kernel
theorem dC_topMantissa_47 : decode cC_topMantissa 47 = .ok (.iand, 1) := by decide +kernel
theorem dC_topMantissa_48 : decode cC_topMantissa 48 = .ok (.bipush 6, 2) := by decide +kernel
theorem dC_topMantissa_50 : decode cC_topMantissa 50 = .ok (.ishl, 1) := by decide +kernel
theorem dC_topMantissa_51 : decode cC_topMantissa 51 = .ok (.iload_n 2, 1) := by decide +kernel
theorem dC_topMantissa_52 : decode cC_topMantissa 52 = .ok (.ior, 1) := by decide +kernel
theorem dC_topMantissa_53 : decode cC_topMantissa 53 = .ok (.ireturn, 1) := by decide +kernel
theorem dC_baseMantissa_0 : decode cC_baseMantissa 0 = .ok (.iload_n 0, 1) := by decide +kernel
theorem dC_baseMantissa_1 : decode cC_baseMantissa 1 = .ok (.sipush 255, 3) := by decide +kernel
theorem dC_baseMantissa_4 : decode cC_baseMantissa 4 = .ok (.iand, 1) := by decide +kernel
theorem dC_baseMantissa_5 : decode cC_baseMantissa 5 = .ok (.istore_n 1, 1) := by decide +kernel
theorem dC_baseMantissa_6 : decode cC_baseMantissa 6 = .ok (.iload_n 0, 1) := by decide +kernel
theorem dC_baseMantissa_7 : decode cC_baseMantissa 7 = .ok (.sipush 16384, 3) := by decide +kernel
theorem dC_baseMantissa_10 : decode cC_baseMantissa 10 = .ok (.iand, 1) := by decide +kernel
theorem dC_baseMantissa_11 : decode cC_baseMantissa 11 = .ok (.ifCond .eq 10, 3) := by decide +kernel
theorem dC_baseMantissa_14 : decode cC_baseMantissa 14 = .ok (.iload_n 1, 1) := by decide +kernel
theorem dC_baseMantissa_15 : decode cC_baseMantissa 15 = .ok (.bipush (-8), 2) := by decide +kernel
theorem dC_baseMantissa_17 : decode cC_baseMantissa 17 = .ok (.iand, 1) := by decide +kernel
theorem dC_baseMantissa_18 : decode cC_baseMantissa 18 = .ok (.goto 4, 3) := by decide +kernel
theorem dC_baseMantissa_21 : decode cC_baseMantissa 21 = .ok (.iload_n 1, 1) := by decide +kernel
theorem dC_baseMantissa_22 : decode cC_baseMantissa 22 = .ok (.ireturn, 1) := by decide +kernel
theorem dC_placed_0 : decode cC_placed 0 = .ok (.iload_n 0, 1) := by decide +kernel
theorem dC_placed_1 : decode cC_placed 1 = .ok (.invokestatic 137, 3) := by decide +kernel
theorem dC_placed_4 : decode cC_placed 4 = .ok (.istore_n 3, 1) := by decide +kernel
theorem dC_placed_5 : decode cC_placed 5 = .ok (.iload_n 1, 1) := by decide +kernel
theorem dC_placed_6 : decode cC_placed 6 = .ok (.invokestatic 56, 3) := by decide +kernel
theorem dC_placed_9 : decode cC_placed 9 = .ok (.lstore 4, 2) := by decide +kernel
theorem dC_placed_11 : decode cC_placed 11 = .ok (.lload 4, 2) := by decide +kernel
theorem dC_placed_13 : decode cC_placed 13 = .ok (.iload_n 3, 1) := by decide +kernel
theorem dC_placed_14 : decode cC_placed 14 = .ok (.lshr, 1) := by decide +kernel
theorem dC_placed_15 : decode cC_placed 15 = .ok (.l2i, 1) := by decide +kernel
theorem dC_placed_16 : decode cC_placed 16 = .ok (.sipush 255, 3) := by decide +kernel
theorem dC_placed_19 : decode cC_placed 19 = .ok (.iand, 1) := by decide +kernel
theorem dC_placed_20 : decode cC_placed 20 = .ok (.istore 6, 2) := by decide +kernel
theorem dC_placed_22 : decode cC_placed 22 = .ok (.iload_n 0, 1) := by decide +kernel
theorem dC_placed_23 : decode cC_placed 23 = .ok (.invokestatic 144, 3) := by decide +kernel
theorem dC_placed_26 : decode cC_placed 26 = .ok (.iconst 5, 1) := by decide +kernel
theorem dC_placed_27 : decode cC_placed 27 = .ok (.ishr, 1) := by decide +kernel
theorem dC_placed_28 : decode cC_placed 28 = .ok (.iconst 1, 1) := by decide +kernel
theorem dC_placed_29 : decode cC_placed 29 = .ok (.isub, 1) := by decide +kernel
theorem dC_placed_30 : decode cC_placed 30 = .ok (.bipush 7, 2) := by decide +kernel
theorem dC_placed_32 : decode cC_placed 32 = .ok (.iand, 1) := by decide +kernel
theorem dC_placed_33 : decode cC_placed 33 = .ok (.istore 7, 2) := by decide +kernel
theorem dC_placed_35 : decode cC_placed 35 = .ok (.lload 4, 2) := by decide +kernel
theorem dC_placed_37 : decode cC_placed 37 = .ok (.iload_n 3, 1) := by decide +kernel
theorem dC_placed_38 : decode cC_placed 38 = .ok (.bipush 8, 2) := by decide +kernel
theorem dC_placed_40 : decode cC_placed 40 = .ok (.iadd, 1) := by decide +kernel
theorem dC_placed_41 : decode cC_placed 41 = .ok (.lshr, 1) := by decide +kernel
theorem dC_placed_42 : decode cC_placed 42 = .ok (.iload_n 2, 1) := by decide +kernel
theorem dC_placed_43 : decode cC_placed 43 = .ok (.iload 7, 2) := by decide +kernel
theorem dC_placed_45 : decode cC_placed 45 = .ok (.invokestatic 160, 3) := by decide +kernel
theorem dC_placed_48 : decode cC_placed 48 = .ok (.i2l, 1) := by decide +kernel
theorem dC_placed_49 : decode cC_placed 49 = .ok (.ladd, 1) := by decide +kernel
theorem dC_placed_50 : decode cC_placed 50 = .ok (.iload 6, 2) := by decide +kernel
theorem dC_placed_52 : decode cC_placed 52 = .ok (.iload 7, 2) := by decide +kernel
theorem dC_placed_54 : decode cC_placed 54 = .ok (.invokestatic 160, 3) := by decide +kernel
theorem dC_placed_57 : decode cC_placed 57 = .ok (.i2l, 1) := by decide +kernel
theorem dC_placed_58 : decode cC_placed 58 = .ok (.lsub, 1) := by decide +kernel
theorem dC_placed_59 : decode cC_placed 59 = .ok (.lstore 8, 2) := by decide +kernel
theorem dC_placed_61 : decode cC_placed 61 = .ok (.lload 8, 2) := by decide +kernel
theorem dC_placed_63 : decode cC_placed 63 = .ok (.iload_n 3, 1) := by decide +kernel
theorem dC_placed_64 : decode cC_placed 64 = .ok (.bipush 8, 2) := by decide +kernel
theorem dC_placed_66 : decode cC_placed 66 = .ok (.iadd, 1) := by decide +kernel
theorem dC_placed_67 : decode cC_placed 67 = .ok (.lshl, 1) := by decide +kernel
theorem dC_placed_68 : decode cC_placed 68 = .ok (.iload_n 2, 1) := by decide +kernel
theorem dC_placed_69 : decode cC_placed 69 = .ok (.i2l, 1) := by decide +kernel
theorem dC_placed_70 : decode cC_placed 70 = .ok (.iload_n 3, 1) := by decide +kernel
theorem dC_placed_71 : decode cC_placed 71 = .ok (.lshl, 1) := by decide +kernel
theorem dC_placed_72 : decode cC_placed 72 = .ok (.ladd, 1) := by decide +kernel
theorem dC_placed_73 : decode cC_placed 73 = .ok (.lreturn, 1) := by decide +kernel
theorem dC_exponentOf_0 : decode cC_exponentOf 0 = .ok (.iload_n 0, 1) := by decide +kernel
theorem dC_exponentOf_1 : decode cC_exponentOf 1 = .ok (.sipush 16384, 3) := by decide +kernel
theorem dC_exponentOf_4 : decode cC_exponentOf 4 = .ok (.iand, 1) := by decide +kernel
theorem dC_exponentOf_5 : decode cC_exponentOf 5 = .ok (.ifCond .ne 5, 3) := by decide +kernel
theorem dC_exponentOf_8 : decode cC_exponentOf 8 = .ok (.iconst 0, 1) := by decide +kernel
theorem dC_exponentOf_9 : decode cC_exponentOf 9 = .ok (.ireturn, 1) := by decide +kernel
theorem dC_exponentOf_10 : decode cC_exponentOf 10 = .ok (.iload_n 0, 1) := by decide +kernel
theorem dC_exponentOf_11 : decode cC_exponentOf 11 = .ok (.bipush 8, 2) := by decide +kernel
theorem dC_exponentOf_13 : decode cC_exponentOf 13 = .ok (.ishr, 1) := by decide +kernel
theorem dC_exponentOf_14 : decode cC_exponentOf 14 = .ok (.bipush 7, 2) := by decide +kernel
theorem dC_exponentOf_16 : decode cC_exponentOf 16 = .ok (.iand, 1) := by decide +kernel
theorem dC_exponentOf_17 : decode cC_exponentOf 17 = .ok (.iconst 3, 1) := by decide +kernel
theorem dC_exponentOf_18 : decode cC_exponentOf 18 = .ok (.ishl, 1) := by decide +kernel
theorem dC_exponentOf_19 : decode cC_exponentOf 19 = .ok (.iload_n 0, 1) := by decide +kernel
theorem dC_exponentOf_20 : decode cC_exponentOf 20 = .ok (.bipush 7, 2) := by decide +kernel
theorem dC_exponentOf_22 : decode cC_exponentOf 22 = .ok (.iand, 1) := by decide +kernel
theorem dC_exponentOf_23 : decode cC_exponentOf 23 = .ok (.iadd, 1) := by decide +kernel
theorem dC_exponentOf_24 : decode cC_exponentOf 24 = .ok (.istore_n 1, 1) := by decide +kernel
theorem dC_exponentOf_25 : decode cC_exponentOf 25 = .ok (.iload_n 1, 1) := by decide +kernel
theorem dC_exponentOf_26 : decode cC_exponentOf 26 = .ok (.bipush 26, 2) := by decide +kernel
theorem dC_exponentOf_28 : decode cC_exponentOf 28 = .ok (.if_icmp .ge 7, 3) := by decide +kernel
theorem dC_exponentOf_31 : decode cC_exponentOf 31 = .ok (.iload_n 1, 1) := by decide +kernel
theorem dC_exponentOf_32 : decode cC_exponentOf 32 = .ok (.goto 5, 3) := by decide +kernel
theorem dC_exponentOf_35 : decode cC_exponentOf 35 = .ok (.bipush 26, 2) := by decide +kernel
theorem dC_exponentOf_37 : decode cC_exponentOf 37 = .ok (.ireturn, 1) := by decide +kernel
theorem dC_unsigned_0 : decode cC_unsigned 0 = .ok (.iload_n 0, 1) := by decide +kernel
theorem dC_unsigned_1 : decode cC_unsigned 1 = .ok (.i2l, 1) := by decide +kernel
theorem dC_unsigned_2 : decode cC_unsigned 2 = .ok (.ldc2_w 147, 3) := by decide +kernel
theorem dC_unsigned_5 : decode cC_unsigned 5 = .ok (.land, 1) := by decide +kernel
theorem dC_unsigned_6 : decode cC_unsigned 6 = .ok (.lreturn, 1) := by decide +kernel
theorem dC_below_0 : decode cC_below 0 = .ok (.iload_n 0, 1) := by decide +kernel
theorem dC_below_1 : decode cC_below 1 = .ok (.iconst 5, 1) := by decide +kernel
theorem dC_below_2 : decode cC_below 2 = .ok (.ishr, 1) := by decide +kernel
theorem dC_below_3 : decode cC_below 3 = .ok (.iload_n 1, 1) := by decide +kernel
theorem dC_below_4 : decode cC_below 4 = .ok (.if_icmp .ge 7, 3) := by decide +kernel
theorem dC_below_7 : decode cC_below 7 = .ok (.iconst 1, 1) := by decide +kernel
theorem dC_below_8 : decode cC_below 8 = .ok (.goto 4, 3) := by decide +kernel
theorem dC_below_11 : decode cC_below 11 = .ok (.iconst 0, 1) := by decide +kernel
theorem dC_below_12 : decode cC_below 12 = .ok (.ireturn, 1) := by decide +kernel
theorem dC_baseOf_0 : decode cC_baseOf 0 = .ok (.iload_n 0, 1) := by decide +kernel
theorem dC_baseOf_1 : decode cC_baseOf 1 = .ok (.iload_n 1, 1) := by decide +kernel
theorem dC_baseOf_2 : decode cC_baseOf 2 = .ok (.iload_n 0, 1) := by decide +kernel
theorem dC_baseOf_3 : decode cC_baseOf 3 = .ok (.invokestatic 144, 3) := by decide +kernel
theorem dC_baseOf_6 : decode cC_baseOf 6 = .ok (.invokestatic 149, 3) := by decide +kernel
theorem dC_baseOf_9 : decode cC_baseOf 9 = .ok (.ldc2_w 147, 3) := by decide +kernel
theorem dC_baseOf_12 : decode cC_baseOf 12 = .ok (.land, 1) := by decide +kernel
theorem dC_baseOf_13 : decode cC_baseOf 13 = .ok (.lreturn, 1) := by decide +kernel
theorem dC_grown_0 : decode cC_grown 0 = .ok (.iconst 0, 1) := by decide +kernel
theorem dC_grown_1 : decode cC_grown 1 = .ok (.istore_n 1, 1) := by decide +kernel
theorem dC_grown_2 : decode cC_grown 2 = .ok (.iconst 0, 1) := by decide +kernel
theorem dC_grown_3 : decode cC_grown 3 = .ok (.istore_n 2, 1) := by decide +kernel
theorem dC_grown_4 : decode cC_grown 4 = .ok (.iload_n 2, 1) := by decide +kernel
theorem dC_grown_5 : decode cC_grown 5 = .ok (.bipush 32, 2) := by decide +kernel
theorem dC_grown_7 : decode cC_grown 7 = .ok (.if_icmp .ge 29, 3) := by decide +kernel
theorem dC_grown_10 : decode cC_grown 10 = .ok (.aload_n 0, 1) := by decide +kernel
theorem dC_grown_11 : decode cC_grown 11 = .ok (.getfield 9, 3) := by decide +kernel
theorem dC_grown_14 : decode cC_grown 14 = .ok (.iload_n 2, 1) := by decide +kernel
theorem dC_grown_15 : decode cC_grown 15 = .ok (.baload, 1) := by decide +kernel
theorem dC_grown_16 : decode cC_grown 16 = .ok (.ifCond .eq 14, 3) := by decide +kernel
theorem dC_grown_19 : decode cC_grown 19 = .ok (.aload_n 0, 1) := by decide +kernel
theorem dC_grown_20 : decode cC_grown 20 = .ok (.iload_n 2, 1) := by decide +kernel
theorem dC_grown_21 : decode cC_grown 21 = .ok (.invokevirtual 140, 3) := by decide +kernel
theorem dC_grown_24 : decode cC_grown 24 = .ok (.ifCond .ne 6, 3) := by decide +kernel
theorem dC_grown_27 : decode cC_grown 27 = .ok (.iinc 1 1, 3) := by decide +kernel
theorem dC_grown_30 : decode cC_grown 30 = .ok (.iinc 2 1, 3) := by decide +kernel
theorem dC_grown_33 : decode cC_grown 33 = .ok (.goto (-29), 3) := by decide +kernel
theorem dC_grown_36 : decode cC_grown 36 = .ok (.iload_n 1, 1) := by decide +kernel
theorem dC_grown_37 : decode cC_grown 37 = .ok (.ireturn, 1) := by decide +kernel
theorem dC_isFromRoot_0 : decode cC_isFromRoot 0 = .ok (.iconst 0, 1) := by decide +kernel
theorem dC_isFromRoot_1 : decode cC_isFromRoot 1 = .ok (.istore_n 2, 1) := by decide +kernel
theorem dC_isFromRoot_2 : decode cC_isFromRoot 2 = .ok (.iload_n 2, 1) := by decide +kernel
theorem dC_isFromRoot_3 : decode cC_isFromRoot 3 = .ok (.aload_n 0, 1) := by decide +kernel
theorem dC_isFromRoot_4 : decode cC_isFromRoot 4 = .ok (.getfield 31, 3) := by decide +kernel
theorem dC_isFromRoot_7 : decode cC_isFromRoot 7 = .ok (.if_icmp .ge 37, 3) := by decide +kernel
theorem dC_isFromRoot_10 : decode cC_isFromRoot 10 = .ok (.aload_n 0, 1) := by decide +kernel
theorem dC_isFromRoot_11 : decode cC_isFromRoot 11 = .ok (.iload_n 1, 1) := by decide +kernel
theorem dC_isFromRoot_12 : decode cC_isFromRoot 12 = .ok (.aload_n 0, 1) := by decide +kernel
theorem dC_isFromRoot_13 : decode cC_isFromRoot 13 = .ok (.getfield 21, 3) := by decide +kernel
theorem dC_isFromRoot_16 : decode cC_isFromRoot 16 = .ok (.iload_n 2, 1) := by decide +kernel
theorem dC_isFromRoot_17 : decode cC_isFromRoot 17 = .ok (.laload, 1) := by decide +kernel
theorem dC_isFromRoot_18 : decode cC_isFromRoot 18 = .ok (.aload_n 0, 1) := by decide +kernel
theorem dC_isFromRoot_19 : decode cC_isFromRoot 19 = .ok (.getfield 25, 3) := by decide +kernel
theorem dC_isFromRoot_22 : decode cC_isFromRoot 22 = .ok (.iload_n 2, 1) := by decide +kernel
theorem dC_isFromRoot_23 : decode cC_isFromRoot 23 = .ok (.laload, 1) := by decide +kernel
theorem dC_isFromRoot_24 : decode cC_isFromRoot 24 = .ok (.aload_n 0, 1) := by decide +kernel
theorem dC_isFromRoot_25 : decode cC_isFromRoot 25 = .ok (.getfield 28, 3) := by decide +kernel
theorem dC_isFromRoot_28 : decode cC_isFromRoot 28 = .ok (.iload_n 2, 1) := by decide +kernel
theorem dC_isFromRoot_29 : decode cC_isFromRoot 29 = .ok (.iaload, 1) := by decide +kernel
theorem dC_isFromRoot_30 : decode cC_isFromRoot 30 = .ok (.invokevirtual 125, 3) := by decide +kernel
theorem dC_isFromRoot_33 : decode cC_isFromRoot 33 = .ok (.ifCond .eq 5, 3) := by decide +kernel
theorem dC_isFromRoot_36 : decode cC_isFromRoot 36 = .ok (.iconst 1, 1) := by decide +kernel
theorem dC_isFromRoot_37 : decode cC_isFromRoot 37 = .ok (.ireturn, 1) := by decide +kernel
theorem dC_isFromRoot_38 : decode cC_isFromRoot 38 = .ok (.iinc 2 1, 3) := by decide +kernel
theorem dC_isFromRoot_41 : decode cC_isFromRoot 41 = .ok (.goto (-39), 3) := by decide +kernel
theorem dC_isFromRoot_44 : decode cC_isFromRoot 44 = .ok (.iconst 0, 1) := by decide +kernel
theorem dC_isFromRoot_45 : decode cC_isFromRoot 45 = .ok (.ireturn, 1) := by decide +kernel
theorem dC_isWithin_0 : decode cC_isWithin 0 = .ok (.aload_n 0, 1) := by decide +kernel
theorem dC_isWithin_1 : decode cC_isWithin 1 = .ok (.iload_n 1, 1) := by decide +kernel
theorem dC_isWithin_2 : decode cC_isWithin 2 = .ok (.invokevirtual 69, 3) := by decide +kernel
theorem dC_isWithin_5 : decode cC_isWithin 5 = .ok (.lload_n 2, 1) := by decide +kernel
theorem dC_isWithin_6 : decode cC_isWithin 6 = .ok (.lcmp, 1) := by decide +kernel
theorem dC_isWithin_7 : decode cC_isWithin 7 = .ok (.ifCond .lt 35, 3) := by decide +kernel
theorem dC_isWithin_10 : decode cC_isWithin 10 = .ok (.aload_n 0, 1) := by decide +kernel
theorem dC_isWithin_11 : decode cC_isWithin 11 = .ok (.iload_n 1, 1) := by decide +kernel
theorem dC_isWithin_12 : decode cC_isWithin 12 = .ok (.invokevirtual 72, 3) := by decide +kernel
theorem dC_isWithin_15 : decode cC_isWithin 15 = .ok (.lload 4, 2) := by decide +kernel
theorem dC_isWithin_17 : decode cC_isWithin 17 = .ok (.lcmp, 1) := by decide +kernel
theorem dC_isWithin_18 : decode cC_isWithin 18 = .ok (.ifCond .gt 24, 3) := by decide +kernel
theorem dC_isWithin_21 : decode cC_isWithin 21 = .ok (.aload_n 0, 1) := by decide +kernel
theorem dC_isWithin_22 : decode cC_isWithin 22 = .ok (.getfield 17, 3) := by decide +kernel
theorem dC_isWithin_25 : decode cC_isWithin 25 = .ok (.iload_n 1, 1) := by decide +kernel
theorem dC_isWithin_26 : decode cC_isWithin 26 = .ok (.iaload, 1) := by decide +kernel
theorem dC_isWithin_27 : decode cC_isWithin 27 = .ok (.invokestatic 122, 3) := by decide +kernel
theorem dC_isWithin_30 : decode cC_isWithin 30 = .ok (.iload 6, 2) := by decide +kernel
theorem dC_isWithin_32 : decode cC_isWithin 32 = .ok (.iconst (-1), 1) := by decide +kernel
theorem dC_isWithin_33 : decode cC_isWithin 33 = .ok (.ixor, 1) := by decide +kernel
theorem dC_isWithin_34 : decode cC_isWithin 34 = .ok (.iand, 1) := by decide +kernel
theorem dC_isWithin_35 : decode cC_isWithin 35 = .ok (.ifCond .ne 7, 3) := by decide +kernel
theorem dC_isWithin_38 : decode cC_isWithin 38 = .ok (.iconst 1, 1) := by decide +kernel
theorem dC_isWithin_39 : decode cC_isWithin 39 = .ok (.goto 4, 3) := by decide +kernel
theorem dC_isWithin_42 : decode cC_isWithin 42 = .ok (.iconst 0, 1) := by decide +kernel
theorem dC_isWithin_43 : decode cC_isWithin 43 = .ok (.ireturn, 1) := by decide +kernel
theorem dC_baseIn_0 : decode cC_baseIn 0 = .ok (.aload_n 0, 1) := by decide +kernel
theorem dC_baseIn_1 : decode cC_baseIn 1 = .ok (.getfield 17, 3) := by decide +kernel
theorem dC_baseIn_4 : decode cC_baseIn 4 = .ok (.iload_n 1, 1) := by decide +kernel
theorem dC_baseIn_5 : decode cC_baseIn 5 = .ok (.iaload, 1) := by decide +kernel
theorem dC_baseIn_6 : decode cC_baseIn 6 = .ok (.aload_n 0, 1) := by decide +kernel
theorem dC_baseIn_7 : decode cC_baseIn 7 = .ok (.getfield 13, 3) := by decide +kernel
theorem dC_baseIn_10 : decode cC_baseIn 10 = .ok (.iload_n 1, 1) := by decide +kernel
theorem dC_baseIn_11 : decode cC_baseIn 11 = .ok (.iaload, 1) := by decide +kernel
theorem dC_baseIn_12 : decode cC_baseIn 12 = .ok (.invokestatic 97, 3) := by decide +kernel
theorem dC_baseIn_15 : decode cC_baseIn 15 = .ok (.lreturn, 1) := by decide +kernel
theorem dC_topIn_0 : decode cC_topIn 0 = .ok (.aload_n 0, 1) := by decide +kernel
theorem dC_topIn_1 : decode cC_topIn 1 = .ok (.getfield 17, 3) := by decide +kernel
theorem dC_topIn_4 : decode cC_topIn 4 = .ok (.iload_n 1, 1) := by decide +kernel
theorem dC_topIn_5 : decode cC_topIn 5 = .ok (.iaload, 1) := by decide +kernel
theorem dC_topIn_6 : decode cC_topIn 6 = .ok (.aload_n 0, 1) := by decide +kernel
theorem dC_topIn_7 : decode cC_topIn 7 = .ok (.getfield 13, 3) := by decide +kernel
theorem dC_topIn_10 : decode cC_topIn 10 = .ok (.iload_n 1, 1) := by decide +kernel
theorem dC_topIn_11 : decode cC_topIn 11 = .ok (.iaload, 1) := by decide +kernel
theorem dC_topIn_12 : decode cC_topIn 12 = .ok (.invokestatic 101, 3) := by decide +kernel
theorem dC_topIn_15 : decode cC_topIn 15 = .ok (.lreturn, 1) := by decide +kernel
theorem dC_permsOf_0 : decode cC_permsOf 0 = .ok (.iload_n 0, 1) := by decide +kernel
theorem dC_permsOf_1 : decode cC_permsOf 1 = .ok (.bipush 20, 2) := by decide +kernel
theorem dC_permsOf_3 : decode cC_permsOf 3 = .ok (.iushr, 1) := by decide +kernel
theorem dC_permsOf_4 : decode cC_permsOf 4 = .ok (.ireturn, 1) := by decide +kernel
theorem dC_root_0 : decode cC_root 0 = .ok (.iload_n 1, 1) := by decide +kernel
theorem dC_root_1 : decode cC_root 1 = .ok (.iconst 1, 1) := by decide +kernel
theorem dC_root_2 : decode cC_root 2 = .ok (.if_icmp .lt 9, 3) := by decide +kernel
theorem dC_root_5 : decode cC_root 5 = .ok (.iload_n 1, 1) := by decide +kernel
theorem dC_root_6 : decode cC_root 6 = .ok (.bipush 32, 2) := by decide +kernel
theorem dC_root_8 : decode cC_root 8 = .ok (.if_icmp .lt 13, 3) := by decide +kernel
theorem dC_root_11 : decode cC_root 11 = .ok (.new 35, 3) := by decide +kernel
theorem dC_root_14 : decode cC_root 14 = .ok (.dup, 1) := by decide +kernel
theorem dC_root_15 : decode cC_root 15 = .ok (.ldc 37, 2) := by decide +kernel
theorem dC_root_17 : decode cC_root 17 = .ok (.invokespecial 39, 3) := by decide +kernel
theorem dC_root_20 : decode cC_root 20 = .ok (.athrow, 1) := by decide +kernel
theorem dC_root_21 : decode cC_root 21 = .ok (.iload_n 2, 1) := by decide +kernel
theorem dC_root_22 : decode cC_root 22 = .ok (.lload_n 3, 1) := by decide +kernel
theorem dC_root_23 : decode cC_root 23 = .ok (.invokestatic 42, 3) := by decide +kernel
theorem dC_root_26 : decode cC_root 26 = .ok (.ifCond .eq 16, 3) := by decide +kernel
theorem dC_root_29 : decode cC_root 29 = .ok (.iload 5, 2) := by decide +kernel
theorem dC_root_31 : decode cC_root 31 = .ok (.ifCond .lt 11, 3) := by decide +kernel
theorem dC_root_34 : decode cC_root 34 = .ok (.iload 5, 2) := by decide +kernel
theorem dC_root_36 : decode cC_root 36 = .ok (.sipush 4095, 3) := by decide +kernel
theorem dC_root_39 : decode cC_root 39 = .ok (.if_icmp .le 13, 3) := by decide +kernel
theorem dC_root_42 : decode cC_root 42 = .ok (.new 46, 3) := by decide +kernel
theorem dC_root_45 : decode cC_root 45 = .ok (.dup, 1) := by decide +kernel
theorem dC_root_46 : decode cC_root 46 = .ok (.ldc 48, 2) := by decide +kernel
theorem dC_root_48 : decode cC_root 48 = .ok (.invokespecial 50, 3) := by decide +kernel
theorem dC_root_51 : decode cC_root 51 = .ok (.athrow, 1) := by decide +kernel
theorem dC_root_52 : decode cC_root 52 = .ok (.aload_n 0, 1) := by decide +kernel
theorem dC_root_53 : decode cC_root 53 = .ok (.getfield 31, 3) := by decide +kernel
theorem dC_root_56 : decode cC_root 56 = .ok (.bipush 8, 2) := by decide +kernel
theorem dC_root_58 : decode cC_root 58 = .ok (.if_icmp .lt 13, 3) := by decide +kernel
theorem dC_root_61 : decode cC_root 61 = .ok (.new 51, 3) := by decide +kernel
theorem dC_root_64 : decode cC_root 64 = .ok (.dup, 1) := by decide +kernel
theorem dC_root_65 : decode cC_root 65 = .ok (.ldc 53, 2) := by decide +kernel
theorem dC_root_67 : decode cC_root 67 = .ok (.invokespecial 55, 3) := by decide +kernel
theorem dC_root_70 : decode cC_root 70 = .ok (.athrow, 1) := by decide +kernel
theorem dC_root_71 : decode cC_root 71 = .ok (.iload_n 2, 1) := by decide +kernel
theorem dC_root_72 : decode cC_root 72 = .ok (.invokestatic 56, 3) := by decide +kernel
theorem dC_root_75 : decode cC_root 75 = .ok (.iload_n 2, 1) := by decide +kernel
theorem dC_root_76 : decode cC_root 76 = .ok (.invokestatic 56, 3) := by decide +kernel
theorem dC_root_79 : decode cC_root 79 = .ok (.lload_n 3, 1) := by decide +kernel
theorem dC_root_80 : decode cC_root 80 = .ok (.ladd, 1) := by decide +kernel
theorem dC_root_81 : decode cC_root 81 = .ok (.invokestatic 60, 3) := by decide +kernel
theorem dC_root_84 : decode cC_root 84 = .ok (.sipush 32767, 3) := by decide +kernel
theorem dC_root_87 : decode cC_root 87 = .ok (.iand, 1) := by decide +kernel
theorem dC_root_88 : decode cC_root 88 = .ok (.istore 6, 2) := by decide +kernel
theorem dC_root_90 : decode cC_root 90 = .ok (.aload_n 0, 1) := by decide +kernel
theorem dC_root_91 : decode cC_root 91 = .ok (.iload_n 1, 1) := by decide +kernel
theorem dC_root_92 : decode cC_root 92 = .ok (.iconst 1, 1) := by decide +kernel
theorem dC_root_93 : decode cC_root 93 = .ok (.iload_n 2, 1) := by decide +kernel
theorem dC_root_94 : decode cC_root 94 = .ok (.iload 5, 2) := by decide +kernel
theorem dC_root_96 : decode cC_root 96 = .ok (.bipush 20, 2) := by decide +kernel
theorem dC_root_98 : decode cC_root 98 = .ok (.ishl, 1) := by decide +kernel
theorem dC_root_99 : decode cC_root 99 = .ok (.ldc 64, 2) := by decide +kernel
theorem dC_root_101 : decode cC_root 101 = .ok (.ior, 1) := by decide +kernel
theorem dC_root_102 : decode cC_root 102 = .ok (.iload 6, 2) := by decide +kernel
theorem dC_root_104 : decode cC_root 104 = .ok (.ior, 1) := by decide +kernel
theorem dC_root_105 : decode cC_root 105 = .ok (.invokevirtual 65, 3) := by decide +kernel
theorem dC_root_108 : decode cC_root 108 = .ok (.pop, 1) := by decide +kernel
theorem dC_root_109 : decode cC_root 109 = .ok (.aload_n 0, 1) := by decide +kernel
theorem dC_root_110 : decode cC_root 110 = .ok (.getfield 21, 3) := by decide +kernel
theorem dC_root_113 : decode cC_root 113 = .ok (.aload_n 0, 1) := by decide +kernel
theorem dC_root_114 : decode cC_root 114 = .ok (.getfield 31, 3) := by decide +kernel
theorem dC_root_117 : decode cC_root 117 = .ok (.aload_n 0, 1) := by decide +kernel
theorem dC_root_118 : decode cC_root 118 = .ok (.iload_n 1, 1) := by decide +kernel
theorem dC_root_119 : decode cC_root 119 = .ok (.invokevirtual 69, 3) := by decide +kernel
theorem dC_root_122 : decode cC_root 122 = .ok (.lastore, 1) := by decide +kernel
theorem dC_root_123 : decode cC_root 123 = .ok (.aload_n 0, 1) := by decide +kernel
theorem dC_root_124 : decode cC_root 124 = .ok (.getfield 25, 3) := by decide +kernel
theorem dC_root_127 : decode cC_root 127 = .ok (.aload_n 0, 1) := by decide +kernel
theorem dC_root_128 : decode cC_root 128 = .ok (.getfield 31, 3) := by decide +kernel
theorem dC_root_131 : decode cC_root 131 = .ok (.aload_n 0, 1) := by decide +kernel
theorem dC_root_132 : decode cC_root 132 = .ok (.iload_n 1, 1) := by decide +kernel
theorem dC_root_133 : decode cC_root 133 = .ok (.invokevirtual 72, 3) := by decide +kernel
theorem dC_root_136 : decode cC_root 136 = .ok (.lastore, 1) := by decide +kernel
theorem dC_root_137 : decode cC_root 137 = .ok (.aload_n 0, 1) := by decide +kernel
theorem dC_root_138 : decode cC_root 138 = .ok (.getfield 28, 3) := by decide +kernel
theorem dC_root_141 : decode cC_root 141 = .ok (.aload_n 0, 1) := by decide +kernel
theorem dC_root_142 : decode cC_root 142 = .ok (.getfield 31, 3) := by decide +kernel
theorem dC_root_145 : decode cC_root 145 = .ok (.iload 5, 2) := by decide +kernel
theorem dC_root_147 : decode cC_root 147 = .ok (.iastore, 1) := by decide +kernel
theorem dC_root_148 : decode cC_root 148 = .ok (.aload_n 0, 1) := by decide +kernel
theorem dC_root_149 : decode cC_root 149 = .ok (.dup, 1) := by decide +kernel
theorem dC_root_150 : decode cC_root 150 = .ok (.getfield 31, 3) := by decide +kernel
theorem dC_root_153 : decode cC_root 153 = .ok (.iconst 1, 1) := by decide +kernel
theorem dC_root_154 : decode cC_root 154 = .ok (.iadd, 1) := by decide +kernel
theorem dC_root_155 : decode cC_root 155 = .ok (.putfield 31, 3) := by decide +kernel
theorem dC_root_158 : decode cC_root 158 = .ok (.aload_n 0, 1) := by decide +kernel
theorem dC_root_159 : decode cC_root 159 = .ok (.iload_n 1, 1) := by decide +kernel
theorem dC_root_160 : decode cC_root 160 = .ok (.invokevirtual 69, 3) := by decide +kernel
theorem dC_root_163 : decode cC_root 163 = .ok (.l2i, 1) := by decide +kernel
theorem dC_root_164 : decode cC_root 164 = .ok (.ireturn, 1) := by decide +kernel
theorem dC_fitsSpace_0 : decode cC_fitsSpace 0 = .ok (.lload_n 1, 1) := by decide +kernel
theorem dC_fitsSpace_1 : decode cC_fitsSpace 1 = .ok (.lconst 0, 1) := by decide +kernel
theorem dC_fitsSpace_2 : decode cC_fitsSpace 2 = .ok (.lcmp, 1) := by decide +kernel
theorem dC_fitsSpace_3 : decode cC_fitsSpace 3 = .ok (.ifCond .lt 20, 3) := by decide +kernel
theorem dC_fitsSpace_6 : decode cC_fitsSpace 6 = .ok (.lload_n 1, 1) := by decide +kernel
theorem dC_fitsSpace_7 : decode cC_fitsSpace 7 = .ok (.ldc2_w 81, 3) := by decide +kernel
theorem dC_fitsSpace_10 : decode cC_fitsSpace 10 = .ok (.iload_n 0, 1) := by decide +kernel
theorem dC_fitsSpace_11 : decode cC_fitsSpace 11 = .ok (.invokestatic 56, 3) := by decide +kernel
theorem dC_fitsSpace_14 : decode cC_fitsSpace 14 = .ok (.lsub, 1) := by decide +kernel
theorem dC_fitsSpace_15 : decode cC_fitsSpace 15 = .ok (.lcmp, 1) := by decide +kernel
theorem dC_fitsSpace_16 : decode cC_fitsSpace 16 = .ok (.ifCond .gt 7, 3) := by decide +kernel
theorem dC_fitsSpace_19 : decode cC_fitsSpace 19 = .ok (.iconst 1, 1) := by decide +kernel
theorem dC_fitsSpace_20 : decode cC_fitsSpace 20 = .ok (.goto 4, 3) := by decide +kernel
theorem dC_fitsSpace_23 : decode cC_fitsSpace 23 = .ok (.iconst 0, 1) := by decide +kernel
theorem dC_fitsSpace_24 : decode cC_fitsSpace 24 = .ok (.ireturn, 1) := by decide +kernel
theorem dC_packed_0 : decode cC_packed 0 = .ok (.lload_n 2, 1) := by decide +kernel
theorem dC_packed_1 : decode cC_packed 1 = .ok (.lload_n 0, 1) := by decide +kernel
theorem dC_packed_2 : decode cC_packed 2 = .ok (.lsub, 1) := by decide +kernel
theorem dC_packed_3 : decode cC_packed 3 = .ok (.ldc2_w 163, 3) := by decide +kernel
theorem dC_packed_6 : decode cC_packed 6 = .ok (.lcmp, 1) := by decide +kernel
theorem dC_packed_7 : decode cC_packed 7 = .ok (.ifCond .gt 23, 3) := by decide +kernel
theorem dC_packed_10 : decode cC_packed 10 = .ok (.ldc 96, 2) := by decide +kernel
theorem dC_packed_12 : decode cC_packed 12 = .ok (.lload_n 2, 1) := by decide +kernel
theorem dC_packed_13 : decode cC_packed 13 = .ok (.ldc2_w 163, 3) := by decide +kernel
theorem dC_packed_16 : decode cC_packed 16 = .ok (.land, 1) := by decide +kernel
theorem dC_packed_17 : decode cC_packed 17 = .ok (.l2i, 1) := by decide +kernel
theorem dC_packed_18 : decode cC_packed 18 = .ok (.bipush 8, 2) := by decide +kernel
theorem dC_packed_20 : decode cC_packed 20 = .ok (.ishl, 1) := by decide +kernel
theorem dC_packed_21 : decode cC_packed 21 = .ok (.ior, 1) := by decide +kernel
theorem dC_packed_22 : decode cC_packed 22 = .ok (.lload_n 0, 1) := by decide +kernel
theorem dC_packed_23 : decode cC_packed 23 = .ok (.ldc2_w 165, 3) := by decide +kernel
theorem dC_packed_26 : decode cC_packed 26 = .ok (.land, 1) := by decide +kernel
theorem dC_packed_27 : decode cC_packed 27 = .ok (.l2i, 1) := by decide +kernel
theorem dC_packed_28 : decode cC_packed 28 = .ok (.ior, 1) := by decide +kernel
theorem dC_packed_29 : decode cC_packed 29 = .ok (.ireturn, 1) := by decide +kernel
theorem dC_packed_30 : decode cC_packed 30 = .ok (.lload_n 0, 1) := by decide +kernel
theorem dC_packed_31 : decode cC_packed 31 = .ok (.lload_n 2, 1) := by decide +kernel
theorem dC_packed_32 : decode cC_packed 32 = .ok (.invokestatic 167, 3) := by decide +kernel
theorem dC_packed_35 : decode cC_packed 35 = .ok (.istore 4, 2) := by decide +kernel
theorem dC_packed_37 : decode cC_packed 37 = .ok (.lload_n 0, 1) := by decide +kernel
theorem dC_packed_38 : decode cC_packed 38 = .ok (.iload 4, 2) := by decide +kernel
theorem dC_packed_40 : decode cC_packed 40 = .ok (.invokestatic 170, 3) := by decide +kernel
theorem dC_packed_43 : decode cC_packed 43 = .ok (.lstore 5, 2) := by decide +kernel
theorem dC_packed_45 : decode cC_packed 45 = .ok (.lload_n 2, 1) := by decide +kernel
theorem dC_packed_46 : decode cC_packed 46 = .ok (.iload 4, 2) := by decide +kernel
theorem dC_packed_48 : decode cC_packed 48 = .ok (.invokestatic 174, 3) := by decide +kernel
theorem dC_packed_51 : decode cC_packed 51 = .ok (.lstore 7, 2) := by decide +kernel
theorem dC_packed_53 : decode cC_packed 53 = .ok (.lload 5, 2) := by decide +kernel
theorem dC_packed_55 : decode cC_packed 55 = .ok (.iload 4, 2) := by decide +kernel
theorem dC_packed_57 : decode cC_packed 57 = .ok (.lshr, 1) := by decide +kernel
theorem dC_packed_58 : decode cC_packed 58 = .ok (.l2i, 1) := by decide +kernel
theorem dC_packed_59 : decode cC_packed 59 = .ok (.sipush 255, 3) := by decide +kernel
theorem dC_packed_62 : decode cC_packed 62 = .ok (.iand, 1) := by decide +kernel
theorem dC_packed_63 : decode cC_packed 63 = .ok (.iload 4, 2) := by decide +kernel
theorem dC_packed_65 : decode cC_packed 65 = .ok (.bipush 7, 2) := by decide +kernel
theorem dC_packed_67 : decode cC_packed 67 = .ok (.iand, 1) := by decide +kernel
theorem dC_packed_68 : decode cC_packed 68 = .ok (.ior, 1) := by decide +kernel
theorem dC_packed_69 : decode cC_packed 69 = .ok (.istore 9, 2) := by decide +kernel
theorem dC_packed_71 : decode cC_packed 71 = .ok (.lload 7, 2) := by decide +kernel
theorem dC_packed_73 : decode cC_packed 73 = .ok (.iload 4, 2) := by decide +kernel
theorem dC_packed_75 : decode cC_packed 75 = .ok (.lshr, 1) := by decide +kernel
theorem dC_packed_76 : decode cC_packed 76 = .ok (.l2i, 1) := by decide +kernel
theorem dC_packed_77 : decode cC_packed 77 = .ok (.bipush 63, 2) := by decide +kernel
theorem dC_packed_79 : decode cC_packed 79 = .ok (.iand, 1) := by decide +kernel
theorem dC_packed_80 : decode cC_packed 80 = .ok (.iload 4, 2) := by decide +kernel
theorem dC_packed_82 : decode cC_packed 82 = .ok (.iconst 3, 1) := by decide +kernel
theorem dC_packed_83 : decode cC_packed 83 = .ok (.ishr, 1) := by decide +kernel
theorem dC_packed_84 : decode cC_packed 84 = .ok (.ior, 1) := by decide +kernel
theorem dC_packed_85 : decode cC_packed 85 = .ok (.istore 10, 2) := by decide +kernel
theorem dC_packed_87 : decode cC_packed 87 = .ok (.lload 5, 2) := by decide +kernel
theorem dC_packed_89 : decode cC_packed 89 = .ok (.lload_n 0, 1) := by decide +kernel
theorem dC_packed_90 : decode cC_packed 90 = .ok (.lcmp, 1) := by decide +kernel
theorem dC_packed_91 : decode cC_packed 91 = .ok (.ifCond .ne 15, 3) := by decide +kernel
theorem dC_packed_94 : decode cC_packed 94 = .ok (.lload 7, 2) := by decide +kernel
theorem dC_packed_96 : decode cC_packed 96 = .ok (.lload_n 2, 1) := by decide +kernel
theorem dC_packed_97 : decode cC_packed 97 = .ok (.lcmp, 1) := by decide +kernel
theorem dC_packed_98 : decode cC_packed 98 = .ok (.ifCond .ne 8, 3) := by decide +kernel
theorem dC_packed_101 : decode cC_packed 101 = .ok (.ldc 96, 2) := by decide +kernel
theorem dC_packed_103 : decode cC_packed 103 = .ok (.goto 4, 3) := by decide +kernel
theorem dC_packed_106 : decode cC_packed 106 = .ok (.iconst 0, 1) := by decide +kernel
theorem dC_packed_107 : decode cC_packed 107 = .ok (.istore 11, 2) := by decide +kernel
theorem dC_packed_109 : decode cC_packed 109 = .ok (.iload 11, 2) := by decide +kernel
theorem dC_packed_111 : decode cC_packed 111 = .ok (.sipush 16384, 3) := by decide +kernel
theorem dC_packed_114 : decode cC_packed 114 = .ok (.ior, 1) := by decide +kernel
theorem dC_packed_115 : decode cC_packed 115 = .ok (.iload 10, 2) := by decide +kernel
theorem dC_packed_117 : decode cC_packed 117 = .ok (.bipush 8, 2) := by decide +kernel
theorem dC_packed_119 : decode cC_packed 119 = .ok (.ishl, 1) := by decide +kernel
theorem dC_packed_120 : decode cC_packed 120 = .ok (.ior, 1) := by decide +kernel
theorem dC_packed_121 : decode cC_packed 121 = .ok (.iload 9, 2) := by decide +kernel
theorem dC_packed_123 : decode cC_packed 123 = .ok (.ior, 1) := by decide +kernel
theorem dC_packed_124 : decode cC_packed 124 = .ok (.ireturn, 1) := by decide +kernel
theorem dC_fittingExponent_0 : decode cC_fittingExponent 0 = .ok (.lload_n 2, 1) := by decide +kernel
theorem dC_fittingExponent_1 : decode cC_fittingExponent 1 = .ok (.lload_n 0, 1) := by decide +kernel
theorem dC_fittingExponent_2 : decode cC_fittingExponent 2 = .ok (.lsub, 1) := by decide +kernel
theorem dC_fittingExponent_3 : decode cC_fittingExponent 3 = .ok (.bipush 7, 2) := by decide +kernel
theorem dC_fittingExponent_5 : decode cC_fittingExponent 5 = .ok (.lshr, 1) := by decide +kernel
theorem dC_fittingExponent_6 : decode cC_fittingExponent 6 = .ok (.invokestatic 177, 3) := by decide +kernel
theorem dC_fittingExponent_9 : decode cC_fittingExponent 9 = .ok (.istore 4, 2) := by decide +kernel
theorem dC_fittingExponent_11 : decode cC_fittingExponent 11 = .ok (.lload_n 2, 1) := by decide +kernel
theorem dC_fittingExponent_12 : decode cC_fittingExponent 12 = .ok (.iload 4, 2) := by decide +kernel
theorem dC_fittingExponent_14 : decode cC_fittingExponent 14 = .ok (.invokestatic 174, 3) := by decide +kernel
theorem dC_fittingExponent_17 : decode cC_fittingExponent 17 = .ok (.lload_n 0, 1) := by decide +kernel
theorem dC_fittingExponent_18 : decode cC_fittingExponent 18 = .ok (.iload 4, 2) := by decide +kernel
theorem dC_fittingExponent_20 : decode cC_fittingExponent 20 = .ok (.invokestatic 170, 3) := by decide +kernel
theorem dC_fittingExponent_23 : decode cC_fittingExponent 23 = .ok (.lsub, 1) := by decide +kernel
theorem dC_fittingExponent_24 : decode cC_fittingExponent 24 = .ok (.iload 4, 2) := by decide +kernel
theorem dC_fittingExponent_26 : decode cC_fittingExponent 26 = .ok (.iconst 3, 1) := by decide +kernel
theorem dC_fittingExponent_27 : decode cC_fittingExponent 27 = .ok (.iadd, 1) := by decide +kernel
theorem dC_fittingExponent_28 : decode cC_fittingExponent 28 = .ok (.lshr, 1) := by decide +kernel
theorem dC_fittingExponent_29 : decode cC_fittingExponent 29 = .ok (.lstore 5, 2) := by decide +kernel
theorem dC_fittingExponent_31 : decode cC_fittingExponent 31 = .ok (.lload 5, 2) := by decide +kernel
theorem dC_fittingExponent_33 : decode cC_fittingExponent 33 = .ok (.ldc2_w 181, 3) := by decide +kernel
theorem dC_fittingExponent_36 : decode cC_fittingExponent 36 = .ok (.lcmp, 1) := by decide +kernel
theorem dC_fittingExponent_37 : decode cC_fittingExponent 37 = .ok (.ifCond .lt 10, 3) := by decide +kernel
theorem dC_fittingExponent_40 : decode cC_fittingExponent 40 = .ok (.iload 4, 2) := by decide +kernel
theorem dC_fittingExponent_42 : decode cC_fittingExponent 42 = .ok (.iconst 1, 1) := by decide +kernel
theorem dC_fittingExponent_43 : decode cC_fittingExponent 43 = .ok (.iadd, 1) := by decide +kernel
theorem dC_fittingExponent_44 : decode cC_fittingExponent 44 = .ok (.goto 5, 3) := by decide +kernel
theorem dC_fittingExponent_47 : decode cC_fittingExponent 47 = .ok (.iload 4, 2) := by decide +kernel
theorem dC_fittingExponent_49 : decode cC_fittingExponent 49 = .ok (.ireturn, 1) := by decide +kernel
theorem dC_bitsOf_0 : decode cC_bitsOf 0 = .ok (.iconst 0, 1) := by decide +kernel
theorem dC_bitsOf_1 : decode cC_bitsOf 1 = .ok (.istore_n 2, 1) := by decide +kernel
theorem dC_bitsOf_2 : decode cC_bitsOf 2 = .ok (.iload_n 2, 1) := by decide +kernel
theorem dC_bitsOf_3 : decode cC_bitsOf 3 = .ok (.bipush 26, 2) := by decide +kernel
theorem dC_bitsOf_5 : decode cC_bitsOf 5 = .ok (.if_icmp .ge 17, 3) := by decide +kernel
theorem dC_bitsOf_8 : decode cC_bitsOf 8 = .ok (.lload_n 0, 1) := by decide +kernel
theorem dC_bitsOf_9 : decode cC_bitsOf 9 = .ok (.iload_n 2, 1) := by decide +kernel
theorem dC_bitsOf_10 : decode cC_bitsOf 10 = .ok (.lshr, 1) := by decide +kernel
theorem dC_bitsOf_11 : decode cC_bitsOf 11 = .ok (.lconst 0, 1) := by decide +kernel
theorem dC_bitsOf_12 : decode cC_bitsOf 12 = .ok (.lcmp, 1) := by decide +kernel
theorem dC_bitsOf_13 : decode cC_bitsOf 13 = .ok (.ifCond .eq 9, 3) := by decide +kernel
theorem dC_bitsOf_16 : decode cC_bitsOf 16 = .ok (.iinc 2 1, 3) := by decide +kernel
theorem dC_bitsOf_19 : decode cC_bitsOf 19 = .ok (.goto (-17), 3) := by decide +kernel
theorem dC_bitsOf_22 : decode cC_bitsOf 22 = .ok (.iload_n 2, 1) := by decide +kernel
theorem dC_bitsOf_23 : decode cC_bitsOf 23 = .ok (.ireturn, 1) := by decide +kernel
theorem dC_roundedUp_0 : decode cC_roundedUp 0 = .ok (.lload_n 0, 1) := by decide +kernel
theorem dC_roundedUp_1 : decode cC_roundedUp 1 = .ok (.lconst 1, 1) := by decide +kernel
theorem dC_roundedUp_2 : decode cC_roundedUp 2 = .ok (.iload_n 2, 1) := by decide +kernel
theorem dC_roundedUp_3 : decode cC_roundedUp 3 = .ok (.iconst 3, 1) := by decide +kernel
theorem dC_roundedUp_4 : decode cC_roundedUp 4 = .ok (.iadd, 1) := by decide +kernel
theorem dC_roundedUp_5 : decode cC_roundedUp 5 = .ok (.lshl, 1) := by decide +kernel
theorem dC_roundedUp_6 : decode cC_roundedUp 6 = .ok (.ladd, 1) := by decide +kernel
theorem dC_roundedUp_7 : decode cC_roundedUp 7 = .ok (.lconst 1, 1) := by decide +kernel
theorem dC_roundedUp_8 : decode cC_roundedUp 8 = .ok (.lsub, 1) := by decide +kernel
theorem dC_roundedUp_9 : decode cC_roundedUp 9 = .ok (.iload_n 2, 1) := by decide +kernel
theorem dC_roundedUp_10 : decode cC_roundedUp 10 = .ok (.invokestatic 170, 3) := by decide +kernel
theorem dC_roundedUp_13 : decode cC_roundedUp 13 = .ok (.lreturn, 1) := by decide +kernel
theorem dC_roundedDown_0 : decode cC_roundedDown 0 = .ok (.lload_n 0, 1) := by decide +kernel
theorem dC_roundedDown_1 : decode cC_roundedDown 1 = .ok (.lconst 1, 1) := by decide +kernel
theorem dC_roundedDown_2 : decode cC_roundedDown 2 = .ok (.iload_n 2, 1) := by decide +kernel
theorem dC_roundedDown_3 : decode cC_roundedDown 3 = .ok (.iconst 3, 1) := by decide +kernel
theorem dC_roundedDown_4 : decode cC_roundedDown 4 = .ok (.iadd, 1) := by decide +kernel
theorem dC_roundedDown_5 : decode cC_roundedDown 5 = .ok (.lshl, 1) := by decide +kernel
theorem dC_roundedDown_6 : decode cC_roundedDown 6 = .ok (.lneg, 1) := by decide +kernel
theorem dC_roundedDown_7 : decode cC_roundedDown 7 = .ok (.land, 1) := by decide +kernel
theorem dC_roundedDown_8 : decode cC_roundedDown 8 = .ok (.lreturn, 1) := by decide +kernel
theorem dC_become_0 : decode cC_become 0 = .ok (.iload_n 1, 1) := by decide +kernel
theorem dC_become_1 : decode cC_become 1 = .ok (.ifCond .ne 5, 3) := by decide +kernel
theorem dC_become_4 : decode cC_become 4 = .ok (.iconst 0, 1) := by decide +kernel
theorem dC_become_5 : decode cC_become 5 = .ok (.ireturn, 1) := by decide +kernel
theorem dC_become_6 : decode cC_become 6 = .ok (.aload_n 0, 1) := by decide +kernel
theorem dC_become_7 : decode cC_become 7 = .ok (.getfield 9, 3) := by decide +kernel
theorem dC_become_10 : decode cC_become 10 = .ok (.iload_n 1, 1) := by decide +kernel
theorem dC_become_11 : decode cC_become 11 = .ok (.iload_n 2, 1) := by decide +kernel
theorem dC_become_12 : decode cC_become 12 = .ok (.bastore, 1) := by decide +kernel
theorem dC_become_13 : decode cC_become 13 = .ok (.aload_n 0, 1) := by decide +kernel
theorem dC_become_14 : decode cC_become 14 = .ok (.getfield 13, 3) := by decide +kernel
theorem dC_become_17 : decode cC_become 17 = .ok (.iload_n 1, 1) := by decide +kernel
theorem dC_become_18 : decode cC_become 18 = .ok (.iload_n 3, 1) := by decide +kernel
theorem dC_become_19 : decode cC_become 19 = .ok (.iastore, 1) := by decide +kernel
theorem dC_become_20 : decode cC_become 20 = .ok (.aload_n 0, 1) := by decide +kernel
theorem dC_become_21 : decode cC_become 21 = .ok (.getfield 17, 3) := by decide +kernel
theorem dC_become_24 : decode cC_become 24 = .ok (.iload_n 1, 1) := by decide +kernel
theorem dC_become_25 : decode cC_become 25 = .ok (.iload 4, 2) := by decide +kernel
theorem dC_become_27 : decode cC_become 27 = .ok (.iastore, 1) := by decide +kernel
theorem dC_become_28 : decode cC_become 28 = .ok (.iload_n 2, 1) := by decide +kernel
theorem dC_become_29 : decode cC_become 29 = .ok (.ireturn, 1) := by decide +kernel
theorem dC_put_0 : decode cC_put 0 = .ok (.iload_n 1, 1) := by decide +kernel
theorem dC_put_1 : decode cC_put 1 = .ok (.invokestatic 75, 3) := by decide +kernel
theorem dC_put_4 : decode cC_put 4 = .ok (.ifCond .ne 13, 3) := by decide +kernel
theorem dC_put_7 : decode cC_put 7 = .ok (.new 35, 3) := by decide +kernel
theorem dC_put_10 : decode cC_put 10 = .ok (.dup, 1) := by decide +kernel
theorem dC_put_11 : decode cC_put 11 = .ok (.ldc 79, 2) := by decide +kernel
theorem dC_put_13 : decode cC_put 13 = .ok (.invokespecial 39, 3) := by decide +kernel
theorem dC_put_16 : decode cC_put 16 = .ok (.athrow, 1) := by decide +kernel
theorem dC_put_17 : decode cC_put 17 = .ok (.aload_n 0, 1) := by decide +kernel
theorem dC_put_18 : decode cC_put 18 = .ok (.iload_n 1, 1) := by decide +kernel
theorem dC_put_19 : decode cC_put 19 = .ok (.iconst 0, 1) := by decide +kernel
theorem dC_put_20 : decode cC_put 20 = .ok (.iload_n 2, 1) := by decide +kernel
theorem dC_put_21 : decode cC_put 21 = .ok (.iload_n 3, 1) := by decide +kernel
theorem dC_put_22 : decode cC_put 22 = .ok (.ldc 20, 2) := by decide +kernel
theorem dC_put_24 : decode cC_put 24 = .ok (.ixor, 1) := by decide +kernel
theorem dC_put_25 : decode cC_put 25 = .ok (.invokevirtual 65, 3) := by decide +kernel
theorem dC_put_28 : decode cC_put 28 = .ok (.pop, 1) := by decide +kernel
theorem dC_put_29 : decode cC_put 29 = .ok (.return_, 1) := by decide +kernel
theorem dC_isRegister_0 : decode cC_isRegister 0 = .ok (.iload_n 0, 1) := by decide +kernel
theorem dC_isRegister_1 : decode cC_isRegister 1 = .ok (.ifCond .lt 13, 3) := by decide +kernel
theorem dC_isRegister_4 : decode cC_isRegister 4 = .ok (.iload_n 0, 1) := by decide +kernel
theorem dC_isRegister_5 : decode cC_isRegister 5 = .ok (.bipush 32, 2) := by decide +kernel
theorem dC_isRegister_7 : decode cC_isRegister 7 = .ok (.if_icmp .ge 7, 3) := by decide +kernel
theorem dC_isRegister_10 : decode cC_isRegister 10 = .ok (.iconst 1, 1) := by decide +kernel
theorem dC_isRegister_11 : decode cC_isRegister 11 = .ok (.goto 4, 3) := by decide +kernel
theorem dC_isRegister_14 : decode cC_isRegister 14 = .ok (.iconst 0, 1) := by decide +kernel
theorem dC_isRegister_15 : decode cC_isRegister 15 = .ok (.ireturn, 1) := by decide +kernel
theorem dC_narrow_0 : decode cC_narrow 0 = .ok (.iload_n 2, 1) := by decide +kernel
theorem dC_narrow_1 : decode cC_narrow 1 = .ok (.invokestatic 75, 3) := by decide +kernel
theorem dC_narrow_4 : decode cC_narrow 4 = .ok (.ifCond .eq 10, 3) := by decide +kernel
theorem dC_narrow_7 : decode cC_narrow 7 = .ok (.iload_n 1, 1) := by decide +kernel
theorem dC_narrow_8 : decode cC_narrow 8 = .ok (.invokestatic 75, 3) := by decide +kernel
theorem dC_narrow_11 : decode cC_narrow 11 = .ok (.ifCond .ne 13, 3) := by decide +kernel
theorem dC_narrow_14 : decode cC_narrow 14 = .ok (.new 35, 3) := by decide +kernel
theorem dC_narrow_17 : decode cC_narrow 17 = .ok (.dup, 1) := by decide +kernel
theorem dC_narrow_18 : decode cC_narrow 18 = .ok (.ldc 79, 2) := by decide +kernel
theorem dC_narrow_20 : decode cC_narrow 20 = .ok (.invokespecial 39, 3) := by decide +kernel
theorem dC_narrow_23 : decode cC_narrow 23 = .ok (.athrow, 1) := by decide +kernel
theorem dC_narrow_24 : decode cC_narrow 24 = .ok (.aload_n 0, 1) := by decide +kernel
theorem dC_narrow_25 : decode cC_narrow 25 = .ok (.getfield 13, 3) := by decide +kernel
theorem dC_narrow_28 : decode cC_narrow 28 = .ok (.iload_n 2, 1) := by decide +kernel
theorem dC_narrow_29 : decode cC_narrow 29 = .ok (.iaload, 1) := by decide +kernel
theorem dC_narrow_30 : decode cC_narrow 30 = .ok (.invokestatic 56, 3) := by decide +kernel
theorem dC_narrow_33 : decode cC_narrow 33 = .ok (.lstore 5, 2) := by decide +kernel
theorem dC_narrow_35 : decode cC_narrow 35 = .ok (.iload_n 3, 1) := by decide +kernel
theorem dC_narrow_36 : decode cC_narrow 36 = .ok (.invokestatic 56, 3) := by decide +kernel
theorem dC_narrow_39 : decode cC_narrow 39 = .ok (.lstore 7, 2) := by decide +kernel
theorem dC_narrow_41 : decode cC_narrow 41 = .ok (.lload 5, 2) := by decide +kernel
theorem dC_narrow_43 : decode cC_narrow 43 = .ok (.lload 5, 2) := by decide +kernel
theorem dC_narrow_45 : decode cC_narrow 45 = .ok (.lload 7, 2) := by decide +kernel
theorem dC_narrow_47 : decode cC_narrow 47 = .ok (.ladd, 1) := by decide +kernel
theorem dC_narrow_48 : decode cC_narrow 48 = .ok (.ldc2_w 81, 3) := by decide +kernel
theorem dC_narrow_51 : decode cC_narrow 51 = .ok (.invokestatic 83, 3) := by decide +kernel
theorem dC_narrow_54 : decode cC_narrow 54 = .ok (.invokestatic 60, 3) := by decide +kernel
theorem dC_narrow_57 : decode cC_narrow 57 = .ok (.istore 9, 2) := by decide +kernel
theorem dC_narrow_59 : decode cC_narrow 59 = .ok (.aload_n 0, 1) := by decide +kernel
theorem dC_narrow_60 : decode cC_narrow 60 = .ok (.iload_n 2, 1) := by decide +kernel
theorem dC_narrow_61 : decode cC_narrow 61 = .ok (.invokevirtual 89, 3) := by decide +kernel
theorem dC_narrow_64 : decode cC_narrow 64 = .ok (.ifCond .eq 32, 3) := by decide +kernel
theorem dC_narrow_67 : decode cC_narrow 67 = .ok (.aload_n 0, 1) := by decide +kernel
theorem dC_narrow_68 : decode cC_narrow 68 = .ok (.iload_n 2, 1) := by decide +kernel
theorem dC_narrow_69 : decode cC_narrow 69 = .ok (.lload 5, 2) := by decide +kernel
theorem dC_narrow_71 : decode cC_narrow 71 = .ok (.lload 7, 2) := by decide +kernel
theorem dC_narrow_73 : decode cC_narrow 73 = .ok (.invokevirtual 92, 3) := by decide +kernel
theorem dC_narrow_76 : decode cC_narrow 76 = .ok (.ifCond .eq 20, 3) := by decide +kernel
theorem dC_narrow_79 : decode cC_narrow 79 = .ok (.iload 4, 2) := by decide +kernel
theorem dC_narrow_81 : decode cC_narrow 81 = .ok (.ifCond .eq 11, 3) := by decide +kernel
theorem dC_narrow_84 : decode cC_narrow 84 = .ok (.iload 9, 2) := by decide +kernel
theorem dC_narrow_86 : decode cC_narrow 86 = .ok (.ldc 96, 2) := by decide +kernel
theorem dC_narrow_88 : decode cC_narrow 88 = .ok (.iand, 1) := by decide +kernel
theorem dC_narrow_89 : decode cC_narrow 89 = .ok (.ifCond .eq 7, 3) := by decide +kernel
theorem dC_narrow_92 : decode cC_narrow 92 = .ok (.iconst 1, 1) := by decide +kernel
theorem dC_narrow_93 : decode cC_narrow 93 = .ok (.goto 4, 3) := by decide +kernel
theorem dC_narrow_96 : decode cC_narrow 96 = .ok (.iconst 0, 1) := by decide +kernel
theorem dC_narrow_97 : decode cC_narrow 97 = .ok (.istore 10, 2) := by decide +kernel
theorem dC_narrow_99 : decode cC_narrow 99 = .ok (.aload_n 0, 1) := by decide +kernel
theorem dC_narrow_100 : decode cC_narrow 100 = .ok (.iload_n 1, 1) := by decide +kernel
theorem dC_narrow_101 : decode cC_narrow 101 = .ok (.iload 10, 2) := by decide +kernel
theorem dC_narrow_103 : decode cC_narrow 103 = .ok (.aload_n 0, 1) := by decide +kernel
theorem dC_narrow_104 : decode cC_narrow 104 = .ok (.getfield 13, 3) := by decide +kernel
theorem dC_narrow_107 : decode cC_narrow 107 = .ok (.iload_n 2, 1) := by decide +kernel
theorem dC_narrow_108 : decode cC_narrow 108 = .ok (.iaload, 1) := by decide +kernel
theorem dC_narrow_109 : decode cC_narrow 109 = .ok (.aload_n 0, 1) := by decide +kernel
theorem dC_narrow_110 : decode cC_narrow 110 = .ok (.getfield 17, 3) := by decide +kernel
theorem dC_narrow_113 : decode cC_narrow 113 = .ok (.iload_n 2, 1) := by decide +kernel
theorem dC_narrow_114 : decode cC_narrow 114 = .ok (.iaload, 1) := by decide +kernel
theorem dC_narrow_115 : decode cC_narrow 115 = .ok (.sipush (-32768), 3) := by decide +kernel
theorem dC_narrow_118 : decode cC_narrow 118 = .ok (.iand, 1) := by decide +kernel
theorem dC_narrow_119 : decode cC_narrow 119 = .ok (.iload 9, 2) := by decide +kernel
theorem dC_narrow_121 : decode cC_narrow 121 = .ok (.sipush 32767, 3) := by decide +kernel
theorem dC_narrow_124 : decode cC_narrow 124 = .ok (.iand, 1) := by decide +kernel
theorem dC_narrow_125 : decode cC_narrow 125 = .ok (.ior, 1) := by decide +kernel
theorem dC_narrow_126 : decode cC_narrow 126 = .ok (.invokevirtual 65, 3) := by decide +kernel
theorem dC_narrow_129 : decode cC_narrow 129 = .ok (.ireturn, 1) := by decide +kernel
theorem dC_isOpenWithTag_0 : decode cC_isOpenWithTag 0 = .ok (.aload_n 0, 1) := by decide +kernel
theorem dC_isOpenWithTag_1 : decode cC_isOpenWithTag 1 = .ok (.getfield 9, 3) := by decide +kernel
theorem dC_isOpenWithTag_4 : decode cC_isOpenWithTag 4 = .ok (.iload_n 1, 1) := by decide +kernel
theorem dC_isOpenWithTag_5 : decode cC_isOpenWithTag 5 = .ok (.baload, 1) := by decide +kernel
theorem dC_isOpenWithTag_6 : decode cC_isOpenWithTag 6 = .ok (.ifCond .eq 21, 3) := by decide +kernel
theorem dC_isOpenWithTag_9 : decode cC_isOpenWithTag 9 = .ok (.aload_n 0, 1) := by decide +kernel
theorem dC_isOpenWithTag_10 : decode cC_isOpenWithTag 10 = .ok (.getfield 17, 3) := by decide +kernel
theorem dC_isOpenWithTag_13 : decode cC_isOpenWithTag 13 = .ok (.iload_n 1, 1) := by decide +kernel
theorem dC_isOpenWithTag_14 : decode cC_isOpenWithTag 14 = .ok (.iaload, 1) := by decide +kernel
theorem dC_isOpenWithTag_15 : decode cC_isOpenWithTag 15 = .ok (.invokestatic 114, 3) := by decide +kernel
theorem dC_isOpenWithTag_18 : decode cC_isOpenWithTag 18 = .ok (.bipush 15, 2) := by decide +kernel
theorem dC_isOpenWithTag_20 : decode cC_isOpenWithTag 20 = .ok (.if_icmp .ne 7, 3) := by decide +kernel
theorem dC_isOpenWithTag_23 : decode cC_isOpenWithTag 23 = .ok (.iconst 1, 1) := by decide +kernel
theorem dC_isOpenWithTag_24 : decode cC_isOpenWithTag 24 = .ok (.goto 4, 3) := by decide +kernel
theorem dC_isOpenWithTag_27 : decode cC_isOpenWithTag 27 = .ok (.iconst 0, 1) := by decide +kernel
theorem dC_isOpenWithTag_28 : decode cC_isOpenWithTag 28 = .ok (.ireturn, 1) := by decide +kernel
theorem dC_typeOf_0 : decode cC_typeOf 0 = .ok (.iload_n 0, 1) := by decide +kernel
theorem dC_typeOf_1 : decode cC_typeOf 1 = .ok (.bipush 16, 2) := by decide +kernel
theorem dC_typeOf_3 : decode cC_typeOf 3 = .ok (.iushr, 1) := by decide +kernel
theorem dC_typeOf_4 : decode cC_typeOf 4 = .ok (.bipush 15, 2) := by decide +kernel
theorem dC_typeOf_6 : decode cC_typeOf 6 = .ok (.iand, 1) := by decide +kernel
theorem dC_typeOf_7 : decode cC_typeOf 7 = .ok (.ireturn, 1) := by decide +kernel
theorem dC_isInBounds_0 : decode cC_isInBounds 0 = .ok (.aload_n 0, 1) := by decide +kernel
theorem dC_isInBounds_1 : decode cC_isInBounds 1 = .ok (.iload_n 1, 1) := by decide +kernel
theorem dC_isInBounds_2 : decode cC_isInBounds 2 = .ok (.invokevirtual 69, 3) := by decide +kernel
theorem dC_isInBounds_5 : decode cC_isInBounds 5 = .ok (.lload_n 2, 1) := by decide +kernel
theorem dC_isInBounds_6 : decode cC_isInBounds 6 = .ok (.lcmp, 1) := by decide +kernel
theorem dC_isInBounds_7 : decode cC_isInBounds 7 = .ok (.ifCond .gt 20, 3) := by decide +kernel
theorem dC_isInBounds_10 : decode cC_isInBounds 10 = .ok (.lload_n 2, 1) := by decide +kernel
theorem dC_isInBounds_11 : decode cC_isInBounds 11 = .ok (.lload 4, 2) := by decide +kernel
theorem dC_isInBounds_13 : decode cC_isInBounds 13 = .ok (.ladd, 1) := by decide +kernel
theorem dC_isInBounds_14 : decode cC_isInBounds 14 = .ok (.aload_n 0, 1) := by decide +kernel
theorem dC_isInBounds_15 : decode cC_isInBounds 15 = .ok (.iload_n 1, 1) := by decide +kernel
theorem dC_isInBounds_16 : decode cC_isInBounds 16 = .ok (.invokevirtual 72, 3) := by decide +kernel
theorem dC_isInBounds_19 : decode cC_isInBounds 19 = .ok (.lcmp, 1) := by decide +kernel
theorem dC_isInBounds_20 : decode cC_isInBounds 20 = .ok (.ifCond .gt 7, 3) := by decide +kernel
theorem dC_isInBounds_23 : decode cC_isInBounds 23 = .ok (.iconst 1, 1) := by decide +kernel
theorem dC_isInBounds_24 : decode cC_isInBounds 24 = .ok (.goto 4, 3) := by decide +kernel
theorem dC_isInBounds_27 : decode cC_isInBounds 27 = .ok (.iconst 0, 1) := by decide +kernel
theorem dC_isInBounds_28 : decode cC_isInBounds 28 = .ok (.ireturn, 1) := by decide +kernel
theorem dC_move_0 : decode cC_move 0 = .ok (.iload_n 2, 1) := by decide +kernel
theorem dC_move_1 : decode cC_move 1 = .ok (.invokestatic 75, 3) := by decide +kernel
theorem dC_move_4 : decode cC_move 4 = .ok (.ifCond .eq 10, 3) := by decide +kernel
theorem dC_move_7 : decode cC_move 7 = .ok (.iload_n 1, 1) := by decide +kernel
theorem dC_move_8 : decode cC_move 8 = .ok (.invokestatic 75, 3) := by decide +kernel
theorem dC_move_11 : decode cC_move 11 = .ok (.ifCond .ne 13, 3) := by decide +kernel
theorem dC_move_14 : decode cC_move 14 = .ok (.new 35, 3) := by decide +kernel
theorem dC_move_17 : decode cC_move 17 = .ok (.dup, 1) := by decide +kernel
theorem dC_move_18 : decode cC_move 18 = .ok (.ldc 79, 2) := by decide +kernel
theorem dC_move_20 : decode cC_move 20 = .ok (.invokespecial 39, 3) := by decide +kernel
theorem dC_move_23 : decode cC_move 23 = .ok (.athrow, 1) := by decide +kernel
theorem dC_move_24 : decode cC_move 24 = .ok (.aload_n 0, 1) := by decide +kernel
theorem dC_move_25 : decode cC_move 25 = .ok (.getfield 17, 3) := by decide +kernel
theorem dC_move_28 : decode cC_move 28 = .ok (.iload_n 2, 1) := by decide +kernel
theorem dC_move_29 : decode cC_move 29 = .ok (.iaload, 1) := by decide +kernel
theorem dC_move_30 : decode cC_move 30 = .ok (.istore 4, 2) := by decide +kernel
theorem dC_move_32 : decode cC_move 32 = .ok (.iload 4, 2) := by decide +kernel
theorem dC_move_34 : decode cC_move 34 = .ok (.iload_n 3, 1) := by decide +kernel
theorem dC_move_35 : decode cC_move 35 = .ok (.invokestatic 97, 3) := by decide +kernel
theorem dC_move_38 : decode cC_move 38 = .ok (.aload_n 0, 1) := by decide +kernel
theorem dC_move_39 : decode cC_move 39 = .ok (.iload_n 2, 1) := by decide +kernel
theorem dC_move_40 : decode cC_move 40 = .ok (.invokevirtual 69, 3) := by decide +kernel
theorem dC_move_43 : decode cC_move 43 = .ok (.lcmp, 1) := by decide +kernel
theorem dC_move_44 : decode cC_move 44 = .ok (.ifCond .ne 22, 3) := by decide +kernel
theorem dC_move_47 : decode cC_move 47 = .ok (.iload 4, 2) := by decide +kernel
theorem dC_move_49 : decode cC_move 49 = .ok (.iload_n 3, 1) := by decide +kernel
theorem dC_move_50 : decode cC_move 50 = .ok (.invokestatic 101, 3) := by decide +kernel
theorem dC_move_53 : decode cC_move 53 = .ok (.aload_n 0, 1) := by decide +kernel
theorem dC_move_54 : decode cC_move 54 = .ok (.iload_n 2, 1) := by decide +kernel
theorem dC_move_55 : decode cC_move 55 = .ok (.invokevirtual 72, 3) := by decide +kernel
theorem dC_move_58 : decode cC_move 58 = .ok (.lcmp, 1) := by decide +kernel
theorem dC_move_59 : decode cC_move 59 = .ok (.ifCond .ne 7, 3) := by decide +kernel
theorem dC_move_62 : decode cC_move 62 = .ok (.iconst 1, 1) := by decide +kernel
theorem dC_move_63 : decode cC_move 63 = .ok (.goto 4, 3) := by decide +kernel
theorem dC_move_66 : decode cC_move 66 = .ok (.iconst 0, 1) := by decide +kernel
theorem dC_move_67 : decode cC_move 67 = .ok (.istore 5, 2) := by decide +kernel
theorem dC_move_69 : decode cC_move 69 = .ok (.aload_n 0, 1) := by decide +kernel
theorem dC_move_70 : decode cC_move 70 = .ok (.iload_n 1, 1) := by decide +kernel
theorem dC_move_71 : decode cC_move 71 = .ok (.aload_n 0, 1) := by decide +kernel
theorem dC_move_72 : decode cC_move 72 = .ok (.iload_n 2, 1) := by decide +kernel
theorem dC_move_73 : decode cC_move 73 = .ok (.invokevirtual 89, 3) := by decide +kernel
theorem dC_move_76 : decode cC_move 76 = .ok (.ifCond .eq 12, 3) := by decide +kernel
theorem dC_move_79 : decode cC_move 79 = .ok (.iload 5, 2) := by decide +kernel
theorem dC_move_81 : decode cC_move 81 = .ok (.ifCond .eq 7, 3) := by decide +kernel
theorem dC_move_84 : decode cC_move 84 = .ok (.iconst 1, 1) := by decide +kernel
theorem dC_move_85 : decode cC_move 85 = .ok (.goto 4, 3) := by decide +kernel
theorem dC_move_88 : decode cC_move 88 = .ok (.iconst 0, 1) := by decide +kernel
theorem dC_move_89 : decode cC_move 89 = .ok (.iload_n 3, 1) := by decide +kernel
theorem dC_move_90 : decode cC_move 90 = .ok (.iload 4, 2) := by decide +kernel
theorem dC_move_92 : decode cC_move 92 = .ok (.invokevirtual 65, 3) := by decide +kernel
theorem dC_move_95 : decode cC_move 95 = .ok (.ireturn, 1) := by decide +kernel
theorem dC_keep_0 : decode cC_keep 0 = .ok (.iload_n 2, 1) := by decide +kernel
theorem dC_keep_1 : decode cC_keep 1 = .ok (.invokestatic 75, 3) := by decide +kernel
theorem dC_keep_4 : decode cC_keep 4 = .ok (.ifCond .eq 10, 3) := by decide +kernel
theorem dC_keep_7 : decode cC_keep 7 = .ok (.iload_n 1, 1) := by decide +kernel
theorem dC_keep_8 : decode cC_keep 8 = .ok (.invokestatic 75, 3) := by decide +kernel
theorem dC_keep_11 : decode cC_keep 11 = .ok (.ifCond .ne 13, 3) := by decide +kernel
theorem dC_keep_14 : decode cC_keep 14 = .ok (.new 35, 3) := by decide +kernel
theorem dC_keep_17 : decode cC_keep 17 = .ok (.dup, 1) := by decide +kernel
theorem dC_keep_18 : decode cC_keep 18 = .ok (.ldc 79, 2) := by decide +kernel
theorem dC_keep_20 : decode cC_keep 20 = .ok (.invokespecial 39, 3) := by decide +kernel
theorem dC_keep_23 : decode cC_keep 23 = .ok (.athrow, 1) := by decide +kernel
theorem dC_keep_24 : decode cC_keep 24 = .ok (.iload_n 3, 1) := by decide +kernel
theorem dC_keep_25 : decode cC_keep 25 = .ok (.iconst (-1), 1) := by decide +kernel
theorem dC_keep_26 : decode cC_keep 26 = .ok (.ixor, 1) := by decide +kernel
theorem dC_keep_27 : decode cC_keep 27 = .ok (.bipush 20, 2) := by decide +kernel
theorem dC_keep_29 : decode cC_keep 29 = .ok (.ishl, 1) := by decide +kernel
theorem dC_keep_30 : decode cC_keep 30 = .ok (.istore 4, 2) := by decide +kernel
theorem dC_keep_32 : decode cC_keep 32 = .ok (.aload_n 0, 1) := by decide +kernel
theorem dC_keep_33 : decode cC_keep 33 = .ok (.iload_n 1, 1) := by decide +kernel
theorem dC_keep_34 : decode cC_keep 34 = .ok (.aload_n 0, 1) := by decide +kernel
theorem dC_keep_35 : decode cC_keep 35 = .ok (.iload_n 2, 1) := by decide +kernel
theorem dC_keep_36 : decode cC_keep 36 = .ok (.invokevirtual 89, 3) := by decide +kernel
theorem dC_keep_39 : decode cC_keep 39 = .ok (.aload_n 0, 1) := by decide +kernel
theorem dC_keep_40 : decode cC_keep 40 = .ok (.getfield 13, 3) := by decide +kernel
theorem dC_keep_43 : decode cC_keep 43 = .ok (.iload_n 2, 1) := by decide +kernel
theorem dC_keep_44 : decode cC_keep 44 = .ok (.iaload, 1) := by decide +kernel
theorem dC_keep_45 : decode cC_keep 45 = .ok (.aload_n 0, 1) := by decide +kernel
theorem dC_keep_46 : decode cC_keep 46 = .ok (.getfield 17, 3) := by decide +kernel
theorem dC_keep_49 : decode cC_keep 49 = .ok (.iload_n 2, 1) := by decide +kernel
theorem dC_keep_50 : decode cC_keep 50 = .ok (.iaload, 1) := by decide +kernel
theorem dC_keep_51 : decode cC_keep 51 = .ok (.iload 4, 2) := by decide +kernel
theorem dC_keep_53 : decode cC_keep 53 = .ok (.iconst (-1), 1) := by decide +kernel
theorem dC_keep_54 : decode cC_keep 54 = .ok (.ixor, 1) := by decide +kernel
theorem dC_keep_55 : decode cC_keep 55 = .ok (.iand, 1) := by decide +kernel
theorem dC_keep_56 : decode cC_keep 56 = .ok (.invokevirtual 65, 3) := by decide +kernel
theorem dC_keep_59 : decode cC_keep 59 = .ok (.ireturn, 1) := by decide +kernel
theorem dC_seal_0 : decode cC_seal 0 = .ok (.iload_n 2, 1) := by decide +kernel
theorem dC_seal_1 : decode cC_seal 1 = .ok (.invokestatic 75, 3) := by decide +kernel
theorem dC_seal_4 : decode cC_seal 4 = .ok (.ifCond .eq 17, 3) := by decide +kernel
theorem dC_seal_7 : decode cC_seal 7 = .ok (.iload_n 1, 1) := by decide +kernel
theorem dC_seal_8 : decode cC_seal 8 = .ok (.invokestatic 75, 3) := by decide +kernel
theorem dC_seal_11 : decode cC_seal 11 = .ok (.ifCond .eq 10, 3) := by decide +kernel
theorem dC_seal_14 : decode cC_seal 14 = .ok (.iload_n 3, 1) := by decide +kernel
theorem dC_seal_15 : decode cC_seal 15 = .ok (.invokestatic 75, 3) := by decide +kernel
theorem dC_seal_18 : decode cC_seal 18 = .ok (.ifCond .ne 13, 3) := by decide +kernel
theorem dC_seal_21 : decode cC_seal 21 = .ok (.new 35, 3) := by decide +kernel
theorem dC_seal_24 : decode cC_seal 24 = .ok (.dup, 1) := by decide +kernel
theorem dC_seal_25 : decode cC_seal 25 = .ok (.ldc 79, 2) := by decide +kernel
theorem dC_seal_27 : decode cC_seal 27 = .ok (.invokespecial 39, 3) := by decide +kernel
theorem dC_seal_30 : decode cC_seal 30 = .ok (.athrow, 1) := by decide +kernel
theorem dC_seal_31 : decode cC_seal 31 = .ok (.aload_n 0, 1) := by decide +kernel
theorem dC_seal_32 : decode cC_seal 32 = .ok (.iload_n 2, 1) := by decide +kernel
theorem dC_seal_33 : decode cC_seal 33 = .ok (.invokevirtual 89, 3) := by decide +kernel
theorem dC_seal_36 : decode cC_seal 36 = .ok (.ifCond .eq 34, 3) := by decide +kernel
theorem dC_seal_39 : decode cC_seal 39 = .ok (.aload_n 0, 1) := by decide +kernel
theorem dC_seal_40 : decode cC_seal 40 = .ok (.iload_n 3, 1) := by decide +kernel
theorem dC_seal_41 : decode cC_seal 41 = .ok (.sipush 128, 3) := by decide +kernel
theorem dC_seal_44 : decode cC_seal 44 = .ok (.invokevirtual 104, 3) := by decide +kernel
theorem dC_seal_47 : decode cC_seal 47 = .ok (.ifCond .eq 23, 3) := by decide +kernel
theorem dC_seal_50 : decode cC_seal 50 = .ok (.aload_n 0, 1) := by decide +kernel
theorem dC_seal_51 : decode cC_seal 51 = .ok (.getfield 13, 3) := by decide +kernel
theorem dC_seal_54 : decode cC_seal 54 = .ok (.iload_n 3, 1) := by decide +kernel
theorem dC_seal_55 : decode cC_seal 55 = .ok (.iaload, 1) := by decide +kernel
theorem dC_seal_56 : decode cC_seal 56 = .ok (.invokestatic 56, 3) := by decide +kernel
theorem dC_seal_59 : decode cC_seal 59 = .ok (.ldc2_w 108, 3) := by decide +kernel
theorem dC_seal_62 : decode cC_seal 62 = .ok (.lcmp, 1) := by decide +kernel
theorem dC_seal_63 : decode cC_seal 63 = .ok (.ifCond .ge 7, 3) := by decide +kernel
theorem dC_seal_66 : decode cC_seal 66 = .ok (.iconst 1, 1) := by decide +kernel
theorem dC_seal_67 : decode cC_seal 67 = .ok (.goto 4, 3) := by decide +kernel
theorem dC_seal_70 : decode cC_seal 70 = .ok (.iconst 0, 1) := by decide +kernel
theorem dC_seal_71 : decode cC_seal 71 = .ok (.istore 4, 2) := by decide +kernel
theorem dC_seal_73 : decode cC_seal 73 = .ok (.aload_n 0, 1) := by decide +kernel
theorem dC_seal_74 : decode cC_seal 74 = .ok (.iload_n 1, 1) := by decide +kernel
theorem dC_seal_75 : decode cC_seal 75 = .ok (.iload 4, 2) := by decide +kernel
theorem dC_seal_77 : decode cC_seal 77 = .ok (.aload_n 0, 1) := by decide +kernel
theorem dC_seal_78 : decode cC_seal 78 = .ok (.getfield 13, 3) := by decide +kernel
theorem dC_seal_81 : decode cC_seal 81 = .ok (.iload_n 2, 1) := by decide +kernel
theorem dC_seal_82 : decode cC_seal 82 = .ok (.iaload, 1) := by decide +kernel
theorem dC_seal_83 : decode cC_seal 83 = .ok (.aload_n 0, 1) := by decide +kernel
theorem dC_seal_84 : decode cC_seal 84 = .ok (.getfield 17, 3) := by decide +kernel
theorem dC_seal_87 : decode cC_seal 87 = .ok (.iload_n 2, 1) := by decide +kernel
theorem dC_seal_88 : decode cC_seal 88 = .ok (.iaload, 1) := by decide +kernel
theorem dC_seal_89 : decode cC_seal 89 = .ok (.aload_n 0, 1) := by decide +kernel
theorem dC_seal_90 : decode cC_seal 90 = .ok (.getfield 13, 3) := by decide +kernel
theorem dC_seal_93 : decode cC_seal 93 = .ok (.iload_n 3, 1) := by decide +kernel
theorem dC_seal_94 : decode cC_seal 94 = .ok (.iaload, 1) := by decide +kernel
theorem dC_seal_95 : decode cC_seal 95 = .ok (.bipush 15, 2) := by decide +kernel
theorem dC_seal_97 : decode cC_seal 97 = .ok (.iand, 1) := by decide +kernel
theorem dC_seal_98 : decode cC_seal 98 = .ok (.invokestatic 110, 3) := by decide +kernel
theorem dC_seal_101 : decode cC_seal 101 = .ok (.invokevirtual 65, 3) := by decide +kernel
theorem dC_seal_104 : decode cC_seal 104 = .ok (.ireturn, 1) := by decide +kernel
theorem dC_isKey_0 : decode cC_isKey 0 = .ok (.aload_n 0, 1) := by decide +kernel
theorem dC_isKey_1 : decode cC_isKey 1 = .ok (.iload_n 1, 1) := by decide +kernel
theorem dC_isKey_2 : decode cC_isKey 2 = .ok (.invokevirtual 89, 3) := by decide +kernel
theorem dC_isKey_5 : decode cC_isKey 5 = .ok (.ifCond .eq 34, 3) := by decide +kernel
theorem dC_isKey_8 : decode cC_isKey 8 = .ok (.aload_n 0, 1) := by decide +kernel
theorem dC_isKey_9 : decode cC_isKey 9 = .ok (.iload_n 1, 1) := by decide +kernel
theorem dC_isKey_10 : decode cC_isKey 10 = .ok (.iload_n 2, 1) := by decide +kernel
theorem dC_isKey_11 : decode cC_isKey 11 = .ok (.invokevirtual 118, 3) := by decide +kernel
theorem dC_isKey_14 : decode cC_isKey 14 = .ok (.ifCond .eq 25, 3) := by decide +kernel
theorem dC_isKey_17 : decode cC_isKey 17 = .ok (.aload_n 0, 1) := by decide +kernel
theorem dC_isKey_18 : decode cC_isKey 18 = .ok (.iload_n 1, 1) := by decide +kernel
theorem dC_isKey_19 : decode cC_isKey 19 = .ok (.aload_n 0, 1) := by decide +kernel
theorem dC_isKey_20 : decode cC_isKey 20 = .ok (.getfield 13, 3) := by decide +kernel
theorem dC_isKey_23 : decode cC_isKey 23 = .ok (.iload_n 1, 1) := by decide +kernel
theorem dC_isKey_24 : decode cC_isKey 24 = .ok (.iaload, 1) := by decide +kernel
theorem dC_isKey_25 : decode cC_isKey 25 = .ok (.invokestatic 56, 3) := by decide +kernel
theorem dC_isKey_28 : decode cC_isKey 28 = .ok (.lconst 1, 1) := by decide +kernel
theorem dC_isKey_29 : decode cC_isKey 29 = .ok (.invokevirtual 92, 3) := by decide +kernel
theorem dC_isKey_32 : decode cC_isKey 32 = .ok (.ifCond .eq 7, 3) := by decide +kernel
theorem dC_isKey_35 : decode cC_isKey 35 = .ok (.iconst 1, 1) := by decide +kernel
theorem dC_isKey_36 : decode cC_isKey 36 = .ok (.goto 4, 3) := by decide +kernel
theorem dC_isKey_39 : decode cC_isKey 39 = .ok (.iconst 0, 1) := by decide +kernel
theorem dC_isKey_40 : decode cC_isKey 40 = .ok (.ireturn, 1) := by decide +kernel
theorem dC_hasPerm_0 : decode cC_hasPerm 0 = .ok (.aload_n 0, 1) := by decide +kernel
theorem dC_hasPerm_1 : decode cC_hasPerm 1 = .ok (.getfield 17, 3) := by decide +kernel
theorem dC_hasPerm_4 : decode cC_hasPerm 4 = .ok (.iload_n 1, 1) := by decide +kernel
theorem dC_hasPerm_5 : decode cC_hasPerm 5 = .ok (.iaload, 1) := by decide +kernel
theorem dC_hasPerm_6 : decode cC_hasPerm 6 = .ok (.invokestatic 122, 3) := by decide +kernel
theorem dC_hasPerm_9 : decode cC_hasPerm 9 = .ok (.iload_n 2, 1) := by decide +kernel
theorem dC_hasPerm_10 : decode cC_hasPerm 10 = .ok (.iand, 1) := by decide +kernel
theorem dC_hasPerm_11 : decode cC_hasPerm 11 = .ok (.ifCond .eq 7, 3) := by decide +kernel
theorem dC_hasPerm_14 : decode cC_hasPerm 14 = .ok (.iconst 1, 1) := by decide +kernel
theorem dC_hasPerm_15 : decode cC_hasPerm 15 = .ok (.goto 4, 3) := by decide +kernel
theorem dC_hasPerm_18 : decode cC_hasPerm 18 = .ok (.iconst 0, 1) := by decide +kernel
theorem dC_hasPerm_19 : decode cC_hasPerm 19 = .ok (.ireturn, 1) := by decide +kernel
theorem dC_withType_0 : decode cC_withType 0 = .ok (.iload_n 0, 1) := by decide +kernel
theorem dC_withType_1 : decode cC_withType 1 = .ok (.ldc 143, 2) := by decide +kernel
theorem dC_withType_3 : decode cC_withType 3 = .ok (.iand, 1) := by decide +kernel
theorem dC_withType_4 : decode cC_withType 4 = .ok (.iload_n 1, 1) := by decide +kernel
theorem dC_withType_5 : decode cC_withType 5 = .ok (.bipush 16, 2) := by decide +kernel
theorem dC_withType_7 : decode cC_withType 7 = .ok (.ishl, 1) := by decide +kernel
theorem dC_withType_8 : decode cC_withType 8 = .ok (.ior, 1) := by decide +kernel
theorem dC_withType_9 : decode cC_withType 9 = .ok (.ireturn, 1) := by decide +kernel
theorem dC_unseal_0 : decode cC_unseal 0 = .ok (.iload_n 2, 1) := by decide +kernel
theorem dC_unseal_1 : decode cC_unseal 1 = .ok (.invokestatic 75, 3) := by decide +kernel
theorem dC_unseal_4 : decode cC_unseal 4 = .ok (.ifCond .eq 17, 3) := by decide +kernel
theorem dC_unseal_7 : decode cC_unseal 7 = .ok (.iload_n 1, 1) := by decide +kernel
theorem dC_unseal_8 : decode cC_unseal 8 = .ok (.invokestatic 75, 3) := by decide +kernel
theorem dC_unseal_11 : decode cC_unseal 11 = .ok (.ifCond .eq 10, 3) := by decide +kernel
theorem dC_unseal_14 : decode cC_unseal 14 = .ok (.iload_n 3, 1) := by decide +kernel
theorem dC_unseal_15 : decode cC_unseal 15 = .ok (.invokestatic 75, 3) := by decide +kernel
theorem dC_unseal_18 : decode cC_unseal 18 = .ok (.ifCond .ne 13, 3) := by decide +kernel
theorem dC_unseal_21 : decode cC_unseal 21 = .ok (.new 35, 3) := by decide +kernel
theorem dC_unseal_24 : decode cC_unseal 24 = .ok (.dup, 1) := by decide +kernel
theorem dC_unseal_25 : decode cC_unseal 25 = .ok (.ldc 79, 2) := by decide +kernel
theorem dC_unseal_27 : decode cC_unseal 27 = .ok (.invokespecial 39, 3) := by decide +kernel
theorem dC_unseal_30 : decode cC_unseal 30 = .ok (.athrow, 1) := by decide +kernel
theorem dC_unseal_31 : decode cC_unseal 31 = .ok (.aload_n 0, 1) := by decide +kernel
theorem dC_unseal_32 : decode cC_unseal 32 = .ok (.getfield 17, 3) := by decide +kernel
theorem dC_unseal_35 : decode cC_unseal 35 = .ok (.iload_n 2, 1) := by decide +kernel
theorem dC_unseal_36 : decode cC_unseal 36 = .ok (.iaload, 1) := by decide +kernel
theorem dC_unseal_37 : decode cC_unseal 37 = .ok (.invokestatic 114, 3) := by decide +kernel
theorem dC_unseal_40 : decode cC_unseal 40 = .ok (.istore 4, 2) := by decide +kernel
theorem dC_unseal_42 : decode cC_unseal 42 = .ok (.aload_n 0, 1) := by decide +kernel
theorem dC_unseal_43 : decode cC_unseal 43 = .ok (.getfield 9, 3) := by decide +kernel
theorem dC_unseal_46 : decode cC_unseal 46 = .ok (.iload_n 2, 1) := by decide +kernel
theorem dC_unseal_47 : decode cC_unseal 47 = .ok (.baload, 1) := by decide +kernel
theorem dC_unseal_48 : decode cC_unseal 48 = .ok (.ifCond .eq 36, 3) := by decide +kernel
theorem dC_unseal_51 : decode cC_unseal 51 = .ok (.iload 4, 2) := by decide +kernel
theorem dC_unseal_53 : decode cC_unseal 53 = .ok (.bipush 12, 2) := by decide +kernel
theorem dC_unseal_55 : decode cC_unseal 55 = .ok (.if_icmp .ge 29, 3) := by decide +kernel
theorem dC_unseal_58 : decode cC_unseal 58 = .ok (.iload 4, 2) := by decide +kernel
theorem dC_unseal_60 : decode cC_unseal 60 = .ok (.aload_n 0, 1) := by decide +kernel
theorem dC_unseal_61 : decode cC_unseal 61 = .ok (.getfield 13, 3) := by decide +kernel
theorem dC_unseal_64 : decode cC_unseal 64 = .ok (.iload_n 3, 1) := by decide +kernel
theorem dC_unseal_65 : decode cC_unseal 65 = .ok (.iaload, 1) := by decide +kernel
theorem dC_unseal_66 : decode cC_unseal 66 = .ok (.if_icmp .ne 18, 3) := by decide +kernel
theorem dC_unseal_69 : decode cC_unseal 69 = .ok (.aload_n 0, 1) := by decide +kernel
theorem dC_unseal_70 : decode cC_unseal 70 = .ok (.iload_n 3, 1) := by decide +kernel
theorem dC_unseal_71 : decode cC_unseal 71 = .ok (.sipush 512, 3) := by decide +kernel
theorem dC_unseal_74 : decode cC_unseal 74 = .ok (.invokevirtual 104, 3) := by decide +kernel
theorem dC_unseal_77 : decode cC_unseal 77 = .ok (.ifCond .eq 7, 3) := by decide +kernel
theorem dC_unseal_80 : decode cC_unseal 80 = .ok (.iconst 1, 1) := by decide +kernel
theorem dC_unseal_81 : decode cC_unseal 81 = .ok (.goto 4, 3) := by decide +kernel
theorem dC_unseal_84 : decode cC_unseal 84 = .ok (.iconst 0, 1) := by decide +kernel
theorem dC_unseal_85 : decode cC_unseal 85 = .ok (.istore 5, 2) := by decide +kernel
theorem dC_unseal_87 : decode cC_unseal 87 = .ok (.aload_n 0, 1) := by decide +kernel
theorem dC_unseal_88 : decode cC_unseal 88 = .ok (.getfield 17, 3) := by decide +kernel
theorem dC_unseal_91 : decode cC_unseal 91 = .ok (.iload_n 2, 1) := by decide +kernel
theorem dC_unseal_92 : decode cC_unseal 92 = .ok (.iaload, 1) := by decide +kernel
theorem dC_unseal_93 : decode cC_unseal 93 = .ok (.bipush 15, 2) := by decide +kernel
theorem dC_unseal_95 : decode cC_unseal 95 = .ok (.invokestatic 110, 3) := by decide +kernel
theorem dC_unseal_98 : decode cC_unseal 98 = .ok (.istore 6, 2) := by decide +kernel
theorem dC_unseal_100 : decode cC_unseal 100 = .ok (.aload_n 0, 1) := by decide +kernel
theorem dC_unseal_101 : decode cC_unseal 101 = .ok (.iload_n 3, 1) := by decide +kernel
theorem dC_unseal_102 : decode cC_unseal 102 = .ok (.iconst 1, 1) := by decide +kernel
theorem dC_unseal_103 : decode cC_unseal 103 = .ok (.invokevirtual 118, 3) := by decide +kernel
theorem dC_unseal_106 : decode cC_unseal 106 = .ok (.ifCond .ne 10, 3) := by decide +kernel
theorem dC_unseal_109 : decode cC_unseal 109 = .ok (.iload 6, 2) := by decide +kernel
theorem dC_unseal_111 : decode cC_unseal 111 = .ok (.ldc 121, 2) := by decide +kernel
theorem dC_unseal_113 : decode cC_unseal 113 = .ok (.iand, 1) := by decide +kernel
theorem dC_unseal_114 : decode cC_unseal 114 = .ok (.istore 6, 2) := by decide +kernel
theorem dC_unseal_116 : decode cC_unseal 116 = .ok (.aload_n 0, 1) := by decide +kernel
theorem dC_unseal_117 : decode cC_unseal 117 = .ok (.iload_n 1, 1) := by decide +kernel
theorem dC_unseal_118 : decode cC_unseal 118 = .ok (.iload 5, 2) := by decide +kernel
theorem dC_unseal_120 : decode cC_unseal 120 = .ok (.aload_n 0, 1) := by decide +kernel
theorem dC_unseal_121 : decode cC_unseal 121 = .ok (.getfield 13, 3) := by decide +kernel
theorem dC_unseal_124 : decode cC_unseal 124 = .ok (.iload_n 2, 1) := by decide +kernel
theorem dC_unseal_125 : decode cC_unseal 125 = .ok (.iaload, 1) := by decide +kernel
theorem dC_unseal_126 : decode cC_unseal 126 = .ok (.iload 6, 2) := by decide +kernel
theorem dC_unseal_128 : decode cC_unseal 128 = .ok (.invokevirtual 65, 3) := by decide +kernel
theorem dC_unseal_131 : decode cC_unseal 131 = .ok (.ireturn, 1) := by decide +kernel
theorem dC_gate_0 : decode cC_gate 0 = .ok (.iload_n 2, 1) := by decide +kernel
theorem dC_gate_1 : decode cC_gate 1 = .ok (.invokestatic 75, 3) := by decide +kernel
theorem dC_gate_4 : decode cC_gate 4 = .ok (.ifCond .eq 10, 3) := by decide +kernel
theorem dC_gate_7 : decode cC_gate 7 = .ok (.iload_n 1, 1) := by decide +kernel
theorem dC_gate_8 : decode cC_gate 8 = .ok (.invokestatic 75, 3) := by decide +kernel
theorem dC_gate_11 : decode cC_gate 11 = .ok (.ifCond .ne 13, 3) := by decide +kernel
theorem dC_gate_14 : decode cC_gate 14 = .ok (.new 35, 3) := by decide +kernel
theorem dC_gate_17 : decode cC_gate 17 = .ok (.dup, 1) := by decide +kernel
theorem dC_gate_18 : decode cC_gate 18 = .ok (.ldc 79, 2) := by decide +kernel
theorem dC_gate_20 : decode cC_gate 20 = .ok (.invokespecial 39, 3) := by decide +kernel
theorem dC_gate_23 : decode cC_gate 23 = .ok (.athrow, 1) := by decide +kernel
theorem dC_gate_24 : decode cC_gate 24 = .ok (.aload_n 0, 1) := by decide +kernel
theorem dC_gate_25 : decode cC_gate 25 = .ok (.iload_n 2, 1) := by decide +kernel
theorem dC_gate_26 : decode cC_gate 26 = .ok (.invokevirtual 89, 3) := by decide +kernel
theorem dC_gate_29 : decode cC_gate 29 = .ok (.ifCond .eq 16, 3) := by decide +kernel
theorem dC_gate_32 : decode cC_gate 32 = .ok (.aload_n 0, 1) := by decide +kernel
theorem dC_gate_33 : decode cC_gate 33 = .ok (.iload_n 2, 1) := by decide +kernel
theorem dC_gate_34 : decode cC_gate 34 = .ok (.iconst 2, 1) := by decide +kernel
theorem dC_gate_35 : decode cC_gate 35 = .ok (.invokevirtual 118, 3) := by decide +kernel
theorem dC_gate_38 : decode cC_gate 38 = .ok (.ifCond .eq 7, 3) := by decide +kernel
theorem dC_gate_41 : decode cC_gate 41 = .ok (.iconst 1, 1) := by decide +kernel
theorem dC_gate_42 : decode cC_gate 42 = .ok (.goto 4, 3) := by decide +kernel
theorem dC_gate_45 : decode cC_gate 45 = .ok (.iconst 0, 1) := by decide +kernel
theorem dC_gate_46 : decode cC_gate 46 = .ok (.istore_n 3, 1) := by decide +kernel
theorem dC_gate_47 : decode cC_gate 47 = .ok (.aload_n 0, 1) := by decide +kernel
theorem dC_gate_48 : decode cC_gate 48 = .ok (.iload_n 1, 1) := by decide +kernel
theorem dC_gate_49 : decode cC_gate 49 = .ok (.iload_n 3, 1) := by decide +kernel
theorem dC_gate_50 : decode cC_gate 50 = .ok (.aload_n 0, 1) := by decide +kernel
theorem dC_gate_51 : decode cC_gate 51 = .ok (.getfield 13, 3) := by decide +kernel
theorem dC_gate_54 : decode cC_gate 54 = .ok (.iload_n 2, 1) := by decide +kernel
theorem dC_gate_55 : decode cC_gate 55 = .ok (.iaload, 1) := by decide +kernel
theorem dC_gate_56 : decode cC_gate 56 = .ok (.aload_n 0, 1) := by decide +kernel
theorem dC_gate_57 : decode cC_gate 57 = .ok (.getfield 17, 3) := by decide +kernel
theorem dC_gate_60 : decode cC_gate 60 = .ok (.iload_n 2, 1) := by decide +kernel
theorem dC_gate_61 : decode cC_gate 61 = .ok (.iaload, 1) := by decide +kernel
theorem dC_gate_62 : decode cC_gate 62 = .ok (.bipush 14, 2) := by decide +kernel
theorem dC_gate_64 : decode cC_gate 64 = .ok (.invokestatic 110, 3) := by decide +kernel
theorem dC_gate_67 : decode cC_gate 67 = .ok (.invokevirtual 65, 3) := by decide +kernel
theorem dC_gate_70 : decode cC_gate 70 = .ok (.ireturn, 1) := by decide +kernel
theorem dC_build_0 : decode cC_build 0 = .ok (.iload_n 2, 1) := by decide +kernel
theorem dC_build_1 : decode cC_build 1 = .ok (.invokestatic 75, 3) := by decide +kernel
theorem dC_build_4 : decode cC_build 4 = .ok (.ifCond .eq 17, 3) := by decide +kernel
theorem dC_build_7 : decode cC_build 7 = .ok (.iload_n 1, 1) := by decide +kernel
theorem dC_build_8 : decode cC_build 8 = .ok (.invokestatic 75, 3) := by decide +kernel
theorem dC_build_11 : decode cC_build 11 = .ok (.ifCond .eq 10, 3) := by decide +kernel
theorem dC_build_14 : decode cC_build 14 = .ok (.iload_n 3, 1) := by decide +kernel
theorem dC_build_15 : decode cC_build 15 = .ok (.invokestatic 75, 3) := by decide +kernel
theorem dC_build_18 : decode cC_build 18 = .ok (.ifCond .ne 13, 3) := by decide +kernel
theorem dC_build_21 : decode cC_build 21 = .ok (.new 35, 3) := by decide +kernel
theorem dC_build_24 : decode cC_build 24 = .ok (.dup, 1) := by decide +kernel
theorem dC_build_25 : decode cC_build 25 = .ok (.ldc 79, 2) := by decide +kernel
theorem dC_build_27 : decode cC_build 27 = .ok (.invokespecial 39, 3) := by decide +kernel
theorem dC_build_30 : decode cC_build 30 = .ok (.athrow, 1) := by decide +kernel
theorem dC_build_31 : decode cC_build 31 = .ok (.aload_n 0, 1) := by decide +kernel
theorem dC_build_32 : decode cC_build 32 = .ok (.iload_n 2, 1) := by decide +kernel
theorem dC_build_33 : decode cC_build 33 = .ok (.invokevirtual 89, 3) := by decide +kernel
theorem dC_build_36 : decode cC_build 36 = .ok (.ifCond .eq 48, 3) := by decide +kernel
theorem dC_build_39 : decode cC_build 39 = .ok (.aload_n 0, 1) := by decide +kernel
theorem dC_build_40 : decode cC_build 40 = .ok (.iload_n 3, 1) := by decide +kernel
theorem dC_build_41 : decode cC_build 41 = .ok (.invokevirtual 69, 3) := by decide +kernel
theorem dC_build_44 : decode cC_build 44 = .ok (.aload_n 0, 1) := by decide +kernel
theorem dC_build_45 : decode cC_build 45 = .ok (.iload_n 3, 1) := by decide +kernel
theorem dC_build_46 : decode cC_build 46 = .ok (.invokevirtual 72, 3) := by decide +kernel
theorem dC_build_49 : decode cC_build 49 = .ok (.lcmp, 1) := by decide +kernel
theorem dC_build_50 : decode cC_build 50 = .ok (.ifCond .gt 34, 3) := by decide +kernel
theorem dC_build_53 : decode cC_build 53 = .ok (.aload_n 0, 1) := by decide +kernel
theorem dC_build_54 : decode cC_build 54 = .ok (.iload_n 3, 1) := by decide +kernel
theorem dC_build_55 : decode cC_build 55 = .ok (.aload_n 0, 1) := by decide +kernel
theorem dC_build_56 : decode cC_build 56 = .ok (.iload_n 2, 1) := by decide +kernel
theorem dC_build_57 : decode cC_build 57 = .ok (.invokevirtual 69, 3) := by decide +kernel
theorem dC_build_60 : decode cC_build 60 = .ok (.aload_n 0, 1) := by decide +kernel
theorem dC_build_61 : decode cC_build 61 = .ok (.iload_n 2, 1) := by decide +kernel
theorem dC_build_62 : decode cC_build 62 = .ok (.invokevirtual 72, 3) := by decide +kernel
theorem dC_build_65 : decode cC_build 65 = .ok (.aload_n 0, 1) := by decide +kernel
theorem dC_build_66 : decode cC_build 66 = .ok (.getfield 17, 3) := by decide +kernel
theorem dC_build_69 : decode cC_build 69 = .ok (.iload_n 2, 1) := by decide +kernel
theorem dC_build_70 : decode cC_build 70 = .ok (.iaload, 1) := by decide +kernel
theorem dC_build_71 : decode cC_build 71 = .ok (.invokestatic 122, 3) := by decide +kernel
theorem dC_build_74 : decode cC_build 74 = .ok (.invokevirtual 125, 3) := by decide +kernel
theorem dC_build_77 : decode cC_build 77 = .ok (.ifCond .eq 7, 3) := by decide +kernel
theorem dC_build_80 : decode cC_build 80 = .ok (.iconst 1, 1) := by decide +kernel
theorem dC_build_81 : decode cC_build 81 = .ok (.goto 4, 3) := by decide +kernel
theorem dC_build_84 : decode cC_build 84 = .ok (.iconst 0, 1) := by decide +kernel
theorem dC_build_85 : decode cC_build 85 = .ok (.istore 4, 2) := by decide +kernel
theorem dC_build_87 : decode cC_build 87 = .ok (.aload_n 0, 1) := by decide +kernel
theorem dC_build_88 : decode cC_build 88 = .ok (.getfield 17, 3) := by decide +kernel
theorem dC_build_91 : decode cC_build 91 = .ok (.iload_n 3, 1) := by decide +kernel
theorem dC_build_92 : decode cC_build 92 = .ok (.iaload, 1) := by decide +kernel
theorem dC_build_93 : decode cC_build 93 = .ok (.invokestatic 114, 3) := by decide +kernel
theorem dC_build_96 : decode cC_build 96 = .ok (.bipush 14, 2) := by decide +kernel
theorem dC_build_98 : decode cC_build 98 = .ok (.if_icmp .ne 8, 3) := by decide +kernel
theorem dC_build_101 : decode cC_build 101 = .ok (.bipush 14, 2) := by decide +kernel
theorem dC_build_103 : decode cC_build 103 = .ok (.goto 5, 3) := by decide +kernel
theorem dC_build_106 : decode cC_build 106 = .ok (.bipush 15, 2) := by decide +kernel
theorem dC_build_108 : decode cC_build 108 = .ok (.istore 5, 2) := by decide +kernel
theorem dC_build_110 : decode cC_build 110 = .ok (.aload_n 0, 1) := by decide +kernel
theorem dC_build_111 : decode cC_build 111 = .ok (.iload_n 1, 1) := by decide +kernel
theorem dC_build_112 : decode cC_build 112 = .ok (.iload 4, 2) := by decide +kernel
theorem dC_build_114 : decode cC_build 114 = .ok (.aload_n 0, 1) := by decide +kernel
theorem dC_build_115 : decode cC_build 115 = .ok (.getfield 13, 3) := by decide +kernel
theorem dC_build_118 : decode cC_build 118 = .ok (.iload_n 3, 1) := by decide +kernel
theorem dC_build_119 : decode cC_build 119 = .ok (.iaload, 1) := by decide +kernel
theorem dC_build_120 : decode cC_build 120 = .ok (.aload_n 0, 1) := by decide +kernel
theorem dC_build_121 : decode cC_build 121 = .ok (.getfield 17, 3) := by decide +kernel
theorem dC_build_124 : decode cC_build 124 = .ok (.iload_n 3, 1) := by decide +kernel
theorem dC_build_125 : decode cC_build 125 = .ok (.iaload, 1) := by decide +kernel
theorem dC_build_126 : decode cC_build 126 = .ok (.iload 5, 2) := by decide +kernel
theorem dC_build_128 : decode cC_build 128 = .ok (.invokestatic 110, 3) := by decide +kernel
theorem dC_build_131 : decode cC_build 131 = .ok (.invokevirtual 65, 3) := by decide +kernel
theorem dC_build_134 : decode cC_build 134 = .ok (.ireturn, 1) := by decide +kernel
theorem dC_subset_0 : decode cC_subset 0 = .ok (.iload_n 1, 1) := by decide +kernel
theorem dC_subset_1 : decode cC_subset 1 = .ok (.invokestatic 75, 3) := by decide +kernel
theorem dC_subset_4 : decode cC_subset 4 = .ok (.ifCond .eq 10, 3) := by decide +kernel
theorem dC_subset_7 : decode cC_subset 7 = .ok (.iload_n 2, 1) := by decide +kernel
theorem dC_subset_8 : decode cC_subset 8 = .ok (.invokestatic 75, 3) := by decide +kernel
theorem dC_subset_11 : decode cC_subset 11 = .ok (.ifCond .ne 13, 3) := by decide +kernel
theorem dC_subset_14 : decode cC_subset 14 = .ok (.new 35, 3) := by decide +kernel
theorem dC_subset_17 : decode cC_subset 17 = .ok (.dup, 1) := by decide +kernel
theorem dC_subset_18 : decode cC_subset 18 = .ok (.ldc 79, 2) := by decide +kernel
theorem dC_subset_20 : decode cC_subset 20 = .ok (.invokespecial 39, 3) := by decide +kernel
theorem dC_subset_23 : decode cC_subset 23 = .ok (.athrow, 1) := by decide +kernel
theorem dC_subset_24 : decode cC_subset 24 = .ok (.aload_n 0, 1) := by decide +kernel
theorem dC_subset_25 : decode cC_subset 25 = .ok (.getfield 9, 3) := by decide +kernel
theorem dC_subset_28 : decode cC_subset 28 = .ok (.iload_n 1, 1) := by decide +kernel
theorem dC_subset_29 : decode cC_subset 29 = .ok (.baload, 1) := by decide +kernel
theorem dC_subset_30 : decode cC_subset 30 = .ok (.aload_n 0, 1) := by decide +kernel
theorem dC_subset_31 : decode cC_subset 31 = .ok (.getfield 9, 3) := by decide +kernel
theorem dC_subset_34 : decode cC_subset 34 = .ok (.iload_n 2, 1) := by decide +kernel
theorem dC_subset_35 : decode cC_subset 35 = .ok (.baload, 1) := by decide +kernel
theorem dC_subset_36 : decode cC_subset 36 = .ok (.if_icmp .ne 34, 3) := by decide +kernel
theorem dC_subset_39 : decode cC_subset 39 = .ok (.aload_n 0, 1) := by decide +kernel
theorem dC_subset_40 : decode cC_subset 40 = .ok (.iload_n 2, 1) := by decide +kernel
theorem dC_subset_41 : decode cC_subset 41 = .ok (.aload_n 0, 1) := by decide +kernel
theorem dC_subset_42 : decode cC_subset 42 = .ok (.iload_n 1, 1) := by decide +kernel
theorem dC_subset_43 : decode cC_subset 43 = .ok (.invokevirtual 69, 3) := by decide +kernel
theorem dC_subset_46 : decode cC_subset 46 = .ok (.aload_n 0, 1) := by decide +kernel
theorem dC_subset_47 : decode cC_subset 47 = .ok (.iload_n 1, 1) := by decide +kernel
theorem dC_subset_48 : decode cC_subset 48 = .ok (.invokevirtual 72, 3) := by decide +kernel
theorem dC_subset_51 : decode cC_subset 51 = .ok (.aload_n 0, 1) := by decide +kernel
theorem dC_subset_52 : decode cC_subset 52 = .ok (.getfield 17, 3) := by decide +kernel
theorem dC_subset_55 : decode cC_subset 55 = .ok (.iload_n 1, 1) := by decide +kernel
theorem dC_subset_56 : decode cC_subset 56 = .ok (.iaload, 1) := by decide +kernel
theorem dC_subset_57 : decode cC_subset 57 = .ok (.invokestatic 122, 3) := by decide +kernel
theorem dC_subset_60 : decode cC_subset 60 = .ok (.invokevirtual 125, 3) := by decide +kernel
theorem dC_subset_63 : decode cC_subset 63 = .ok (.ifCond .eq 7, 3) := by decide +kernel
theorem dC_subset_66 : decode cC_subset 66 = .ok (.iconst 1, 1) := by decide +kernel
theorem dC_subset_67 : decode cC_subset 67 = .ok (.goto 4, 3) := by decide +kernel
theorem dC_subset_70 : decode cC_subset 70 = .ok (.iconst 0, 1) := by decide +kernel
theorem dC_subset_71 : decode cC_subset 71 = .ok (.ireturn, 1) := by decide +kernel
theorem dC_told_0 : decode cC_told 0 = .ok (.iload_n 1, 1) := by decide +kernel
theorem dC_told_1 : decode cC_told 1 = .ok (.invokestatic 75, 3) := by decide +kernel
theorem dC_told_4 : decode cC_told 4 = .ok (.ifCond .ne 13, 3) := by decide +kernel
theorem dC_told_7 : decode cC_told 7 = .ok (.new 35, 3) := by decide +kernel
theorem dC_told_10 : decode cC_told 10 = .ok (.dup, 1) := by decide +kernel
theorem dC_told_11 : decode cC_told 11 = .ok (.ldc 79, 2) := by decide +kernel
theorem dC_told_13 : decode cC_told 13 = .ok (.invokespecial 39, 3) := by decide +kernel
theorem dC_told_16 : decode cC_told 16 = .ok (.athrow, 1) := by decide +kernel
theorem dC_told_17 : decode cC_told 17 = .ok (.iload_n 2, 1) := by decide +kernel
theorem dC_told_18 : decode cC_told 18 = .ok (.tableswitch 136 0 7 #[46, 61, 69, 80, 86, 98, 109, 120], 46) := by decide +kernel
theorem dC_told_64 : decode cC_told 64 = .ok (.aload_n 0, 1) := by decide +kernel
theorem dC_told_65 : decode cC_told 65 = .ok (.getfield 9, 3) := by decide +kernel
theorem dC_told_68 : decode cC_told 68 = .ok (.iload_n 1, 1) := by decide +kernel
theorem dC_told_69 : decode cC_told 69 = .ok (.baload, 1) := by decide +kernel
theorem dC_told_70 : decode cC_told 70 = .ok (.ifCond .eq 7, 3) := by decide +kernel
theorem dC_told_73 : decode cC_told 73 = .ok (.lconst 1, 1) := by decide +kernel
theorem dC_told_74 : decode cC_told 74 = .ok (.goto 4, 3) := by decide +kernel
theorem dC_told_77 : decode cC_told 77 = .ok (.lconst 0, 1) := by decide +kernel
theorem dC_told_78 : decode cC_told 78 = .ok (.lreturn, 1) := by decide +kernel
theorem dC_told_79 : decode cC_told 79 = .ok (.aload_n 0, 1) := by decide +kernel
theorem dC_told_80 : decode cC_told 80 = .ok (.getfield 13, 3) := by decide +kernel
theorem dC_told_83 : decode cC_told 83 = .ok (.iload_n 1, 1) := by decide +kernel
theorem dC_told_84 : decode cC_told 84 = .ok (.iaload, 1) := by decide +kernel
theorem dC_told_85 : decode cC_told 85 = .ok (.i2l, 1) := by decide +kernel
theorem dC_told_86 : decode cC_told 86 = .ok (.lreturn, 1) := by decide +kernel
theorem dC_told_87 : decode cC_told 87 = .ok (.aload_n 0, 1) := by decide +kernel
theorem dC_told_88 : decode cC_told 88 = .ok (.getfield 17, 3) := by decide +kernel
theorem dC_told_91 : decode cC_told 91 = .ok (.iload_n 1, 1) := by decide +kernel
theorem dC_told_92 : decode cC_told 92 = .ok (.iaload, 1) := by decide +kernel
theorem dC_told_93 : decode cC_told 93 = .ok (.ldc 20, 2) := by decide +kernel
theorem dC_told_95 : decode cC_told 95 = .ok (.ixor, 1) := by decide +kernel
theorem dC_told_96 : decode cC_told 96 = .ok (.i2l, 1) := by decide +kernel
theorem dC_told_97 : decode cC_told 97 = .ok (.lreturn, 1) := by decide +kernel
theorem dC_told_98 : decode cC_told 98 = .ok (.aload_n 0, 1) := by decide +kernel
theorem dC_told_99 : decode cC_told 99 = .ok (.iload_n 1, 1) := by decide +kernel
theorem dC_told_100 : decode cC_told 100 = .ok (.invokevirtual 69, 3) := by decide +kernel
theorem dC_told_103 : decode cC_told 103 = .ok (.lreturn, 1) := by decide +kernel
theorem dC_told_104 : decode cC_told 104 = .ok (.aload_n 0, 1) := by decide +kernel
theorem dC_told_105 : decode cC_told 105 = .ok (.iload_n 1, 1) := by decide +kernel
theorem dC_told_106 : decode cC_told 106 = .ok (.invokevirtual 72, 3) := by decide +kernel
theorem dC_told_109 : decode cC_told 109 = .ok (.aload_n 0, 1) := by decide +kernel
theorem dC_told_110 : decode cC_told 110 = .ok (.iload_n 1, 1) := by decide +kernel
theorem dC_told_111 : decode cC_told 111 = .ok (.invokevirtual 69, 3) := by decide +kernel
theorem dC_told_114 : decode cC_told 114 = .ok (.lsub, 1) := by decide +kernel
theorem dC_told_115 : decode cC_told 115 = .ok (.lreturn, 1) := by decide +kernel
theorem dC_told_116 : decode cC_told 116 = .ok (.aload_n 0, 1) := by decide +kernel
theorem dC_told_117 : decode cC_told 117 = .ok (.getfield 17, 3) := by decide +kernel
theorem dC_told_120 : decode cC_told 120 = .ok (.iload_n 1, 1) := by decide +kernel
theorem dC_told_121 : decode cC_told 121 = .ok (.iaload, 1) := by decide +kernel
theorem dC_told_122 : decode cC_told 122 = .ok (.invokestatic 122, 3) := by decide +kernel
theorem dC_told_125 : decode cC_told 125 = .ok (.i2l, 1) := by decide +kernel
theorem dC_told_126 : decode cC_told 126 = .ok (.lreturn, 1) := by decide +kernel
theorem dC_told_127 : decode cC_told 127 = .ok (.aload_n 0, 1) := by decide +kernel
theorem dC_told_128 : decode cC_told 128 = .ok (.getfield 17, 3) := by decide +kernel
theorem dC_told_131 : decode cC_told 131 = .ok (.iload_n 1, 1) := by decide +kernel
theorem dC_told_132 : decode cC_told 132 = .ok (.iaload, 1) := by decide +kernel
theorem dC_told_133 : decode cC_told 133 = .ok (.invokestatic 114, 3) := by decide +kernel
theorem dC_told_136 : decode cC_told 136 = .ok (.i2l, 1) := by decide +kernel
theorem dC_told_137 : decode cC_told 137 = .ok (.lreturn, 1) := by decide +kernel
theorem dC_told_138 : decode cC_told 138 = .ok (.aload_n 0, 1) := by decide +kernel
theorem dC_told_139 : decode cC_told 139 = .ok (.getfield 13, 3) := by decide +kernel
theorem dC_told_142 : decode cC_told 142 = .ok (.iload_n 1, 1) := by decide +kernel
theorem dC_told_143 : decode cC_told 143 = .ok (.iaload, 1) := by decide +kernel
theorem dC_told_144 : decode cC_told 144 = .ok (.invokestatic 56, 3) := by decide +kernel
theorem dC_told_147 : decode cC_told 147 = .ok (.aload_n 0, 1) := by decide +kernel
theorem dC_told_148 : decode cC_told 148 = .ok (.iload_n 1, 1) := by decide +kernel
theorem dC_told_149 : decode cC_told 149 = .ok (.invokevirtual 69, 3) := by decide +kernel
theorem dC_told_152 : decode cC_told 152 = .ok (.lsub, 1) := by decide +kernel
theorem dC_told_153 : decode cC_told 153 = .ok (.lreturn, 1) := by decide +kernel
theorem dC_told_154 : decode cC_told 154 = .ok (.new 46, 3) := by decide +kernel
theorem dC_told_157 : decode cC_told 157 = .ok (.dup, 1) := by decide +kernel
theorem dC_told_158 : decode cC_told 158 = .ok (.ldc 129, 2) := by decide +kernel
theorem dC_told_160 : decode cC_told 160 = .ok (.invokespecial 50, 3) := by decide +kernel
theorem dC_told_163 : decode cC_told 163 = .ok (.athrow, 1) := by decide +kernel
theorem dC_reaches_0 : decode cC_reaches 0 = .ok (.iload_n 1, 1) := by decide +kernel
theorem dC_reaches_1 : decode cC_reaches 1 = .ok (.invokestatic 75, 3) := by decide +kernel
theorem dC_reaches_4 : decode cC_reaches 4 = .ok (.ifCond .ne 13, 3) := by decide +kernel
theorem dC_reaches_7 : decode cC_reaches 7 = .ok (.new 35, 3) := by decide +kernel
theorem dC_reaches_10 : decode cC_reaches 10 = .ok (.dup, 1) := by decide +kernel
theorem dC_reaches_11 : decode cC_reaches 11 = .ok (.ldc 79, 2) := by decide +kernel
theorem dC_reaches_13 : decode cC_reaches 13 = .ok (.invokespecial 39, 3) := by decide +kernel
theorem dC_reaches_16 : decode cC_reaches 16 = .ok (.athrow, 1) := by decide +kernel
theorem dC_reaches_17 : decode cC_reaches 17 = .ok (.iload_n 3, 1) := by decide +kernel
theorem dC_reaches_18 : decode cC_reaches 18 = .ok (.ifCond .lt 10, 3) := by decide +kernel
theorem dC_reaches_21 : decode cC_reaches 21 = .ok (.iload_n 3, 1) := by decide +kernel
theorem dC_reaches_22 : decode cC_reaches 22 = .ok (.sipush 4096, 3) := by decide +kernel
theorem dC_reaches_25 : decode cC_reaches 25 = .ok (.if_icmp .le 13, 3) := by decide +kernel
theorem dC_reaches_28 : decode cC_reaches 28 = .ok (.new 46, 3) := by decide +kernel
theorem dC_reaches_31 : decode cC_reaches 31 = .ok (.dup, 1) := by decide +kernel
theorem dC_reaches_32 : decode cC_reaches 32 = .ok (.ldc 131, 2) := by decide +kernel
theorem dC_reaches_34 : decode cC_reaches 34 = .ok (.invokespecial 50, 3) := by decide +kernel
theorem dC_reaches_37 : decode cC_reaches 37 = .ok (.athrow, 1) := by decide +kernel
theorem dC_reaches_38 : decode cC_reaches 38 = .ok (.aload_n 0, 1) := by decide +kernel
theorem dC_reaches_39 : decode cC_reaches 39 = .ok (.iload_n 1, 1) := by decide +kernel
theorem dC_reaches_40 : decode cC_reaches 40 = .ok (.iload_n 2, 1) := by decide +kernel
theorem dC_reaches_41 : decode cC_reaches 41 = .ok (.invokestatic 56, 3) := by decide +kernel
theorem dC_reaches_44 : decode cC_reaches 44 = .ok (.iload_n 3, 1) := by decide +kernel
theorem dC_reaches_45 : decode cC_reaches 45 = .ok (.i2l, 1) := by decide +kernel
theorem dC_reaches_46 : decode cC_reaches 46 = .ok (.invokevirtual 92, 3) := by decide +kernel
theorem dC_reaches_49 : decode cC_reaches 49 = .ok (.ireturn, 1) := by decide +kernel
theorem dC_pack_0 : decode cC_pack 0 = .ok (.iload_n 1, 1) := by decide +kernel
theorem dC_pack_1 : decode cC_pack 1 = .ok (.lload_n 2, 1) := by decide +kernel
theorem dC_pack_2 : decode cC_pack 2 = .ok (.invokestatic 42, 3) := by decide +kernel
theorem dC_pack_5 : decode cC_pack 5 = .ok (.ifCond .ne 13, 3) := by decide +kernel
theorem dC_pack_8 : decode cC_pack 8 = .ok (.new 46, 3) := by decide +kernel
theorem dC_pack_11 : decode cC_pack 11 = .ok (.dup, 1) := by decide +kernel
theorem dC_pack_12 : decode cC_pack 12 = .ok (.ldc 133, 2) := by decide +kernel
theorem dC_pack_14 : decode cC_pack 14 = .ok (.invokespecial 50, 3) := by decide +kernel
theorem dC_pack_17 : decode cC_pack 17 = .ok (.athrow, 1) := by decide +kernel
theorem dC_pack_18 : decode cC_pack 18 = .ok (.iload_n 1, 1) := by decide +kernel
theorem dC_pack_19 : decode cC_pack 19 = .ok (.invokestatic 56, 3) := by decide +kernel
theorem dC_pack_22 : decode cC_pack 22 = .ok (.iload_n 1, 1) := by decide +kernel
theorem dC_pack_23 : decode cC_pack 23 = .ok (.invokestatic 56, 3) := by decide +kernel
theorem dC_pack_26 : decode cC_pack 26 = .ok (.lload_n 2, 1) := by decide +kernel
theorem dC_pack_27 : decode cC_pack 27 = .ok (.ladd, 1) := by decide +kernel
theorem dC_pack_28 : decode cC_pack 28 = .ok (.invokestatic 60, 3) := by decide +kernel
theorem dC_pack_31 : decode cC_pack 31 = .ok (.ireturn, 1) := by decide +kernel
theorem dC_rounded_0 : decode cC_rounded 0 = .ok (.iconst 0, 1) := by decide +kernel
theorem dC_rounded_1 : decode cC_rounded 1 = .ok (.lload_n 1, 1) := by decide +kernel
theorem dC_rounded_2 : decode cC_rounded 2 = .ok (.invokestatic 42, 3) := by decide +kernel
theorem dC_rounded_5 : decode cC_rounded 5 = .ok (.ifCond .ne 13, 3) := by decide +kernel
theorem dC_rounded_8 : decode cC_rounded 8 = .ok (.new 46, 3) := by decide +kernel
theorem dC_rounded_11 : decode cC_rounded 11 = .ok (.dup, 1) := by decide +kernel
theorem dC_rounded_12 : decode cC_rounded 12 = .ok (.ldc 135, 2) := by decide +kernel
theorem dC_rounded_14 : decode cC_rounded 14 = .ok (.invokespecial 50, 3) := by decide +kernel
theorem dC_rounded_17 : decode cC_rounded 17 = .ok (.athrow, 1) := by decide +kernel
theorem dC_rounded_18 : decode cC_rounded 18 = .ok (.lconst 0, 1) := by decide +kernel
theorem dC_rounded_19 : decode cC_rounded 19 = .ok (.lload_n 1, 1) := by decide +kernel
theorem dC_rounded_20 : decode cC_rounded 20 = .ok (.invokestatic 60, 3) := by decide +kernel
theorem dC_rounded_23 : decode cC_rounded 23 = .ok (.istore 4, 2) := by decide +kernel
theorem dC_rounded_25 : decode cC_rounded 25 = .ok (.iload_n 3, 1) := by decide +kernel
theorem dC_rounded_26 : decode cC_rounded 26 = .ok (.ifCond .ne 10, 3) := by decide +kernel
theorem dC_rounded_29 : decode cC_rounded 29 = .ok (.iload 4, 2) := by decide +kernel
theorem dC_rounded_31 : decode cC_rounded 31 = .ok (.iconst 0, 1) := by decide +kernel
theorem dC_rounded_32 : decode cC_rounded 32 = .ok (.invokestatic 101, 3) := by decide +kernel
theorem dC_rounded_35 : decode cC_rounded 35 = .ok (.lreturn, 1) := by decide +kernel
theorem dC_rounded_36 : decode cC_rounded 36 = .ok (.iload 4, 2) := by decide +kernel
theorem dC_rounded_38 : decode cC_rounded 38 = .ok (.sipush 16384, 3) := by decide +kernel
theorem dC_rounded_41 : decode cC_rounded 41 = .ok (.iand, 1) := by decide +kernel
theorem dC_rounded_42 : decode cC_rounded 42 = .ok (.ifCond .eq 15, 3) := by decide +kernel
theorem dC_rounded_45 : decode cC_rounded 45 = .ok (.lconst 1, 1) := by decide +kernel
theorem dC_rounded_46 : decode cC_rounded 46 = .ok (.iload 4, 2) := by decide +kernel
theorem dC_rounded_48 : decode cC_rounded 48 = .ok (.invokestatic 137, 3) := by decide +kernel
theorem dC_rounded_51 : decode cC_rounded 51 = .ok (.iconst 3, 1) := by decide +kernel
theorem dC_rounded_52 : decode cC_rounded 52 = .ok (.iadd, 1) := by decide +kernel
theorem dC_rounded_53 : decode cC_rounded 53 = .ok (.lshl, 1) := by decide +kernel
theorem dC_rounded_54 : decode cC_rounded 54 = .ok (.goto 4, 3) := by decide +kernel
theorem dC_rounded_57 : decode cC_rounded 57 = .ok (.lconst 1, 1) := by decide +kernel
theorem dC_rounded_58 : decode cC_rounded 58 = .ok (.lreturn, 1) := by decide +kernel
theorem dJ_floorMod_0 : decode cJ_floorMod 0 = .ok (.lload_n 0, 1) := by decide +kernel
theorem dJ_floorMod_1 : decode cJ_floorMod 1 = .ok (.lload_n 2, 1) := by decide +kernel
theorem dJ_floorMod_2 : decode cJ_floorMod 2 = .ok (.lrem, 1) := by decide +kernel
theorem dJ_floorMod_3 : decode cJ_floorMod 3 = .ok (.lstore 4, 2) := by decide +kernel
theorem dJ_floorMod_5 : decode cJ_floorMod 5 = .ok (.lload_n 0, 1) := by decide +kernel
theorem dJ_floorMod_6 : decode cJ_floorMod 6 = .ok (.lload_n 2, 1) := by decide +kernel
theorem dJ_floorMod_7 : decode cJ_floorMod 7 = .ok (.lxor, 1) := by decide +kernel
theorem dJ_floorMod_8 : decode cJ_floorMod 8 = .ok (.lconst 0, 1) := by decide +kernel
theorem dJ_floorMod_9 : decode cJ_floorMod 9 = .ok (.lcmp, 1) := by decide +kernel
theorem dJ_floorMod_10 : decode cJ_floorMod 10 = .ok (.ifCond .ge 15, 3) := by decide +kernel
theorem dJ_floorMod_13 : decode cJ_floorMod 13 = .ok (.lload 4, 2) := by decide +kernel
theorem dJ_floorMod_15 : decode cJ_floorMod 15 = .ok (.lconst 0, 1) := by decide +kernel
theorem dJ_floorMod_16 : decode cJ_floorMod 16 = .ok (.lcmp, 1) := by decide +kernel
theorem dJ_floorMod_17 : decode cJ_floorMod 17 = .ok (.ifCond .eq 8, 3) := by decide +kernel
theorem dJ_floorMod_20 : decode cJ_floorMod 20 = .ok (.lload 4, 2) := by decide +kernel
theorem dJ_floorMod_22 : decode cJ_floorMod 22 = .ok (.lload_n 2, 1) := by decide +kernel
theorem dJ_floorMod_23 : decode cJ_floorMod 23 = .ok (.ladd, 1) := by decide +kernel
theorem dJ_floorMod_24 : decode cJ_floorMod 24 = .ok (.lreturn, 1) := by decide +kernel
theorem dJ_floorMod_25 : decode cJ_floorMod 25 = .ok (.lload 4, 2) := by decide +kernel
theorem dJ_floorMod_27 : decode cJ_floorMod 27 = .ok (.lreturn, 1) := by decide +kernel
end
section
theorem dM_init_0 : decode cM_init 0 = .ok (.aload_n 0, 1) := by decide +kernel
theorem dM_init_1 : decode cM_init 1 = .ok (.invokespecial 1, 3) := by decide +kernel
theorem dM_init_4 : decode cM_init 4 = .ok (.aload_n 0, 1) := by decide +kernel
theorem dM_init_5 : decode cM_init 5 = .ok (.bipush 32, 2) := by decide +kernel
theorem dM_init_7 : decode cM_init 7 = .ok (.newarray .boolean, 2) := by decide +kernel
theorem dM_init_9 : decode cM_init 9 = .ok (.putfield 7, 3) := by decide +kernel
theorem dM_init_12 : decode cM_init 12 = .ok (.aload_n 0, 1) := by decide +kernel
theorem dM_init_13 : decode cM_init 13 = .ok (.bipush 32, 2) := by decide +kernel
theorem dM_init_15 : decode cM_init 15 = .ok (.newarray .int, 2) := by decide +kernel
theorem dM_init_17 : decode cM_init 17 = .ok (.putfield 13, 3) := by decide +kernel
theorem dM_init_20 : decode cM_init 20 = .ok (.aload_n 0, 1) := by decide +kernel
theorem dM_init_21 : decode cM_init 21 = .ok (.bipush 32, 2) := by decide +kernel
theorem dM_init_23 : decode cM_init 23 = .ok (.newarray .int, 2) := by decide +kernel
theorem dM_init_25 : decode cM_init 25 = .ok (.putfield 17, 3) := by decide +kernel
theorem dM_init_28 : decode cM_init 28 = .ok (.aload_n 0, 1) := by decide +kernel
theorem dM_init_29 : decode cM_init 29 = .ok (.bipush 8, 2) := by decide +kernel
theorem dM_init_31 : decode cM_init 31 = .ok (.newarray .long, 2) := by decide +kernel
theorem dM_init_33 : decode cM_init 33 = .ok (.putfield 20, 3) := by decide +kernel
theorem dM_init_36 : decode cM_init 36 = .ok (.aload_n 0, 1) := by decide +kernel
theorem dM_init_37 : decode cM_init 37 = .ok (.bipush 8, 2) := by decide +kernel
theorem dM_init_39 : decode cM_init 39 = .ok (.newarray .long, 2) := by decide +kernel
theorem dM_init_41 : decode cM_init 41 = .ok (.putfield 24, 3) := by decide +kernel
theorem dM_init_44 : decode cM_init 44 = .ok (.aload_n 0, 1) := by decide +kernel
theorem dM_init_45 : decode cM_init 45 = .ok (.bipush 8, 2) := by decide +kernel
theorem dM_init_47 : decode cM_init 47 = .ok (.newarray .int, 2) := by decide +kernel
theorem dM_init_49 : decode cM_init 49 = .ok (.putfield 27, 3) := by decide +kernel
theorem dM_init_52 : decode cM_init 52 = .ok (.iconst 0, 1) := by decide +kernel
theorem dM_init_53 : decode cM_init 53 = .ok (.istore_n 1, 1) := by decide +kernel
theorem dM_init_54 : decode cM_init 54 = .ok (.iload_n 1, 1) := by decide +kernel
theorem dM_init_55 : decode cM_init 55 = .ok (.bipush 32, 2) := by decide +kernel
theorem dM_init_57 : decode cM_init 57 = .ok (.if_icmp .ge 17, 3) := by decide +kernel
theorem dM_init_60 : decode cM_init 60 = .ok (.aload_n 0, 1) := by decide +kernel
theorem dM_init_61 : decode cM_init 61 = .ok (.getfield 17, 3) := by decide +kernel
theorem dM_init_64 : decode cM_init 64 = .ok (.iload_n 1, 1) := by decide +kernel
theorem dM_init_65 : decode cM_init 65 = .ok (.ldc 30, 2) := by decide +kernel
theorem dM_init_67 : decode cM_init 67 = .ok (.iastore, 1) := by decide +kernel
theorem dM_init_68 : decode cM_init 68 = .ok (.iinc 1 1, 3) := by decide +kernel
theorem dM_init_71 : decode cM_init 71 = .ok (.goto (-17), 3) := by decide +kernel
theorem dM_init_74 : decode cM_init 74 = .ok (.return_, 1) := by decide +kernel
theorem dM_thrown_0 : decode cM_thrown 0 = .ok (.aload_n 0, 1) := by decide +kernel
theorem dM_thrown_1 : decode cM_thrown 1 = .ok (.getfield 31, 3) := by decide +kernel
theorem dM_thrown_4 : decode cM_thrown 4 = .ok (.ireturn, 1) := by decide +kernel
theorem dM_root_0 : decode cM_root 0 = .ok (.iload_n 1, 1) := by decide +kernel
theorem dM_root_1 : decode cM_root 1 = .ok (.iconst 1, 1) := by decide +kernel
theorem dM_root_2 : decode cM_root 2 = .ok (.if_icmp .lt 9, 3) := by decide +kernel
theorem dM_root_5 : decode cM_root 5 = .ok (.iload_n 1, 1) := by decide +kernel
theorem dM_root_6 : decode cM_root 6 = .ok (.bipush 31, 2) := by decide +kernel
theorem dM_root_8 : decode cM_root 8 = .ok (.if_icmp .le 9, 3) := by decide +kernel
theorem dM_root_11 : decode cM_root 11 = .ok (.aload_n 0, 1) := by decide +kernel
theorem dM_root_12 : decode cM_root 12 = .ok (.iconst 1, 1) := by decide +kernel
theorem dM_root_13 : decode cM_root 13 = .ok (.invokevirtual 100, 3) := by decide +kernel
theorem dM_root_16 : decode cM_root 16 = .ok (.ireturn, 1) := by decide +kernel
theorem dM_root_17 : decode cM_root 17 = .ok (.lload_n 3, 1) := by decide +kernel
theorem dM_root_18 : decode cM_root 18 = .ok (.lconst 0, 1) := by decide +kernel
theorem dM_root_19 : decode cM_root 19 = .ok (.lcmp, 1) := by decide +kernel
theorem dM_root_20 : decode cM_root 20 = .ok (.ifCond .lt 37, 3) := by decide +kernel
theorem dM_root_23 : decode cM_root 23 = .ok (.lload_n 3, 1) := by decide +kernel
theorem dM_root_24 : decode cM_root 24 = .ok (.ldc2_w 72, 3) := by decide +kernel
theorem dM_root_27 : decode cM_root 27 = .ok (.lcmp, 1) := by decide +kernel
theorem dM_root_28 : decode cM_root 28 = .ok (.ifCond .gt 29, 3) := by decide +kernel
theorem dM_root_31 : decode cM_root 31 = .ok (.iload_n 2, 1) := by decide +kernel
theorem dM_root_32 : decode cM_root 32 = .ok (.invokestatic 52, 3) := by decide +kernel
theorem dM_root_35 : decode cM_root 35 = .ok (.lload_n 3, 1) := by decide +kernel
theorem dM_root_36 : decode cM_root 36 = .ok (.ladd, 1) := by decide +kernel
theorem dM_root_37 : decode cM_root 37 = .ok (.ldc2_w 72, 3) := by decide +kernel
theorem dM_root_40 : decode cM_root 40 = .ok (.lcmp, 1) := by decide +kernel
theorem dM_root_41 : decode cM_root 41 = .ok (.ifCond .gt 16, 3) := by decide +kernel
theorem dM_root_44 : decode cM_root 44 = .ok (.iload 5, 2) := by decide +kernel
theorem dM_root_46 : decode cM_root 46 = .ok (.ifCond .lt 11, 3) := by decide +kernel
theorem dM_root_49 : decode cM_root 49 = .ok (.iload 5, 2) := by decide +kernel
theorem dM_root_51 : decode cM_root 51 = .ok (.sipush 4095, 3) := by decide +kernel
theorem dM_root_54 : decode cM_root 54 = .ok (.if_icmp .le 9, 3) := by decide +kernel
theorem dM_root_57 : decode cM_root 57 = .ok (.aload_n 0, 1) := by decide +kernel
theorem dM_root_58 : decode cM_root 58 = .ok (.iconst 2, 1) := by decide +kernel
theorem dM_root_59 : decode cM_root 59 = .ok (.invokevirtual 100, 3) := by decide +kernel
theorem dM_root_62 : decode cM_root 62 = .ok (.ireturn, 1) := by decide +kernel
theorem dM_root_63 : decode cM_root 63 = .ok (.aload_n 0, 1) := by decide +kernel
theorem dM_root_64 : decode cM_root 64 = .ok (.getfield 103, 3) := by decide +kernel
theorem dM_root_67 : decode cM_root 67 = .ok (.bipush 8, 2) := by decide +kernel
theorem dM_root_69 : decode cM_root 69 = .ok (.if_icmp .ne 9, 3) := by decide +kernel
theorem dM_root_72 : decode cM_root 72 = .ok (.aload_n 0, 1) := by decide +kernel
theorem dM_root_73 : decode cM_root 73 = .ok (.iconst 3, 1) := by decide +kernel
theorem dM_root_74 : decode cM_root 74 = .ok (.invokevirtual 100, 3) := by decide +kernel
theorem dM_root_77 : decode cM_root 77 = .ok (.ireturn, 1) := by decide +kernel
theorem dM_root_78 : decode cM_root 78 = .ok (.aload_n 0, 1) := by decide +kernel
theorem dM_root_79 : decode cM_root 79 = .ok (.iconst 0, 1) := by decide +kernel
theorem dM_root_80 : decode cM_root 80 = .ok (.putfield 31, 3) := by decide +kernel
theorem dM_root_83 : decode cM_root 83 = .ok (.aload_n 0, 1) := by decide +kernel
theorem dM_root_84 : decode cM_root 84 = .ok (.iload_n 2, 1) := by decide +kernel
theorem dM_root_85 : decode cM_root 85 = .ok (.invokestatic 52, 3) := by decide +kernel
theorem dM_root_88 : decode cM_root 88 = .ok (.iload_n 2, 1) := by decide +kernel
theorem dM_root_89 : decode cM_root 89 = .ok (.invokestatic 52, 3) := by decide +kernel
theorem dM_root_92 : decode cM_root 92 = .ok (.lload_n 3, 1) := by decide +kernel
theorem dM_root_93 : decode cM_root 93 = .ok (.ladd, 1) := by decide +kernel
theorem dM_root_94 : decode cM_root 94 = .ok (.invokevirtual 106, 3) := by decide +kernel
theorem dM_root_97 : decode cM_root 97 = .ok (.aload_n 0, 1) := by decide +kernel
theorem dM_root_98 : decode cM_root 98 = .ok (.iload_n 1, 1) := by decide +kernel
theorem dM_root_99 : decode cM_root 99 = .ok (.iconst 1, 1) := by decide +kernel
theorem dM_root_100 : decode cM_root 100 = .ok (.iload_n 2, 1) := by decide +kernel
theorem dM_root_101 : decode cM_root 101 = .ok (.iload 5, 2) := by decide +kernel
theorem dM_root_103 : decode cM_root 103 = .ok (.bipush 20, 2) := by decide +kernel
theorem dM_root_105 : decode cM_root 105 = .ok (.ishl, 1) := by decide +kernel
theorem dM_root_106 : decode cM_root 106 = .ok (.ldc 110, 2) := by decide +kernel
theorem dM_root_108 : decode cM_root 108 = .ok (.ior, 1) := by decide +kernel
theorem dM_root_109 : decode cM_root 109 = .ok (.aload_n 0, 1) := by decide +kernel
theorem dM_root_110 : decode cM_root 110 = .ok (.getfield 81, 3) := by decide +kernel
theorem dM_root_113 : decode cM_root 113 = .ok (.ior, 1) := by decide +kernel
theorem dM_root_114 : decode cM_root 114 = .ok (.invokevirtual 111, 3) := by decide +kernel
theorem dM_root_117 : decode cM_root 117 = .ok (.pop, 1) := by decide +kernel
theorem dM_root_118 : decode cM_root 118 = .ok (.aload_n 0, 1) := by decide +kernel
theorem dM_root_119 : decode cM_root 119 = .ok (.getfield 20, 3) := by decide +kernel
theorem dM_root_122 : decode cM_root 122 = .ok (.aload_n 0, 1) := by decide +kernel
theorem dM_root_123 : decode cM_root 123 = .ok (.getfield 103, 3) := by decide +kernel
theorem dM_root_126 : decode cM_root 126 = .ok (.aload_n 0, 1) := by decide +kernel
theorem dM_root_127 : decode cM_root 127 = .ok (.getfield 17, 3) := by decide +kernel
theorem dM_root_130 : decode cM_root 130 = .ok (.iload_n 1, 1) := by decide +kernel
theorem dM_root_131 : decode cM_root 131 = .ok (.iaload, 1) := by decide +kernel
theorem dM_root_132 : decode cM_root 132 = .ok (.iload_n 2, 1) := by decide +kernel
theorem dM_root_133 : decode cM_root 133 = .ok (.invokestatic 69, 3) := by decide +kernel
theorem dM_root_136 : decode cM_root 136 = .ok (.lastore, 1) := by decide +kernel
theorem dM_root_137 : decode cM_root 137 = .ok (.aload_n 0, 1) := by decide +kernel
theorem dM_root_138 : decode cM_root 138 = .ok (.getfield 24, 3) := by decide +kernel
theorem dM_root_141 : decode cM_root 141 = .ok (.aload_n 0, 1) := by decide +kernel
theorem dM_root_142 : decode cM_root 142 = .ok (.getfield 103, 3) := by decide +kernel
theorem dM_root_145 : decode cM_root 145 = .ok (.aload_n 0, 1) := by decide +kernel
theorem dM_root_146 : decode cM_root 146 = .ok (.getfield 17, 3) := by decide +kernel
theorem dM_root_149 : decode cM_root 149 = .ok (.iload_n 1, 1) := by decide +kernel
theorem dM_root_150 : decode cM_root 150 = .ok (.iaload, 1) := by decide +kernel
theorem dM_root_151 : decode cM_root 151 = .ok (.iload_n 2, 1) := by decide +kernel
theorem dM_root_152 : decode cM_root 152 = .ok (.invokestatic 74, 3) := by decide +kernel
theorem dM_root_155 : decode cM_root 155 = .ok (.lastore, 1) := by decide +kernel
theorem dM_root_156 : decode cM_root 156 = .ok (.aload_n 0, 1) := by decide +kernel
theorem dM_root_157 : decode cM_root 157 = .ok (.getfield 27, 3) := by decide +kernel
theorem dM_root_160 : decode cM_root 160 = .ok (.aload_n 0, 1) := by decide +kernel
theorem dM_root_161 : decode cM_root 161 = .ok (.getfield 103, 3) := by decide +kernel
theorem dM_root_164 : decode cM_root 164 = .ok (.iload 5, 2) := by decide +kernel
theorem dM_root_166 : decode cM_root 166 = .ok (.iastore, 1) := by decide +kernel
theorem dM_root_167 : decode cM_root 167 = .ok (.aload_n 0, 1) := by decide +kernel
theorem dM_root_168 : decode cM_root 168 = .ok (.dup, 1) := by decide +kernel
theorem dM_root_169 : decode cM_root 169 = .ok (.getfield 103, 3) := by decide +kernel
theorem dM_root_172 : decode cM_root 172 = .ok (.iconst 1, 1) := by decide +kernel
theorem dM_root_173 : decode cM_root 173 = .ok (.iadd, 1) := by decide +kernel
theorem dM_root_174 : decode cM_root 174 = .ok (.putfield 103, 3) := by decide +kernel
theorem dM_root_177 : decode cM_root 177 = .ok (.aload_n 0, 1) := by decide +kernel
theorem dM_root_178 : decode cM_root 178 = .ok (.getfield 17, 3) := by decide +kernel
theorem dM_root_181 : decode cM_root 181 = .ok (.iload_n 1, 1) := by decide +kernel
theorem dM_root_182 : decode cM_root 182 = .ok (.iaload, 1) := by decide +kernel
theorem dM_root_183 : decode cM_root 183 = .ok (.iload_n 2, 1) := by decide +kernel
theorem dM_root_184 : decode cM_root 184 = .ok (.invokestatic 69, 3) := by decide +kernel
theorem dM_root_187 : decode cM_root 187 = .ok (.l2i, 1) := by decide +kernel
theorem dM_root_188 : decode cM_root 188 = .ok (.ireturn, 1) := by decide +kernel
theorem dM_fail_0 : decode cM_fail 0 = .ok (.aload_n 0, 1) := by decide +kernel
theorem dM_fail_1 : decode cM_fail 1 = .ok (.iload_n 1, 1) := by decide +kernel
theorem dM_fail_2 : decode cM_fail 2 = .ok (.putfield 31, 3) := by decide +kernel
theorem dM_fail_5 : decode cM_fail 5 = .ok (.iconst 0, 1) := by decide +kernel
theorem dM_fail_6 : decode cM_fail 6 = .ok (.ireturn, 1) := by decide +kernel
theorem dM_low_0 : decode cM_low 0 = .ok (.iload_n 0, 1) := by decide +kernel
theorem dM_low_1 : decode cM_low 1 = .ok (.i2l, 1) := by decide +kernel
theorem dM_low_2 : decode cM_low 2 = .ok (.ldc2_w 35, 3) := by decide +kernel
theorem dM_low_5 : decode cM_low 5 = .ok (.land, 1) := by decide +kernel
theorem dM_low_6 : decode cM_low 6 = .ok (.lreturn, 1) := by decide +kernel
theorem dM_packJ_0 : decode cM_packJ 0 = .ok (.lload_n 3, 1) := by decide +kernel
theorem dM_packJ_1 : decode cM_packJ 1 = .ok (.lload_n 1, 1) := by decide +kernel
theorem dM_packJ_2 : decode cM_packJ 2 = .ok (.lsub, 1) := by decide +kernel
theorem dM_packJ_3 : decode cM_packJ 3 = .ok (.lstore 5, 2) := by decide +kernel
theorem dM_packJ_5 : decode cM_packJ 5 = .ok (.iconst 0, 1) := by decide +kernel
theorem dM_packJ_6 : decode cM_packJ 6 = .ok (.istore 7, 2) := by decide +kernel
theorem dM_packJ_8 : decode cM_packJ 8 = .ok (.lload 5, 2) := by decide +kernel
theorem dM_packJ_10 : decode cM_packJ 10 = .ok (.ldc2_w 77, 3) := by decide +kernel
theorem dM_packJ_13 : decode cM_packJ 13 = .ok (.ldiv, 1) := by decide +kernel
theorem dM_packJ_14 : decode cM_packJ 14 = .ok (.iload 7, 2) := by decide +kernel
theorem dM_packJ_16 : decode cM_packJ 16 = .ok (.lshr, 1) := by decide +kernel
theorem dM_packJ_17 : decode cM_packJ 17 = .ok (.lconst 0, 1) := by decide +kernel
theorem dM_packJ_18 : decode cM_packJ 18 = .ok (.lcmp, 1) := by decide +kernel
theorem dM_packJ_19 : decode cM_packJ 19 = .ok (.ifCond .le 9, 3) := by decide +kernel
theorem dM_packJ_22 : decode cM_packJ 22 = .ok (.iinc 7 1, 3) := by decide +kernel
theorem dM_packJ_25 : decode cM_packJ 25 = .ok (.goto (-17), 3) := by decide +kernel
theorem dM_packJ_28 : decode cM_packJ 28 = .ok (.iload 7, 2) := by decide +kernel
theorem dM_packJ_30 : decode cM_packJ 30 = .ok (.ifCond .ne 44, 3) := by decide +kernel
theorem dM_packJ_33 : decode cM_packJ 33 = .ok (.lload 5, 2) := by decide +kernel
theorem dM_packJ_35 : decode cM_packJ 35 = .ok (.ldc2_w 79, 3) := by decide +kernel
theorem dM_packJ_38 : decode cM_packJ 38 = .ok (.lcmp, 1) := by decide +kernel
theorem dM_packJ_39 : decode cM_packJ 39 = .ok (.ifCond .gt 35, 3) := by decide +kernel
theorem dM_packJ_42 : decode cM_packJ 42 = .ok (.aload_n 0, 1) := by decide +kernel
theorem dM_packJ_43 : decode cM_packJ 43 = .ok (.lload_n 3, 1) := by decide +kernel
theorem dM_packJ_44 : decode cM_packJ 44 = .ok (.ldc2_w 79, 3) := by decide +kernel
theorem dM_packJ_47 : decode cM_packJ 47 = .ok (.land, 1) := by decide +kernel
theorem dM_packJ_48 : decode cM_packJ 48 = .ok (.l2i, 1) := by decide +kernel
theorem dM_packJ_49 : decode cM_packJ 49 = .ok (.bipush 8, 2) := by decide +kernel
theorem dM_packJ_51 : decode cM_packJ 51 = .ok (.ishl, 1) := by decide +kernel
theorem dM_packJ_52 : decode cM_packJ 52 = .ok (.lload_n 1, 1) := by decide +kernel
theorem dM_packJ_53 : decode cM_packJ 53 = .ok (.l2i, 1) := by decide +kernel
theorem dM_packJ_54 : decode cM_packJ 54 = .ok (.sipush 255, 3) := by decide +kernel
theorem dM_packJ_57 : decode cM_packJ 57 = .ok (.iand, 1) := by decide +kernel
theorem dM_packJ_58 : decode cM_packJ 58 = .ok (.ior, 1) := by decide +kernel
theorem dM_packJ_59 : decode cM_packJ 59 = .ok (.putfield 81, 3) := by decide +kernel
theorem dM_packJ_62 : decode cM_packJ 62 = .ok (.aload_n 0, 1) := by decide +kernel
theorem dM_packJ_63 : decode cM_packJ 63 = .ok (.iconst 1, 1) := by decide +kernel
theorem dM_packJ_64 : decode cM_packJ 64 = .ok (.putfield 84, 3) := by decide +kernel
theorem dM_packJ_67 : decode cM_packJ 67 = .ok (.aload_n 0, 1) := by decide +kernel
theorem dM_packJ_68 : decode cM_packJ 68 = .ok (.lload 5, 2) := by decide +kernel
theorem dM_packJ_70 : decode cM_packJ 70 = .ok (.putfield 88, 3) := by decide +kernel
theorem dM_packJ_73 : decode cM_packJ 73 = .ok (.return_, 1) := by decide +kernel
theorem dM_packJ_74 : decode cM_packJ 74 = .ok (.lconst 1, 1) := by decide +kernel
theorem dM_packJ_75 : decode cM_packJ 75 = .ok (.iload 7, 2) := by decide +kernel
theorem dM_packJ_77 : decode cM_packJ 77 = .ok (.iconst 3, 1) := by decide +kernel
theorem dM_packJ_78 : decode cM_packJ 78 = .ok (.iadd, 1) := by decide +kernel
theorem dM_packJ_79 : decode cM_packJ 79 = .ok (.lshl, 1) := by decide +kernel
theorem dM_packJ_80 : decode cM_packJ 80 = .ok (.lstore 8, 2) := by decide +kernel
theorem dM_packJ_82 : decode cM_packJ 82 = .ok (.lload_n 1, 1) := by decide +kernel
theorem dM_packJ_83 : decode cM_packJ 83 = .ok (.lload 8, 2) := by decide +kernel
theorem dM_packJ_85 : decode cM_packJ 85 = .ok (.ldiv, 1) := by decide +kernel
theorem dM_packJ_86 : decode cM_packJ 86 = .ok (.lload 8, 2) := by decide +kernel
theorem dM_packJ_88 : decode cM_packJ 88 = .ok (.lmul, 1) := by decide +kernel
theorem dM_packJ_89 : decode cM_packJ 89 = .ok (.lstore 10, 2) := by decide +kernel
theorem dM_packJ_91 : decode cM_packJ 91 = .ok (.lload_n 3, 1) := by decide +kernel
theorem dM_packJ_92 : decode cM_packJ 92 = .ok (.lload 8, 2) := by decide +kernel
theorem dM_packJ_94 : decode cM_packJ 94 = .ok (.ladd, 1) := by decide +kernel
theorem dM_packJ_95 : decode cM_packJ 95 = .ok (.lconst 1, 1) := by decide +kernel
theorem dM_packJ_96 : decode cM_packJ 96 = .ok (.lsub, 1) := by decide +kernel
theorem dM_packJ_97 : decode cM_packJ 97 = .ok (.lload 8, 2) := by decide +kernel
theorem dM_packJ_99 : decode cM_packJ 99 = .ok (.ldiv, 1) := by decide +kernel
theorem dM_packJ_100 : decode cM_packJ 100 = .ok (.lload 8, 2) := by decide +kernel
theorem dM_packJ_102 : decode cM_packJ 102 = .ok (.lmul, 1) := by decide +kernel
theorem dM_packJ_103 : decode cM_packJ 103 = .ok (.lstore 12, 2) := by decide +kernel
theorem dM_packJ_105 : decode cM_packJ 105 = .ok (.lload 12, 2) := by decide +kernel
theorem dM_packJ_107 : decode cM_packJ 107 = .ok (.lload 10, 2) := by decide +kernel
theorem dM_packJ_109 : decode cM_packJ 109 = .ok (.lsub, 1) := by decide +kernel
theorem dM_packJ_110 : decode cM_packJ 110 = .ok (.lload 8, 2) := by decide +kernel
theorem dM_packJ_112 : decode cM_packJ 112 = .ok (.ldiv, 1) := by decide +kernel
theorem dM_packJ_113 : decode cM_packJ 113 = .ok (.ldc2_w 92, 3) := by decide +kernel
theorem dM_packJ_116 : decode cM_packJ 116 = .ok (.lcmp, 1) := by decide +kernel
theorem dM_packJ_117 : decode cM_packJ 117 = .ok (.ifCond .lt 37, 3) := by decide +kernel
theorem dM_packJ_120 : decode cM_packJ 120 = .ok (.iinc 7 1, 3) := by decide +kernel
theorem dM_packJ_123 : decode cM_packJ 123 = .ok (.lconst 1, 1) := by decide +kernel
theorem dM_packJ_124 : decode cM_packJ 124 = .ok (.iload 7, 2) := by decide +kernel
theorem dM_packJ_126 : decode cM_packJ 126 = .ok (.iconst 3, 1) := by decide +kernel
theorem dM_packJ_127 : decode cM_packJ 127 = .ok (.iadd, 1) := by decide +kernel
theorem dM_packJ_128 : decode cM_packJ 128 = .ok (.lshl, 1) := by decide +kernel
theorem dM_packJ_129 : decode cM_packJ 129 = .ok (.lstore 8, 2) := by decide +kernel
theorem dM_packJ_131 : decode cM_packJ 131 = .ok (.lload_n 1, 1) := by decide +kernel
theorem dM_packJ_132 : decode cM_packJ 132 = .ok (.lload 8, 2) := by decide +kernel
theorem dM_packJ_134 : decode cM_packJ 134 = .ok (.ldiv, 1) := by decide +kernel
theorem dM_packJ_135 : decode cM_packJ 135 = .ok (.lload 8, 2) := by decide +kernel
theorem dM_packJ_137 : decode cM_packJ 137 = .ok (.lmul, 1) := by decide +kernel
theorem dM_packJ_138 : decode cM_packJ 138 = .ok (.lstore 10, 2) := by decide +kernel
theorem dM_packJ_140 : decode cM_packJ 140 = .ok (.lload_n 3, 1) := by decide +kernel
theorem dM_packJ_141 : decode cM_packJ 141 = .ok (.lload 8, 2) := by decide +kernel
theorem dM_packJ_143 : decode cM_packJ 143 = .ok (.ladd, 1) := by decide +kernel
theorem dM_packJ_144 : decode cM_packJ 144 = .ok (.lconst 1, 1) := by decide +kernel
theorem dM_packJ_145 : decode cM_packJ 145 = .ok (.lsub, 1) := by decide +kernel
theorem dM_packJ_146 : decode cM_packJ 146 = .ok (.lload 8, 2) := by decide +kernel
theorem dM_packJ_148 : decode cM_packJ 148 = .ok (.ldiv, 1) := by decide +kernel
theorem dM_packJ_149 : decode cM_packJ 149 = .ok (.lload 8, 2) := by decide +kernel
theorem dM_packJ_151 : decode cM_packJ 151 = .ok (.lmul, 1) := by decide +kernel
theorem dM_packJ_152 : decode cM_packJ 152 = .ok (.lstore 12, 2) := by decide +kernel
theorem dM_packJ_154 : decode cM_packJ 154 = .ok (.lload 10, 2) := by decide +kernel
theorem dM_packJ_156 : decode cM_packJ 156 = .ok (.iload 7, 2) := by decide +kernel
theorem dM_packJ_158 : decode cM_packJ 158 = .ok (.lshr, 1) := by decide +kernel
theorem dM_packJ_159 : decode cM_packJ 159 = .ok (.l2i, 1) := by decide +kernel
theorem dM_packJ_160 : decode cM_packJ 160 = .ok (.sipush 248, 3) := by decide +kernel
theorem dM_packJ_163 : decode cM_packJ 163 = .ok (.iand, 1) := by decide +kernel
theorem dM_packJ_164 : decode cM_packJ 164 = .ok (.iload 7, 2) := by decide +kernel
theorem dM_packJ_166 : decode cM_packJ 166 = .ok (.bipush 7, 2) := by decide +kernel
theorem dM_packJ_168 : decode cM_packJ 168 = .ok (.iand, 1) := by decide +kernel
theorem dM_packJ_169 : decode cM_packJ 169 = .ok (.ior, 1) := by decide +kernel
theorem dM_packJ_170 : decode cM_packJ 170 = .ok (.istore 14, 2) := by decide +kernel
theorem dM_packJ_172 : decode cM_packJ 172 = .ok (.lload 12, 2) := by decide +kernel
theorem dM_packJ_174 : decode cM_packJ 174 = .ok (.iload 7, 2) := by decide +kernel
theorem dM_packJ_176 : decode cM_packJ 176 = .ok (.lshr, 1) := by decide +kernel
theorem dM_packJ_177 : decode cM_packJ 177 = .ok (.l2i, 1) := by decide +kernel
theorem dM_packJ_178 : decode cM_packJ 178 = .ok (.bipush 56, 2) := by decide +kernel
theorem dM_packJ_180 : decode cM_packJ 180 = .ok (.iand, 1) := by decide +kernel
theorem dM_packJ_181 : decode cM_packJ 181 = .ok (.iload 7, 2) := by decide +kernel
theorem dM_packJ_183 : decode cM_packJ 183 = .ok (.iconst 3, 1) := by decide +kernel
theorem dM_packJ_184 : decode cM_packJ 184 = .ok (.ishr, 1) := by decide +kernel
theorem dM_packJ_185 : decode cM_packJ 185 = .ok (.ior, 1) := by decide +kernel
theorem dM_packJ_186 : decode cM_packJ 186 = .ok (.istore 15, 2) := by decide +kernel
theorem dM_packJ_188 : decode cM_packJ 188 = .ok (.aload_n 0, 1) := by decide +kernel
theorem dM_packJ_189 : decode cM_packJ 189 = .ok (.sipush 16384, 3) := by decide +kernel
theorem dM_packJ_192 : decode cM_packJ 192 = .ok (.iload 15, 2) := by decide +kernel
theorem dM_packJ_194 : decode cM_packJ 194 = .ok (.bipush 8, 2) := by decide +kernel
theorem dM_packJ_196 : decode cM_packJ 196 = .ok (.ishl, 1) := by decide +kernel
theorem dM_packJ_197 : decode cM_packJ 197 = .ok (.ior, 1) := by decide +kernel
theorem dM_packJ_198 : decode cM_packJ 198 = .ok (.iload 14, 2) := by decide +kernel
theorem dM_packJ_200 : decode cM_packJ 200 = .ok (.ior, 1) := by decide +kernel
theorem dM_packJ_201 : decode cM_packJ 201 = .ok (.putfield 81, 3) := by decide +kernel
theorem dM_packJ_204 : decode cM_packJ 204 = .ok (.aload_n 0, 1) := by decide +kernel
theorem dM_packJ_205 : decode cM_packJ 205 = .ok (.lload 10, 2) := by decide +kernel
theorem dM_packJ_207 : decode cM_packJ 207 = .ok (.lload_n 1, 1) := by decide +kernel
theorem dM_packJ_208 : decode cM_packJ 208 = .ok (.lcmp, 1) := by decide +kernel
theorem dM_packJ_209 : decode cM_packJ 209 = .ok (.ifCond .ne 14, 3) := by decide +kernel
theorem dM_packJ_212 : decode cM_packJ 212 = .ok (.lload 12, 2) := by decide +kernel
theorem dM_packJ_214 : decode cM_packJ 214 = .ok (.lload_n 3, 1) := by decide +kernel
theorem dM_packJ_215 : decode cM_packJ 215 = .ok (.lcmp, 1) := by decide +kernel
theorem dM_packJ_216 : decode cM_packJ 216 = .ok (.ifCond .ne 7, 3) := by decide +kernel
theorem dM_packJ_219 : decode cM_packJ 219 = .ok (.iconst 1, 1) := by decide +kernel
theorem dM_packJ_220 : decode cM_packJ 220 = .ok (.goto 4, 3) := by decide +kernel
theorem dM_packJ_223 : decode cM_packJ 223 = .ok (.iconst 0, 1) := by decide +kernel
theorem dM_packJ_224 : decode cM_packJ 224 = .ok (.putfield 84, 3) := by decide +kernel
theorem dM_packJ_227 : decode cM_packJ 227 = .ok (.aload_n 0, 1) := by decide +kernel
theorem dM_packJ_228 : decode cM_packJ 228 = .ok (.lload 12, 2) := by decide +kernel
theorem dM_packJ_230 : decode cM_packJ 230 = .ok (.lload 10, 2) := by decide +kernel
theorem dM_packJ_232 : decode cM_packJ 232 = .ok (.lsub, 1) := by decide +kernel
theorem dM_packJ_233 : decode cM_packJ 233 = .ok (.putfield 88, 3) := by decide +kernel
theorem dM_packJ_236 : decode cM_packJ 236 = .ok (.return_, 1) := by decide +kernel
theorem dM_set_0 : decode cM_set 0 = .ok (.iload_n 1, 1) := by decide +kernel
theorem dM_set_1 : decode cM_set 1 = .ok (.ifCond .ne 5, 3) := by decide +kernel
theorem dM_set_4 : decode cM_set 4 = .ok (.iconst 0, 1) := by decide +kernel
theorem dM_set_5 : decode cM_set 5 = .ok (.ireturn, 1) := by decide +kernel
theorem dM_set_6 : decode cM_set 6 = .ok (.aload_n 0, 1) := by decide +kernel
theorem dM_set_7 : decode cM_set 7 = .ok (.getfield 7, 3) := by decide +kernel
theorem dM_set_10 : decode cM_set 10 = .ok (.iload_n 1, 1) := by decide +kernel
theorem dM_set_11 : decode cM_set 11 = .ok (.iload_n 2, 1) := by decide +kernel
theorem dM_set_12 : decode cM_set 12 = .ok (.bastore, 1) := by decide +kernel
theorem dM_set_13 : decode cM_set 13 = .ok (.aload_n 0, 1) := by decide +kernel
theorem dM_set_14 : decode cM_set 14 = .ok (.getfield 13, 3) := by decide +kernel
theorem dM_set_17 : decode cM_set 17 = .ok (.iload_n 1, 1) := by decide +kernel
theorem dM_set_18 : decode cM_set 18 = .ok (.iload_n 3, 1) := by decide +kernel
theorem dM_set_19 : decode cM_set 19 = .ok (.iastore, 1) := by decide +kernel
theorem dM_set_20 : decode cM_set 20 = .ok (.aload_n 0, 1) := by decide +kernel
theorem dM_set_21 : decode cM_set 21 = .ok (.getfield 17, 3) := by decide +kernel
theorem dM_set_24 : decode cM_set 24 = .ok (.iload_n 1, 1) := by decide +kernel
theorem dM_set_25 : decode cM_set 25 = .ok (.iload 4, 2) := by decide +kernel
theorem dM_set_27 : decode cM_set 27 = .ok (.iastore, 1) := by decide +kernel
theorem dM_set_28 : decode cM_set 28 = .ok (.iload_n 2, 1) := by decide +kernel
theorem dM_set_29 : decode cM_set 29 = .ok (.ireturn, 1) := by decide +kernel
theorem dM_base_0 : decode cM_base 0 = .ok (.iload_n 0, 1) := by decide +kernel
theorem dM_base_1 : decode cM_base 1 = .ok (.invokestatic 39, 3) := by decide +kernel
theorem dM_base_4 : decode cM_base 4 = .ok (.iload_n 0, 1) := by decide +kernel
theorem dM_base_5 : decode cM_base 5 = .ok (.invokestatic 49, 3) := by decide +kernel
theorem dM_base_8 : decode cM_base 8 = .ok (.iload_n 0, 1) := by decide +kernel
theorem dM_base_9 : decode cM_base 9 = .ok (.iload_n 1, 1) := by decide +kernel
theorem dM_base_10 : decode cM_base 10 = .ok (.invokestatic 56, 3) := by decide +kernel
theorem dM_base_13 : decode cM_base 13 = .ok (.invokestatic 60, 3) := by decide +kernel
theorem dM_base_16 : decode cM_base 16 = .ok (.ldc2_w 35, 3) := by decide +kernel
theorem dM_base_19 : decode cM_base 19 = .ok (.land, 1) := by decide +kernel
theorem dM_base_20 : decode cM_base 20 = .ok (.lreturn, 1) := by decide +kernel
theorem dM_bottom_0 : decode cM_bottom 0 = .ok (.iload_n 0, 1) := by decide +kernel
theorem dM_bottom_1 : decode cM_bottom 1 = .ok (.bipush 14, 2) := by decide +kernel
theorem dM_bottom_3 : decode cM_bottom 3 = .ok (.ishr, 1) := by decide +kernel
theorem dM_bottom_4 : decode cM_bottom 4 = .ok (.iconst 1, 1) := by decide +kernel
theorem dM_bottom_5 : decode cM_bottom 5 = .ok (.iand, 1) := by decide +kernel
theorem dM_bottom_6 : decode cM_bottom 6 = .ok (.ifCond .ne 11, 3) := by decide +kernel
theorem dM_bottom_9 : decode cM_bottom 9 = .ok (.iload_n 0, 1) := by decide +kernel
theorem dM_bottom_10 : decode cM_bottom 10 = .ok (.sipush 255, 3) := by decide +kernel
theorem dM_bottom_13 : decode cM_bottom 13 = .ok (.iand, 1) := by decide +kernel
theorem dM_bottom_14 : decode cM_bottom 14 = .ok (.goto 8, 3) := by decide +kernel
theorem dM_bottom_17 : decode cM_bottom 17 = .ok (.iload_n 0, 1) := by decide +kernel
theorem dM_bottom_18 : decode cM_bottom 18 = .ok (.sipush 248, 3) := by decide +kernel
theorem dM_bottom_21 : decode cM_bottom 21 = .ok (.iand, 1) := by decide +kernel
theorem dM_bottom_22 : decode cM_bottom 22 = .ok (.ireturn, 1) := by decide +kernel
theorem dM_scale_0 : decode cM_scale 0 = .ok (.bipush 8, 2) := by decide +kernel
theorem dM_scale_2 : decode cM_scale 2 = .ok (.iload_n 0, 1) := by decide +kernel
theorem dM_scale_3 : decode cM_scale 3 = .ok (.bipush 8, 2) := by decide +kernel
theorem dM_scale_5 : decode cM_scale 5 = .ok (.ishr, 1) := by decide +kernel
theorem dM_scale_6 : decode cM_scale 6 = .ok (.bipush 7, 2) := by decide +kernel
theorem dM_scale_8 : decode cM_scale 8 = .ok (.iand, 1) := by decide +kernel
theorem dM_scale_9 : decode cM_scale 9 = .ok (.imul, 1) := by decide +kernel
theorem dM_scale_10 : decode cM_scale 10 = .ok (.iload_n 0, 1) := by decide +kernel
theorem dM_scale_11 : decode cM_scale 11 = .ok (.bipush 7, 2) := by decide +kernel
theorem dM_scale_13 : decode cM_scale 13 = .ok (.iand, 1) := by decide +kernel
theorem dM_scale_14 : decode cM_scale 14 = .ok (.iadd, 1) := by decide +kernel
theorem dM_scale_15 : decode cM_scale 15 = .ok (.istore_n 1, 1) := by decide +kernel
theorem dM_scale_16 : decode cM_scale 16 = .ok (.iload_n 0, 1) := by decide +kernel
theorem dM_scale_17 : decode cM_scale 17 = .ok (.bipush 14, 2) := by decide +kernel
theorem dM_scale_19 : decode cM_scale 19 = .ok (.ishr, 1) := by decide +kernel
theorem dM_scale_20 : decode cM_scale 20 = .ok (.iconst 1, 1) := by decide +kernel
theorem dM_scale_21 : decode cM_scale 21 = .ok (.iand, 1) := by decide +kernel
theorem dM_scale_22 : decode cM_scale 22 = .ok (.ifCond .ne 7, 3) := by decide +kernel
theorem dM_scale_25 : decode cM_scale 25 = .ok (.iconst 0, 1) := by decide +kernel
theorem dM_scale_26 : decode cM_scale 26 = .ok (.goto 15, 3) := by decide +kernel
theorem dM_scale_29 : decode cM_scale 29 = .ok (.iload_n 1, 1) := by decide +kernel
theorem dM_scale_30 : decode cM_scale 30 = .ok (.bipush 26, 2) := by decide +kernel
theorem dM_scale_32 : decode cM_scale 32 = .ok (.if_icmp .ge 7, 3) := by decide +kernel
theorem dM_scale_35 : decode cM_scale 35 = .ok (.iload_n 1, 1) := by decide +kernel
theorem dM_scale_36 : decode cM_scale 36 = .ok (.goto 5, 3) := by decide +kernel
theorem dM_scale_39 : decode cM_scale 39 = .ok (.bipush 26, 2) := by decide +kernel
theorem dM_scale_41 : decode cM_scale 41 = .ok (.ireturn, 1) := by decide +kernel
theorem dM_window_0 : decode cM_window 0 = .ok (.iload_n 0, 1) := by decide +kernel
theorem dM_window_1 : decode cM_window 1 = .ok (.invokestatic 49, 3) := by decide +kernel
theorem dM_window_4 : decode cM_window 4 = .ok (.istore_n 2, 1) := by decide +kernel
theorem dM_window_5 : decode cM_window 5 = .ok (.lconst 1, 1) := by decide +kernel
theorem dM_window_6 : decode cM_window 6 = .ok (.iload_n 2, 1) := by decide +kernel
theorem dM_window_7 : decode cM_window 7 = .ok (.bipush 8, 2) := by decide +kernel
theorem dM_window_9 : decode cM_window 9 = .ok (.iadd, 1) := by decide +kernel
theorem dM_window_10 : decode cM_window 10 = .ok (.lshl, 1) := by decide +kernel
theorem dM_window_11 : decode cM_window 11 = .ok (.lstore_n 3, 1) := by decide +kernel
theorem dM_window_12 : decode cM_window 12 = .ok (.iload_n 0, 1) := by decide +kernel
theorem dM_window_13 : decode cM_window 13 = .ok (.invokestatic 39, 3) := by decide +kernel
theorem dM_window_16 : decode cM_window 16 = .ok (.bipush 32, 2) := by decide +kernel
theorem dM_window_18 : decode cM_window 18 = .ok (.idiv, 1) := by decide +kernel
theorem dM_window_19 : decode cM_window 19 = .ok (.bipush 7, 2) := by decide +kernel
theorem dM_window_21 : decode cM_window 21 = .ok (.iadd, 1) := by decide +kernel
theorem dM_window_22 : decode cM_window 22 = .ok (.bipush 8, 2) := by decide +kernel
theorem dM_window_24 : decode cM_window 24 = .ok (.irem, 1) := by decide +kernel
theorem dM_window_25 : decode cM_window 25 = .ok (.i2l, 1) := by decide +kernel
theorem dM_window_26 : decode cM_window 26 = .ok (.iload_n 2, 1) := by decide +kernel
theorem dM_window_27 : decode cM_window 27 = .ok (.iconst 5, 1) := by decide +kernel
theorem dM_window_28 : decode cM_window 28 = .ok (.iadd, 1) := by decide +kernel
theorem dM_window_29 : decode cM_window 29 = .ok (.lshl, 1) := by decide +kernel
theorem dM_window_30 : decode cM_window 30 = .ok (.lstore 5, 2) := by decide +kernel
theorem dM_window_32 : decode cM_window 32 = .ok (.iload_n 1, 1) := by decide +kernel
theorem dM_window_33 : decode cM_window 33 = .ok (.invokestatic 52, 3) := by decide +kernel
theorem dM_window_36 : decode cM_window 36 = .ok (.iload_n 1, 1) := by decide +kernel
theorem dM_window_37 : decode cM_window 37 = .ok (.invokestatic 52, 3) := by decide +kernel
theorem dM_window_40 : decode cM_window 40 = .ok (.lload 5, 2) := by decide +kernel
theorem dM_window_42 : decode cM_window 42 = .ok (.lsub, 1) := by decide +kernel
theorem dM_window_43 : decode cM_window 43 = .ok (.lload_n 3, 1) := by decide +kernel
theorem dM_window_44 : decode cM_window 44 = .ok (.invokestatic 43, 3) := by decide +kernel
theorem dM_window_47 : decode cM_window 47 = .ok (.lsub, 1) := by decide +kernel
theorem dM_window_48 : decode cM_window 48 = .ok (.lreturn, 1) := by decide +kernel
theorem dM_inWindow_0 : decode cM_inWindow 0 = .ok (.lconst 1, 1) := by decide +kernel
theorem dM_inWindow_1 : decode cM_inWindow 1 = .ok (.iload_n 1, 1) := by decide +kernel
theorem dM_inWindow_2 : decode cM_inWindow 2 = .ok (.bipush 8, 2) := by decide +kernel
theorem dM_inWindow_4 : decode cM_inWindow 4 = .ok (.iadd, 1) := by decide +kernel
theorem dM_inWindow_5 : decode cM_inWindow 5 = .ok (.lshl, 1) := by decide +kernel
theorem dM_inWindow_6 : decode cM_inWindow 6 = .ok (.lstore 4, 2) := by decide +kernel
theorem dM_inWindow_8 : decode cM_inWindow 8 = .ok (.iload_n 0, 1) := by decide +kernel
theorem dM_inWindow_9 : decode cM_inWindow 9 = .ok (.i2l, 1) := by decide +kernel
theorem dM_inWindow_10 : decode cM_inWindow 10 = .ok (.iload_n 1, 1) := by decide +kernel
theorem dM_inWindow_11 : decode cM_inWindow 11 = .ok (.lshl, 1) := by decide +kernel
theorem dM_inWindow_12 : decode cM_inWindow 12 = .ok (.lstore 6, 2) := by decide +kernel
theorem dM_inWindow_14 : decode cM_inWindow 14 = .ok (.lload_n 2, 1) := by decide +kernel
theorem dM_inWindow_15 : decode cM_inWindow 15 = .ok (.lload 6, 2) := by decide +kernel
theorem dM_inWindow_17 : decode cM_inWindow 17 = .ok (.lload_n 2, 1) := by decide +kernel
theorem dM_inWindow_18 : decode cM_inWindow 18 = .ok (.lsub, 1) := by decide +kernel
theorem dM_inWindow_19 : decode cM_inWindow 19 = .ok (.lload 4, 2) := by decide +kernel
theorem dM_inWindow_21 : decode cM_inWindow 21 = .ok (.invokestatic 43, 3) := by decide +kernel
theorem dM_inWindow_24 : decode cM_inWindow 24 = .ok (.ladd, 1) := by decide +kernel
theorem dM_inWindow_25 : decode cM_inWindow 25 = .ok (.lreturn, 1) := by decide +kernel
theorem dM_top_0 : decode cM_top 0 = .ok (.iload_n 0, 1) := by decide +kernel
theorem dM_top_1 : decode cM_top 1 = .ok (.invokestatic 64, 3) := by decide +kernel
theorem dM_top_4 : decode cM_top 4 = .ok (.iload_n 0, 1) := by decide +kernel
theorem dM_top_5 : decode cM_top 5 = .ok (.invokestatic 49, 3) := by decide +kernel
theorem dM_top_8 : decode cM_top 8 = .ok (.iload_n 0, 1) := by decide +kernel
theorem dM_top_9 : decode cM_top 9 = .ok (.iload_n 1, 1) := by decide +kernel
theorem dM_top_10 : decode cM_top 10 = .ok (.invokestatic 56, 3) := by decide +kernel
theorem dM_top_13 : decode cM_top 13 = .ok (.invokestatic 60, 3) := by decide +kernel
theorem dM_top_16 : decode cM_top 16 = .ok (.ldc2_w 67, 3) := by decide +kernel
theorem dM_top_19 : decode cM_top 19 = .ok (.land, 1) := by decide +kernel
theorem dM_top_20 : decode cM_top 20 = .ok (.lstore_n 2, 1) := by decide +kernel
theorem dM_top_21 : decode cM_top 21 = .ok (.iload_n 0, 1) := by decide +kernel
theorem dM_top_22 : decode cM_top 22 = .ok (.iload_n 1, 1) := by decide +kernel
theorem dM_top_23 : decode cM_top 23 = .ok (.invokestatic 69, 3) := by decide +kernel
theorem dM_top_26 : decode cM_top 26 = .ok (.lstore 4, 2) := by decide +kernel
theorem dM_top_28 : decode cM_top 28 = .ok (.lload_n 2, 1) := by decide +kernel
theorem dM_top_29 : decode cM_top 29 = .ok (.bipush 31, 2) := by decide +kernel
theorem dM_top_31 : decode cM_top 31 = .ok (.lshr, 1) := by decide +kernel
theorem dM_top_32 : decode cM_top 32 = .ok (.l2i, 1) := by decide +kernel
theorem dM_top_33 : decode cM_top 33 = .ok (.lload 4, 2) := by decide +kernel
theorem dM_top_35 : decode cM_top 35 = .ok (.bipush 31, 2) := by decide +kernel
theorem dM_top_37 : decode cM_top 37 = .ok (.lshr, 1) := by decide +kernel
theorem dM_top_38 : decode cM_top 38 = .ok (.l2i, 1) := by decide +kernel
theorem dM_top_39 : decode cM_top 39 = .ok (.isub, 1) := by decide +kernel
theorem dM_top_40 : decode cM_top 40 = .ok (.iconst 3, 1) := by decide +kernel
theorem dM_top_41 : decode cM_top 41 = .ok (.iand, 1) := by decide +kernel
theorem dM_top_42 : decode cM_top 42 = .ok (.istore 6, 2) := by decide +kernel
theorem dM_top_44 : decode cM_top 44 = .ok (.iload_n 0, 1) := by decide +kernel
theorem dM_top_45 : decode cM_top 45 = .ok (.invokestatic 49, 3) := by decide +kernel
theorem dM_top_48 : decode cM_top 48 = .ok (.bipush 25, 2) := by decide +kernel
theorem dM_top_50 : decode cM_top 50 = .ok (.if_icmp .ge 17, 3) := by decide +kernel
theorem dM_top_53 : decode cM_top 53 = .ok (.iload 6, 2) := by decide +kernel
theorem dM_top_55 : decode cM_top 55 = .ok (.iconst 1, 1) := by decide +kernel
theorem dM_top_56 : decode cM_top 56 = .ok (.if_icmp .le 11, 3) := by decide +kernel
theorem dM_top_59 : decode cM_top 59 = .ok (.lload_n 2, 1) := by decide +kernel
theorem dM_top_60 : decode cM_top 60 = .ok (.ldc2_w 72, 3) := by decide +kernel
theorem dM_top_63 : decode cM_top 63 = .ok (.lxor, 1) := by decide +kernel
theorem dM_top_64 : decode cM_top 64 = .ok (.goto 4, 3) := by decide +kernel
theorem dM_top_67 : decode cM_top 67 = .ok (.lload_n 2, 1) := by decide +kernel
theorem dM_top_68 : decode cM_top 68 = .ok (.lreturn, 1) := by decide +kernel
theorem dM_roof_0 : decode cM_roof 0 = .ok (.iload_n 0, 1) := by decide +kernel
theorem dM_roof_1 : decode cM_roof 1 = .ok (.bipush 14, 2) := by decide +kernel
theorem dM_roof_3 : decode cM_roof 3 = .ok (.ishr, 1) := by decide +kernel
theorem dM_roof_4 : decode cM_roof 4 = .ok (.iconst 1, 1) := by decide +kernel
theorem dM_roof_5 : decode cM_roof 5 = .ok (.iand, 1) := by decide +kernel
theorem dM_roof_6 : decode cM_roof 6 = .ok (.istore_n 1, 1) := by decide +kernel
theorem dM_roof_7 : decode cM_roof 7 = .ok (.iload_n 1, 1) := by decide +kernel
theorem dM_roof_8 : decode cM_roof 8 = .ok (.ifCond .ne 13, 3) := by decide +kernel
theorem dM_roof_11 : decode cM_roof 11 = .ok (.iload_n 0, 1) := by decide +kernel
theorem dM_roof_12 : decode cM_roof 12 = .ok (.bipush 8, 2) := by decide +kernel
theorem dM_roof_14 : decode cM_roof 14 = .ok (.ishr, 1) := by decide +kernel
theorem dM_roof_15 : decode cM_roof 15 = .ok (.bipush 63, 2) := by decide +kernel
theorem dM_roof_17 : decode cM_roof 17 = .ok (.iand, 1) := by decide +kernel
theorem dM_roof_18 : decode cM_roof 18 = .ok (.goto 10, 3) := by decide +kernel
theorem dM_roof_21 : decode cM_roof 21 = .ok (.iload_n 0, 1) := by decide +kernel
theorem dM_roof_22 : decode cM_roof 22 = .ok (.bipush 8, 2) := by decide +kernel
theorem dM_roof_24 : decode cM_roof 24 = .ok (.ishr, 1) := by decide +kernel
theorem dM_roof_25 : decode cM_roof 25 = .ok (.bipush 56, 2) := by decide +kernel
theorem dM_roof_27 : decode cM_roof 27 = .ok (.iand, 1) := by decide +kernel
theorem dM_roof_28 : decode cM_roof 28 = .ok (.istore_n 2, 1) := by decide +kernel
theorem dM_roof_29 : decode cM_roof 29 = .ok (.iload_n 0, 1) := by decide +kernel
theorem dM_roof_30 : decode cM_roof 30 = .ok (.invokestatic 39, 3) := by decide +kernel
theorem dM_roof_33 : decode cM_roof 33 = .ok (.istore_n 3, 1) := by decide +kernel
theorem dM_roof_34 : decode cM_roof 34 = .ok (.iload_n 3, 1) := by decide +kernel
theorem dM_roof_35 : decode cM_roof 35 = .ok (.bipush 6, 2) := by decide +kernel
theorem dM_roof_37 : decode cM_roof 37 = .ok (.ishr, 1) := by decide +kernel
theorem dM_roof_38 : decode cM_roof 38 = .ok (.iload_n 2, 1) := by decide +kernel
theorem dM_roof_39 : decode cM_roof 39 = .ok (.iload_n 3, 1) := by decide +kernel
theorem dM_roof_40 : decode cM_roof 40 = .ok (.bipush 63, 2) := by decide +kernel
theorem dM_roof_42 : decode cM_roof 42 = .ok (.iand, 1) := by decide +kernel
theorem dM_roof_43 : decode cM_roof 43 = .ok (.if_icmp .ge 7, 3) := by decide +kernel
theorem dM_roof_46 : decode cM_roof 46 = .ok (.iconst 1, 1) := by decide +kernel
theorem dM_roof_47 : decode cM_roof 47 = .ok (.goto 4, 3) := by decide +kernel
theorem dM_roof_50 : decode cM_roof 50 = .ok (.iconst 0, 1) := by decide +kernel
theorem dM_roof_51 : decode cM_roof 51 = .ok (.iadd, 1) := by decide +kernel
theorem dM_roof_52 : decode cM_roof 52 = .ok (.iload_n 1, 1) := by decide +kernel
theorem dM_roof_53 : decode cM_roof 53 = .ok (.iadd, 1) := by decide +kernel
theorem dM_roof_54 : decode cM_roof 54 = .ok (.istore 4, 2) := by decide +kernel
theorem dM_roof_56 : decode cM_roof 56 = .ok (.iload 4, 2) := by decide +kernel
theorem dM_roof_58 : decode cM_roof 58 = .ok (.iconst 3, 1) := by decide +kernel
theorem dM_roof_59 : decode cM_roof 59 = .ok (.iand, 1) := by decide +kernel
theorem dM_roof_60 : decode cM_roof 60 = .ok (.bipush 6, 2) := by decide +kernel
theorem dM_roof_62 : decode cM_roof 62 = .ok (.ishl, 1) := by decide +kernel
theorem dM_roof_63 : decode cM_roof 63 = .ok (.iload_n 2, 1) := by decide +kernel
theorem dM_roof_64 : decode cM_roof 64 = .ok (.ior, 1) := by decide +kernel
theorem dM_roof_65 : decode cM_roof 65 = .ok (.ireturn, 1) := by decide +kernel
theorem dM_put_0 : decode cM_put 0 = .ok (.aload_n 0, 1) := by decide +kernel
theorem dM_put_1 : decode cM_put 1 = .ok (.iconst 1, 1) := by decide +kernel
theorem dM_put_2 : decode cM_put 2 = .ok (.newarray .int, 2) := by decide +kernel
theorem dM_put_4 : decode cM_put 4 = .ok (.dup, 1) := by decide +kernel
theorem dM_put_5 : decode cM_put 5 = .ok (.iconst 0, 1) := by decide +kernel
theorem dM_put_6 : decode cM_put 6 = .ok (.iload_n 1, 1) := by decide +kernel
theorem dM_put_7 : decode cM_put 7 = .ok (.iastore, 1) := by decide +kernel
theorem dM_put_8 : decode cM_put 8 = .ok (.invokevirtual 115, 3) := by decide +kernel
theorem dM_put_11 : decode cM_put 11 = .ok (.ifCond .eq 15, 3) := by decide +kernel
theorem dM_put_14 : decode cM_put 14 = .ok (.aload_n 0, 1) := by decide +kernel
theorem dM_put_15 : decode cM_put 15 = .ok (.iload_n 1, 1) := by decide +kernel
theorem dM_put_16 : decode cM_put 16 = .ok (.iconst 0, 1) := by decide +kernel
theorem dM_put_17 : decode cM_put 17 = .ok (.iload_n 2, 1) := by decide +kernel
theorem dM_put_18 : decode cM_put 18 = .ok (.iload_n 3, 1) := by decide +kernel
theorem dM_put_19 : decode cM_put 19 = .ok (.ldc 30, 2) := by decide +kernel
theorem dM_put_21 : decode cM_put 21 = .ok (.ixor, 1) := by decide +kernel
theorem dM_put_22 : decode cM_put 22 = .ok (.invokevirtual 111, 3) := by decide +kernel
theorem dM_put_25 : decode cM_put 25 = .ok (.pop, 1) := by decide +kernel
theorem dM_put_26 : decode cM_put 26 = .ok (.return_, 1) := by decide +kernel
theorem dM_is_0 : decode cM_is 0 = .ok (.aload_n 0, 1) := by decide +kernel
theorem dM_is_1 : decode cM_is 1 = .ok (.iconst 0, 1) := by decide +kernel
theorem dM_is_2 : decode cM_is 2 = .ok (.putfield 31, 3) := by decide +kernel
theorem dM_is_5 : decode cM_is 5 = .ok (.aload_n 1, 1) := by decide +kernel
theorem dM_is_6 : decode cM_is 6 = .ok (.astore_n 2, 1) := by decide +kernel
theorem dM_is_7 : decode cM_is 7 = .ok (.aload_n 2, 1) := by decide +kernel
theorem dM_is_8 : decode cM_is 8 = .ok (.arraylength, 1) := by decide +kernel
theorem dM_is_9 : decode cM_is 9 = .ok (.istore_n 3, 1) := by decide +kernel
theorem dM_is_10 : decode cM_is 10 = .ok (.iconst 0, 1) := by decide +kernel
theorem dM_is_11 : decode cM_is 11 = .ok (.istore 4, 2) := by decide +kernel
theorem dM_is_13 : decode cM_is 13 = .ok (.iload 4, 2) := by decide +kernel
theorem dM_is_15 : decode cM_is 15 = .ok (.iload_n 3, 1) := by decide +kernel
theorem dM_is_16 : decode cM_is 16 = .ok (.if_icmp .ge 32, 3) := by decide +kernel
theorem dM_is_19 : decode cM_is 19 = .ok (.aload_n 2, 1) := by decide +kernel
theorem dM_is_20 : decode cM_is 20 = .ok (.iload 4, 2) := by decide +kernel
theorem dM_is_22 : decode cM_is 22 = .ok (.iaload, 1) := by decide +kernel
theorem dM_is_23 : decode cM_is 23 = .ok (.istore 5, 2) := by decide +kernel
theorem dM_is_25 : decode cM_is 25 = .ok (.iload 5, 2) := by decide +kernel
theorem dM_is_27 : decode cM_is 27 = .ok (.ifCond .lt 10, 3) := by decide +kernel
theorem dM_is_30 : decode cM_is 30 = .ok (.iload 5, 2) := by decide +kernel
theorem dM_is_32 : decode cM_is 32 = .ok (.bipush 31, 2) := by decide +kernel
theorem dM_is_34 : decode cM_is 34 = .ok (.if_icmp .le 8, 3) := by decide +kernel
theorem dM_is_37 : decode cM_is 37 = .ok (.aload_n 0, 1) := by decide +kernel
theorem dM_is_38 : decode cM_is 38 = .ok (.iconst 1, 1) := by decide +kernel
theorem dM_is_39 : decode cM_is 39 = .ok (.putfield 31, 3) := by decide +kernel
theorem dM_is_42 : decode cM_is 42 = .ok (.iinc 4 1, 3) := by decide +kernel
theorem dM_is_45 : decode cM_is 45 = .ok (.goto (-32), 3) := by decide +kernel
theorem dM_is_48 : decode cM_is 48 = .ok (.aload_n 0, 1) := by decide +kernel
theorem dM_is_49 : decode cM_is 49 = .ok (.getfield 31, 3) := by decide +kernel
theorem dM_is_52 : decode cM_is 52 = .ok (.ifCond .ne 7, 3) := by decide +kernel
theorem dM_is_55 : decode cM_is 55 = .ok (.iconst 1, 1) := by decide +kernel
theorem dM_is_56 : decode cM_is 56 = .ok (.goto 4, 3) := by decide +kernel
theorem dM_is_59 : decode cM_is 59 = .ok (.iconst 0, 1) := by decide +kernel
theorem dM_is_60 : decode cM_is 60 = .ok (.ireturn, 1) := by decide +kernel
theorem dM_narrow_0 : decode cM_narrow 0 = .ok (.aload_n 0, 1) := by decide +kernel
theorem dM_narrow_1 : decode cM_narrow 1 = .ok (.iconst 2, 1) := by decide +kernel
theorem dM_narrow_2 : decode cM_narrow 2 = .ok (.newarray .int, 2) := by decide +kernel
theorem dM_narrow_4 : decode cM_narrow 4 = .ok (.dup, 1) := by decide +kernel
theorem dM_narrow_5 : decode cM_narrow 5 = .ok (.iconst 0, 1) := by decide +kernel
theorem dM_narrow_6 : decode cM_narrow 6 = .ok (.iload_n 1, 1) := by decide +kernel
theorem dM_narrow_7 : decode cM_narrow 7 = .ok (.iastore, 1) := by decide +kernel
theorem dM_narrow_8 : decode cM_narrow 8 = .ok (.dup, 1) := by decide +kernel
theorem dM_narrow_9 : decode cM_narrow 9 = .ok (.iconst 1, 1) := by decide +kernel
theorem dM_narrow_10 : decode cM_narrow 10 = .ok (.iload_n 2, 1) := by decide +kernel
theorem dM_narrow_11 : decode cM_narrow 11 = .ok (.iastore, 1) := by decide +kernel
theorem dM_narrow_12 : decode cM_narrow 12 = .ok (.invokevirtual 115, 3) := by decide +kernel
theorem dM_narrow_15 : decode cM_narrow 15 = .ok (.ifCond .ne 5, 3) := by decide +kernel
theorem dM_narrow_18 : decode cM_narrow 18 = .ok (.iconst 0, 1) := by decide +kernel
theorem dM_narrow_19 : decode cM_narrow 19 = .ok (.ireturn, 1) := by decide +kernel
theorem dM_narrow_20 : decode cM_narrow 20 = .ok (.aload_n 0, 1) := by decide +kernel
theorem dM_narrow_21 : decode cM_narrow 21 = .ok (.getfield 13, 3) := by decide +kernel
theorem dM_narrow_24 : decode cM_narrow 24 = .ok (.iload_n 2, 1) := by decide +kernel
theorem dM_narrow_25 : decode cM_narrow 25 = .ok (.iaload, 1) := by decide +kernel
theorem dM_narrow_26 : decode cM_narrow 26 = .ok (.invokestatic 52, 3) := by decide +kernel
theorem dM_narrow_29 : decode cM_narrow 29 = .ok (.lstore 5, 2) := by decide +kernel
theorem dM_narrow_31 : decode cM_narrow 31 = .ok (.lload 5, 2) := by decide +kernel
theorem dM_narrow_33 : decode cM_narrow 33 = .ok (.iload_n 3, 1) := by decide +kernel
theorem dM_narrow_34 : decode cM_narrow 34 = .ok (.invokestatic 52, 3) := by decide +kernel
theorem dM_narrow_37 : decode cM_narrow 37 = .ok (.ladd, 1) := by decide +kernel
theorem dM_narrow_38 : decode cM_narrow 38 = .ok (.lstore 7, 2) := by decide +kernel
theorem dM_narrow_40 : decode cM_narrow 40 = .ok (.aload_n 0, 1) := by decide +kernel
theorem dM_narrow_41 : decode cM_narrow 41 = .ok (.lload 5, 2) := by decide +kernel
theorem dM_narrow_43 : decode cM_narrow 43 = .ok (.lload 7, 2) := by decide +kernel
theorem dM_narrow_45 : decode cM_narrow 45 = .ok (.ldc2_w 72, 3) := by decide +kernel
theorem dM_narrow_48 : decode cM_narrow 48 = .ok (.lcmp, 1) := by decide +kernel
theorem dM_narrow_49 : decode cM_narrow 49 = .ok (.ifCond .ge 8, 3) := by decide +kernel
theorem dM_narrow_52 : decode cM_narrow 52 = .ok (.lload 7, 2) := by decide +kernel
theorem dM_narrow_54 : decode cM_narrow 54 = .ok (.goto 6, 3) := by decide +kernel
theorem dM_narrow_57 : decode cM_narrow 57 = .ok (.ldc2_w 72, 3) := by decide +kernel
theorem dM_narrow_60 : decode cM_narrow 60 = .ok (.invokevirtual 106, 3) := by decide +kernel
theorem dM_narrow_63 : decode cM_narrow 63 = .ok (.aload_n 0, 1) := by decide +kernel
theorem dM_narrow_64 : decode cM_narrow 64 = .ok (.getfield 7, 3) := by decide +kernel
theorem dM_narrow_67 : decode cM_narrow 67 = .ok (.iload_n 2, 1) := by decide +kernel
theorem dM_narrow_68 : decode cM_narrow 68 = .ok (.baload, 1) := by decide +kernel
theorem dM_narrow_69 : decode cM_narrow 69 = .ok (.ifCond .eq 78, 3) := by decide +kernel
theorem dM_narrow_72 : decode cM_narrow 72 = .ok (.aload_n 0, 1) := by decide +kernel
theorem dM_narrow_73 : decode cM_narrow 73 = .ok (.iload_n 2, 1) := by decide +kernel
theorem dM_narrow_74 : decode cM_narrow 74 = .ok (.invokevirtual 119, 3) := by decide +kernel
theorem dM_narrow_77 : decode cM_narrow 77 = .ok (.ifCond .eq 70, 3) := by decide +kernel
theorem dM_narrow_80 : decode cM_narrow 80 = .ok (.aload_n 0, 1) := by decide +kernel
theorem dM_narrow_81 : decode cM_narrow 81 = .ok (.getfield 17, 3) := by decide +kernel
theorem dM_narrow_84 : decode cM_narrow 84 = .ok (.iload_n 2, 1) := by decide +kernel
theorem dM_narrow_85 : decode cM_narrow 85 = .ok (.iaload, 1) := by decide +kernel
theorem dM_narrow_86 : decode cM_narrow 86 = .ok (.aload_n 0, 1) := by decide +kernel
theorem dM_narrow_87 : decode cM_narrow 87 = .ok (.getfield 13, 3) := by decide +kernel
theorem dM_narrow_90 : decode cM_narrow 90 = .ok (.iload_n 2, 1) := by decide +kernel
theorem dM_narrow_91 : decode cM_narrow 91 = .ok (.iaload, 1) := by decide +kernel
theorem dM_narrow_92 : decode cM_narrow 92 = .ok (.invokestatic 69, 3) := by decide +kernel
theorem dM_narrow_95 : decode cM_narrow 95 = .ok (.lload 5, 2) := by decide +kernel
theorem dM_narrow_97 : decode cM_narrow 97 = .ok (.lcmp, 1) := by decide +kernel
theorem dM_narrow_98 : decode cM_narrow 98 = .ok (.ifCond .gt 49, 3) := by decide +kernel
theorem dM_narrow_101 : decode cM_narrow 101 = .ok (.lload 7, 2) := by decide +kernel
theorem dM_narrow_103 : decode cM_narrow 103 = .ok (.aload_n 0, 1) := by decide +kernel
theorem dM_narrow_104 : decode cM_narrow 104 = .ok (.getfield 17, 3) := by decide +kernel
theorem dM_narrow_107 : decode cM_narrow 107 = .ok (.iload_n 2, 1) := by decide +kernel
theorem dM_narrow_108 : decode cM_narrow 108 = .ok (.iaload, 1) := by decide +kernel
theorem dM_narrow_109 : decode cM_narrow 109 = .ok (.aload_n 0, 1) := by decide +kernel
theorem dM_narrow_110 : decode cM_narrow 110 = .ok (.getfield 13, 3) := by decide +kernel
theorem dM_narrow_113 : decode cM_narrow 113 = .ok (.iload_n 2, 1) := by decide +kernel
theorem dM_narrow_114 : decode cM_narrow 114 = .ok (.iaload, 1) := by decide +kernel
theorem dM_narrow_115 : decode cM_narrow 115 = .ok (.invokestatic 74, 3) := by decide +kernel
theorem dM_narrow_118 : decode cM_narrow 118 = .ok (.lcmp, 1) := by decide +kernel
theorem dM_narrow_119 : decode cM_narrow 119 = .ok (.ifCond .gt 28, 3) := by decide +kernel
theorem dM_narrow_122 : decode cM_narrow 122 = .ok (.lload 7, 2) := by decide +kernel
theorem dM_narrow_124 : decode cM_narrow 124 = .ok (.ldc2_w 72, 3) := by decide +kernel
theorem dM_narrow_127 : decode cM_narrow 127 = .ok (.lcmp, 1) := by decide +kernel
theorem dM_narrow_128 : decode cM_narrow 128 = .ok (.ifCond .gt 19, 3) := by decide +kernel
theorem dM_narrow_131 : decode cM_narrow 131 = .ok (.aload_n 0, 1) := by decide +kernel
theorem dM_narrow_132 : decode cM_narrow 132 = .ok (.getfield 84, 3) := by decide +kernel
theorem dM_narrow_135 : decode cM_narrow 135 = .ok (.ifCond .ne 8, 3) := by decide +kernel
theorem dM_narrow_138 : decode cM_narrow 138 = .ok (.iload 4, 2) := by decide +kernel
theorem dM_narrow_140 : decode cM_narrow 140 = .ok (.ifCond .ne 7, 3) := by decide +kernel
theorem dM_narrow_143 : decode cM_narrow 143 = .ok (.iconst 1, 1) := by decide +kernel
theorem dM_narrow_144 : decode cM_narrow 144 = .ok (.goto 4, 3) := by decide +kernel
theorem dM_narrow_147 : decode cM_narrow 147 = .ok (.iconst 0, 1) := by decide +kernel
theorem dM_narrow_148 : decode cM_narrow 148 = .ok (.istore 9, 2) := by decide +kernel
theorem dM_narrow_150 : decode cM_narrow 150 = .ok (.aload_n 0, 1) := by decide +kernel
theorem dM_narrow_151 : decode cM_narrow 151 = .ok (.iload_n 1, 1) := by decide +kernel
theorem dM_narrow_152 : decode cM_narrow 152 = .ok (.iload 9, 2) := by decide +kernel
theorem dM_narrow_154 : decode cM_narrow 154 = .ok (.aload_n 0, 1) := by decide +kernel
theorem dM_narrow_155 : decode cM_narrow 155 = .ok (.getfield 13, 3) := by decide +kernel
theorem dM_narrow_158 : decode cM_narrow 158 = .ok (.iload_n 2, 1) := by decide +kernel
theorem dM_narrow_159 : decode cM_narrow 159 = .ok (.iaload, 1) := by decide +kernel
theorem dM_narrow_160 : decode cM_narrow 160 = .ok (.aload_n 0, 1) := by decide +kernel
theorem dM_narrow_161 : decode cM_narrow 161 = .ok (.getfield 17, 3) := by decide +kernel
theorem dM_narrow_164 : decode cM_narrow 164 = .ok (.iload_n 2, 1) := by decide +kernel
theorem dM_narrow_165 : decode cM_narrow 165 = .ok (.iaload, 1) := by decide +kernel
theorem dM_narrow_166 : decode cM_narrow 166 = .ok (.sipush (-32768), 3) := by decide +kernel
theorem dM_narrow_169 : decode cM_narrow 169 = .ok (.iand, 1) := by decide +kernel
theorem dM_narrow_170 : decode cM_narrow 170 = .ok (.aload_n 0, 1) := by decide +kernel
theorem dM_narrow_171 : decode cM_narrow 171 = .ok (.getfield 81, 3) := by decide +kernel
theorem dM_narrow_174 : decode cM_narrow 174 = .ok (.ior, 1) := by decide +kernel
theorem dM_narrow_175 : decode cM_narrow 175 = .ok (.invokevirtual 111, 3) := by decide +kernel
theorem dM_narrow_178 : decode cM_narrow 178 = .ok (.ireturn, 1) := by decide +kernel
theorem dM_isOpen_0 : decode cM_isOpen 0 = .ok (.aload_n 0, 1) := by decide +kernel
theorem dM_isOpen_1 : decode cM_isOpen 1 = .ok (.getfield 17, 3) := by decide +kernel
theorem dM_isOpen_4 : decode cM_isOpen 4 = .ok (.iload_n 1, 1) := by decide +kernel
theorem dM_isOpen_5 : decode cM_isOpen 5 = .ok (.iaload, 1) := by decide +kernel
theorem dM_isOpen_6 : decode cM_isOpen 6 = .ok (.invokestatic 94, 3) := by decide +kernel
theorem dM_isOpen_9 : decode cM_isOpen 9 = .ok (.bipush 15, 2) := by decide +kernel
theorem dM_isOpen_11 : decode cM_isOpen 11 = .ok (.if_icmp .ne 7, 3) := by decide +kernel
theorem dM_isOpen_14 : decode cM_isOpen 14 = .ok (.iconst 1, 1) := by decide +kernel
theorem dM_isOpen_15 : decode cM_isOpen 15 = .ok (.goto 4, 3) := by decide +kernel
theorem dM_isOpen_18 : decode cM_isOpen 18 = .ok (.iconst 0, 1) := by decide +kernel
theorem dM_isOpen_19 : decode cM_isOpen 19 = .ok (.ireturn, 1) := by decide +kernel
theorem dM_type_0 : decode cM_type 0 = .ok (.iload_n 0, 1) := by decide +kernel
theorem dM_type_1 : decode cM_type 1 = .ok (.bipush 16, 2) := by decide +kernel
theorem dM_type_3 : decode cM_type 3 = .ok (.ishr, 1) := by decide +kernel
theorem dM_type_4 : decode cM_type 4 = .ok (.bipush 15, 2) := by decide +kernel
theorem dM_type_6 : decode cM_type 6 = .ok (.iand, 1) := by decide +kernel
theorem dM_type_7 : decode cM_type 7 = .ok (.ireturn, 1) := by decide +kernel
theorem dM_move_0 : decode cM_move 0 = .ok (.aload_n 0, 1) := by decide +kernel
theorem dM_move_1 : decode cM_move 1 = .ok (.iconst 2, 1) := by decide +kernel
theorem dM_move_2 : decode cM_move 2 = .ok (.newarray .int, 2) := by decide +kernel
theorem dM_move_4 : decode cM_move 4 = .ok (.dup, 1) := by decide +kernel
theorem dM_move_5 : decode cM_move 5 = .ok (.iconst 0, 1) := by decide +kernel
theorem dM_move_6 : decode cM_move 6 = .ok (.iload_n 1, 1) := by decide +kernel
theorem dM_move_7 : decode cM_move 7 = .ok (.iastore, 1) := by decide +kernel
theorem dM_move_8 : decode cM_move 8 = .ok (.dup, 1) := by decide +kernel
theorem dM_move_9 : decode cM_move 9 = .ok (.iconst 1, 1) := by decide +kernel
theorem dM_move_10 : decode cM_move 10 = .ok (.iload_n 2, 1) := by decide +kernel
theorem dM_move_11 : decode cM_move 11 = .ok (.iastore, 1) := by decide +kernel
theorem dM_move_12 : decode cM_move 12 = .ok (.invokevirtual 115, 3) := by decide +kernel
theorem dM_move_15 : decode cM_move 15 = .ok (.ifCond .ne 5, 3) := by decide +kernel
theorem dM_move_18 : decode cM_move 18 = .ok (.iconst 0, 1) := by decide +kernel
theorem dM_move_19 : decode cM_move 19 = .ok (.ireturn, 1) := by decide +kernel
theorem dM_move_20 : decode cM_move 20 = .ok (.aload_n 0, 1) := by decide +kernel
theorem dM_move_21 : decode cM_move 21 = .ok (.getfield 17, 3) := by decide +kernel
theorem dM_move_24 : decode cM_move 24 = .ok (.iload_n 2, 1) := by decide +kernel
theorem dM_move_25 : decode cM_move 25 = .ok (.iaload, 1) := by decide +kernel
theorem dM_move_26 : decode cM_move 26 = .ok (.aload_n 0, 1) := by decide +kernel
theorem dM_move_27 : decode cM_move 27 = .ok (.getfield 13, 3) := by decide +kernel
theorem dM_move_30 : decode cM_move 30 = .ok (.iload_n 2, 1) := by decide +kernel
theorem dM_move_31 : decode cM_move 31 = .ok (.iaload, 1) := by decide +kernel
theorem dM_move_32 : decode cM_move 32 = .ok (.invokestatic 69, 3) := by decide +kernel
theorem dM_move_35 : decode cM_move 35 = .ok (.aload_n 0, 1) := by decide +kernel
theorem dM_move_36 : decode cM_move 36 = .ok (.getfield 17, 3) := by decide +kernel
theorem dM_move_39 : decode cM_move 39 = .ok (.iload_n 2, 1) := by decide +kernel
theorem dM_move_40 : decode cM_move 40 = .ok (.iaload, 1) := by decide +kernel
theorem dM_move_41 : decode cM_move 41 = .ok (.iload_n 3, 1) := by decide +kernel
theorem dM_move_42 : decode cM_move 42 = .ok (.invokestatic 69, 3) := by decide +kernel
theorem dM_move_45 : decode cM_move 45 = .ok (.lcmp, 1) := by decide +kernel
theorem dM_move_46 : decode cM_move 46 = .ok (.ifCond .ne 36, 3) := by decide +kernel
theorem dM_move_49 : decode cM_move 49 = .ok (.aload_n 0, 1) := by decide +kernel
theorem dM_move_50 : decode cM_move 50 = .ok (.getfield 17, 3) := by decide +kernel
theorem dM_move_53 : decode cM_move 53 = .ok (.iload_n 2, 1) := by decide +kernel
theorem dM_move_54 : decode cM_move 54 = .ok (.iaload, 1) := by decide +kernel
theorem dM_move_55 : decode cM_move 55 = .ok (.aload_n 0, 1) := by decide +kernel
theorem dM_move_56 : decode cM_move 56 = .ok (.getfield 13, 3) := by decide +kernel
theorem dM_move_59 : decode cM_move 59 = .ok (.iload_n 2, 1) := by decide +kernel
theorem dM_move_60 : decode cM_move 60 = .ok (.iaload, 1) := by decide +kernel
theorem dM_move_61 : decode cM_move 61 = .ok (.invokestatic 74, 3) := by decide +kernel
theorem dM_move_64 : decode cM_move 64 = .ok (.aload_n 0, 1) := by decide +kernel
theorem dM_move_65 : decode cM_move 65 = .ok (.getfield 17, 3) := by decide +kernel
theorem dM_move_68 : decode cM_move 68 = .ok (.iload_n 2, 1) := by decide +kernel
theorem dM_move_69 : decode cM_move 69 = .ok (.iaload, 1) := by decide +kernel
theorem dM_move_70 : decode cM_move 70 = .ok (.iload_n 3, 1) := by decide +kernel
theorem dM_move_71 : decode cM_move 71 = .ok (.invokestatic 74, 3) := by decide +kernel
theorem dM_move_74 : decode cM_move 74 = .ok (.lcmp, 1) := by decide +kernel
theorem dM_move_75 : decode cM_move 75 = .ok (.ifCond .ne 7, 3) := by decide +kernel
theorem dM_move_78 : decode cM_move 78 = .ok (.iconst 1, 1) := by decide +kernel
theorem dM_move_79 : decode cM_move 79 = .ok (.goto 4, 3) := by decide +kernel
theorem dM_move_82 : decode cM_move 82 = .ok (.iconst 0, 1) := by decide +kernel
theorem dM_move_83 : decode cM_move 83 = .ok (.istore 4, 2) := by decide +kernel
theorem dM_move_85 : decode cM_move 85 = .ok (.aload_n 0, 1) := by decide +kernel
theorem dM_move_86 : decode cM_move 86 = .ok (.iload_n 1, 1) := by decide +kernel
theorem dM_move_87 : decode cM_move 87 = .ok (.aload_n 0, 1) := by decide +kernel
theorem dM_move_88 : decode cM_move 88 = .ok (.getfield 7, 3) := by decide +kernel
theorem dM_move_91 : decode cM_move 91 = .ok (.iload_n 2, 1) := by decide +kernel
theorem dM_move_92 : decode cM_move 92 = .ok (.baload, 1) := by decide +kernel
theorem dM_move_93 : decode cM_move 93 = .ok (.ifCond .eq 20, 3) := by decide +kernel
theorem dM_move_96 : decode cM_move 96 = .ok (.aload_n 0, 1) := by decide +kernel
theorem dM_move_97 : decode cM_move 97 = .ok (.iload_n 2, 1) := by decide +kernel
theorem dM_move_98 : decode cM_move 98 = .ok (.invokevirtual 119, 3) := by decide +kernel
theorem dM_move_101 : decode cM_move 101 = .ok (.ifCond .eq 12, 3) := by decide +kernel
theorem dM_move_104 : decode cM_move 104 = .ok (.iload 4, 2) := by decide +kernel
theorem dM_move_106 : decode cM_move 106 = .ok (.ifCond .eq 7, 3) := by decide +kernel
theorem dM_move_109 : decode cM_move 109 = .ok (.iconst 1, 1) := by decide +kernel
theorem dM_move_110 : decode cM_move 110 = .ok (.goto 4, 3) := by decide +kernel
theorem dM_move_113 : decode cM_move 113 = .ok (.iconst 0, 1) := by decide +kernel
theorem dM_move_114 : decode cM_move 114 = .ok (.iload_n 3, 1) := by decide +kernel
theorem dM_move_115 : decode cM_move 115 = .ok (.aload_n 0, 1) := by decide +kernel
theorem dM_move_116 : decode cM_move 116 = .ok (.getfield 17, 3) := by decide +kernel
theorem dM_move_119 : decode cM_move 119 = .ok (.iload_n 2, 1) := by decide +kernel
theorem dM_move_120 : decode cM_move 120 = .ok (.iaload, 1) := by decide +kernel
theorem dM_move_121 : decode cM_move 121 = .ok (.invokevirtual 111, 3) := by decide +kernel
theorem dM_move_124 : decode cM_move 124 = .ok (.ireturn, 1) := by decide +kernel
theorem dM_keep_0 : decode cM_keep 0 = .ok (.aload_n 0, 1) := by decide +kernel
theorem dM_keep_1 : decode cM_keep 1 = .ok (.iconst 2, 1) := by decide +kernel
theorem dM_keep_2 : decode cM_keep 2 = .ok (.newarray .int, 2) := by decide +kernel
theorem dM_keep_4 : decode cM_keep 4 = .ok (.dup, 1) := by decide +kernel
theorem dM_keep_5 : decode cM_keep 5 = .ok (.iconst 0, 1) := by decide +kernel
theorem dM_keep_6 : decode cM_keep 6 = .ok (.iload_n 1, 1) := by decide +kernel
theorem dM_keep_7 : decode cM_keep 7 = .ok (.iastore, 1) := by decide +kernel
theorem dM_keep_8 : decode cM_keep 8 = .ok (.dup, 1) := by decide +kernel
theorem dM_keep_9 : decode cM_keep 9 = .ok (.iconst 1, 1) := by decide +kernel
theorem dM_keep_10 : decode cM_keep 10 = .ok (.iload_n 2, 1) := by decide +kernel
theorem dM_keep_11 : decode cM_keep 11 = .ok (.iastore, 1) := by decide +kernel
theorem dM_keep_12 : decode cM_keep 12 = .ok (.invokevirtual 115, 3) := by decide +kernel
theorem dM_keep_15 : decode cM_keep 15 = .ok (.ifCond .eq 63, 3) := by decide +kernel
theorem dM_keep_18 : decode cM_keep 18 = .ok (.aload_n 0, 1) := by decide +kernel
theorem dM_keep_19 : decode cM_keep 19 = .ok (.iload_n 1, 1) := by decide +kernel
theorem dM_keep_20 : decode cM_keep 20 = .ok (.aload_n 0, 1) := by decide +kernel
theorem dM_keep_21 : decode cM_keep 21 = .ok (.getfield 7, 3) := by decide +kernel
theorem dM_keep_24 : decode cM_keep 24 = .ok (.iload_n 2, 1) := by decide +kernel
theorem dM_keep_25 : decode cM_keep 25 = .ok (.baload, 1) := by decide +kernel
theorem dM_keep_26 : decode cM_keep 26 = .ok (.ifCond .eq 15, 3) := by decide +kernel
theorem dM_keep_29 : decode cM_keep 29 = .ok (.aload_n 0, 1) := by decide +kernel
theorem dM_keep_30 : decode cM_keep 30 = .ok (.iload_n 2, 1) := by decide +kernel
theorem dM_keep_31 : decode cM_keep 31 = .ok (.invokevirtual 119, 3) := by decide +kernel
theorem dM_keep_34 : decode cM_keep 34 = .ok (.ifCond .eq 7, 3) := by decide +kernel
theorem dM_keep_37 : decode cM_keep 37 = .ok (.iconst 1, 1) := by decide +kernel
theorem dM_keep_38 : decode cM_keep 38 = .ok (.goto 4, 3) := by decide +kernel
theorem dM_keep_41 : decode cM_keep 41 = .ok (.iconst 0, 1) := by decide +kernel
theorem dM_keep_42 : decode cM_keep 42 = .ok (.aload_n 0, 1) := by decide +kernel
theorem dM_keep_43 : decode cM_keep 43 = .ok (.getfield 13, 3) := by decide +kernel
theorem dM_keep_46 : decode cM_keep 46 = .ok (.iload_n 2, 1) := by decide +kernel
theorem dM_keep_47 : decode cM_keep 47 = .ok (.iaload, 1) := by decide +kernel
theorem dM_keep_48 : decode cM_keep 48 = .ok (.aload_n 0, 1) := by decide +kernel
theorem dM_keep_49 : decode cM_keep 49 = .ok (.getfield 17, 3) := by decide +kernel
theorem dM_keep_52 : decode cM_keep 52 = .ok (.iload_n 2, 1) := by decide +kernel
theorem dM_keep_53 : decode cM_keep 53 = .ok (.iaload, 1) := by decide +kernel
theorem dM_keep_54 : decode cM_keep 54 = .ok (.aload_n 0, 1) := by decide +kernel
theorem dM_keep_55 : decode cM_keep 55 = .ok (.getfield 17, 3) := by decide +kernel
theorem dM_keep_58 : decode cM_keep 58 = .ok (.iload_n 2, 1) := by decide +kernel
theorem dM_keep_59 : decode cM_keep 59 = .ok (.iaload, 1) := by decide +kernel
theorem dM_keep_60 : decode cM_keep 60 = .ok (.invokestatic 97, 3) := by decide +kernel
theorem dM_keep_63 : decode cM_keep 63 = .ok (.iload_n 3, 1) := by decide +kernel
theorem dM_keep_64 : decode cM_keep 64 = .ok (.iand, 1) := by decide +kernel
theorem dM_keep_65 : decode cM_keep 65 = .ok (.invokestatic 123, 3) := by decide +kernel
theorem dM_keep_68 : decode cM_keep 68 = .ok (.invokevirtual 111, 3) := by decide +kernel
theorem dM_keep_71 : decode cM_keep 71 = .ok (.ifCond .eq 7, 3) := by decide +kernel
theorem dM_keep_74 : decode cM_keep 74 = .ok (.iconst 1, 1) := by decide +kernel
theorem dM_keep_75 : decode cM_keep 75 = .ok (.goto 4, 3) := by decide +kernel
theorem dM_keep_78 : decode cM_keep 78 = .ok (.iconst 0, 1) := by decide +kernel
theorem dM_keep_79 : decode cM_keep 79 = .ok (.ireturn, 1) := by decide +kernel
theorem dM_perms_0 : decode cM_perms 0 = .ok (.iload_n 0, 1) := by decide +kernel
theorem dM_perms_1 : decode cM_perms 1 = .ok (.bipush 20, 2) := by decide +kernel
theorem dM_perms_3 : decode cM_perms 3 = .ok (.iushr, 1) := by decide +kernel
theorem dM_perms_4 : decode cM_perms 4 = .ok (.ireturn, 1) := by decide +kernel
theorem dM_withPerms_0 : decode cM_withPerms 0 = .ok (.iload_n 0, 1) := by decide +kernel
theorem dM_withPerms_1 : decode cM_withPerms 1 = .ok (.ldc 38, 2) := by decide +kernel
theorem dM_withPerms_3 : decode cM_withPerms 3 = .ok (.iand, 1) := by decide +kernel
theorem dM_withPerms_4 : decode cM_withPerms 4 = .ok (.iload_n 1, 1) := by decide +kernel
theorem dM_withPerms_5 : decode cM_withPerms 5 = .ok (.bipush 20, 2) := by decide +kernel
theorem dM_withPerms_7 : decode cM_withPerms 7 = .ok (.ishl, 1) := by decide +kernel
theorem dM_withPerms_8 : decode cM_withPerms 8 = .ok (.ior, 1) := by decide +kernel
theorem dM_withPerms_9 : decode cM_withPerms 9 = .ok (.ireturn, 1) := by decide +kernel
theorem dM_seal_0 : decode cM_seal 0 = .ok (.aload_n 0, 1) := by decide +kernel
theorem dM_seal_1 : decode cM_seal 1 = .ok (.iconst 3, 1) := by decide +kernel
theorem dM_seal_2 : decode cM_seal 2 = .ok (.newarray .int, 2) := by decide +kernel
theorem dM_seal_4 : decode cM_seal 4 = .ok (.dup, 1) := by decide +kernel
theorem dM_seal_5 : decode cM_seal 5 = .ok (.iconst 0, 1) := by decide +kernel
theorem dM_seal_6 : decode cM_seal 6 = .ok (.iload_n 1, 1) := by decide +kernel
theorem dM_seal_7 : decode cM_seal 7 = .ok (.iastore, 1) := by decide +kernel
theorem dM_seal_8 : decode cM_seal 8 = .ok (.dup, 1) := by decide +kernel
theorem dM_seal_9 : decode cM_seal 9 = .ok (.iconst 1, 1) := by decide +kernel
theorem dM_seal_10 : decode cM_seal 10 = .ok (.iload_n 2, 1) := by decide +kernel
theorem dM_seal_11 : decode cM_seal 11 = .ok (.iastore, 1) := by decide +kernel
theorem dM_seal_12 : decode cM_seal 12 = .ok (.dup, 1) := by decide +kernel
theorem dM_seal_13 : decode cM_seal 13 = .ok (.iconst 2, 1) := by decide +kernel
theorem dM_seal_14 : decode cM_seal 14 = .ok (.iload_n 3, 1) := by decide +kernel
theorem dM_seal_15 : decode cM_seal 15 = .ok (.iastore, 1) := by decide +kernel
theorem dM_seal_16 : decode cM_seal 16 = .ok (.invokevirtual 115, 3) := by decide +kernel
theorem dM_seal_19 : decode cM_seal 19 = .ok (.ifCond .ne 5, 3) := by decide +kernel
theorem dM_seal_22 : decode cM_seal 22 = .ok (.iconst 0, 1) := by decide +kernel
theorem dM_seal_23 : decode cM_seal 23 = .ok (.ireturn, 1) := by decide +kernel
theorem dM_seal_24 : decode cM_seal 24 = .ok (.aload_n 0, 1) := by decide +kernel
theorem dM_seal_25 : decode cM_seal 25 = .ok (.getfield 13, 3) := by decide +kernel
theorem dM_seal_28 : decode cM_seal 28 = .ok (.iload_n 3, 1) := by decide +kernel
theorem dM_seal_29 : decode cM_seal 29 = .ok (.iaload, 1) := by decide +kernel
theorem dM_seal_30 : decode cM_seal 30 = .ok (.istore 4, 2) := by decide +kernel
theorem dM_seal_32 : decode cM_seal 32 = .ok (.aload_n 0, 1) := by decide +kernel
theorem dM_seal_33 : decode cM_seal 33 = .ok (.iload_n 1, 1) := by decide +kernel
theorem dM_seal_34 : decode cM_seal 34 = .ok (.aload_n 0, 1) := by decide +kernel
theorem dM_seal_35 : decode cM_seal 35 = .ok (.getfield 7, 3) := by decide +kernel
theorem dM_seal_38 : decode cM_seal 38 = .ok (.iload_n 2, 1) := by decide +kernel
theorem dM_seal_39 : decode cM_seal 39 = .ok (.baload, 1) := by decide +kernel
theorem dM_seal_40 : decode cM_seal 40 = .ok (.ifCond .eq 74, 3) := by decide +kernel
theorem dM_seal_43 : decode cM_seal 43 = .ok (.aload_n 0, 1) := by decide +kernel
theorem dM_seal_44 : decode cM_seal 44 = .ok (.getfield 7, 3) := by decide +kernel
theorem dM_seal_47 : decode cM_seal 47 = .ok (.iload_n 3, 1) := by decide +kernel
theorem dM_seal_48 : decode cM_seal 48 = .ok (.baload, 1) := by decide +kernel
theorem dM_seal_49 : decode cM_seal 49 = .ok (.ifCond .eq 65, 3) := by decide +kernel
theorem dM_seal_52 : decode cM_seal 52 = .ok (.aload_n 0, 1) := by decide +kernel
theorem dM_seal_53 : decode cM_seal 53 = .ok (.iload_n 2, 1) := by decide +kernel
theorem dM_seal_54 : decode cM_seal 54 = .ok (.invokevirtual 119, 3) := by decide +kernel
theorem dM_seal_57 : decode cM_seal 57 = .ok (.ifCond .eq 57, 3) := by decide +kernel
theorem dM_seal_60 : decode cM_seal 60 = .ok (.aload_n 0, 1) := by decide +kernel
theorem dM_seal_61 : decode cM_seal 61 = .ok (.iload_n 3, 1) := by decide +kernel
theorem dM_seal_62 : decode cM_seal 62 = .ok (.invokevirtual 119, 3) := by decide +kernel
theorem dM_seal_65 : decode cM_seal 65 = .ok (.ifCond .eq 49, 3) := by decide +kernel
theorem dM_seal_68 : decode cM_seal 68 = .ok (.aload_n 0, 1) := by decide +kernel
theorem dM_seal_69 : decode cM_seal 69 = .ok (.iload_n 3, 1) := by decide +kernel
theorem dM_seal_70 : decode cM_seal 70 = .ok (.bipush 7, 2) := by decide +kernel
theorem dM_seal_72 : decode cM_seal 72 = .ok (.invokevirtual 127, 3) := by decide +kernel
theorem dM_seal_75 : decode cM_seal 75 = .ok (.ifCond .eq 39, 3) := by decide +kernel
theorem dM_seal_78 : decode cM_seal 78 = .ok (.aload_n 0, 1) := by decide +kernel
theorem dM_seal_79 : decode cM_seal 79 = .ok (.getfield 17, 3) := by decide +kernel
theorem dM_seal_82 : decode cM_seal 82 = .ok (.iload_n 3, 1) := by decide +kernel
theorem dM_seal_83 : decode cM_seal 83 = .ok (.iaload, 1) := by decide +kernel
theorem dM_seal_84 : decode cM_seal 84 = .ok (.iload 4, 2) := by decide +kernel
theorem dM_seal_86 : decode cM_seal 86 = .ok (.iload 4, 2) := by decide +kernel
theorem dM_seal_88 : decode cM_seal 88 = .ok (.invokestatic 52, 3) := by decide +kernel
theorem dM_seal_91 : decode cM_seal 91 = .ok (.iconst 1, 1) := by decide +kernel
theorem dM_seal_92 : decode cM_seal 92 = .ok (.invokestatic 131, 3) := by decide +kernel
theorem dM_seal_95 : decode cM_seal 95 = .ok (.ifCond .eq 19, 3) := by decide +kernel
theorem dM_seal_98 : decode cM_seal 98 = .ok (.iload 4, 2) := by decide +kernel
theorem dM_seal_100 : decode cM_seal 100 = .ok (.invokestatic 52, 3) := by decide +kernel
theorem dM_seal_103 : decode cM_seal 103 = .ok (.ldc2_w 135, 3) := by decide +kernel
theorem dM_seal_106 : decode cM_seal 106 = .ok (.lcmp, 1) := by decide +kernel
theorem dM_seal_107 : decode cM_seal 107 = .ok (.ifCond .ge 7, 3) := by decide +kernel
theorem dM_seal_110 : decode cM_seal 110 = .ok (.iconst 1, 1) := by decide +kernel
theorem dM_seal_111 : decode cM_seal 111 = .ok (.goto 4, 3) := by decide +kernel
theorem dM_seal_114 : decode cM_seal 114 = .ok (.iconst 0, 1) := by decide +kernel
theorem dM_seal_115 : decode cM_seal 115 = .ok (.aload_n 0, 1) := by decide +kernel
theorem dM_seal_116 : decode cM_seal 116 = .ok (.getfield 13, 3) := by decide +kernel
theorem dM_seal_119 : decode cM_seal 119 = .ok (.iload_n 2, 1) := by decide +kernel
theorem dM_seal_120 : decode cM_seal 120 = .ok (.iaload, 1) := by decide +kernel
theorem dM_seal_121 : decode cM_seal 121 = .ok (.aload_n 0, 1) := by decide +kernel
theorem dM_seal_122 : decode cM_seal 122 = .ok (.getfield 17, 3) := by decide +kernel
theorem dM_seal_125 : decode cM_seal 125 = .ok (.iload_n 2, 1) := by decide +kernel
theorem dM_seal_126 : decode cM_seal 126 = .ok (.iaload, 1) := by decide +kernel
theorem dM_seal_127 : decode cM_seal 127 = .ok (.iload 4, 2) := by decide +kernel
theorem dM_seal_129 : decode cM_seal 129 = .ok (.bipush 15, 2) := by decide +kernel
theorem dM_seal_131 : decode cM_seal 131 = .ok (.iand, 1) := by decide +kernel
theorem dM_seal_132 : decode cM_seal 132 = .ok (.invokestatic 137, 3) := by decide +kernel
theorem dM_seal_135 : decode cM_seal 135 = .ok (.invokevirtual 111, 3) := by decide +kernel
theorem dM_seal_138 : decode cM_seal 138 = .ok (.ireturn, 1) := by decide +kernel
theorem dM_has_0 : decode cM_has 0 = .ok (.aload_n 0, 1) := by decide +kernel
theorem dM_has_1 : decode cM_has 1 = .ok (.getfield 17, 3) := by decide +kernel
theorem dM_has_4 : decode cM_has 4 = .ok (.iload_n 1, 1) := by decide +kernel
theorem dM_has_5 : decode cM_has 5 = .ok (.iaload, 1) := by decide +kernel
theorem dM_has_6 : decode cM_has 6 = .ok (.invokestatic 97, 3) := by decide +kernel
theorem dM_has_9 : decode cM_has 9 = .ok (.iload_n 2, 1) := by decide +kernel
theorem dM_has_10 : decode cM_has 10 = .ok (.ishr, 1) := by decide +kernel
theorem dM_has_11 : decode cM_has 11 = .ok (.iconst 1, 1) := by decide +kernel
theorem dM_has_12 : decode cM_has 12 = .ok (.iand, 1) := by decide +kernel
theorem dM_has_13 : decode cM_has 13 = .ok (.iconst 1, 1) := by decide +kernel
theorem dM_has_14 : decode cM_has 14 = .ok (.if_icmp .ne 7, 3) := by decide +kernel
theorem dM_has_17 : decode cM_has 17 = .ok (.iconst 1, 1) := by decide +kernel
theorem dM_has_18 : decode cM_has 18 = .ok (.goto 4, 3) := by decide +kernel
theorem dM_has_21 : decode cM_has 21 = .ok (.iconst 0, 1) := by decide +kernel
theorem dM_has_22 : decode cM_has 22 = .ok (.ireturn, 1) := by decide +kernel
theorem dM_isIn_0 : decode cM_isIn 0 = .ok (.iload_n 0, 1) := by decide +kernel
theorem dM_isIn_1 : decode cM_isIn 1 = .ok (.iload_n 1, 1) := by decide +kernel
theorem dM_isIn_2 : decode cM_isIn 2 = .ok (.invokestatic 69, 3) := by decide +kernel
theorem dM_isIn_5 : decode cM_isIn 5 = .ok (.lload_n 2, 1) := by decide +kernel
theorem dM_isIn_6 : decode cM_isIn 6 = .ok (.lcmp, 1) := by decide +kernel
theorem dM_isIn_7 : decode cM_isIn 7 = .ok (.ifCond .gt 21, 3) := by decide +kernel
theorem dM_isIn_10 : decode cM_isIn 10 = .ok (.lload_n 2, 1) := by decide +kernel
theorem dM_isIn_11 : decode cM_isIn 11 = .ok (.iload 4, 2) := by decide +kernel
theorem dM_isIn_13 : decode cM_isIn 13 = .ok (.i2l, 1) := by decide +kernel
theorem dM_isIn_14 : decode cM_isIn 14 = .ok (.ladd, 1) := by decide +kernel
theorem dM_isIn_15 : decode cM_isIn 15 = .ok (.iload_n 0, 1) := by decide +kernel
theorem dM_isIn_16 : decode cM_isIn 16 = .ok (.iload_n 1, 1) := by decide +kernel
theorem dM_isIn_17 : decode cM_isIn 17 = .ok (.invokestatic 74, 3) := by decide +kernel
theorem dM_isIn_20 : decode cM_isIn 20 = .ok (.lcmp, 1) := by decide +kernel
theorem dM_isIn_21 : decode cM_isIn 21 = .ok (.ifCond .gt 7, 3) := by decide +kernel
theorem dM_isIn_24 : decode cM_isIn 24 = .ok (.iconst 1, 1) := by decide +kernel
theorem dM_isIn_25 : decode cM_isIn 25 = .ok (.goto 4, 3) := by decide +kernel
theorem dM_isIn_28 : decode cM_isIn 28 = .ok (.iconst 0, 1) := by decide +kernel
theorem dM_isIn_29 : decode cM_isIn 29 = .ok (.ireturn, 1) := by decide +kernel
theorem dM_withType_0 : decode cM_withType 0 = .ok (.iload_n 0, 1) := by decide +kernel
theorem dM_withType_1 : decode cM_withType 1 = .ok (.ldc 37, 2) := by decide +kernel
theorem dM_withType_3 : decode cM_withType 3 = .ok (.iand, 1) := by decide +kernel
theorem dM_withType_4 : decode cM_withType 4 = .ok (.iload_n 1, 1) := by decide +kernel
theorem dM_withType_5 : decode cM_withType 5 = .ok (.bipush 16, 2) := by decide +kernel
theorem dM_withType_7 : decode cM_withType 7 = .ok (.ishl, 1) := by decide +kernel
theorem dM_withType_8 : decode cM_withType 8 = .ok (.ior, 1) := by decide +kernel
theorem dM_withType_9 : decode cM_withType 9 = .ok (.ireturn, 1) := by decide +kernel
theorem dM_unseal_0 : decode cM_unseal 0 = .ok (.aload_n 0, 1) := by decide +kernel
theorem dM_unseal_1 : decode cM_unseal 1 = .ok (.iconst 3, 1) := by decide +kernel
theorem dM_unseal_2 : decode cM_unseal 2 = .ok (.newarray .int, 2) := by decide +kernel
theorem dM_unseal_4 : decode cM_unseal 4 = .ok (.dup, 1) := by decide +kernel
theorem dM_unseal_5 : decode cM_unseal 5 = .ok (.iconst 0, 1) := by decide +kernel
theorem dM_unseal_6 : decode cM_unseal 6 = .ok (.iload_n 1, 1) := by decide +kernel
theorem dM_unseal_7 : decode cM_unseal 7 = .ok (.iastore, 1) := by decide +kernel
theorem dM_unseal_8 : decode cM_unseal 8 = .ok (.dup, 1) := by decide +kernel
theorem dM_unseal_9 : decode cM_unseal 9 = .ok (.iconst 1, 1) := by decide +kernel
theorem dM_unseal_10 : decode cM_unseal 10 = .ok (.iload_n 2, 1) := by decide +kernel
theorem dM_unseal_11 : decode cM_unseal 11 = .ok (.iastore, 1) := by decide +kernel
theorem dM_unseal_12 : decode cM_unseal 12 = .ok (.dup, 1) := by decide +kernel
theorem dM_unseal_13 : decode cM_unseal 13 = .ok (.iconst 2, 1) := by decide +kernel
theorem dM_unseal_14 : decode cM_unseal 14 = .ok (.iload_n 3, 1) := by decide +kernel
theorem dM_unseal_15 : decode cM_unseal 15 = .ok (.iastore, 1) := by decide +kernel
theorem dM_unseal_16 : decode cM_unseal 16 = .ok (.invokevirtual 115, 3) := by decide +kernel
theorem dM_unseal_19 : decode cM_unseal 19 = .ok (.ifCond .ne 5, 3) := by decide +kernel
theorem dM_unseal_22 : decode cM_unseal 22 = .ok (.iconst 0, 1) := by decide +kernel
theorem dM_unseal_23 : decode cM_unseal 23 = .ok (.ireturn, 1) := by decide +kernel
theorem dM_unseal_24 : decode cM_unseal 24 = .ok (.aload_n 0, 1) := by decide +kernel
theorem dM_unseal_25 : decode cM_unseal 25 = .ok (.getfield 13, 3) := by decide +kernel
theorem dM_unseal_28 : decode cM_unseal 28 = .ok (.iload_n 3, 1) := by decide +kernel
theorem dM_unseal_29 : decode cM_unseal 29 = .ok (.iaload, 1) := by decide +kernel
theorem dM_unseal_30 : decode cM_unseal 30 = .ok (.istore 4, 2) := by decide +kernel
theorem dM_unseal_32 : decode cM_unseal 32 = .ok (.aload_n 0, 1) := by decide +kernel
theorem dM_unseal_33 : decode cM_unseal 33 = .ok (.getfield 17, 3) := by decide +kernel
theorem dM_unseal_36 : decode cM_unseal 36 = .ok (.iload_n 2, 1) := by decide +kernel
theorem dM_unseal_37 : decode cM_unseal 37 = .ok (.iaload, 1) := by decide +kernel
theorem dM_unseal_38 : decode cM_unseal 38 = .ok (.invokestatic 94, 3) := by decide +kernel
theorem dM_unseal_41 : decode cM_unseal 41 = .ok (.istore 5, 2) := by decide +kernel
theorem dM_unseal_43 : decode cM_unseal 43 = .ok (.aload_n 0, 1) := by decide +kernel
theorem dM_unseal_44 : decode cM_unseal 44 = .ok (.iload_n 3, 1) := by decide +kernel
theorem dM_unseal_45 : decode cM_unseal 45 = .ok (.iconst 0, 1) := by decide +kernel
theorem dM_unseal_46 : decode cM_unseal 46 = .ok (.invokevirtual 127, 3) := by decide +kernel
theorem dM_unseal_49 : decode cM_unseal 49 = .ok (.ifCond .eq 15, 3) := by decide +kernel
theorem dM_unseal_52 : decode cM_unseal 52 = .ok (.aload_n 0, 1) := by decide +kernel
theorem dM_unseal_53 : decode cM_unseal 53 = .ok (.getfield 17, 3) := by decide +kernel
theorem dM_unseal_56 : decode cM_unseal 56 = .ok (.iload_n 2, 1) := by decide +kernel
theorem dM_unseal_57 : decode cM_unseal 57 = .ok (.iaload, 1) := by decide +kernel
theorem dM_unseal_58 : decode cM_unseal 58 = .ok (.invokestatic 97, 3) := by decide +kernel
theorem dM_unseal_61 : decode cM_unseal 61 = .ok (.goto 15, 3) := by decide +kernel
theorem dM_unseal_64 : decode cM_unseal 64 = .ok (.aload_n 0, 1) := by decide +kernel
theorem dM_unseal_65 : decode cM_unseal 65 = .ok (.getfield 17, 3) := by decide +kernel
theorem dM_unseal_68 : decode cM_unseal 68 = .ok (.iload_n 2, 1) := by decide +kernel
theorem dM_unseal_69 : decode cM_unseal 69 = .ok (.iaload, 1) := by decide +kernel
theorem dM_unseal_70 : decode cM_unseal 70 = .ok (.invokestatic 97, 3) := by decide +kernel
theorem dM_unseal_73 : decode cM_unseal 73 = .ok (.bipush (-2), 2) := by decide +kernel
theorem dM_unseal_75 : decode cM_unseal 75 = .ok (.iand, 1) := by decide +kernel
theorem dM_unseal_76 : decode cM_unseal 76 = .ok (.istore 6, 2) := by decide +kernel
theorem dM_unseal_78 : decode cM_unseal 78 = .ok (.aload_n 0, 1) := by decide +kernel
theorem dM_unseal_79 : decode cM_unseal 79 = .ok (.iload_n 1, 1) := by decide +kernel
theorem dM_unseal_80 : decode cM_unseal 80 = .ok (.aload_n 0, 1) := by decide +kernel
theorem dM_unseal_81 : decode cM_unseal 81 = .ok (.getfield 7, 3) := by decide +kernel
theorem dM_unseal_84 : decode cM_unseal 84 = .ok (.iload_n 2, 1) := by decide +kernel
theorem dM_unseal_85 : decode cM_unseal 85 = .ok (.baload, 1) := by decide +kernel
theorem dM_unseal_86 : decode cM_unseal 86 = .ok (.ifCond .eq 68, 3) := by decide +kernel
theorem dM_unseal_89 : decode cM_unseal 89 = .ok (.aload_n 0, 1) := by decide +kernel
theorem dM_unseal_90 : decode cM_unseal 90 = .ok (.getfield 7, 3) := by decide +kernel
theorem dM_unseal_93 : decode cM_unseal 93 = .ok (.iload_n 3, 1) := by decide +kernel
theorem dM_unseal_94 : decode cM_unseal 94 = .ok (.baload, 1) := by decide +kernel
theorem dM_unseal_95 : decode cM_unseal 95 = .ok (.ifCond .eq 59, 3) := by decide +kernel
theorem dM_unseal_98 : decode cM_unseal 98 = .ok (.iload 5, 2) := by decide +kernel
theorem dM_unseal_100 : decode cM_unseal 100 = .ok (.bipush 12, 2) := by decide +kernel
theorem dM_unseal_102 : decode cM_unseal 102 = .ok (.if_icmp .ge 52, 3) := by decide +kernel
theorem dM_unseal_105 : decode cM_unseal 105 = .ok (.iload 5, 2) := by decide +kernel
theorem dM_unseal_107 : decode cM_unseal 107 = .ok (.iload 4, 2) := by decide +kernel
theorem dM_unseal_109 : decode cM_unseal 109 = .ok (.if_icmp .ne 45, 3) := by decide +kernel
theorem dM_unseal_112 : decode cM_unseal 112 = .ok (.aload_n 0, 1) := by decide +kernel
theorem dM_unseal_113 : decode cM_unseal 113 = .ok (.iload_n 3, 1) := by decide +kernel
theorem dM_unseal_114 : decode cM_unseal 114 = .ok (.invokevirtual 119, 3) := by decide +kernel
theorem dM_unseal_117 : decode cM_unseal 117 = .ok (.ifCond .eq 37, 3) := by decide +kernel
theorem dM_unseal_120 : decode cM_unseal 120 = .ok (.aload_n 0, 1) := by decide +kernel
theorem dM_unseal_121 : decode cM_unseal 121 = .ok (.iload_n 3, 1) := by decide +kernel
theorem dM_unseal_122 : decode cM_unseal 122 = .ok (.bipush 9, 2) := by decide +kernel
theorem dM_unseal_124 : decode cM_unseal 124 = .ok (.invokevirtual 127, 3) := by decide +kernel
theorem dM_unseal_127 : decode cM_unseal 127 = .ok (.ifCond .eq 27, 3) := by decide +kernel
theorem dM_unseal_130 : decode cM_unseal 130 = .ok (.aload_n 0, 1) := by decide +kernel
theorem dM_unseal_131 : decode cM_unseal 131 = .ok (.getfield 17, 3) := by decide +kernel
theorem dM_unseal_134 : decode cM_unseal 134 = .ok (.iload_n 3, 1) := by decide +kernel
theorem dM_unseal_135 : decode cM_unseal 135 = .ok (.iaload, 1) := by decide +kernel
theorem dM_unseal_136 : decode cM_unseal 136 = .ok (.iload 4, 2) := by decide +kernel
theorem dM_unseal_138 : decode cM_unseal 138 = .ok (.iload 4, 2) := by decide +kernel
theorem dM_unseal_140 : decode cM_unseal 140 = .ok (.invokestatic 52, 3) := by decide +kernel
theorem dM_unseal_143 : decode cM_unseal 143 = .ok (.iconst 1, 1) := by decide +kernel
theorem dM_unseal_144 : decode cM_unseal 144 = .ok (.invokestatic 131, 3) := by decide +kernel
theorem dM_unseal_147 : decode cM_unseal 147 = .ok (.ifCond .eq 7, 3) := by decide +kernel
theorem dM_unseal_150 : decode cM_unseal 150 = .ok (.iconst 1, 1) := by decide +kernel
theorem dM_unseal_151 : decode cM_unseal 151 = .ok (.goto 4, 3) := by decide +kernel
theorem dM_unseal_154 : decode cM_unseal 154 = .ok (.iconst 0, 1) := by decide +kernel
theorem dM_unseal_155 : decode cM_unseal 155 = .ok (.aload_n 0, 1) := by decide +kernel
theorem dM_unseal_156 : decode cM_unseal 156 = .ok (.getfield 13, 3) := by decide +kernel
theorem dM_unseal_159 : decode cM_unseal 159 = .ok (.iload_n 2, 1) := by decide +kernel
theorem dM_unseal_160 : decode cM_unseal 160 = .ok (.iaload, 1) := by decide +kernel
theorem dM_unseal_161 : decode cM_unseal 161 = .ok (.aload_n 0, 1) := by decide +kernel
theorem dM_unseal_162 : decode cM_unseal 162 = .ok (.getfield 17, 3) := by decide +kernel
theorem dM_unseal_165 : decode cM_unseal 165 = .ok (.iload_n 2, 1) := by decide +kernel
theorem dM_unseal_166 : decode cM_unseal 166 = .ok (.iaload, 1) := by decide +kernel
theorem dM_unseal_167 : decode cM_unseal 167 = .ok (.bipush 15, 2) := by decide +kernel
theorem dM_unseal_169 : decode cM_unseal 169 = .ok (.invokestatic 137, 3) := by decide +kernel
theorem dM_unseal_172 : decode cM_unseal 172 = .ok (.iload 6, 2) := by decide +kernel
theorem dM_unseal_174 : decode cM_unseal 174 = .ok (.invokestatic 123, 3) := by decide +kernel
theorem dM_unseal_177 : decode cM_unseal 177 = .ok (.invokevirtual 111, 3) := by decide +kernel
theorem dM_unseal_180 : decode cM_unseal 180 = .ok (.ireturn, 1) := by decide +kernel
theorem dM_gate_0 : decode cM_gate 0 = .ok (.aload_n 0, 1) := by decide +kernel
theorem dM_gate_1 : decode cM_gate 1 = .ok (.iconst 2, 1) := by decide +kernel
theorem dM_gate_2 : decode cM_gate 2 = .ok (.newarray .int, 2) := by decide +kernel
theorem dM_gate_4 : decode cM_gate 4 = .ok (.dup, 1) := by decide +kernel
theorem dM_gate_5 : decode cM_gate 5 = .ok (.iconst 0, 1) := by decide +kernel
theorem dM_gate_6 : decode cM_gate 6 = .ok (.iload_n 1, 1) := by decide +kernel
theorem dM_gate_7 : decode cM_gate 7 = .ok (.iastore, 1) := by decide +kernel
theorem dM_gate_8 : decode cM_gate 8 = .ok (.dup, 1) := by decide +kernel
theorem dM_gate_9 : decode cM_gate 9 = .ok (.iconst 1, 1) := by decide +kernel
theorem dM_gate_10 : decode cM_gate 10 = .ok (.iload_n 2, 1) := by decide +kernel
theorem dM_gate_11 : decode cM_gate 11 = .ok (.iastore, 1) := by decide +kernel
theorem dM_gate_12 : decode cM_gate 12 = .ok (.invokevirtual 115, 3) := by decide +kernel
theorem dM_gate_15 : decode cM_gate 15 = .ok (.ifCond .eq 63, 3) := by decide +kernel
theorem dM_gate_18 : decode cM_gate 18 = .ok (.aload_n 0, 1) := by decide +kernel
theorem dM_gate_19 : decode cM_gate 19 = .ok (.iload_n 1, 1) := by decide +kernel
theorem dM_gate_20 : decode cM_gate 20 = .ok (.aload_n 0, 1) := by decide +kernel
theorem dM_gate_21 : decode cM_gate 21 = .ok (.getfield 7, 3) := by decide +kernel
theorem dM_gate_24 : decode cM_gate 24 = .ok (.iload_n 2, 1) := by decide +kernel
theorem dM_gate_25 : decode cM_gate 25 = .ok (.baload, 1) := by decide +kernel
theorem dM_gate_26 : decode cM_gate 26 = .ok (.ifCond .eq 24, 3) := by decide +kernel
theorem dM_gate_29 : decode cM_gate 29 = .ok (.aload_n 0, 1) := by decide +kernel
theorem dM_gate_30 : decode cM_gate 30 = .ok (.iload_n 2, 1) := by decide +kernel
theorem dM_gate_31 : decode cM_gate 31 = .ok (.invokevirtual 119, 3) := by decide +kernel
theorem dM_gate_34 : decode cM_gate 34 = .ok (.ifCond .eq 16, 3) := by decide +kernel
theorem dM_gate_37 : decode cM_gate 37 = .ok (.aload_n 0, 1) := by decide +kernel
theorem dM_gate_38 : decode cM_gate 38 = .ok (.iload_n 2, 1) := by decide +kernel
theorem dM_gate_39 : decode cM_gate 39 = .ok (.iconst 1, 1) := by decide +kernel
theorem dM_gate_40 : decode cM_gate 40 = .ok (.invokevirtual 127, 3) := by decide +kernel
theorem dM_gate_43 : decode cM_gate 43 = .ok (.ifCond .eq 7, 3) := by decide +kernel
theorem dM_gate_46 : decode cM_gate 46 = .ok (.iconst 1, 1) := by decide +kernel
theorem dM_gate_47 : decode cM_gate 47 = .ok (.goto 4, 3) := by decide +kernel
theorem dM_gate_50 : decode cM_gate 50 = .ok (.iconst 0, 1) := by decide +kernel
theorem dM_gate_51 : decode cM_gate 51 = .ok (.aload_n 0, 1) := by decide +kernel
theorem dM_gate_52 : decode cM_gate 52 = .ok (.getfield 13, 3) := by decide +kernel
theorem dM_gate_55 : decode cM_gate 55 = .ok (.iload_n 2, 1) := by decide +kernel
theorem dM_gate_56 : decode cM_gate 56 = .ok (.iaload, 1) := by decide +kernel
theorem dM_gate_57 : decode cM_gate 57 = .ok (.aload_n 0, 1) := by decide +kernel
theorem dM_gate_58 : decode cM_gate 58 = .ok (.getfield 17, 3) := by decide +kernel
theorem dM_gate_61 : decode cM_gate 61 = .ok (.iload_n 2, 1) := by decide +kernel
theorem dM_gate_62 : decode cM_gate 62 = .ok (.iaload, 1) := by decide +kernel
theorem dM_gate_63 : decode cM_gate 63 = .ok (.bipush 14, 2) := by decide +kernel
theorem dM_gate_65 : decode cM_gate 65 = .ok (.invokestatic 137, 3) := by decide +kernel
theorem dM_gate_68 : decode cM_gate 68 = .ok (.invokevirtual 111, 3) := by decide +kernel
theorem dM_gate_71 : decode cM_gate 71 = .ok (.ifCond .eq 7, 3) := by decide +kernel
theorem dM_gate_74 : decode cM_gate 74 = .ok (.iconst 1, 1) := by decide +kernel
theorem dM_gate_75 : decode cM_gate 75 = .ok (.goto 4, 3) := by decide +kernel
theorem dM_gate_78 : decode cM_gate 78 = .ok (.iconst 0, 1) := by decide +kernel
theorem dM_gate_79 : decode cM_gate 79 = .ok (.ireturn, 1) := by decide +kernel
theorem dM_build_0 : decode cM_build 0 = .ok (.aload_n 0, 1) := by decide +kernel
theorem dM_build_1 : decode cM_build 1 = .ok (.iconst 3, 1) := by decide +kernel
theorem dM_build_2 : decode cM_build 2 = .ok (.newarray .int, 2) := by decide +kernel
theorem dM_build_4 : decode cM_build 4 = .ok (.dup, 1) := by decide +kernel
theorem dM_build_5 : decode cM_build 5 = .ok (.iconst 0, 1) := by decide +kernel
theorem dM_build_6 : decode cM_build 6 = .ok (.iload_n 1, 1) := by decide +kernel
theorem dM_build_7 : decode cM_build 7 = .ok (.iastore, 1) := by decide +kernel
theorem dM_build_8 : decode cM_build 8 = .ok (.dup, 1) := by decide +kernel
theorem dM_build_9 : decode cM_build 9 = .ok (.iconst 1, 1) := by decide +kernel
theorem dM_build_10 : decode cM_build 10 = .ok (.iload_n 2, 1) := by decide +kernel
theorem dM_build_11 : decode cM_build 11 = .ok (.iastore, 1) := by decide +kernel
theorem dM_build_12 : decode cM_build 12 = .ok (.dup, 1) := by decide +kernel
theorem dM_build_13 : decode cM_build 13 = .ok (.iconst 2, 1) := by decide +kernel
theorem dM_build_14 : decode cM_build 14 = .ok (.iload_n 3, 1) := by decide +kernel
theorem dM_build_15 : decode cM_build 15 = .ok (.iastore, 1) := by decide +kernel
theorem dM_build_16 : decode cM_build 16 = .ok (.invokevirtual 115, 3) := by decide +kernel
theorem dM_build_19 : decode cM_build 19 = .ok (.ifCond .ne 5, 3) := by decide +kernel
theorem dM_build_22 : decode cM_build 22 = .ok (.iconst 0, 1) := by decide +kernel
theorem dM_build_23 : decode cM_build 23 = .ok (.ireturn, 1) := by decide +kernel
theorem dM_build_24 : decode cM_build 24 = .ok (.aload_n 0, 1) := by decide +kernel
theorem dM_build_25 : decode cM_build 25 = .ok (.getfield 17, 3) := by decide +kernel
theorem dM_build_28 : decode cM_build 28 = .ok (.iload_n 3, 1) := by decide +kernel
theorem dM_build_29 : decode cM_build 29 = .ok (.iaload, 1) := by decide +kernel
theorem dM_build_30 : decode cM_build 30 = .ok (.istore 4, 2) := by decide +kernel
theorem dM_build_32 : decode cM_build 32 = .ok (.aload_n 0, 1) := by decide +kernel
theorem dM_build_33 : decode cM_build 33 = .ok (.getfield 7, 3) := by decide +kernel
theorem dM_build_36 : decode cM_build 36 = .ok (.iload_n 2, 1) := by decide +kernel
theorem dM_build_37 : decode cM_build 37 = .ok (.baload, 1) := by decide +kernel
theorem dM_build_38 : decode cM_build 38 = .ok (.ifCond .eq 50, 3) := by decide +kernel
theorem dM_build_41 : decode cM_build 41 = .ok (.aload_n 0, 1) := by decide +kernel
theorem dM_build_42 : decode cM_build 42 = .ok (.iload_n 2, 1) := by decide +kernel
theorem dM_build_43 : decode cM_build 43 = .ok (.invokevirtual 119, 3) := by decide +kernel
theorem dM_build_46 : decode cM_build 46 = .ok (.ifCond .eq 42, 3) := by decide +kernel
theorem dM_build_49 : decode cM_build 49 = .ok (.iload 4, 2) := by decide +kernel
theorem dM_build_51 : decode cM_build 51 = .ok (.aload_n 0, 1) := by decide +kernel
theorem dM_build_52 : decode cM_build 52 = .ok (.getfield 13, 3) := by decide +kernel
theorem dM_build_55 : decode cM_build 55 = .ok (.iload_n 3, 1) := by decide +kernel
theorem dM_build_56 : decode cM_build 56 = .ok (.iaload, 1) := by decide +kernel
theorem dM_build_57 : decode cM_build 57 = .ok (.invokestatic 69, 3) := by decide +kernel
theorem dM_build_60 : decode cM_build 60 = .ok (.iload 4, 2) := by decide +kernel
theorem dM_build_62 : decode cM_build 62 = .ok (.aload_n 0, 1) := by decide +kernel
theorem dM_build_63 : decode cM_build 63 = .ok (.getfield 13, 3) := by decide +kernel
theorem dM_build_66 : decode cM_build 66 = .ok (.iload_n 3, 1) := by decide +kernel
theorem dM_build_67 : decode cM_build 67 = .ok (.iaload, 1) := by decide +kernel
theorem dM_build_68 : decode cM_build 68 = .ok (.invokestatic 74, 3) := by decide +kernel
theorem dM_build_71 : decode cM_build 71 = .ok (.lcmp, 1) := by decide +kernel
theorem dM_build_72 : decode cM_build 72 = .ok (.ifCond .gt 16, 3) := by decide +kernel
theorem dM_build_75 : decode cM_build 75 = .ok (.aload_n 0, 1) := by decide +kernel
theorem dM_build_76 : decode cM_build 76 = .ok (.iload_n 3, 1) := by decide +kernel
theorem dM_build_77 : decode cM_build 77 = .ok (.iload_n 2, 1) := by decide +kernel
theorem dM_build_78 : decode cM_build 78 = .ok (.invokevirtual 140, 3) := by decide +kernel
theorem dM_build_81 : decode cM_build 81 = .ok (.ifCond .eq 7, 3) := by decide +kernel
theorem dM_build_84 : decode cM_build 84 = .ok (.iconst 1, 1) := by decide +kernel
theorem dM_build_85 : decode cM_build 85 = .ok (.goto 4, 3) := by decide +kernel
theorem dM_build_88 : decode cM_build 88 = .ok (.iconst 0, 1) := by decide +kernel
theorem dM_build_89 : decode cM_build 89 = .ok (.istore 5, 2) := by decide +kernel
theorem dM_build_91 : decode cM_build 91 = .ok (.aload_n 0, 1) := by decide +kernel
theorem dM_build_92 : decode cM_build 92 = .ok (.iload_n 1, 1) := by decide +kernel
theorem dM_build_93 : decode cM_build 93 = .ok (.iload 5, 2) := by decide +kernel
theorem dM_build_95 : decode cM_build 95 = .ok (.aload_n 0, 1) := by decide +kernel
theorem dM_build_96 : decode cM_build 96 = .ok (.getfield 13, 3) := by decide +kernel
theorem dM_build_99 : decode cM_build 99 = .ok (.iload_n 3, 1) := by decide +kernel
theorem dM_build_100 : decode cM_build 100 = .ok (.iaload, 1) := by decide +kernel
theorem dM_build_101 : decode cM_build 101 = .ok (.iload 4, 2) := by decide +kernel
theorem dM_build_103 : decode cM_build 103 = .ok (.iload 4, 2) := by decide +kernel
theorem dM_build_105 : decode cM_build 105 = .ok (.invokestatic 94, 3) := by decide +kernel
theorem dM_build_108 : decode cM_build 108 = .ok (.bipush 14, 2) := by decide +kernel
theorem dM_build_110 : decode cM_build 110 = .ok (.if_icmp .ne 8, 3) := by decide +kernel
theorem dM_build_113 : decode cM_build 113 = .ok (.bipush 14, 2) := by decide +kernel
theorem dM_build_115 : decode cM_build 115 = .ok (.goto 5, 3) := by decide +kernel
theorem dM_build_118 : decode cM_build 118 = .ok (.bipush 15, 2) := by decide +kernel
theorem dM_build_120 : decode cM_build 120 = .ok (.invokestatic 137, 3) := by decide +kernel
theorem dM_build_123 : decode cM_build 123 = .ok (.invokevirtual 111, 3) := by decide +kernel
theorem dM_build_126 : decode cM_build 126 = .ok (.ireturn, 1) := by decide +kernel
theorem dM_isWithin_0 : decode cM_isWithin 0 = .ok (.aload_n 0, 1) := by decide +kernel
theorem dM_isWithin_1 : decode cM_isWithin 1 = .ok (.getfield 17, 3) := by decide +kernel
theorem dM_isWithin_4 : decode cM_isWithin 4 = .ok (.iload_n 1, 1) := by decide +kernel
theorem dM_isWithin_5 : decode cM_isWithin 5 = .ok (.iaload, 1) := by decide +kernel
theorem dM_isWithin_6 : decode cM_isWithin 6 = .ok (.aload_n 0, 1) := by decide +kernel
theorem dM_isWithin_7 : decode cM_isWithin 7 = .ok (.getfield 13, 3) := by decide +kernel
theorem dM_isWithin_10 : decode cM_isWithin 10 = .ok (.iload_n 1, 1) := by decide +kernel
theorem dM_isWithin_11 : decode cM_isWithin 11 = .ok (.iaload, 1) := by decide +kernel
theorem dM_isWithin_12 : decode cM_isWithin 12 = .ok (.invokestatic 69, 3) := by decide +kernel
theorem dM_isWithin_15 : decode cM_isWithin 15 = .ok (.aload_n 0, 1) := by decide +kernel
theorem dM_isWithin_16 : decode cM_isWithin 16 = .ok (.getfield 17, 3) := by decide +kernel
theorem dM_isWithin_19 : decode cM_isWithin 19 = .ok (.iload_n 2, 1) := by decide +kernel
theorem dM_isWithin_20 : decode cM_isWithin 20 = .ok (.iaload, 1) := by decide +kernel
theorem dM_isWithin_21 : decode cM_isWithin 21 = .ok (.aload_n 0, 1) := by decide +kernel
theorem dM_isWithin_22 : decode cM_isWithin 22 = .ok (.getfield 13, 3) := by decide +kernel
theorem dM_isWithin_25 : decode cM_isWithin 25 = .ok (.iload_n 2, 1) := by decide +kernel
theorem dM_isWithin_26 : decode cM_isWithin 26 = .ok (.iaload, 1) := by decide +kernel
theorem dM_isWithin_27 : decode cM_isWithin 27 = .ok (.invokestatic 69, 3) := by decide +kernel
theorem dM_isWithin_30 : decode cM_isWithin 30 = .ok (.lcmp, 1) := by decide +kernel
theorem dM_isWithin_31 : decode cM_isWithin 31 = .ok (.ifCond .lt 65, 3) := by decide +kernel
theorem dM_isWithin_34 : decode cM_isWithin 34 = .ok (.aload_n 0, 1) := by decide +kernel
theorem dM_isWithin_35 : decode cM_isWithin 35 = .ok (.getfield 17, 3) := by decide +kernel
theorem dM_isWithin_38 : decode cM_isWithin 38 = .ok (.iload_n 1, 1) := by decide +kernel
theorem dM_isWithin_39 : decode cM_isWithin 39 = .ok (.iaload, 1) := by decide +kernel
theorem dM_isWithin_40 : decode cM_isWithin 40 = .ok (.aload_n 0, 1) := by decide +kernel
theorem dM_isWithin_41 : decode cM_isWithin 41 = .ok (.getfield 13, 3) := by decide +kernel
theorem dM_isWithin_44 : decode cM_isWithin 44 = .ok (.iload_n 1, 1) := by decide +kernel
theorem dM_isWithin_45 : decode cM_isWithin 45 = .ok (.iaload, 1) := by decide +kernel
theorem dM_isWithin_46 : decode cM_isWithin 46 = .ok (.invokestatic 74, 3) := by decide +kernel
theorem dM_isWithin_49 : decode cM_isWithin 49 = .ok (.aload_n 0, 1) := by decide +kernel
theorem dM_isWithin_50 : decode cM_isWithin 50 = .ok (.getfield 17, 3) := by decide +kernel
theorem dM_isWithin_53 : decode cM_isWithin 53 = .ok (.iload_n 2, 1) := by decide +kernel
theorem dM_isWithin_54 : decode cM_isWithin 54 = .ok (.iaload, 1) := by decide +kernel
theorem dM_isWithin_55 : decode cM_isWithin 55 = .ok (.aload_n 0, 1) := by decide +kernel
theorem dM_isWithin_56 : decode cM_isWithin 56 = .ok (.getfield 13, 3) := by decide +kernel
theorem dM_isWithin_59 : decode cM_isWithin 59 = .ok (.iload_n 2, 1) := by decide +kernel
theorem dM_isWithin_60 : decode cM_isWithin 60 = .ok (.iaload, 1) := by decide +kernel
theorem dM_isWithin_61 : decode cM_isWithin 61 = .ok (.invokestatic 74, 3) := by decide +kernel
theorem dM_isWithin_64 : decode cM_isWithin 64 = .ok (.lcmp, 1) := by decide +kernel
theorem dM_isWithin_65 : decode cM_isWithin 65 = .ok (.ifCond .gt 31, 3) := by decide +kernel
theorem dM_isWithin_68 : decode cM_isWithin 68 = .ok (.aload_n 0, 1) := by decide +kernel
theorem dM_isWithin_69 : decode cM_isWithin 69 = .ok (.getfield 17, 3) := by decide +kernel
theorem dM_isWithin_72 : decode cM_isWithin 72 = .ok (.iload_n 1, 1) := by decide +kernel
theorem dM_isWithin_73 : decode cM_isWithin 73 = .ok (.iaload, 1) := by decide +kernel
theorem dM_isWithin_74 : decode cM_isWithin 74 = .ok (.invokestatic 97, 3) := by decide +kernel
theorem dM_isWithin_77 : decode cM_isWithin 77 = .ok (.aload_n 0, 1) := by decide +kernel
theorem dM_isWithin_78 : decode cM_isWithin 78 = .ok (.getfield 17, 3) := by decide +kernel
theorem dM_isWithin_81 : decode cM_isWithin 81 = .ok (.iload_n 2, 1) := by decide +kernel
theorem dM_isWithin_82 : decode cM_isWithin 82 = .ok (.iaload, 1) := by decide +kernel
theorem dM_isWithin_83 : decode cM_isWithin 83 = .ok (.invokestatic 97, 3) := by decide +kernel
theorem dM_isWithin_86 : decode cM_isWithin 86 = .ok (.iconst (-1), 1) := by decide +kernel
theorem dM_isWithin_87 : decode cM_isWithin 87 = .ok (.ixor, 1) := by decide +kernel
theorem dM_isWithin_88 : decode cM_isWithin 88 = .ok (.iand, 1) := by decide +kernel
theorem dM_isWithin_89 : decode cM_isWithin 89 = .ok (.ifCond .ne 7, 3) := by decide +kernel
theorem dM_isWithin_92 : decode cM_isWithin 92 = .ok (.iconst 1, 1) := by decide +kernel
theorem dM_isWithin_93 : decode cM_isWithin 93 = .ok (.goto 4, 3) := by decide +kernel
theorem dM_isWithin_96 : decode cM_isWithin 96 = .ok (.iconst 0, 1) := by decide +kernel
theorem dM_isWithin_97 : decode cM_isWithin 97 = .ok (.ireturn, 1) := by decide +kernel
theorem dM_subset_0 : decode cM_subset 0 = .ok (.aload_n 0, 1) := by decide +kernel
theorem dM_subset_1 : decode cM_subset 1 = .ok (.iconst 2, 1) := by decide +kernel
theorem dM_subset_2 : decode cM_subset 2 = .ok (.newarray .int, 2) := by decide +kernel
theorem dM_subset_4 : decode cM_subset 4 = .ok (.dup, 1) := by decide +kernel
theorem dM_subset_5 : decode cM_subset 5 = .ok (.iconst 0, 1) := by decide +kernel
theorem dM_subset_6 : decode cM_subset 6 = .ok (.iload_n 1, 1) := by decide +kernel
theorem dM_subset_7 : decode cM_subset 7 = .ok (.iastore, 1) := by decide +kernel
theorem dM_subset_8 : decode cM_subset 8 = .ok (.dup, 1) := by decide +kernel
theorem dM_subset_9 : decode cM_subset 9 = .ok (.iconst 1, 1) := by decide +kernel
theorem dM_subset_10 : decode cM_subset 10 = .ok (.iload_n 2, 1) := by decide +kernel
theorem dM_subset_11 : decode cM_subset 11 = .ok (.iastore, 1) := by decide +kernel
theorem dM_subset_12 : decode cM_subset 12 = .ok (.invokevirtual 115, 3) := by decide +kernel
theorem dM_subset_15 : decode cM_subset 15 = .ok (.ifCond .eq 31, 3) := by decide +kernel
theorem dM_subset_18 : decode cM_subset 18 = .ok (.aload_n 0, 1) := by decide +kernel
theorem dM_subset_19 : decode cM_subset 19 = .ok (.getfield 7, 3) := by decide +kernel
theorem dM_subset_22 : decode cM_subset 22 = .ok (.iload_n 1, 1) := by decide +kernel
theorem dM_subset_23 : decode cM_subset 23 = .ok (.baload, 1) := by decide +kernel
theorem dM_subset_24 : decode cM_subset 24 = .ok (.aload_n 0, 1) := by decide +kernel
theorem dM_subset_25 : decode cM_subset 25 = .ok (.getfield 7, 3) := by decide +kernel
theorem dM_subset_28 : decode cM_subset 28 = .ok (.iload_n 2, 1) := by decide +kernel
theorem dM_subset_29 : decode cM_subset 29 = .ok (.baload, 1) := by decide +kernel
theorem dM_subset_30 : decode cM_subset 30 = .ok (.if_icmp .ne 16, 3) := by decide +kernel
theorem dM_subset_33 : decode cM_subset 33 = .ok (.aload_n 0, 1) := by decide +kernel
theorem dM_subset_34 : decode cM_subset 34 = .ok (.iload_n 2, 1) := by decide +kernel
theorem dM_subset_35 : decode cM_subset 35 = .ok (.iload_n 1, 1) := by decide +kernel
theorem dM_subset_36 : decode cM_subset 36 = .ok (.invokevirtual 140, 3) := by decide +kernel
theorem dM_subset_39 : decode cM_subset 39 = .ok (.ifCond .eq 7, 3) := by decide +kernel
theorem dM_subset_42 : decode cM_subset 42 = .ok (.iconst 1, 1) := by decide +kernel
theorem dM_subset_43 : decode cM_subset 43 = .ok (.goto 4, 3) := by decide +kernel
theorem dM_subset_46 : decode cM_subset 46 = .ok (.iconst 0, 1) := by decide +kernel
theorem dM_subset_47 : decode cM_subset 47 = .ok (.ireturn, 1) := by decide +kernel
theorem dM_told_0 : decode cM_told 0 = .ok (.iload_n 1, 1) := by decide +kernel
theorem dM_told_1 : decode cM_told 1 = .ok (.ifCond .lt 9, 3) := by decide +kernel
theorem dM_told_4 : decode cM_told 4 = .ok (.iload_n 1, 1) := by decide +kernel
theorem dM_told_5 : decode cM_told 5 = .ok (.bipush 31, 2) := by decide +kernel
theorem dM_told_7 : decode cM_told 7 = .ok (.if_icmp .le 10, 3) := by decide +kernel
theorem dM_told_10 : decode cM_told 10 = .ok (.aload_n 0, 1) := by decide +kernel
theorem dM_told_11 : decode cM_told 11 = .ok (.iconst 1, 1) := by decide +kernel
theorem dM_told_12 : decode cM_told 12 = .ok (.invokevirtual 100, 3) := by decide +kernel
theorem dM_told_15 : decode cM_told 15 = .ok (.i2l, 1) := by decide +kernel
theorem dM_told_16 : decode cM_told 16 = .ok (.lreturn, 1) := by decide +kernel
theorem dM_told_17 : decode cM_told 17 = .ok (.iload_n 2, 1) := by decide +kernel
theorem dM_told_18 : decode cM_told 18 = .ok (.ifCond .lt 9, 3) := by decide +kernel
theorem dM_told_21 : decode cM_told 21 = .ok (.iload_n 2, 1) := by decide +kernel
theorem dM_told_22 : decode cM_told 22 = .ok (.bipush 7, 2) := by decide +kernel
theorem dM_told_24 : decode cM_told 24 = .ok (.if_icmp .le 10, 3) := by decide +kernel
theorem dM_told_27 : decode cM_told 27 = .ok (.aload_n 0, 1) := by decide +kernel
theorem dM_told_28 : decode cM_told 28 = .ok (.iconst 2, 1) := by decide +kernel
theorem dM_told_29 : decode cM_told 29 = .ok (.invokevirtual 100, 3) := by decide +kernel
theorem dM_told_32 : decode cM_told 32 = .ok (.i2l, 1) := by decide +kernel
theorem dM_told_33 : decode cM_told 33 = .ok (.lreturn, 1) := by decide +kernel
theorem dM_told_34 : decode cM_told 34 = .ok (.aload_n 0, 1) := by decide +kernel
theorem dM_told_35 : decode cM_told 35 = .ok (.iconst 0, 1) := by decide +kernel
theorem dM_told_36 : decode cM_told 36 = .ok (.putfield 31, 3) := by decide +kernel
theorem dM_told_39 : decode cM_told 39 = .ok (.aload_n 0, 1) := by decide +kernel
theorem dM_told_40 : decode cM_told 40 = .ok (.getfield 13, 3) := by decide +kernel
theorem dM_told_43 : decode cM_told 43 = .ok (.iload_n 1, 1) := by decide +kernel
theorem dM_told_44 : decode cM_told 44 = .ok (.iaload, 1) := by decide +kernel
theorem dM_told_45 : decode cM_told 45 = .ok (.istore_n 3, 1) := by decide +kernel
theorem dM_told_46 : decode cM_told 46 = .ok (.aload_n 0, 1) := by decide +kernel
theorem dM_told_47 : decode cM_told 47 = .ok (.getfield 17, 3) := by decide +kernel
theorem dM_told_50 : decode cM_told 50 = .ok (.iload_n 1, 1) := by decide +kernel
theorem dM_told_51 : decode cM_told 51 = .ok (.iaload, 1) := by decide +kernel
theorem dM_told_52 : decode cM_told 52 = .ok (.istore 4, 2) := by decide +kernel
theorem dM_told_54 : decode cM_told 54 = .ok (.iload_n 2, 1) := by decide +kernel
theorem dM_told_55 : decode cM_told 55 = .ok (.tableswitch 101 0 6 #[41, 56, 59, 66, 73, 87, 94], 41) := by decide +kernel
theorem dM_told_96 : decode cM_told 96 = .ok (.aload_n 0, 1) := by decide +kernel
theorem dM_told_97 : decode cM_told 97 = .ok (.getfield 7, 3) := by decide +kernel
theorem dM_told_100 : decode cM_told 100 = .ok (.iload_n 1, 1) := by decide +kernel
theorem dM_told_101 : decode cM_told 101 = .ok (.baload, 1) := by decide +kernel
theorem dM_told_102 : decode cM_told 102 = .ok (.ifCond .eq 7, 3) := by decide +kernel
theorem dM_told_105 : decode cM_told 105 = .ok (.lconst 1, 1) := by decide +kernel
theorem dM_told_106 : decode cM_told 106 = .ok (.goto 4, 3) := by decide +kernel
theorem dM_told_109 : decode cM_told 109 = .ok (.lconst 0, 1) := by decide +kernel
theorem dM_told_110 : decode cM_told 110 = .ok (.lreturn, 1) := by decide +kernel
theorem dM_told_111 : decode cM_told 111 = .ok (.iload_n 3, 1) := by decide +kernel
theorem dM_told_112 : decode cM_told 112 = .ok (.i2l, 1) := by decide +kernel
theorem dM_told_113 : decode cM_told 113 = .ok (.lreturn, 1) := by decide +kernel
theorem dM_told_114 : decode cM_told 114 = .ok (.iload 4, 2) := by decide +kernel
theorem dM_told_116 : decode cM_told 116 = .ok (.ldc 30, 2) := by decide +kernel
theorem dM_told_118 : decode cM_told 118 = .ok (.ixor, 1) := by decide +kernel
theorem dM_told_119 : decode cM_told 119 = .ok (.i2l, 1) := by decide +kernel
theorem dM_told_120 : decode cM_told 120 = .ok (.lreturn, 1) := by decide +kernel
theorem dM_told_121 : decode cM_told 121 = .ok (.iload 4, 2) := by decide +kernel
theorem dM_told_123 : decode cM_told 123 = .ok (.iload_n 3, 1) := by decide +kernel
theorem dM_told_124 : decode cM_told 124 = .ok (.invokestatic 69, 3) := by decide +kernel
theorem dM_told_127 : decode cM_told 127 = .ok (.lreturn, 1) := by decide +kernel
theorem dM_told_128 : decode cM_told 128 = .ok (.iload 4, 2) := by decide +kernel
theorem dM_told_130 : decode cM_told 130 = .ok (.iload_n 3, 1) := by decide +kernel
theorem dM_told_131 : decode cM_told 131 = .ok (.invokestatic 74, 3) := by decide +kernel
theorem dM_told_134 : decode cM_told 134 = .ok (.iload 4, 2) := by decide +kernel
theorem dM_told_136 : decode cM_told 136 = .ok (.iload_n 3, 1) := by decide +kernel
theorem dM_told_137 : decode cM_told 137 = .ok (.invokestatic 69, 3) := by decide +kernel
theorem dM_told_140 : decode cM_told 140 = .ok (.lsub, 1) := by decide +kernel
theorem dM_told_141 : decode cM_told 141 = .ok (.lreturn, 1) := by decide +kernel
theorem dM_told_142 : decode cM_told 142 = .ok (.iload 4, 2) := by decide +kernel
theorem dM_told_144 : decode cM_told 144 = .ok (.invokestatic 97, 3) := by decide +kernel
theorem dM_told_147 : decode cM_told 147 = .ok (.i2l, 1) := by decide +kernel
theorem dM_told_148 : decode cM_told 148 = .ok (.lreturn, 1) := by decide +kernel
theorem dM_told_149 : decode cM_told 149 = .ok (.iload 4, 2) := by decide +kernel
theorem dM_told_151 : decode cM_told 151 = .ok (.invokestatic 94, 3) := by decide +kernel
theorem dM_told_154 : decode cM_told 154 = .ok (.i2l, 1) := by decide +kernel
theorem dM_told_155 : decode cM_told 155 = .ok (.lreturn, 1) := by decide +kernel
theorem dM_told_156 : decode cM_told 156 = .ok (.iload_n 3, 1) := by decide +kernel
theorem dM_told_157 : decode cM_told 157 = .ok (.invokestatic 52, 3) := by decide +kernel
theorem dM_told_160 : decode cM_told 160 = .ok (.iload 4, 2) := by decide +kernel
theorem dM_told_162 : decode cM_told 162 = .ok (.iload_n 3, 1) := by decide +kernel
theorem dM_told_163 : decode cM_told 163 = .ok (.invokestatic 69, 3) := by decide +kernel
theorem dM_told_166 : decode cM_told 166 = .ok (.lsub, 1) := by decide +kernel
theorem dM_told_167 : decode cM_told 167 = .ok (.lreturn, 1) := by decide +kernel
theorem dM_reaches_0 : decode cM_reaches 0 = .ok (.aload_n 0, 1) := by decide +kernel
theorem dM_reaches_1 : decode cM_reaches 1 = .ok (.iconst 1, 1) := by decide +kernel
theorem dM_reaches_2 : decode cM_reaches 2 = .ok (.newarray .int, 2) := by decide +kernel
theorem dM_reaches_4 : decode cM_reaches 4 = .ok (.dup, 1) := by decide +kernel
theorem dM_reaches_5 : decode cM_reaches 5 = .ok (.iconst 0, 1) := by decide +kernel
theorem dM_reaches_6 : decode cM_reaches 6 = .ok (.iload_n 1, 1) := by decide +kernel
theorem dM_reaches_7 : decode cM_reaches 7 = .ok (.iastore, 1) := by decide +kernel
theorem dM_reaches_8 : decode cM_reaches 8 = .ok (.invokevirtual 115, 3) := by decide +kernel
theorem dM_reaches_11 : decode cM_reaches 11 = .ok (.ifCond .ne 5, 3) := by decide +kernel
theorem dM_reaches_14 : decode cM_reaches 14 = .ok (.iconst 0, 1) := by decide +kernel
theorem dM_reaches_15 : decode cM_reaches 15 = .ok (.ireturn, 1) := by decide +kernel
theorem dM_reaches_16 : decode cM_reaches 16 = .ok (.aload_n 0, 1) := by decide +kernel
theorem dM_reaches_17 : decode cM_reaches 17 = .ok (.iload_n 3, 1) := by decide +kernel
theorem dM_reaches_18 : decode cM_reaches 18 = .ok (.ifCond .lt 10, 3) := by decide +kernel
theorem dM_reaches_21 : decode cM_reaches 21 = .ok (.iload_n 3, 1) := by decide +kernel
theorem dM_reaches_22 : decode cM_reaches 22 = .ok (.sipush 4096, 3) := by decide +kernel
theorem dM_reaches_25 : decode cM_reaches 25 = .ok (.if_icmp .le 7, 3) := by decide +kernel
theorem dM_reaches_28 : decode cM_reaches 28 = .ok (.iconst 2, 1) := by decide +kernel
theorem dM_reaches_29 : decode cM_reaches 29 = .ok (.goto 4, 3) := by decide +kernel
theorem dM_reaches_32 : decode cM_reaches 32 = .ok (.iconst 0, 1) := by decide +kernel
theorem dM_reaches_33 : decode cM_reaches 33 = .ok (.putfield 31, 3) := by decide +kernel
theorem dM_reaches_36 : decode cM_reaches 36 = .ok (.aload_n 0, 1) := by decide +kernel
theorem dM_reaches_37 : decode cM_reaches 37 = .ok (.getfield 31, 3) := by decide +kernel
theorem dM_reaches_40 : decode cM_reaches 40 = .ok (.ifCond .ne 30, 3) := by decide +kernel
theorem dM_reaches_43 : decode cM_reaches 43 = .ok (.aload_n 0, 1) := by decide +kernel
theorem dM_reaches_44 : decode cM_reaches 44 = .ok (.getfield 17, 3) := by decide +kernel
theorem dM_reaches_47 : decode cM_reaches 47 = .ok (.iload_n 1, 1) := by decide +kernel
theorem dM_reaches_48 : decode cM_reaches 48 = .ok (.iaload, 1) := by decide +kernel
theorem dM_reaches_49 : decode cM_reaches 49 = .ok (.aload_n 0, 1) := by decide +kernel
theorem dM_reaches_50 : decode cM_reaches 50 = .ok (.getfield 13, 3) := by decide +kernel
theorem dM_reaches_53 : decode cM_reaches 53 = .ok (.iload_n 1, 1) := by decide +kernel
theorem dM_reaches_54 : decode cM_reaches 54 = .ok (.iaload, 1) := by decide +kernel
theorem dM_reaches_55 : decode cM_reaches 55 = .ok (.iload_n 2, 1) := by decide +kernel
theorem dM_reaches_56 : decode cM_reaches 56 = .ok (.invokestatic 52, 3) := by decide +kernel
theorem dM_reaches_59 : decode cM_reaches 59 = .ok (.iload_n 3, 1) := by decide +kernel
theorem dM_reaches_60 : decode cM_reaches 60 = .ok (.invokestatic 131, 3) := by decide +kernel
theorem dM_reaches_63 : decode cM_reaches 63 = .ok (.ifCond .eq 7, 3) := by decide +kernel
theorem dM_reaches_66 : decode cM_reaches 66 = .ok (.iconst 1, 1) := by decide +kernel
theorem dM_reaches_67 : decode cM_reaches 67 = .ok (.goto 4, 3) := by decide +kernel
theorem dM_reaches_70 : decode cM_reaches 70 = .ok (.iconst 0, 1) := by decide +kernel
theorem dM_reaches_71 : decode cM_reaches 71 = .ok (.ireturn, 1) := by decide +kernel
theorem dM_packI_0 : decode cM_packI 0 = .ok (.lload_n 2, 1) := by decide +kernel
theorem dM_packI_1 : decode cM_packI 1 = .ok (.lconst 0, 1) := by decide +kernel
theorem dM_packI_2 : decode cM_packI 2 = .ok (.lcmp, 1) := by decide +kernel
theorem dM_packI_3 : decode cM_packI 3 = .ok (.ifCond .lt 24, 3) := by decide +kernel
theorem dM_packI_6 : decode cM_packI 6 = .ok (.lload_n 2, 1) := by decide +kernel
theorem dM_packI_7 : decode cM_packI 7 = .ok (.ldc2_w 72, 3) := by decide +kernel
theorem dM_packI_10 : decode cM_packI 10 = .ok (.lcmp, 1) := by decide +kernel
theorem dM_packI_11 : decode cM_packI 11 = .ok (.ifCond .gt 16, 3) := by decide +kernel
theorem dM_packI_14 : decode cM_packI 14 = .ok (.iload_n 1, 1) := by decide +kernel
theorem dM_packI_15 : decode cM_packI 15 = .ok (.invokestatic 52, 3) := by decide +kernel
theorem dM_packI_18 : decode cM_packI 18 = .ok (.lload_n 2, 1) := by decide +kernel
theorem dM_packI_19 : decode cM_packI 19 = .ok (.ladd, 1) := by decide +kernel
theorem dM_packI_20 : decode cM_packI 20 = .ok (.ldc2_w 72, 3) := by decide +kernel
theorem dM_packI_23 : decode cM_packI 23 = .ok (.lcmp, 1) := by decide +kernel
theorem dM_packI_24 : decode cM_packI 24 = .ok (.ifCond .le 9, 3) := by decide +kernel
theorem dM_packI_27 : decode cM_packI 27 = .ok (.aload_n 0, 1) := by decide +kernel
theorem dM_packI_28 : decode cM_packI 28 = .ok (.iconst 1, 1) := by decide +kernel
theorem dM_packI_29 : decode cM_packI 29 = .ok (.invokevirtual 100, 3) := by decide +kernel
theorem dM_packI_32 : decode cM_packI 32 = .ok (.ireturn, 1) := by decide +kernel
theorem dM_packI_33 : decode cM_packI 33 = .ok (.aload_n 0, 1) := by decide +kernel
theorem dM_packI_34 : decode cM_packI 34 = .ok (.iconst 0, 1) := by decide +kernel
theorem dM_packI_35 : decode cM_packI 35 = .ok (.putfield 31, 3) := by decide +kernel
theorem dM_packI_38 : decode cM_packI 38 = .ok (.aload_n 0, 1) := by decide +kernel
theorem dM_packI_39 : decode cM_packI 39 = .ok (.iload_n 1, 1) := by decide +kernel
theorem dM_packI_40 : decode cM_packI 40 = .ok (.invokestatic 52, 3) := by decide +kernel
theorem dM_packI_43 : decode cM_packI 43 = .ok (.iload_n 1, 1) := by decide +kernel
theorem dM_packI_44 : decode cM_packI 44 = .ok (.invokestatic 52, 3) := by decide +kernel
theorem dM_packI_47 : decode cM_packI 47 = .ok (.lload_n 2, 1) := by decide +kernel
theorem dM_packI_48 : decode cM_packI 48 = .ok (.ladd, 1) := by decide +kernel
theorem dM_packI_49 : decode cM_packI 49 = .ok (.invokevirtual 106, 3) := by decide +kernel
theorem dM_packI_52 : decode cM_packI 52 = .ok (.aload_n 0, 1) := by decide +kernel
theorem dM_packI_53 : decode cM_packI 53 = .ok (.getfield 81, 3) := by decide +kernel
theorem dM_packI_56 : decode cM_packI 56 = .ok (.aload_n 0, 1) := by decide +kernel
theorem dM_packI_57 : decode cM_packI 57 = .ok (.getfield 84, 3) := by decide +kernel
theorem dM_packI_60 : decode cM_packI 60 = .ok (.ifCond .eq 8, 3) := by decide +kernel
theorem dM_packI_63 : decode cM_packI 63 = .ok (.ldc 143, 2) := by decide +kernel
theorem dM_packI_65 : decode cM_packI 65 = .ok (.goto 4, 3) := by decide +kernel
theorem dM_packI_68 : decode cM_packI 68 = .ok (.iconst 0, 1) := by decide +kernel
theorem dM_packI_69 : decode cM_packI 69 = .ok (.ior, 1) := by decide +kernel
theorem dM_packI_70 : decode cM_packI 70 = .ok (.ireturn, 1) := by decide +kernel
theorem dM_bound_0 : decode cM_bound 0 = .ok (.aload_n 0, 1) := by decide +kernel
theorem dM_bound_1 : decode cM_bound 1 = .ok (.iconst 0, 1) := by decide +kernel
theorem dM_bound_2 : decode cM_bound 2 = .ok (.putfield 31, 3) := by decide +kernel
theorem dM_bound_5 : decode cM_bound 5 = .ok (.iload_n 3, 1) := by decide +kernel
theorem dM_bound_6 : decode cM_bound 6 = .ok (.ifCond .eq 15, 3) := by decide +kernel
theorem dM_bound_9 : decode cM_bound 9 = .ok (.iload_n 1, 1) := by decide +kernel
theorem dM_bound_10 : decode cM_bound 10 = .ok (.sipush 32767, 3) := by decide +kernel
theorem dM_bound_13 : decode cM_bound 13 = .ok (.iand, 1) := by decide +kernel
theorem dM_bound_14 : decode cM_bound 14 = .ok (.iload_n 2, 1) := by decide +kernel
theorem dM_bound_15 : decode cM_bound 15 = .ok (.invokestatic 74, 3) := by decide +kernel
theorem dM_bound_18 : decode cM_bound 18 = .ok (.goto 12, 3) := by decide +kernel
theorem dM_bound_21 : decode cM_bound 21 = .ok (.iload_n 1, 1) := by decide +kernel
theorem dM_bound_22 : decode cM_bound 22 = .ok (.sipush 32767, 3) := by decide +kernel
theorem dM_bound_25 : decode cM_bound 25 = .ok (.iand, 1) := by decide +kernel
theorem dM_bound_26 : decode cM_bound 26 = .ok (.iload_n 2, 1) := by decide +kernel
theorem dM_bound_27 : decode cM_bound 27 = .ok (.invokestatic 69, 3) := by decide +kernel
theorem dM_bound_30 : decode cM_bound 30 = .ok (.lreturn, 1) := by decide +kernel
theorem dM_rounded_0 : decode cM_rounded 0 = .ok (.lload_n 1, 1) := by decide +kernel
theorem dM_rounded_1 : decode cM_rounded 1 = .ok (.lconst 0, 1) := by decide +kernel
theorem dM_rounded_2 : decode cM_rounded 2 = .ok (.lcmp, 1) := by decide +kernel
theorem dM_rounded_3 : decode cM_rounded 3 = .ok (.ifCond .lt 11, 3) := by decide +kernel
theorem dM_rounded_6 : decode cM_rounded 6 = .ok (.lload_n 1, 1) := by decide +kernel
theorem dM_rounded_7 : decode cM_rounded 7 = .ok (.ldc2_w 72, 3) := by decide +kernel
theorem dM_rounded_10 : decode cM_rounded 10 = .ok (.lcmp, 1) := by decide +kernel
theorem dM_rounded_11 : decode cM_rounded 11 = .ok (.ifCond .le 10, 3) := by decide +kernel
theorem dM_rounded_14 : decode cM_rounded 14 = .ok (.aload_n 0, 1) := by decide +kernel
theorem dM_rounded_15 : decode cM_rounded 15 = .ok (.iconst 1, 1) := by decide +kernel
theorem dM_rounded_16 : decode cM_rounded 16 = .ok (.invokevirtual 100, 3) := by decide +kernel
theorem dM_rounded_19 : decode cM_rounded 19 = .ok (.i2l, 1) := by decide +kernel
theorem dM_rounded_20 : decode cM_rounded 20 = .ok (.lreturn, 1) := by decide +kernel
theorem dM_rounded_21 : decode cM_rounded 21 = .ok (.aload_n 0, 1) := by decide +kernel
theorem dM_rounded_22 : decode cM_rounded 22 = .ok (.iconst 0, 1) := by decide +kernel
theorem dM_rounded_23 : decode cM_rounded 23 = .ok (.putfield 31, 3) := by decide +kernel
theorem dM_rounded_26 : decode cM_rounded 26 = .ok (.aload_n 0, 1) := by decide +kernel
theorem dM_rounded_27 : decode cM_rounded 27 = .ok (.iconst 0, 1) := by decide +kernel
theorem dM_rounded_28 : decode cM_rounded 28 = .ok (.lload_n 1, 1) := by decide +kernel
theorem dM_rounded_29 : decode cM_rounded 29 = .ok (.invokevirtual 144, 3) := by decide +kernel
theorem dM_rounded_32 : decode cM_rounded 32 = .ok (.pop, 1) := by decide +kernel
theorem dM_rounded_33 : decode cM_rounded 33 = .ok (.iload_n 3, 1) := by decide +kernel
theorem dM_rounded_34 : decode cM_rounded 34 = .ok (.ifCond .ne 10, 3) := by decide +kernel
theorem dM_rounded_37 : decode cM_rounded 37 = .ok (.aload_n 0, 1) := by decide +kernel
theorem dM_rounded_38 : decode cM_rounded 38 = .ok (.getfield 88, 3) := by decide +kernel
theorem dM_rounded_41 : decode cM_rounded 41 = .ok (.goto 28, 3) := by decide +kernel
theorem dM_rounded_44 : decode cM_rounded 44 = .ok (.aload_n 0, 1) := by decide +kernel
theorem dM_rounded_45 : decode cM_rounded 45 = .ok (.getfield 81, 3) := by decide +kernel
theorem dM_rounded_48 : decode cM_rounded 48 = .ok (.bipush 14, 2) := by decide +kernel
theorem dM_rounded_50 : decode cM_rounded 50 = .ok (.ishr, 1) := by decide +kernel
theorem dM_rounded_51 : decode cM_rounded 51 = .ok (.ifCond .ne 7, 3) := by decide +kernel
theorem dM_rounded_54 : decode cM_rounded 54 = .ok (.lconst 1, 1) := by decide +kernel
theorem dM_rounded_55 : decode cM_rounded 55 = .ok (.goto 14, 3) := by decide +kernel
theorem dM_rounded_58 : decode cM_rounded 58 = .ok (.lconst 1, 1) := by decide +kernel
theorem dM_rounded_59 : decode cM_rounded 59 = .ok (.aload_n 0, 1) := by decide +kernel
theorem dM_rounded_60 : decode cM_rounded 60 = .ok (.getfield 81, 3) := by decide +kernel
theorem dM_rounded_63 : decode cM_rounded 63 = .ok (.invokestatic 49, 3) := by decide +kernel
theorem dM_rounded_66 : decode cM_rounded 66 = .ok (.iconst 3, 1) := by decide +kernel
theorem dM_rounded_67 : decode cM_rounded 67 = .ok (.iadd, 1) := by decide +kernel
theorem dM_rounded_68 : decode cM_rounded 68 = .ok (.lshl, 1) := by decide +kernel
theorem dM_rounded_69 : decode cM_rounded 69 = .ok (.lreturn, 1) := by decide +kernel
theorem dM_grown_0 : decode cM_grown 0 = .ok (.aload_n 0, 1) := by decide +kernel
theorem dM_grown_1 : decode cM_grown 1 = .ok (.iconst 0, 1) := by decide +kernel
theorem dM_grown_2 : decode cM_grown 2 = .ok (.putfield 31, 3) := by decide +kernel
theorem dM_grown_5 : decode cM_grown 5 = .ok (.iconst 0, 1) := by decide +kernel
theorem dM_grown_6 : decode cM_grown 6 = .ok (.istore_n 1, 1) := by decide +kernel
theorem dM_grown_7 : decode cM_grown 7 = .ok (.iconst 0, 1) := by decide +kernel
theorem dM_grown_8 : decode cM_grown 8 = .ok (.istore_n 2, 1) := by decide +kernel
theorem dM_grown_9 : decode cM_grown 9 = .ok (.iload_n 2, 1) := by decide +kernel
theorem dM_grown_10 : decode cM_grown 10 = .ok (.bipush 32, 2) := by decide +kernel
theorem dM_grown_12 : decode cM_grown 12 = .ok (.if_icmp .ge 133, 3) := by decide +kernel
theorem dM_grown_15 : decode cM_grown 15 = .ok (.aload_n 0, 1) := by decide +kernel
theorem dM_grown_16 : decode cM_grown 16 = .ok (.getfield 7, 3) := by decide +kernel
theorem dM_grown_19 : decode cM_grown 19 = .ok (.iload_n 2, 1) := by decide +kernel
theorem dM_grown_20 : decode cM_grown 20 = .ok (.baload, 1) := by decide +kernel
theorem dM_grown_21 : decode cM_grown 21 = .ok (.ifCond .ne 7, 3) := by decide +kernel
theorem dM_grown_24 : decode cM_grown 24 = .ok (.iconst 1, 1) := by decide +kernel
theorem dM_grown_25 : decode cM_grown 25 = .ok (.goto 4, 3) := by decide +kernel
theorem dM_grown_28 : decode cM_grown 28 = .ok (.iconst 0, 1) := by decide +kernel
theorem dM_grown_29 : decode cM_grown 29 = .ok (.istore_n 3, 1) := by decide +kernel
theorem dM_grown_30 : decode cM_grown 30 = .ok (.iconst 0, 1) := by decide +kernel
theorem dM_grown_31 : decode cM_grown 31 = .ok (.istore 4, 2) := by decide +kernel
theorem dM_grown_33 : decode cM_grown 33 = .ok (.iload 4, 2) := by decide +kernel
theorem dM_grown_35 : decode cM_grown 35 = .ok (.aload_n 0, 1) := by decide +kernel
theorem dM_grown_36 : decode cM_grown 36 = .ok (.getfield 103, 3) := by decide +kernel
theorem dM_grown_39 : decode cM_grown 39 = .ok (.if_icmp .ge 93, 3) := by decide +kernel
theorem dM_grown_42 : decode cM_grown 42 = .ok (.iload_n 3, 1) := by decide +kernel
theorem dM_grown_43 : decode cM_grown 43 = .ok (.ifCond .ne 77, 3) := by decide +kernel
theorem dM_grown_46 : decode cM_grown 46 = .ok (.aload_n 0, 1) := by decide +kernel
theorem dM_grown_47 : decode cM_grown 47 = .ok (.getfield 17, 3) := by decide +kernel
theorem dM_grown_50 : decode cM_grown 50 = .ok (.iload_n 2, 1) := by decide +kernel
theorem dM_grown_51 : decode cM_grown 51 = .ok (.iaload, 1) := by decide +kernel
theorem dM_grown_52 : decode cM_grown 52 = .ok (.aload_n 0, 1) := by decide +kernel
theorem dM_grown_53 : decode cM_grown 53 = .ok (.getfield 13, 3) := by decide +kernel
theorem dM_grown_56 : decode cM_grown 56 = .ok (.iload_n 2, 1) := by decide +kernel
theorem dM_grown_57 : decode cM_grown 57 = .ok (.iaload, 1) := by decide +kernel
theorem dM_grown_58 : decode cM_grown 58 = .ok (.invokestatic 69, 3) := by decide +kernel
theorem dM_grown_61 : decode cM_grown 61 = .ok (.aload_n 0, 1) := by decide +kernel
theorem dM_grown_62 : decode cM_grown 62 = .ok (.getfield 20, 3) := by decide +kernel
theorem dM_grown_65 : decode cM_grown 65 = .ok (.iload 4, 2) := by decide +kernel
theorem dM_grown_67 : decode cM_grown 67 = .ok (.laload, 1) := by decide +kernel
theorem dM_grown_68 : decode cM_grown 68 = .ok (.lcmp, 1) := by decide +kernel
theorem dM_grown_69 : decode cM_grown 69 = .ok (.ifCond .lt 55, 3) := by decide +kernel
theorem dM_grown_72 : decode cM_grown 72 = .ok (.aload_n 0, 1) := by decide +kernel
theorem dM_grown_73 : decode cM_grown 73 = .ok (.getfield 17, 3) := by decide +kernel
theorem dM_grown_76 : decode cM_grown 76 = .ok (.iload_n 2, 1) := by decide +kernel
theorem dM_grown_77 : decode cM_grown 77 = .ok (.iaload, 1) := by decide +kernel
theorem dM_grown_78 : decode cM_grown 78 = .ok (.aload_n 0, 1) := by decide +kernel
theorem dM_grown_79 : decode cM_grown 79 = .ok (.getfield 13, 3) := by decide +kernel
theorem dM_grown_82 : decode cM_grown 82 = .ok (.iload_n 2, 1) := by decide +kernel
theorem dM_grown_83 : decode cM_grown 83 = .ok (.iaload, 1) := by decide +kernel
theorem dM_grown_84 : decode cM_grown 84 = .ok (.invokestatic 74, 3) := by decide +kernel
theorem dM_grown_87 : decode cM_grown 87 = .ok (.aload_n 0, 1) := by decide +kernel
theorem dM_grown_88 : decode cM_grown 88 = .ok (.getfield 24, 3) := by decide +kernel
theorem dM_grown_91 : decode cM_grown 91 = .ok (.iload 4, 2) := by decide +kernel
theorem dM_grown_93 : decode cM_grown 93 = .ok (.laload, 1) := by decide +kernel
theorem dM_grown_94 : decode cM_grown 94 = .ok (.lcmp, 1) := by decide +kernel
theorem dM_grown_95 : decode cM_grown 95 = .ok (.ifCond .gt 29, 3) := by decide +kernel
theorem dM_grown_98 : decode cM_grown 98 = .ok (.aload_n 0, 1) := by decide +kernel
theorem dM_grown_99 : decode cM_grown 99 = .ok (.getfield 17, 3) := by decide +kernel
theorem dM_grown_102 : decode cM_grown 102 = .ok (.iload_n 2, 1) := by decide +kernel
theorem dM_grown_103 : decode cM_grown 103 = .ok (.iaload, 1) := by decide +kernel
theorem dM_grown_104 : decode cM_grown 104 = .ok (.invokestatic 97, 3) := by decide +kernel
theorem dM_grown_107 : decode cM_grown 107 = .ok (.aload_n 0, 1) := by decide +kernel
theorem dM_grown_108 : decode cM_grown 108 = .ok (.getfield 27, 3) := by decide +kernel
theorem dM_grown_111 : decode cM_grown 111 = .ok (.iload 4, 2) := by decide +kernel
theorem dM_grown_113 : decode cM_grown 113 = .ok (.iaload, 1) := by decide +kernel
theorem dM_grown_114 : decode cM_grown 114 = .ok (.iconst (-1), 1) := by decide +kernel
theorem dM_grown_115 : decode cM_grown 115 = .ok (.ixor, 1) := by decide +kernel
theorem dM_grown_116 : decode cM_grown 116 = .ok (.iand, 1) := by decide +kernel
theorem dM_grown_117 : decode cM_grown 117 = .ok (.ifCond .ne 7, 3) := by decide +kernel
theorem dM_grown_120 : decode cM_grown 120 = .ok (.iconst 1, 1) := by decide +kernel
theorem dM_grown_121 : decode cM_grown 121 = .ok (.goto 4, 3) := by decide +kernel
theorem dM_grown_124 : decode cM_grown 124 = .ok (.iconst 0, 1) := by decide +kernel
theorem dM_grown_125 : decode cM_grown 125 = .ok (.istore_n 3, 1) := by decide +kernel
theorem dM_grown_126 : decode cM_grown 126 = .ok (.iinc 4 1, 3) := by decide +kernel
theorem dM_grown_129 : decode cM_grown 129 = .ok (.goto (-96), 3) := by decide +kernel
theorem dM_grown_132 : decode cM_grown 132 = .ok (.iload_n 3, 1) := by decide +kernel
theorem dM_grown_133 : decode cM_grown 133 = .ok (.ifCond .ne 6, 3) := by decide +kernel
theorem dM_grown_136 : decode cM_grown 136 = .ok (.iinc 1 1, 3) := by decide +kernel
theorem dM_grown_139 : decode cM_grown 139 = .ok (.iinc 2 1, 3) := by decide +kernel
theorem dM_grown_142 : decode cM_grown 142 = .ok (.goto (-133), 3) := by decide +kernel
theorem dM_grown_145 : decode cM_grown 145 = .ok (.iload_n 1, 1) := by decide +kernel
theorem dM_grown_146 : decode cM_grown 146 = .ok (.ireturn, 1) := by decide +kernel
end
section
/-! Calls of methods that leave the heap as it is. -/
section ZC
variable {p : Program} {l : Launch} {e : Env} {R : Room} {s : State} {m : MethodId} {args : Array Value} {below : List Frame} {meth : Method} {c : Code} {H : Heap} {locs : List Loc} {cells slots : Nat} {Q : State → Prop}
variable {pc : Nat} {ls : Array Slot} {rest st0 : List Value} {a : Array Value} {A0 : Nat → Prop} {H0 : Heap}
theorem zc_i {v : Int32} (hr : va_Run p l e R s m args below meth c H locs cells slots 0 0 (F0 m pc ls st0) rest (va_Qi (fun r (_ : Unit) => r = v) (fun _ t => t.heap = H) (fun _ => False) a) (fun _ => False)) (hS : va_S A0 H0 H locs)
    (kk : ∀ locs1 : List Loc, va_S A0 H0 H locs1 → W p l e R s m args below meth c H locs1 cells slots Q (F0 m (pc + 3) ls (.int v :: rest))) : W p l e R s m args below meth c H locs cells slots Q (F0 m pc ls st0) := by
  refine va_calli hr hS (fun q _ h => h.elim) (fun q h => h.elim) (fun r u t H1 locs1 ht hvm hp hB hz hk hS1 => ?_)
  have e1 : H1 = H := ht.symm.trans hB
  subst e1
  rw [hp]
  exact kk locs1 hS1
theorem zc_l {v : Int64} (hr : va_Run p l e R s m args below meth c H locs cells slots 0 0 (F0 m pc ls st0) rest (va_Ql (fun r (_ : Unit) => r = v) (fun _ t => t.heap = H) (fun _ => False) a) (fun _ => False)) (hS : va_S A0 H0 H locs)
    (kk : ∀ locs1 : List Loc, va_S A0 H0 H locs1 → W p l e R s m args below meth c H locs1 cells slots Q (F0 m (pc + 3) ls (.long v :: rest))) : W p l e R s m args below meth c H locs cells slots Q (F0 m pc ls st0) := by
  refine va_calll hr hS (fun q _ h => h.elim) (fun q h => h.elim) (fun r u t H1 locs1 ht hvm hp hB hz hk hS1 => ?_)
  have e1 : H1 = H := ht.symm.trans hB
  subst e1
  rw [hp]
  exact kk locs1 hS1
end ZC

def fC_isRegister (r : Int32) : Int32 := if r < 0 then (0 : Int32) else (if (32 : Int32) ≤ r then (0 : Int32) else (1 : Int32))
set_option maxHeartbeats 4000000 in
set_option maxRecDepth 100000 in
theorem kC_isRegister (l : Launch) (H : Heap) (r : Int32) : Met l yC_isRegister wC_isRegister { frames := 0, cells := 0, slots := 0, locals := 0 } (va_Pc [.int r] (fun U => U.heap = H)) (va_Qi (fun v9 (_ : Unit) => v9 = fC_isRegister r) (fun _ t => t.heap = H) (fun _ => False)) 0 0 (fun _ => False) := by
  refine Met.ofW (cc := cC_isRegister) (maxL := 1) (ret := (some .boolean)) (by decide) rfl ?_
  intro p e s m args below meth c s₁ B hml hv
  obtain ⟨rfl, hH⟩ := hv
  have hx := B.exec
  have hb := B.bytes
  have hr := B.returns
  have hts := atoms_spec (ws := wC_isRegister) B.pre
  have hq : ∀ w ∈ wA, w.before _ s = true := fun w h => hts w (List.mem_cons_of_mem _ h)
  have hown : s.vm.findClass "CapUnit" = some m.cls := findClass_of_methodNamed B.named
  have hlocks := B.notSynchronized
  have hS : va_S (fun _ => False) s.heap s.heap [] := va_S.rf
  have hl := lv_entry ([.int r]) (n := 1) (Nat.le_of_ble_eq_true rfl)
  rw [lg_entry_eq]
  generalize (lg_sl ([.int r]) ++ List.replicate (1 - (lg_sl ([.int r])).length) Slot.unset).toArray = ls at hl ⊢
  have hl : lv_has ls 1 [(0, .int r)] := hl
  refine lv_iload_n hx hb dC_isRegister_0 rfl (lv_at hl 0 rfl) ?_
  refine lv_if_lt (tgt := 14) hx hb dC_isRegister_1 rfl (fun h1 => ?_) (fun h1 => ?_)
  · refine lv_iconst (v := 0) hx hb dC_isRegister_14 (by decide) ?_
    exact W.zret (v := (0 : Int32)) hx hb hr (by decide) (fun t ht hW => ⟨⟨(0 : Int32), (), rfl, (by unfold fC_isRegister; rw [if_pos h1]), ht.trans hH⟩, hS.F ht⟩) hS.2.2 dC_isRegister_15
  · refine lv_iload_n hx hb dC_isRegister_4 rfl (lv_at hl 0 rfl) ?_
    refine lv_bipush (v := 32) hx hb dC_isRegister_5 (by decide) ?_
    refine lv_icmp_ge (tgt := 14) hx hb dC_isRegister_7 rfl (fun h2 => ?_) (fun h2 => ?_)
    · refine lv_iconst (v := 0) hx hb dC_isRegister_14 (by decide) ?_
      exact W.zret (v := (0 : Int32)) hx hb hr (by decide) (fun t ht hW => ⟨⟨(0 : Int32), (), rfl, (by unfold fC_isRegister; rw [if_neg h1, if_pos h2]), ht.trans hH⟩, hS.F ht⟩) hS.2.2 dC_isRegister_15
    · refine lv_iconst (v := 1) hx hb dC_isRegister_10 (by decide) ?_
      refine lv_goto (tgt := 15) hx hb dC_isRegister_11 rfl ?_
      exact W.zret (v := (1 : Int32)) hx hb hr (by decide) (fun t ht hW => ⟨⟨(1 : Int32), (), rfl, (by unfold fC_isRegister; rw [if_neg h1, if_neg h2]), ht.trans hH⟩, hS.F ht⟩) hS.2.2 dC_isRegister_15
def fC_permsOf (z : Int32) : Int32 := (z.toUInt32 >>> ((20 : Int32).toUInt32 &&& Int32.toUInt32 31)).toInt32
set_option maxHeartbeats 4000000 in
set_option maxRecDepth 100000 in
theorem kC_permsOf (l : Launch) (H : Heap) (z : Int32) : Met l yC_permsOf wC_permsOf { frames := 0, cells := 0, slots := 0, locals := 0 } (va_Pc [.int z] (fun U => U.heap = H)) (va_Qi (fun v9 (_ : Unit) => v9 = fC_permsOf z) (fun _ t => t.heap = H) (fun _ => False)) 0 0 (fun _ => False) := by
  refine Met.ofW (cc := cC_permsOf) (maxL := 1) (ret := (some .int)) (by decide) rfl ?_
  intro p e s m args below meth c s₁ B hml hv
  obtain ⟨rfl, hH⟩ := hv
  have hx := B.exec
  have hb := B.bytes
  have hr := B.returns
  have hts := atoms_spec (ws := wC_permsOf) B.pre
  have hq : ∀ w ∈ wA, w.before _ s = true := fun w h => hts w (List.mem_cons_of_mem _ h)
  have hown : s.vm.findClass "CapUnit" = some m.cls := findClass_of_methodNamed B.named
  have hlocks := B.notSynchronized
  have hS : va_S (fun _ => False) s.heap s.heap [] := va_S.rf
  have hl := lv_entry ([.int z]) (n := 1) (Nat.le_of_ble_eq_true rfl)
  rw [lg_entry_eq]
  generalize (lg_sl ([.int z]) ++ List.replicate (1 - (lg_sl ([.int z])).length) Slot.unset).toArray = ls at hl ⊢
  have hl : lv_has ls 1 [(0, .int z)] := hl
  refine lv_iload_n hx hb dC_permsOf_0 rfl (lv_at hl 0 rfl) ?_
  refine lv_bipush (v := 20) hx hb dC_permsOf_1 (by decide) ?_
  refine lv_iushr hx hb dC_permsOf_3 rfl ?_
  exact W.iret (v := (z.toUInt32 >>> ((20 : Int32).toUInt32 &&& Int32.toUInt32 31)).toInt32) hx hb hr (fun t ht hW => ⟨⟨(z.toUInt32 >>> ((20 : Int32).toUInt32 &&& Int32.toUInt32 31)).toInt32, (), rfl, (by unfold fC_permsOf; rfl), ht.trans hH⟩, hS.F ht⟩) hS.2.2 dC_permsOf_4
def fC_typeOf (z : Int32) : Int32 := ((z.toUInt32 >>> ((16 : Int32).toUInt32 &&& Int32.toUInt32 31)).toInt32) &&& (15 : Int32)
set_option maxHeartbeats 4000000 in
set_option maxRecDepth 100000 in
theorem kC_typeOf (l : Launch) (H : Heap) (z : Int32) : Met l yC_typeOf wC_typeOf { frames := 0, cells := 0, slots := 0, locals := 0 } (va_Pc [.int z] (fun U => U.heap = H)) (va_Qi (fun v9 (_ : Unit) => v9 = fC_typeOf z) (fun _ t => t.heap = H) (fun _ => False)) 0 0 (fun _ => False) := by
  refine Met.ofW (cc := cC_typeOf) (maxL := 1) (ret := (some .int)) (by decide) rfl ?_
  intro p e s m args below meth c s₁ B hml hv
  obtain ⟨rfl, hH⟩ := hv
  have hx := B.exec
  have hb := B.bytes
  have hr := B.returns
  have hts := atoms_spec (ws := wC_typeOf) B.pre
  have hq : ∀ w ∈ wA, w.before _ s = true := fun w h => hts w (List.mem_cons_of_mem _ h)
  have hown : s.vm.findClass "CapUnit" = some m.cls := findClass_of_methodNamed B.named
  have hlocks := B.notSynchronized
  have hS : va_S (fun _ => False) s.heap s.heap [] := va_S.rf
  have hl := lv_entry ([.int z]) (n := 1) (Nat.le_of_ble_eq_true rfl)
  rw [lg_entry_eq]
  generalize (lg_sl ([.int z]) ++ List.replicate (1 - (lg_sl ([.int z])).length) Slot.unset).toArray = ls at hl ⊢
  have hl : lv_has ls 1 [(0, .int z)] := hl
  refine lv_iload_n hx hb dC_typeOf_0 rfl (lv_at hl 0 rfl) ?_
  refine lv_bipush (v := 16) hx hb dC_typeOf_1 (by decide) ?_
  refine lv_iushr hx hb dC_typeOf_3 rfl ?_
  refine lv_bipush (v := 15) hx hb dC_typeOf_4 (by decide) ?_
  refine lv_iand hx hb dC_typeOf_6 ?_
  exact W.iret (v := ((z.toUInt32 >>> ((16 : Int32).toUInt32 &&& Int32.toUInt32 31)).toInt32) &&& (15 : Int32)) hx hb hr (fun t ht hW => ⟨⟨((z.toUInt32 >>> ((16 : Int32).toUInt32 &&& Int32.toUInt32 31)).toInt32) &&& (15 : Int32), (), rfl, (by unfold fC_typeOf; rfl), ht.trans hH⟩, hS.F ht⟩) hS.2.2 dC_typeOf_7
def fC_withType (z : Int32) (y : Int32) : Int32 := (z &&& (-983041 : Int32)) ||| (y <<< ((16 : Int32) &&& 31))
set_option maxHeartbeats 4000000 in
set_option maxRecDepth 100000 in
theorem kC_withType (l : Launch) (H : Heap) (z : Int32) (y : Int32) : Met l yC_withType wC_withType { frames := 0, cells := 0, slots := 0, locals := 0 } (va_Pc [.int z, .int y] (fun U => U.heap = H)) (va_Qi (fun v9 (_ : Unit) => v9 = fC_withType z y) (fun _ t => t.heap = H) (fun _ => False)) 0 0 (fun _ => False) := by
  refine Met.ofW (cc := cC_withType) (maxL := 2) (ret := (some .int)) (by decide) rfl ?_
  intro p e s m args below meth c s₁ B hml hv
  obtain ⟨rfl, hH⟩ := hv
  have hx := B.exec
  have hb := B.bytes
  have hr := B.returns
  have hts := atoms_spec (ws := wC_withType) B.pre
  have hq : ∀ w ∈ wA, w.before _ s = true := fun w h => hts w (List.mem_cons_of_mem _ h)
  have hown : s.vm.findClass "CapUnit" = some m.cls := findClass_of_methodNamed B.named
  have hlocks := B.notSynchronized
  have hS : va_S (fun _ => False) s.heap s.heap [] := va_S.rf
  have hl := lv_entry ([.int z, .int y]) (n := 2) (Nat.le_of_ble_eq_true rfl)
  rw [lg_entry_eq]
  generalize (lg_sl ([.int z, .int y]) ++ List.replicate (2 - (lg_sl ([.int z, .int y])).length) Slot.unset).toArray = ls at hl ⊢
  have hl : lv_has ls 2 [(0, .int z), (1, .int y)] := hl
  refine lv_iload_n hx hb dC_withType_0 rfl (lv_at hl 0 rfl) ?_
  refine lv_ldc (v := -983041) hx hb hown (hts (.constant "CapUnit" 143 (-983041)) (by decide +kernel)) dC_withType_1 ?_
  refine lv_iand hx hb dC_withType_3 ?_
  refine lv_iload_n hx hb dC_withType_4 rfl (lv_at hl 1 rfl) ?_
  refine lv_bipush (v := 16) hx hb dC_withType_5 (by decide) ?_
  refine lv_ishl hx hb dC_withType_7 ?_
  refine lv_ior hx hb dC_withType_8 ?_
  exact W.iret (v := (z &&& (-983041 : Int32)) ||| (y <<< ((16 : Int32) &&& 31))) hx hb hr (fun t ht hW => ⟨⟨(z &&& (-983041 : Int32)) ||| (y <<< ((16 : Int32) &&& 31)), (), rfl, (by unfold fC_withType; rfl), ht.trans hH⟩, hS.F ht⟩) hS.2.2 dC_withType_9
def fC_exponentOf (z : Int32) : Int32 := if (z &&& (16384 : Int32)) = 0 then (0 : Int32) else (if (26 : Int32) ≤ ((((z >>> ((8 : Int32) &&& 31)) &&& (7 : Int32)) <<< ((3 : Int32) &&& 31)) + (z &&& (7 : Int32))) then (26 : Int32) else ((((z >>> ((8 : Int32) &&& 31)) &&& (7 : Int32)) <<< ((3 : Int32) &&& 31)) + (z &&& (7 : Int32))))
set_option maxHeartbeats 4000000 in
set_option maxRecDepth 100000 in
theorem kC_exponentOf (l : Launch) (H : Heap) (z : Int32) : Met l yC_exponentOf wC_exponentOf { frames := 0, cells := 0, slots := 0, locals := 0 } (va_Pc [.int z] (fun U => U.heap = H)) (va_Qi (fun v9 (_ : Unit) => v9 = fC_exponentOf z) (fun _ t => t.heap = H) (fun _ => False)) 0 0 (fun _ => False) := by
  refine Met.ofW (cc := cC_exponentOf) (maxL := 2) (ret := (some .int)) (by decide) rfl ?_
  intro p e s m args below meth c s₁ B hml hv
  obtain ⟨rfl, hH⟩ := hv
  have hx := B.exec
  have hb := B.bytes
  have hr := B.returns
  have hts := atoms_spec (ws := wC_exponentOf) B.pre
  have hq : ∀ w ∈ wA, w.before _ s = true := fun w h => hts w (List.mem_cons_of_mem _ h)
  have hown : s.vm.findClass "CapUnit" = some m.cls := findClass_of_methodNamed B.named
  have hlocks := B.notSynchronized
  have hS : va_S (fun _ => False) s.heap s.heap [] := va_S.rf
  have hl := lv_entry ([.int z]) (n := 2) (Nat.le_of_ble_eq_true rfl)
  rw [lg_entry_eq]
  generalize (lg_sl ([.int z]) ++ List.replicate (2 - (lg_sl ([.int z])).length) Slot.unset).toArray = ls at hl ⊢
  have hl : lv_has ls 2 [(0, .int z)] := hl
  refine lv_iload_n hx hb dC_exponentOf_0 rfl (lv_at hl 0 rfl) ?_
  refine lv_sipush (v := 16384) hx hb dC_exponentOf_1 (by decide) ?_
  refine lv_iand hx hb dC_exponentOf_4 ?_
  refine lv_if_ne (tgt := 10) hx hb dC_exponentOf_5 rfl (fun h1 => ?_) (fun h1 => ?_)
  · refine lv_iload_n hx hb dC_exponentOf_10 rfl (lv_at hl 0 rfl) ?_
    refine lv_bipush (v := 8) hx hb dC_exponentOf_11 (by decide) ?_
    refine lv_ishr hx hb dC_exponentOf_13 ?_
    refine lv_bipush (v := 7) hx hb dC_exponentOf_14 (by decide) ?_
    refine lv_iand hx hb dC_exponentOf_16 ?_
    refine lv_iconst (v := 3) hx hb dC_exponentOf_17 (by decide) ?_
    refine lv_ishl hx hb dC_exponentOf_18 ?_
    refine lv_iload_n hx hb dC_exponentOf_19 rfl (lv_at hl 0 rfl) ?_
    refine lv_bipush (v := 7) hx hb dC_exponentOf_20 (by decide) ?_
    refine lv_iand hx hb dC_exponentOf_22 ?_
    refine lv_iadd hx hb dC_exponentOf_23 ?_
    refine lv_istore_n (lv' := [(1, .int ((((z >>> ((8 : Int32) &&& 31)) &&& (7 : Int32)) <<< ((3 : Int32) &&& 31)) + (z &&& (7 : Int32)))), (0, .int z)]) hx hb dC_exponentOf_24 rfl hl (by decide) rfl (fun ls hl => ?_)
    refine lv_iload_n hx hb dC_exponentOf_25 rfl (lv_at hl 0 rfl) ?_
    refine lv_bipush (v := 26) hx hb dC_exponentOf_26 (by decide) ?_
    refine lv_icmp_ge (tgt := 35) hx hb dC_exponentOf_28 rfl (fun h2 => ?_) (fun h2 => ?_)
    · refine lv_bipush (v := 26) hx hb dC_exponentOf_35 (by decide) ?_
      exact W.iret (v := (26 : Int32)) hx hb hr (fun t ht hW => ⟨⟨(26 : Int32), (), rfl, (by unfold fC_exponentOf; rw [if_neg h1, if_pos h2]), ht.trans hH⟩, hS.F ht⟩) hS.2.2 dC_exponentOf_37
    · refine lv_iload_n hx hb dC_exponentOf_31 rfl (lv_at hl 0 rfl) ?_
      refine lv_goto (tgt := 37) hx hb dC_exponentOf_32 rfl ?_
      exact W.iret (v := (((z >>> ((8 : Int32) &&& 31)) &&& (7 : Int32)) <<< ((3 : Int32) &&& 31)) + (z &&& (7 : Int32))) hx hb hr (fun t ht hW => ⟨⟨(((z >>> ((8 : Int32) &&& 31)) &&& (7 : Int32)) <<< ((3 : Int32) &&& 31)) + (z &&& (7 : Int32)), (), rfl, (by unfold fC_exponentOf; rw [if_neg h1, if_neg h2]), ht.trans hH⟩, hS.F ht⟩) hS.2.2 dC_exponentOf_37
  · refine lv_iconst (v := 0) hx hb dC_exponentOf_8 (by decide) ?_
    exact W.iret (v := (0 : Int32)) hx hb hr (fun t ht hW => ⟨⟨(0 : Int32), (), rfl, (by unfold fC_exponentOf; rw [if_pos h1]), ht.trans hH⟩, hS.F ht⟩) hS.2.2 dC_exponentOf_9
def fC_baseMantissa (z : Int32) : Int32 := if (z &&& (16384 : Int32)) = 0 then (z &&& (255 : Int32)) else ((z &&& (255 : Int32)) &&& (-8 : Int32))
set_option maxHeartbeats 4000000 in
set_option maxRecDepth 100000 in
theorem kC_baseMantissa (l : Launch) (H : Heap) (z : Int32) : Met l yC_baseMantissa wC_baseMantissa { frames := 0, cells := 0, slots := 0, locals := 0 } (va_Pc [.int z] (fun U => U.heap = H)) (va_Qi (fun v9 (_ : Unit) => v9 = fC_baseMantissa z) (fun _ t => t.heap = H) (fun _ => False)) 0 0 (fun _ => False) := by
  refine Met.ofW (cc := cC_baseMantissa) (maxL := 2) (ret := (some .int)) (by decide) rfl ?_
  intro p e s m args below meth c s₁ B hml hv
  obtain ⟨rfl, hH⟩ := hv
  have hx := B.exec
  have hb := B.bytes
  have hr := B.returns
  have hts := atoms_spec (ws := wC_baseMantissa) B.pre
  have hq : ∀ w ∈ wA, w.before _ s = true := fun w h => hts w (List.mem_cons_of_mem _ h)
  have hown : s.vm.findClass "CapUnit" = some m.cls := findClass_of_methodNamed B.named
  have hlocks := B.notSynchronized
  have hS : va_S (fun _ => False) s.heap s.heap [] := va_S.rf
  have hl := lv_entry ([.int z]) (n := 2) (Nat.le_of_ble_eq_true rfl)
  rw [lg_entry_eq]
  generalize (lg_sl ([.int z]) ++ List.replicate (2 - (lg_sl ([.int z])).length) Slot.unset).toArray = ls at hl ⊢
  have hl : lv_has ls 2 [(0, .int z)] := hl
  refine lv_iload_n hx hb dC_baseMantissa_0 rfl (lv_at hl 0 rfl) ?_
  refine lv_sipush (v := 255) hx hb dC_baseMantissa_1 (by decide) ?_
  refine lv_iand hx hb dC_baseMantissa_4 ?_
  refine lv_istore_n (lv' := [(1, .int (z &&& (255 : Int32))), (0, .int z)]) hx hb dC_baseMantissa_5 rfl hl (by decide) rfl (fun ls hl => ?_)
  refine lv_iload_n hx hb dC_baseMantissa_6 rfl (lv_at hl 1 rfl) ?_
  refine lv_sipush (v := 16384) hx hb dC_baseMantissa_7 (by decide) ?_
  refine lv_iand hx hb dC_baseMantissa_10 ?_
  refine lv_if_eq (tgt := 21) hx hb dC_baseMantissa_11 rfl (fun h1 => ?_) (fun h1 => ?_)
  · refine lv_iload_n hx hb dC_baseMantissa_21 rfl (lv_at hl 0 rfl) ?_
    exact W.iret (v := z &&& (255 : Int32)) hx hb hr (fun t ht hW => ⟨⟨z &&& (255 : Int32), (), rfl, (by unfold fC_baseMantissa; rw [if_pos h1]), ht.trans hH⟩, hS.F ht⟩) hS.2.2 dC_baseMantissa_22
  · refine lv_iload_n hx hb dC_baseMantissa_14 rfl (lv_at hl 0 rfl) ?_
    refine lv_bipush (v := -8) hx hb dC_baseMantissa_15 (by decide) ?_
    refine lv_iand hx hb dC_baseMantissa_17 ?_
    refine lv_goto (tgt := 22) hx hb dC_baseMantissa_18 rfl ?_
    exact W.iret (v := (z &&& (255 : Int32)) &&& (-8 : Int32)) hx hb hr (fun t ht hW => ⟨⟨(z &&& (255 : Int32)) &&& (-8 : Int32), (), rfl, (by unfold fC_baseMantissa; rw [if_neg h1]), ht.trans hH⟩, hS.F ht⟩) hS.2.2 dC_baseMantissa_22
def fC_topMantissa (z : Int32) : Int32 := if (z &&& (16384 : Int32)) = 0 then (if ((fC_baseMantissa z) &&& (63 : Int32)) ≤ ((z >>> ((8 : Int32) &&& 31)) &&& (63 : Int32)) then (((((fC_baseMantissa z) >>> ((6 : Int32) &&& 31)) &&& (3 : Int32)) <<< ((6 : Int32) &&& 31)) ||| ((z >>> ((8 : Int32) &&& 31)) &&& (63 : Int32))) else ((((((fC_baseMantissa z) >>> ((6 : Int32) &&& 31)) + 1) &&& (3 : Int32)) <<< ((6 : Int32) &&& 31)) ||| ((z >>> ((8 : Int32) &&& 31)) &&& (63 : Int32)))) else (if ((fC_baseMantissa z) &&& (63 : Int32)) ≤ (((z >>> ((8 : Int32) &&& 31)) &&& (63 : Int32)) &&& (-8 : Int32)) then ((((((fC_baseMantissa z) >>> ((6 : Int32) &&& 31)) + 1) &&& (3 : Int32)) <<< ((6 : Int32) &&& 31)) ||| (((z >>> ((8 : Int32) &&& 31)) &&& (63 : Int32)) &&& (-8 : Int32))) else (((((((fC_baseMantissa z) >>> ((6 : Int32) &&& 31)) + 1) + 1) &&& (3 : Int32)) <<< ((6 : Int32) &&& 31)) ||| (((z >>> ((8 : Int32) &&& 31)) &&& (63 : Int32)) &&& (-8 : Int32))))
set_option maxHeartbeats 4000000 in
set_option maxRecDepth 100000 in
theorem kC_topMantissa (l : Launch) (H : Heap) (z : Int32) : Met l yC_topMantissa wC_topMantissa { frames := 1, cells := 0, slots := 0, locals := 21 } (va_Pc [.int z] (fun U => U.heap = H)) (va_Qi (fun v9 (_ : Unit) => v9 = fC_topMantissa z) (fun _ t => t.heap = H) (fun _ => False)) 0 0 (fun _ => False) := by
  refine Met.ofW (cc := cC_topMantissa) (maxL := 4) (ret := (some .int)) (by decide) rfl ?_
  intro p e s m args below meth c s₁ B hml hv
  obtain ⟨rfl, hH⟩ := hv
  have hx := B.exec
  have hb := B.bytes
  have hr := B.returns
  have hts := atoms_spec (ws := wC_topMantissa) B.pre
  have hq : ∀ w ∈ wA, w.before _ s = true := fun w h => hts w (List.mem_cons_of_mem _ h)
  have hown : s.vm.findClass "CapUnit" = some m.cls := findClass_of_methodNamed B.named
  have hlocks := B.notSynchronized
  have hS : va_S (fun _ => False) s.heap s.heap [] := va_S.rf
  have hl := lv_entry ([.int z]) (n := 4) (Nat.le_of_ble_eq_true rfl)
  rw [lg_entry_eq]
  generalize (lg_sl ([.int z]) ++ List.replicate (4 - (lg_sl ([.int z])).length) Slot.unset).toArray = ls at hl ⊢
  have hl : lv_has ls 4 [(0, .int z)] := hl
  refine lv_iload_n hx hb dC_topMantissa_0 rfl (lv_at hl 0 rfl) ?_
  refine zc_i (va_runS (As := [.int z]) (rest := []) ⟨hx, hb, hml, hown, hq⟩ (kC_baseMantissa l s.heap z) (va_cwS 1 hq (wA_S q_54 q_55 q_1 q_56) rfl rfl rfl (by decide +kernel) ⟨Nat.le_of_ble_eq_true rfl, Nat.le_of_ble_eq_true rfl⟩) ⟨fun a U g mk q => q, fun U hU hW => ⟨rfl, hU⟩⟩ rfl rfl hl.1 rfl (lv_room (Nat.le_of_ble_eq_true rfl)) dC_topMantissa_1 ⟨Nat.zero_le _, Nat.zero_le _⟩) hS (fun locs hS => ?_)
  refine lv_istore_n (lv' := [(1, .int (fC_baseMantissa z)), (0, .int z)]) hx hb dC_topMantissa_4 rfl hl (by decide) rfl (fun ls hl => ?_)
  refine lv_iload_n hx hb dC_topMantissa_5 rfl (lv_at hl 1 rfl) ?_
  refine lv_bipush (v := 8) hx hb dC_topMantissa_6 (by decide) ?_
  refine lv_ishr hx hb dC_topMantissa_8 ?_
  refine lv_bipush (v := 63) hx hb dC_topMantissa_9 (by decide) ?_
  refine lv_iand hx hb dC_topMantissa_11 ?_
  refine lv_istore_n (lv' := [(2, .int ((z >>> ((8 : Int32) &&& 31)) &&& (63 : Int32))), (1, .int (fC_baseMantissa z)), (0, .int z)]) hx hb dC_topMantissa_12 rfl hl (by decide) rfl (fun ls hl => ?_)
  refine lv_iload_n hx hb dC_topMantissa_13 rfl (lv_at hl 1 rfl) ?_
  refine lv_bipush (v := 6) hx hb dC_topMantissa_14 (by decide) ?_
  refine lv_ishr hx hb dC_topMantissa_16 ?_
  refine lv_istore_n (lv' := [(3, .int ((fC_baseMantissa z) >>> ((6 : Int32) &&& 31))), (2, .int ((z >>> ((8 : Int32) &&& 31)) &&& (63 : Int32))), (1, .int (fC_baseMantissa z)), (0, .int z)]) hx hb dC_topMantissa_17 rfl hl (by decide) rfl (fun ls hl => ?_)
  refine lv_iload_n hx hb dC_topMantissa_18 rfl (lv_at hl 3 rfl) ?_
  refine lv_sipush (v := 16384) hx hb dC_topMantissa_19 (by decide) ?_
  refine lv_iand hx hb dC_topMantissa_22 ?_
  refine lv_if_eq (tgt := 34) hx hb dC_topMantissa_23 rfl (fun h1 => ?_) (fun h1 => ?_)
  · refine lv_iload_n hx hb dC_topMantissa_34 rfl (lv_at hl 1 rfl) ?_
    refine lv_iload_n hx hb dC_topMantissa_35 rfl (lv_at hl 2 rfl) ?_
    refine lv_bipush (v := 63) hx hb dC_topMantissa_36 (by decide) ?_
    refine lv_iand hx hb dC_topMantissa_38 ?_
    refine lv_icmp_ge (tgt := 45) hx hb dC_topMantissa_39 rfl (fun h2 => ?_) (fun h2 => ?_)
    · refine lv_iload_n hx hb dC_topMantissa_45 rfl (lv_at hl 0 rfl) ?_
      refine lv_iconst (v := 3) hx hb dC_topMantissa_46 (by decide) ?_
      refine lv_iand hx hb dC_topMantissa_47 ?_
      refine lv_bipush (v := 6) hx hb dC_topMantissa_48 (by decide) ?_
      refine lv_ishl hx hb dC_topMantissa_50 ?_
      refine lv_iload_n hx hb dC_topMantissa_51 rfl (lv_at hl 1 rfl) ?_
      refine lv_ior hx hb dC_topMantissa_52 ?_
      exact W.iret (v := ((((fC_baseMantissa z) >>> ((6 : Int32) &&& 31)) &&& (3 : Int32)) <<< ((6 : Int32) &&& 31)) ||| ((z >>> ((8 : Int32) &&& 31)) &&& (63 : Int32))) hx hb hr (fun t ht hW => ⟨⟨((((fC_baseMantissa z) >>> ((6 : Int32) &&& 31)) &&& (3 : Int32)) <<< ((6 : Int32) &&& 31)) ||| ((z >>> ((8 : Int32) &&& 31)) &&& (63 : Int32)), (), rfl, (by unfold fC_topMantissa; rw [if_pos h1, if_pos h2]), ht.trans hH⟩, hS.F ht⟩) hS.2.2 dC_topMantissa_53
    · refine lv_iinc (k := 0) (v := ((fC_baseMantissa z) >>> ((6 : Int32) &&& 31)) + 1) (lv' := [(3, .int (((fC_baseMantissa z) >>> ((6 : Int32) &&& 31)) + 1)), (2, .int ((z >>> ((8 : Int32) &&& 31)) &&& (63 : Int32))), (1, .int (fC_baseMantissa z)), (0, .int z)]) hx hb dC_topMantissa_42 hl rfl (by rfl) (by decide) rfl (fun ls hl => ?_)
      refine lv_iload_n hx hb dC_topMantissa_45 rfl (lv_at hl 0 rfl) ?_
      refine lv_iconst (v := 3) hx hb dC_topMantissa_46 (by decide) ?_
      refine lv_iand hx hb dC_topMantissa_47 ?_
      refine lv_bipush (v := 6) hx hb dC_topMantissa_48 (by decide) ?_
      refine lv_ishl hx hb dC_topMantissa_50 ?_
      refine lv_iload_n hx hb dC_topMantissa_51 rfl (lv_at hl 1 rfl) ?_
      refine lv_ior hx hb dC_topMantissa_52 ?_
      exact W.iret (v := (((((fC_baseMantissa z) >>> ((6 : Int32) &&& 31)) + 1) &&& (3 : Int32)) <<< ((6 : Int32) &&& 31)) ||| ((z >>> ((8 : Int32) &&& 31)) &&& (63 : Int32))) hx hb hr (fun t ht hW => ⟨⟨(((((fC_baseMantissa z) >>> ((6 : Int32) &&& 31)) + 1) &&& (3 : Int32)) <<< ((6 : Int32) &&& 31)) ||| ((z >>> ((8 : Int32) &&& 31)) &&& (63 : Int32)), (), rfl, (by unfold fC_topMantissa; rw [if_pos h1, if_neg h2]), ht.trans hH⟩, hS.F ht⟩) hS.2.2 dC_topMantissa_53
  · refine lv_iload_n hx hb dC_topMantissa_26 rfl (lv_at hl 1 rfl) ?_
    refine lv_bipush (v := -8) hx hb dC_topMantissa_27 (by decide) ?_
    refine lv_iand hx hb dC_topMantissa_29 ?_
    refine lv_istore_n (lv' := [(2, .int (((z >>> ((8 : Int32) &&& 31)) &&& (63 : Int32)) &&& (-8 : Int32))), (3, .int ((fC_baseMantissa z) >>> ((6 : Int32) &&& 31))), (1, .int (fC_baseMantissa z)), (0, .int z)]) hx hb dC_topMantissa_30 rfl hl (by decide) rfl (fun ls hl => ?_)
    refine lv_iinc (k := 1) (v := ((fC_baseMantissa z) >>> ((6 : Int32) &&& 31)) + 1) (lv' := [(3, .int (((fC_baseMantissa z) >>> ((6 : Int32) &&& 31)) + 1)), (2, .int (((z >>> ((8 : Int32) &&& 31)) &&& (63 : Int32)) &&& (-8 : Int32))), (1, .int (fC_baseMantissa z)), (0, .int z)]) hx hb dC_topMantissa_31 hl rfl (by rfl) (by decide) rfl (fun ls hl => ?_)
    refine lv_iload_n hx hb dC_topMantissa_34 rfl (lv_at hl 1 rfl) ?_
    refine lv_iload_n hx hb dC_topMantissa_35 rfl (lv_at hl 2 rfl) ?_
    refine lv_bipush (v := 63) hx hb dC_topMantissa_36 (by decide) ?_
    refine lv_iand hx hb dC_topMantissa_38 ?_
    refine lv_icmp_ge (tgt := 45) hx hb dC_topMantissa_39 rfl (fun h3 => ?_) (fun h3 => ?_)
    · refine lv_iload_n hx hb dC_topMantissa_45 rfl (lv_at hl 0 rfl) ?_
      refine lv_iconst (v := 3) hx hb dC_topMantissa_46 (by decide) ?_
      refine lv_iand hx hb dC_topMantissa_47 ?_
      refine lv_bipush (v := 6) hx hb dC_topMantissa_48 (by decide) ?_
      refine lv_ishl hx hb dC_topMantissa_50 ?_
      refine lv_iload_n hx hb dC_topMantissa_51 rfl (lv_at hl 1 rfl) ?_
      refine lv_ior hx hb dC_topMantissa_52 ?_
      exact W.iret (v := (((((fC_baseMantissa z) >>> ((6 : Int32) &&& 31)) + 1) &&& (3 : Int32)) <<< ((6 : Int32) &&& 31)) ||| (((z >>> ((8 : Int32) &&& 31)) &&& (63 : Int32)) &&& (-8 : Int32))) hx hb hr (fun t ht hW => ⟨⟨(((((fC_baseMantissa z) >>> ((6 : Int32) &&& 31)) + 1) &&& (3 : Int32)) <<< ((6 : Int32) &&& 31)) ||| (((z >>> ((8 : Int32) &&& 31)) &&& (63 : Int32)) &&& (-8 : Int32)), (), rfl, (by unfold fC_topMantissa; rw [if_neg h1, if_pos h3]), ht.trans hH⟩, hS.F ht⟩) hS.2.2 dC_topMantissa_53
    · refine lv_iinc (k := 0) (v := (((fC_baseMantissa z) >>> ((6 : Int32) &&& 31)) + 1) + 1) (lv' := [(3, .int ((((fC_baseMantissa z) >>> ((6 : Int32) &&& 31)) + 1) + 1)), (2, .int (((z >>> ((8 : Int32) &&& 31)) &&& (63 : Int32)) &&& (-8 : Int32))), (1, .int (fC_baseMantissa z)), (0, .int z)]) hx hb dC_topMantissa_42 hl rfl (by rfl) (by decide) rfl (fun ls hl => ?_)
      refine lv_iload_n hx hb dC_topMantissa_45 rfl (lv_at hl 0 rfl) ?_
      refine lv_iconst (v := 3) hx hb dC_topMantissa_46 (by decide) ?_
      refine lv_iand hx hb dC_topMantissa_47 ?_
      refine lv_bipush (v := 6) hx hb dC_topMantissa_48 (by decide) ?_
      refine lv_ishl hx hb dC_topMantissa_50 ?_
      refine lv_iload_n hx hb dC_topMantissa_51 rfl (lv_at hl 1 rfl) ?_
      refine lv_ior hx hb dC_topMantissa_52 ?_
      exact W.iret (v := ((((((fC_baseMantissa z) >>> ((6 : Int32) &&& 31)) + 1) + 1) &&& (3 : Int32)) <<< ((6 : Int32) &&& 31)) ||| (((z >>> ((8 : Int32) &&& 31)) &&& (63 : Int32)) &&& (-8 : Int32))) hx hb hr (fun t ht hW => ⟨⟨((((((fC_baseMantissa z) >>> ((6 : Int32) &&& 31)) + 1) + 1) &&& (3 : Int32)) <<< ((6 : Int32) &&& 31)) ||| (((z >>> ((8 : Int32) &&& 31)) &&& (63 : Int32)) &&& (-8 : Int32)), (), rfl, (by unfold fC_topMantissa; rw [if_neg h1, if_neg h3]), ht.trans hH⟩, hS.F ht⟩) hS.2.2 dC_topMantissa_53
def fC_unsigned (n : Int32) : Int64 := n.toInt64 &&& (4294967295 : Int64)
set_option maxHeartbeats 4000000 in
set_option maxRecDepth 100000 in
theorem kC_unsigned (l : Launch) (H : Heap) (n : Int32) : Met l yC_unsigned wC_unsigned { frames := 0, cells := 0, slots := 0, locals := 0 } (va_Pc [.int n] (fun U => U.heap = H)) (va_Ql (fun v9 (_ : Unit) => v9 = fC_unsigned n) (fun _ t => t.heap = H) (fun _ => False)) 0 0 (fun _ => False) := by
  refine Met.ofW (cc := cC_unsigned) (maxL := 1) (ret := (some .long)) (by decide) rfl ?_
  intro p e s m args below meth c s₁ B hml hv
  obtain ⟨rfl, hH⟩ := hv
  have hx := B.exec
  have hb := B.bytes
  have hr := B.returns
  have hts := atoms_spec (ws := wC_unsigned) B.pre
  have hq : ∀ w ∈ wA, w.before _ s = true := fun w h => hts w (List.mem_cons_of_mem _ h)
  have hown : s.vm.findClass "CapUnit" = some m.cls := findClass_of_methodNamed B.named
  have hlocks := B.notSynchronized
  have hS : va_S (fun _ => False) s.heap s.heap [] := va_S.rf
  have hl := lv_entry ([.int n]) (n := 1) (Nat.le_of_ble_eq_true rfl)
  rw [lg_entry_eq]
  generalize (lg_sl ([.int n]) ++ List.replicate (1 - (lg_sl ([.int n])).length) Slot.unset).toArray = ls at hl ⊢
  have hl : lv_has ls 1 [(0, .int n)] := hl
  refine lv_iload_n hx hb dC_unsigned_0 rfl (lv_at hl 0 rfl) ?_
  refine lv_i2l hx hb dC_unsigned_1 rfl ?_
  refine lv_ldc2 (v := 4294967295) hx hb hown (hts (.constantLong "CapUnit" 147 4294967295) (by decide +kernel)) dC_unsigned_2 ?_
  refine lv_land hx hb dC_unsigned_5 ?_
  exact W.lret (v := n.toInt64 &&& (4294967295 : Int64)) hx hb hr (fun t ht hW => ⟨⟨n.toInt64 &&& (4294967295 : Int64), (), rfl, (by unfold fC_unsigned; rfl), ht.trans hH⟩, hS.F ht⟩) hS.2.2 dC_unsigned_6
def fC_fitsSpace (b : Int32) (n : Int64) : Int32 := if n < (0 : Int64) then (0 : Int32) else (if ((4294967296 : Int64) - (fC_unsigned b)) < n then (0 : Int32) else (1 : Int32))
set_option maxHeartbeats 4000000 in
set_option maxRecDepth 100000 in
theorem kC_fitsSpace (l : Launch) (H : Heap) (b : Int32) (n : Int64) : Met l yC_fitsSpace wC_fitsSpace { frames := 1, cells := 0, slots := 0, locals := 20 } (va_Pc [.int b, .long n] (fun U => U.heap = H)) (va_Qi (fun v9 (_ : Unit) => v9 = fC_fitsSpace b n) (fun _ t => t.heap = H) (fun _ => False)) 0 0 (fun _ => False) := by
  refine Met.ofW (cc := cC_fitsSpace) (maxL := 3) (ret := (some .boolean)) (by decide) rfl ?_
  intro p e s m args below meth c s₁ B hml hv
  obtain ⟨rfl, hH⟩ := hv
  have hx := B.exec
  have hb := B.bytes
  have hr := B.returns
  have hts := atoms_spec (ws := wC_fitsSpace) B.pre
  have hq : ∀ w ∈ wA, w.before _ s = true := fun w h => hts w (List.mem_cons_of_mem _ h)
  have hown : s.vm.findClass "CapUnit" = some m.cls := findClass_of_methodNamed B.named
  have hlocks := B.notSynchronized
  have hS : va_S (fun _ => False) s.heap s.heap [] := va_S.rf
  have hl := lv_entry ([.int b, .long n]) (n := 3) (Nat.le_of_ble_eq_true rfl)
  rw [lg_entry_eq]
  generalize (lg_sl ([.int b, .long n]) ++ List.replicate (3 - (lg_sl ([.int b, .long n])).length) Slot.unset).toArray = ls at hl ⊢
  have hl : lv_has ls 3 [(0, .int b), (1, .long n)] := hl
  refine lv_lload_n hx hb dC_fitsSpace_0 rfl (lv_at hl 1 rfl) ?_
  refine lv_lconst (v := 0) hx hb dC_fitsSpace_1 (by decide) ?_
  refine W.lcmp hx hb dC_fitsSpace_2 ?_
  refine lv_if_lt (tgt := 23) hx hb dC_fitsSpace_3 rfl (fun h1 => ?_) (fun h1 => ?_)
  · have h1 := (lg_cmp_lt _ _).mp h1
    refine lv_iconst (v := 0) hx hb dC_fitsSpace_23 (by decide) ?_
    exact W.zret (v := (0 : Int32)) hx hb hr (by decide) (fun t ht hW => ⟨⟨(0 : Int32), (), rfl, (by unfold fC_fitsSpace; rw [if_pos h1]), ht.trans hH⟩, hS.F ht⟩) hS.2.2 dC_fitsSpace_24
  · have h1 := mt (lg_cmp_lt _ _).mpr h1
    refine lv_lload_n hx hb dC_fitsSpace_6 rfl (lv_at hl 1 rfl) ?_
    refine lv_ldc2 (v := 4294967296) hx hb hown (hts (.constantLong "CapUnit" 81 4294967296) (by decide +kernel)) dC_fitsSpace_7 ?_
    refine lv_iload_n hx hb dC_fitsSpace_10 rfl (lv_at hl 0 rfl) ?_
    refine zc_l (va_runS (As := [.int b]) (rest := [.long (4294967296 : Int64), .long n]) ⟨hx, hb, hml, hown, hq⟩ (kC_unsigned l s.heap b) (va_cwS 1 hq (wA_S q_63 q_64 q_1 q_65) rfl rfl rfl (by decide +kernel) ⟨Nat.le_of_ble_eq_true rfl, Nat.le_of_ble_eq_true rfl⟩) ⟨fun a U g mk q => q, fun U hU hW => ⟨rfl, hU⟩⟩ rfl rfl hl.1 rfl (lv_room (Nat.le_of_ble_eq_true rfl)) dC_fitsSpace_11 ⟨Nat.zero_le _, Nat.zero_le _⟩) hS (fun locs hS => ?_)
    refine lv_lsub hx hb dC_fitsSpace_14 ?_
    refine W.lcmp hx hb dC_fitsSpace_15 ?_
    refine lv_if_gt (tgt := 23) hx hb dC_fitsSpace_16 rfl (fun h2 => ?_) (fun h2 => ?_)
    · have h2 := (lg_cmp_gt _ _).mp h2
      refine lv_iconst (v := 0) hx hb dC_fitsSpace_23 (by decide) ?_
      exact W.zret (v := (0 : Int32)) hx hb hr (by decide) (fun t ht hW => ⟨⟨(0 : Int32), (), rfl, (by unfold fC_fitsSpace; rw [if_neg h1, if_pos h2]), ht.trans hH⟩, hS.F ht⟩) hS.2.2 dC_fitsSpace_24
    · have h2 := mt (lg_cmp_gt _ _).mpr h2
      refine lv_iconst (v := 1) hx hb dC_fitsSpace_19 (by decide) ?_
      refine lv_goto (tgt := 24) hx hb dC_fitsSpace_20 rfl ?_
      exact W.zret (v := (1 : Int32)) hx hb hr (by decide) (fun t ht hW => ⟨⟨(1 : Int32), (), rfl, (by unfold fC_fitsSpace; rw [if_neg h1, if_neg h2]), ht.trans hH⟩, hS.F ht⟩) hS.2.2 dC_fitsSpace_24
def fC_below (x : Int32) (y : Int32) : Int32 := if y ≤ (x >>> ((5 : Int32) &&& 31)) then (0 : Int32) else (1 : Int32)
set_option maxHeartbeats 4000000 in
set_option maxRecDepth 100000 in
theorem kC_below (l : Launch) (H : Heap) (x : Int32) (y : Int32) : Met l yC_below wC_below { frames := 0, cells := 0, slots := 0, locals := 0 } (va_Pc [.int x, .int y] (fun U => U.heap = H)) (va_Qi (fun v9 (_ : Unit) => v9 = fC_below x y) (fun _ t => t.heap = H) (fun _ => False)) 0 0 (fun _ => False) := by
  refine Met.ofW (cc := cC_below) (maxL := 2) (ret := (some .int)) (by decide) rfl ?_
  intro p e s m args below meth c s₁ B hml hv
  obtain ⟨rfl, hH⟩ := hv
  have hx := B.exec
  have hb := B.bytes
  have hr := B.returns
  have hts := atoms_spec (ws := wC_below) B.pre
  have hq : ∀ w ∈ wA, w.before _ s = true := fun w h => hts w (List.mem_cons_of_mem _ h)
  have hown : s.vm.findClass "CapUnit" = some m.cls := findClass_of_methodNamed B.named
  have hlocks := B.notSynchronized
  have hS : va_S (fun _ => False) s.heap s.heap [] := va_S.rf
  have hl := lv_entry ([.int x, .int y]) (n := 2) (Nat.le_of_ble_eq_true rfl)
  rw [lg_entry_eq]
  generalize (lg_sl ([.int x, .int y]) ++ List.replicate (2 - (lg_sl ([.int x, .int y])).length) Slot.unset).toArray = ls at hl ⊢
  have hl : lv_has ls 2 [(0, .int x), (1, .int y)] := hl
  refine lv_iload_n hx hb dC_below_0 rfl (lv_at hl 0 rfl) ?_
  refine lv_iconst (v := 5) hx hb dC_below_1 (by decide) ?_
  refine lv_ishr hx hb dC_below_2 ?_
  refine lv_iload_n hx hb dC_below_3 rfl (lv_at hl 1 rfl) ?_
  refine lv_icmp_ge (tgt := 11) hx hb dC_below_4 rfl (fun h1 => ?_) (fun h1 => ?_)
  · refine lv_iconst (v := 0) hx hb dC_below_11 (by decide) ?_
    exact W.iret (v := (0 : Int32)) hx hb hr (fun t ht hW => ⟨⟨(0 : Int32), (), rfl, (by unfold fC_below; rw [if_pos h1]), ht.trans hH⟩, hS.F ht⟩) hS.2.2 dC_below_12
  · refine lv_iconst (v := 1) hx hb dC_below_7 (by decide) ?_
    refine lv_goto (tgt := 12) hx hb dC_below_8 rfl ?_
    exact W.iret (v := (1 : Int32)) hx hb hr (fun t ht hW => ⟨⟨(1 : Int32), (), rfl, (by unfold fC_below; rw [if_neg h1]), ht.trans hH⟩, hS.F ht⟩) hS.2.2 dC_below_12
def fC_placed (z : Int32) (a : Int32) (x : Int32) : Int64 := (((((fC_unsigned a) >>> (((fC_exponentOf z) + (8 : Int32)).toInt64 &&& 63)) + ((fC_below x ((((fC_baseMantissa z) >>> ((5 : Int32) &&& 31)) - (1 : Int32)) &&& (7 : Int32))).toInt64)) - ((fC_below ((((fC_unsigned a) >>> ((fC_exponentOf z).toInt64 &&& 63)).toInt32) &&& (255 : Int32)) ((((fC_baseMantissa z) >>> ((5 : Int32) &&& 31)) - (1 : Int32)) &&& (7 : Int32))).toInt64)) <<< (((fC_exponentOf z) + (8 : Int32)).toInt64 &&& 63)) + (x.toInt64 <<< ((fC_exponentOf z).toInt64 &&& 63))
set_option maxHeartbeats 4000000 in
set_option maxRecDepth 100000 in
theorem kC_placed (l : Launch) (H : Heap) (z : Int32) (a : Int32) (x : Int32) : Met l yC_placed wC_placed { frames := 1, cells := 0, slots := 0, locals := 21 } (va_Pc [.int z, .int a, .int x] (fun U => U.heap = H)) (va_Ql (fun v9 (_ : Unit) => v9 = fC_placed z a x) (fun _ t => t.heap = H) (fun _ => False)) 0 0 (fun _ => False) := by
  refine Met.ofW (cc := cC_placed) (maxL := 10) (ret := (some .long)) (by decide) rfl ?_
  intro p e s m args below meth c s₁ B hml hv
  obtain ⟨rfl, hH⟩ := hv
  have hx := B.exec
  have hb := B.bytes
  have hr := B.returns
  have hts := atoms_spec (ws := wC_placed) B.pre
  have hq : ∀ w ∈ wA, w.before _ s = true := fun w h => hts w (List.mem_cons_of_mem _ h)
  have hown : s.vm.findClass "CapUnit" = some m.cls := findClass_of_methodNamed B.named
  have hlocks := B.notSynchronized
  have hS : va_S (fun _ => False) s.heap s.heap [] := va_S.rf
  have hl := lv_entry ([.int z, .int a, .int x]) (n := 10) (Nat.le_of_ble_eq_true rfl)
  rw [lg_entry_eq]
  generalize (lg_sl ([.int z, .int a, .int x]) ++ List.replicate (10 - (lg_sl ([.int z, .int a, .int x])).length) Slot.unset).toArray = ls at hl ⊢
  have hl : lv_has ls 10 [(0, .int z), (1, .int a), (2, .int x)] := hl
  refine lv_iload_n hx hb dC_placed_0 rfl (lv_at hl 0 rfl) ?_
  refine zc_i (va_runS (As := [.int z]) (rest := []) ⟨hx, hb, hml, hown, hq⟩ (kC_exponentOf l s.heap z) (va_cwS 1 hq (wA_S q_60 q_61 q_1 q_62) rfl rfl rfl (by decide +kernel) ⟨Nat.le_of_ble_eq_true rfl, Nat.le_of_ble_eq_true rfl⟩) ⟨fun a U g mk q => q, fun U hU hW => ⟨rfl, hU⟩⟩ rfl rfl hl.1 rfl (lv_room (Nat.le_of_ble_eq_true rfl)) dC_placed_1 ⟨Nat.zero_le _, Nat.zero_le _⟩) hS (fun locs hS => ?_)
  refine lv_istore_n (lv' := [(3, .int (fC_exponentOf z)), (0, .int z), (1, .int a), (2, .int x)]) hx hb dC_placed_4 rfl hl (by decide) rfl (fun ls hl => ?_)
  refine lv_iload_n hx hb dC_placed_5 rfl (lv_at hl 2 rfl) ?_
  refine zc_l (va_runS (As := [.int a]) (rest := []) ⟨hx, hb, hml, hown, hq⟩ (kC_unsigned l s.heap a) (va_cwS 1 hq (wA_S q_63 q_64 q_1 q_65) rfl rfl rfl (by decide +kernel) ⟨Nat.le_of_ble_eq_true rfl, Nat.le_of_ble_eq_true rfl⟩) ⟨fun a U g mk q => q, fun U hU hW => ⟨rfl, hU⟩⟩ rfl rfl hl.1 rfl (lv_room (Nat.le_of_ble_eq_true rfl)) dC_placed_6 ⟨Nat.zero_le _, Nat.zero_le _⟩) hS (fun locs hS => ?_)
  refine lv_lstore (lv' := [(4, .long (fC_unsigned a)), (3, .int (fC_exponentOf z)), (0, .int z), (1, .int a), (2, .int x)]) hx hb dC_placed_9 hl (by decide) rfl (fun ls hl => ?_)
  refine lv_lload hx hb dC_placed_11 (lv_at hl 0 rfl) ?_
  refine lv_iload_n hx hb dC_placed_13 rfl (lv_at hl 1 rfl) ?_
  refine lv_lshr hx hb dC_placed_14 rfl ?_
  refine lv_l2i hx hb dC_placed_15 rfl ?_
  refine lv_sipush (v := 255) hx hb dC_placed_16 (by decide) ?_
  refine lv_iand hx hb dC_placed_19 ?_
  refine lv_istore (lv' := [(6, .int ((((fC_unsigned a) >>> ((fC_exponentOf z).toInt64 &&& 63)).toInt32) &&& (255 : Int32))), (4, .long (fC_unsigned a)), (3, .int (fC_exponentOf z)), (0, .int z), (1, .int a), (2, .int x)]) hx hb dC_placed_20 hl (by decide) rfl (fun ls hl => ?_)
  refine lv_iload_n hx hb dC_placed_22 rfl (lv_at hl 3 rfl) ?_
  refine zc_i (va_runS (As := [.int z]) (rest := []) ⟨hx, hb, hml, hown, hq⟩ (kC_baseMantissa l s.heap z) (va_cwS 1 hq (wA_S q_54 q_55 q_1 q_56) rfl rfl rfl (by decide +kernel) ⟨Nat.le_of_ble_eq_true rfl, Nat.le_of_ble_eq_true rfl⟩) ⟨fun a U g mk q => q, fun U hU hW => ⟨rfl, hU⟩⟩ rfl rfl hl.1 rfl (lv_room (Nat.le_of_ble_eq_true rfl)) dC_placed_23 ⟨Nat.zero_le _, Nat.zero_le _⟩) hS (fun locs hS => ?_)
  refine lv_iconst (v := 5) hx hb dC_placed_26 (by decide) ?_
  refine lv_ishr hx hb dC_placed_27 ?_
  refine lv_iconst (v := 1) hx hb dC_placed_28 (by decide) ?_
  refine lv_isub hx hb dC_placed_29 ?_
  refine lv_bipush (v := 7) hx hb dC_placed_30 (by decide) ?_
  refine lv_iand hx hb dC_placed_32 ?_
  refine lv_istore (lv' := [(7, .int ((((fC_baseMantissa z) >>> ((5 : Int32) &&& 31)) - (1 : Int32)) &&& (7 : Int32))), (6, .int ((((fC_unsigned a) >>> ((fC_exponentOf z).toInt64 &&& 63)).toInt32) &&& (255 : Int32))), (4, .long (fC_unsigned a)), (3, .int (fC_exponentOf z)), (0, .int z), (1, .int a), (2, .int x)]) hx hb dC_placed_33 hl (by decide) rfl (fun ls hl => ?_)
  refine lv_lload hx hb dC_placed_35 (lv_at hl 2 rfl) ?_
  refine lv_iload_n hx hb dC_placed_37 rfl (lv_at hl 3 rfl) ?_
  refine lv_bipush (v := 8) hx hb dC_placed_38 (by decide) ?_
  refine lv_iadd hx hb dC_placed_40 ?_
  refine lv_lshr hx hb dC_placed_41 rfl ?_
  refine lv_iload_n hx hb dC_placed_42 rfl (lv_at hl 6 rfl) ?_
  refine lv_iload hx hb dC_placed_43 (lv_at hl 0 rfl) ?_
  refine zc_i (va_runS (As := [.int x, .int ((((fC_baseMantissa z) >>> ((5 : Int32) &&& 31)) - (1 : Int32)) &&& (7 : Int32))]) (rest := [.long ((fC_unsigned a) >>> (((fC_exponentOf z) + (8 : Int32)).toInt64 &&& 63))]) ⟨hx, hb, hml, hown, hq⟩ (kC_below l s.heap x ((((fC_baseMantissa z) >>> ((5 : Int32) &&& 31)) - (1 : Int32)) &&& (7 : Int32))) (va_cwS 2 hq (wA_S q_67 q_68 q_1 q_69) rfl rfl rfl (by decide +kernel) ⟨Nat.le_of_ble_eq_true rfl, Nat.le_of_ble_eq_true rfl⟩) ⟨fun a U g mk q => q, fun U hU hW => ⟨rfl, hU⟩⟩ rfl rfl hl.1 rfl (lv_room (Nat.le_of_ble_eq_true rfl)) dC_placed_45 ⟨Nat.zero_le _, Nat.zero_le _⟩) hS (fun locs hS => ?_)
  refine lv_i2l hx hb dC_placed_48 rfl ?_
  refine lv_ladd hx hb dC_placed_49 ?_
  refine lv_iload hx hb dC_placed_50 (lv_at hl 1 rfl) ?_
  refine lv_iload hx hb dC_placed_52 (lv_at hl 0 rfl) ?_
  refine zc_i (va_runS (As := [.int ((((fC_unsigned a) >>> ((fC_exponentOf z).toInt64 &&& 63)).toInt32) &&& (255 : Int32)), .int ((((fC_baseMantissa z) >>> ((5 : Int32) &&& 31)) - (1 : Int32)) &&& (7 : Int32))]) (rest := [.long (((fC_unsigned a) >>> (((fC_exponentOf z) + (8 : Int32)).toInt64 &&& 63)) + ((fC_below x ((((fC_baseMantissa z) >>> ((5 : Int32) &&& 31)) - (1 : Int32)) &&& (7 : Int32))).toInt64))]) ⟨hx, hb, hml, hown, hq⟩ (kC_below l s.heap ((((fC_unsigned a) >>> ((fC_exponentOf z).toInt64 &&& 63)).toInt32) &&& (255 : Int32)) ((((fC_baseMantissa z) >>> ((5 : Int32) &&& 31)) - (1 : Int32)) &&& (7 : Int32))) (va_cwS 2 hq (wA_S q_67 q_68 q_1 q_69) rfl rfl rfl (by decide +kernel) ⟨Nat.le_of_ble_eq_true rfl, Nat.le_of_ble_eq_true rfl⟩) ⟨fun a U g mk q => q, fun U hU hW => ⟨rfl, hU⟩⟩ rfl rfl hl.1 rfl (lv_room (Nat.le_of_ble_eq_true rfl)) dC_placed_54 ⟨Nat.zero_le _, Nat.zero_le _⟩) hS (fun locs hS => ?_)
  refine lv_i2l hx hb dC_placed_57 rfl ?_
  refine lv_lsub hx hb dC_placed_58 ?_
  refine lv_lstore (lv' := [(8, .long ((((fC_unsigned a) >>> (((fC_exponentOf z) + (8 : Int32)).toInt64 &&& 63)) + ((fC_below x ((((fC_baseMantissa z) >>> ((5 : Int32) &&& 31)) - (1 : Int32)) &&& (7 : Int32))).toInt64)) - ((fC_below ((((fC_unsigned a) >>> ((fC_exponentOf z).toInt64 &&& 63)).toInt32) &&& (255 : Int32)) ((((fC_baseMantissa z) >>> ((5 : Int32) &&& 31)) - (1 : Int32)) &&& (7 : Int32))).toInt64))), (7, .int ((((fC_baseMantissa z) >>> ((5 : Int32) &&& 31)) - (1 : Int32)) &&& (7 : Int32))), (6, .int ((((fC_unsigned a) >>> ((fC_exponentOf z).toInt64 &&& 63)).toInt32) &&& (255 : Int32))), (4, .long (fC_unsigned a)), (3, .int (fC_exponentOf z)), (0, .int z), (1, .int a), (2, .int x)]) hx hb dC_placed_59 hl (by decide) rfl (fun ls hl => ?_)
  refine lv_lload hx hb dC_placed_61 (lv_at hl 0 rfl) ?_
  refine lv_iload_n hx hb dC_placed_63 rfl (lv_at hl 4 rfl) ?_
  refine lv_bipush (v := 8) hx hb dC_placed_64 (by decide) ?_
  refine lv_iadd hx hb dC_placed_66 ?_
  refine lv_lshl hx hb dC_placed_67 rfl ?_
  refine lv_iload_n hx hb dC_placed_68 rfl (lv_at hl 7 rfl) ?_
  refine lv_i2l hx hb dC_placed_69 rfl ?_
  refine lv_iload_n hx hb dC_placed_70 rfl (lv_at hl 4 rfl) ?_
  refine lv_lshl hx hb dC_placed_71 rfl ?_
  refine lv_ladd hx hb dC_placed_72 ?_
  exact W.lret (v := (((((fC_unsigned a) >>> (((fC_exponentOf z) + (8 : Int32)).toInt64 &&& 63)) + ((fC_below x ((((fC_baseMantissa z) >>> ((5 : Int32) &&& 31)) - (1 : Int32)) &&& (7 : Int32))).toInt64)) - ((fC_below ((((fC_unsigned a) >>> ((fC_exponentOf z).toInt64 &&& 63)).toInt32) &&& (255 : Int32)) ((((fC_baseMantissa z) >>> ((5 : Int32) &&& 31)) - (1 : Int32)) &&& (7 : Int32))).toInt64)) <<< (((fC_exponentOf z) + (8 : Int32)).toInt64 &&& 63)) + (x.toInt64 <<< ((fC_exponentOf z).toInt64 &&& 63))) hx hb hr (fun t ht hW => ⟨⟨(((((fC_unsigned a) >>> (((fC_exponentOf z) + (8 : Int32)).toInt64 &&& 63)) + ((fC_below x ((((fC_baseMantissa z) >>> ((5 : Int32) &&& 31)) - (1 : Int32)) &&& (7 : Int32))).toInt64)) - ((fC_below ((((fC_unsigned a) >>> ((fC_exponentOf z).toInt64 &&& 63)).toInt32) &&& (255 : Int32)) ((((fC_baseMantissa z) >>> ((5 : Int32) &&& 31)) - (1 : Int32)) &&& (7 : Int32))).toInt64)) <<< (((fC_exponentOf z) + (8 : Int32)).toInt64 &&& 63)) + (x.toInt64 <<< ((fC_exponentOf z).toInt64 &&& 63)), (), rfl, (by unfold fC_placed; rfl), ht.trans hH⟩, hS.F ht⟩) hS.2.2 dC_placed_73
def fC_baseOf (z : Int32) (a : Int32) : Int64 := (fC_placed z a (fC_baseMantissa z)) &&& (4294967295 : Int64)
set_option maxHeartbeats 4000000 in
set_option maxRecDepth 100000 in
theorem kC_baseOf (l : Launch) (H : Heap) (z : Int32) (a : Int32) : Met l yC_baseOf wC_baseOf { frames := 2, cells := 0, slots := 0, locals := 50 } (va_Pc [.int z, .int a] (fun U => U.heap = H)) (va_Ql (fun v9 (_ : Unit) => v9 = fC_baseOf z a) (fun _ t => t.heap = H) (fun _ => False)) 0 0 (fun _ => False) := by
  refine Met.ofW (cc := cC_baseOf) (maxL := 2) (ret := (some .long)) (by decide) rfl ?_
  intro p e s m args below meth c s₁ B hml hv
  obtain ⟨rfl, hH⟩ := hv
  have hx := B.exec
  have hb := B.bytes
  have hr := B.returns
  have hts := atoms_spec (ws := wC_baseOf) B.pre
  have hq : ∀ w ∈ wA, w.before _ s = true := fun w h => hts w (List.mem_cons_of_mem _ h)
  have hown : s.vm.findClass "CapUnit" = some m.cls := findClass_of_methodNamed B.named
  have hlocks := B.notSynchronized
  have hS : va_S (fun _ => False) s.heap s.heap [] := va_S.rf
  have hl := lv_entry ([.int z, .int a]) (n := 2) (Nat.le_of_ble_eq_true rfl)
  rw [lg_entry_eq]
  generalize (lg_sl ([.int z, .int a]) ++ List.replicate (2 - (lg_sl ([.int z, .int a])).length) Slot.unset).toArray = ls at hl ⊢
  have hl : lv_has ls 2 [(0, .int z), (1, .int a)] := hl
  refine lv_iload_n hx hb dC_baseOf_0 rfl (lv_at hl 0 rfl) ?_
  refine lv_iload_n hx hb dC_baseOf_1 rfl (lv_at hl 1 rfl) ?_
  refine lv_iload_n hx hb dC_baseOf_2 rfl (lv_at hl 0 rfl) ?_
  refine zc_i (va_runS (As := [.int z]) (rest := [.int a, .int z]) ⟨hx, hb, hml, hown, hq⟩ (kC_baseMantissa l s.heap z) (va_cwS 1 hq (wA_S q_54 q_55 q_1 q_56) rfl rfl rfl (by decide +kernel) ⟨Nat.le_of_ble_eq_true rfl, Nat.le_of_ble_eq_true rfl⟩) ⟨fun a U g mk q => q, fun U hU hW => ⟨rfl, hU⟩⟩ rfl rfl hl.1 rfl (lv_room (Nat.le_of_ble_eq_true rfl)) dC_baseOf_3 ⟨Nat.zero_le _, Nat.zero_le _⟩) hS (fun locs hS => ?_)
  refine zc_l (va_runS (As := [.int z, .int a, .int (fC_baseMantissa z)]) (rest := []) ⟨hx, hb, hml, hown, hq⟩ (kC_placed l s.heap z a (fC_baseMantissa z)) (va_cwS 3 hq (wA_S q_57 q_58 q_1 q_59) rfl rfl rfl (by decide +kernel) ⟨Nat.le_of_ble_eq_true rfl, Nat.le_of_ble_eq_true rfl⟩) ⟨fun a U g mk q => q, fun U hU hW => ⟨rfl, hU⟩⟩ rfl rfl hl.1 rfl (lv_room (Nat.le_of_ble_eq_true rfl)) dC_baseOf_6 ⟨Nat.zero_le _, Nat.zero_le _⟩) hS (fun locs hS => ?_)
  refine lv_ldc2 (v := 4294967295) hx hb hown (hts (.constantLong "CapUnit" 147 4294967295) (by decide +kernel)) dC_baseOf_9 ?_
  refine lv_land hx hb dC_baseOf_12 ?_
  exact W.lret (v := (fC_placed z a (fC_baseMantissa z)) &&& (4294967295 : Int64)) hx hb hr (fun t ht hW => ⟨⟨(fC_placed z a (fC_baseMantissa z)) &&& (4294967295 : Int64), (), rfl, (by unfold fC_baseOf; rfl), ht.trans hH⟩, hS.F ht⟩) hS.2.2 dC_baseOf_13
def fC_topOf (z : Int32) (a : Int32) : Int64 := if (25 : Int32) ≤ (fC_exponentOf z) then ((fC_placed z a (fC_topMantissa z)) &&& (8589934591 : Int64)) else (if (((((fC_placed z a (fC_topMantissa z)) &&& (8589934591 : Int64)) >>> ((31 : Int32).toInt64 &&& 63)) - (((fC_placed z a (fC_baseMantissa z)) &&& (4294967295 : Int64)) >>> ((31 : Int32).toInt64 &&& 63))) &&& (3 : Int64)) ≤ (1 : Int64) then ((fC_placed z a (fC_topMantissa z)) &&& (8589934591 : Int64)) else (((fC_placed z a (fC_topMantissa z)) &&& (8589934591 : Int64)) ^^^ (4294967296 : Int64)))
set_option maxHeartbeats 4000000 in
set_option maxRecDepth 100000 in
theorem kC_topOf (l : Launch) (H : Heap) (z : Int32) (a : Int32) : Met l yC_topOf wC_topOf { frames := 2, cells := 0, slots := 0, locals := 50 } (va_Pc [.int z, .int a] (fun U => U.heap = H)) (va_Ql (fun v9 (_ : Unit) => v9 = fC_topOf z a) (fun _ t => t.heap = H) (fun _ => False)) 0 0 (fun _ => False) := by
  refine Met.ofW (cc := cC_topOf) (maxL := 8) (ret := (some .long)) (by decide) rfl ?_
  intro p e s m args below meth c s₁ B hml hv
  obtain ⟨rfl, hH⟩ := hv
  have hx := B.exec
  have hb := B.bytes
  have hr := B.returns
  have hts := atoms_spec (ws := wC_topOf) B.pre
  have hq : ∀ w ∈ wA, w.before _ s = true := fun w h => hts w (List.mem_cons_of_mem _ h)
  have hown : s.vm.findClass "CapUnit" = some m.cls := findClass_of_methodNamed B.named
  have hlocks := B.notSynchronized
  have hS : va_S (fun _ => False) s.heap s.heap [] := va_S.rf
  have hl := lv_entry ([.int z, .int a]) (n := 8) (Nat.le_of_ble_eq_true rfl)
  rw [lg_entry_eq]
  generalize (lg_sl ([.int z, .int a]) ++ List.replicate (8 - (lg_sl ([.int z, .int a])).length) Slot.unset).toArray = ls at hl ⊢
  have hl : lv_has ls 8 [(0, .int z), (1, .int a)] := hl
  refine lv_iload_n hx hb dC_topOf_0 rfl (lv_at hl 0 rfl) ?_
  refine lv_iload_n hx hb dC_topOf_1 rfl (lv_at hl 1 rfl) ?_
  refine lv_iload_n hx hb dC_topOf_2 rfl (lv_at hl 0 rfl) ?_
  refine zc_i (va_runS (As := [.int z]) (rest := [.int a, .int z]) ⟨hx, hb, hml, hown, hq⟩ (kC_topMantissa l s.heap z) (va_cwS 1 hq (wA_S q_51 q_52 q_1 q_53) rfl rfl rfl (by decide +kernel) ⟨Nat.le_of_ble_eq_true rfl, Nat.le_of_ble_eq_true rfl⟩) ⟨fun a U g mk q => q, fun U hU hW => ⟨rfl, hU⟩⟩ rfl rfl hl.1 rfl (lv_room (Nat.le_of_ble_eq_true rfl)) dC_topOf_3 ⟨Nat.zero_le _, Nat.zero_le _⟩) hS (fun locs hS => ?_)
  refine zc_l (va_runS (As := [.int z, .int a, .int (fC_topMantissa z)]) (rest := []) ⟨hx, hb, hml, hown, hq⟩ (kC_placed l s.heap z a (fC_topMantissa z)) (va_cwS 3 hq (wA_S q_57 q_58 q_1 q_59) rfl rfl rfl (by decide +kernel) ⟨Nat.le_of_ble_eq_true rfl, Nat.le_of_ble_eq_true rfl⟩) ⟨fun a U g mk q => q, fun U hU hW => ⟨rfl, hU⟩⟩ rfl rfl hl.1 rfl (lv_room (Nat.le_of_ble_eq_true rfl)) dC_topOf_6 ⟨Nat.zero_le _, Nat.zero_le _⟩) hS (fun locs hS => ?_)
  refine lv_ldc2 (v := 8589934591) hx hb hown (hts (.constantLong "CapUnit" 156 8589934591) (by decide +kernel)) dC_topOf_9 ?_
  refine lv_land hx hb dC_topOf_12 ?_
  refine lv_lstore_n (lv' := [(2, .long ((fC_placed z a (fC_topMantissa z)) &&& (8589934591 : Int64))), (0, .int z), (1, .int a)]) hx hb dC_topOf_13 rfl hl (by decide) rfl (fun ls hl => ?_)
  refine lv_iload_n hx hb dC_topOf_14 rfl (lv_at hl 1 rfl) ?_
  refine lv_iload_n hx hb dC_topOf_15 rfl (lv_at hl 2 rfl) ?_
  refine lv_iload_n hx hb dC_topOf_16 rfl (lv_at hl 1 rfl) ?_
  refine zc_i (va_runS (As := [.int z]) (rest := [.int a, .int z]) ⟨hx, hb, hml, hown, hq⟩ (kC_baseMantissa l s.heap z) (va_cwS 1 hq (wA_S q_54 q_55 q_1 q_56) rfl rfl rfl (by decide +kernel) ⟨Nat.le_of_ble_eq_true rfl, Nat.le_of_ble_eq_true rfl⟩) ⟨fun a U g mk q => q, fun U hU hW => ⟨rfl, hU⟩⟩ rfl rfl hl.1 rfl (lv_room (Nat.le_of_ble_eq_true rfl)) dC_topOf_17 ⟨Nat.zero_le _, Nat.zero_le _⟩) hS (fun locs hS => ?_)
  refine zc_l (va_runS (As := [.int z, .int a, .int (fC_baseMantissa z)]) (rest := []) ⟨hx, hb, hml, hown, hq⟩ (kC_placed l s.heap z a (fC_baseMantissa z)) (va_cwS 3 hq (wA_S q_57 q_58 q_1 q_59) rfl rfl rfl (by decide +kernel) ⟨Nat.le_of_ble_eq_true rfl, Nat.le_of_ble_eq_true rfl⟩) ⟨fun a U g mk q => q, fun U hU hW => ⟨rfl, hU⟩⟩ rfl rfl hl.1 rfl (lv_room (Nat.le_of_ble_eq_true rfl)) dC_topOf_20 ⟨Nat.zero_le _, Nat.zero_le _⟩) hS (fun locs hS => ?_)
  refine lv_ldc2 (v := 4294967295) hx hb hown (hts (.constantLong "CapUnit" 147 4294967295) (by decide +kernel)) dC_topOf_23 ?_
  refine lv_land hx hb dC_topOf_26 ?_
  refine lv_lstore (lv' := [(4, .long ((fC_placed z a (fC_baseMantissa z)) &&& (4294967295 : Int64))), (2, .long ((fC_placed z a (fC_topMantissa z)) &&& (8589934591 : Int64))), (0, .int z), (1, .int a)]) hx hb dC_topOf_27 hl (by decide) rfl (fun ls hl => ?_)
  refine lv_lload_n hx hb dC_topOf_29 rfl (lv_at hl 1 rfl) ?_
  refine lv_bipush (v := 31) hx hb dC_topOf_30 (by decide) ?_
  refine lv_lshr hx hb dC_topOf_32 rfl ?_
  refine lv_lload hx hb dC_topOf_33 (lv_at hl 0 rfl) ?_
  refine lv_bipush (v := 31) hx hb dC_topOf_35 (by decide) ?_
  refine lv_lshr hx hb dC_topOf_37 rfl ?_
  refine lv_lsub hx hb dC_topOf_38 ?_
  refine lv_lstore (lv' := [(6, .long ((((fC_placed z a (fC_topMantissa z)) &&& (8589934591 : Int64)) >>> ((31 : Int32).toInt64 &&& 63)) - (((fC_placed z a (fC_baseMantissa z)) &&& (4294967295 : Int64)) >>> ((31 : Int32).toInt64 &&& 63)))), (4, .long ((fC_placed z a (fC_baseMantissa z)) &&& (4294967295 : Int64))), (2, .long ((fC_placed z a (fC_topMantissa z)) &&& (8589934591 : Int64))), (0, .int z), (1, .int a)]) hx hb dC_topOf_39 hl (by decide) rfl (fun ls hl => ?_)
  refine lv_iload_n hx hb dC_topOf_41 rfl (lv_at hl 3 rfl) ?_
  refine zc_i (va_runS (As := [.int z]) (rest := []) ⟨hx, hb, hml, hown, hq⟩ (kC_exponentOf l s.heap z) (va_cwS 1 hq (wA_S q_60 q_61 q_1 q_62) rfl rfl rfl (by decide +kernel) ⟨Nat.le_of_ble_eq_true rfl, Nat.le_of_ble_eq_true rfl⟩) ⟨fun a U g mk q => q, fun U hU hW => ⟨rfl, hU⟩⟩ rfl rfl hl.1 rfl (lv_room (Nat.le_of_ble_eq_true rfl)) dC_topOf_42 ⟨Nat.zero_le _, Nat.zero_le _⟩) hS (fun locs hS => ?_)
  refine lv_bipush (v := 25) hx hb dC_topOf_45 (by decide) ?_
  refine lv_icmp_ge (tgt := 67) hx hb dC_topOf_47 rfl (fun h1 => ?_) (fun h1 => ?_)
  · refine lv_lload_n hx hb dC_topOf_67 rfl (lv_at hl 2 rfl) ?_
    exact W.lret (v := (fC_placed z a (fC_topMantissa z)) &&& (8589934591 : Int64)) hx hb hr (fun t ht hW => ⟨⟨(fC_placed z a (fC_topMantissa z)) &&& (8589934591 : Int64), (), rfl, (by unfold fC_topOf; rw [if_pos h1]), ht.trans hH⟩, hS.F ht⟩) hS.2.2 dC_topOf_68
  · refine lv_lload hx hb dC_topOf_50 (lv_at hl 0 rfl) ?_
    refine lv_ldc2 (v := 3) hx hb hown (hts (.constantLong "CapUnit" 158 3) (by decide +kernel)) dC_topOf_52 ?_
    refine lv_land hx hb dC_topOf_55 ?_
    refine lv_lconst (v := 1) hx hb dC_topOf_56 (by decide) ?_
    refine W.lcmp hx hb dC_topOf_57 ?_
    refine lv_if_le (tgt := 67) hx hb dC_topOf_58 rfl (fun h2 => ?_) (fun h2 => ?_)
    · have h2 := (lg_cmp_le _ _).mp h2
      refine lv_lload_n hx hb dC_topOf_67 rfl (lv_at hl 2 rfl) ?_
      exact W.lret (v := (fC_placed z a (fC_topMantissa z)) &&& (8589934591 : Int64)) hx hb hr (fun t ht hW => ⟨⟨(fC_placed z a (fC_topMantissa z)) &&& (8589934591 : Int64), (), rfl, (by unfold fC_topOf; rw [if_neg h1, if_pos h2]), ht.trans hH⟩, hS.F ht⟩) hS.2.2 dC_topOf_68
    · have h2 := mt (lg_cmp_le _ _).mpr h2
      refine lv_lload_n hx hb dC_topOf_61 rfl (lv_at hl 2 rfl) ?_
      refine lv_ldc2 (v := 4294967296) hx hb hown (hts (.constantLong "CapUnit" 81 4294967296) (by decide +kernel)) dC_topOf_62 ?_
      refine lv_lxor hx hb dC_topOf_65 ?_
      exact W.lret (v := ((fC_placed z a (fC_topMantissa z)) &&& (8589934591 : Int64)) ^^^ (4294967296 : Int64)) hx hb hr (fun t ht hW => ⟨⟨((fC_placed z a (fC_topMantissa z)) &&& (8589934591 : Int64)) ^^^ (4294967296 : Int64), (), rfl, (by unfold fC_topOf; rw [if_neg h1, if_neg h2]), ht.trans hH⟩, hS.F ht⟩) hS.2.2 dC_topOf_66
def fC_roundedDown (n : Int64) (x : Int32) : Int64 := n &&& (-((1 : Int64) <<< ((x + (3 : Int32)).toInt64 &&& 63)))
set_option maxHeartbeats 4000000 in
set_option maxRecDepth 100000 in
theorem kC_roundedDown (l : Launch) (H : Heap) (n : Int64) (x : Int32) : Met l yC_roundedDown wC_roundedDown { frames := 0, cells := 0, slots := 0, locals := 0 } (va_Pc [.long n, .int x] (fun U => U.heap = H)) (va_Ql (fun v9 (_ : Unit) => v9 = fC_roundedDown n x) (fun _ t => t.heap = H) (fun _ => False)) 0 0 (fun _ => False) := by
  refine Met.ofW (cc := cC_roundedDown) (maxL := 3) (ret := (some .long)) (by decide) rfl ?_
  intro p e s m args below meth c s₁ B hml hv
  obtain ⟨rfl, hH⟩ := hv
  have hx := B.exec
  have hb := B.bytes
  have hr := B.returns
  have hts := atoms_spec (ws := wC_roundedDown) B.pre
  have hq : ∀ w ∈ wA, w.before _ s = true := fun w h => hts w (List.mem_cons_of_mem _ h)
  have hown : s.vm.findClass "CapUnit" = some m.cls := findClass_of_methodNamed B.named
  have hlocks := B.notSynchronized
  have hS : va_S (fun _ => False) s.heap s.heap [] := va_S.rf
  have hl := lv_entry ([.long n, .int x]) (n := 3) (Nat.le_of_ble_eq_true rfl)
  rw [lg_entry_eq]
  generalize (lg_sl ([.long n, .int x]) ++ List.replicate (3 - (lg_sl ([.long n, .int x])).length) Slot.unset).toArray = ls at hl ⊢
  have hl : lv_has ls 3 [(0, .long n), (2, .int x)] := hl
  refine lv_lload_n hx hb dC_roundedDown_0 rfl (lv_at hl 0 rfl) ?_
  refine lv_lconst (v := 1) hx hb dC_roundedDown_1 (by decide) ?_
  refine lv_iload_n hx hb dC_roundedDown_2 rfl (lv_at hl 1 rfl) ?_
  refine lv_iconst (v := 3) hx hb dC_roundedDown_3 (by decide) ?_
  refine lv_iadd hx hb dC_roundedDown_4 ?_
  refine lv_lshl hx hb dC_roundedDown_5 rfl ?_
  refine lv_lneg hx hb dC_roundedDown_6 ?_
  refine lv_land hx hb dC_roundedDown_7 ?_
  exact W.lret (v := n &&& (-((1 : Int64) <<< ((x + (3 : Int32)).toInt64 &&& 63)))) hx hb hr (fun t ht hW => ⟨⟨n &&& (-((1 : Int64) <<< ((x + (3 : Int32)).toInt64 &&& 63))), (), rfl, (by unfold fC_roundedDown; rfl), ht.trans hH⟩, hS.F ht⟩) hS.2.2 dC_roundedDown_8
def fC_roundedUp (n : Int64) (x : Int32) : Int64 := fC_roundedDown ((n + ((1 : Int64) <<< ((x + (3 : Int32)).toInt64 &&& 63))) - (1 : Int64)) x
set_option maxHeartbeats 4000000 in
set_option maxRecDepth 100000 in
theorem kC_roundedUp (l : Launch) (H : Heap) (n : Int64) (x : Int32) : Met l yC_roundedUp wC_roundedUp { frames := 1, cells := 0, slots := 0, locals := 22 } (va_Pc [.long n, .int x] (fun U => U.heap = H)) (va_Ql (fun v9 (_ : Unit) => v9 = fC_roundedUp n x) (fun _ t => t.heap = H) (fun _ => False)) 0 0 (fun _ => False) := by
  refine Met.ofW (cc := cC_roundedUp) (maxL := 3) (ret := (some .long)) (by decide) rfl ?_
  intro p e s m args below meth c s₁ B hml hv
  obtain ⟨rfl, hH⟩ := hv
  have hx := B.exec
  have hb := B.bytes
  have hr := B.returns
  have hts := atoms_spec (ws := wC_roundedUp) B.pre
  have hq : ∀ w ∈ wA, w.before _ s = true := fun w h => hts w (List.mem_cons_of_mem _ h)
  have hown : s.vm.findClass "CapUnit" = some m.cls := findClass_of_methodNamed B.named
  have hlocks := B.notSynchronized
  have hS : va_S (fun _ => False) s.heap s.heap [] := va_S.rf
  have hl := lv_entry ([.long n, .int x]) (n := 3) (Nat.le_of_ble_eq_true rfl)
  rw [lg_entry_eq]
  generalize (lg_sl ([.long n, .int x]) ++ List.replicate (3 - (lg_sl ([.long n, .int x])).length) Slot.unset).toArray = ls at hl ⊢
  have hl : lv_has ls 3 [(0, .long n), (2, .int x)] := hl
  refine lv_lload_n hx hb dC_roundedUp_0 rfl (lv_at hl 0 rfl) ?_
  refine lv_lconst (v := 1) hx hb dC_roundedUp_1 (by decide) ?_
  refine lv_iload_n hx hb dC_roundedUp_2 rfl (lv_at hl 1 rfl) ?_
  refine lv_iconst (v := 3) hx hb dC_roundedUp_3 (by decide) ?_
  refine lv_iadd hx hb dC_roundedUp_4 ?_
  refine lv_lshl hx hb dC_roundedUp_5 rfl ?_
  refine lv_ladd hx hb dC_roundedUp_6 ?_
  refine lv_lconst (v := 1) hx hb dC_roundedUp_7 (by decide) ?_
  refine lv_lsub hx hb dC_roundedUp_8 ?_
  refine lv_iload_n hx hb dC_roundedUp_9 rfl (lv_at hl 1 rfl) ?_
  refine zc_l (va_runS (As := [.long ((n + ((1 : Int64) <<< ((x + (3 : Int32)).toInt64 &&& 63))) - (1 : Int64)), .int x]) (rest := []) ⟨hx, hb, hml, hown, hq⟩ (kC_roundedDown l s.heap ((n + ((1 : Int64) <<< ((x + (3 : Int32)).toInt64 &&& 63))) - (1 : Int64)) x) (va_cwS 2 hq (wA_S q_227 q_228 q_1 q_229) rfl rfl rfl (by decide +kernel) ⟨Nat.le_of_ble_eq_true rfl, Nat.le_of_ble_eq_true rfl⟩) ⟨fun a U g mk q => q, fun U hU hW => ⟨rfl, hU⟩⟩ rfl rfl hl.1 rfl (lv_room (Nat.le_of_ble_eq_true rfl)) dC_roundedUp_10 ⟨Nat.zero_le _, Nat.zero_le _⟩) hS (fun locs hS => ?_)
  exact W.lret (v := fC_roundedDown ((n + ((1 : Int64) <<< ((x + (3 : Int32)).toInt64 &&& 63))) - (1 : Int64)) x) hx hb hr (fun t ht hW => ⟨⟨fC_roundedDown ((n + ((1 : Int64) <<< ((x + (3 : Int32)).toInt64 &&& 63))) - (1 : Int64)) x, (), rfl, (by unfold fC_roundedUp; rfl), ht.trans hH⟩, hS.F ht⟩) hS.2.2 dC_roundedUp_13
end
section
/-- as Met.ofW, for a method of a class some of whose other methods the machine runs by an entry (Math): its own name is plain -/
theorem zm_ofWF {l : Launch} {y : MethodName} {ws ws' : List Cond} {rm : Room} {Pc : Array Value → State → Prop} {Qc : Array Value → State → Outcome → State → Prop} {mc ms : Nat} {free : Addr → Prop} {cc : ByteArray} {maxL : Nat} {ret : Option FieldType}
    (hy : plainFor y = true) (hw : ws = Cond.code y cc maxL ret :: ws')
    (body : ∀ p e s m args below meth c s₁, BodyLoose p l y (headSpec ws rm) cc maxL ret e s m args below meth c s₁ → c.maxLocals = maxL → Pc args s →
      W p l e (headSpec ws rm).room s m args below meth c s.heap [] 0 0 (MQ below Qc args s mc ms free) (entryFrame m args maxL)) : Met l y ws rm Pc Qc mc ms free := by
  refine MetFree.of_bodySF (code := cc) (maxLocals := maxL) (ret := ret) hy ?_ ?_
  · intro args s m h hn
    obtain ⟨meth, c, h1, h2, h3, h4, h5, h6, -, -⟩ := Cond.code_spec hn (atoms_spec (ws := ws) h _ (by rw [hw]; exact List.mem_cons_self))
    exact ⟨meth, c, h1, h2, h3, h4, h5, h6⟩
  · intro p e s m args below meth c s₁ B hml hP _
    have hh0 : s₁.heap = s.heap := by rw [B.state]; rfl
    obtain ⟨t, a1, o, b1, b2, b3⟩ := body p e s m args below meth c s₁ B hml hP s₁ hh0 (Stand.of_body B)
    exact ⟨t, o, a1, b1, b2, ⟨b3.1, b3.2⟩⟩

def fJ_floorMod (x : Int64) (y : Int64) : Int64 := if (0 : Int64) ≤ (x ^^^ y) then (x - x / y * y) else (if (x - x / y * y) = (0 : Int64) then (x - x / y * y) else ((x - x / y * y) + y))
set_option maxHeartbeats 4000000 in
set_option maxRecDepth 100000 in
theorem kJ_floorMod (l : Launch) (H : Heap) (x : Int64) (y : Int64) (hy0 : ¬ y = 0) : Met l yJ_floorMod wJ_floorMod { frames := 0, cells := 0, slots := 0, locals := 0 } (va_Pc [.long x, .long y] (fun U => U.heap = H)) (va_Ql (fun v9 (_ : Unit) => v9 = fJ_floorMod x y) (fun _ t => t.heap = H) (fun _ => False)) 0 0 (fun _ => False) := by
  refine zm_ofWF (cc := cJ_floorMod) (maxL := 6) (ret := (some .long)) (by decide +kernel) rfl ?_
  intro p e s m args below meth c s₁ B hml hv
  obtain ⟨rfl, hH⟩ := hv
  have hx := B.exec
  have hb := B.bytes
  have hr := B.returns
  have hts := atoms_spec (ws := wJ_floorMod) B.pre
  have hq : ∀ w ∈ wA, w.before _ s = true := fun w h => hts w (List.mem_cons_of_mem _ h)
  have hown : s.vm.findClass "java/lang/Math" = some m.cls := findClass_of_methodNamed B.named
  have hlocks := B.notSynchronized
  have hS : va_S (fun _ => False) s.heap s.heap [] := va_S.rf
  have hl := lv_entry ([.long x, .long y]) (n := 6) (Nat.le_of_ble_eq_true rfl)
  rw [lg_entry_eq]
  generalize (lg_sl ([.long x, .long y]) ++ List.replicate (6 - (lg_sl ([.long x, .long y])).length) Slot.unset).toArray = ls at hl ⊢
  have hl : lv_has ls 6 [(0, .long x), (2, .long y)] := hl
  refine lv_lload_n hx hb dJ_floorMod_0 rfl (lv_at hl 0 rfl) ?_
  refine lv_lload_n hx hb dJ_floorMod_1 rfl (lv_at hl 1 rfl) ?_
  refine lv_lrem hx hb dJ_floorMod_2 hy0 ?_
  refine lv_lstore (lv' := [(4, .long (x - x / y * y)), (0, .long x), (2, .long y)]) hx hb dJ_floorMod_3 hl (by decide) rfl (fun ls hl => ?_)
  refine lv_lload_n hx hb dJ_floorMod_5 rfl (lv_at hl 1 rfl) ?_
  refine lv_lload_n hx hb dJ_floorMod_6 rfl (lv_at hl 2 rfl) ?_
  refine lv_lxor hx hb dJ_floorMod_7 ?_
  refine lv_lconst (v := 0) hx hb dJ_floorMod_8 (by decide) ?_
  refine W.lcmp hx hb dJ_floorMod_9 ?_
  refine lv_if_ge (tgt := 25) hx hb dJ_floorMod_10 rfl (fun h1 => ?_) (fun h1 => ?_)
  · have h1 := (lg_cmp_ge _ _).mp h1
    refine lv_lload hx hb dJ_floorMod_25 (lv_at hl 0 rfl) ?_
    exact W.lret (v := x - x / y * y) hx hb hr (fun t ht hW => ⟨⟨x - x / y * y, (), rfl, (by unfold fJ_floorMod; rw [if_pos h1]), ht.trans hH⟩, hS.F ht⟩) hS.2.2 dJ_floorMod_27
  · have h1 := mt (lg_cmp_ge _ _).mpr h1
    refine lv_lload hx hb dJ_floorMod_13 (lv_at hl 0 rfl) ?_
    refine lv_lconst (v := 0) hx hb dJ_floorMod_15 (by decide) ?_
    refine W.lcmp hx hb dJ_floorMod_16 ?_
    refine lv_if_eq (tgt := 25) hx hb dJ_floorMod_17 rfl (fun h2 => ?_) (fun h2 => ?_)
    · have h2 := (lg_cmp_eq _ _).mp h2
      refine lv_lload hx hb dJ_floorMod_25 (lv_at hl 0 rfl) ?_
      exact W.lret (v := x - x / y * y) hx hb hr (fun t ht hW => ⟨⟨x - x / y * y, (), rfl, (by unfold fJ_floorMod; rw [if_neg h1, if_pos h2]), ht.trans hH⟩, hS.F ht⟩) hS.2.2 dJ_floorMod_27
    · have h2 := mt (lg_cmp_eq _ _).mpr h2
      refine lv_lload hx hb dJ_floorMod_20 (lv_at hl 0 rfl) ?_
      refine lv_lload_n hx hb dJ_floorMod_22 rfl (lv_at hl 2 rfl) ?_
      refine lv_ladd hx hb dJ_floorMod_23 ?_
      exact W.lret (v := (x - x / y * y) + y) hx hb hr (fun t ht hW => ⟨⟨(x - x / y * y) + y, (), rfl, (by unfold fJ_floorMod; rw [if_neg h1, if_neg h2]), ht.trans hH⟩, hS.F ht⟩) hS.2.2 dJ_floorMod_24
def fM_low (n : Int32) : Int64 := n.toInt64 &&& (4294967295 : Int64)
set_option maxHeartbeats 4000000 in
set_option maxRecDepth 100000 in
theorem kM_low (l : Launch) (H : Heap) (n : Int32) : Met l yM_low wM_low { frames := 0, cells := 0, slots := 0, locals := 0 } (va_Pc [.int n] (fun U => U.heap = H)) (va_Ql (fun v9 (_ : Unit) => v9 = fM_low n) (fun _ t => t.heap = H) (fun _ => False)) 0 0 (fun _ => False) := by
  refine Met.ofW (cc := cM_low) (maxL := 1) (ret := (some .long)) (by decide) rfl ?_
  intro p e s m args below meth c s₁ B hml hv
  obtain ⟨rfl, hH⟩ := hv
  have hx := B.exec
  have hb := B.bytes
  have hr := B.returns
  have hts := atoms_spec (ws := wM_low) B.pre
  have hq : ∀ w ∈ wA, w.before _ s = true := fun w h => hts w (List.mem_cons_of_mem _ h)
  have hown : s.vm.findClass "CapUnitModel" = some m.cls := findClass_of_methodNamed B.named
  have hlocks := B.notSynchronized
  have hS : va_S (fun _ => False) s.heap s.heap [] := va_S.rf
  have hl := lv_entry ([.int n]) (n := 1) (Nat.le_of_ble_eq_true rfl)
  rw [lg_entry_eq]
  generalize (lg_sl ([.int n]) ++ List.replicate (1 - (lg_sl ([.int n])).length) Slot.unset).toArray = ls at hl ⊢
  have hl : lv_has ls 1 [(0, .int n)] := hl
  refine lv_iload_n hx hb dM_low_0 rfl (lv_at hl 0 rfl) ?_
  refine lv_i2l hx hb dM_low_1 rfl ?_
  refine lv_ldc2 (v := 4294967295) hx hb hown (hts (.constantLong "CapUnitModel" 35 4294967295) (by decide +kernel)) dM_low_2 ?_
  refine lv_land hx hb dM_low_5 ?_
  exact W.lret (v := n.toInt64 &&& (4294967295 : Int64)) hx hb hr (fun t ht hW => ⟨⟨n.toInt64 &&& (4294967295 : Int64), (), rfl, (by unfold fM_low; rfl), ht.trans hH⟩, hS.F ht⟩) hS.2.2 dM_low_6
def fM_perms (z : Int32) : Int32 := (z.toUInt32 >>> ((20 : Int32).toUInt32 &&& Int32.toUInt32 31)).toInt32
set_option maxHeartbeats 4000000 in
set_option maxRecDepth 100000 in
theorem kM_perms (l : Launch) (H : Heap) (z : Int32) : Met l yM_perms wM_perms { frames := 0, cells := 0, slots := 0, locals := 0 } (va_Pc [.int z] (fun U => U.heap = H)) (va_Qi (fun v9 (_ : Unit) => v9 = fM_perms z) (fun _ t => t.heap = H) (fun _ => False)) 0 0 (fun _ => False) := by
  refine Met.ofW (cc := cM_perms) (maxL := 1) (ret := (some .int)) (by decide) rfl ?_
  intro p e s m args below meth c s₁ B hml hv
  obtain ⟨rfl, hH⟩ := hv
  have hx := B.exec
  have hb := B.bytes
  have hr := B.returns
  have hts := atoms_spec (ws := wM_perms) B.pre
  have hq : ∀ w ∈ wA, w.before _ s = true := fun w h => hts w (List.mem_cons_of_mem _ h)
  have hown : s.vm.findClass "CapUnitModel" = some m.cls := findClass_of_methodNamed B.named
  have hlocks := B.notSynchronized
  have hS : va_S (fun _ => False) s.heap s.heap [] := va_S.rf
  have hl := lv_entry ([.int z]) (n := 1) (Nat.le_of_ble_eq_true rfl)
  rw [lg_entry_eq]
  generalize (lg_sl ([.int z]) ++ List.replicate (1 - (lg_sl ([.int z])).length) Slot.unset).toArray = ls at hl ⊢
  have hl : lv_has ls 1 [(0, .int z)] := hl
  refine lv_iload_n hx hb dM_perms_0 rfl (lv_at hl 0 rfl) ?_
  refine lv_bipush (v := 20) hx hb dM_perms_1 (by decide) ?_
  refine lv_iushr hx hb dM_perms_3 rfl ?_
  exact W.iret (v := (z.toUInt32 >>> ((20 : Int32).toUInt32 &&& Int32.toUInt32 31)).toInt32) hx hb hr (fun t ht hW => ⟨⟨(z.toUInt32 >>> ((20 : Int32).toUInt32 &&& Int32.toUInt32 31)).toInt32, (), rfl, (by unfold fM_perms; rfl), ht.trans hH⟩, hS.F ht⟩) hS.2.2 dM_perms_4
def fM_type (z : Int32) : Int32 := (z >>> ((16 : Int32) &&& 31)) &&& (15 : Int32)
set_option maxHeartbeats 4000000 in
set_option maxRecDepth 100000 in
theorem kM_type (l : Launch) (H : Heap) (z : Int32) : Met l yM_type wM_type { frames := 0, cells := 0, slots := 0, locals := 0 } (va_Pc [.int z] (fun U => U.heap = H)) (va_Qi (fun v9 (_ : Unit) => v9 = fM_type z) (fun _ t => t.heap = H) (fun _ => False)) 0 0 (fun _ => False) := by
  refine Met.ofW (cc := cM_type) (maxL := 1) (ret := (some .int)) (by decide) rfl ?_
  intro p e s m args below meth c s₁ B hml hv
  obtain ⟨rfl, hH⟩ := hv
  have hx := B.exec
  have hb := B.bytes
  have hr := B.returns
  have hts := atoms_spec (ws := wM_type) B.pre
  have hq : ∀ w ∈ wA, w.before _ s = true := fun w h => hts w (List.mem_cons_of_mem _ h)
  have hown : s.vm.findClass "CapUnitModel" = some m.cls := findClass_of_methodNamed B.named
  have hlocks := B.notSynchronized
  have hS : va_S (fun _ => False) s.heap s.heap [] := va_S.rf
  have hl := lv_entry ([.int z]) (n := 1) (Nat.le_of_ble_eq_true rfl)
  rw [lg_entry_eq]
  generalize (lg_sl ([.int z]) ++ List.replicate (1 - (lg_sl ([.int z])).length) Slot.unset).toArray = ls at hl ⊢
  have hl : lv_has ls 1 [(0, .int z)] := hl
  refine lv_iload_n hx hb dM_type_0 rfl (lv_at hl 0 rfl) ?_
  refine lv_bipush (v := 16) hx hb dM_type_1 (by decide) ?_
  refine lv_ishr hx hb dM_type_3 ?_
  refine lv_bipush (v := 15) hx hb dM_type_4 (by decide) ?_
  refine lv_iand hx hb dM_type_6 ?_
  exact W.iret (v := (z >>> ((16 : Int32) &&& 31)) &&& (15 : Int32)) hx hb hr (fun t ht hW => ⟨⟨(z >>> ((16 : Int32) &&& 31)) &&& (15 : Int32), (), rfl, (by unfold fM_type; rfl), ht.trans hH⟩, hS.F ht⟩) hS.2.2 dM_type_7
def fM_withType (z : Int32) (y : Int32) : Int32 := (z &&& (-983041 : Int32)) ||| (y <<< ((16 : Int32) &&& 31))
set_option maxHeartbeats 4000000 in
set_option maxRecDepth 100000 in
theorem kM_withType (l : Launch) (H : Heap) (z : Int32) (y : Int32) : Met l yM_withType wM_withType { frames := 0, cells := 0, slots := 0, locals := 0 } (va_Pc [.int z, .int y] (fun U => U.heap = H)) (va_Qi (fun v9 (_ : Unit) => v9 = fM_withType z y) (fun _ t => t.heap = H) (fun _ => False)) 0 0 (fun _ => False) := by
  refine Met.ofW (cc := cM_withType) (maxL := 2) (ret := (some .int)) (by decide) rfl ?_
  intro p e s m args below meth c s₁ B hml hv
  obtain ⟨rfl, hH⟩ := hv
  have hx := B.exec
  have hb := B.bytes
  have hr := B.returns
  have hts := atoms_spec (ws := wM_withType) B.pre
  have hq : ∀ w ∈ wA, w.before _ s = true := fun w h => hts w (List.mem_cons_of_mem _ h)
  have hown : s.vm.findClass "CapUnitModel" = some m.cls := findClass_of_methodNamed B.named
  have hlocks := B.notSynchronized
  have hS : va_S (fun _ => False) s.heap s.heap [] := va_S.rf
  have hl := lv_entry ([.int z, .int y]) (n := 2) (Nat.le_of_ble_eq_true rfl)
  rw [lg_entry_eq]
  generalize (lg_sl ([.int z, .int y]) ++ List.replicate (2 - (lg_sl ([.int z, .int y])).length) Slot.unset).toArray = ls at hl ⊢
  have hl : lv_has ls 2 [(0, .int z), (1, .int y)] := hl
  refine lv_iload_n hx hb dM_withType_0 rfl (lv_at hl 0 rfl) ?_
  refine lv_ldc (v := -983041) hx hb hown (hts (.constant "CapUnitModel" 37 (-983041)) (by decide +kernel)) dM_withType_1 ?_
  refine lv_iand hx hb dM_withType_3 ?_
  refine lv_iload_n hx hb dM_withType_4 rfl (lv_at hl 1 rfl) ?_
  refine lv_bipush (v := 16) hx hb dM_withType_5 (by decide) ?_
  refine lv_ishl hx hb dM_withType_7 ?_
  refine lv_ior hx hb dM_withType_8 ?_
  exact W.iret (v := (z &&& (-983041 : Int32)) ||| (y <<< ((16 : Int32) &&& 31))) hx hb hr (fun t ht hW => ⟨⟨(z &&& (-983041 : Int32)) ||| (y <<< ((16 : Int32) &&& 31)), (), rfl, (by unfold fM_withType; rfl), ht.trans hH⟩, hS.F ht⟩) hS.2.2 dM_withType_9
def fM_withPerms (z : Int32) (y : Int32) : Int32 := (z &&& (1048575 : Int32)) ||| (y <<< ((20 : Int32) &&& 31))
set_option maxHeartbeats 4000000 in
set_option maxRecDepth 100000 in
theorem kM_withPerms (l : Launch) (H : Heap) (z : Int32) (y : Int32) : Met l yM_withPerms wM_withPerms { frames := 0, cells := 0, slots := 0, locals := 0 } (va_Pc [.int z, .int y] (fun U => U.heap = H)) (va_Qi (fun v9 (_ : Unit) => v9 = fM_withPerms z y) (fun _ t => t.heap = H) (fun _ => False)) 0 0 (fun _ => False) := by
  refine Met.ofW (cc := cM_withPerms) (maxL := 2) (ret := (some .int)) (by decide) rfl ?_
  intro p e s m args below meth c s₁ B hml hv
  obtain ⟨rfl, hH⟩ := hv
  have hx := B.exec
  have hb := B.bytes
  have hr := B.returns
  have hts := atoms_spec (ws := wM_withPerms) B.pre
  have hq : ∀ w ∈ wA, w.before _ s = true := fun w h => hts w (List.mem_cons_of_mem _ h)
  have hown : s.vm.findClass "CapUnitModel" = some m.cls := findClass_of_methodNamed B.named
  have hlocks := B.notSynchronized
  have hS : va_S (fun _ => False) s.heap s.heap [] := va_S.rf
  have hl := lv_entry ([.int z, .int y]) (n := 2) (Nat.le_of_ble_eq_true rfl)
  rw [lg_entry_eq]
  generalize (lg_sl ([.int z, .int y]) ++ List.replicate (2 - (lg_sl ([.int z, .int y])).length) Slot.unset).toArray = ls at hl ⊢
  have hl : lv_has ls 2 [(0, .int z), (1, .int y)] := hl
  refine lv_iload_n hx hb dM_withPerms_0 rfl (lv_at hl 0 rfl) ?_
  refine lv_ldc (v := 1048575) hx hb hown (hts (.constant "CapUnitModel" 38 1048575) (by decide +kernel)) dM_withPerms_1 ?_
  refine lv_iand hx hb dM_withPerms_3 ?_
  refine lv_iload_n hx hb dM_withPerms_4 rfl (lv_at hl 1 rfl) ?_
  refine lv_bipush (v := 20) hx hb dM_withPerms_5 (by decide) ?_
  refine lv_ishl hx hb dM_withPerms_7 ?_
  refine lv_ior hx hb dM_withPerms_8 ?_
  exact W.iret (v := (z &&& (1048575 : Int32)) ||| (y <<< ((20 : Int32) &&& 31))) hx hb hr (fun t ht hW => ⟨⟨(z &&& (1048575 : Int32)) ||| (y <<< ((20 : Int32) &&& 31)), (), rfl, (by unfold fM_withPerms; rfl), ht.trans hH⟩, hS.F ht⟩) hS.2.2 dM_withPerms_9
def fM_scale (z : Int32) : Int32 := if ((z >>> ((14 : Int32) &&& 31)) &&& (1 : Int32)) = 0 then (0 : Int32) else (if (26 : Int32) ≤ (((8 : Int32) * ((z >>> ((8 : Int32) &&& 31)) &&& (7 : Int32))) + (z &&& (7 : Int32))) then (26 : Int32) else (((8 : Int32) * ((z >>> ((8 : Int32) &&& 31)) &&& (7 : Int32))) + (z &&& (7 : Int32))))
set_option maxHeartbeats 4000000 in
set_option maxRecDepth 100000 in
theorem kM_scale (l : Launch) (H : Heap) (z : Int32) : Met l yM_scale wM_scale { frames := 0, cells := 0, slots := 0, locals := 0 } (va_Pc [.int z] (fun U => U.heap = H)) (va_Qi (fun v9 (_ : Unit) => v9 = fM_scale z) (fun _ t => t.heap = H) (fun _ => False)) 0 0 (fun _ => False) := by
  refine Met.ofW (cc := cM_scale) (maxL := 2) (ret := (some .int)) (by decide) rfl ?_
  intro p e s m args below meth c s₁ B hml hv
  obtain ⟨rfl, hH⟩ := hv
  have hx := B.exec
  have hb := B.bytes
  have hr := B.returns
  have hts := atoms_spec (ws := wM_scale) B.pre
  have hq : ∀ w ∈ wA, w.before _ s = true := fun w h => hts w (List.mem_cons_of_mem _ h)
  have hown : s.vm.findClass "CapUnitModel" = some m.cls := findClass_of_methodNamed B.named
  have hlocks := B.notSynchronized
  have hS : va_S (fun _ => False) s.heap s.heap [] := va_S.rf
  have hl := lv_entry ([.int z]) (n := 2) (Nat.le_of_ble_eq_true rfl)
  rw [lg_entry_eq]
  generalize (lg_sl ([.int z]) ++ List.replicate (2 - (lg_sl ([.int z])).length) Slot.unset).toArray = ls at hl ⊢
  have hl : lv_has ls 2 [(0, .int z)] := hl
  refine lv_bipush (v := 8) hx hb dM_scale_0 (by decide) ?_
  refine lv_iload_n hx hb dM_scale_2 rfl (lv_at hl 0 rfl) ?_
  refine lv_bipush (v := 8) hx hb dM_scale_3 (by decide) ?_
  refine lv_ishr hx hb dM_scale_5 ?_
  refine lv_bipush (v := 7) hx hb dM_scale_6 (by decide) ?_
  refine lv_iand hx hb dM_scale_8 ?_
  refine lv_imul hx hb dM_scale_9 ?_
  refine lv_iload_n hx hb dM_scale_10 rfl (lv_at hl 0 rfl) ?_
  refine lv_bipush (v := 7) hx hb dM_scale_11 (by decide) ?_
  refine lv_iand hx hb dM_scale_13 ?_
  refine lv_iadd hx hb dM_scale_14 ?_
  refine lv_istore_n (lv' := [(1, .int (((8 : Int32) * ((z >>> ((8 : Int32) &&& 31)) &&& (7 : Int32))) + (z &&& (7 : Int32)))), (0, .int z)]) hx hb dM_scale_15 rfl hl (by decide) rfl (fun ls hl => ?_)
  refine lv_iload_n hx hb dM_scale_16 rfl (lv_at hl 1 rfl) ?_
  refine lv_bipush (v := 14) hx hb dM_scale_17 (by decide) ?_
  refine lv_ishr hx hb dM_scale_19 ?_
  refine lv_iconst (v := 1) hx hb dM_scale_20 (by decide) ?_
  refine lv_iand hx hb dM_scale_21 ?_
  refine lv_if_ne (tgt := 29) hx hb dM_scale_22 rfl (fun h1 => ?_) (fun h1 => ?_)
  · refine lv_iload_n hx hb dM_scale_29 rfl (lv_at hl 0 rfl) ?_
    refine lv_bipush (v := 26) hx hb dM_scale_30 (by decide) ?_
    refine lv_icmp_ge (tgt := 39) hx hb dM_scale_32 rfl (fun h2 => ?_) (fun h2 => ?_)
    · refine lv_bipush (v := 26) hx hb dM_scale_39 (by decide) ?_
      exact W.iret (v := (26 : Int32)) hx hb hr (fun t ht hW => ⟨⟨(26 : Int32), (), rfl, (by unfold fM_scale; rw [if_neg h1, if_pos h2]), ht.trans hH⟩, hS.F ht⟩) hS.2.2 dM_scale_41
    · refine lv_iload_n hx hb dM_scale_35 rfl (lv_at hl 0 rfl) ?_
      refine lv_goto (tgt := 41) hx hb dM_scale_36 rfl ?_
      exact W.iret (v := ((8 : Int32) * ((z >>> ((8 : Int32) &&& 31)) &&& (7 : Int32))) + (z &&& (7 : Int32))) hx hb hr (fun t ht hW => ⟨⟨((8 : Int32) * ((z >>> ((8 : Int32) &&& 31)) &&& (7 : Int32))) + (z &&& (7 : Int32)), (), rfl, (by unfold fM_scale; rw [if_neg h1, if_neg h2]), ht.trans hH⟩, hS.F ht⟩) hS.2.2 dM_scale_41
  · refine lv_iconst (v := 0) hx hb dM_scale_25 (by decide) ?_
    refine lv_goto (tgt := 41) hx hb dM_scale_26 rfl ?_
    exact W.iret (v := (0 : Int32)) hx hb hr (fun t ht hW => ⟨⟨(0 : Int32), (), rfl, (by unfold fM_scale; rw [if_pos h1]), ht.trans hH⟩, hS.F ht⟩) hS.2.2 dM_scale_41
def fM_bottom (z : Int32) : Int32 := if ((z >>> ((14 : Int32) &&& 31)) &&& (1 : Int32)) = 0 then (z &&& (255 : Int32)) else (z &&& (248 : Int32))
set_option maxHeartbeats 4000000 in
set_option maxRecDepth 100000 in
theorem kM_bottom (l : Launch) (H : Heap) (z : Int32) : Met l yM_bottom wM_bottom { frames := 0, cells := 0, slots := 0, locals := 0 } (va_Pc [.int z] (fun U => U.heap = H)) (va_Qi (fun v9 (_ : Unit) => v9 = fM_bottom z) (fun _ t => t.heap = H) (fun _ => False)) 0 0 (fun _ => False) := by
  refine Met.ofW (cc := cM_bottom) (maxL := 1) (ret := (some .int)) (by decide) rfl ?_
  intro p e s m args below meth c s₁ B hml hv
  obtain ⟨rfl, hH⟩ := hv
  have hx := B.exec
  have hb := B.bytes
  have hr := B.returns
  have hts := atoms_spec (ws := wM_bottom) B.pre
  have hq : ∀ w ∈ wA, w.before _ s = true := fun w h => hts w (List.mem_cons_of_mem _ h)
  have hown : s.vm.findClass "CapUnitModel" = some m.cls := findClass_of_methodNamed B.named
  have hlocks := B.notSynchronized
  have hS : va_S (fun _ => False) s.heap s.heap [] := va_S.rf
  have hl := lv_entry ([.int z]) (n := 1) (Nat.le_of_ble_eq_true rfl)
  rw [lg_entry_eq]
  generalize (lg_sl ([.int z]) ++ List.replicate (1 - (lg_sl ([.int z])).length) Slot.unset).toArray = ls at hl ⊢
  have hl : lv_has ls 1 [(0, .int z)] := hl
  refine lv_iload_n hx hb dM_bottom_0 rfl (lv_at hl 0 rfl) ?_
  refine lv_bipush (v := 14) hx hb dM_bottom_1 (by decide) ?_
  refine lv_ishr hx hb dM_bottom_3 ?_
  refine lv_iconst (v := 1) hx hb dM_bottom_4 (by decide) ?_
  refine lv_iand hx hb dM_bottom_5 ?_
  refine lv_if_ne (tgt := 17) hx hb dM_bottom_6 rfl (fun h1 => ?_) (fun h1 => ?_)
  · refine lv_iload_n hx hb dM_bottom_17 rfl (lv_at hl 0 rfl) ?_
    refine lv_sipush (v := 248) hx hb dM_bottom_18 (by decide) ?_
    refine lv_iand hx hb dM_bottom_21 ?_
    exact W.iret (v := z &&& (248 : Int32)) hx hb hr (fun t ht hW => ⟨⟨z &&& (248 : Int32), (), rfl, (by unfold fM_bottom; rw [if_neg h1]), ht.trans hH⟩, hS.F ht⟩) hS.2.2 dM_bottom_22
  · refine lv_iload_n hx hb dM_bottom_9 rfl (lv_at hl 0 rfl) ?_
    refine lv_sipush (v := 255) hx hb dM_bottom_10 (by decide) ?_
    refine lv_iand hx hb dM_bottom_13 ?_
    refine lv_goto (tgt := 22) hx hb dM_bottom_14 rfl ?_
    exact W.iret (v := z &&& (255 : Int32)) hx hb hr (fun t ht hW => ⟨⟨z &&& (255 : Int32), (), rfl, (by unfold fM_bottom; rw [if_pos h1]), ht.trans hH⟩, hS.F ht⟩) hS.2.2 dM_bottom_22
def fM_roof (z : Int32) : Int32 := if ((z >>> ((14 : Int32) &&& 31)) &&& (1 : Int32)) = 0 then (if ((fM_bottom z) &&& (63 : Int32)) ≤ ((z >>> ((8 : Int32) &&& 31)) &&& (63 : Int32)) then (((((((fM_bottom z) >>> ((6 : Int32) &&& 31)) + (0 : Int32)) + ((z >>> ((14 : Int32) &&& 31)) &&& (1 : Int32))) &&& (3 : Int32)) <<< ((6 : Int32) &&& 31)) ||| ((z >>> ((8 : Int32) &&& 31)) &&& (63 : Int32))) else (((((((fM_bottom z) >>> ((6 : Int32) &&& 31)) + (1 : Int32)) + ((z >>> ((14 : Int32) &&& 31)) &&& (1 : Int32))) &&& (3 : Int32)) <<< ((6 : Int32) &&& 31)) ||| ((z >>> ((8 : Int32) &&& 31)) &&& (63 : Int32)))) else (if ((fM_bottom z) &&& (63 : Int32)) ≤ ((z >>> ((8 : Int32) &&& 31)) &&& (56 : Int32)) then (((((((fM_bottom z) >>> ((6 : Int32) &&& 31)) + (0 : Int32)) + ((z >>> ((14 : Int32) &&& 31)) &&& (1 : Int32))) &&& (3 : Int32)) <<< ((6 : Int32) &&& 31)) ||| ((z >>> ((8 : Int32) &&& 31)) &&& (56 : Int32))) else (((((((fM_bottom z) >>> ((6 : Int32) &&& 31)) + (1 : Int32)) + ((z >>> ((14 : Int32) &&& 31)) &&& (1 : Int32))) &&& (3 : Int32)) <<< ((6 : Int32) &&& 31)) ||| ((z >>> ((8 : Int32) &&& 31)) &&& (56 : Int32))))
set_option maxHeartbeats 4000000 in
set_option maxRecDepth 100000 in
theorem kM_roof (l : Launch) (H : Heap) (z : Int32) : Met l yM_roof wM_roof { frames := 1, cells := 0, slots := 0, locals := 20 } (va_Pc [.int z] (fun U => U.heap = H)) (va_Qi (fun v9 (_ : Unit) => v9 = fM_roof z) (fun _ t => t.heap = H) (fun _ => False)) 0 0 (fun _ => False) := by
  refine Met.ofW (cc := cM_roof) (maxL := 5) (ret := (some .int)) (by decide) rfl ?_
  intro p e s m args below meth c s₁ B hml hv
  obtain ⟨rfl, hH⟩ := hv
  have hx := B.exec
  have hb := B.bytes
  have hr := B.returns
  have hts := atoms_spec (ws := wM_roof) B.pre
  have hq : ∀ w ∈ wA, w.before _ s = true := fun w h => hts w (List.mem_cons_of_mem _ h)
  have hown : s.vm.findClass "CapUnitModel" = some m.cls := findClass_of_methodNamed B.named
  have hlocks := B.notSynchronized
  have hS : va_S (fun _ => False) s.heap s.heap [] := va_S.rf
  have hl := lv_entry ([.int z]) (n := 5) (Nat.le_of_ble_eq_true rfl)
  rw [lg_entry_eq]
  generalize (lg_sl ([.int z]) ++ List.replicate (5 - (lg_sl ([.int z])).length) Slot.unset).toArray = ls at hl ⊢
  have hl : lv_has ls 5 [(0, .int z)] := hl
  refine lv_iload_n hx hb dM_roof_0 rfl (lv_at hl 0 rfl) ?_
  refine lv_bipush (v := 14) hx hb dM_roof_1 (by decide) ?_
  refine lv_ishr hx hb dM_roof_3 ?_
  refine lv_iconst (v := 1) hx hb dM_roof_4 (by decide) ?_
  refine lv_iand hx hb dM_roof_5 ?_
  refine lv_istore_n (lv' := [(1, .int ((z >>> ((14 : Int32) &&& 31)) &&& (1 : Int32))), (0, .int z)]) hx hb dM_roof_6 rfl hl (by decide) rfl (fun ls hl => ?_)
  refine lv_iload_n hx hb dM_roof_7 rfl (lv_at hl 0 rfl) ?_
  refine lv_if_ne (tgt := 21) hx hb dM_roof_8 rfl (fun h1 => ?_) (fun h1 => ?_)
  · refine lv_iload_n hx hb dM_roof_21 rfl (lv_at hl 1 rfl) ?_
    refine lv_bipush (v := 8) hx hb dM_roof_22 (by decide) ?_
    refine lv_ishr hx hb dM_roof_24 ?_
    refine lv_bipush (v := 56) hx hb dM_roof_25 (by decide) ?_
    refine lv_iand hx hb dM_roof_27 ?_
    refine lv_istore_n (lv' := [(2, .int ((z >>> ((8 : Int32) &&& 31)) &&& (56 : Int32))), (1, .int ((z >>> ((14 : Int32) &&& 31)) &&& (1 : Int32))), (0, .int z)]) hx hb dM_roof_28 rfl hl (by decide) rfl (fun ls hl => ?_)
    refine lv_iload_n hx hb dM_roof_29 rfl (lv_at hl 2 rfl) ?_
    refine zc_i (va_runS (As := [.int z]) (rest := []) ⟨hx, hb, hml, hown, hq⟩ (kM_bottom l s.heap z) (va_cwS 1 hq (wA_S q_436 q_437 q_2 q_438) rfl rfl rfl (by decide +kernel) ⟨Nat.le_of_ble_eq_true rfl, Nat.le_of_ble_eq_true rfl⟩) ⟨fun a U g mk q => q, fun U hU hW => ⟨rfl, hU⟩⟩ rfl rfl hl.1 rfl (lv_room (Nat.le_of_ble_eq_true rfl)) dM_roof_30 ⟨Nat.zero_le _, Nat.zero_le _⟩) hS (fun locs hS => ?_)
    refine lv_istore_n (lv' := [(3, .int (fM_bottom z)), (2, .int ((z >>> ((8 : Int32) &&& 31)) &&& (56 : Int32))), (1, .int ((z >>> ((14 : Int32) &&& 31)) &&& (1 : Int32))), (0, .int z)]) hx hb dM_roof_33 rfl hl (by decide) rfl (fun ls hl => ?_)
    refine lv_iload_n hx hb dM_roof_34 rfl (lv_at hl 0 rfl) ?_
    refine lv_bipush (v := 6) hx hb dM_roof_35 (by decide) ?_
    refine lv_ishr hx hb dM_roof_37 ?_
    refine lv_iload_n hx hb dM_roof_38 rfl (lv_at hl 1 rfl) ?_
    refine lv_iload_n hx hb dM_roof_39 rfl (lv_at hl 0 rfl) ?_
    refine lv_bipush (v := 63) hx hb dM_roof_40 (by decide) ?_
    refine lv_iand hx hb dM_roof_42 ?_
    refine lv_icmp_ge (tgt := 50) hx hb dM_roof_43 rfl (fun h2 => ?_) (fun h2 => ?_)
    · refine lv_iconst (v := 0) hx hb dM_roof_50 (by decide) ?_
      refine lv_iadd hx hb dM_roof_51 ?_
      refine lv_iload_n hx hb dM_roof_52 rfl (lv_at hl 2 rfl) ?_
      refine lv_iadd hx hb dM_roof_53 ?_
      refine lv_istore (lv' := [(4, .int ((((fM_bottom z) >>> ((6 : Int32) &&& 31)) + (0 : Int32)) + ((z >>> ((14 : Int32) &&& 31)) &&& (1 : Int32)))), (3, .int (fM_bottom z)), (2, .int ((z >>> ((8 : Int32) &&& 31)) &&& (56 : Int32))), (1, .int ((z >>> ((14 : Int32) &&& 31)) &&& (1 : Int32))), (0, .int z)]) hx hb dM_roof_54 hl (by decide) rfl (fun ls hl => ?_)
      refine lv_iload hx hb dM_roof_56 (lv_at hl 0 rfl) ?_
      refine lv_iconst (v := 3) hx hb dM_roof_58 (by decide) ?_
      refine lv_iand hx hb dM_roof_59 ?_
      refine lv_bipush (v := 6) hx hb dM_roof_60 (by decide) ?_
      refine lv_ishl hx hb dM_roof_62 ?_
      refine lv_iload_n hx hb dM_roof_63 rfl (lv_at hl 2 rfl) ?_
      refine lv_ior hx hb dM_roof_64 ?_
      exact W.iret (v := ((((((fM_bottom z) >>> ((6 : Int32) &&& 31)) + (0 : Int32)) + ((z >>> ((14 : Int32) &&& 31)) &&& (1 : Int32))) &&& (3 : Int32)) <<< ((6 : Int32) &&& 31)) ||| ((z >>> ((8 : Int32) &&& 31)) &&& (56 : Int32))) hx hb hr (fun t ht hW => ⟨⟨((((((fM_bottom z) >>> ((6 : Int32) &&& 31)) + (0 : Int32)) + ((z >>> ((14 : Int32) &&& 31)) &&& (1 : Int32))) &&& (3 : Int32)) <<< ((6 : Int32) &&& 31)) ||| ((z >>> ((8 : Int32) &&& 31)) &&& (56 : Int32)), (), rfl, (by unfold fM_roof; rw [if_neg h1, if_pos h2]), ht.trans hH⟩, hS.F ht⟩) hS.2.2 dM_roof_65
    · refine lv_iconst (v := 1) hx hb dM_roof_46 (by decide) ?_
      refine lv_goto (tgt := 51) hx hb dM_roof_47 rfl ?_
      refine lv_iadd hx hb dM_roof_51 ?_
      refine lv_iload_n hx hb dM_roof_52 rfl (lv_at hl 2 rfl) ?_
      refine lv_iadd hx hb dM_roof_53 ?_
      refine lv_istore (lv' := [(4, .int ((((fM_bottom z) >>> ((6 : Int32) &&& 31)) + (1 : Int32)) + ((z >>> ((14 : Int32) &&& 31)) &&& (1 : Int32)))), (3, .int (fM_bottom z)), (2, .int ((z >>> ((8 : Int32) &&& 31)) &&& (56 : Int32))), (1, .int ((z >>> ((14 : Int32) &&& 31)) &&& (1 : Int32))), (0, .int z)]) hx hb dM_roof_54 hl (by decide) rfl (fun ls hl => ?_)
      refine lv_iload hx hb dM_roof_56 (lv_at hl 0 rfl) ?_
      refine lv_iconst (v := 3) hx hb dM_roof_58 (by decide) ?_
      refine lv_iand hx hb dM_roof_59 ?_
      refine lv_bipush (v := 6) hx hb dM_roof_60 (by decide) ?_
      refine lv_ishl hx hb dM_roof_62 ?_
      refine lv_iload_n hx hb dM_roof_63 rfl (lv_at hl 2 rfl) ?_
      refine lv_ior hx hb dM_roof_64 ?_
      exact W.iret (v := ((((((fM_bottom z) >>> ((6 : Int32) &&& 31)) + (1 : Int32)) + ((z >>> ((14 : Int32) &&& 31)) &&& (1 : Int32))) &&& (3 : Int32)) <<< ((6 : Int32) &&& 31)) ||| ((z >>> ((8 : Int32) &&& 31)) &&& (56 : Int32))) hx hb hr (fun t ht hW => ⟨⟨((((((fM_bottom z) >>> ((6 : Int32) &&& 31)) + (1 : Int32)) + ((z >>> ((14 : Int32) &&& 31)) &&& (1 : Int32))) &&& (3 : Int32)) <<< ((6 : Int32) &&& 31)) ||| ((z >>> ((8 : Int32) &&& 31)) &&& (56 : Int32)), (), rfl, (by unfold fM_roof; rw [if_neg h1, if_neg h2]), ht.trans hH⟩, hS.F ht⟩) hS.2.2 dM_roof_65
  · refine lv_iload_n hx hb dM_roof_11 rfl (lv_at hl 1 rfl) ?_
    refine lv_bipush (v := 8) hx hb dM_roof_12 (by decide) ?_
    refine lv_ishr hx hb dM_roof_14 ?_
    refine lv_bipush (v := 63) hx hb dM_roof_15 (by decide) ?_
    refine lv_iand hx hb dM_roof_17 ?_
    refine lv_goto (tgt := 28) hx hb dM_roof_18 rfl ?_
    refine lv_istore_n (lv' := [(2, .int ((z >>> ((8 : Int32) &&& 31)) &&& (63 : Int32))), (1, .int ((z >>> ((14 : Int32) &&& 31)) &&& (1 : Int32))), (0, .int z)]) hx hb dM_roof_28 rfl hl (by decide) rfl (fun ls hl => ?_)
    refine lv_iload_n hx hb dM_roof_29 rfl (lv_at hl 2 rfl) ?_
    refine zc_i (va_runS (As := [.int z]) (rest := []) ⟨hx, hb, hml, hown, hq⟩ (kM_bottom l s.heap z) (va_cwS 1 hq (wA_S q_436 q_437 q_2 q_438) rfl rfl rfl (by decide +kernel) ⟨Nat.le_of_ble_eq_true rfl, Nat.le_of_ble_eq_true rfl⟩) ⟨fun a U g mk q => q, fun U hU hW => ⟨rfl, hU⟩⟩ rfl rfl hl.1 rfl (lv_room (Nat.le_of_ble_eq_true rfl)) dM_roof_30 ⟨Nat.zero_le _, Nat.zero_le _⟩) hS (fun locs hS => ?_)
    refine lv_istore_n (lv' := [(3, .int (fM_bottom z)), (2, .int ((z >>> ((8 : Int32) &&& 31)) &&& (63 : Int32))), (1, .int ((z >>> ((14 : Int32) &&& 31)) &&& (1 : Int32))), (0, .int z)]) hx hb dM_roof_33 rfl hl (by decide) rfl (fun ls hl => ?_)
    refine lv_iload_n hx hb dM_roof_34 rfl (lv_at hl 0 rfl) ?_
    refine lv_bipush (v := 6) hx hb dM_roof_35 (by decide) ?_
    refine lv_ishr hx hb dM_roof_37 ?_
    refine lv_iload_n hx hb dM_roof_38 rfl (lv_at hl 1 rfl) ?_
    refine lv_iload_n hx hb dM_roof_39 rfl (lv_at hl 0 rfl) ?_
    refine lv_bipush (v := 63) hx hb dM_roof_40 (by decide) ?_
    refine lv_iand hx hb dM_roof_42 ?_
    refine lv_icmp_ge (tgt := 50) hx hb dM_roof_43 rfl (fun h3 => ?_) (fun h3 => ?_)
    · refine lv_iconst (v := 0) hx hb dM_roof_50 (by decide) ?_
      refine lv_iadd hx hb dM_roof_51 ?_
      refine lv_iload_n hx hb dM_roof_52 rfl (lv_at hl 2 rfl) ?_
      refine lv_iadd hx hb dM_roof_53 ?_
      refine lv_istore (lv' := [(4, .int ((((fM_bottom z) >>> ((6 : Int32) &&& 31)) + (0 : Int32)) + ((z >>> ((14 : Int32) &&& 31)) &&& (1 : Int32)))), (3, .int (fM_bottom z)), (2, .int ((z >>> ((8 : Int32) &&& 31)) &&& (63 : Int32))), (1, .int ((z >>> ((14 : Int32) &&& 31)) &&& (1 : Int32))), (0, .int z)]) hx hb dM_roof_54 hl (by decide) rfl (fun ls hl => ?_)
      refine lv_iload hx hb dM_roof_56 (lv_at hl 0 rfl) ?_
      refine lv_iconst (v := 3) hx hb dM_roof_58 (by decide) ?_
      refine lv_iand hx hb dM_roof_59 ?_
      refine lv_bipush (v := 6) hx hb dM_roof_60 (by decide) ?_
      refine lv_ishl hx hb dM_roof_62 ?_
      refine lv_iload_n hx hb dM_roof_63 rfl (lv_at hl 2 rfl) ?_
      refine lv_ior hx hb dM_roof_64 ?_
      exact W.iret (v := ((((((fM_bottom z) >>> ((6 : Int32) &&& 31)) + (0 : Int32)) + ((z >>> ((14 : Int32) &&& 31)) &&& (1 : Int32))) &&& (3 : Int32)) <<< ((6 : Int32) &&& 31)) ||| ((z >>> ((8 : Int32) &&& 31)) &&& (63 : Int32))) hx hb hr (fun t ht hW => ⟨⟨((((((fM_bottom z) >>> ((6 : Int32) &&& 31)) + (0 : Int32)) + ((z >>> ((14 : Int32) &&& 31)) &&& (1 : Int32))) &&& (3 : Int32)) <<< ((6 : Int32) &&& 31)) ||| ((z >>> ((8 : Int32) &&& 31)) &&& (63 : Int32)), (), rfl, (by unfold fM_roof; rw [if_pos h1, if_pos h3]), ht.trans hH⟩, hS.F ht⟩) hS.2.2 dM_roof_65
    · refine lv_iconst (v := 1) hx hb dM_roof_46 (by decide) ?_
      refine lv_goto (tgt := 51) hx hb dM_roof_47 rfl ?_
      refine lv_iadd hx hb dM_roof_51 ?_
      refine lv_iload_n hx hb dM_roof_52 rfl (lv_at hl 2 rfl) ?_
      refine lv_iadd hx hb dM_roof_53 ?_
      refine lv_istore (lv' := [(4, .int ((((fM_bottom z) >>> ((6 : Int32) &&& 31)) + (1 : Int32)) + ((z >>> ((14 : Int32) &&& 31)) &&& (1 : Int32)))), (3, .int (fM_bottom z)), (2, .int ((z >>> ((8 : Int32) &&& 31)) &&& (63 : Int32))), (1, .int ((z >>> ((14 : Int32) &&& 31)) &&& (1 : Int32))), (0, .int z)]) hx hb dM_roof_54 hl (by decide) rfl (fun ls hl => ?_)
      refine lv_iload hx hb dM_roof_56 (lv_at hl 0 rfl) ?_
      refine lv_iconst (v := 3) hx hb dM_roof_58 (by decide) ?_
      refine lv_iand hx hb dM_roof_59 ?_
      refine lv_bipush (v := 6) hx hb dM_roof_60 (by decide) ?_
      refine lv_ishl hx hb dM_roof_62 ?_
      refine lv_iload_n hx hb dM_roof_63 rfl (lv_at hl 2 rfl) ?_
      refine lv_ior hx hb dM_roof_64 ?_
      exact W.iret (v := ((((((fM_bottom z) >>> ((6 : Int32) &&& 31)) + (1 : Int32)) + ((z >>> ((14 : Int32) &&& 31)) &&& (1 : Int32))) &&& (3 : Int32)) <<< ((6 : Int32) &&& 31)) ||| ((z >>> ((8 : Int32) &&& 31)) &&& (63 : Int32))) hx hb hr (fun t ht hW => ⟨⟨((((((fM_bottom z) >>> ((6 : Int32) &&& 31)) + (1 : Int32)) + ((z >>> ((14 : Int32) &&& 31)) &&& (1 : Int32))) &&& (3 : Int32)) <<< ((6 : Int32) &&& 31)) ||| ((z >>> ((8 : Int32) &&& 31)) &&& (63 : Int32)), (), rfl, (by unfold fM_roof; rw [if_pos h1, if_neg h3]), ht.trans hH⟩, hS.F ht⟩) hS.2.2 dM_roof_65
end
section
/-! The pure functions of the class and of the reference, as javac wrote them, in the numbers of 03.maths. -/
theorem zx_tb (n : Nat) : (lN n).toBitVec = BitVec.ofNat 64 n := rfl
theorem zx_nat {r : Nat} (hr : r < 4294967296) : (4294967296 + r) ^^^ 4294967296 = r := by
  apply Nat.eq_of_testBit_eq
  intro i
  have e : (4294967296 : Nat) = 2 ^ 32 := rfl
  rw [e] at hr ⊢
  rw [Nat.testBit_xor, Nat.testBit_two_pow]
  rcases Nat.lt_trichotomy i 32 with h | h | h
  · rw [Nat.testBit_two_pow_add_gt h]
    simp [show ¬ 32 = i by omega]
  · subst h
    rw [Nat.testBit_two_pow_add_eq]
    simp
  · have a1 : 2 ^ (32 + 1) ≤ 2 ^ i := Nat.pow_le_pow_right (by decide) h
    have a2 : (2 : Nat) ^ (32 + 1) = 8589934592 := rfl
    have a3 : (2 : Nat) ^ 32 = 4294967296 := rfl
    rw [Nat.testBit_lt_two_pow (show 2 ^ 32 + r < 2 ^ i by omega), Nat.testBit_lt_two_pow (show r < 2 ^ i by omega)]
    simp [show ¬ 32 = i by omega]
theorem zx_lo {r : Nat} (hr : r < 4294967296) : zL ((r : Nat) + 4294967296 : Int) ^^^ (4294967296 : Int64) = zL (r : Nat) := by
  apply Int64.toBitVec_inj.mp
  rw [Int64.toBitVec_xor]
  show BitVec.ofInt 64 ((r : Nat) + 4294967296 : Int) ^^^ 4294967296#64 = BitVec.ofInt 64 (r : Nat)
  have e1 : ((r : Nat) + 4294967296 : Int) = ((4294967296 + r : Nat) : Int) := by omega
  rw [e1, BitVec.ofInt_natCast, BitVec.ofInt_natCast]
  apply BitVec.eq_of_toNat_eq
  rw [BitVec.toNat_xor, BitVec.toNat_ofNat, BitVec.toNat_ofNat, BitVec.toNat_ofNat, Nat.mod_eq_of_lt (by omega), Nat.mod_eq_of_lt (show 4294967296 < 2 ^ 64 by decide), zx_nat hr, Nat.mod_eq_of_lt (by omega)]
theorem zL_x32 {t : Int} (h0 : 0 ≤ t) (h1 : t < 8589934592) : zL t ^^^ (4294967296 : Int64) = zL ((t + 4294967296) % 8589934592) := by
  obtain ⟨n, rfl⟩ := Int.eq_ofNat_of_zero_le h0
  by_cases h : n < 4294967296
  · have e := zx_lo h
    have e2 : ((n : Int) + 4294967296) % 8589934592 = (n : Int) + 4294967296 := by omega
    rw [e2, ← e]
    apply Int64.toBitVec_inj.mp
    rw [Int64.toBitVec_xor, Int64.toBitVec_xor, BitVec.xor_assoc, BitVec.xor_self, BitVec.xor_zero]
  · obtain ⟨r, rfl⟩ : ∃ r : Nat, n = r + 4294967296 := ⟨n - 4294967296, by omega⟩
    have e := zx_lo (r := r) (by omega)
    have e2 : (((r + 4294967296 : Nat) : Int) + 4294967296) % 8589934592 = (r : Int) := by omega
    rw [e2, ← e]
    rfl
def kA (a : Int32) : Int := a.toInt % 4294967296
theorem kA_in (a : Int32) : 0 ≤ kA a ∧ kA a < 4294967296 := by unfold kA; omega
theorem zs_8 (x : Int32) : x >>> ((8 : Int32) &&& 31) = zI (x.toInt / 256) := by
  have h1 := zI_lo x
  have h2 := zI_hi x
  have h := zI_shr (z := x.toInt) h1 h2 8 (by decide) (y := 8) (by decide) (P := 256) rfl (by omega) (by omega)
  rwa [zI_of] at h
theorem zs_14 (x : Int32) : x >>> ((14 : Int32) &&& 31) = zI (x.toInt / 16384) := by
  have h1 := zI_lo x
  have h2 := zI_hi x
  have h := zI_shr (z := x.toInt) h1 h2 14 (by decide) (y := 14) (by decide) (P := 16384) rfl (by omega) (by omega)
  rwa [zI_of] at h
theorem zs_16 (x : Int32) : x >>> ((16 : Int32) &&& 31) = zI (x.toInt / 65536) := by
  have h1 := zI_lo x
  have h2 := zI_hi x
  have h := zI_shr (z := x.toInt) h1 h2 16 (by decide) (y := 16) (by decide) (P := 65536) rfl (by omega) (by omega)
  rwa [zI_of] at h
theorem zs_5 {v : Int} (h0 : 0 ≤ v) (h1 : v < 65536) : zI v >>> ((5 : Int32) &&& 31) = zI (v / 32) := zI_shr (by omega) (by omega) 5 (by decide) (y := 5) (by decide) (P := 32) rfl (by omega) (by omega)
theorem zs_6 {v : Int} (h0 : 0 ≤ v) (h1 : v < 65536) : zI v >>> ((6 : Int32) &&& 31) = zI (v / 64) := zI_shr (by omega) (by omega) 6 (by decide) (y := 6) (by decide) (P := 64) rfl (by omega) (by omega)
theorem zs_3 {v : Int} (h0 : 0 ≤ v) (h1 : v < 65536) : zI v >>> ((3 : Int32) &&& 31) = zI (v / 8) := zI_shr (by omega) (by omega) 3 (by decide) (y := 3) (by decide) (P := 8) rfl (by omega) (by omega)
theorem zm_1 (z : Int) : zI z &&& (1 : Int32) = zI (z % 2) := zI_mask z 1 (by decide) rfl (P := 2) rfl
theorem zm_3 (z : Int) : zI z &&& (3 : Int32) = zI (z % 4) := zI_mask z 2 (by decide) rfl (P := 4) rfl
theorem zm_7 (z : Int) : zI z &&& (7 : Int32) = zI (z % 8) := zI_mask z 3 (by decide) rfl (P := 8) rfl
theorem zm_15 (z : Int) : zI z &&& (15 : Int32) = zI (z % 16) := zI_mask z 4 (by decide) rfl (P := 16) rfl
theorem zm_63 (z : Int) : zI z &&& (63 : Int32) = zI (z % 64) := zI_mask z 6 (by decide) rfl (P := 64) rfl
theorem zm_255 (z : Int) : zI z &&& (255 : Int32) = zI (z % 256) := zI_mask z 8 (by decide) rfl (P := 256) rfl
theorem zm_32767 (z : Int) : zI z &&& (32767 : Int32) = zI (z % 32768) := zI_mask z 15 (by decide) rfl (P := 32768) rfl
theorem zh_3 (z : Int) : zI z <<< ((3 : Int32) &&& 31) = zI (z * 8) := zI_shl z 3 (by decide) (by decide) (P := 8) rfl
theorem zh_6 (z : Int) : zI z <<< ((6 : Int32) &&& 31) = zI (z * 64) := zI_shl z 6 (by decide) (by decide) (P := 64) rfl
theorem zh_8 (z : Int) : zI z <<< ((8 : Int32) &&& 31) = zI (z * 256) := zI_shl z 8 (by decide) (by decide) (P := 256) rfl
theorem z_14 (x : Int32) : (x &&& (16384 : Int32)) = 0 ↔ kIE x.toInt = 0 := by
  have e : x &&& (16384 : Int32) = zI (x.toInt / 16384 % 2 * 16384) := by
    have h := zI_14 x.toInt
    rwa [zI_of] at h
  have e0 : (0 : Int32) = zI 0 := by decide
  rw [e, e0, zI_eq (by omega) (by omega) (by omega) (by omega)]
  unfold kIE
  omega
theorem z_14v (x : Int32) : (x >>> ((14 : Int32) &&& 31)) &&& (1 : Int32) = zI (kIE x.toInt) := by
  rw [zs_14, zm_1]
  rfl
theorem z_14' (x : Int32) : ((x >>> ((14 : Int32) &&& 31)) &&& (1 : Int32)) = 0 ↔ kIE x.toInt = 0 := by
  have h := kIE_01 x.toInt
  have e0 : (0 : Int32) = zI 0 := by decide
  rw [z_14v, e0, zI_eq (by omega) (by omega) (by omega) (by omega)]
theorem z_7 (x : Int32) : x &&& (7 : Int32) = zI (x.toInt % 8) := by
  have h := zm_7 x.toInt
  rwa [zI_of] at h
theorem z_255 (x : Int32) : x &&& (255 : Int32) = zI (x.toInt % 256) := by
  have h := zm_255 x.toInt
  rwa [zI_of] at h
theorem z_248 (x : Int32) : x &&& (248 : Int32) = zI (x.toInt % 256 / 8 * 8) := by
  have h := zI_248 x.toInt
  rwa [zI_of] at h
theorem z_e (x : Int32) : (((x >>> ((8 : Int32) &&& 31)) &&& (7 : Int32)) <<< ((3 : Int32) &&& 31)) + (x &&& (7 : Int32)) = zI (x.toInt / 256 % 8 * 8 + x.toInt % 8) := by
  rw [zs_8, zm_7, zh_3, z_7, zI_add]
theorem z_e' (x : Int32) : ((8 : Int32) * ((x >>> ((8 : Int32) &&& 31)) &&& (7 : Int32))) + (x &&& (7 : Int32)) = zI (x.toInt / 256 % 8 * 8 + x.toInt % 8) := by
  have e8 : (8 : Int32) = zI 8 := by decide
  rw [zs_8, zm_7, z_7]
  rw [e8, zI_mul, zI_add, Int.mul_comm 8]
theorem z_26 {v : Int} (h0 : 0 ≤ v) (h1 : v < 64) : (26 : Int32) ≤ zI v ↔ ¬ v < 26 := by
  have e : (26 : Int32) = zI 26 := by decide
  rw [e, zI_le (by omega) (by omega) (by omega) (by omega)]
  omega
theorem eC_exp (x : Int32) : fC_exponentOf x = zI (kE x.toInt) := by
  unfold fC_exponentOf kE
  rw [z_e x]
  have b0 : 0 ≤ x.toInt / 256 % 8 * 8 + x.toInt % 8 := by omega
  have b1 : x.toInt / 256 % 8 * 8 + x.toInt % 8 < 64 := by omega
  by_cases h : kIE x.toInt = 0
  · rw [if_pos ((z_14 x).mpr h), if_pos h]
    rfl
  · rw [if_neg (mt (z_14 x).mp h), if_neg h]
    by_cases h2 : x.toInt / 256 % 8 * 8 + x.toInt % 8 < 26
    · rw [if_neg (fun h3 => (z_26 b0 b1).mp h3 h2), if_pos h2, Int.toNat_of_nonneg b0]
    · rw [if_pos ((z_26 b0 b1).mpr h2), if_neg h2]
      rfl
theorem eM_scale (x : Int32) : fM_scale x = zI (kE x.toInt) := by
  unfold fM_scale kE
  rw [z_e' x]
  have b0 : 0 ≤ x.toInt / 256 % 8 * 8 + x.toInt % 8 := by omega
  have b1 : x.toInt / 256 % 8 * 8 + x.toInt % 8 < 64 := by omega
  by_cases h : kIE x.toInt = 0
  · rw [if_pos ((z_14' x).mpr h), if_pos h]
    rfl
  · rw [if_neg (mt (z_14' x).mp h), if_neg h]
    by_cases h2 : x.toInt / 256 % 8 * 8 + x.toInt % 8 < 26
    · rw [if_neg (fun h3 => (z_26 b0 b1).mp h3 h2), if_pos h2, Int.toNat_of_nonneg b0]
    · rw [if_pos ((z_26 b0 b1).mpr h2), if_neg h2]
      rfl
theorem eC_base (x : Int32) : fC_baseMantissa x = zI (kB x.toInt) := by
  unfold fC_baseMantissa kB
  by_cases h : kIE x.toInt = 0
  · rw [if_pos ((z_14 x).mpr h), if_pos h, z_255]
  · rw [if_neg (mt (z_14 x).mp h), if_neg h, z_255, zI_m8]
theorem eM_bottom (x : Int32) : fM_bottom x = zI (kB x.toInt) := by
  unfold fM_bottom kB
  by_cases h : kIE x.toInt = 0
  · rw [if_pos ((z_14' x).mpr h), if_pos h, z_255]
  · rw [if_neg (mt (z_14' x).mp h), if_neg h, z_248]
theorem z_T {h t : Int} (t0 : 0 ≤ t) (t1 : t < 64) : ((zI h &&& (3 : Int32)) <<< ((6 : Int32) &&& 31)) ||| zI t = zI (h % 4 * 64 + t) := by
  rw [zm_3, zh_6, zI_or 6 (by decide) _ _ (P := 64) rfl (by omega) t0 t1]
theorem z_1 : (1 : Int32) = zI 1 := by decide
theorem z_0 : (0 : Int32) = zI 0 := by decide
theorem eC_top (x : Int32) : fC_topMantissa x = zI (kT x.toInt) := by
  have hb := kB_in x.toInt
  have ht := kT6_in x.toInt
  unfold fC_topMantissa kT
  rw [eC_base, zm_63, zs_8, zm_63, zs_6 hb.1 (by omega), zI_m8]
  by_cases h : kIE x.toInt = 0
  · have e6 : x.toInt / 256 % 64 = kT6 x.toInt := by unfold kT6; rw [if_pos h]
    rw [if_pos ((z_14 x).mpr h), e6, h]
    by_cases h2 : kT6 x.toInt < kB x.toInt % 64
    · rw [if_neg (fun h3 => absurd ((zI_le (by omega) (by omega) (by omega) (by omega)).mp h3) (by omega)), if_pos h2, z_1, zI_add, z_T ht.1 ht.2]
      congr 1
      omega
    · rw [if_pos ((zI_le (by omega) (by omega) (by omega) (by omega)).mpr (by omega)), if_neg h2, z_T ht.1 ht.2]
      congr 1
      omega
  · have h1 : kIE x.toInt = 1 := by
      have := kIE_01 x.toInt
      omega
    have e6 : x.toInt / 256 % 64 / 8 * 8 = kT6 x.toInt := by unfold kT6; rw [if_neg h]
    rw [if_neg (mt (z_14 x).mp h), e6, h1]
    by_cases h2 : kT6 x.toInt < kB x.toInt % 64
    · rw [if_neg (fun h3 => absurd ((zI_le (by omega) (by omega) (by omega) (by omega)).mp h3) (by omega)), if_pos h2, z_1, zI_add, zI_add, z_T ht.1 ht.2]
    · rw [if_pos ((zI_le (by omega) (by omega) (by omega) (by omega)).mpr (by omega)), if_neg h2, z_1, zI_add, z_T ht.1 ht.2]
      congr 1
      omega
theorem eM_roof (x : Int32) : fM_roof x = zI (kT x.toInt) := by
  have hb := kB_in x.toInt
  have ht := kT6_in x.toInt
  unfold fM_roof kT
  rw [eM_bottom, zm_63, z_14v, zs_8, zm_63, zI_56, zs_6 hb.1 (by omega)]
  by_cases h : kIE x.toInt = 0
  · have e6 : x.toInt / 256 % 64 = kT6 x.toInt := by unfold kT6; rw [if_pos h]
    rw [h, e6, ← z_0, if_pos rfl]
    by_cases h2 : kT6 x.toInt < kB x.toInt % 64
    · rw [if_neg (fun h3 => absurd ((zI_le (by omega) (by omega) (by omega) (by omega)).mp h3) (by omega)), if_pos h2, z_1, z_0, zI_add, zI_add, z_T ht.1 ht.2]
      congr 1
      omega
    · rw [if_pos ((zI_le (by omega) (by omega) (by omega) (by omega)).mpr (by omega)), if_neg h2, z_0, zI_add, zI_add, z_T ht.1 ht.2]
  · have h1 : kIE x.toInt = 1 := by
      have := kIE_01 x.toInt
      omega
    have e6 : x.toInt / 256 % 64 / 8 * 8 = kT6 x.toInt := by unfold kT6; rw [if_neg h]
    rw [h1, e6, ← z_1, if_neg (by decide)]
    by_cases h2 : kT6 x.toInt < kB x.toInt % 64
    · rw [if_neg (fun h3 => absurd ((zI_le (by omega) (by omega) (by omega) (by omega)).mp h3) (by omega)), if_pos h2, z_1, zI_add, zI_add, z_T ht.1 ht.2]
    · rw [if_pos ((zI_le (by omega) (by omega) (by omega) (by omega)).mpr (by omega)), if_neg h2, z_1, z_0, zI_add, zI_add, z_T ht.1 ht.2]
      congr 1
      omega
theorem eC_uns (a : Int32) : fC_unsigned a = zL (kA a) := by
  unfold fC_unsigned kA
  rw [zI_x, zL_mask a.toInt 32 (by decide) rfl (P := 4294967296) rfl]
theorem eM_low (a : Int32) : fM_low a = zL (kA a) := eC_uns a
theorem eC_below {v d : Int} (v0 : 0 ≤ v) (v1 : v < 256) (d0 : 0 ≤ d) (d1 : d < 8) : fC_below (zI v) (zI d) = zI (kBl v d) := by
  unfold fC_below kBl
  rw [zs_5 v0 (by omega)]
  by_cases h : v / 32 < d
  · rw [if_neg (fun h3 => absurd ((zI_le (by omega) (by omega) (by omega) (by omega)).mp h3) (by omega)), if_pos h]
    rfl
  · rw [if_pos ((zI_le (by omega) (by omega) (by omega) (by omega)).mpr (by omega)), if_neg h]
    rfl
theorem kBl_01 (v d : Int) : 0 ≤ kBl v d ∧ kBl v d ≤ 1 := by
  unfold kBl
  split <;> omega
theorem eC_placed (x a : Int32) {v : Int} (v0 : 0 ≤ v) (v1 : v < 256) : fC_placed x a (zI v) = zL (kPl x.toInt (kA a) v) := by
  have hb := kB_in x.toInt
  have he := kE_le x.toInt
  have ha := kA_in a
  have hd := kEd_in x.toInt
  have g1 := kBl_01 v (kEd x.toInt)
  have g2 := kBl_01 (kA a / p2 (kE x.toInt) % 256) (kEd x.toInt)
  unfold fC_placed kPl
  rw [eC_exp, eC_base, eC_uns]
  have e8 : zI (kE x.toInt) + (8 : Int32) = zI ((kE x.toInt + 8 : Nat) : Int) := by
    show _ + zI 8 = _
    rw [zI_add]
    congr 1
  have ed : ((zI (kB x.toInt) >>> ((5 : Int32) &&& 31)) - (1 : Int32)) &&& (7 : Int32) = zI (kEd x.toInt) := by
    rw [zs_5 hb.1 (by omega), z_1, zI_sub, zm_7]
    congr 1
    unfold kEd
    omega
  rw [e8, ed, zL_shr ha.1 (by omega) (kE x.toInt + 8) (by omega) rfl rfl, zL_shr ha.1 (by omega) (kE x.toInt) (by omega) rfl rfl, zL_i, zm_255, eC_below v0 v1 hd.1 hd.2, eC_below (by omega) (by omega) hd.1 hd.2, zI_l (z := kBl v (kEd x.toInt)) (by omega) (by omega), zI_l (z := kBl (kA a / p2 (kE x.toInt) % 256) (kEd x.toInt)) (by omega) (by omega), zI_l (z := v) (by omega) (by omega), zL_add, zL_sub, zL_shl _ (kE x.toInt + 8) (by omega) rfl rfl, zL_shl _ (kE x.toInt) (by omega) rfl rfl, zL_add]
theorem eC_baseOf (x a : Int32) : fC_baseOf x a = zL (kBase x.toInt (kA a)) := by
  have hb := kB_in x.toInt
  unfold fC_baseOf kBase
  rw [eC_base, eC_placed x a hb.1 hb.2, zL_mask _ 32 (by decide) rfl (P := 4294967296) rfl]
theorem eC_topOf (x a : Int32) : fC_topOf x a = zL (kTop x.toInt (kA a)) := by
  have hb := kB_in x.toInt
  have ht := kT_in x.toInt
  have he := kE_le x.toInt
  have i0 := kTop0_in x.toInt (kA a)
  have i1 := kBase_in x.toInt (kA a)
  have e0 : fC_placed x a (fC_topMantissa x) &&& (8589934591 : Int64) = zL (kTop0 x.toInt (kA a)) := by
    rw [eC_top, eC_placed x a ht.1 ht.2, zL_mask _ 33 (by decide) rfl (P := 8589934592) rfl]
    rfl
  have e1 : fC_placed x a (fC_baseMantissa x) &&& (4294967295 : Int64) = zL (kBase x.toInt (kA a)) := eC_baseOf x a
  have e25 : (25 : Int32) = zI 25 := by decide
  have e3 : ∀ z : Int, zL z &&& (3 : Int64) = zL (z % 4) := fun z => zL_mask z 2 (by decide) rfl (P := 4) rfl
  have e11 : (1 : Int64) = zL 1 := by decide
  unfold fC_topOf kTop
  rw [e0, e1, eC_exp, e25, zL_shr i0.1 (by omega) 31 (by decide) (y := 31) (by decide) (P := 2147483648) rfl, zL_shr i1.1 (by omega) 31 (by decide) (y := 31) (by decide) (P := 2147483648) rfl, zL_sub, e3, e11, zL_x32 i0.1 i0.2]
  by_cases h : kE x.toInt < 25
  · rw [if_neg (fun h3 => absurd ((zI_le (by omega) (by omega) (by omega) (by omega)).mp h3) (by omega))]
    by_cases h2 : 1 < (kTop0 x.toInt (kA a) / 2147483648 - kBase x.toInt (kA a) / 2147483648) % 4
    · rw [if_neg (fun h3 => absurd ((zL_le (by omega) (by omega) (by omega) (by omega)).mp h3) (by omega)), if_pos ⟨h, h2⟩]
    · rw [if_pos ((zL_le (by omega) (by omega) (by omega) (by omega)).mpr (by omega)), if_neg (fun h3 => h2 h3.2)]
  · rw [if_pos ((zI_le (by omega) (by omega) (by omega) (by omega)).mpr (by omega)), if_neg (fun h3 => h h3.1)]
end
section
/-! bitsOf: the class's loop; floorMod in numbers. -/
def zb (n : Int64) : Nat → Nat → Nat
  | 0, i => i
  | k + 1, i => if n >>> ((zI (i : Nat)).toInt64 &&& 63) = 0 then i else zb n k (i + 1)
def fC_bitsOf (n : Int64) : Int32 := zI (zb n 26 0 : Nat)
set_option maxHeartbeats 4000000 in
set_option maxRecDepth 100000 in
theorem kC_bitsOf (l : Launch) (H : Heap) (n : Int64) : Met l yC_bitsOf wC_bitsOf { frames := 0, cells := 0, slots := 0, locals := 0 } (va_Pc [.long n] (fun U => U.heap = H)) (va_Qi (fun v9 (_ : Unit) => v9 = fC_bitsOf n) (fun _ t => t.heap = H) (fun _ => False)) 0 0 (fun _ => False) := by
  refine Met.ofW (cc := cC_bitsOf) (maxL := 3) (ret := (some .int)) (by decide) rfl ?_
  intro p e s m args below meth c s₁ B hml hv
  obtain ⟨rfl, hH⟩ := hv
  have hx := B.exec
  have hb := B.bytes
  have hr := B.returns
  have hlocks := B.notSynchronized
  have hS : va_S (fun _ => False) s.heap s.heap [] := va_S.rf
  have hl := lv_entry ([.long n]) (n := 3) (Nat.le_of_ble_eq_true rfl)
  rw [lg_entry_eq]
  generalize (lg_sl ([.long n]) ++ List.replicate (3 - (lg_sl ([.long n])).length) Slot.unset).toArray = ls at hl ⊢
  have hl : lv_has ls 3 [(0, .long n)] := hl
  have key : ∀ (k i : Nat), i + k = 26 → zb n 26 0 = zb n k i → ∀ ls : Array Slot, lv_has ls 3 [(2, .int (zI (i : Nat))), (0, .long n)] → W p l e (headSpec wC_bitsOf { frames := 0, cells := 0, slots := 0, locals := 0 }).room s m [Value.long n].toArray below meth c s.heap [] 0 0 (MQ below (va_Qi (fun v9 (_ : Unit) => v9 = fC_bitsOf n) (fun _ t => t.heap = H) (fun _ => False)) [Value.long n].toArray s 0 0 (fun _ => False)) (F0 m 2 ls []) := by
    intro k
    induction k with
    | zero =>
      intro i hi hz ls hl
      have h26 : i = 26 := by omega
      subst h26
      refine lv_iload_n hx hb dC_bitsOf_2 rfl (lv_at hl 0 rfl) ?_
      refine lv_bipush (v := 26) hx hb dC_bitsOf_3 (by decide) ?_
      refine lv_icmp_ge (tgt := 22) hx hb dC_bitsOf_5 rfl (fun h1 => ?_) (fun h1 => absurd (show (26 : Int32) ≤ zI ((26 : Nat) : Int) by decide) h1)
      refine lv_iload_n hx hb dC_bitsOf_22 rfl (lv_at hl 0 rfl) ?_
      exact W.iret (v := zI ((26 : Nat) : Int)) hx hb hr (fun t ht hW => ⟨⟨zI ((26 : Nat) : Int), (), rfl, (by unfold fC_bitsOf; rw [hz]; rfl), ht.trans hH⟩, hS.F ht⟩) hS.2.2 dC_bitsOf_23
    | succ k ih =>
      intro i hi hz ls hl
      refine lv_iload_n hx hb dC_bitsOf_2 rfl (lv_at hl 0 rfl) ?_
      refine lv_bipush (v := 26) hx hb dC_bitsOf_3 (by decide) ?_
      have e26 : (26 : Int32) = zI 26 := by decide
      refine lv_icmp_ge (tgt := 22) hx hb dC_bitsOf_5 rfl (fun h1 => ?_) (fun h1 => ?_)
      · rw [e26, zI_le (by omega) (by omega) (by omega) (by omega)] at h1
        omega
      refine lv_lload_n hx hb dC_bitsOf_8 rfl (lv_at hl 1 rfl) ?_
      refine lv_iload_n hx hb dC_bitsOf_9 rfl (lv_at hl 0 rfl) ?_
      refine lv_lshr hx hb dC_bitsOf_10 rfl ?_
      refine lv_lconst (v := 0) hx hb dC_bitsOf_11 (by decide) ?_
      refine W.lcmp hx hb dC_bitsOf_12 ?_
      refine lv_if_eq (tgt := 22) hx hb dC_bitsOf_13 rfl (fun h2 => ?_) (fun h2 => ?_)
      · have h2 := (lg_cmp_eq _ _).mp h2
        refine lv_iload_n hx hb dC_bitsOf_22 rfl (lv_at hl 0 rfl) ?_
        have ez : zb n 26 0 = i := by rw [hz, zb, if_pos h2]
        exact W.iret (v := zI (i : Nat)) hx hb hr (fun t ht hW => ⟨⟨zI (i : Nat), (), rfl, (by unfold fC_bitsOf; rw [ez]), ht.trans hH⟩, hS.F ht⟩) hS.2.2 dC_bitsOf_23
      · have h2 := mt (lg_cmp_eq _ _).mpr h2
        have ez : zb n 26 0 = zb n k (i + 1) := by rw [hz, zb, if_neg h2]
        refine lv_iinc (k := 0) (v := zI ((i + 1 : Nat) : Int)) (lv' := [(2, .int (zI ((i + 1 : Nat) : Int))), (0, .long n)]) hx hb dC_bitsOf_16 hl rfl (by show zI _ + zI 1 = _; rw [zI_add]; rfl) (by decide) rfl (fun ls hl => ?_)
        refine lv_goto (tgt := 2) hx hb dC_bitsOf_19 rfl ?_
        exact ih (i + 1) (by omega) ez ls hl
  refine lv_iconst (v := 0) hx hb dC_bitsOf_0 (by decide) ?_
  refine lv_istore_n (lv' := [(2, .int (zI ((0 : Nat) : Int))), (0, .long n)]) hx hb dC_bitsOf_1 rfl hl (by decide) rfl (fun ls hl => ?_)
  exact key 26 0 rfl rfl ls hl
theorem p2_le {a b : Nat} (h : a ≤ b) : p2 a ≤ p2 b := by
  have := Nat.pow_le_pow_right (n := 2) (by decide) h
  unfold p2
  omega
theorem zb_eq {n : Int} (h0 : 0 ≤ n) (h1 : n < 9223372036854775808) : ∀ (k i : Nat), i + k ≤ 63 → i ≤ kL n → kL n ≤ i + k → zb (zL n) k i = kL n := by
  intro k
  induction k with
  | zero =>
    intro i _ h2 h3
    show i = _
    omega
  | succ k ih =>
    intro i hi h2 h3
    have hp := p2_pos i
    rw [zb, zL_shr h0 h1 i (by omega) rfl rfl]
    have a1 : 0 ≤ n / p2 i := Int.ediv_nonneg h0 (by omega)
    have a2 : n / p2 i ≤ n := Int.ediv_le_self _ h0
    have e0 : (0 : Int64) = zL 0 := by decide
    by_cases h : i < kL n
    · have h4 := kL_ge h
      have h5 : 1 ≤ n / p2 i := (Int.le_ediv_iff_mul_le hp).mpr (by omega)
      rw [if_neg (by rw [e0, zL_eq (by omega) (by omega) (by omega) (by omega)]; omega)]
      exact ih (i + 1) (by omega) (by omega) (by omega)
    · have h4 : kL n = i := by omega
      have h5 := kL_lt h0
      rw [h4] at h5
      have h6 : n / p2 i = 0 := Int.ediv_eq_zero_of_lt h0 h5
      rw [if_pos (by rw [h6]; rfl), h4]
theorem eC_bits {n : Int} (h0 : 0 ≤ n) (h1 : n < 67108864) : fC_bitsOf (zL n) = zI (kL n : Nat) := by
  have h2 : kL n ≤ 26 := kL_le h1
  unfold fC_bitsOf
  rw [zb_eq h0 (by omega) 26 0 (by omega) (by omega) (by omega)]
theorem z_xs {x y : Int} (x0 : -9223372036854775808 ≤ x) (x1 : x < 9223372036854775808) (y0 : 0 ≤ y) (y1 : y < 9223372036854775808) : (0 : Int64) ≤ (zL x ^^^ zL y) ↔ 0 ≤ x := by
  have e : (zL x ^^^ zL y).toBitVec.msb = ((zL x).toBitVec.msb ^^ (zL y).toBitVec.msb) := by
    rw [Int64.toBitVec_xor, BitVec.msb_xor]
  rw [BitVec.msb_eq_toInt, BitVec.msb_eq_toInt, BitVec.msb_eq_toInt, Int64.toInt_toBitVec, Int64.toInt_toBitVec, Int64.toInt_toBitVec, zL_int x0 x1, zL_int (by omega) y1] at e
  have hy : ¬ y < 0 := by omega
  rw [Int64.le_iff_toInt_le, Int64.toInt_zero]
  simp only [hy, decide_false, Bool.xor_false] at e
  have e2 := decide_eq_decide.mp e
  omega
theorem z_dv {x y : Int} (x0 : -4611686018427387904 ≤ x) (x1 : x < 4611686018427387904) (y0 : 0 < y) (y1 : y < 4611686018427387904) : zL x - zL x / zL y * zL y = zL (x.tmod y) := by
  have e1 : zL x / zL y = zL (x.tdiv y) := by
    apply Int64.toInt_inj.mp
    have hn : zL y ≠ -1 := by
      intro h
      have h := congrArg Int64.toInt h
      rw [zL_int (by omega) (by omega)] at h
      have : (-1 : Int64).toInt = -1 := by decide
      omega
    rw [Int64.toInt_div_of_ne_right _ _ hn, zL_int (by omega) (by omega), zL_int (by omega) (by omega)]
    have b2 : (x.tdiv y).natAbs ≤ x.natAbs := Int.natAbs_tdiv_le_natAbs x y
    rw [zL_int (by omega) (by omega)]
  rw [e1, zL_mul, zL_sub]
  congr 1
  have := Int.tdiv_mul_add_tmod x y
  omega
theorem eJ_floorMod {x y : Int} (x0 : -4611686018427387904 ≤ x) (x1 : x < 4611686018427387904) (y0 : 0 < y) (y1 : y < 4611686018427387904) : fJ_floorMod (zL x) (zL y) = zL (x % y) := by
  have m0 : 0 ≤ x % y := Int.emod_nonneg _ (by omega)
  have m1 : x % y < y := Int.emod_lt_of_pos _ y0
  have e0 : (0 : Int64) = zL 0 := by decide
  unfold fJ_floorMod
  rw [z_dv x0 x1 y0 y1]
  by_cases h : 0 ≤ x
  · rw [if_pos ((z_xs (by omega) (by omega) (by omega) (by omega)).mpr h), Int.tmod_eq_emod_of_nonneg h]
  · rw [if_neg (mt (z_xs (by omega) (by omega) (by omega) (by omega)).mp h)]
    have et := @Int.tmod_eq_emod x y
    by_cases hd : y ∣ x
    · rw [if_pos (Or.inr hd)] at et
      have hz : x % y = 0 := Int.emod_eq_zero_of_dvd hd
      have e2 : x.tmod y = 0 := by omega
      rw [e2, if_pos e0.symm, hz]
    · rw [if_neg (by intro h3; rcases h3 with h3 | h3; exact h h3; exact hd h3)] at et
      have hz : x % y ≠ 0 := fun h3 => hd (Int.dvd_of_emod_eq_zero h3)
      have e2 : x.tmod y = x % y - y := by omega
      rw [e2, e0, if_neg (by rw [zL_eq (by omega) (by omega) (by omega) (by omega)]; omega), zL_add]
      congr 1
      omega
end
section
def fC_fittingExponent (b : Int64) (t : Int64) : Int32 := if (((fC_roundedUp t (fC_bitsOf ((t - b) >>> ((7 : Int32).toInt64 &&& 63)))) - (fC_roundedDown b (fC_bitsOf ((t - b) >>> ((7 : Int32).toInt64 &&& 63))))) >>> (((fC_bitsOf ((t - b) >>> ((7 : Int32).toInt64 &&& 63))) + (3 : Int32)).toInt64 &&& 63)) < (16 : Int64) then (fC_bitsOf ((t - b) >>> ((7 : Int32).toInt64 &&& 63))) else ((fC_bitsOf ((t - b) >>> ((7 : Int32).toInt64 &&& 63))) + (1 : Int32))
set_option maxHeartbeats 4000000 in
set_option maxRecDepth 100000 in
theorem kC_fittingExponent (l : Launch) (H : Heap) (b : Int64) (t : Int64) : Met l yC_fittingExponent wC_fittingExponent { frames := 2, cells := 0, slots := 0, locals := 44 } (va_Pc [.long b, .long t] (fun U => U.heap = H)) (va_Qi (fun v9 (_ : Unit) => v9 = fC_fittingExponent b t) (fun _ t => t.heap = H) (fun _ => False)) 0 0 (fun _ => False) := by
  refine Met.ofW (cc := cC_fittingExponent) (maxL := 7) (ret := (some .int)) (by decide) rfl ?_
  intro p e s m args below meth c s₁ B hml hv
  obtain ⟨rfl, hH⟩ := hv
  have hx := B.exec
  have hb := B.bytes
  have hr := B.returns
  have hts := atoms_spec (ws := wC_fittingExponent) B.pre
  have hq : ∀ w ∈ wA, w.before _ s = true := fun w h => hts w (List.mem_cons_of_mem _ h)
  have hown : s.vm.findClass "CapUnit" = some m.cls := findClass_of_methodNamed B.named
  have hlocks := B.notSynchronized
  have hS : va_S (fun _ => False) s.heap s.heap [] := va_S.rf
  have hl := lv_entry ([.long b, .long t]) (n := 7) (Nat.le_of_ble_eq_true rfl)
  rw [lg_entry_eq]
  generalize (lg_sl ([.long b, .long t]) ++ List.replicate (7 - (lg_sl ([.long b, .long t])).length) Slot.unset).toArray = ls at hl ⊢
  have hl : lv_has ls 7 [(0, .long b), (2, .long t)] := hl
  refine lv_lload_n hx hb dC_fittingExponent_0 rfl (lv_at hl 1 rfl) ?_
  refine lv_lload_n hx hb dC_fittingExponent_1 rfl (lv_at hl 0 rfl) ?_
  refine lv_lsub hx hb dC_fittingExponent_2 ?_
  refine lv_bipush (v := 7) hx hb dC_fittingExponent_3 (by decide) ?_
  refine lv_lshr hx hb dC_fittingExponent_5 rfl ?_
  refine zc_i (va_runS (As := [.long ((t - b) >>> ((7 : Int32).toInt64 &&& 63))]) (rest := []) ⟨hx, hb, hml, hown, hq⟩ (kC_bitsOf l s.heap ((t - b) >>> ((7 : Int32).toInt64 &&& 63))) (va_cwS 1 hq (wA_S q_221 q_222 q_1 q_223) rfl rfl rfl (by decide +kernel) ⟨Nat.le_of_ble_eq_true rfl, Nat.le_of_ble_eq_true rfl⟩) ⟨fun a U g mk q => q, fun U hU hW => ⟨rfl, hU⟩⟩ rfl rfl hl.1 rfl (lv_room (Nat.le_of_ble_eq_true rfl)) dC_fittingExponent_6 ⟨Nat.zero_le _, Nat.zero_le _⟩) hS (fun locs hS => ?_)
  refine lv_istore (lv' := [(4, .int (fC_bitsOf ((t - b) >>> ((7 : Int32).toInt64 &&& 63)))), (0, .long b), (2, .long t)]) hx hb dC_fittingExponent_9 hl (by decide) rfl (fun ls hl => ?_)
  refine lv_lload_n hx hb dC_fittingExponent_11 rfl (lv_at hl 2 rfl) ?_
  refine lv_iload hx hb dC_fittingExponent_12 (lv_at hl 0 rfl) ?_
  refine zc_l (va_runS (As := [.long t, .int (fC_bitsOf ((t - b) >>> ((7 : Int32).toInt64 &&& 63)))]) (rest := []) ⟨hx, hb, hml, hown, hq⟩ (kC_roundedUp l s.heap t (fC_bitsOf ((t - b) >>> ((7 : Int32).toInt64 &&& 63)))) (va_cwS 2 hq (wA_S q_224 q_225 q_1 q_226) rfl rfl rfl (by decide +kernel) ⟨Nat.le_of_ble_eq_true rfl, Nat.le_of_ble_eq_true rfl⟩) ⟨fun a U g mk q => q, fun U hU hW => ⟨rfl, hU⟩⟩ rfl rfl hl.1 rfl (lv_room (Nat.le_of_ble_eq_true rfl)) dC_fittingExponent_14 ⟨Nat.zero_le _, Nat.zero_le _⟩) hS (fun locs hS => ?_)
  refine lv_lload_n hx hb dC_fittingExponent_17 rfl (lv_at hl 1 rfl) ?_
  refine lv_iload hx hb dC_fittingExponent_18 (lv_at hl 0 rfl) ?_
  refine zc_l (va_runS (As := [.long b, .int (fC_bitsOf ((t - b) >>> ((7 : Int32).toInt64 &&& 63)))]) (rest := [.long (fC_roundedUp t (fC_bitsOf ((t - b) >>> ((7 : Int32).toInt64 &&& 63))))]) ⟨hx, hb, hml, hown, hq⟩ (kC_roundedDown l s.heap b (fC_bitsOf ((t - b) >>> ((7 : Int32).toInt64 &&& 63)))) (va_cwS 2 hq (wA_S q_227 q_228 q_1 q_229) rfl rfl rfl (by decide +kernel) ⟨Nat.le_of_ble_eq_true rfl, Nat.le_of_ble_eq_true rfl⟩) ⟨fun a U g mk q => q, fun U hU hW => ⟨rfl, hU⟩⟩ rfl rfl hl.1 rfl (lv_room (Nat.le_of_ble_eq_true rfl)) dC_fittingExponent_20 ⟨Nat.zero_le _, Nat.zero_le _⟩) hS (fun locs hS => ?_)
  refine lv_lsub hx hb dC_fittingExponent_23 ?_
  refine lv_iload hx hb dC_fittingExponent_24 (lv_at hl 0 rfl) ?_
  refine lv_iconst (v := 3) hx hb dC_fittingExponent_26 (by decide) ?_
  refine lv_iadd hx hb dC_fittingExponent_27 ?_
  refine lv_lshr hx hb dC_fittingExponent_28 rfl ?_
  refine lv_lstore (lv' := [(5, .long (((fC_roundedUp t (fC_bitsOf ((t - b) >>> ((7 : Int32).toInt64 &&& 63)))) - (fC_roundedDown b (fC_bitsOf ((t - b) >>> ((7 : Int32).toInt64 &&& 63))))) >>> (((fC_bitsOf ((t - b) >>> ((7 : Int32).toInt64 &&& 63))) + (3 : Int32)).toInt64 &&& 63))), (4, .int (fC_bitsOf ((t - b) >>> ((7 : Int32).toInt64 &&& 63)))), (0, .long b), (2, .long t)]) hx hb dC_fittingExponent_29 hl (by decide) rfl (fun ls hl => ?_)
  refine lv_lload hx hb dC_fittingExponent_31 (lv_at hl 0 rfl) ?_
  refine lv_ldc2 (v := 16) hx hb hown (hts (.constantLong "CapUnit" 181 16) (by decide +kernel)) dC_fittingExponent_33 ?_
  refine W.lcmp hx hb dC_fittingExponent_36 ?_
  refine lv_if_lt (tgt := 47) hx hb dC_fittingExponent_37 rfl (fun h1 => ?_) (fun h1 => ?_)
  · have h1 := (lg_cmp_lt _ _).mp h1
    refine lv_iload hx hb dC_fittingExponent_47 (lv_at hl 1 rfl) ?_
    exact W.iret (v := fC_bitsOf ((t - b) >>> ((7 : Int32).toInt64 &&& 63))) hx hb hr (fun t9 ht hW => ⟨⟨_, (), rfl, (by unfold fC_fittingExponent; rw [if_pos h1]), ht.trans hH⟩, hS.F ht⟩) hS.2.2 dC_fittingExponent_49
  · have h1 := mt (lg_cmp_lt _ _).mpr h1
    refine lv_iload hx hb dC_fittingExponent_40 (lv_at hl 1 rfl) ?_
    refine lv_iconst (v := 1) hx hb dC_fittingExponent_42 (by decide) ?_
    refine lv_iadd hx hb dC_fittingExponent_43 ?_
    refine lv_goto (tgt := 49) hx hb dC_fittingExponent_44 rfl ?_
    exact W.iret (v := (fC_bitsOf ((t - b) >>> ((7 : Int32).toInt64 &&& 63))) + (1 : Int32)) hx hb hr (fun t9 ht hW => ⟨⟨_, (), rfl, (by unfold fC_fittingExponent; rw [if_neg h1]), ht.trans hH⟩, hS.F ht⟩) hS.2.2 dC_fittingExponent_49
def fC_packed (b : Int64) (t : Int64) : Int32 := if (63 : Int64) < (t - b) then (if (fC_roundedDown b (fC_fittingExponent b t)) = b then (if (fC_roundedUp t (fC_fittingExponent b t)) = t then ((((32768 : Int32) ||| (16384 : Int32)) ||| ((((((fC_roundedUp t (fC_fittingExponent b t)) >>> ((fC_fittingExponent b t).toInt64 &&& 63)).toInt32) &&& (63 : Int32)) ||| ((fC_fittingExponent b t) >>> ((3 : Int32) &&& 31))) <<< ((8 : Int32) &&& 31))) ||| (((((fC_roundedDown b (fC_fittingExponent b t)) >>> ((fC_fittingExponent b t).toInt64 &&& 63)).toInt32) &&& (255 : Int32)) ||| ((fC_fittingExponent b t) &&& (7 : Int32)))) else ((((0 : Int32) ||| (16384 : Int32)) ||| ((((((fC_roundedUp t (fC_fittingExponent b t)) >>> ((fC_fittingExponent b t).toInt64 &&& 63)).toInt32) &&& (63 : Int32)) ||| ((fC_fittingExponent b t) >>> ((3 : Int32) &&& 31))) <<< ((8 : Int32) &&& 31))) ||| (((((fC_roundedDown b (fC_fittingExponent b t)) >>> ((fC_fittingExponent b t).toInt64 &&& 63)).toInt32) &&& (255 : Int32)) ||| ((fC_fittingExponent b t) &&& (7 : Int32))))) else ((((0 : Int32) ||| (16384 : Int32)) ||| ((((((fC_roundedUp t (fC_fittingExponent b t)) >>> ((fC_fittingExponent b t).toInt64 &&& 63)).toInt32) &&& (63 : Int32)) ||| ((fC_fittingExponent b t) >>> ((3 : Int32) &&& 31))) <<< ((8 : Int32) &&& 31))) ||| (((((fC_roundedDown b (fC_fittingExponent b t)) >>> ((fC_fittingExponent b t).toInt64 &&& 63)).toInt32) &&& (255 : Int32)) ||| ((fC_fittingExponent b t) &&& (7 : Int32))))) else (((32768 : Int32) ||| (((t &&& (63 : Int64)).toInt32) <<< ((8 : Int32) &&& 31))) ||| ((b &&& (255 : Int64)).toInt32))
set_option maxHeartbeats 4000000 in
set_option maxRecDepth 100000 in
theorem kC_packed (l : Launch) (H : Heap) (b : Int64) (t : Int64) : Met l yC_packed wC_packed { frames := 3, cells := 0, slots := 0, locals := 70 } (va_Pc [.long b, .long t] (fun U => U.heap = H)) (va_Qi (fun v9 (_ : Unit) => v9 = fC_packed b t) (fun _ t => t.heap = H) (fun _ => False)) 0 0 (fun _ => False) := by
  refine Met.ofW (cc := cC_packed) (maxL := 12) (ret := (some .int)) (by decide) rfl ?_
  intro p e s m args below meth c s₁ B hml hv
  obtain ⟨rfl, hH⟩ := hv
  have hx := B.exec
  have hb := B.bytes
  have hr := B.returns
  have hts := atoms_spec (ws := wC_packed) B.pre
  have hq : ∀ w ∈ wA, w.before _ s = true := fun w h => hts w (List.mem_cons_of_mem _ h)
  have hown : s.vm.findClass "CapUnit" = some m.cls := findClass_of_methodNamed B.named
  have hlocks := B.notSynchronized
  have hS : va_S (fun _ => False) s.heap s.heap [] := va_S.rf
  have hl := lv_entry ([.long b, .long t]) (n := 12) (Nat.le_of_ble_eq_true rfl)
  rw [lg_entry_eq]
  generalize (lg_sl ([.long b, .long t]) ++ List.replicate (12 - (lg_sl ([.long b, .long t])).length) Slot.unset).toArray = ls at hl ⊢
  have hl : lv_has ls 12 [(0, .long b), (2, .long t)] := hl
  refine lv_lload_n hx hb dC_packed_0 rfl (lv_at hl 1 rfl) ?_
  refine lv_lload_n hx hb dC_packed_1 rfl (lv_at hl 0 rfl) ?_
  refine lv_lsub hx hb dC_packed_2 ?_
  refine lv_ldc2 (v := 63) hx hb hown (hts (.constantLong "CapUnit" 163 63) (by decide +kernel)) dC_packed_3 ?_
  refine W.lcmp hx hb dC_packed_6 ?_
  refine lv_if_gt (tgt := 30) hx hb dC_packed_7 rfl (fun h1 => ?_) (fun h1 => ?_)
  · have h1 := (lg_cmp_gt _ _).mp h1
    refine lv_lload_n hx hb dC_packed_30 rfl (lv_at hl 0 rfl) ?_
    refine lv_lload_n hx hb dC_packed_31 rfl (lv_at hl 1 rfl) ?_
    refine zc_i (va_runS (As := [.long b, .long t]) (rest := []) ⟨hx, hb, hml, hown, hq⟩ (kC_fittingExponent l s.heap b t) (va_cwS 2 hq (wA_S q_218 q_219 q_1 q_220) rfl rfl rfl (by decide +kernel) ⟨Nat.le_of_ble_eq_true rfl, Nat.le_of_ble_eq_true rfl⟩) ⟨fun a U g mk q => q, fun U hU hW => ⟨rfl, hU⟩⟩ rfl rfl hl.1 rfl (lv_room (Nat.le_of_ble_eq_true rfl)) dC_packed_32 ⟨Nat.zero_le _, Nat.zero_le _⟩) hS (fun locs hS => ?_)
    refine lv_istore (lv' := [(4, .int (fC_fittingExponent b t)), (0, .long b), (2, .long t)]) hx hb dC_packed_35 hl (by decide) rfl (fun ls hl => ?_)
    refine lv_lload_n hx hb dC_packed_37 rfl (lv_at hl 1 rfl) ?_
    refine lv_iload hx hb dC_packed_38 (lv_at hl 0 rfl) ?_
    refine zc_l (va_runS (As := [.long b, .int (fC_fittingExponent b t)]) (rest := []) ⟨hx, hb, hml, hown, hq⟩ (kC_roundedDown l s.heap b (fC_fittingExponent b t)) (va_cwS 2 hq (wA_S q_227 q_228 q_1 q_229) rfl rfl rfl (by decide +kernel) ⟨Nat.le_of_ble_eq_true rfl, Nat.le_of_ble_eq_true rfl⟩) ⟨fun a U g mk q => q, fun U hU hW => ⟨rfl, hU⟩⟩ rfl rfl hl.1 rfl (lv_room (Nat.le_of_ble_eq_true rfl)) dC_packed_40 ⟨Nat.zero_le _, Nat.zero_le _⟩) hS (fun locs hS => ?_)
    refine lv_lstore (lv' := [(5, .long (fC_roundedDown b (fC_fittingExponent b t))), (4, .int (fC_fittingExponent b t)), (0, .long b), (2, .long t)]) hx hb dC_packed_43 hl (by decide) rfl (fun ls hl => ?_)
    refine lv_lload_n hx hb dC_packed_45 rfl (lv_at hl 3 rfl) ?_
    refine lv_iload hx hb dC_packed_46 (lv_at hl 1 rfl) ?_
    refine zc_l (va_runS (As := [.long t, .int (fC_fittingExponent b t)]) (rest := []) ⟨hx, hb, hml, hown, hq⟩ (kC_roundedUp l s.heap t (fC_fittingExponent b t)) (va_cwS 2 hq (wA_S q_224 q_225 q_1 q_226) rfl rfl rfl (by decide +kernel) ⟨Nat.le_of_ble_eq_true rfl, Nat.le_of_ble_eq_true rfl⟩) ⟨fun a U g mk q => q, fun U hU hW => ⟨rfl, hU⟩⟩ rfl rfl hl.1 rfl (lv_room (Nat.le_of_ble_eq_true rfl)) dC_packed_48 ⟨Nat.zero_le _, Nat.zero_le _⟩) hS (fun locs hS => ?_)
    refine lv_lstore (lv' := [(7, .long (fC_roundedUp t (fC_fittingExponent b t))), (5, .long (fC_roundedDown b (fC_fittingExponent b t))), (4, .int (fC_fittingExponent b t)), (0, .long b), (2, .long t)]) hx hb dC_packed_51 hl (by decide) rfl (fun ls hl => ?_)
    refine lv_lload hx hb dC_packed_53 (lv_at hl 1 rfl) ?_
    refine lv_iload hx hb dC_packed_55 (lv_at hl 2 rfl) ?_
    refine lv_lshr hx hb dC_packed_57 rfl ?_
    refine lv_l2i hx hb dC_packed_58 rfl ?_
    refine lv_sipush (v := 255) hx hb dC_packed_59 (by decide) ?_
    refine lv_iand hx hb dC_packed_62 ?_
    refine lv_iload hx hb dC_packed_63 (lv_at hl 2 rfl) ?_
    refine lv_bipush (v := 7) hx hb dC_packed_65 (by decide) ?_
    refine lv_iand hx hb dC_packed_67 ?_
    refine lv_ior hx hb dC_packed_68 ?_
    refine lv_istore (lv' := [(9, .int (((((fC_roundedDown b (fC_fittingExponent b t)) >>> ((fC_fittingExponent b t).toInt64 &&& 63)).toInt32) &&& (255 : Int32)) ||| ((fC_fittingExponent b t) &&& (7 : Int32)))), (7, .long (fC_roundedUp t (fC_fittingExponent b t))), (5, .long (fC_roundedDown b (fC_fittingExponent b t))), (4, .int (fC_fittingExponent b t)), (0, .long b), (2, .long t)]) hx hb dC_packed_69 hl (by decide) rfl (fun ls hl => ?_)
    refine lv_lload hx hb dC_packed_71 (lv_at hl 1 rfl) ?_
    refine lv_iload hx hb dC_packed_73 (lv_at hl 3 rfl) ?_
    refine lv_lshr hx hb dC_packed_75 rfl ?_
    refine lv_l2i hx hb dC_packed_76 rfl ?_
    refine lv_bipush (v := 63) hx hb dC_packed_77 (by decide) ?_
    refine lv_iand hx hb dC_packed_79 ?_
    refine lv_iload hx hb dC_packed_80 (lv_at hl 3 rfl) ?_
    refine lv_iconst (v := 3) hx hb dC_packed_82 (by decide) ?_
    refine lv_ishr hx hb dC_packed_83 ?_
    refine lv_ior hx hb dC_packed_84 ?_
    refine lv_istore (lv' := [(10, .int (((((fC_roundedUp t (fC_fittingExponent b t)) >>> ((fC_fittingExponent b t).toInt64 &&& 63)).toInt32) &&& (63 : Int32)) ||| ((fC_fittingExponent b t) >>> ((3 : Int32) &&& 31)))), (9, .int (((((fC_roundedDown b (fC_fittingExponent b t)) >>> ((fC_fittingExponent b t).toInt64 &&& 63)).toInt32) &&& (255 : Int32)) ||| ((fC_fittingExponent b t) &&& (7 : Int32)))), (7, .long (fC_roundedUp t (fC_fittingExponent b t))), (5, .long (fC_roundedDown b (fC_fittingExponent b t))), (4, .int (fC_fittingExponent b t)), (0, .long b), (2, .long t)]) hx hb dC_packed_85 hl (by decide) rfl (fun ls hl => ?_)
    refine lv_lload hx hb dC_packed_87 (lv_at hl 3 rfl) ?_
    refine lv_lload_n hx hb dC_packed_89 rfl (lv_at hl 5 rfl) ?_
    refine W.lcmp hx hb dC_packed_90 ?_
    refine lv_if_ne (tgt := 106) hx hb dC_packed_91 rfl (fun h2 => ?_) (fun h2 => ?_)
    · have h2 := mt (lg_cmp_eq _ _).mpr h2
      refine lv_iconst (v := 0) hx hb dC_packed_106 (by decide) ?_
      refine lv_istore (lv' := [(11, .int (0 : Int32)), (10, .int (((((fC_roundedUp t (fC_fittingExponent b t)) >>> ((fC_fittingExponent b t).toInt64 &&& 63)).toInt32) &&& (63 : Int32)) ||| ((fC_fittingExponent b t) >>> ((3 : Int32) &&& 31)))), (9, .int (((((fC_roundedDown b (fC_fittingExponent b t)) >>> ((fC_fittingExponent b t).toInt64 &&& 63)).toInt32) &&& (255 : Int32)) ||| ((fC_fittingExponent b t) &&& (7 : Int32)))), (7, .long (fC_roundedUp t (fC_fittingExponent b t))), (5, .long (fC_roundedDown b (fC_fittingExponent b t))), (4, .int (fC_fittingExponent b t)), (0, .long b), (2, .long t)]) hx hb dC_packed_107 hl (by decide) rfl (fun ls hl => ?_)
      refine lv_iload hx hb dC_packed_109 (lv_at hl 0 rfl) ?_
      refine lv_sipush (v := 16384) hx hb dC_packed_111 (by decide) ?_
      refine lv_ior hx hb dC_packed_114 ?_
      refine lv_iload hx hb dC_packed_115 (lv_at hl 1 rfl) ?_
      refine lv_bipush (v := 8) hx hb dC_packed_117 (by decide) ?_
      refine lv_ishl hx hb dC_packed_119 ?_
      refine lv_ior hx hb dC_packed_120 ?_
      refine lv_iload hx hb dC_packed_121 (lv_at hl 2 rfl) ?_
      refine lv_ior hx hb dC_packed_123 ?_
      exact W.iret (v := (((0 : Int32) ||| (16384 : Int32)) ||| ((((((fC_roundedUp t (fC_fittingExponent b t)) >>> ((fC_fittingExponent b t).toInt64 &&& 63)).toInt32) &&& (63 : Int32)) ||| ((fC_fittingExponent b t) >>> ((3 : Int32) &&& 31))) <<< ((8 : Int32) &&& 31))) ||| (((((fC_roundedDown b (fC_fittingExponent b t)) >>> ((fC_fittingExponent b t).toInt64 &&& 63)).toInt32) &&& (255 : Int32)) ||| ((fC_fittingExponent b t) &&& (7 : Int32)))) hx hb hr (fun t9 ht hW => ⟨⟨_, (), rfl, (by unfold fC_packed; rw [if_pos h1, if_neg h2]), ht.trans hH⟩, hS.F ht⟩) hS.2.2 dC_packed_124
    · have h2 := (lg_cmp_eq _ _).mp h2
      refine lv_lload hx hb dC_packed_94 (lv_at hl 2 rfl) ?_
      refine lv_lload_n hx hb dC_packed_96 rfl (lv_at hl 6 rfl) ?_
      refine W.lcmp hx hb dC_packed_97 ?_
      refine lv_if_ne (tgt := 106) hx hb dC_packed_98 rfl (fun h3 => ?_) (fun h3 => ?_)
      · have h3 := mt (lg_cmp_eq _ _).mpr h3
        refine lv_iconst (v := 0) hx hb dC_packed_106 (by decide) ?_
        refine lv_istore (lv' := [(11, .int (0 : Int32)), (10, .int (((((fC_roundedUp t (fC_fittingExponent b t)) >>> ((fC_fittingExponent b t).toInt64 &&& 63)).toInt32) &&& (63 : Int32)) ||| ((fC_fittingExponent b t) >>> ((3 : Int32) &&& 31)))), (9, .int (((((fC_roundedDown b (fC_fittingExponent b t)) >>> ((fC_fittingExponent b t).toInt64 &&& 63)).toInt32) &&& (255 : Int32)) ||| ((fC_fittingExponent b t) &&& (7 : Int32)))), (7, .long (fC_roundedUp t (fC_fittingExponent b t))), (5, .long (fC_roundedDown b (fC_fittingExponent b t))), (4, .int (fC_fittingExponent b t)), (0, .long b), (2, .long t)]) hx hb dC_packed_107 hl (by decide) rfl (fun ls hl => ?_)
        refine lv_iload hx hb dC_packed_109 (lv_at hl 0 rfl) ?_
        refine lv_sipush (v := 16384) hx hb dC_packed_111 (by decide) ?_
        refine lv_ior hx hb dC_packed_114 ?_
        refine lv_iload hx hb dC_packed_115 (lv_at hl 1 rfl) ?_
        refine lv_bipush (v := 8) hx hb dC_packed_117 (by decide) ?_
        refine lv_ishl hx hb dC_packed_119 ?_
        refine lv_ior hx hb dC_packed_120 ?_
        refine lv_iload hx hb dC_packed_121 (lv_at hl 2 rfl) ?_
        refine lv_ior hx hb dC_packed_123 ?_
        exact W.iret (v := (((0 : Int32) ||| (16384 : Int32)) ||| ((((((fC_roundedUp t (fC_fittingExponent b t)) >>> ((fC_fittingExponent b t).toInt64 &&& 63)).toInt32) &&& (63 : Int32)) ||| ((fC_fittingExponent b t) >>> ((3 : Int32) &&& 31))) <<< ((8 : Int32) &&& 31))) ||| (((((fC_roundedDown b (fC_fittingExponent b t)) >>> ((fC_fittingExponent b t).toInt64 &&& 63)).toInt32) &&& (255 : Int32)) ||| ((fC_fittingExponent b t) &&& (7 : Int32)))) hx hb hr (fun t9 ht hW => ⟨⟨_, (), rfl, (by unfold fC_packed; rw [if_pos h1, if_pos h2, if_neg h3]), ht.trans hH⟩, hS.F ht⟩) hS.2.2 dC_packed_124
      · have h3 := (lg_cmp_eq _ _).mp h3
        refine lv_ldc (v := 32768) hx hb hown (hts (.constant "CapUnit" 96 32768) (by decide +kernel)) dC_packed_101 ?_
        refine lv_goto (tgt := 107) hx hb dC_packed_103 rfl ?_
        refine lv_istore (lv' := [(11, .int (32768 : Int32)), (10, .int (((((fC_roundedUp t (fC_fittingExponent b t)) >>> ((fC_fittingExponent b t).toInt64 &&& 63)).toInt32) &&& (63 : Int32)) ||| ((fC_fittingExponent b t) >>> ((3 : Int32) &&& 31)))), (9, .int (((((fC_roundedDown b (fC_fittingExponent b t)) >>> ((fC_fittingExponent b t).toInt64 &&& 63)).toInt32) &&& (255 : Int32)) ||| ((fC_fittingExponent b t) &&& (7 : Int32)))), (7, .long (fC_roundedUp t (fC_fittingExponent b t))), (5, .long (fC_roundedDown b (fC_fittingExponent b t))), (4, .int (fC_fittingExponent b t)), (0, .long b), (2, .long t)]) hx hb dC_packed_107 hl (by decide) rfl (fun ls hl => ?_)
        refine lv_iload hx hb dC_packed_109 (lv_at hl 0 rfl) ?_
        refine lv_sipush (v := 16384) hx hb dC_packed_111 (by decide) ?_
        refine lv_ior hx hb dC_packed_114 ?_
        refine lv_iload hx hb dC_packed_115 (lv_at hl 1 rfl) ?_
        refine lv_bipush (v := 8) hx hb dC_packed_117 (by decide) ?_
        refine lv_ishl hx hb dC_packed_119 ?_
        refine lv_ior hx hb dC_packed_120 ?_
        refine lv_iload hx hb dC_packed_121 (lv_at hl 2 rfl) ?_
        refine lv_ior hx hb dC_packed_123 ?_
        exact W.iret (v := (((32768 : Int32) ||| (16384 : Int32)) ||| ((((((fC_roundedUp t (fC_fittingExponent b t)) >>> ((fC_fittingExponent b t).toInt64 &&& 63)).toInt32) &&& (63 : Int32)) ||| ((fC_fittingExponent b t) >>> ((3 : Int32) &&& 31))) <<< ((8 : Int32) &&& 31))) ||| (((((fC_roundedDown b (fC_fittingExponent b t)) >>> ((fC_fittingExponent b t).toInt64 &&& 63)).toInt32) &&& (255 : Int32)) ||| ((fC_fittingExponent b t) &&& (7 : Int32)))) hx hb hr (fun t9 ht hW => ⟨⟨_, (), rfl, (by unfold fC_packed; rw [if_pos h1, if_pos h2, if_pos h3]), ht.trans hH⟩, hS.F ht⟩) hS.2.2 dC_packed_124
  · have h1 := mt (lg_cmp_gt _ _).mpr h1
    refine lv_ldc (v := 32768) hx hb hown (hts (.constant "CapUnit" 96 32768) (by decide +kernel)) dC_packed_10 ?_
    refine lv_lload_n hx hb dC_packed_12 rfl (lv_at hl 1 rfl) ?_
    refine lv_ldc2 (v := 63) hx hb hown (hts (.constantLong "CapUnit" 163 63) (by decide +kernel)) dC_packed_13 ?_
    refine lv_land hx hb dC_packed_16 ?_
    refine lv_l2i hx hb dC_packed_17 rfl ?_
    refine lv_bipush (v := 8) hx hb dC_packed_18 (by decide) ?_
    refine lv_ishl hx hb dC_packed_20 ?_
    refine lv_ior hx hb dC_packed_21 ?_
    refine lv_lload_n hx hb dC_packed_22 rfl (lv_at hl 0 rfl) ?_
    refine lv_ldc2 (v := 255) hx hb hown (hts (.constantLong "CapUnit" 165 255) (by decide +kernel)) dC_packed_23 ?_
    refine lv_land hx hb dC_packed_26 ?_
    refine lv_l2i hx hb dC_packed_27 rfl ?_
    refine lv_ior hx hb dC_packed_28 ?_
    exact W.iret (v := ((32768 : Int32) ||| (((t &&& (63 : Int64)).toInt32) <<< ((8 : Int32) &&& 31))) ||| ((b &&& (255 : Int64)).toInt32)) hx hb hr (fun t9 ht hW => ⟨⟨_, (), rfl, (by unfold fC_packed; rw [if_neg h1]), ht.trans hH⟩, hS.F ht⟩) hS.2.2 dC_packed_29
theorem zM_ne (z : Int32) : ¬ (1 : Int64) <<< (((fM_scale z) + (8 : Int32)).toInt64 &&& 63) = 0 := by
  have he := kE_le z.toInt
  have e8 : fM_scale z + (8 : Int32) = zI ((kE z.toInt + 8 : Nat) : Int) := by
    rw [eM_scale]
    show _ + zI 8 = _
    rw [zI_add]
    congr 1
  have e1 : (1 : Int64) = zL 1 := by decide
  have e0 : (0 : Int64) = zL 0 := by decide
  have h1 := p2_pos (kE z.toInt + 8)
  have h2 := p2_le (show kE z.toInt + 8 ≤ 34 by omega)
  have h3 : p2 34 = 17179869184 := rfl
  rw [e8, e1, zL_shl 1 (kE z.toInt + 8) (by omega) rfl rfl, e0, zL_eq (by omega) (by omega) (by omega) (by omega)]
  omega
def fM_inWindow (x : Int32) (y : Int32) (k : Int64) : Int64 := k + (fJ_floorMod ((x.toInt64 <<< (y.toInt64 &&& 63)) - k) ((1 : Int64) <<< ((y + (8 : Int32)).toInt64 &&& 63)))
set_option maxHeartbeats 4000000 in
set_option maxRecDepth 100000 in
theorem kM_inWindow (l : Launch) (H : Heap) (x : Int32) (y : Int32) (k : Int64) (hy0 : ¬ (1 : Int64) <<< ((y + (8 : Int32)).toInt64 &&& 63) = 0) : Met l yM_inWindow wM_inWindow { frames := 1, cells := 0, slots := 0, locals := 25 } (va_Pc [.int x, .int y, .long k] (fun U => U.heap = H)) (va_Ql (fun v9 (_ : Unit) => v9 = fM_inWindow x y k) (fun _ t => t.heap = H) (fun _ => False)) 0 0 (fun _ => False) := by
  refine Met.ofW (cc := cM_inWindow) (maxL := 8) (ret := (some .long)) (by decide) rfl ?_
  intro p e s m args below meth c s₁ B hml hv
  obtain ⟨rfl, hH⟩ := hv
  have hx := B.exec
  have hb := B.bytes
  have hr := B.returns
  have hts := atoms_spec (ws := wM_inWindow) B.pre
  have hq : ∀ w ∈ wA, w.before _ s = true := fun w h => hts w (List.mem_cons_of_mem _ h)
  have hown : s.vm.findClass "CapUnitModel" = some m.cls := findClass_of_methodNamed B.named
  have hlocks := B.notSynchronized
  have hS : va_S (fun _ => False) s.heap s.heap [] := va_S.rf
  have hl := lv_entry ([.int x, .int y, .long k]) (n := 8) (Nat.le_of_ble_eq_true rfl)
  rw [lg_entry_eq]
  generalize (lg_sl ([.int x, .int y, .long k]) ++ List.replicate (8 - (lg_sl ([.int x, .int y, .long k])).length) Slot.unset).toArray = ls at hl ⊢
  have hl : lv_has ls 8 [(0, .int x), (1, .int y), (2, .long k)] := hl
  refine lv_lconst (v := 1) hx hb dM_inWindow_0 (by decide) ?_
  refine lv_iload_n hx hb dM_inWindow_1 rfl (lv_at hl 1 rfl) ?_
  refine lv_bipush (v := 8) hx hb dM_inWindow_2 (by decide) ?_
  refine lv_iadd hx hb dM_inWindow_4 ?_
  refine lv_lshl hx hb dM_inWindow_5 rfl ?_
  refine lv_lstore (lv' := [(4, .long ((1 : Int64) <<< ((y + (8 : Int32)).toInt64 &&& 63))), (0, .int x), (1, .int y), (2, .long k)]) hx hb dM_inWindow_6 hl (by decide) rfl (fun ls hl => ?_)
  refine lv_iload_n hx hb dM_inWindow_8 rfl (lv_at hl 1 rfl) ?_
  refine lv_i2l hx hb dM_inWindow_9 rfl ?_
  refine lv_iload_n hx hb dM_inWindow_10 rfl (lv_at hl 2 rfl) ?_
  refine lv_lshl hx hb dM_inWindow_11 rfl ?_
  refine lv_lstore (lv' := [(6, .long (x.toInt64 <<< (y.toInt64 &&& 63))), (4, .long ((1 : Int64) <<< ((y + (8 : Int32)).toInt64 &&& 63))), (0, .int x), (1, .int y), (2, .long k)]) hx hb dM_inWindow_12 hl (by decide) rfl (fun ls hl => ?_)
  refine lv_lload_n hx hb dM_inWindow_14 rfl (lv_at hl 4 rfl) ?_
  refine lv_lload hx hb dM_inWindow_15 (lv_at hl 0 rfl) ?_
  refine lv_lload_n hx hb dM_inWindow_17 rfl (lv_at hl 4 rfl) ?_
  refine lv_lsub hx hb dM_inWindow_18 ?_
  refine lv_lload hx hb dM_inWindow_19 (lv_at hl 1 rfl) ?_
  refine zc_l (va_runS (As := [.long ((x.toInt64 <<< (y.toInt64 &&& 63)) - k), .long ((1 : Int64) <<< ((y + (8 : Int32)).toInt64 &&& 63))]) (rest := [.long k]) ⟨hx, hb, hml, hown, hq⟩ (kJ_floorMod l s.heap ((x.toInt64 <<< (y.toInt64 &&& 63)) - k) ((1 : Int64) <<< ((y + (8 : Int32)).toInt64 &&& 63)) (by assumption)) (va_cwS 2 hq (wA_S q_445 q_446 q_9 q_447) rfl rfl rfl (by decide +kernel) ⟨Nat.le_of_ble_eq_true rfl, Nat.le_of_ble_eq_true rfl⟩) ⟨fun a U g mk q => q, fun U hU hW => ⟨rfl, hU⟩⟩ rfl rfl hl.1 rfl (lv_room (Nat.le_of_ble_eq_true rfl)) dM_inWindow_21 ⟨Nat.zero_le _, Nat.zero_le _⟩) hS (fun locs hS => ?_)
  refine lv_ladd hx hb dM_inWindow_24 ?_
  exact W.lret (v := k + (fJ_floorMod ((x.toInt64 <<< (y.toInt64 &&& 63)) - k) ((1 : Int64) <<< ((y + (8 : Int32)).toInt64 &&& 63)))) hx hb hr (fun t9 ht hW => ⟨⟨_, (), rfl, (by unfold fM_inWindow; rfl), ht.trans hH⟩, hS.F ht⟩) hS.2.2 dM_inWindow_25
def fM_window (z : Int32) (a : Int32) : Int64 := (fM_low a) - (fJ_floorMod ((fM_low a) - ((((((fM_bottom z) / (32 : Int32)) + (7 : Int32)) - (((fM_bottom z) / (32 : Int32)) + (7 : Int32)) / (8 : Int32) * (8 : Int32)).toInt64) <<< (((fM_scale z) + (5 : Int32)).toInt64 &&& 63))) ((1 : Int64) <<< (((fM_scale z) + (8 : Int32)).toInt64 &&& 63)))
set_option maxHeartbeats 4000000 in
set_option maxRecDepth 100000 in
theorem kM_window (l : Launch) (H : Heap) (z : Int32) (a : Int32) : Met l yM_window wM_window { frames := 1, cells := 0, slots := 0, locals := 25 } (va_Pc [.int z, .int a] (fun U => U.heap = H)) (va_Ql (fun v9 (_ : Unit) => v9 = fM_window z a) (fun _ t => t.heap = H) (fun _ => False)) 0 0 (fun _ => False) := by
  refine Met.ofW (cc := cM_window) (maxL := 7) (ret := (some .long)) (by decide) rfl ?_
  intro p e s m args below meth c s₁ B hml hv
  obtain ⟨rfl, hH⟩ := hv
  have hx := B.exec
  have hb := B.bytes
  have hr := B.returns
  have hts := atoms_spec (ws := wM_window) B.pre
  have hq : ∀ w ∈ wA, w.before _ s = true := fun w h => hts w (List.mem_cons_of_mem _ h)
  have hown : s.vm.findClass "CapUnitModel" = some m.cls := findClass_of_methodNamed B.named
  have hlocks := B.notSynchronized
  have hS : va_S (fun _ => False) s.heap s.heap [] := va_S.rf
  have hl := lv_entry ([.int z, .int a]) (n := 7) (Nat.le_of_ble_eq_true rfl)
  rw [lg_entry_eq]
  generalize (lg_sl ([.int z, .int a]) ++ List.replicate (7 - (lg_sl ([.int z, .int a])).length) Slot.unset).toArray = ls at hl ⊢
  have hl : lv_has ls 7 [(0, .int z), (1, .int a)] := hl
  have hy0 : ¬ (1 : Int64) <<< (((fM_scale z) + (8 : Int32)).toInt64 &&& 63) = 0 := zM_ne z
  refine lv_iload_n hx hb dM_window_0 rfl (lv_at hl 0 rfl) ?_
  refine zc_i (va_runS (As := [.int z]) (rest := []) ⟨hx, hb, hml, hown, hq⟩ (kM_scale l s.heap z) (va_cwS 1 hq (wA_S q_439 q_440 q_2 q_441) rfl rfl rfl (by decide +kernel) ⟨Nat.le_of_ble_eq_true rfl, Nat.le_of_ble_eq_true rfl⟩) ⟨fun a U g mk q => q, fun U hU hW => ⟨rfl, hU⟩⟩ rfl rfl hl.1 rfl (lv_room (Nat.le_of_ble_eq_true rfl)) dM_window_1 ⟨Nat.zero_le _, Nat.zero_le _⟩) hS (fun locs hS => ?_)
  refine lv_istore_n (lv' := [(2, .int (fM_scale z)), (0, .int z), (1, .int a)]) hx hb dM_window_4 rfl hl (by decide) rfl (fun ls hl => ?_)
  refine lv_lconst (v := 1) hx hb dM_window_5 (by decide) ?_
  refine lv_iload_n hx hb dM_window_6 rfl (lv_at hl 0 rfl) ?_
  refine lv_bipush (v := 8) hx hb dM_window_7 (by decide) ?_
  refine lv_iadd hx hb dM_window_9 ?_
  refine lv_lshl hx hb dM_window_10 rfl ?_
  refine lv_lstore_n (lv' := [(3, .long ((1 : Int64) <<< (((fM_scale z) + (8 : Int32)).toInt64 &&& 63))), (2, .int (fM_scale z)), (0, .int z), (1, .int a)]) hx hb dM_window_11 rfl hl (by decide) rfl (fun ls hl => ?_)
  refine lv_iload_n hx hb dM_window_12 rfl (lv_at hl 2 rfl) ?_
  refine zc_i (va_runS (As := [.int z]) (rest := []) ⟨hx, hb, hml, hown, hq⟩ (kM_bottom l s.heap z) (va_cwS 1 hq (wA_S q_436 q_437 q_2 q_438) rfl rfl rfl (by decide +kernel) ⟨Nat.le_of_ble_eq_true rfl, Nat.le_of_ble_eq_true rfl⟩) ⟨fun a U g mk q => q, fun U hU hW => ⟨rfl, hU⟩⟩ rfl rfl hl.1 rfl (lv_room (Nat.le_of_ble_eq_true rfl)) dM_window_13 ⟨Nat.zero_le _, Nat.zero_le _⟩) hS (fun locs hS => ?_)
  refine lv_bipush (v := 32) hx hb dM_window_16 (by decide) ?_
  refine lv_idiv hx hb dM_window_18 (by decide) ?_
  refine lv_bipush (v := 7) hx hb dM_window_19 (by decide) ?_
  refine lv_iadd hx hb dM_window_21 ?_
  refine lv_bipush (v := 8) hx hb dM_window_22 (by decide) ?_
  refine lv_irem hx hb dM_window_24 (by decide) ?_
  refine lv_i2l hx hb dM_window_25 rfl ?_
  refine lv_iload_n hx hb dM_window_26 rfl (lv_at hl 1 rfl) ?_
  refine lv_iconst (v := 5) hx hb dM_window_27 (by decide) ?_
  refine lv_iadd hx hb dM_window_28 ?_
  refine lv_lshl hx hb dM_window_29 rfl ?_
  refine lv_lstore (lv' := [(5, .long ((((((fM_bottom z) / (32 : Int32)) + (7 : Int32)) - (((fM_bottom z) / (32 : Int32)) + (7 : Int32)) / (8 : Int32) * (8 : Int32)).toInt64) <<< (((fM_scale z) + (5 : Int32)).toInt64 &&& 63))), (3, .long ((1 : Int64) <<< (((fM_scale z) + (8 : Int32)).toInt64 &&& 63))), (2, .int (fM_scale z)), (0, .int z), (1, .int a)]) hx hb dM_window_30 hl (by decide) rfl (fun ls hl => ?_)
  refine lv_iload_n hx hb dM_window_32 rfl (lv_at hl 4 rfl) ?_
  refine zc_l (va_runS (As := [.int a]) (rest := []) ⟨hx, hb, hml, hown, hq⟩ (kM_low l s.heap a) (va_cwS 1 hq (wA_S q_417 q_418 q_2 q_419) rfl rfl rfl (by decide +kernel) ⟨Nat.le_of_ble_eq_true rfl, Nat.le_of_ble_eq_true rfl⟩) ⟨fun a U g mk q => q, fun U hU hW => ⟨rfl, hU⟩⟩ rfl rfl hl.1 rfl (lv_room (Nat.le_of_ble_eq_true rfl)) dM_window_33 ⟨Nat.zero_le _, Nat.zero_le _⟩) hS (fun locs hS => ?_)
  refine lv_iload_n hx hb dM_window_36 rfl (lv_at hl 4 rfl) ?_
  refine zc_l (va_runS (As := [.int a]) (rest := [.long (fM_low a)]) ⟨hx, hb, hml, hown, hq⟩ (kM_low l s.heap a) (va_cwS 1 hq (wA_S q_417 q_418 q_2 q_419) rfl rfl rfl (by decide +kernel) ⟨Nat.le_of_ble_eq_true rfl, Nat.le_of_ble_eq_true rfl⟩) ⟨fun a U g mk q => q, fun U hU hW => ⟨rfl, hU⟩⟩ rfl rfl hl.1 rfl (lv_room (Nat.le_of_ble_eq_true rfl)) dM_window_37 ⟨Nat.zero_le _, Nat.zero_le _⟩) hS (fun locs hS => ?_)
  refine lv_lload hx hb dM_window_40 (lv_at hl 0 rfl) ?_
  refine lv_lsub hx hb dM_window_42 ?_
  refine lv_lload_n hx hb dM_window_43 rfl (lv_at hl 1 rfl) ?_
  refine zc_l (va_runS (As := [.long ((fM_low a) - ((((((fM_bottom z) / (32 : Int32)) + (7 : Int32)) - (((fM_bottom z) / (32 : Int32)) + (7 : Int32)) / (8 : Int32) * (8 : Int32)).toInt64) <<< (((fM_scale z) + (5 : Int32)).toInt64 &&& 63))), .long ((1 : Int64) <<< (((fM_scale z) + (8 : Int32)).toInt64 &&& 63))]) (rest := [.long (fM_low a)]) ⟨hx, hb, hml, hown, hq⟩ (kJ_floorMod l s.heap ((fM_low a) - ((((((fM_bottom z) / (32 : Int32)) + (7 : Int32)) - (((fM_bottom z) / (32 : Int32)) + (7 : Int32)) / (8 : Int32) * (8 : Int32)).toInt64) <<< (((fM_scale z) + (5 : Int32)).toInt64 &&& 63))) ((1 : Int64) <<< (((fM_scale z) + (8 : Int32)).toInt64 &&& 63)) (by assumption)) (va_cwS 2 hq (wA_S q_445 q_446 q_9 q_447) rfl rfl rfl (by decide +kernel) ⟨Nat.le_of_ble_eq_true rfl, Nat.le_of_ble_eq_true rfl⟩) ⟨fun a U g mk q => q, fun U hU hW => ⟨rfl, hU⟩⟩ rfl rfl hl.1 rfl (lv_room (Nat.le_of_ble_eq_true rfl)) dM_window_44 ⟨Nat.zero_le _, Nat.zero_le _⟩) hS (fun locs hS => ?_)
  refine lv_lsub hx hb dM_window_47 ?_
  exact W.lret (v := (fM_low a) - (fJ_floorMod ((fM_low a) - ((((((fM_bottom z) / (32 : Int32)) + (7 : Int32)) - (((fM_bottom z) / (32 : Int32)) + (7 : Int32)) / (8 : Int32) * (8 : Int32)).toInt64) <<< (((fM_scale z) + (5 : Int32)).toInt64 &&& 63))) ((1 : Int64) <<< (((fM_scale z) + (8 : Int32)).toInt64 &&& 63)))) hx hb hr (fun t9 ht hW => ⟨⟨_, (), rfl, (by unfold fM_window; rfl), ht.trans hH⟩, hS.F ht⟩) hS.2.2 dM_window_48
def fM_base (z : Int32) (a : Int32) : Int64 := (fM_inWindow (fM_bottom z) (fM_scale z) (fM_window z a)) &&& (4294967295 : Int64)
set_option maxHeartbeats 4000000 in
set_option maxRecDepth 100000 in
theorem kM_base (l : Launch) (H : Heap) (z : Int32) (a : Int32) : Met l yM_base wM_base { frames := 2, cells := 0, slots := 0, locals := 52 } (va_Pc [.int z, .int a] (fun U => U.heap = H)) (va_Ql (fun v9 (_ : Unit) => v9 = fM_base z a) (fun _ t => t.heap = H) (fun _ => False)) 0 0 (fun _ => False) := by
  refine Met.ofW (cc := cM_base) (maxL := 2) (ret := (some .long)) (by decide) rfl ?_
  intro p e s m args below meth c s₁ B hml hv
  obtain ⟨rfl, hH⟩ := hv
  have hx := B.exec
  have hb := B.bytes
  have hr := B.returns
  have hts := atoms_spec (ws := wM_base) B.pre
  have hq : ∀ w ∈ wA, w.before _ s = true := fun w h => hts w (List.mem_cons_of_mem _ h)
  have hown : s.vm.findClass "CapUnitModel" = some m.cls := findClass_of_methodNamed B.named
  have hlocks := B.notSynchronized
  have hS : va_S (fun _ => False) s.heap s.heap [] := va_S.rf
  have hl := lv_entry ([.int z, .int a]) (n := 2) (Nat.le_of_ble_eq_true rfl)
  rw [lg_entry_eq]
  generalize (lg_sl ([.int z, .int a]) ++ List.replicate (2 - (lg_sl ([.int z, .int a])).length) Slot.unset).toArray = ls at hl ⊢
  have hl : lv_has ls 2 [(0, .int z), (1, .int a)] := hl
  have hy0 : ¬ (1 : Int64) <<< (((fM_scale z) + (8 : Int32)).toInt64 &&& 63) = 0 := zM_ne z
  refine lv_iload_n hx hb dM_base_0 rfl (lv_at hl 0 rfl) ?_
  refine zc_i (va_runS (As := [.int z]) (rest := []) ⟨hx, hb, hml, hown, hq⟩ (kM_bottom l s.heap z) (va_cwS 1 hq (wA_S q_436 q_437 q_2 q_438) rfl rfl rfl (by decide +kernel) ⟨Nat.le_of_ble_eq_true rfl, Nat.le_of_ble_eq_true rfl⟩) ⟨fun a U g mk q => q, fun U hU hW => ⟨rfl, hU⟩⟩ rfl rfl hl.1 rfl (lv_room (Nat.le_of_ble_eq_true rfl)) dM_base_1 ⟨Nat.zero_le _, Nat.zero_le _⟩) hS (fun locs hS => ?_)
  refine lv_iload_n hx hb dM_base_4 rfl (lv_at hl 0 rfl) ?_
  refine zc_i (va_runS (As := [.int z]) (rest := [.int (fM_bottom z)]) ⟨hx, hb, hml, hown, hq⟩ (kM_scale l s.heap z) (va_cwS 1 hq (wA_S q_439 q_440 q_2 q_441) rfl rfl rfl (by decide +kernel) ⟨Nat.le_of_ble_eq_true rfl, Nat.le_of_ble_eq_true rfl⟩) ⟨fun a U g mk q => q, fun U hU hW => ⟨rfl, hU⟩⟩ rfl rfl hl.1 rfl (lv_room (Nat.le_of_ble_eq_true rfl)) dM_base_5 ⟨Nat.zero_le _, Nat.zero_le _⟩) hS (fun locs hS => ?_)
  refine lv_iload_n hx hb dM_base_8 rfl (lv_at hl 0 rfl) ?_
  refine lv_iload_n hx hb dM_base_9 rfl (lv_at hl 1 rfl) ?_
  refine zc_l (va_runS (As := [.int z, .int a]) (rest := [.int (fM_scale z), .int (fM_bottom z)]) ⟨hx, hb, hml, hown, hq⟩ (kM_window l s.heap z a) (va_cwS 2 hq (wA_S q_442 q_443 q_2 q_444) rfl rfl rfl (by decide +kernel) ⟨Nat.le_of_ble_eq_true rfl, Nat.le_of_ble_eq_true rfl⟩) ⟨fun a U g mk q => q, fun U hU hW => ⟨rfl, hU⟩⟩ rfl rfl hl.1 rfl (lv_room (Nat.le_of_ble_eq_true rfl)) dM_base_10 ⟨Nat.zero_le _, Nat.zero_le _⟩) hS (fun locs hS => ?_)
  refine zc_l (va_runS (As := [.int (fM_bottom z), .int (fM_scale z), .long (fM_window z a)]) (rest := []) ⟨hx, hb, hml, hown, hq⟩ (kM_inWindow l s.heap (fM_bottom z) (fM_scale z) (fM_window z a) (by assumption)) (va_cwS 3 hq (wA_S q_448 q_449 q_2 q_450) rfl rfl rfl (by decide +kernel) ⟨Nat.le_of_ble_eq_true rfl, Nat.le_of_ble_eq_true rfl⟩) ⟨fun a U g mk q => q, fun U hU hW => ⟨rfl, hU⟩⟩ rfl rfl hl.1 rfl (lv_room (Nat.le_of_ble_eq_true rfl)) dM_base_13 ⟨Nat.zero_le _, Nat.zero_le _⟩) hS (fun locs hS => ?_)
  refine lv_ldc2 (v := 4294967295) hx hb hown (hts (.constantLong "CapUnitModel" 35 4294967295) (by decide +kernel)) dM_base_16 ?_
  refine lv_land hx hb dM_base_19 ?_
  exact W.lret (v := (fM_inWindow (fM_bottom z) (fM_scale z) (fM_window z a)) &&& (4294967295 : Int64)) hx hb hr (fun t9 ht hW => ⟨⟨_, (), rfl, (by unfold fM_base; rfl), ht.trans hH⟩, hS.F ht⟩) hS.2.2 dM_base_20
def fM_top (z : Int32) (a : Int32) : Int64 := if (25 : Int32) ≤ (fM_scale z) then ((fM_inWindow (fM_roof z) (fM_scale z) (fM_window z a)) &&& (8589934591 : Int64)) else (if ((((((fM_inWindow (fM_roof z) (fM_scale z) (fM_window z a)) &&& (8589934591 : Int64)) >>> ((31 : Int32).toInt64 &&& 63)).toInt32) - (((fM_base z a) >>> ((31 : Int32).toInt64 &&& 63)).toInt32)) &&& (3 : Int32)) ≤ (1 : Int32) then ((fM_inWindow (fM_roof z) (fM_scale z) (fM_window z a)) &&& (8589934591 : Int64)) else (((fM_inWindow (fM_roof z) (fM_scale z) (fM_window z a)) &&& (8589934591 : Int64)) ^^^ (4294967296 : Int64)))
set_option maxHeartbeats 4000000 in
set_option maxRecDepth 100000 in
theorem kM_top (l : Launch) (H : Heap) (z : Int32) (a : Int32) : Met l yM_top wM_top { frames := 3, cells := 0, slots := 0, locals := 73 } (va_Pc [.int z, .int a] (fun U => U.heap = H)) (va_Ql (fun v9 (_ : Unit) => v9 = fM_top z a) (fun _ t => t.heap = H) (fun _ => False)) 0 0 (fun _ => False) := by
  refine Met.ofW (cc := cM_top) (maxL := 7) (ret := (some .long)) (by decide) rfl ?_
  intro p e s m args below meth c s₁ B hml hv
  obtain ⟨rfl, hH⟩ := hv
  have hx := B.exec
  have hb := B.bytes
  have hr := B.returns
  have hts := atoms_spec (ws := wM_top) B.pre
  have hq : ∀ w ∈ wA, w.before _ s = true := fun w h => hts w (List.mem_cons_of_mem _ h)
  have hown : s.vm.findClass "CapUnitModel" = some m.cls := findClass_of_methodNamed B.named
  have hlocks := B.notSynchronized
  have hS : va_S (fun _ => False) s.heap s.heap [] := va_S.rf
  have hl := lv_entry ([.int z, .int a]) (n := 7) (Nat.le_of_ble_eq_true rfl)
  rw [lg_entry_eq]
  generalize (lg_sl ([.int z, .int a]) ++ List.replicate (7 - (lg_sl ([.int z, .int a])).length) Slot.unset).toArray = ls at hl ⊢
  have hl : lv_has ls 7 [(0, .int z), (1, .int a)] := hl
  have hy0 : ¬ (1 : Int64) <<< (((fM_scale z) + (8 : Int32)).toInt64 &&& 63) = 0 := zM_ne z
  refine lv_iload_n hx hb dM_top_0 rfl (lv_at hl 0 rfl) ?_
  refine zc_i (va_runS (As := [.int z]) (rest := []) ⟨hx, hb, hml, hown, hq⟩ (kM_roof l s.heap z) (va_cwS 1 hq (wA_S q_454 q_455 q_2 q_456) rfl rfl rfl (by decide +kernel) ⟨Nat.le_of_ble_eq_true rfl, Nat.le_of_ble_eq_true rfl⟩) ⟨fun a U g mk q => q, fun U hU hW => ⟨rfl, hU⟩⟩ rfl rfl hl.1 rfl (lv_room (Nat.le_of_ble_eq_true rfl)) dM_top_1 ⟨Nat.zero_le _, Nat.zero_le _⟩) hS (fun locs hS => ?_)
  refine lv_iload_n hx hb dM_top_4 rfl (lv_at hl 0 rfl) ?_
  refine zc_i (va_runS (As := [.int z]) (rest := [.int (fM_roof z)]) ⟨hx, hb, hml, hown, hq⟩ (kM_scale l s.heap z) (va_cwS 1 hq (wA_S q_439 q_440 q_2 q_441) rfl rfl rfl (by decide +kernel) ⟨Nat.le_of_ble_eq_true rfl, Nat.le_of_ble_eq_true rfl⟩) ⟨fun a U g mk q => q, fun U hU hW => ⟨rfl, hU⟩⟩ rfl rfl hl.1 rfl (lv_room (Nat.le_of_ble_eq_true rfl)) dM_top_5 ⟨Nat.zero_le _, Nat.zero_le _⟩) hS (fun locs hS => ?_)
  refine lv_iload_n hx hb dM_top_8 rfl (lv_at hl 0 rfl) ?_
  refine lv_iload_n hx hb dM_top_9 rfl (lv_at hl 1 rfl) ?_
  refine zc_l (va_runS (As := [.int z, .int a]) (rest := [.int (fM_scale z), .int (fM_roof z)]) ⟨hx, hb, hml, hown, hq⟩ (kM_window l s.heap z a) (va_cwS 2 hq (wA_S q_442 q_443 q_2 q_444) rfl rfl rfl (by decide +kernel) ⟨Nat.le_of_ble_eq_true rfl, Nat.le_of_ble_eq_true rfl⟩) ⟨fun a U g mk q => q, fun U hU hW => ⟨rfl, hU⟩⟩ rfl rfl hl.1 rfl (lv_room (Nat.le_of_ble_eq_true rfl)) dM_top_10 ⟨Nat.zero_le _, Nat.zero_le _⟩) hS (fun locs hS => ?_)
  refine zc_l (va_runS (As := [.int (fM_roof z), .int (fM_scale z), .long (fM_window z a)]) (rest := []) ⟨hx, hb, hml, hown, hq⟩ (kM_inWindow l s.heap (fM_roof z) (fM_scale z) (fM_window z a) (by assumption)) (va_cwS 3 hq (wA_S q_448 q_449 q_2 q_450) rfl rfl rfl (by decide +kernel) ⟨Nat.le_of_ble_eq_true rfl, Nat.le_of_ble_eq_true rfl⟩) ⟨fun a U g mk q => q, fun U hU hW => ⟨rfl, hU⟩⟩ rfl rfl hl.1 rfl (lv_room (Nat.le_of_ble_eq_true rfl)) dM_top_13 ⟨Nat.zero_le _, Nat.zero_le _⟩) hS (fun locs hS => ?_)
  refine lv_ldc2 (v := 8589934591) hx hb hown (hts (.constantLong "CapUnitModel" 67 8589934591) (by decide +kernel)) dM_top_16 ?_
  refine lv_land hx hb dM_top_19 ?_
  refine lv_lstore_n (lv' := [(2, .long ((fM_inWindow (fM_roof z) (fM_scale z) (fM_window z a)) &&& (8589934591 : Int64))), (0, .int z), (1, .int a)]) hx hb dM_top_20 rfl hl (by decide) rfl (fun ls hl => ?_)
  refine lv_iload_n hx hb dM_top_21 rfl (lv_at hl 1 rfl) ?_
  refine lv_iload_n hx hb dM_top_22 rfl (lv_at hl 2 rfl) ?_
  refine zc_l (va_runS (As := [.int z, .int a]) (rest := []) ⟨hx, hb, hml, hown, hq⟩ (kM_base l s.heap z a) (va_cwS 2 hq (wA_S q_433 q_434 q_2 q_435) rfl rfl rfl (by decide +kernel) ⟨Nat.le_of_ble_eq_true rfl, Nat.le_of_ble_eq_true rfl⟩) ⟨fun a U g mk q => q, fun U hU hW => ⟨rfl, hU⟩⟩ rfl rfl hl.1 rfl (lv_room (Nat.le_of_ble_eq_true rfl)) dM_top_23 ⟨Nat.zero_le _, Nat.zero_le _⟩) hS (fun locs hS => ?_)
  refine lv_lstore (lv' := [(4, .long (fM_base z a)), (2, .long ((fM_inWindow (fM_roof z) (fM_scale z) (fM_window z a)) &&& (8589934591 : Int64))), (0, .int z), (1, .int a)]) hx hb dM_top_26 hl (by decide) rfl (fun ls hl => ?_)
  refine lv_lload_n hx hb dM_top_28 rfl (lv_at hl 1 rfl) ?_
  refine lv_bipush (v := 31) hx hb dM_top_29 (by decide) ?_
  refine lv_lshr hx hb dM_top_31 rfl ?_
  refine lv_l2i hx hb dM_top_32 rfl ?_
  refine lv_lload hx hb dM_top_33 (lv_at hl 0 rfl) ?_
  refine lv_bipush (v := 31) hx hb dM_top_35 (by decide) ?_
  refine lv_lshr hx hb dM_top_37 rfl ?_
  refine lv_l2i hx hb dM_top_38 rfl ?_
  refine lv_isub hx hb dM_top_39 ?_
  refine lv_iconst (v := 3) hx hb dM_top_40 (by decide) ?_
  refine lv_iand hx hb dM_top_41 ?_
  refine lv_istore (lv' := [(6, .int ((((((fM_inWindow (fM_roof z) (fM_scale z) (fM_window z a)) &&& (8589934591 : Int64)) >>> ((31 : Int32).toInt64 &&& 63)).toInt32) - (((fM_base z a) >>> ((31 : Int32).toInt64 &&& 63)).toInt32)) &&& (3 : Int32))), (4, .long (fM_base z a)), (2, .long ((fM_inWindow (fM_roof z) (fM_scale z) (fM_window z a)) &&& (8589934591 : Int64))), (0, .int z), (1, .int a)]) hx hb dM_top_42 hl (by decide) rfl (fun ls hl => ?_)
  refine lv_iload_n hx hb dM_top_44 rfl (lv_at hl 3 rfl) ?_
  refine zc_i (va_runS (As := [.int z]) (rest := []) ⟨hx, hb, hml, hown, hq⟩ (kM_scale l s.heap z) (va_cwS 1 hq (wA_S q_439 q_440 q_2 q_441) rfl rfl rfl (by decide +kernel) ⟨Nat.le_of_ble_eq_true rfl, Nat.le_of_ble_eq_true rfl⟩) ⟨fun a U g mk q => q, fun U hU hW => ⟨rfl, hU⟩⟩ rfl rfl hl.1 rfl (lv_room (Nat.le_of_ble_eq_true rfl)) dM_top_45 ⟨Nat.zero_le _, Nat.zero_le _⟩) hS (fun locs hS => ?_)
  refine lv_bipush (v := 25) hx hb dM_top_48 (by decide) ?_
  refine lv_icmp_ge (tgt := 67) hx hb dM_top_50 rfl (fun h1 => ?_) (fun h1 => ?_)
  · refine lv_lload_n hx hb dM_top_67 rfl (lv_at hl 2 rfl) ?_
    exact W.lret (v := (fM_inWindow (fM_roof z) (fM_scale z) (fM_window z a)) &&& (8589934591 : Int64)) hx hb hr (fun t9 ht hW => ⟨⟨_, (), rfl, (by unfold fM_top; rw [if_pos h1]), ht.trans hH⟩, hS.F ht⟩) hS.2.2 dM_top_68
  · refine lv_iload hx hb dM_top_53 (lv_at hl 0 rfl) ?_
    refine lv_iconst (v := 1) hx hb dM_top_55 (by decide) ?_
    refine lv_icmp_le (tgt := 67) hx hb dM_top_56 rfl (fun h2 => ?_) (fun h2 => ?_)
    · refine lv_lload_n hx hb dM_top_67 rfl (lv_at hl 2 rfl) ?_
      exact W.lret (v := (fM_inWindow (fM_roof z) (fM_scale z) (fM_window z a)) &&& (8589934591 : Int64)) hx hb hr (fun t9 ht hW => ⟨⟨_, (), rfl, (by unfold fM_top; rw [if_neg h1, if_pos h2]), ht.trans hH⟩, hS.F ht⟩) hS.2.2 dM_top_68
    · refine lv_lload_n hx hb dM_top_59 rfl (lv_at hl 2 rfl) ?_
      refine lv_ldc2 (v := 4294967296) hx hb hown (hts (.constantLong "CapUnitModel" 72 4294967296) (by decide +kernel)) dM_top_60 ?_
      refine lv_lxor hx hb dM_top_63 ?_
      refine lv_goto (tgt := 68) hx hb dM_top_64 rfl ?_
      exact W.lret (v := ((fM_inWindow (fM_roof z) (fM_scale z) (fM_window z a)) &&& (8589934591 : Int64)) ^^^ (4294967296 : Int64)) hx hb hr (fun t9 ht hW => ⟨⟨_, (), rfl, (by unfold fM_top; rw [if_neg h1, if_neg h2]), ht.trans hH⟩, hS.F ht⟩) hS.2.2 dM_top_68
def fM_isIn (z : Int32) (a : Int32) (x : Int64) (n : Int32) : Int32 := if x < (fM_base z a) then (0 : Int32) else (if (fM_top z a) < (x + n.toInt64) then (0 : Int32) else (1 : Int32))
set_option maxHeartbeats 4000000 in
set_option maxRecDepth 100000 in
theorem kM_isIn (l : Launch) (H : Heap) (z : Int32) (a : Int32) (x : Int64) (n : Int32) : Met l yM_isIn wM_isIn { frames := 4, cells := 0, slots := 0, locals := 99 } (va_Pc [.int z, .int a, .long x, .int n] (fun U => U.heap = H)) (va_Qi (fun v9 (_ : Unit) => v9 = fM_isIn z a x n) (fun _ t => t.heap = H) (fun _ => False)) 0 0 (fun _ => False) := by
  refine Met.ofW (cc := cM_isIn) (maxL := 5) (ret := (some .boolean)) (by decide) rfl ?_
  intro p e s m args below meth c s₁ B hml hv
  obtain ⟨rfl, hH⟩ := hv
  have hx := B.exec
  have hb := B.bytes
  have hr := B.returns
  have hts := atoms_spec (ws := wM_isIn) B.pre
  have hq : ∀ w ∈ wA, w.before _ s = true := fun w h => hts w (List.mem_cons_of_mem _ h)
  have hown : s.vm.findClass "CapUnitModel" = some m.cls := findClass_of_methodNamed B.named
  have hlocks := B.notSynchronized
  have hS : va_S (fun _ => False) s.heap s.heap [] := va_S.rf
  have hl := lv_entry ([.int z, .int a, .long x, .int n]) (n := 5) (Nat.le_of_ble_eq_true rfl)
  rw [lg_entry_eq]
  generalize (lg_sl ([.int z, .int a, .long x, .int n]) ++ List.replicate (5 - (lg_sl ([.int z, .int a, .long x, .int n])).length) Slot.unset).toArray = ls at hl ⊢
  have hl : lv_has ls 5 [(0, .int z), (1, .int a), (2, .long x), (4, .int n)] := hl
  refine lv_iload_n hx hb dM_isIn_0 rfl (lv_at hl 0 rfl) ?_
  refine lv_iload_n hx hb dM_isIn_1 rfl (lv_at hl 1 rfl) ?_
  refine zc_l (va_runS (As := [.int z, .int a]) (rest := []) ⟨hx, hb, hml, hown, hq⟩ (kM_base l s.heap z a) (va_cwS 2 hq (wA_S q_433 q_434 q_2 q_435) rfl rfl rfl (by decide +kernel) ⟨Nat.le_of_ble_eq_true rfl, Nat.le_of_ble_eq_true rfl⟩) ⟨fun a U g mk q => q, fun U hU hW => ⟨rfl, hU⟩⟩ rfl rfl hl.1 rfl (lv_room (Nat.le_of_ble_eq_true rfl)) dM_isIn_2 ⟨Nat.zero_le _, Nat.zero_le _⟩) hS (fun locs hS => ?_)
  refine lv_lload_n hx hb dM_isIn_5 rfl (lv_at hl 2 rfl) ?_
  refine W.lcmp hx hb dM_isIn_6 ?_
  refine lv_if_gt (tgt := 28) hx hb dM_isIn_7 rfl (fun h1 => ?_) (fun h1 => ?_)
  · have h1 := (lg_cmp_gt _ _).mp h1
    refine lv_iconst (v := 0) hx hb dM_isIn_28 (by decide) ?_
    exact W.zret (v := (0 : Int32)) hx hb hr (by decide) (fun t9 ht hW => ⟨⟨_, (), rfl, (by unfold fM_isIn; rw [if_pos h1]), ht.trans hH⟩, hS.F ht⟩) hS.2.2 dM_isIn_29
  · have h1 := mt (lg_cmp_gt _ _).mpr h1
    refine lv_lload_n hx hb dM_isIn_10 rfl (lv_at hl 2 rfl) ?_
    refine lv_iload hx hb dM_isIn_11 (lv_at hl 3 rfl) ?_
    refine lv_i2l hx hb dM_isIn_13 rfl ?_
    refine lv_ladd hx hb dM_isIn_14 ?_
    refine lv_iload_n hx hb dM_isIn_15 rfl (lv_at hl 0 rfl) ?_
    refine lv_iload_n hx hb dM_isIn_16 rfl (lv_at hl 1 rfl) ?_
    refine zc_l (va_runS (As := [.int z, .int a]) (rest := [.long (x + n.toInt64)]) ⟨hx, hb, hml, hown, hq⟩ (kM_top l s.heap z a) (va_cwS 2 hq (wA_S q_451 q_452 q_2 q_453) rfl rfl rfl (by decide +kernel) ⟨Nat.le_of_ble_eq_true rfl, Nat.le_of_ble_eq_true rfl⟩) ⟨fun a U g mk q => q, fun U hU hW => ⟨rfl, hU⟩⟩ rfl rfl hl.1 rfl (lv_room (Nat.le_of_ble_eq_true rfl)) dM_isIn_17 ⟨Nat.zero_le _, Nat.zero_le _⟩) hS (fun locs hS => ?_)
    refine W.lcmp hx hb dM_isIn_20 ?_
    refine lv_if_gt (tgt := 28) hx hb dM_isIn_21 rfl (fun h2 => ?_) (fun h2 => ?_)
    · have h2 := (lg_cmp_gt _ _).mp h2
      refine lv_iconst (v := 0) hx hb dM_isIn_28 (by decide) ?_
      exact W.zret (v := (0 : Int32)) hx hb hr (by decide) (fun t9 ht hW => ⟨⟨_, (), rfl, (by unfold fM_isIn; rw [if_neg h1, if_pos h2]), ht.trans hH⟩, hS.F ht⟩) hS.2.2 dM_isIn_29
    · have h2 := mt (lg_cmp_gt _ _).mpr h2
      refine lv_iconst (v := 1) hx hb dM_isIn_24 (by decide) ?_
      refine lv_goto (tgt := 29) hx hb dM_isIn_25 rfl ?_
      exact W.zret (v := (1 : Int32)) hx hb hr (by decide) (fun t9 ht hW => ⟨⟨_, (), rfl, (by unfold fM_isIn; rw [if_neg h1, if_neg h2]), ht.trans hH⟩, hS.F ht⟩) hS.2.2 dM_isIn_29
end
section
/-! Packing, and the reference's windows, in numbers. -/
theorem zn_add (e k : Nat) {y : Int32} (hy : y = zI (k : Nat)) : zI (e : Nat) + y = zI ((e + k : Nat) : Int) := by
  rw [hy, zI_add]
  congr 1
theorem z_1l : (1 : Int64) = zL 1 := by decide
theorem kRd_in (e : Nat) (b : Int) : b - p2 (e + 3) < kRd e b ∧ kRd e b ≤ b := by
  have hp := p2_pos (e + 3)
  have h1 := Int.ediv_mul_self b (p2 (e + 3))
  have h2 := Int.emod_nonneg b (show p2 (e + 3) ≠ 0 by omega)
  have h3 := Int.emod_lt_of_pos b hp
  unfold kRd
  omega
theorem kRu_in (e : Nat) (t : Int) : t ≤ kRu e t ∧ kRu e t < t + p2 (e + 3) := by
  have hp := p2_pos (e + 3)
  have h1 := Int.ediv_mul_self (t + p2 (e + 3) - 1) (p2 (e + 3))
  have h2 := Int.emod_nonneg (t + p2 (e + 3) - 1) (show p2 (e + 3) ≠ 0 by omega)
  have h3 := Int.emod_lt_of_pos (t + p2 (e + 3) - 1) hp
  unfold kRu
  omega
theorem kRd_0 (e : Nat) {b : Int} (h : 0 ≤ b) : 0 ≤ kRd e b := by
  have hp := p2_pos (e + 3)
  exact Int.mul_nonneg (Int.ediv_nonneg h (by omega)) (by omega)
theorem kUn_eq (e : Nat) (b t : Int) : (kRu e t - kRd e b) / p2 (e + 3) = kUn e b t := by
  have hp := p2_pos (e + 3)
  unfold kRu kRd kUn
  rw [← Int.sub_mul, Int.mul_ediv_cancel _ (by omega)]
theorem eC_rd (n : Int) {e : Nat} (he : e ≤ 27) : fC_roundedDown (zL n) (zI (e : Nat)) = zL (kRd e n) := by
  unfold fC_roundedDown kRd
  rw [zn_add e 3 (by decide), z_1l, zL_shl 1 (e + 3) (by omega) rfl rfl, zL_neg, Int.one_mul]
  exact zL_nmask n (e + 3) (by omega) rfl
theorem eC_ru (n : Int) {e : Nat} (he : e ≤ 27) : fC_roundedUp (zL n) (zI (e : Nat)) = zL (kRu e n) := by
  unfold fC_roundedUp
  rw [zn_add e 3 (by decide), z_1l, zL_shl 1 (e + 3) (by omega) rfl rfl, Int.one_mul, zL_add, zL_sub, eC_rd _ he]
  rfl
theorem p2_29 {e : Nat} (h : e ≤ 26) : p2 (e + 3) ≤ 536870912 := p2_le (show e + 3 ≤ 29 by omega)
theorem eC_fit {b t : Int} (h0 : 0 ≤ b) (hbt : b ≤ t) (ht : t ≤ 4294967296) : fC_fittingExponent (zL b) (zL t) = zI (kF b t : Nat) := by
  have hn : kL ((t - b) / 128) ≤ 26 := kL_le (show (t - b) / 128 < 67108864 by omega)
  have hp := p2_29 hn
  have r1 := kRd_in (kL ((t - b) / 128)) b
  have r2 := kRu_in (kL ((t - b) / 128)) t
  have e7 : zL (t - b) >>> ((7 : Int32).toInt64 &&& 63) = zL ((t - b) / 128) := zL_shr (by omega) (by omega) 7 (by decide) (y := 7) (by decide) (P := 128) rfl
  have e16 : (16 : Int64) = zL 16 := by decide
  have hU : 0 ≤ kUn (kL ((t - b) / 128)) b t ∧ kUn (kL ((t - b) / 128)) b t ≤ kRu (kL ((t - b) / 128)) t - kRd (kL ((t - b) / 128)) b := by
    rw [← kUn_eq]
    have hp0 := p2_pos (kL ((t - b) / 128) + 3)
    exact ⟨Int.ediv_nonneg (by omega) (by omega), Int.ediv_le_self _ (by omega)⟩
  have q0 := kRd_0 (kL ((t - b) / 128)) h0
  unfold fC_fittingExponent kF
  rw [zL_sub, e7, eC_bits (by omega) (by omega), eC_ru _ (by omega), eC_rd _ (by omega), zn_add _ 3 (by decide), zn_add _ 1 (by decide), zL_sub, zL_shr (by omega) (by omega) (kL ((t - b) / 128) + 3) (by omega) rfl rfl, kUn_eq, e16]
  by_cases h : 16 ≤ kUn (kL ((t - b) / 128)) b t
  · rw [if_neg (fun h3 => absurd ((zL_lt (by omega) (by omega) (by omega) (by omega)).mp h3) (by omega)), if_pos h]
  · rw [if_pos ((zL_lt (by omega) (by omega) (by omega) (by omega)).mpr (by omega)), if_neg h]
theorem kF_le {b t : Int} (h0 : 0 ≤ b) (hbt : b ≤ t) (ht : t ≤ 4294967296) (h : ¬ t - b ≤ 63) : kF b t ≤ 26 := (kF_fit h0 (by omega) ht).1
theorem kRu_8 (e : Nat) (t : Int) : kRu e t / p2 e % 8 = 0 := by
  have hp := p2_pos e
  have q3 : p2 (e + 3) = p2 e * 8 := p2_add e 3
  unfold kRu
  rw [show (t + p2 (e + 3) - 1) / p2 (e + 3) * p2 (e + 3) = ((t + p2 (e + 3) - 1) / p2 (e + 3) * 8) * p2 e by rw [Int.mul_assoc, Int.mul_comm 8 (p2 e), ← q3], Int.mul_ediv_cancel _ (by omega)]
  omega
theorem kRd_8 (e : Nat) (t : Int) : kRd e t / p2 e % 8 = 0 := by
  have hp := p2_pos e
  have q3 : p2 (e + 3) = p2 e * 8 := p2_add e 3
  unfold kRd
  rw [show t / p2 (e + 3) * p2 (e + 3) = (t / p2 (e + 3) * 8) * p2 e by rw [Int.mul_assoc, Int.mul_comm 8 (p2 e), ← q3], Int.mul_ediv_cancel _ (by omega)]
  omega
/-- EXACT beside the packed bounds -/
def kX (b t : Int) : Int := if kFr b t = b ∧ kTo b t = t then 32768 else 0
theorem z_pk {T B e c : Int} (hT : T % 8 = 0) (hB : B % 8 = 0) (e0 : 0 ≤ e) (e1 : e ≤ 26) (hc : c % 16384 = 0) :
    ((zI c ||| (((zI T &&& (63 : Int32)) ||| (zI e >>> ((3 : Int32) &&& 31))) <<< ((8 : Int32) &&& 31))) ||| ((zI B &&& (255 : Int32)) ||| (zI e &&& (7 : Int32)))) = zI (c + (T % 64 + e / 8) * 256 + (B % 256 + e % 8)) := by
  rw [zm_63, zs_3 e0 (by omega), zI_or 3 (by decide) _ _ (P := 8) rfl (by omega) (by omega) (by omega), zh_8, zI_or 14 (by decide) _ _ (P := 16384) rfl hc (by omega) (by omega), zm_255, zm_7, zI_or 3 (by decide) _ _ (P := 8) rfl (by omega) (by omega) (by omega), zI_or 8 (by decide) _ _ (P := 256) rfl (by omega) (by omega) (by omega)]
theorem eC_packed {b t : Int} (h0 : 0 ≤ b) (hbt : b ≤ t) (ht : t ≤ 4294967296) : fC_packed (zL b) (zL t) = zI (kPk b t + kX b t) := by
  have e63 : (63 : Int64) = zL 63 := by decide
  by_cases h : t - b ≤ 63
  · have m1 : zL t &&& (63 : Int64) = zL (t % 64) := zL_mask t 6 (by decide) rfl (P := 64) rfl
    have m2 : zL b &&& (255 : Int64) = zL (b % 256) := zL_mask b 8 (by decide) rfl (P := 256) rfl
    have e15 : (32768 : Int32) = zI 32768 := by decide
    unfold fC_packed kPk kX kFr kTo
    rw [m1, m2, e63, zL_sub, if_neg (fun h3 => absurd ((zL_lt (by omega) (by omega) (by omega) (by omega)).mp h3) (by omega)), zL_i, zL_i, zh_8, e15, zI_or 15 (by decide) _ _ (P := 32768) rfl (by omega) (by omega) (by omega), zI_or 8 (by decide) _ _ (P := 256) rfl (by omega) (by omega) (by omega), if_pos h, if_pos h, if_pos h, if_pos ⟨rfl, rfl⟩]
    congr 1
    omega
  · have he := kF_le h0 hbt ht h
    have hp := p2_29 he
    have r1 := kRd_in (kF b t) b
    have r2 := kRu_in (kF b t) t
    have r0 := kRd_0 (kF b t) h0
    have c1 : (0 : Int32) ||| (16384 : Int32) = zI 16384 := by decide
    have c2 : (32768 : Int32) ||| (16384 : Int32) = zI 49152 := by decide
    have g8 := kRu_8 (kF b t) t
    have d8 := kRd_8 (kF b t) b
    have hc : (63 : Int64) < zL t - zL b := by
      rw [zL_sub, e63]
      exact (zL_lt (by omega) (by omega) (by omega) (by omega)).mpr (by omega)
    unfold fC_packed
    rw [if_pos hc, eC_fit h0 hbt ht, eC_ru _ (by omega), eC_rd _ (by omega), zL_shr (by omega) (by omega) (kF b t) (by omega) rfl rfl, zL_shr (by omega) (by omega) (kF b t) (by omega) rfl rfl, zL_i, zL_i, c1, c2, z_pk g8 d8 (by omega) (by omega) (by omega), z_pk g8 d8 (by omega) (by omega) (by omega)]
    unfold kPk kX kFr kTo
    rw [if_neg h, if_neg h, if_neg h]
    by_cases x1 : kRd (kF b t) b = b
    · rw [if_pos (by rw [x1])]
      by_cases x2 : kRu (kF b t) t = t
      · rw [if_pos (by rw [x2]), if_pos ⟨x1, x2⟩]
        congr 1
        omega
      · rw [if_neg (fun h3 => x2 ((zL_eq (by omega) (by omega) (by omega) (by omega)).mp h3)), if_neg (fun h3 => x2 h3.2)]
        congr 1
        omega
    · rw [if_neg (fun h3 => x1 ((zL_eq (by omega) (by omega) (by omega) (by omega)).mp h3)), if_neg (fun h3 => x1 h3.1)]
      congr 1
      omega
theorem z_ed : ∀ b : Nat, b < 256 → (zI (b : Nat) / (32 : Int32) + (7 : Int32)) - (zI (b : Nat) / (32 : Int32) + (7 : Int32)) / (8 : Int32) * (8 : Int32) = zI (((b / 32 + 7) % 8 : Nat) : Int) := by decide +kernel
theorem eM_ed (x : Int32) : ((fM_bottom x / (32 : Int32)) + (7 : Int32)) - ((fM_bottom x / (32 : Int32)) + (7 : Int32)) / (8 : Int32) * (8 : Int32) = zI (kEd x.toInt) := by
  have hb := kB_in x.toInt
  rw [eM_bottom]
  unfold kEd
  obtain ⟨n, hn⟩ := Int.eq_ofNat_of_zero_le hb.1
  rw [hn]
  rw [z_ed n (by omega)]
  congr 1
def kWin (z a : Int) : Int := a - (a - kEd z * p2 (kE z + 5)) % p2 (kE z + 8)
theorem kWin_in (z : Int) {a : Int} (h0 : 0 ≤ a) (h1 : a < 4294967296) : -17179869184 < kWin z a ∧ kWin z a < 4294967296 := by
  have he := kE_le z
  have hp := p2_pos (kE z + 8)
  have hq := p2_le (show kE z + 8 ≤ 34 by omega)
  have h3 : p2 34 = 17179869184 := rfl
  have m0 := Int.emod_nonneg (a - kEd z * p2 (kE z + 5)) (show p2 (kE z + 8) ≠ 0 by omega)
  have m1 := Int.emod_lt_of_pos (a - kEd z * p2 (kE z + 5)) hp
  unfold kWin
  omega
theorem kEd_p (z : Int) : 0 ≤ kEd z * p2 (kE z + 5) ∧ kEd z * p2 (kE z + 5) ≤ 15032385536 := by
  have he := kE_le z
  have hd := kEd_in z
  have hp := p2_pos (kE z + 5)
  have hq := p2_le (show kE z + 5 ≤ 31 by omega)
  have h3 : p2 31 = 2147483648 := rfl
  have a1 : 0 ≤ kEd z * p2 (kE z + 5) := Int.mul_nonneg hd.1 (by omega)
  have a2 : kEd z * p2 (kE z + 5) ≤ 7 * p2 (kE z + 5) := Int.mul_le_mul_of_nonneg_right (by omega) (by omega)
  omega
theorem eM_window (x a : Int32) : fM_window x a = zL (kWin x.toInt (kA a)) := by
  have he := kE_le x.toInt
  have hd := kEd_in x.toInt
  have ha := kA_in a
  have hk := kEd_p x.toInt
  have hp := p2_pos (kE x.toInt + 8)
  have hq := p2_le (show kE x.toInt + 8 ≤ 34 by omega)
  have h3 : p2 34 = 17179869184 := rfl
  unfold fM_window kWin
  rw [eM_ed, eM_low, eM_scale, zn_add _ 5 (by decide), zn_add _ 8 (by decide), zI_l (by omega) (by omega), zL_shl _ (kE x.toInt + 5) (by omega) rfl rfl, z_1l, zL_shl 1 (kE x.toInt + 8) (by omega) rfl rfl, Int.one_mul, zL_sub, eJ_floorMod (by omega) (by omega) (by omega) (by omega), zL_sub]
theorem eM_inw {v k : Int} {e : Nat} (he : e ≤ 26) (v0 : 0 ≤ v) (v1 : v < 256) (k0 : -17179869184 < k) (k1 : k < 4294967296) : fM_inWindow (zI v) (zI (e : Nat)) (zL k) = zL (k + (v * p2 e - k) % p2 (e + 8)) := by
  have hp := p2_pos (e + 8)
  have hq := p2_le (show e + 8 ≤ 34 by omega)
  have h3 : p2 34 = 17179869184 := rfl
  have hp0 := p2_pos e
  have hq0 := p2_le (show e ≤ 26 by omega)
  have h4 : p2 26 = 67108864 := rfl
  have a1 : 0 ≤ v * p2 e := Int.mul_nonneg v0 (by omega)
  have a2 : v * p2 e ≤ 255 * p2 e := Int.mul_le_mul_of_nonneg_right (by omega) (by omega)
  unfold fM_inWindow
  rw [zn_add _ 8 (by decide), zI_l (by omega) (by omega), zL_shl _ e (by omega) rfl rfl, z_1l, zL_shl 1 (e + 8) (by omega) rfl rfl, Int.one_mul, zL_sub, eJ_floorMod (by omega) (by omega) (by omega) (by omega), zL_add]
theorem kWin_pl (z a : Int) {v : Int} (v0 : 0 ≤ v) (v1 : v < 256) : kWin z a + (v * p2 (kE z) - kWin z a) % p2 (kE z + 8) = kPl z a v := by
  have hd := kEd_in z
  unfold kWin kPl
  exact k_win v0 v1 hd.1 hd.2
theorem eM_base (x a : Int32) : fM_base x a = zL (kBase x.toInt (kA a)) := by
  have hb := kB_in x.toInt
  have ha := kA_in a
  have hw := kWin_in x.toInt ha.1 ha.2
  unfold fM_base kBase
  rw [eM_window, eM_bottom, eM_scale, eM_inw (kE_le _) hb.1 hb.2 hw.1 hw.2, kWin_pl _ _ hb.1 hb.2, zL_mask _ 32 (by decide) rfl (P := 4294967296) rfl]
theorem eM_top (x a : Int32) : fM_top x a = zL (kTop x.toInt (kA a)) := by
  have hb := kB_in x.toInt
  have ht := kT_in x.toInt
  have he := kE_le x.toInt
  have ha := kA_in a
  have hw := kWin_in x.toInt ha.1 ha.2
  have i0 := kTop0_in x.toInt (kA a)
  have i1 := kBase_in x.toInt (kA a)
  have e0 : fM_inWindow (fM_roof x) (fM_scale x) (fM_window x a) &&& (8589934591 : Int64) = zL (kTop0 x.toInt (kA a)) := by
    rw [eM_window, eM_roof, eM_scale, eM_inw (kE_le _) ht.1 ht.2 hw.1 hw.2, kWin_pl _ _ ht.1 ht.2, zL_mask _ 33 (by decide) rfl (P := 8589934592) rfl]
    rfl
  have e25 : (25 : Int32) = zI 25 := by decide
  unfold fM_top kTop
  rw [e0, eM_base, eM_scale, e25, zL_shr i0.1 (by omega) 31 (by decide) (y := 31) (by decide) (P := 2147483648) rfl, zL_shr i1.1 (by omega) 31 (by decide) (y := 31) (by decide) (P := 2147483648) rfl, zL_i, zL_i, zI_sub, zm_3, z_1, zL_x32 i0.1 i0.2]
  by_cases h : kE x.toInt < 25
  · rw [if_neg (fun h3 => absurd ((zI_le (by omega) (by omega) (by omega) (by omega)).mp h3) (by omega))]
    by_cases h2 : 1 < (kTop0 x.toInt (kA a) / 2147483648 - kBase x.toInt (kA a) / 2147483648) % 4
    · rw [if_neg (fun h3 => absurd ((zI_le (by omega) (by omega) (by omega) (by omega)).mp h3) (by omega)), if_pos ⟨h, h2⟩]
    · rw [if_pos ((zI_le (by omega) (by omega) (by omega) (by omega)).mpr (by omega)), if_neg (fun h3 => h2 h3.2)]
  · rw [if_pos ((zI_le (by omega) (by omega) (by omega) (by omega)).mpr (by omega)), if_neg (fun h3 => h h3.1)]
theorem e_base (x a : Int32) : fM_base x a = fC_baseOf x a := by rw [eM_base, eC_baseOf]
theorem e_top (x a : Int32) : fM_top x a = fC_topOf x a := by rw [eM_top, eC_topOf]
end
section
/-! The worlds: the class's object and its six arrays, the reference's object and its six arrays. -/
def TC : u_T := fun k => match k with
  | 0 => ("CapUnit", "tags", "[Z", true)
  | 1 => ("CapUnit", "addresses", "[I", true)
  | 2 => ("CapUnit", "metas", "[I", true)
  | 3 => ("CapUnit", "rootBases", "[J", true)
  | 4 => ("CapUnit", "rootTops", "[J", true)
  | 5 => ("CapUnit", "rootPerms", "[I", true)
  | _ => ("CapUnit", "roots", "I", false)
def tyC : Nat → FieldType := fun k => match k with
  | 0 => .array .boolean
  | 1 => .array .int
  | 2 => .array .int
  | 3 => .array .long
  | 4 => .array .long
  | 5 => .array .int
  | _ => .int
theorem nmC : ∀ a, a < 7 → ∀ b, b < 7 → a ≠ b → (TC a).2.1 ≠ (TC b).2.1 := by decide +kernel
theorem tyC_ok : ∀ k, k < 7 → parseFieldDescriptor (TC k).2.2.1 = some (tyC k) := by decide +kernel
def TM : u_T := fun k => match k with
  | 0 => ("CapUnitModel", "tag", "[Z", true)
  | 1 => ("CapUnitModel", "address", "[I", true)
  | 2 => ("CapUnitModel", "meta", "[I", true)
  | 3 => ("CapUnitModel", "rootBase", "[J", true)
  | 4 => ("CapUnitModel", "rootTop", "[J", true)
  | 5 => ("CapUnitModel", "rootPerms", "[I", true)
  | 6 => ("CapUnitModel", "roots", "I", false)
  | 7 => ("CapUnitModel", "thrown", "I", false)
  | 8 => ("CapUnitModel", "packed", "I", false)
  | 9 => ("CapUnitModel", "exact", "Z", false)
  | _ => ("CapUnitModel", "rounded", "J", false)
def tyM : Nat → FieldType := fun k => match k with
  | 0 => .array .boolean
  | 1 => .array .int
  | 2 => .array .int
  | 3 => .array .long
  | 4 => .array .long
  | 5 => .array .int
  | 6 => .int
  | 7 => .int
  | 8 => .int
  | 9 => .boolean
  | _ => .long
theorem nmM : ∀ a, a < 11 → ∀ b, b < 11 → a ≠ b → (TM a).2.1 ≠ (TM b).2.1 := by decide +kernel
theorem tyM_ok : ∀ k, k < 11 → parseFieldDescriptor (TM k).2.2.1 = some (tyM k) := by decide +kernel
abbrev zCl : List vw_C := [("CapUnit", TC, 7), ("CapUnitModel", TM, 11)]
abbrev zT (k : Nat → ClassId) : List (ClassId × FieldType) := [(k 0, .boolean), (k 1, .int), (k 2, .long)]
theorem uC_in : ∀ w ∈ u_ws "CapUnit" TC 7, w ∈ wA := List.forall_mem_cons.mpr ⟨q_26, List.forall_mem_cons.mpr ⟨q_28, List.forall_mem_cons.mpr ⟨q_30, List.forall_mem_cons.mpr ⟨q_32, List.forall_mem_cons.mpr ⟨q_34, List.forall_mem_cons.mpr ⟨q_36, List.forall_mem_cons.mpr ⟨q_38, fun _ h => absurd h List.not_mem_nil⟩⟩⟩⟩⟩⟩⟩
theorem uM_in : ∀ w ∈ u_ws "CapUnitModel" TM 11, w ∈ wA := List.forall_mem_cons.mpr ⟨q_381, List.forall_mem_cons.mpr ⟨q_383, List.forall_mem_cons.mpr ⟨q_385, List.forall_mem_cons.mpr ⟨q_387, List.forall_mem_cons.mpr ⟨q_389, List.forall_mem_cons.mpr ⟨q_391, List.forall_mem_cons.mpr ⟨q_393, List.forall_mem_cons.mpr ⟨q_395, List.forall_mem_cons.mpr ⟨q_397, List.forall_mem_cons.mpr ⟨q_399, List.forall_mem_cons.mpr ⟨q_401, fun _ h => absurd h List.not_mem_nil⟩⟩⟩⟩⟩⟩⟩⟩⟩⟩⟩
/-- the class's object: its cells q, array classes k, tags, addresses, metas, the roots' bases, tops and perms, their number -/
abbrev cW (q : Nat → Nat) (k : Nat → ClassId) (tg ad mt : Nat → Int32) (rb rt : Nat → Int64) (rp : Nat → Int32) (nr : Int32) : va_W := [(q 0, .inr (0, [.ref (q 1), .ref (q 2), .ref (q 3), .ref (q 4), .ref (q 5), .ref (q 6), .int nr])), (q 1, .inl (k 0, 32, .inl tg)), (q 2, .inl (k 1, 32, .inl ad)), (q 3, .inl (k 1, 32, .inl mt)), (q 4, .inl (k 2, 8, .inr (.inl rb))), (q 5, .inl (k 2, 8, .inr (.inl rt))), (q 6, .inl (k 1, 8, .inl rp))]
/-- the reference's object: beside the same the fields thrown, packed, exact, rounded -/
abbrev mW (q : Nat → Nat) (k : Nat → ClassId) (tg ad mt : Nat → Int32) (rb rt : Nat → Int64) (rp : Nat → Int32) (nr th pk ex : Int32) (ro : Int64) : va_W := [(q 0, .inr (1, [.ref (q 1), .ref (q 2), .ref (q 3), .ref (q 4), .ref (q 5), .ref (q 6), .int nr, .int th, .int pk, .int ex, .long ro])), (q 1, .inl (k 0, 32, .inl tg)), (q 2, .inl (k 1, 32, .inl ad)), (q 3, .inl (k 1, 32, .inl mt)), (q 4, .inl (k 2, 8, .inr (.inl rb))), (q 5, .inl (k 2, 8, .inr (.inl rt))), (q 6, .inl (k 1, 8, .inl rp))]
theorem zr_blind {av : List Value} {H : Heap} {D : va_G} {ty : List (ClassId × FieldType)} : FrameBlind (va_Pc av (fun U => U.heap = H ∧ va_K D zCl ty U)) := fun a U g mk h => ⟨h.1, h.2.1, va_K.moved (u := U) (U := U.calling g mk a) (Vm.Alike.refl U.vm) h.2.2⟩
theorem zr_pre {s : State} {H : Heap} {D : va_G} {ws : va_W} {ty : List (ClassId × FieldType)} {b : Nat} {As : List Value} {c : vw_C} {ci q0 : Nat} {fs : List Value} (hK : va_K D zCl ty s) (hP : va_P D zCl ws H) (hc : zCl[ci]? = some c) (he : ws[q0]? = some (b, .inr (ci, fs))) : PreV s H c.1 b (va_Pc (.ref b :: As) (fun U => U.heap = H ∧ va_K D zCl ty U)) As :=
  ⟨zr_blind, va_recv hK hP hc he, fun U hU hW => ⟨rfl, hU, va_K.moved hW.alike hK⟩⟩
theorem zz_nar {v : Int32} (h : v = 0 ∨ v = 1) : narrow .boolean (.int v) = .int v := by
  rcases h with rfl | rfl <;> rfl
theorem zz_reg {r : Int32} (h : ¬ fC_isRegister r = 0) : vp_in r 32 := by
  unfold fC_isRegister at h
  split at h
  · exact absurd rfl h
  · split at h
    · exact absurd rfl h
    · rename_i h1 h2
      rw [vp_in_iff]
      rw [Int32.lt_iff_toInt_lt] at h1
      rw [Int32.le_iff_toInt_le] at h2
      have e0 : (0 : Int32).toInt = 0 := by decide
      have e32 : (32 : Int32).toInt = 32 := by decide
      omega
theorem zz_reg' {r : Int32} (h : vp_in r 32) : fC_isRegister r = 1 := by
  rw [vp_in_iff] at h
  have e0 : (0 : Int32).toInt = 0 := by decide
  have e32 : (32 : Int32).toInt = 32 := by decide
  unfold fC_isRegister
  rw [if_neg (by rw [Int32.lt_iff_toInt_lt]; omega), if_neg (by rw [Int32.le_iff_toInt_le]; omega)]
end
section
def fC_baseIn (tg : Nat → Int32) (ad : Nat → Int32) (mt : Nat → Int32) (r : Int32) : Int64 := fC_baseOf (mt r.toNatClampNeg) (ad r.toNatClampNeg)
set_option maxHeartbeats 4000000 in
set_option maxRecDepth 100000 in
theorem kC_baseIn (l : Launch) {D : va_G} {q : Nat → Nat} {k : Nat → ClassId} {tg : Nat → Int32} {ad : Nat → Int32} {mt : Nat → Int32} {rb : Nat → Int64} {rt : Nat → Int64} {rp : Nat → Int32} {nr : Int32} {H : Heap} (hP : va_P D zCl (cW q k tg ad mt rb rt rp nr) H) (r : Int32) (ir : vp_in r 32) : Met l yC_baseIn wC_baseIn { frames := 3, cells := 0, slots := 0, locals := 71 } (va_Pc [.ref (q 0), .int r] (fun U => U.heap = H ∧ va_K D zCl (zT k) U)) (va_Ql (fun v9 (_ : Unit) => v9 = fC_baseIn tg ad mt r) (fun _ t => t.heap = H) (fun _ => False)) 0 0 (fun _ => False) := by
  refine Met.ofW (cc := cC_baseIn) (maxL := 2) (ret := (some .long)) (by decide) rfl ?_
  intro p e s m args below meth c s₁ B hml hv
  obtain ⟨rfl, hH, hK⟩ := hv
  subst hH
  have hx := B.exec
  have hb := B.bytes
  have hr := B.returns
  have hts := atoms_spec (ws := wC_baseIn) B.pre
  have hq : ∀ w ∈ wA, w.before _ s = true := fun w h => hts w (List.mem_cons_of_mem _ h)
  have hown : s.vm.findClass "CapUnit" = some m.cls := findClass_of_methodNamed B.named
  have hlocks := B.notSynchronized
  have hS : va_S (fun _ => False) s.heap s.heap [] := va_S.rf
  have hl := lv_entry ([.ref (q 0), .int r]) (n := 2) (Nat.le_of_ble_eq_true rfl)
  rw [lg_entry_eq]
  generalize (lg_sl ([.ref (q 0), .int r]) ++ List.replicate (2 - (lg_sl ([.ref (q 0), .int r])).length) Slot.unset).toArray = ls at hl ⊢
  have hl : lv_has ls 2 [(0, .ref (q 0)), (1, .int r)] := hl
  refine lv_aload_n hx hb dC_baseIn_0 rfl (lv_at hl 0 rfl) ?_
  refine va_get (D := D) (ci := 0) (v := .ref (q 3)) (C := "CapUnit") (T := TC) (N := 7) hx hb hq uC_in hown hK hP 0 rfl rfl 2 (by decide) (hq _ q_21) (fun _ h9 => h9) rfl dC_baseIn_1 ?_
  refine lv_iload_n hx hb dC_baseIn_4 rfl (lv_at hl 1 rfl) ?_
  refine va_iald hx hb hK hP 3 1 rfl rfl (i := r) ir dC_baseIn_5 ?_
  refine lv_aload_n hx hb dC_baseIn_6 rfl (lv_at hl 0 rfl) ?_
  refine va_get (D := D) (ci := 0) (v := .ref (q 2)) (C := "CapUnit") (T := TC) (N := 7) hx hb hq uC_in hown hK hP 0 rfl rfl 1 (by decide) (hq _ q_20) (fun _ h9 => h9) rfl dC_baseIn_7 ?_
  refine lv_iload_n hx hb dC_baseIn_10 rfl (lv_at hl 1 rfl) ?_
  refine va_iald hx hb hK hP 2 1 rfl rfl (i := r) ir dC_baseIn_11 ?_
  refine zc_l (va_runS (As := [.int (mt r.toNatClampNeg), .int (ad r.toNatClampNeg)]) (rest := []) ⟨hx, hb, hml, hown, hq⟩ (kC_baseOf l s.heap (mt r.toNatClampNeg) (ad r.toNatClampNeg)) (va_cwS 2 hq (wA_S q_73 q_74 q_1 q_75) rfl rfl rfl (by decide +kernel) ⟨Nat.le_of_ble_eq_true rfl, Nat.le_of_ble_eq_true rfl⟩) ⟨fun a U g mk q => q, fun U hU hW => ⟨rfl, hU⟩⟩ rfl rfl hl.1 rfl (lv_room (Nat.le_of_ble_eq_true rfl)) dC_baseIn_12 ⟨Nat.zero_le _, Nat.zero_le _⟩) hS (fun locs hS => ?_)
  exact W.lret (v := fC_baseOf (mt r.toNatClampNeg) (ad r.toNatClampNeg)) hx hb hr (fun t9 ht hW => ⟨⟨_, (), rfl, (by unfold fC_baseIn; rfl), ht⟩, hS.F ht⟩) hS.2.2 dC_baseIn_15
def fC_topIn (tg : Nat → Int32) (ad : Nat → Int32) (mt : Nat → Int32) (r : Int32) : Int64 := fC_topOf (mt r.toNatClampNeg) (ad r.toNatClampNeg)
set_option maxHeartbeats 4000000 in
set_option maxRecDepth 100000 in
theorem kC_topIn (l : Launch) {D : va_G} {q : Nat → Nat} {k : Nat → ClassId} {tg : Nat → Int32} {ad : Nat → Int32} {mt : Nat → Int32} {rb : Nat → Int64} {rt : Nat → Int64} {rp : Nat → Int32} {nr : Int32} {H : Heap} (hP : va_P D zCl (cW q k tg ad mt rb rt rp nr) H) (r : Int32) (ir : vp_in r 32) : Met l yC_topIn wC_topIn { frames := 3, cells := 0, slots := 0, locals := 77 } (va_Pc [.ref (q 0), .int r] (fun U => U.heap = H ∧ va_K D zCl (zT k) U)) (va_Ql (fun v9 (_ : Unit) => v9 = fC_topIn tg ad mt r) (fun _ t => t.heap = H) (fun _ => False)) 0 0 (fun _ => False) := by
  refine Met.ofW (cc := cC_topIn) (maxL := 2) (ret := (some .long)) (by decide) rfl ?_
  intro p e s m args below meth c s₁ B hml hv
  obtain ⟨rfl, hH, hK⟩ := hv
  subst hH
  have hx := B.exec
  have hb := B.bytes
  have hr := B.returns
  have hts := atoms_spec (ws := wC_topIn) B.pre
  have hq : ∀ w ∈ wA, w.before _ s = true := fun w h => hts w (List.mem_cons_of_mem _ h)
  have hown : s.vm.findClass "CapUnit" = some m.cls := findClass_of_methodNamed B.named
  have hlocks := B.notSynchronized
  have hS : va_S (fun _ => False) s.heap s.heap [] := va_S.rf
  have hl := lv_entry ([.ref (q 0), .int r]) (n := 2) (Nat.le_of_ble_eq_true rfl)
  rw [lg_entry_eq]
  generalize (lg_sl ([.ref (q 0), .int r]) ++ List.replicate (2 - (lg_sl ([.ref (q 0), .int r])).length) Slot.unset).toArray = ls at hl ⊢
  have hl : lv_has ls 2 [(0, .ref (q 0)), (1, .int r)] := hl
  refine lv_aload_n hx hb dC_topIn_0 rfl (lv_at hl 0 rfl) ?_
  refine va_get (D := D) (ci := 0) (v := .ref (q 3)) (C := "CapUnit") (T := TC) (N := 7) hx hb hq uC_in hown hK hP 0 rfl rfl 2 (by decide) (hq _ q_21) (fun _ h9 => h9) rfl dC_topIn_1 ?_
  refine lv_iload_n hx hb dC_topIn_4 rfl (lv_at hl 1 rfl) ?_
  refine va_iald hx hb hK hP 3 1 rfl rfl (i := r) ir dC_topIn_5 ?_
  refine lv_aload_n hx hb dC_topIn_6 rfl (lv_at hl 0 rfl) ?_
  refine va_get (D := D) (ci := 0) (v := .ref (q 2)) (C := "CapUnit") (T := TC) (N := 7) hx hb hq uC_in hown hK hP 0 rfl rfl 1 (by decide) (hq _ q_20) (fun _ h9 => h9) rfl dC_topIn_7 ?_
  refine lv_iload_n hx hb dC_topIn_10 rfl (lv_at hl 1 rfl) ?_
  refine va_iald hx hb hK hP 2 1 rfl rfl (i := r) ir dC_topIn_11 ?_
  refine zc_l (va_runS (As := [.int (mt r.toNatClampNeg), .int (ad r.toNatClampNeg)]) (rest := []) ⟨hx, hb, hml, hown, hq⟩ (kC_topOf l s.heap (mt r.toNatClampNeg) (ad r.toNatClampNeg)) (va_cwS 2 hq (wA_S q_48 q_49 q_1 q_50) rfl rfl rfl (by decide +kernel) ⟨Nat.le_of_ble_eq_true rfl, Nat.le_of_ble_eq_true rfl⟩) ⟨fun a U g mk q => q, fun U hU hW => ⟨rfl, hU⟩⟩ rfl rfl hl.1 rfl (lv_room (Nat.le_of_ble_eq_true rfl)) dC_topIn_12 ⟨Nat.zero_le _, Nat.zero_le _⟩) hS (fun locs hS => ?_)
  exact W.lret (v := fC_topOf (mt r.toNatClampNeg) (ad r.toNatClampNeg)) hx hb hr (fun t9 ht hW => ⟨⟨_, (), rfl, (by unfold fC_topIn; rfl), ht⟩, hS.F ht⟩) hS.2.2 dC_topIn_15
def fC_isOpenWithTag (tg : Nat → Int32) (ad : Nat → Int32) (mt : Nat → Int32) (r : Int32) : Int32 := if (tg r.toNatClampNeg) = 0 then (0 : Int32) else (if (fC_typeOf (mt r.toNatClampNeg)) = (15 : Int32) then (1 : Int32) else (0 : Int32))
theorem bC_isOpenWithTag (tg : Nat → Int32) (ad : Nat → Int32) (mt : Nat → Int32) (r : Int32) : fC_isOpenWithTag tg ad mt r = 0 ∨ fC_isOpenWithTag tg ad mt r = 1 := by
  unfold fC_isOpenWithTag
  repeat' split
  all_goals first | exact Or.inl rfl | exact Or.inr rfl
set_option maxHeartbeats 4000000 in
set_option maxRecDepth 100000 in
theorem kC_isOpenWithTag (l : Launch) {D : va_G} {q : Nat → Nat} {k : Nat → ClassId} {tg : Nat → Int32} {ad : Nat → Int32} {mt : Nat → Int32} {rb : Nat → Int64} {rt : Nat → Int64} {rp : Nat → Int32} {nr : Int32} {H : Heap} (hP : va_P D zCl (cW q k tg ad mt rb rt rp nr) H) (r : Int32) (ir : vp_in r 32) : Met l yC_isOpenWithTag wC_isOpenWithTag { frames := 1, cells := 0, slots := 0, locals := 20 } (va_Pc [.ref (q 0), .int r] (fun U => U.heap = H ∧ va_K D zCl (zT k) U)) (va_Qi (fun v9 (_ : Unit) => v9 = fC_isOpenWithTag tg ad mt r) (fun _ t => t.heap = H) (fun _ => False)) 0 0 (fun _ => False) := by
  refine Met.ofW (cc := cC_isOpenWithTag) (maxL := 2) (ret := (some .boolean)) (by decide) rfl ?_
  intro p e s m args below meth c s₁ B hml hv
  obtain ⟨rfl, hH, hK⟩ := hv
  subst hH
  have hx := B.exec
  have hb := B.bytes
  have hr := B.returns
  have hts := atoms_spec (ws := wC_isOpenWithTag) B.pre
  have hq : ∀ w ∈ wA, w.before _ s = true := fun w h => hts w (List.mem_cons_of_mem _ h)
  have hown : s.vm.findClass "CapUnit" = some m.cls := findClass_of_methodNamed B.named
  have hlocks := B.notSynchronized
  have hS : va_S (fun _ => False) s.heap s.heap [] := va_S.rf
  have hl := lv_entry ([.ref (q 0), .int r]) (n := 2) (Nat.le_of_ble_eq_true rfl)
  rw [lg_entry_eq]
  generalize (lg_sl ([.ref (q 0), .int r]) ++ List.replicate (2 - (lg_sl ([.ref (q 0), .int r])).length) Slot.unset).toArray = ls at hl ⊢
  have hl : lv_has ls 2 [(0, .ref (q 0)), (1, .int r)] := hl
  refine lv_aload_n hx hb dC_isOpenWithTag_0 rfl (lv_at hl 0 rfl) ?_
  refine va_get (D := D) (ci := 0) (v := .ref (q 1)) (C := "CapUnit") (T := TC) (N := 7) hx hb hq uC_in hown hK hP 0 rfl rfl 0 (by decide) (hq _ q_19) (fun _ h9 => h9) rfl dC_isOpenWithTag_1 ?_
  refine lv_iload_n hx hb dC_isOpenWithTag_4 rfl (lv_at hl 1 rfl) ?_
  refine va_zald hx hb hK hP 1 0 rfl rfl (i := r) ir dC_isOpenWithTag_5 ?_
  refine lv_if_eq (tgt := 27) hx hb dC_isOpenWithTag_6 rfl (fun h1 => ?_) (fun h1 => ?_)
  · refine lv_iconst (v := 0) hx hb dC_isOpenWithTag_27 (by decide) ?_
    exact W.zret (v := (0 : Int32)) hx hb hr (by decide) (fun t9 ht hW => ⟨⟨_, (), rfl, (by unfold fC_isOpenWithTag; rw [if_pos h1]), ht⟩, hS.F ht⟩) hS.2.2 dC_isOpenWithTag_28
  · refine lv_aload_n hx hb dC_isOpenWithTag_9 rfl (lv_at hl 0 rfl) ?_
    refine va_get (D := D) (ci := 0) (v := .ref (q 3)) (C := "CapUnit") (T := TC) (N := 7) hx hb hq uC_in hown hK hP 0 rfl rfl 2 (by decide) (hq _ q_21) (fun _ h9 => h9) rfl dC_isOpenWithTag_10 ?_
    refine lv_iload_n hx hb dC_isOpenWithTag_13 rfl (lv_at hl 1 rfl) ?_
    refine va_iald hx hb hK hP 3 1 rfl rfl (i := r) ir dC_isOpenWithTag_14 ?_
    refine zc_i (va_runS (As := [.int (mt r.toNatClampNeg)]) (rest := []) ⟨hx, hb, hml, hown, hq⟩ (kC_typeOf l s.heap (mt r.toNatClampNeg)) (va_cwS 1 hq (wA_S q_261 q_262 q_1 q_263) rfl rfl rfl (by decide +kernel) ⟨Nat.le_of_ble_eq_true rfl, Nat.le_of_ble_eq_true rfl⟩) ⟨fun a U g mk q => q, fun U hU hW => ⟨rfl, hU⟩⟩ rfl rfl hl.1 rfl (lv_room (Nat.le_of_ble_eq_true rfl)) dC_isOpenWithTag_15 ⟨Nat.zero_le _, Nat.zero_le _⟩) hS (fun locs hS => ?_)
    refine lv_bipush (v := 15) hx hb dC_isOpenWithTag_18 (by decide) ?_
    refine lv_icmp_ne (tgt := 27) hx hb dC_isOpenWithTag_20 rfl (fun h2 => ?_) (fun h2 => ?_)
    · refine lv_iconst (v := 0) hx hb dC_isOpenWithTag_27 (by decide) ?_
      exact W.zret (v := (0 : Int32)) hx hb hr (by decide) (fun t9 ht hW => ⟨⟨_, (), rfl, (by unfold fC_isOpenWithTag; rw [if_neg h1, if_neg h2]), ht⟩, hS.F ht⟩) hS.2.2 dC_isOpenWithTag_28
    · refine lv_iconst (v := 1) hx hb dC_isOpenWithTag_23 (by decide) ?_
      refine lv_goto (tgt := 28) hx hb dC_isOpenWithTag_24 rfl ?_
      exact W.zret (v := (1 : Int32)) hx hb hr (by decide) (fun t9 ht hW => ⟨⟨_, (), rfl, (by unfold fC_isOpenWithTag; rw [if_neg h1, if_pos h2]), ht⟩, hS.F ht⟩) hS.2.2 dC_isOpenWithTag_28
def fC_hasPerm (tg : Nat → Int32) (ad : Nat → Int32) (mt : Nat → Int32) (r : Int32) (y : Int32) : Int32 := if ((fC_permsOf (mt r.toNatClampNeg)) &&& y) = 0 then (0 : Int32) else (1 : Int32)
theorem bC_hasPerm (tg : Nat → Int32) (ad : Nat → Int32) (mt : Nat → Int32) (r : Int32) (y : Int32) : fC_hasPerm tg ad mt r y = 0 ∨ fC_hasPerm tg ad mt r y = 1 := by
  unfold fC_hasPerm
  repeat' split
  all_goals first | exact Or.inl rfl | exact Or.inr rfl
set_option maxHeartbeats 4000000 in
set_option maxRecDepth 100000 in
theorem kC_hasPerm (l : Launch) {D : va_G} {q : Nat → Nat} {k : Nat → ClassId} {tg : Nat → Int32} {ad : Nat → Int32} {mt : Nat → Int32} {rb : Nat → Int64} {rt : Nat → Int64} {rp : Nat → Int32} {nr : Int32} {H : Heap} (hP : va_P D zCl (cW q k tg ad mt rb rt rp nr) H) (r : Int32) (y : Int32) (ir : vp_in r 32) : Met l yC_hasPerm wC_hasPerm { frames := 1, cells := 0, slots := 0, locals := 20 } (va_Pc [.ref (q 0), .int r, .int y] (fun U => U.heap = H ∧ va_K D zCl (zT k) U)) (va_Qi (fun v9 (_ : Unit) => v9 = fC_hasPerm tg ad mt r y) (fun _ t => t.heap = H) (fun _ => False)) 0 0 (fun _ => False) := by
  refine Met.ofW (cc := cC_hasPerm) (maxL := 3) (ret := (some .boolean)) (by decide) rfl ?_
  intro p e s m args below meth c s₁ B hml hv
  obtain ⟨rfl, hH, hK⟩ := hv
  subst hH
  have hx := B.exec
  have hb := B.bytes
  have hr := B.returns
  have hts := atoms_spec (ws := wC_hasPerm) B.pre
  have hq : ∀ w ∈ wA, w.before _ s = true := fun w h => hts w (List.mem_cons_of_mem _ h)
  have hown : s.vm.findClass "CapUnit" = some m.cls := findClass_of_methodNamed B.named
  have hlocks := B.notSynchronized
  have hS : va_S (fun _ => False) s.heap s.heap [] := va_S.rf
  have hl := lv_entry ([.ref (q 0), .int r, .int y]) (n := 3) (Nat.le_of_ble_eq_true rfl)
  rw [lg_entry_eq]
  generalize (lg_sl ([.ref (q 0), .int r, .int y]) ++ List.replicate (3 - (lg_sl ([.ref (q 0), .int r, .int y])).length) Slot.unset).toArray = ls at hl ⊢
  have hl : lv_has ls 3 [(0, .ref (q 0)), (1, .int r), (2, .int y)] := hl
  refine lv_aload_n hx hb dC_hasPerm_0 rfl (lv_at hl 0 rfl) ?_
  refine va_get (D := D) (ci := 0) (v := .ref (q 3)) (C := "CapUnit") (T := TC) (N := 7) hx hb hq uC_in hown hK hP 0 rfl rfl 2 (by decide) (hq _ q_21) (fun _ h9 => h9) rfl dC_hasPerm_1 ?_
  refine lv_iload_n hx hb dC_hasPerm_4 rfl (lv_at hl 1 rfl) ?_
  refine va_iald hx hb hK hP 3 1 rfl rfl (i := r) ir dC_hasPerm_5 ?_
  refine zc_i (va_runS (As := [.int (mt r.toNatClampNeg)]) (rest := []) ⟨hx, hb, hml, hown, hq⟩ (kC_permsOf l s.heap (mt r.toNatClampNeg)) (va_cwS 1 hq (wA_S q_96 q_97 q_1 q_98) rfl rfl rfl (by decide +kernel) ⟨Nat.le_of_ble_eq_true rfl, Nat.le_of_ble_eq_true rfl⟩) ⟨fun a U g mk q => q, fun U hU hW => ⟨rfl, hU⟩⟩ rfl rfl hl.1 rfl (lv_room (Nat.le_of_ble_eq_true rfl)) dC_hasPerm_6 ⟨Nat.zero_le _, Nat.zero_le _⟩) hS (fun locs hS => ?_)
  refine lv_iload_n hx hb dC_hasPerm_9 rfl (lv_at hl 2 rfl) ?_
  refine lv_iand hx hb dC_hasPerm_10 ?_
  refine lv_if_eq (tgt := 18) hx hb dC_hasPerm_11 rfl (fun h1 => ?_) (fun h1 => ?_)
  · refine lv_iconst (v := 0) hx hb dC_hasPerm_18 (by decide) ?_
    exact W.zret (v := (0 : Int32)) hx hb hr (by decide) (fun t9 ht hW => ⟨⟨_, (), rfl, (by unfold fC_hasPerm; rw [if_pos h1]), ht⟩, hS.F ht⟩) hS.2.2 dC_hasPerm_19
  · refine lv_iconst (v := 1) hx hb dC_hasPerm_14 (by decide) ?_
    refine lv_goto (tgt := 19) hx hb dC_hasPerm_15 rfl ?_
    exact W.zret (v := (1 : Int32)) hx hb hr (by decide) (fun t9 ht hW => ⟨⟨_, (), rfl, (by unfold fC_hasPerm; rw [if_neg h1]), ht⟩, hS.F ht⟩) hS.2.2 dC_hasPerm_19
def fC_isInBounds (tg : Nat → Int32) (ad : Nat → Int32) (mt : Nat → Int32) (r : Int32) (x : Int64) (n : Int64) : Int32 := if x < (fC_baseIn tg ad mt r) then (0 : Int32) else (if (fC_topIn tg ad mt r) < (x + n) then (0 : Int32) else (1 : Int32))
theorem bC_isInBounds (tg : Nat → Int32) (ad : Nat → Int32) (mt : Nat → Int32) (r : Int32) (x : Int64) (n : Int64) : fC_isInBounds tg ad mt r x n = 0 ∨ fC_isInBounds tg ad mt r x n = 1 := by
  unfold fC_isInBounds
  repeat' split
  all_goals first | exact Or.inl rfl | exact Or.inr rfl
set_option maxHeartbeats 4000000 in
set_option maxRecDepth 100000 in
theorem kC_isInBounds (l : Launch) {D : va_G} {q : Nat → Nat} {k : Nat → ClassId} {tg : Nat → Int32} {ad : Nat → Int32} {mt : Nat → Int32} {rb : Nat → Int64} {rt : Nat → Int64} {rp : Nat → Int32} {nr : Int32} {H : Heap} (hP : va_P D zCl (cW q k tg ad mt rb rt rp nr) H) (r : Int32) (x : Int64) (n : Int64) (ir : vp_in r 32) : Met l yC_isInBounds wC_isInBounds { frames := 4, cells := 0, slots := 0, locals := 98 } (va_Pc [.ref (q 0), .int r, .long x, .long n] (fun U => U.heap = H ∧ va_K D zCl (zT k) U)) (va_Qi (fun v9 (_ : Unit) => v9 = fC_isInBounds tg ad mt r x n) (fun _ t => t.heap = H) (fun _ => False)) 0 0 (fun _ => False) := by
  refine Met.ofW (cc := cC_isInBounds) (maxL := 6) (ret := (some .boolean)) (by decide) rfl ?_
  intro p e s m args below meth c s₁ B hml hv
  obtain ⟨rfl, hH, hK⟩ := hv
  subst hH
  have hx := B.exec
  have hb := B.bytes
  have hr := B.returns
  have hts := atoms_spec (ws := wC_isInBounds) B.pre
  have hq : ∀ w ∈ wA, w.before _ s = true := fun w h => hts w (List.mem_cons_of_mem _ h)
  have hown : s.vm.findClass "CapUnit" = some m.cls := findClass_of_methodNamed B.named
  have hlocks := B.notSynchronized
  have hS : va_S (fun _ => False) s.heap s.heap [] := va_S.rf
  have hl := lv_entry ([.ref (q 0), .int r, .long x, .long n]) (n := 6) (Nat.le_of_ble_eq_true rfl)
  rw [lg_entry_eq]
  generalize (lg_sl ([.ref (q 0), .int r, .long x, .long n]) ++ List.replicate (6 - (lg_sl ([.ref (q 0), .int r, .long x, .long n])).length) Slot.unset).toArray = ls at hl ⊢
  have hl : lv_has ls 6 [(0, .ref (q 0)), (1, .int r), (2, .long x), (4, .long n)] := hl
  refine lv_aload_n hx hb dC_isInBounds_0 rfl (lv_at hl 0 rfl) ?_
  refine lv_iload_n hx hb dC_isInBounds_1 rfl (lv_at hl 1 rfl) ?_
  refine zc_l (va_runV (C := "CapUnit") (b := q 0) (As := [.int r]) (rest := []) ⟨hx, hb, hml, hown, hq⟩ (kC_baseIn l hP r ir) (cwV 1 hq (wA_V q_88 q_90 sC_baseIn q_1 q_91) rfl rfl rfl (by decide +kernel) ⟨Nat.le_of_ble_eq_true rfl, Nat.le_of_ble_eq_true rfl⟩) (zr_pre (c := zCl[0]) (q0 := 0) hK hP rfl rfl) rfl rfl hl.1 rfl (lv_room (Nat.le_of_ble_eq_true rfl)) dC_isInBounds_2 ⟨Nat.le_of_ble_eq_true rfl, Nat.le_of_ble_eq_true rfl⟩) hS (fun locs hS => ?_)
  refine lv_lload_n hx hb dC_isInBounds_5 rfl (lv_at hl 2 rfl) ?_
  refine W.lcmp hx hb dC_isInBounds_6 ?_
  refine lv_if_gt (tgt := 27) hx hb dC_isInBounds_7 rfl (fun h1 => ?_) (fun h1 => ?_)
  · have h1 := (lg_cmp_gt _ _).mp h1
    refine lv_iconst (v := 0) hx hb dC_isInBounds_27 (by decide) ?_
    exact W.zret (v := (0 : Int32)) hx hb hr (by decide) (fun t9 ht hW => ⟨⟨_, (), rfl, (by unfold fC_isInBounds; rw [if_pos h1]), ht⟩, hS.F ht⟩) hS.2.2 dC_isInBounds_28
  · have h1 := Not.imp h1 (lg_cmp_gt _ _).mpr
    refine lv_lload_n hx hb dC_isInBounds_10 rfl (lv_at hl 2 rfl) ?_
    refine lv_lload hx hb dC_isInBounds_11 (lv_at hl 3 rfl) ?_
    refine lv_ladd hx hb dC_isInBounds_13 ?_
    refine lv_aload_n hx hb dC_isInBounds_14 rfl (lv_at hl 0 rfl) ?_
    refine lv_iload_n hx hb dC_isInBounds_15 rfl (lv_at hl 1 rfl) ?_
    refine zc_l (va_runV (C := "CapUnit") (b := q 0) (As := [.int r]) (rest := [.long (x + n)]) ⟨hx, hb, hml, hown, hq⟩ (kC_topIn l hP r ir) (cwV 1 hq (wA_V q_92 q_94 sC_topIn q_1 q_95) rfl rfl rfl (by decide +kernel) ⟨Nat.le_of_ble_eq_true rfl, Nat.le_of_ble_eq_true rfl⟩) (zr_pre (c := zCl[0]) (q0 := 0) hK hP rfl rfl) rfl rfl hl.1 rfl (lv_room (Nat.le_of_ble_eq_true rfl)) dC_isInBounds_16 ⟨Nat.le_of_ble_eq_true rfl, Nat.le_of_ble_eq_true rfl⟩) hS (fun locs hS => ?_)
    refine W.lcmp hx hb dC_isInBounds_19 ?_
    refine lv_if_gt (tgt := 27) hx hb dC_isInBounds_20 rfl (fun h2 => ?_) (fun h2 => ?_)
    · have h2 := (lg_cmp_gt _ _).mp h2
      refine lv_iconst (v := 0) hx hb dC_isInBounds_27 (by decide) ?_
      exact W.zret (v := (0 : Int32)) hx hb hr (by decide) (fun t9 ht hW => ⟨⟨_, (), rfl, (by unfold fC_isInBounds; rw [if_neg h1, if_pos h2]), ht⟩, hS.F ht⟩) hS.2.2 dC_isInBounds_28
    · have h2 := Not.imp h2 (lg_cmp_gt _ _).mpr
      refine lv_iconst (v := 1) hx hb dC_isInBounds_23 (by decide) ?_
      refine lv_goto (tgt := 28) hx hb dC_isInBounds_24 rfl ?_
      exact W.zret (v := (1 : Int32)) hx hb hr (by decide) (fun t9 ht hW => ⟨⟨_, (), rfl, (by unfold fC_isInBounds; rw [if_neg h1, if_neg h2]), ht⟩, hS.F ht⟩) hS.2.2 dC_isInBounds_28
def fC_isKey (tg : Nat → Int32) (ad : Nat → Int32) (mt : Nat → Int32) (r : Int32) (y : Int32) : Int32 := if (fC_isOpenWithTag tg ad mt r) = 0 then (0 : Int32) else (if (fC_hasPerm tg ad mt r y) = 0 then (0 : Int32) else (if (fC_isInBounds tg ad mt r (fC_unsigned (ad r.toNatClampNeg)) (1 : Int64)) = 0 then (0 : Int32) else (1 : Int32)))
theorem bC_isKey (tg : Nat → Int32) (ad : Nat → Int32) (mt : Nat → Int32) (r : Int32) (y : Int32) : fC_isKey tg ad mt r y = 0 ∨ fC_isKey tg ad mt r y = 1 := by
  unfold fC_isKey
  repeat' split
  all_goals first | exact Or.inl rfl | exact Or.inr rfl | exact bC_hasPerm .. | exact bC_isInBounds .. | exact bC_isOpenWithTag ..
set_option maxHeartbeats 4000000 in
set_option maxRecDepth 100000 in
theorem kC_isKey (l : Launch) {D : va_G} {q : Nat → Nat} {k : Nat → ClassId} {tg : Nat → Int32} {ad : Nat → Int32} {mt : Nat → Int32} {rb : Nat → Int64} {rt : Nat → Int64} {rp : Nat → Int32} {nr : Int32} {H : Heap} (hP : va_P D zCl (cW q k tg ad mt rb rt rp nr) H) (r : Int32) (y : Int32) (ir : vp_in r 32) : Met l yC_isKey wC_isKey { frames := 5, cells := 0, slots := 0, locals := 123 } (va_Pc [.ref (q 0), .int r, .int y] (fun U => U.heap = H ∧ va_K D zCl (zT k) U)) (va_Qi (fun v9 (_ : Unit) => v9 = fC_isKey tg ad mt r y) (fun _ t => t.heap = H) (fun _ => False)) 0 0 (fun _ => False) := by
  refine Met.ofW (cc := cC_isKey) (maxL := 3) (ret := (some .boolean)) (by decide) rfl ?_
  intro p e s m args below meth c s₁ B hml hv
  obtain ⟨rfl, hH, hK⟩ := hv
  subst hH
  have hx := B.exec
  have hb := B.bytes
  have hr := B.returns
  have hts := atoms_spec (ws := wC_isKey) B.pre
  have hq : ∀ w ∈ wA, w.before _ s = true := fun w h => hts w (List.mem_cons_of_mem _ h)
  have hown : s.vm.findClass "CapUnit" = some m.cls := findClass_of_methodNamed B.named
  have hlocks := B.notSynchronized
  have hS : va_S (fun _ => False) s.heap s.heap [] := va_S.rf
  have hl := lv_entry ([.ref (q 0), .int r, .int y]) (n := 3) (Nat.le_of_ble_eq_true rfl)
  rw [lg_entry_eq]
  generalize (lg_sl ([.ref (q 0), .int r, .int y]) ++ List.replicate (3 - (lg_sl ([.ref (q 0), .int r, .int y])).length) Slot.unset).toArray = ls at hl ⊢
  have hl : lv_has ls 3 [(0, .ref (q 0)), (1, .int r), (2, .int y)] := hl
  refine lv_aload_n hx hb dC_isKey_0 rfl (lv_at hl 0 rfl) ?_
  refine lv_iload_n hx hb dC_isKey_1 rfl (lv_at hl 1 rfl) ?_
  refine zc_i (va_runV (C := "CapUnit") (b := q 0) (As := [.int r]) (rest := []) ⟨hx, hb, hml, hown, hq⟩ (kC_isOpenWithTag l hP r ir) (cwV 1 hq (wA_V q_257 q_259 sC_isOpenWithTag q_1 q_260) rfl rfl rfl (by decide +kernel) ⟨Nat.le_of_ble_eq_true rfl, Nat.le_of_ble_eq_true rfl⟩) (zr_pre (c := zCl[0]) (q0 := 0) hK hP rfl rfl) rfl rfl hl.1 rfl (lv_room (Nat.le_of_ble_eq_true rfl)) dC_isKey_2 ⟨Nat.le_of_ble_eq_true rfl, Nat.le_of_ble_eq_true rfl⟩) hS (fun locs hS => ?_)
  refine lv_if_eq (tgt := 39) hx hb dC_isKey_5 rfl (fun h1 => ?_) (fun h1 => ?_)
  · refine lv_iconst (v := 0) hx hb dC_isKey_39 (by decide) ?_
    exact W.zret (v := (0 : Int32)) hx hb hr (by decide) (fun t9 ht hW => ⟨⟨_, (), rfl, (by unfold fC_isKey; rw [if_pos h1]), ht⟩, hS.F ht⟩) hS.2.2 dC_isKey_40
  · refine lv_aload_n hx hb dC_isKey_8 rfl (lv_at hl 0 rfl) ?_
    refine lv_iload_n hx hb dC_isKey_9 rfl (lv_at hl 1 rfl) ?_
    refine lv_iload_n hx hb dC_isKey_10 rfl (lv_at hl 2 rfl) ?_
    refine zc_i (va_runV (C := "CapUnit") (b := q 0) (As := [.int r, .int y]) (rest := []) ⟨hx, hb, hml, hown, hq⟩ (kC_hasPerm l hP r y ir) (cwV 2 hq (wA_V q_293 q_295 sC_hasPerm q_1 q_296) rfl rfl rfl (by decide +kernel) ⟨Nat.le_of_ble_eq_true rfl, Nat.le_of_ble_eq_true rfl⟩) (zr_pre (c := zCl[0]) (q0 := 0) hK hP rfl rfl) rfl rfl hl.1 rfl (lv_room (Nat.le_of_ble_eq_true rfl)) dC_isKey_11 ⟨Nat.le_of_ble_eq_true rfl, Nat.le_of_ble_eq_true rfl⟩) hS (fun locs hS => ?_)
    refine lv_if_eq (tgt := 39) hx hb dC_isKey_14 rfl (fun h2 => ?_) (fun h2 => ?_)
    · refine lv_iconst (v := 0) hx hb dC_isKey_39 (by decide) ?_
      exact W.zret (v := (0 : Int32)) hx hb hr (by decide) (fun t9 ht hW => ⟨⟨_, (), rfl, (by unfold fC_isKey; rw [if_neg h1, if_pos h2]), ht⟩, hS.F ht⟩) hS.2.2 dC_isKey_40
    · refine lv_aload_n hx hb dC_isKey_17 rfl (lv_at hl 0 rfl) ?_
      refine lv_iload_n hx hb dC_isKey_18 rfl (lv_at hl 1 rfl) ?_
      refine lv_aload_n hx hb dC_isKey_19 rfl (lv_at hl 0 rfl) ?_
      refine va_get (D := D) (ci := 0) (v := .ref (q 2)) (C := "CapUnit") (T := TC) (N := 7) hx hb hq uC_in hown hK hP 0 rfl rfl 1 (by decide) (hq _ q_20) (fun _ h9 => h9) rfl dC_isKey_20 ?_
      refine lv_iload_n hx hb dC_isKey_23 rfl (lv_at hl 1 rfl) ?_
      refine va_iald hx hb hK hP 2 1 rfl rfl (i := r) ir dC_isKey_24 ?_
      refine zc_l (va_runS (As := [.int (ad r.toNatClampNeg)]) (rest := [.int r, .ref (q 0)]) ⟨hx, hb, hml, hown, hq⟩ (kC_unsigned l s.heap (ad r.toNatClampNeg)) (va_cwS 1 hq (wA_S q_63 q_64 q_1 q_65) rfl rfl rfl (by decide +kernel) ⟨Nat.le_of_ble_eq_true rfl, Nat.le_of_ble_eq_true rfl⟩) ⟨fun a U g mk q => q, fun U hU hW => ⟨rfl, hU⟩⟩ rfl rfl hl.1 rfl (lv_room (Nat.le_of_ble_eq_true rfl)) dC_isKey_25 ⟨Nat.zero_le _, Nat.zero_le _⟩) hS (fun locs hS => ?_)
      refine lv_lconst (v := 1) hx hb dC_isKey_28 (by decide) ?_
      refine zc_i (va_runV (C := "CapUnit") (b := q 0) (As := [.int r, .long (fC_unsigned (ad r.toNatClampNeg)), .long (1 : Int64)]) (rest := []) ⟨hx, hb, hml, hown, hq⟩ (kC_isInBounds l hP r (fC_unsigned (ad r.toNatClampNeg)) (1 : Int64) ir) (cwV 3 hq (wA_V q_264 q_266 sC_isInBounds q_1 q_267) rfl rfl rfl (by decide +kernel) ⟨Nat.le_of_ble_eq_true rfl, Nat.le_of_ble_eq_true rfl⟩) (zr_pre (c := zCl[0]) (q0 := 0) hK hP rfl rfl) rfl rfl hl.1 rfl (lv_room (Nat.le_of_ble_eq_true rfl)) dC_isKey_29 ⟨Nat.le_of_ble_eq_true rfl, Nat.le_of_ble_eq_true rfl⟩) hS (fun locs hS => ?_)
      refine lv_if_eq (tgt := 39) hx hb dC_isKey_32 rfl (fun h3 => ?_) (fun h3 => ?_)
      · refine lv_iconst (v := 0) hx hb dC_isKey_39 (by decide) ?_
        exact W.zret (v := (0 : Int32)) hx hb hr (by decide) (fun t9 ht hW => ⟨⟨_, (), rfl, (by unfold fC_isKey; rw [if_neg h1, if_neg h2, if_pos h3]), ht⟩, hS.F ht⟩) hS.2.2 dC_isKey_40
      · refine lv_iconst (v := 1) hx hb dC_isKey_35 (by decide) ?_
        refine lv_goto (tgt := 40) hx hb dC_isKey_36 rfl ?_
        exact W.zret (v := (1 : Int32)) hx hb hr (by decide) (fun t9 ht hW => ⟨⟨_, (), rfl, (by unfold fC_isKey; rw [if_neg h1, if_neg h2, if_neg h3]), ht⟩, hS.F ht⟩) hS.2.2 dC_isKey_40
def fC_isWithin (tg : Nat → Int32) (ad : Nat → Int32) (mt : Nat → Int32) (r : Int32) (b : Int64) (t : Int64) (y : Int32) : Int32 := if (fC_baseIn tg ad mt r) < b then (0 : Int32) else (if t < (fC_topIn tg ad mt r) then (0 : Int32) else (if ((fC_permsOf (mt r.toNatClampNeg)) &&& (y ^^^ (-1 : Int32))) = 0 then (1 : Int32) else (0 : Int32)))
theorem bC_isWithin (tg : Nat → Int32) (ad : Nat → Int32) (mt : Nat → Int32) (r : Int32) (b : Int64) (t : Int64) (y : Int32) : fC_isWithin tg ad mt r b t y = 0 ∨ fC_isWithin tg ad mt r b t y = 1 := by
  unfold fC_isWithin
  repeat' split
  all_goals first | exact Or.inl rfl | exact Or.inr rfl
set_option maxHeartbeats 4000000 in
set_option maxRecDepth 100000 in
theorem kC_isWithin (l : Launch) {D : va_G} {q : Nat → Nat} {k : Nat → ClassId} {tg : Nat → Int32} {ad : Nat → Int32} {mt : Nat → Int32} {rb : Nat → Int64} {rt : Nat → Int64} {rp : Nat → Int32} {nr : Int32} {H : Heap} (hP : va_P D zCl (cW q k tg ad mt rb rt rp nr) H) (r : Int32) (b : Int64) (t : Int64) (y : Int32) (ir : vp_in r 32) : Met l yC_isWithin wC_isWithin { frames := 4, cells := 0, slots := 0, locals := 98 } (va_Pc [.ref (q 0), .int r, .long b, .long t, .int y] (fun U => U.heap = H ∧ va_K D zCl (zT k) U)) (va_Qi (fun v9 (_ : Unit) => v9 = fC_isWithin tg ad mt r b t y) (fun _ t => t.heap = H) (fun _ => False)) 0 0 (fun _ => False) := by
  refine Met.ofW (cc := cC_isWithin) (maxL := 7) (ret := (some .boolean)) (by decide) rfl ?_
  intro p e s m args below meth c s₁ B hml hv
  obtain ⟨rfl, hH, hK⟩ := hv
  subst hH
  have hx := B.exec
  have hb := B.bytes
  have hr := B.returns
  have hts := atoms_spec (ws := wC_isWithin) B.pre
  have hq : ∀ w ∈ wA, w.before _ s = true := fun w h => hts w (List.mem_cons_of_mem _ h)
  have hown : s.vm.findClass "CapUnit" = some m.cls := findClass_of_methodNamed B.named
  have hlocks := B.notSynchronized
  have hS : va_S (fun _ => False) s.heap s.heap [] := va_S.rf
  have hl := lv_entry ([.ref (q 0), .int r, .long b, .long t, .int y]) (n := 7) (Nat.le_of_ble_eq_true rfl)
  rw [lg_entry_eq]
  generalize (lg_sl ([.ref (q 0), .int r, .long b, .long t, .int y]) ++ List.replicate (7 - (lg_sl ([.ref (q 0), .int r, .long b, .long t, .int y])).length) Slot.unset).toArray = ls at hl ⊢
  have hl : lv_has ls 7 [(0, .ref (q 0)), (1, .int r), (2, .long b), (4, .long t), (6, .int y)] := hl
  refine lv_aload_n hx hb dC_isWithin_0 rfl (lv_at hl 0 rfl) ?_
  refine lv_iload_n hx hb dC_isWithin_1 rfl (lv_at hl 1 rfl) ?_
  refine zc_l (va_runV (C := "CapUnit") (b := q 0) (As := [.int r]) (rest := []) ⟨hx, hb, hml, hown, hq⟩ (kC_baseIn l hP r ir) (cwV 1 hq (wA_V q_88 q_90 sC_baseIn q_1 q_91) rfl rfl rfl (by decide +kernel) ⟨Nat.le_of_ble_eq_true rfl, Nat.le_of_ble_eq_true rfl⟩) (zr_pre (c := zCl[0]) (q0 := 0) hK hP rfl rfl) rfl rfl hl.1 rfl (lv_room (Nat.le_of_ble_eq_true rfl)) dC_isWithin_2 ⟨Nat.le_of_ble_eq_true rfl, Nat.le_of_ble_eq_true rfl⟩) hS (fun locs hS => ?_)
  refine lv_lload_n hx hb dC_isWithin_5 rfl (lv_at hl 2 rfl) ?_
  refine W.lcmp hx hb dC_isWithin_6 ?_
  refine lv_if_lt (tgt := 42) hx hb dC_isWithin_7 rfl (fun h1 => ?_) (fun h1 => ?_)
  · have h1 := (lg_cmp_lt _ _).mp h1
    refine lv_iconst (v := 0) hx hb dC_isWithin_42 (by decide) ?_
    exact W.zret (v := (0 : Int32)) hx hb hr (by decide) (fun t9 ht hW => ⟨⟨_, (), rfl, (by unfold fC_isWithin; rw [if_pos h1]), ht⟩, hS.F ht⟩) hS.2.2 dC_isWithin_43
  · have h1 := Not.imp h1 (lg_cmp_lt _ _).mpr
    refine lv_aload_n hx hb dC_isWithin_10 rfl (lv_at hl 0 rfl) ?_
    refine lv_iload_n hx hb dC_isWithin_11 rfl (lv_at hl 1 rfl) ?_
    refine zc_l (va_runV (C := "CapUnit") (b := q 0) (As := [.int r]) (rest := []) ⟨hx, hb, hml, hown, hq⟩ (kC_topIn l hP r ir) (cwV 1 hq (wA_V q_92 q_94 sC_topIn q_1 q_95) rfl rfl rfl (by decide +kernel) ⟨Nat.le_of_ble_eq_true rfl, Nat.le_of_ble_eq_true rfl⟩) (zr_pre (c := zCl[0]) (q0 := 0) hK hP rfl rfl) rfl rfl hl.1 rfl (lv_room (Nat.le_of_ble_eq_true rfl)) dC_isWithin_12 ⟨Nat.le_of_ble_eq_true rfl, Nat.le_of_ble_eq_true rfl⟩) hS (fun locs hS => ?_)
    refine lv_lload hx hb dC_isWithin_15 (lv_at hl 3 rfl) ?_
    refine W.lcmp hx hb dC_isWithin_17 ?_
    refine lv_if_gt (tgt := 42) hx hb dC_isWithin_18 rfl (fun h2 => ?_) (fun h2 => ?_)
    · have h2 := (lg_cmp_gt _ _).mp h2
      refine lv_iconst (v := 0) hx hb dC_isWithin_42 (by decide) ?_
      exact W.zret (v := (0 : Int32)) hx hb hr (by decide) (fun t9 ht hW => ⟨⟨_, (), rfl, (by unfold fC_isWithin; rw [if_neg h1, if_pos h2]), ht⟩, hS.F ht⟩) hS.2.2 dC_isWithin_43
    · have h2 := Not.imp h2 (lg_cmp_gt _ _).mpr
      refine lv_aload_n hx hb dC_isWithin_21 rfl (lv_at hl 0 rfl) ?_
      refine va_get (D := D) (ci := 0) (v := .ref (q 3)) (C := "CapUnit") (T := TC) (N := 7) hx hb hq uC_in hown hK hP 0 rfl rfl 2 (by decide) (hq _ q_21) (fun _ h9 => h9) rfl dC_isWithin_22 ?_
      refine lv_iload_n hx hb dC_isWithin_25 rfl (lv_at hl 1 rfl) ?_
      refine va_iald hx hb hK hP 3 1 rfl rfl (i := r) ir dC_isWithin_26 ?_
      refine zc_i (va_runS (As := [.int (mt r.toNatClampNeg)]) (rest := []) ⟨hx, hb, hml, hown, hq⟩ (kC_permsOf l s.heap (mt r.toNatClampNeg)) (va_cwS 1 hq (wA_S q_96 q_97 q_1 q_98) rfl rfl rfl (by decide +kernel) ⟨Nat.le_of_ble_eq_true rfl, Nat.le_of_ble_eq_true rfl⟩) ⟨fun a U g mk q => q, fun U hU hW => ⟨rfl, hU⟩⟩ rfl rfl hl.1 rfl (lv_room (Nat.le_of_ble_eq_true rfl)) dC_isWithin_27 ⟨Nat.zero_le _, Nat.zero_le _⟩) hS (fun locs hS => ?_)
      refine lv_iload hx hb dC_isWithin_30 (lv_at hl 4 rfl) ?_
      refine lv_iconst (v := -1) hx hb dC_isWithin_32 (by decide) ?_
      refine lv_ixor hx hb dC_isWithin_33 ?_
      refine lv_iand hx hb dC_isWithin_34 ?_
      refine lv_if_ne (tgt := 42) hx hb dC_isWithin_35 rfl (fun h3 => ?_) (fun h3 => ?_)
      · refine lv_iconst (v := 0) hx hb dC_isWithin_42 (by decide) ?_
        exact W.zret (v := (0 : Int32)) hx hb hr (by decide) (fun t9 ht hW => ⟨⟨_, (), rfl, (by unfold fC_isWithin; rw [if_neg h1, if_neg h2, if_neg h3]), ht⟩, hS.F ht⟩) hS.2.2 dC_isWithin_43
      · refine lv_iconst (v := 1) hx hb dC_isWithin_38 (by decide) ?_
        refine lv_goto (tgt := 43) hx hb dC_isWithin_39 rfl ?_
        exact W.zret (v := (1 : Int32)) hx hb hr (by decide) (fun t9 ht hW => ⟨⟨_, (), rfl, (by unfold fC_isWithin; rw [if_neg h1, if_neg h2, if_pos h3]), ht⟩, hS.F ht⟩) hS.2.2 dC_isWithin_43
end
section
def fM_isOpen (tg : Nat → Int32) (ad : Nat → Int32) (mt : Nat → Int32) (r : Int32) : Int32 := if (fM_type (mt r.toNatClampNeg)) = (15 : Int32) then (1 : Int32) else (0 : Int32)
theorem bM_isOpen (tg : Nat → Int32) (ad : Nat → Int32) (mt : Nat → Int32) (r : Int32) : fM_isOpen tg ad mt r = 0 ∨ fM_isOpen tg ad mt r = 1 := by
  unfold fM_isOpen
  repeat' split
  all_goals first | exact Or.inl rfl | exact Or.inr rfl
set_option maxHeartbeats 4000000 in
set_option maxRecDepth 100000 in
theorem kM_isOpen (l : Launch) {D : va_G} {q : Nat → Nat} {k : Nat → ClassId} {tg : Nat → Int32} {ad : Nat → Int32} {mt : Nat → Int32} {rb : Nat → Int64} {rt : Nat → Int64} {rp : Nat → Int32} {nr : Int32} {th : Int32} {pk : Int32} {ex : Int32} {ro : Int64} {H : Heap} (hP : va_P D zCl (mW q k tg ad mt rb rt rp nr th pk ex ro) H) (r : Int32) (ir : vp_in r 32) : Met l yM_isOpen wM_isOpen { frames := 1, cells := 0, slots := 0, locals := 20 } (va_Pc [.ref (q 0), .int r] (fun U => U.heap = H ∧ va_K D zCl (zT k) U)) (va_Qi (fun v9 (_ : Unit) => v9 = fM_isOpen tg ad mt r) (fun _ t => t.heap = H) (fun _ => False)) 0 0 (fun _ => False) := by
  refine Met.ofW (cc := cM_isOpen) (maxL := 2) (ret := (some .boolean)) (by decide) rfl ?_
  intro p e s m args below meth c s₁ B hml hv
  obtain ⟨rfl, hH, hK⟩ := hv
  subst hH
  have hx := B.exec
  have hb := B.bytes
  have hr := B.returns
  have hts := atoms_spec (ws := wM_isOpen) B.pre
  have hq : ∀ w ∈ wA, w.before _ s = true := fun w h => hts w (List.mem_cons_of_mem _ h)
  have hown : s.vm.findClass "CapUnitModel" = some m.cls := findClass_of_methodNamed B.named
  have hlocks := B.notSynchronized
  have hS : va_S (fun _ => False) s.heap s.heap [] := va_S.rf
  have hl := lv_entry ([.ref (q 0), .int r]) (n := 2) (Nat.le_of_ble_eq_true rfl)
  rw [lg_entry_eq]
  generalize (lg_sl ([.ref (q 0), .int r]) ++ List.replicate (2 - (lg_sl ([.ref (q 0), .int r])).length) Slot.unset).toArray = ls at hl ⊢
  have hl : lv_has ls 2 [(0, .ref (q 0)), (1, .int r)] := hl
  refine lv_aload_n hx hb dM_isOpen_0 rfl (lv_at hl 0 rfl) ?_
  refine va_get (D := D) (ci := 1) (v := .ref (q 3)) (C := "CapUnitModel") (T := TM) (N := 11) hx hb hq uM_in hown hK hP 0 rfl rfl 2 (by decide) (hq _ q_372) (fun _ h9 => h9) rfl dM_isOpen_1 ?_
  refine lv_iload_n hx hb dM_isOpen_4 rfl (lv_at hl 1 rfl) ?_
  refine va_iald hx hb hK hP 3 1 rfl rfl (i := r) ir dM_isOpen_5 ?_
  refine zc_i (va_runS (As := [.int (mt r.toNatClampNeg)]) (rest := []) ⟨hx, hb, hml, hown, hq⟩ (kM_type l s.heap (mt r.toNatClampNeg)) (va_cwS 1 hq (wA_S q_474 q_475 q_2 q_476) rfl rfl rfl (by decide +kernel) ⟨Nat.le_of_ble_eq_true rfl, Nat.le_of_ble_eq_true rfl⟩) ⟨fun a U g mk q => q, fun U hU hW => ⟨rfl, hU⟩⟩ rfl rfl hl.1 rfl (lv_room (Nat.le_of_ble_eq_true rfl)) dM_isOpen_6 ⟨Nat.zero_le _, Nat.zero_le _⟩) hS (fun locs hS => ?_)
  refine lv_bipush (v := 15) hx hb dM_isOpen_9 (by decide) ?_
  refine lv_icmp_ne (tgt := 18) hx hb dM_isOpen_11 rfl (fun h1 => ?_) (fun h1 => ?_)
  · refine lv_iconst (v := 0) hx hb dM_isOpen_18 (by decide) ?_
    exact W.zret (v := (0 : Int32)) hx hb hr (by decide) (fun t9 ht hW => ⟨⟨_, (), rfl, (by unfold fM_isOpen; rw [if_neg h1]), ht⟩, hS.F ht⟩) hS.2.2 dM_isOpen_19
  · refine lv_iconst (v := 1) hx hb dM_isOpen_14 (by decide) ?_
    refine lv_goto (tgt := 19) hx hb dM_isOpen_15 rfl ?_
    exact W.zret (v := (1 : Int32)) hx hb hr (by decide) (fun t9 ht hW => ⟨⟨_, (), rfl, (by unfold fM_isOpen; rw [if_pos h1]), ht⟩, hS.F ht⟩) hS.2.2 dM_isOpen_19
def fM_has (tg : Nat → Int32) (ad : Nat → Int32) (mt : Nat → Int32) (r : Int32) (y : Int32) : Int32 := if (((fM_perms (mt r.toNatClampNeg)) >>> (y &&& 31)) &&& (1 : Int32)) = (1 : Int32) then (1 : Int32) else (0 : Int32)
theorem bM_has (tg : Nat → Int32) (ad : Nat → Int32) (mt : Nat → Int32) (r : Int32) (y : Int32) : fM_has tg ad mt r y = 0 ∨ fM_has tg ad mt r y = 1 := by
  unfold fM_has
  repeat' split
  all_goals first | exact Or.inl rfl | exact Or.inr rfl
set_option maxHeartbeats 4000000 in
set_option maxRecDepth 100000 in
theorem kM_has (l : Launch) {D : va_G} {q : Nat → Nat} {k : Nat → ClassId} {tg : Nat → Int32} {ad : Nat → Int32} {mt : Nat → Int32} {rb : Nat → Int64} {rt : Nat → Int64} {rp : Nat → Int32} {nr : Int32} {th : Int32} {pk : Int32} {ex : Int32} {ro : Int64} {H : Heap} (hP : va_P D zCl (mW q k tg ad mt rb rt rp nr th pk ex ro) H) (r : Int32) (y : Int32) (ir : vp_in r 32) : Met l yM_has wM_has { frames := 1, cells := 0, slots := 0, locals := 20 } (va_Pc [.ref (q 0), .int r, .int y] (fun U => U.heap = H ∧ va_K D zCl (zT k) U)) (va_Qi (fun v9 (_ : Unit) => v9 = fM_has tg ad mt r y) (fun _ t => t.heap = H) (fun _ => False)) 0 0 (fun _ => False) := by
  refine Met.ofW (cc := cM_has) (maxL := 3) (ret := (some .boolean)) (by decide) rfl ?_
  intro p e s m args below meth c s₁ B hml hv
  obtain ⟨rfl, hH, hK⟩ := hv
  subst hH
  have hx := B.exec
  have hb := B.bytes
  have hr := B.returns
  have hts := atoms_spec (ws := wM_has) B.pre
  have hq : ∀ w ∈ wA, w.before _ s = true := fun w h => hts w (List.mem_cons_of_mem _ h)
  have hown : s.vm.findClass "CapUnitModel" = some m.cls := findClass_of_methodNamed B.named
  have hlocks := B.notSynchronized
  have hS : va_S (fun _ => False) s.heap s.heap [] := va_S.rf
  have hl := lv_entry ([.ref (q 0), .int r, .int y]) (n := 3) (Nat.le_of_ble_eq_true rfl)
  rw [lg_entry_eq]
  generalize (lg_sl ([.ref (q 0), .int r, .int y]) ++ List.replicate (3 - (lg_sl ([.ref (q 0), .int r, .int y])).length) Slot.unset).toArray = ls at hl ⊢
  have hl : lv_has ls 3 [(0, .ref (q 0)), (1, .int r), (2, .int y)] := hl
  refine lv_aload_n hx hb dM_has_0 rfl (lv_at hl 0 rfl) ?_
  refine va_get (D := D) (ci := 1) (v := .ref (q 3)) (C := "CapUnitModel") (T := TM) (N := 11) hx hb hq uM_in hown hK hP 0 rfl rfl 2 (by decide) (hq _ q_372) (fun _ h9 => h9) rfl dM_has_1 ?_
  refine lv_iload_n hx hb dM_has_4 rfl (lv_at hl 1 rfl) ?_
  refine va_iald hx hb hK hP 3 1 rfl rfl (i := r) ir dM_has_5 ?_
  refine zc_i (va_runS (As := [.int (mt r.toNatClampNeg)]) (rest := []) ⟨hx, hb, hml, hown, hq⟩ (kM_perms l s.heap (mt r.toNatClampNeg)) (va_cwS 1 hq (wA_S q_485 q_486 q_2 q_487) rfl rfl rfl (by decide +kernel) ⟨Nat.le_of_ble_eq_true rfl, Nat.le_of_ble_eq_true rfl⟩) ⟨fun a U g mk q => q, fun U hU hW => ⟨rfl, hU⟩⟩ rfl rfl hl.1 rfl (lv_room (Nat.le_of_ble_eq_true rfl)) dM_has_6 ⟨Nat.zero_le _, Nat.zero_le _⟩) hS (fun locs hS => ?_)
  refine lv_iload_n hx hb dM_has_9 rfl (lv_at hl 2 rfl) ?_
  refine lv_ishr hx hb dM_has_10 ?_
  refine lv_iconst (v := 1) hx hb dM_has_11 (by decide) ?_
  refine lv_iand hx hb dM_has_12 ?_
  refine lv_iconst (v := 1) hx hb dM_has_13 (by decide) ?_
  refine lv_icmp_ne (tgt := 21) hx hb dM_has_14 rfl (fun h1 => ?_) (fun h1 => ?_)
  · refine lv_iconst (v := 0) hx hb dM_has_21 (by decide) ?_
    exact W.zret (v := (0 : Int32)) hx hb hr (by decide) (fun t9 ht hW => ⟨⟨_, (), rfl, (by unfold fM_has; rw [if_neg h1]), ht⟩, hS.F ht⟩) hS.2.2 dM_has_22
  · refine lv_iconst (v := 1) hx hb dM_has_17 (by decide) ?_
    refine lv_goto (tgt := 22) hx hb dM_has_18 rfl ?_
    exact W.zret (v := (1 : Int32)) hx hb hr (by decide) (fun t9 ht hW => ⟨⟨_, (), rfl, (by unfold fM_has; rw [if_pos h1]), ht⟩, hS.F ht⟩) hS.2.2 dM_has_22
def fM_isWithin (tg : Nat → Int32) (ad : Nat → Int32) (mt : Nat → Int32) (r : Int32) (y : Int32) : Int32 := if (fM_base (mt r.toNatClampNeg) (ad r.toNatClampNeg)) < (fM_base (mt y.toNatClampNeg) (ad y.toNatClampNeg)) then (0 : Int32) else (if (fM_top (mt y.toNatClampNeg) (ad y.toNatClampNeg)) < (fM_top (mt r.toNatClampNeg) (ad r.toNatClampNeg)) then (0 : Int32) else (if ((fM_perms (mt r.toNatClampNeg)) &&& ((fM_perms (mt y.toNatClampNeg)) ^^^ (-1 : Int32))) = 0 then (1 : Int32) else (0 : Int32)))
theorem bM_isWithin (tg : Nat → Int32) (ad : Nat → Int32) (mt : Nat → Int32) (r : Int32) (y : Int32) : fM_isWithin tg ad mt r y = 0 ∨ fM_isWithin tg ad mt r y = 1 := by
  unfold fM_isWithin
  repeat' split
  all_goals first | exact Or.inl rfl | exact Or.inr rfl
set_option maxHeartbeats 4000000 in
set_option maxRecDepth 100000 in
theorem kM_isWithin (l : Launch) {D : va_G} {q : Nat → Nat} {k : Nat → ClassId} {tg : Nat → Int32} {ad : Nat → Int32} {mt : Nat → Int32} {rb : Nat → Int64} {rt : Nat → Int64} {rp : Nat → Int32} {nr : Int32} {th : Int32} {pk : Int32} {ex : Int32} {ro : Int64} {H : Heap} (hP : va_P D zCl (mW q k tg ad mt rb rt rp nr th pk ex ro) H) (r : Int32) (y : Int32) (ir : vp_in r 32) (iy : vp_in y 32) : Met l yM_isWithin wM_isWithin { frames := 4, cells := 0, slots := 0, locals := 99 } (va_Pc [.ref (q 0), .int r, .int y] (fun U => U.heap = H ∧ va_K D zCl (zT k) U)) (va_Qi (fun v9 (_ : Unit) => v9 = fM_isWithin tg ad mt r y) (fun _ t => t.heap = H) (fun _ => False)) 0 0 (fun _ => False) := by
  refine Met.ofW (cc := cM_isWithin) (maxL := 3) (ret := (some .boolean)) (by decide) rfl ?_
  intro p e s m args below meth c s₁ B hml hv
  obtain ⟨rfl, hH, hK⟩ := hv
  subst hH
  have hx := B.exec
  have hb := B.bytes
  have hr := B.returns
  have hts := atoms_spec (ws := wM_isWithin) B.pre
  have hq : ∀ w ∈ wA, w.before _ s = true := fun w h => hts w (List.mem_cons_of_mem _ h)
  have hown : s.vm.findClass "CapUnitModel" = some m.cls := findClass_of_methodNamed B.named
  have hlocks := B.notSynchronized
  have hS : va_S (fun _ => False) s.heap s.heap [] := va_S.rf
  have hl := lv_entry ([.ref (q 0), .int r, .int y]) (n := 3) (Nat.le_of_ble_eq_true rfl)
  rw [lg_entry_eq]
  generalize (lg_sl ([.ref (q 0), .int r, .int y]) ++ List.replicate (3 - (lg_sl ([.ref (q 0), .int r, .int y])).length) Slot.unset).toArray = ls at hl ⊢
  have hl : lv_has ls 3 [(0, .ref (q 0)), (1, .int r), (2, .int y)] := hl
  refine lv_aload_n hx hb dM_isWithin_0 rfl (lv_at hl 0 rfl) ?_
  refine va_get (D := D) (ci := 1) (v := .ref (q 3)) (C := "CapUnitModel") (T := TM) (N := 11) hx hb hq uM_in hown hK hP 0 rfl rfl 2 (by decide) (hq _ q_372) (fun _ h9 => h9) rfl dM_isWithin_1 ?_
  refine lv_iload_n hx hb dM_isWithin_4 rfl (lv_at hl 1 rfl) ?_
  refine va_iald hx hb hK hP 3 1 rfl rfl (i := r) ir dM_isWithin_5 ?_
  refine lv_aload_n hx hb dM_isWithin_6 rfl (lv_at hl 0 rfl) ?_
  refine va_get (D := D) (ci := 1) (v := .ref (q 2)) (C := "CapUnitModel") (T := TM) (N := 11) hx hb hq uM_in hown hK hP 0 rfl rfl 1 (by decide) (hq _ q_371) (fun _ h9 => h9) rfl dM_isWithin_7 ?_
  refine lv_iload_n hx hb dM_isWithin_10 rfl (lv_at hl 1 rfl) ?_
  refine va_iald hx hb hK hP 2 1 rfl rfl (i := r) ir dM_isWithin_11 ?_
  refine zc_l (va_runS (As := [.int (mt r.toNatClampNeg), .int (ad r.toNatClampNeg)]) (rest := []) ⟨hx, hb, hml, hown, hq⟩ (kM_base l s.heap (mt r.toNatClampNeg) (ad r.toNatClampNeg)) (va_cwS 2 hq (wA_S q_433 q_434 q_2 q_435) rfl rfl rfl (by decide +kernel) ⟨Nat.le_of_ble_eq_true rfl, Nat.le_of_ble_eq_true rfl⟩) ⟨fun a U g mk q => q, fun U hU hW => ⟨rfl, hU⟩⟩ rfl rfl hl.1 rfl (lv_room (Nat.le_of_ble_eq_true rfl)) dM_isWithin_12 ⟨Nat.zero_le _, Nat.zero_le _⟩) hS (fun locs hS => ?_)
  refine lv_aload_n hx hb dM_isWithin_15 rfl (lv_at hl 0 rfl) ?_
  refine va_get (D := D) (ci := 1) (v := .ref (q 3)) (C := "CapUnitModel") (T := TM) (N := 11) hx hb hq uM_in hown hK hP 0 rfl rfl 2 (by decide) (hq _ q_372) (fun _ h9 => h9) rfl dM_isWithin_16 ?_
  refine lv_iload_n hx hb dM_isWithin_19 rfl (lv_at hl 2 rfl) ?_
  refine va_iald hx hb hK hP 3 1 rfl rfl (i := y) iy dM_isWithin_20 ?_
  refine lv_aload_n hx hb dM_isWithin_21 rfl (lv_at hl 0 rfl) ?_
  refine va_get (D := D) (ci := 1) (v := .ref (q 2)) (C := "CapUnitModel") (T := TM) (N := 11) hx hb hq uM_in hown hK hP 0 rfl rfl 1 (by decide) (hq _ q_371) (fun _ h9 => h9) rfl dM_isWithin_22 ?_
  refine lv_iload_n hx hb dM_isWithin_25 rfl (lv_at hl 2 rfl) ?_
  refine va_iald hx hb hK hP 2 1 rfl rfl (i := y) iy dM_isWithin_26 ?_
  refine zc_l (va_runS (As := [.int (mt y.toNatClampNeg), .int (ad y.toNatClampNeg)]) (rest := [.long (fM_base (mt r.toNatClampNeg) (ad r.toNatClampNeg))]) ⟨hx, hb, hml, hown, hq⟩ (kM_base l s.heap (mt y.toNatClampNeg) (ad y.toNatClampNeg)) (va_cwS 2 hq (wA_S q_433 q_434 q_2 q_435) rfl rfl rfl (by decide +kernel) ⟨Nat.le_of_ble_eq_true rfl, Nat.le_of_ble_eq_true rfl⟩) ⟨fun a U g mk q => q, fun U hU hW => ⟨rfl, hU⟩⟩ rfl rfl hl.1 rfl (lv_room (Nat.le_of_ble_eq_true rfl)) dM_isWithin_27 ⟨Nat.zero_le _, Nat.zero_le _⟩) hS (fun locs hS => ?_)
  refine W.lcmp hx hb dM_isWithin_30 ?_
  refine lv_if_lt (tgt := 96) hx hb dM_isWithin_31 rfl (fun h1 => ?_) (fun h1 => ?_)
  · have h1 := (lg_cmp_lt _ _).mp h1
    refine lv_iconst (v := 0) hx hb dM_isWithin_96 (by decide) ?_
    exact W.zret (v := (0 : Int32)) hx hb hr (by decide) (fun t9 ht hW => ⟨⟨_, (), rfl, (by unfold fM_isWithin; rw [if_pos h1]), ht⟩, hS.F ht⟩) hS.2.2 dM_isWithin_97
  · have h1 := Not.imp h1 (lg_cmp_lt _ _).mpr
    refine lv_aload_n hx hb dM_isWithin_34 rfl (lv_at hl 0 rfl) ?_
    refine va_get (D := D) (ci := 1) (v := .ref (q 3)) (C := "CapUnitModel") (T := TM) (N := 11) hx hb hq uM_in hown hK hP 0 rfl rfl 2 (by decide) (hq _ q_372) (fun _ h9 => h9) rfl dM_isWithin_35 ?_
    refine lv_iload_n hx hb dM_isWithin_38 rfl (lv_at hl 1 rfl) ?_
    refine va_iald hx hb hK hP 3 1 rfl rfl (i := r) ir dM_isWithin_39 ?_
    refine lv_aload_n hx hb dM_isWithin_40 rfl (lv_at hl 0 rfl) ?_
    refine va_get (D := D) (ci := 1) (v := .ref (q 2)) (C := "CapUnitModel") (T := TM) (N := 11) hx hb hq uM_in hown hK hP 0 rfl rfl 1 (by decide) (hq _ q_371) (fun _ h9 => h9) rfl dM_isWithin_41 ?_
    refine lv_iload_n hx hb dM_isWithin_44 rfl (lv_at hl 1 rfl) ?_
    refine va_iald hx hb hK hP 2 1 rfl rfl (i := r) ir dM_isWithin_45 ?_
    refine zc_l (va_runS (As := [.int (mt r.toNatClampNeg), .int (ad r.toNatClampNeg)]) (rest := []) ⟨hx, hb, hml, hown, hq⟩ (kM_top l s.heap (mt r.toNatClampNeg) (ad r.toNatClampNeg)) (va_cwS 2 hq (wA_S q_451 q_452 q_2 q_453) rfl rfl rfl (by decide +kernel) ⟨Nat.le_of_ble_eq_true rfl, Nat.le_of_ble_eq_true rfl⟩) ⟨fun a U g mk q => q, fun U hU hW => ⟨rfl, hU⟩⟩ rfl rfl hl.1 rfl (lv_room (Nat.le_of_ble_eq_true rfl)) dM_isWithin_46 ⟨Nat.zero_le _, Nat.zero_le _⟩) hS (fun locs hS => ?_)
    refine lv_aload_n hx hb dM_isWithin_49 rfl (lv_at hl 0 rfl) ?_
    refine va_get (D := D) (ci := 1) (v := .ref (q 3)) (C := "CapUnitModel") (T := TM) (N := 11) hx hb hq uM_in hown hK hP 0 rfl rfl 2 (by decide) (hq _ q_372) (fun _ h9 => h9) rfl dM_isWithin_50 ?_
    refine lv_iload_n hx hb dM_isWithin_53 rfl (lv_at hl 2 rfl) ?_
    refine va_iald hx hb hK hP 3 1 rfl rfl (i := y) iy dM_isWithin_54 ?_
    refine lv_aload_n hx hb dM_isWithin_55 rfl (lv_at hl 0 rfl) ?_
    refine va_get (D := D) (ci := 1) (v := .ref (q 2)) (C := "CapUnitModel") (T := TM) (N := 11) hx hb hq uM_in hown hK hP 0 rfl rfl 1 (by decide) (hq _ q_371) (fun _ h9 => h9) rfl dM_isWithin_56 ?_
    refine lv_iload_n hx hb dM_isWithin_59 rfl (lv_at hl 2 rfl) ?_
    refine va_iald hx hb hK hP 2 1 rfl rfl (i := y) iy dM_isWithin_60 ?_
    refine zc_l (va_runS (As := [.int (mt y.toNatClampNeg), .int (ad y.toNatClampNeg)]) (rest := [.long (fM_top (mt r.toNatClampNeg) (ad r.toNatClampNeg))]) ⟨hx, hb, hml, hown, hq⟩ (kM_top l s.heap (mt y.toNatClampNeg) (ad y.toNatClampNeg)) (va_cwS 2 hq (wA_S q_451 q_452 q_2 q_453) rfl rfl rfl (by decide +kernel) ⟨Nat.le_of_ble_eq_true rfl, Nat.le_of_ble_eq_true rfl⟩) ⟨fun a U g mk q => q, fun U hU hW => ⟨rfl, hU⟩⟩ rfl rfl hl.1 rfl (lv_room (Nat.le_of_ble_eq_true rfl)) dM_isWithin_61 ⟨Nat.zero_le _, Nat.zero_le _⟩) hS (fun locs hS => ?_)
    refine W.lcmp hx hb dM_isWithin_64 ?_
    refine lv_if_gt (tgt := 96) hx hb dM_isWithin_65 rfl (fun h2 => ?_) (fun h2 => ?_)
    · have h2 := (lg_cmp_gt _ _).mp h2
      refine lv_iconst (v := 0) hx hb dM_isWithin_96 (by decide) ?_
      exact W.zret (v := (0 : Int32)) hx hb hr (by decide) (fun t9 ht hW => ⟨⟨_, (), rfl, (by unfold fM_isWithin; rw [if_neg h1, if_pos h2]), ht⟩, hS.F ht⟩) hS.2.2 dM_isWithin_97
    · have h2 := Not.imp h2 (lg_cmp_gt _ _).mpr
      refine lv_aload_n hx hb dM_isWithin_68 rfl (lv_at hl 0 rfl) ?_
      refine va_get (D := D) (ci := 1) (v := .ref (q 3)) (C := "CapUnitModel") (T := TM) (N := 11) hx hb hq uM_in hown hK hP 0 rfl rfl 2 (by decide) (hq _ q_372) (fun _ h9 => h9) rfl dM_isWithin_69 ?_
      refine lv_iload_n hx hb dM_isWithin_72 rfl (lv_at hl 1 rfl) ?_
      refine va_iald hx hb hK hP 3 1 rfl rfl (i := r) ir dM_isWithin_73 ?_
      refine zc_i (va_runS (As := [.int (mt r.toNatClampNeg)]) (rest := []) ⟨hx, hb, hml, hown, hq⟩ (kM_perms l s.heap (mt r.toNatClampNeg)) (va_cwS 1 hq (wA_S q_485 q_486 q_2 q_487) rfl rfl rfl (by decide +kernel) ⟨Nat.le_of_ble_eq_true rfl, Nat.le_of_ble_eq_true rfl⟩) ⟨fun a U g mk q => q, fun U hU hW => ⟨rfl, hU⟩⟩ rfl rfl hl.1 rfl (lv_room (Nat.le_of_ble_eq_true rfl)) dM_isWithin_74 ⟨Nat.zero_le _, Nat.zero_le _⟩) hS (fun locs hS => ?_)
      refine lv_aload_n hx hb dM_isWithin_77 rfl (lv_at hl 0 rfl) ?_
      refine va_get (D := D) (ci := 1) (v := .ref (q 3)) (C := "CapUnitModel") (T := TM) (N := 11) hx hb hq uM_in hown hK hP 0 rfl rfl 2 (by decide) (hq _ q_372) (fun _ h9 => h9) rfl dM_isWithin_78 ?_
      refine lv_iload_n hx hb dM_isWithin_81 rfl (lv_at hl 2 rfl) ?_
      refine va_iald hx hb hK hP 3 1 rfl rfl (i := y) iy dM_isWithin_82 ?_
      refine zc_i (va_runS (As := [.int (mt y.toNatClampNeg)]) (rest := [.int (fM_perms (mt r.toNatClampNeg))]) ⟨hx, hb, hml, hown, hq⟩ (kM_perms l s.heap (mt y.toNatClampNeg)) (va_cwS 1 hq (wA_S q_485 q_486 q_2 q_487) rfl rfl rfl (by decide +kernel) ⟨Nat.le_of_ble_eq_true rfl, Nat.le_of_ble_eq_true rfl⟩) ⟨fun a U g mk q => q, fun U hU hW => ⟨rfl, hU⟩⟩ rfl rfl hl.1 rfl (lv_room (Nat.le_of_ble_eq_true rfl)) dM_isWithin_83 ⟨Nat.zero_le _, Nat.zero_le _⟩) hS (fun locs hS => ?_)
      refine lv_iconst (v := -1) hx hb dM_isWithin_86 (by decide) ?_
      refine lv_ixor hx hb dM_isWithin_87 ?_
      refine lv_iand hx hb dM_isWithin_88 ?_
      refine lv_if_ne (tgt := 96) hx hb dM_isWithin_89 rfl (fun h3 => ?_) (fun h3 => ?_)
      · refine lv_iconst (v := 0) hx hb dM_isWithin_96 (by decide) ?_
        exact W.zret (v := (0 : Int32)) hx hb hr (by decide) (fun t9 ht hW => ⟨⟨_, (), rfl, (by unfold fM_isWithin; rw [if_neg h1, if_neg h2, if_neg h3]), ht⟩, hS.F ht⟩) hS.2.2 dM_isWithin_97
      · refine lv_iconst (v := 1) hx hb dM_isWithin_92 (by decide) ?_
        refine lv_goto (tgt := 97) hx hb dM_isWithin_93 rfl ?_
        exact W.zret (v := (1 : Int32)) hx hb hr (by decide) (fun t9 ht hW => ⟨⟨_, (), rfl, (by unfold fM_isWithin; rw [if_neg h1, if_neg h2, if_pos h3]), ht⟩, hS.F ht⟩) hS.2.2 dM_isWithin_97
end
section
/-! A register is written: become of the class, set of the reference; what a throw needs. -/
def zS (d x : Int32) (f : Nat → Int32) : Nat → Int32 := if d = 0 then f else upd f d.toNatClampNeg x
def zSr (d y : Int32) : Int32 := if d = 0 then 0 else y
theorem zSr_b {d y : Int32} (h : y = 0 ∨ y = 1) : zSr d y = 0 ∨ zSr d y = 1 := by
  unfold zSr
  split
  · exact Or.inl rfl
  · exact h
theorem zw_pre {s : State} {H : Heap} {D : va_G} {ws : va_W} {ty : List (ClassId × FieldType)} {b : Nat} {A : Nat → Prop} {As : List Value} {c : vw_C} {ci q0 : Nat} {fs : List Value} (hK : va_K D zCl ty s) (hP : va_P D zCl ws H) (hD : va_D A ws) (hc : zCl[ci]? = some c) (he : ws[q0]? = some (b, .inr (ci, fs))) : PreV s H c.1 b (va_Pc (.ref b :: As) (fun U => va_P D zCl ws U.heap ∧ va_K D zCl ty U ∧ va_D A ws)) As :=
  ⟨fun a U g mk h => ⟨h.1, h.2.1, va_K.moved (u := U) (U := U.calling g mk a) (Vm.Alike.refl U.vm) h.2.2.1, h.2.2.2⟩, va_recv hK hP hc he, fun U hU hW => ⟨rfl, by rw [hU]; exact hP, va_K.moved hW.alike hK, hD⟩⟩
section ZJ
variable {p : Program} {l : Launch} {e : Env} {R : Room} {s : State} {m : MethodId} {args : Array Value} {below : List Frame} {meth : Method} {c : Code} {H : Heap} {locs : List Loc} {cells slots : Nat} {Q : State → Prop}
variable {pc : Nat} {ls : Array Slot} {rest st0 : List Value} {A0 : Nat → Prop} {H0 : Heap}
/-- ways that meet with a number on the stack -/
theorem zj_i (T : Int32) (J : Nat) (rest : List Value) (cont : ∀ locs1 : List Loc, va_S A0 H0 H locs1 → W p l e R s m args below meth c H locs1 cells slots Q (F0 m J ls (.int T :: rest)))
    (region : (∀ (locs1 : List Loc) (x : Int32), x = T → va_S A0 H0 H locs1 → W p l e R s m args below meth c H locs1 cells slots Q (F0 m J ls (.int x :: rest))) → W p l e R s m args below meth c H locs cells slots Q (F0 m pc ls st0)) : W p l e R s m args below meth c H locs cells slots Q (F0 m pc ls st0) :=
  region (fun locs1 x hx hS => by rw [hx]; exact cont locs1 hS)
theorem zt_i {x y : Int32} (h : x = y) (k : W p l e R s m args below meth c H locs cells slots Q (F0 m pc ls (.int y :: rest))) : W p l e R s m args below meth c H locs cells slots Q (F0 m pc ls (.int x :: rest)) := by
  rw [h]
  exact k
theorem zt_l {x y : Int64} (h : x = y) (k : W p l e R s m args below meth c H locs cells slots Q (F0 m pc ls (.long y :: rest))) : W p l e R s m args below meth c H locs cells slots Q (F0 m pc ls (.long x :: rest)) := by
  rw [h]
  exact k
end ZJ
abbrev xIO : String := "java/lang/IndexOutOfBoundsException"
abbrev xIA : String := "java/lang/IllegalArgumentException"
abbrev xIS : String := "java/lang/IllegalStateException"
abbrev xD (n : String) : Cond := Cond.declares ⟨n, "<init>", "(Ljava/lang/String;)V"⟩
abbrev xB (X : String) : List Cond := [Cond.castable X X, xD "java/lang/RuntimeException", xD "java/lang/Exception", xD "java/lang/Throwable"]
abbrev xUp : List String := ["java/lang/RuntimeException", "java/lang/Exception"]
/-- what the throws of the class need of the start: the two statics of Throwable, the texts, which class is which -/
def zX (A : Nat → Prop) (U : State) (H : Heap) : Prop := (vx_Zq Bundle.tN "UNASSIGNED_STACK" Bundle.steD A U H ∧ vx_Zq Bundle.tN "SUPPRESSED_SENTINEL" Bundle.listD A U H) ∧ (va_Nw (.castable xIO xIO) U ∧ va_Nw (.castable xIA xIA) U ∧ va_Nw (.castable xIS xIS) U) ∧ (va_Nc xIA xIO U ∧ va_Nc xIS xIO U ∧ va_Nc xIS xIA U) ∧ (va_Nw (xD "java/lang/RuntimeException") U ∧ va_Nw (xD "java/lang/Exception") U ∧ va_Nw (xD "java/lang/Throwable") U) ∧
  (∃ a, vk_R "CapUnit" 37 "a root goes to register 1 to 31" a U) ∧ (∃ a, vk_R "CapUnit" 48 "bounds beyond 2^32, or no such perms" a U) ∧ (∃ a, vk_R "CapUnit" 53 "there are 8 roots" a U) ∧ (∃ a, vk_R "CapUnit" 79 "registers are 0 to 31" a U) ∧ (∃ a, vk_R "CapUnit" 129 "0 to 7 can be told" a U) ∧ (∃ a, vk_R "CapUnit" 131 "bytes are 0 to 4096" a U) ∧ (∃ a, vk_R "CapUnit" 133 "length below 0, or bounds beyond 2^32" a U) ∧ (∃ a, vk_R "CapUnit" 135 "length is 0 to 2^32" a U)
theorem zX.warm {A : Nat → Prop} {s U : State} {H : Heap} (hW : s.WarmedH U.vm) (h : zX A s H) : zX A U H := by
  obtain ⟨⟨a1, a2⟩, ⟨b1, b2, b3⟩, ⟨c1, c2, c3⟩, ⟨f1, f2, f3⟩, ⟨x1, d1⟩, ⟨x2, d2⟩, ⟨x3, d3⟩, ⟨x4, d4⟩, ⟨x5, d5⟩, ⟨x6, d6⟩, ⟨x7, d7⟩, ⟨x8, d8⟩⟩ := h
  exact ⟨⟨vx_Zq.moved hW.alike a1, vx_Zq.moved hW.alike a2⟩, ⟨va_Nw.warmC hW b1, va_Nw.warmC hW b2, va_Nw.warmC hW b3⟩, ⟨va_Nc.moved hW.alike c1, va_Nc.moved hW.alike c2, va_Nc.moved hW.alike c3⟩, ⟨va_Nw.warmD hW f1, va_Nw.warmD hW f2, va_Nw.warmD hW f3⟩, ⟨x1, vk_R.warm hW d1⟩, ⟨x2, vk_R.warm hW d2⟩, ⟨x3, vk_R.warm hW d3⟩, ⟨x4, vk_R.warm hW d4⟩, ⟨x5, vk_R.warm hW d5⟩, ⟨x6, vk_R.warm hW d6⟩, ⟨x7, vk_R.warm hW d7⟩, ⟨x8, vk_R.warm hW d8⟩⟩
theorem zX.calling {A : Nat → Prop} {U : State} {H : Heap} {g : JFrame} {mk : MethodId} {a : Array Value} (h : zX A U H) : zX A (U.calling g mk a) H := zX.warm (s := U) (U := U.calling g mk a) (State.WarmedH.refl U) h
theorem zX.kept {A : Nat → Prop} {U : State} {H H1 : Heap} (h : zX A U H) (hq : ∀ a : Nat, a < H.size → ¬ A a → H1[a]? = H[a]?) : zX A U H1 := ⟨⟨vx_Zq.kept h.1.1 hq, vx_Zq.kept h.1.2 hq⟩, h.2⟩
theorem zX.narrow {A B : Nat → Prop} {U : State} {H : Heap} (h : zX A U H) (hAB : ∀ q, B q → A q) : zX B U H := ⟨⟨vx_Zq.narrow h.1.1 hAB, vx_Zq.narrow h.1.2 hAB⟩, h.2⟩
theorem zx_pre {s : State} {H : Heap} {D : va_G} {ws : va_W} {ty : List (ClassId × FieldType)} {b : Nat} {A : Nat → Prop} {As : List Value} {c : vw_C} {ci q0 : Nat} {fs : List Value} (hK : va_K D zCl ty s) (hP : va_P D zCl ws H) (hD : va_D A ws) (hX : zX A s H) (hc : zCl[ci]? = some c) (he : ws[q0]? = some (b, .inr (ci, fs))) : PreV s H c.1 b (va_Pc (.ref b :: As) (fun U => va_P D zCl ws U.heap ∧ va_K D zCl ty U ∧ va_D A ws ∧ zX A U U.heap)) As :=
  ⟨fun a U g mk h => ⟨h.1, h.2.1, va_K.moved (u := U) (U := U.calling g mk a) (Vm.Alike.refl U.vm) h.2.2.1, h.2.2.2.1, zX.calling h.2.2.2.2⟩, va_recv hK hP hc he, fun U hU hW => ⟨rfl, by rw [hU]; exact hP, va_K.moved hW.alike hK, hD, by rw [hU]; exact zX.warm hW hX⟩⟩
theorem x_good39 : ∀ w ∈ (vx_atS "CapUnit" 39 xIO xUp).filter goodWord, w ∈ wA := fun w h => List.mem_filter.mpr ⟨(show ∀ w ∈ (vx_atS "CapUnit" 39 xIO xUp).filter goodWord, w ∈ lw_tbl by decide +kernel) w h, (List.mem_filter.mp h).2⟩
theorem x_good50 : ∀ w ∈ (vx_atS "CapUnit" 50 xIA xUp).filter goodWord, w ∈ wA := fun w h => List.mem_filter.mpr ⟨(show ∀ w ∈ (vx_atS "CapUnit" 50 xIA xUp).filter goodWord, w ∈ lw_tbl by decide +kernel) w h, (List.mem_filter.mp h).2⟩
theorem x_good55 : ∀ w ∈ (vx_atS "CapUnit" 55 xIS xUp).filter goodWord, w ∈ wA := fun w h => List.mem_filter.mpr ⟨(show ∀ w ∈ (vx_atS "CapUnit" 55 xIS xUp).filter goodWord, w ∈ lw_tbl by decide +kernel) w h, (List.mem_filter.mp h).2⟩
theorem x_bad39 : ∀ w ∈ (vx_atS "CapUnit" 39 xIO xUp).filter (fun w => !goodWord w), w ∈ xB xIO := by decide +kernel
theorem x_bad50 : ∀ w ∈ (vx_atS "CapUnit" 50 xIA xUp).filter (fun w => !goodWord w), w ∈ xB xIA := by decide +kernel
theorem x_bad55 : ∀ w ∈ (vx_atS "CapUnit" 55 xIS xUp).filter (fun w => !goodWord w), w ∈ xB xIS := by decide +kernel
theorem x_ot39 : ∀ w ∈ Cond.classLink "CapUnit" 35 xIO :: Cond.initialized xIO :: vx_atS "CapUnit" 39 xIO xUp, vx_ot w = true := by decide +kernel
theorem x_ot50 : ∀ w ∈ Cond.classLink "CapUnit" 46 xIA :: Cond.initialized xIA :: vx_atS "CapUnit" 50 xIA xUp, vx_ot w = true := by decide +kernel
theorem x_ot55 : ∀ w ∈ Cond.classLink "CapUnit" 51 xIS :: Cond.initialized xIS :: vx_atS "CapUnit" 55 xIS xUp, vx_ot w = true := by decide +kernel
theorem x_all {args : Array Value} {s : State} {ic : Nat} {X : String} (hq : ∀ w ∈ wA, w.before args s = true) (hg : ∀ w ∈ (vx_atS "CapUnit" ic X xUp).filter goodWord, w ∈ wA) (hb : ∀ w ∈ (vx_atS "CapUnit" ic X xUp).filter (fun w => !goodWord w), w ∈ xB X) (h1 : va_Nw (.castable X X) s) (h2 : va_Nw (xD "java/lang/RuntimeException") s) (h3 : va_Nw (xD "java/lang/Exception") s) (h4 : va_Nw (xD "java/lang/Throwable") s) : ∀ w ∈ vx_atS "CapUnit" ic X xUp, w.before args s = true :=
  vx_hat (fun w h => hq w (hg w h)) hb (vx_c (va_Nw.use rfl h1) (vx_c (va_Nw.use rfl h2) (vx_c (va_Nw.use rfl h3) (vx_c (va_Nw.use rfl h4) vx_n))))

set_option maxHeartbeats 4000000 in
set_option maxRecDepth 100000 in
theorem kC_become (l : Launch) {D : va_G} {q : Nat → Nat} {k : Nat → ClassId} {tg : Nat → Int32} {ad : Nat → Int32} {mt : Nat → Int32} {rb : Nat → Int64} {rt : Nat → Int64} {rp : Nat → Int32} {nr : Int32} {A : Nat → Prop} (d y a z : Int32) (id : vp_in d 32) (iy : y = 0 ∨ y = 1) : Met l yC_become wC_become { frames := 0, cells := 0, slots := 0, locals := 0 } (va_Pc [.ref (q 0), .int d, .int y, .int a, .int z] (fun U => va_P D zCl (cW q k tg ad mt rb rt rp nr) U.heap ∧ va_K D zCl (zT k) U ∧ va_D A (cW q k tg ad mt rb rt rp nr))) (va_Qi (fun v9 (_ : Unit) => v9 = zSr d y) (fun _ t => va_P D zCl (cW q k (zS d y tg) (zS d a ad) (zS d z mt) rb rt rp nr) t.heap ∧ va_K D zCl (zT k) t ∧ va_D A (cW q k (zS d y tg) (zS d a ad) (zS d z mt) rb rt rp nr)) A) 0 0 A := by
  refine Met.ofW (cc := cC_become) (maxL := 5) (ret := (some .boolean)) (by decide) rfl ?_
  intro p e s m args below meth c s₁ B hml hv
  obtain ⟨rfl, hP, hK, hD⟩ := hv
  have hx := B.exec
  have hb := B.bytes
  have hr := B.returns
  have hts := atoms_spec (ws := wC_become) B.pre
  have hq : ∀ w ∈ wA, w.before _ s = true := fun w h => hts w (List.mem_cons_of_mem _ h)
  have hown : s.vm.findClass "CapUnit" = some m.cls := findClass_of_methodNamed B.named
  have hlocks := B.notSynchronized
  have hS : va_S A s.heap s.heap [] := va_S.rf
  have hl := lv_entry ([.ref (q 0), .int d, .int y, .int a, .int z]) (n := 5) (Nat.le_of_ble_eq_true rfl)
  rw [lg_entry_eq]
  generalize (lg_sl ([.ref (q 0), .int d, .int y, .int a, .int z]) ++ List.replicate (5 - (lg_sl ([.ref (q 0), .int d, .int y, .int a, .int z])).length) Slot.unset).toArray = ls at hl ⊢
  have hl : lv_has ls 5 [(0, .ref (q 0)), (1, .int d), (2, .int y), (3, .int a), (4, .int z)] := hl
  refine lv_iload_n hx hb dC_become_0 rfl (lv_at hl 1 rfl) ?_
  refine lv_if_ne (tgt := 6) hx hb dC_become_1 rfl (fun h1 => ?_) (fun h1 => ?_)
  rotate_left
  · refine lv_iconst (v := 0) hx hb dC_become_4 (by decide) ?_
    have e1 : ∀ (x : Int32) (f : Nat → Int32), zS d x f = f := fun x f => by unfold zS; rw [if_pos h1]
    have e2 : zSr d y = 0 := by unfold zSr; rw [if_pos h1]
    rw [e1, e1, e1, e2]
    exact W.zret (v := (0 : Int32)) hx hb hr (by decide) (fun t9 ht hW => ⟨⟨_, (), rfl, rfl, by rw [ht]; exact hP, va_K.moved hW.alike hK, hD⟩, hS.F ht⟩) hS.2.2 dC_become_5
  have e1 : ∀ (x : Int32) (f : Nat → Int32), zS d x f = upd f d.toNatClampNeg x := fun x f => by unfold zS; rw [if_neg h1]
  have e2 : zSr d y = y := by unfold zSr; rw [if_neg h1]
  have e3 : vp_nar .boolean y = y := by rcases iy with rfl | rfl <;> rfl
  rw [e1, e1, e1, e2]
  refine lv_aload_n hx hb dC_become_6 rfl (lv_at hl 0 rfl) ?_
  refine va_get (D := D) (ci := 0) (v := .ref (q 1)) (C := "CapUnit") (T := TC) (N := 7) hx hb hq uC_in hown hK hP 0 rfl rfl 0 (by decide) (hq _ q_19) (fun _ h9 => h9) rfl dC_become_7 ?_
  refine lv_iload_n hx hb dC_become_10 rfl (lv_at hl 1 rfl) ?_
  refine lv_iload_n hx hb dC_become_11 rfl (lv_at hl 2 rfl) ?_
  refine va_zast hx hb hK hP hD hS 1 0 rfl rfl id dC_become_12 (fun H locs hP hD hS => ?_)
  rw [e3] at hP hD
  have hP : va_P D zCl (cW q k (upd tg d.toNatClampNeg y) ad mt rb rt rp nr) H := hP
  have hD : va_D A (cW q k (upd tg d.toNatClampNeg y) ad mt rb rt rp nr) := hD
  refine lv_aload_n hx hb dC_become_13 rfl (lv_at hl 0 rfl) ?_
  refine va_get (D := D) (ci := 0) (v := .ref (q 2)) (C := "CapUnit") (T := TC) (N := 7) hx hb hq uC_in hown hK hP 0 rfl rfl 1 (by decide) (hq _ q_20) (fun _ h9 => h9) rfl dC_become_14 ?_
  refine lv_iload_n hx hb dC_become_17 rfl (lv_at hl 1 rfl) ?_
  refine lv_iload_n hx hb dC_become_18 rfl (lv_at hl 3 rfl) ?_
  refine va_iast hx hb hK hP hD hS 2 1 rfl rfl id dC_become_19 (fun H locs hP hD hS => ?_)
  have hP : va_P D zCl (cW q k (upd tg d.toNatClampNeg y) (upd ad d.toNatClampNeg a) mt rb rt rp nr) H := hP
  have hD : va_D A (cW q k (upd tg d.toNatClampNeg y) (upd ad d.toNatClampNeg a) mt rb rt rp nr) := hD
  refine lv_aload_n hx hb dC_become_20 rfl (lv_at hl 0 rfl) ?_
  refine va_get (D := D) (ci := 0) (v := .ref (q 3)) (C := "CapUnit") (T := TC) (N := 7) hx hb hq uC_in hown hK hP 0 rfl rfl 2 (by decide) (hq _ q_21) (fun _ h9 => h9) rfl dC_become_21 ?_
  refine lv_iload_n hx hb dC_become_24 rfl (lv_at hl 1 rfl) ?_
  refine lv_iload hx hb dC_become_25 (lv_at hl 4 rfl) ?_
  refine va_iast hx hb hK hP hD hS 3 1 rfl rfl id dC_become_27 (fun H locs hP hD hS => ?_)
  have hP : va_P D zCl (cW q k (upd tg d.toNatClampNeg y) (upd ad d.toNatClampNeg a) (upd mt d.toNatClampNeg z) rb rt rp nr) H := hP
  have hD : va_D A (cW q k (upd tg d.toNatClampNeg y) (upd ad d.toNatClampNeg a) (upd mt d.toNatClampNeg z) rb rt rp nr) := hD
  refine lv_iload_n hx hb dC_become_28 rfl (lv_at hl 2 rfl) ?_
  exact W.zret (v := y) hx hb hr (zz_nar iy) (fun t9 ht hW => ⟨⟨_, (), rfl, rfl, by rw [ht]; exact hP, va_K.moved hW.alike hK, hD⟩, hS.F ht⟩) hS.2.2 dC_become_29
set_option maxHeartbeats 4000000 in
set_option maxRecDepth 100000 in
theorem kM_set (l : Launch) {D : va_G} {q : Nat → Nat} {k : Nat → ClassId} {tg : Nat → Int32} {ad : Nat → Int32} {mt : Nat → Int32} {rb : Nat → Int64} {rt : Nat → Int64} {rp : Nat → Int32} {nr : Int32} {th : Int32} {pk : Int32} {ex : Int32} {ro : Int64} {A : Nat → Prop} (d y a z : Int32) (id : vp_in d 32) (iy : y = 0 ∨ y = 1) : Met l yM_set wM_set { frames := 0, cells := 0, slots := 0, locals := 0 } (va_Pc [.ref (q 0), .int d, .int y, .int a, .int z] (fun U => va_P D zCl (mW q k tg ad mt rb rt rp nr th pk ex ro) U.heap ∧ va_K D zCl (zT k) U ∧ va_D A (mW q k tg ad mt rb rt rp nr th pk ex ro))) (va_Qi (fun v9 (_ : Unit) => v9 = zSr d y) (fun _ t => va_P D zCl (mW q k (zS d y tg) (zS d a ad) (zS d z mt) rb rt rp nr th pk ex ro) t.heap ∧ va_K D zCl (zT k) t ∧ va_D A (mW q k (zS d y tg) (zS d a ad) (zS d z mt) rb rt rp nr th pk ex ro)) A) 0 0 A := by
  refine Met.ofW (cc := cM_set) (maxL := 5) (ret := (some .boolean)) (by decide) rfl ?_
  intro p e s m args below meth c s₁ B hml hv
  obtain ⟨rfl, hP, hK, hD⟩ := hv
  have hx := B.exec
  have hb := B.bytes
  have hr := B.returns
  have hts := atoms_spec (ws := wM_set) B.pre
  have hq : ∀ w ∈ wA, w.before _ s = true := fun w h => hts w (List.mem_cons_of_mem _ h)
  have hown : s.vm.findClass "CapUnitModel" = some m.cls := findClass_of_methodNamed B.named
  have hlocks := B.notSynchronized
  have hS : va_S A s.heap s.heap [] := va_S.rf
  have hl := lv_entry ([.ref (q 0), .int d, .int y, .int a, .int z]) (n := 5) (Nat.le_of_ble_eq_true rfl)
  rw [lg_entry_eq]
  generalize (lg_sl ([.ref (q 0), .int d, .int y, .int a, .int z]) ++ List.replicate (5 - (lg_sl ([.ref (q 0), .int d, .int y, .int a, .int z])).length) Slot.unset).toArray = ls at hl ⊢
  have hl : lv_has ls 5 [(0, .ref (q 0)), (1, .int d), (2, .int y), (3, .int a), (4, .int z)] := hl
  refine lv_iload_n hx hb dM_set_0 rfl (lv_at hl 1 rfl) ?_
  refine lv_if_ne (tgt := 6) hx hb dM_set_1 rfl (fun h1 => ?_) (fun h1 => ?_)
  rotate_left
  · refine lv_iconst (v := 0) hx hb dM_set_4 (by decide) ?_
    have e1 : ∀ (x : Int32) (f : Nat → Int32), zS d x f = f := fun x f => by unfold zS; rw [if_pos h1]
    have e2 : zSr d y = 0 := by unfold zSr; rw [if_pos h1]
    rw [e1, e1, e1, e2]
    exact W.zret (v := (0 : Int32)) hx hb hr (by decide) (fun t9 ht hW => ⟨⟨_, (), rfl, rfl, by rw [ht]; exact hP, va_K.moved hW.alike hK, hD⟩, hS.F ht⟩) hS.2.2 dM_set_5
  have e1 : ∀ (x : Int32) (f : Nat → Int32), zS d x f = upd f d.toNatClampNeg x := fun x f => by unfold zS; rw [if_neg h1]
  have e2 : zSr d y = y := by unfold zSr; rw [if_neg h1]
  have e3 : vp_nar .boolean y = y := by rcases iy with rfl | rfl <;> rfl
  rw [e1, e1, e1, e2]
  refine lv_aload_n hx hb dM_set_6 rfl (lv_at hl 0 rfl) ?_
  refine va_get (D := D) (ci := 1) (v := .ref (q 1)) (C := "CapUnitModel") (T := TM) (N := 11) hx hb hq uM_in hown hK hP 0 rfl rfl 0 (by decide) (hq _ q_370) (fun _ h9 => h9) rfl dM_set_7 ?_
  refine lv_iload_n hx hb dM_set_10 rfl (lv_at hl 1 rfl) ?_
  refine lv_iload_n hx hb dM_set_11 rfl (lv_at hl 2 rfl) ?_
  refine va_zast hx hb hK hP hD hS 1 0 rfl rfl id dM_set_12 (fun H locs hP hD hS => ?_)
  rw [e3] at hP hD
  have hP : va_P D zCl (mW q k (upd tg d.toNatClampNeg y) ad mt rb rt rp nr th pk ex ro) H := hP
  have hD : va_D A (mW q k (upd tg d.toNatClampNeg y) ad mt rb rt rp nr th pk ex ro) := hD
  refine lv_aload_n hx hb dM_set_13 rfl (lv_at hl 0 rfl) ?_
  refine va_get (D := D) (ci := 1) (v := .ref (q 2)) (C := "CapUnitModel") (T := TM) (N := 11) hx hb hq uM_in hown hK hP 0 rfl rfl 1 (by decide) (hq _ q_371) (fun _ h9 => h9) rfl dM_set_14 ?_
  refine lv_iload_n hx hb dM_set_17 rfl (lv_at hl 1 rfl) ?_
  refine lv_iload_n hx hb dM_set_18 rfl (lv_at hl 3 rfl) ?_
  refine va_iast hx hb hK hP hD hS 2 1 rfl rfl id dM_set_19 (fun H locs hP hD hS => ?_)
  have hP : va_P D zCl (mW q k (upd tg d.toNatClampNeg y) (upd ad d.toNatClampNeg a) mt rb rt rp nr th pk ex ro) H := hP
  have hD : va_D A (mW q k (upd tg d.toNatClampNeg y) (upd ad d.toNatClampNeg a) mt rb rt rp nr th pk ex ro) := hD
  refine lv_aload_n hx hb dM_set_20 rfl (lv_at hl 0 rfl) ?_
  refine va_get (D := D) (ci := 1) (v := .ref (q 3)) (C := "CapUnitModel") (T := TM) (N := 11) hx hb hq uM_in hown hK hP 0 rfl rfl 2 (by decide) (hq _ q_372) (fun _ h9 => h9) rfl dM_set_21 ?_
  refine lv_iload_n hx hb dM_set_24 rfl (lv_at hl 1 rfl) ?_
  refine lv_iload hx hb dM_set_25 (lv_at hl 4 rfl) ?_
  refine va_iast hx hb hK hP hD hS 3 1 rfl rfl id dM_set_27 (fun H locs hP hD hS => ?_)
  have hP : va_P D zCl (mW q k (upd tg d.toNatClampNeg y) (upd ad d.toNatClampNeg a) (upd mt d.toNatClampNeg z) rb rt rp nr th pk ex ro) H := hP
  have hD : va_D A (mW q k (upd tg d.toNatClampNeg y) (upd ad d.toNatClampNeg a) (upd mt d.toNatClampNeg z) rb rt rp nr th pk ex ro) := hD
  refine lv_iload_n hx hb dM_set_28 rfl (lv_at hl 2 rfl) ?_
  exact W.zret (v := y) hx hb hr (zz_nar iy) (fun t9 ht hW => ⟨⟨_, (), rfl, rfl, by rw [ht]; exact hP, va_K.moved hW.alike hK, hD⟩, hS.F ht⟩) hS.2.2 dM_set_29
end
section
/-! The class's public methods: each returns, or throws with the world as it was. -/
def zE (E : String) (x : Int32) : Prop := (E = xIO ∧ x = 1) ∨ (E = xIA ∧ x = 2) ∨ (E = xIS ∧ x = 3)
def zE1 (E : String) (x : Int32) : Prop := E = xIA ∧ x = 1
theorem zz_sw8 {y : Int32} (h0 : ¬ y = (0 : Int32)) (h1 : ¬ y = (1 : Int32)) (h2 : ¬ y = (2 : Int32)) (h3 : ¬ y = (3 : Int32)) (h4 : ¬ y = (4 : Int32)) (h5 : ¬ y = (5 : Int32)) (h6 : ¬ y = (6 : Int32)) (h7 : ¬ y = (7 : Int32)) : y.toInt < 0 ∨ 7 < y.toInt := by
  rw [← Int32.toInt_inj] at h0 h1 h2 h3 h4 h5 h6 h7
  have e0 : (0 : Int32).toInt = 0 := by decide
  have e1 : (1 : Int32).toInt = 1 := by decide
  have e2 : (2 : Int32).toInt = 2 := by decide
  have e3 : (3 : Int32).toInt = 3 := by decide
  have e4 : (4 : Int32).toInt = 4 := by decide
  have e5 : (5 : Int32).toInt = 5 := by decide
  have e6 : (6 : Int32).toInt = 6 := by decide
  have e7 : (7 : Int32).toInt = 7 := by decide
  omega
theorem zz_fit {v : Int32} (h : v = 0 ∨ v = 1) : fits .boolean (.int v) = true := by
  rcases h with rfl | rfl <;> rfl

def xC_put (tg : Nat → Int32) (ad : Nat → Int32) (mt : Nat → Int32) (d : Int32) (a : Int32) (z : Int32) : Int32 := if (fC_isRegister d) = 0 then 1 else 0
set_option maxHeartbeats 4000000 in
set_option maxRecDepth 100000 in
theorem kC_put (l : Launch) (hl0 : l.stackTraces = false) {D : va_G} {q : Nat → Nat} {k : Nat → ClassId} {tg : Nat → Int32} {ad : Nat → Int32} {mt : Nat → Int32} {rb : Nat → Int64} {rt : Nat → Int64} {rp : Nat → Int32} {nr : Int32} {A : Nat → Prop} (d : Int32) (a : Int32) (z : Int32) : vx_Met l yC_put wC_put { frames := 6, cells := 1, slots := 6, locals := 82 } (va_Pc [.ref (q 0), .int d, .int a, .int z] (fun U => va_P D zCl (cW q k tg ad mt rb rt rp nr) U.heap ∧ va_K D zCl (zT k) U ∧ va_D A (cW q k tg ad mt rb rt rp nr) ∧ zX A U U.heap)) (va_Qv (fun (_ : Unit) => xC_put tg ad mt d a z = 0) (fun _ t => va_P D zCl (cW q k (zS d (0 : Int32) tg) (zS d a ad) (zS d (z ^^^ (1000194 : Int32)) mt) rb rt rp nr) t.heap ∧ va_K D zCl (zT k) t ∧ va_D A (cW q k (zS d (0 : Int32) tg) (zS d a ad) (zS d (z ^^^ (1000194 : Int32)) mt) rb rt rp nr)) A) (vx_X (fun _ : Unit => True) (fun E _ t => zE E (xC_put tg ad mt d a z) ∧ va_P D zCl (cW q k tg ad mt rb rt rp nr) t.heap ∧ va_K D zCl (zT k) t) A) 1 6 A := by
  refine vx_ofW (cc := cC_put) (maxL := 4) (ret := none) (by decide) rfl ?_
  intro p e s m args below meth c s₁ B hml hnt hv
  obtain ⟨rfl, hP, hK, hD, hX⟩ := hv
  have hx := B.exec
  have hb := B.bytes
  have hr := B.returns
  have hts := atoms_spec (ws := wC_put) B.pre
  have hq : ∀ w ∈ wA, w.before _ s = true := fun w h => hts w (List.mem_cons_of_mem _ h)
  have hown : s.vm.findClass "CapUnit" = some m.cls := findClass_of_methodNamed B.named
  have hlocks := B.notSynchronized
  have hS : va_S A s.heap s.heap [] := va_S.rf
  have hl := lv_entry ([.ref (q 0), .int d, .int a, .int z]) (n := 4) (Nat.le_of_ble_eq_true rfl)
  rw [lg_entry_eq]
  generalize (lg_sl ([.ref (q 0), .int d, .int a, .int z]) ++ List.replicate (4 - (lg_sl ([.ref (q 0), .int d, .int a, .int z])).length) Slot.unset).toArray = ls at hl ⊢
  have hl : lv_has ls 4 [(0, .ref (q 0)), (1, .int d), (2, .int a), (3, .int z)] := hl
  refine lv_iload_n hx hb dC_put_0 rfl (lv_at hl 1 rfl) ?_
  refine zc_i (va_runS (As := [.int d]) (rest := []) ⟨hx, hb, hml, hown, hq⟩ (kC_isRegister l s.heap d) (va_cwS 1 hq (wA_S q_243 q_244 q_1 q_245) rfl rfl rfl (by decide +kernel) ⟨Nat.le_of_ble_eq_true rfl, Nat.le_of_ble_eq_true rfl⟩) ⟨fun a U g mk q => q, fun U hU hW => ⟨rfl, hU⟩⟩ rfl rfl hl.1 rfl (lv_room (Nat.le_of_ble_eq_true rfl)) dC_put_1 ⟨Nat.zero_le _, Nat.zero_le _⟩) hS (fun locs hS => ?_)
  refine lv_if_ne (tgt := 17) hx hb dC_put_4 rfl (fun h1 => ?_) (fun h1 => ?_)
  · have gd := zz_reg h1
    refine lv_aload_n hx hb dC_put_17 rfl (lv_at hl 0 rfl) ?_
    refine lv_iload_n hx hb dC_put_18 rfl (lv_at hl 1 rfl) ?_
    refine lv_iconst (v := 0) hx hb dC_put_19 (by decide) ?_
    refine lv_iload_n hx hb dC_put_20 rfl (lv_at hl 2 rfl) ?_
    refine lv_iload_n hx hb dC_put_21 rfl (lv_at hl 3 rfl) ?_
    refine lv_ldc (v := 1000194) hx hb hown (hts (.constant "CapUnit" 20 1000194) (by decide +kernel)) dC_put_22 ?_
    refine lv_ixor hx hb dC_put_24 ?_
    refine va_calli (va_runV (C := "CapUnit") (b := q 0) (As := [.int d, .int (0 : Int32), .int a, .int (z ^^^ (1000194 : Int32))]) (rest := []) ⟨hx, hb, hml, hown, hq⟩ (kC_become l d (0 : Int32) a (z ^^^ (1000194 : Int32)) gd (Or.inl rfl)) (cwV 4 hq (wA_V q_232 q_234 sC_become q_1 q_235) rfl rfl rfl (by decide +kernel) ⟨Nat.le_of_ble_eq_true rfl, Nat.le_of_ble_eq_true rfl⟩) (zw_pre (c := zCl[0]) (q0 := 0) hK hP hD rfl rfl) rfl rfl hl.1 rfl (lv_room (Nat.le_of_ble_eq_true rfl)) dC_put_25 ⟨Nat.le_of_ble_eq_true rfl, Nat.le_of_ble_eq_true rfl⟩) hS (fun _ _ h9 => h9) (fun _ h9 => h9) (fun v9 u9 t9 H locs ht9 hvm9 hv9 hB9 hz9 hk9 hS => ?_)
    obtain ⟨hP, -, hD⟩ := hB9
    rw [ht9] at hP
    subst hv9
    clear hz9 hk9
    refine lv_pop hx hb dC_put_28 rfl ?_
    refine vx_ret (W.widen (k := 1) (n := 6) (by decide) (by decide) ?_)
    exact W.vret hx hb hr (fun t9 ht hW => ⟨⟨(), rfl, (by unfold xC_put; rw [if_neg h1]), by rw [ht]; exact hP, va_K.moved hW.alike hK, hD⟩, hS.F ht⟩) hS.2.2 dC_put_29
  · exact vx_throwS (rest := []) (names := xUp) (A := A) hx hb hl0 hown (by decide +kernel) (by decide +kernel) (hq _ q_109) (hq _ q_6) hX.2.2.2.2.2.2.2.1.choose_spec (x_all hq x_good39 x_bad39 hX.2.1.1 hX.2.2.2.1.1 hX.2.2.2.1.2.1 hX.2.2.2.1.2.2) x_ot39 hX.1.1 hX.1.2 hS (hl.1.trans hml.symm) dC_put_7 dC_put_10 dC_put_11 dC_put_13 dC_put_16 (fun x h9 => (hnt x h9).elim) (Nat.le_of_ble_eq_true rfl) (Nat.le_of_ble_eq_true rfl) (Nat.le_of_ble_eq_true rfl) (Nat.le_of_ble_eq_true rfl) hlocks (fun t9 ha hz hk9 => ⟨(), trivial, ⟨Or.inl ⟨rfl, (by unfold xC_put; rw [if_pos h1])⟩, hP.kept (fun _ q9 hq9 => hk9 q9.1 (vx_lt hP hq9)), va_K.moved ha hK⟩, hz, fun q9 h1 _ => hk9 q9 h1⟩) hS.2.2 (by decide) (by decide)
def xC_keep (tg : Nat → Int32) (ad : Nat → Int32) (mt : Nat → Int32) (d : Int32) (r : Int32) (y : Int32) : Int32 := if (fC_isRegister r) = 0 then 1 else (if (fC_isRegister d) = 0 then 1 else 0)
set_option maxHeartbeats 4000000 in
set_option maxRecDepth 100000 in
theorem kC_keep (l : Launch) (hl0 : l.stackTraces = false) {D : va_G} {q : Nat → Nat} {k : Nat → ClassId} {tg : Nat → Int32} {ad : Nat → Int32} {mt : Nat → Int32} {rb : Nat → Int64} {rt : Nat → Int64} {rp : Nat → Int32} {nr : Int32} {A : Nat → Prop} (d : Int32) (r : Int32) (y : Int32) : vx_Met l yC_keep wC_keep { frames := 6, cells := 1, slots := 6, locals := 82 } (va_Pc [.ref (q 0), .int d, .int r, .int y] (fun U => va_P D zCl (cW q k tg ad mt rb rt rp nr) U.heap ∧ va_K D zCl (zT k) U ∧ va_D A (cW q k tg ad mt rb rt rp nr) ∧ zX A U U.heap)) (va_Qi (fun v9 (_ : Unit) => xC_keep tg ad mt d r y = 0 ∧ v9 = zSr d (fC_isOpenWithTag tg ad mt r)) (fun _ t => va_P D zCl (cW q k (zS d (fC_isOpenWithTag tg ad mt r) tg) (zS d (ad r.toNatClampNeg) ad) (zS d ((mt r.toNatClampNeg) &&& (((y ^^^ (-1 : Int32)) <<< ((20 : Int32) &&& 31)) ^^^ (-1 : Int32))) mt) rb rt rp nr) t.heap ∧ va_K D zCl (zT k) t ∧ va_D A (cW q k (zS d (fC_isOpenWithTag tg ad mt r) tg) (zS d (ad r.toNatClampNeg) ad) (zS d ((mt r.toNatClampNeg) &&& (((y ^^^ (-1 : Int32)) <<< ((20 : Int32) &&& 31)) ^^^ (-1 : Int32))) mt) rb rt rp nr)) A) (vx_X (fun _ : Unit => True) (fun E _ t => zE E (xC_keep tg ad mt d r y) ∧ va_P D zCl (cW q k tg ad mt rb rt rp nr) t.heap ∧ va_K D zCl (zT k) t) A) 1 6 A := by
  refine vx_ofW (cc := cC_keep) (maxL := 5) (ret := (some .boolean)) (by decide) rfl ?_
  intro p e s m args below meth c s₁ B hml hnt hv
  obtain ⟨rfl, hP, hK, hD, hX⟩ := hv
  have hx := B.exec
  have hb := B.bytes
  have hr := B.returns
  have hts := atoms_spec (ws := wC_keep) B.pre
  have hq : ∀ w ∈ wA, w.before _ s = true := fun w h => hts w (List.mem_cons_of_mem _ h)
  have hown : s.vm.findClass "CapUnit" = some m.cls := findClass_of_methodNamed B.named
  have hlocks := B.notSynchronized
  have hS : va_S A s.heap s.heap [] := va_S.rf
  have hl := lv_entry ([.ref (q 0), .int d, .int r, .int y]) (n := 5) (Nat.le_of_ble_eq_true rfl)
  rw [lg_entry_eq]
  generalize (lg_sl ([.ref (q 0), .int d, .int r, .int y]) ++ List.replicate (5 - (lg_sl ([.ref (q 0), .int d, .int r, .int y])).length) Slot.unset).toArray = ls at hl ⊢
  have hl : lv_has ls 5 [(0, .ref (q 0)), (1, .int d), (2, .int r), (3, .int y)] := hl
  refine lv_iload_n hx hb dC_keep_0 rfl (lv_at hl 2 rfl) ?_
  refine zc_i (va_runS (As := [.int r]) (rest := []) ⟨hx, hb, hml, hown, hq⟩ (kC_isRegister l s.heap r) (va_cwS 1 hq (wA_S q_243 q_244 q_1 q_245) rfl rfl rfl (by decide +kernel) ⟨Nat.le_of_ble_eq_true rfl, Nat.le_of_ble_eq_true rfl⟩) ⟨fun a U g mk q => q, fun U hU hW => ⟨rfl, hU⟩⟩ rfl rfl hl.1 rfl (lv_room (Nat.le_of_ble_eq_true rfl)) dC_keep_1 ⟨Nat.zero_le _, Nat.zero_le _⟩) hS (fun locs hS => ?_)
  refine lv_if_eq (tgt := 14) hx hb dC_keep_4 rfl (fun h1 => ?_) (fun h1 => ?_)
  · exact vx_throwS (rest := []) (names := xUp) (A := A) hx hb hl0 hown (by decide +kernel) (by decide +kernel) (hq _ q_109) (hq _ q_6) hX.2.2.2.2.2.2.2.1.choose_spec (x_all hq x_good39 x_bad39 hX.2.1.1 hX.2.2.2.1.1 hX.2.2.2.1.2.1 hX.2.2.2.1.2.2) x_ot39 hX.1.1 hX.1.2 hS (hl.1.trans hml.symm) dC_keep_14 dC_keep_17 dC_keep_18 dC_keep_20 dC_keep_23 (fun x h9 => (hnt x h9).elim) (Nat.le_of_ble_eq_true rfl) (Nat.le_of_ble_eq_true rfl) (Nat.le_of_ble_eq_true rfl) (Nat.le_of_ble_eq_true rfl) hlocks (fun t9 ha hz hk9 => ⟨(), trivial, ⟨Or.inl ⟨rfl, (by unfold xC_keep; rw [if_pos h1])⟩, hP.kept (fun _ q9 hq9 => hk9 q9.1 (vx_lt hP hq9)), va_K.moved ha hK⟩, hz, fun q9 h1 _ => hk9 q9 h1⟩) hS.2.2 (by decide) (by decide)
  · have gr := zz_reg h1
    refine lv_iload_n hx hb dC_keep_7 rfl (lv_at hl 1 rfl) ?_
    refine zc_i (va_runS (As := [.int d]) (rest := []) ⟨hx, hb, hml, hown, hq⟩ (kC_isRegister l s.heap d) (va_cwS 1 hq (wA_S q_243 q_244 q_1 q_245) rfl rfl rfl (by decide +kernel) ⟨Nat.le_of_ble_eq_true rfl, Nat.le_of_ble_eq_true rfl⟩) ⟨fun a U g mk q => q, fun U hU hW => ⟨rfl, hU⟩⟩ rfl rfl hl.1 rfl (lv_room (Nat.le_of_ble_eq_true rfl)) dC_keep_8 ⟨Nat.zero_le _, Nat.zero_le _⟩) hS (fun locs hS => ?_)
    refine lv_if_ne (tgt := 24) hx hb dC_keep_11 rfl (fun h2 => ?_) (fun h2 => ?_)
    · have gd := zz_reg h2
      refine lv_iload_n hx hb dC_keep_24 rfl (lv_at hl 3 rfl) ?_
      refine lv_iconst (v := -1) hx hb dC_keep_25 (by decide) ?_
      refine lv_ixor hx hb dC_keep_26 ?_
      refine lv_bipush (v := 20) hx hb dC_keep_27 (by decide) ?_
      refine lv_ishl hx hb dC_keep_29 ?_
      refine lv_istore (lv' := [(4, .int ((y ^^^ (-1 : Int32)) <<< ((20 : Int32) &&& 31))), (0, .ref (q 0)), (1, .int d), (2, .int r), (3, .int y)]) hx hb dC_keep_30 hl (by decide) rfl (fun ls hl => ?_)
      refine lv_aload_n hx hb dC_keep_32 rfl (lv_at hl 1 rfl) ?_
      refine lv_iload_n hx hb dC_keep_33 rfl (lv_at hl 2 rfl) ?_
      refine lv_aload_n hx hb dC_keep_34 rfl (lv_at hl 1 rfl) ?_
      refine lv_iload_n hx hb dC_keep_35 rfl (lv_at hl 3 rfl) ?_
      refine zc_i (va_runV (C := "CapUnit") (b := q 0) (As := [.int r]) (rest := [.int d, .ref (q 0)]) ⟨hx, hb, hml, hown, hq⟩ (kC_isOpenWithTag l hP r gr) (cwV 1 hq (wA_V q_257 q_259 sC_isOpenWithTag q_1 q_260) rfl rfl rfl (by decide +kernel) ⟨Nat.le_of_ble_eq_true rfl, Nat.le_of_ble_eq_true rfl⟩) (zr_pre (c := zCl[0]) (q0 := 0) hK hP rfl rfl) rfl rfl hl.1 rfl (lv_room (Nat.le_of_ble_eq_true rfl)) dC_keep_36 ⟨Nat.le_of_ble_eq_true rfl, Nat.le_of_ble_eq_true rfl⟩) hS (fun locs hS => ?_)
      refine lv_aload_n hx hb dC_keep_39 rfl (lv_at hl 1 rfl) ?_
      refine va_get (D := D) (ci := 0) (v := .ref (q 2)) (C := "CapUnit") (T := TC) (N := 7) hx hb hq uC_in hown hK hP 0 rfl rfl 1 (by decide) (hq _ q_20) (fun _ h9 => h9) rfl dC_keep_40 ?_
      refine lv_iload_n hx hb dC_keep_43 rfl (lv_at hl 3 rfl) ?_
      refine va_iald hx hb hK hP 2 1 rfl rfl (i := r) gr dC_keep_44 ?_
      refine lv_aload_n hx hb dC_keep_45 rfl (lv_at hl 1 rfl) ?_
      refine va_get (D := D) (ci := 0) (v := .ref (q 3)) (C := "CapUnit") (T := TC) (N := 7) hx hb hq uC_in hown hK hP 0 rfl rfl 2 (by decide) (hq _ q_21) (fun _ h9 => h9) rfl dC_keep_46 ?_
      refine lv_iload_n hx hb dC_keep_49 rfl (lv_at hl 3 rfl) ?_
      refine va_iald hx hb hK hP 3 1 rfl rfl (i := r) gr dC_keep_50 ?_
      refine lv_iload hx hb dC_keep_51 (lv_at hl 0 rfl) ?_
      refine lv_iconst (v := -1) hx hb dC_keep_53 (by decide) ?_
      refine lv_ixor hx hb dC_keep_54 ?_
      refine lv_iand hx hb dC_keep_55 ?_
      refine va_calli (va_runV (C := "CapUnit") (b := q 0) (As := [.int d, .int (fC_isOpenWithTag tg ad mt r), .int (ad r.toNatClampNeg), .int ((mt r.toNatClampNeg) &&& (((y ^^^ (-1 : Int32)) <<< ((20 : Int32) &&& 31)) ^^^ (-1 : Int32)))]) (rest := []) ⟨hx, hb, hml, hown, hq⟩ (kC_become l d (fC_isOpenWithTag tg ad mt r) (ad r.toNatClampNeg) ((mt r.toNatClampNeg) &&& (((y ^^^ (-1 : Int32)) <<< ((20 : Int32) &&& 31)) ^^^ (-1 : Int32))) gd (bC_isOpenWithTag tg ad mt r)) (cwV 4 hq (wA_V q_232 q_234 sC_become q_1 q_235) rfl rfl rfl (by decide +kernel) ⟨Nat.le_of_ble_eq_true rfl, Nat.le_of_ble_eq_true rfl⟩) (zw_pre (c := zCl[0]) (q0 := 0) hK hP hD rfl rfl) rfl rfl hl.1 rfl (lv_room (Nat.le_of_ble_eq_true rfl)) dC_keep_56 ⟨Nat.le_of_ble_eq_true rfl, Nat.le_of_ble_eq_true rfl⟩) hS (fun _ _ h9 => h9) (fun _ h9 => h9) (fun v9 u9 t9 H locs ht9 hvm9 hv9 hB9 hz9 hk9 hS => ?_)
      obtain ⟨hP, -, hD⟩ := hB9
      rw [ht9] at hP
      subst hv9
      clear hz9 hk9
      refine vx_ret (W.widen (k := 1) (n := 6) (by decide) (by decide) ?_)
      exact W.zret (v := zSr d (fC_isOpenWithTag tg ad mt r)) hx hb hr (zz_nar (zSr_b (bC_isOpenWithTag tg ad mt r))) (fun t9 ht hW => ⟨⟨_, (), rfl, ⟨(by unfold xC_keep; rw [if_neg h1, if_neg h2]), (rfl)⟩, by rw [ht]; exact hP, va_K.moved hW.alike hK, hD⟩, hS.F ht⟩) hS.2.2 dC_keep_59
    · exact vx_throwS (rest := []) (names := xUp) (A := A) hx hb hl0 hown (by decide +kernel) (by decide +kernel) (hq _ q_109) (hq _ q_6) hX.2.2.2.2.2.2.2.1.choose_spec (x_all hq x_good39 x_bad39 hX.2.1.1 hX.2.2.2.1.1 hX.2.2.2.1.2.1 hX.2.2.2.1.2.2) x_ot39 hX.1.1 hX.1.2 hS (hl.1.trans hml.symm) dC_keep_14 dC_keep_17 dC_keep_18 dC_keep_20 dC_keep_23 (fun x h9 => (hnt x h9).elim) (Nat.le_of_ble_eq_true rfl) (Nat.le_of_ble_eq_true rfl) (Nat.le_of_ble_eq_true rfl) (Nat.le_of_ble_eq_true rfl) hlocks (fun t9 ha hz hk9 => ⟨(), trivial, ⟨Or.inl ⟨rfl, (by unfold xC_keep; rw [if_neg h1, if_pos h2])⟩, hP.kept (fun _ q9 hq9 => hk9 q9.1 (vx_lt hP hq9)), va_K.moved ha hK⟩, hz, fun q9 h1 _ => hk9 q9 h1⟩) hS.2.2 (by decide) (by decide)
def tC_narrow (tg : Nat → Int32) (ad : Nat → Int32) (mt : Nat → Int32) (d : Int32) (r : Int32) (n : Int32) (y : Int32) : Int32 := if (fC_isOpenWithTag tg ad mt r) = 0 then (0 : Int32) else (if (fC_isInBounds tg ad mt r (fC_unsigned (ad r.toNatClampNeg)) (fC_unsigned n)) = 0 then (0 : Int32) else (if y = 0 then (1 : Int32) else (if ((fC_packed (fC_unsigned (ad r.toNatClampNeg)) (if (4294967296 : Int64) < ((fC_unsigned (ad r.toNatClampNeg)) + (fC_unsigned n)) then (4294967296 : Int64) else ((fC_unsigned (ad r.toNatClampNeg)) + (fC_unsigned n)))) &&& (32768 : Int32)) = 0 then (0 : Int32) else (1 : Int32))))
theorem btC_narrow (tg : Nat → Int32) (ad : Nat → Int32) (mt : Nat → Int32) (d : Int32) (r : Int32) (n : Int32) (y : Int32) : tC_narrow tg ad mt d r n y = 0 ∨ tC_narrow tg ad mt d r n y = 1 := by
  unfold tC_narrow
  repeat' split
  all_goals first | exact Or.inl rfl | exact Or.inr rfl
def xC_narrow (tg : Nat → Int32) (ad : Nat → Int32) (mt : Nat → Int32) (d : Int32) (r : Int32) (n : Int32) (y : Int32) : Int32 := if (fC_isRegister r) = 0 then 1 else (if (fC_isRegister d) = 0 then 1 else 0)
set_option maxHeartbeats 4000000 in
set_option maxRecDepth 100000 in
theorem kC_narrow (l : Launch) (hl0 : l.stackTraces = false) {D : va_G} {q : Nat → Nat} {k : Nat → ClassId} {tg : Nat → Int32} {ad : Nat → Int32} {mt : Nat → Int32} {rb : Nat → Int64} {rt : Nat → Int64} {rp : Nat → Int32} {nr : Int32} {A : Nat → Prop} (d : Int32) (r : Int32) (n : Int32) (y : Int32) : vx_Met l yC_narrow wC_narrow { frames := 6, cells := 1, slots := 6, locals := 123 } (va_Pc [.ref (q 0), .int d, .int r, .int n, .int y] (fun U => va_P D zCl (cW q k tg ad mt rb rt rp nr) U.heap ∧ va_K D zCl (zT k) U ∧ va_D A (cW q k tg ad mt rb rt rp nr) ∧ zX A U U.heap)) (va_Qi (fun v9 (_ : Unit) => xC_narrow tg ad mt d r n y = 0 ∧ v9 = zSr d (tC_narrow tg ad mt d r n y)) (fun _ t => va_P D zCl (cW q k (zS d (tC_narrow tg ad mt d r n y) tg) (zS d (ad r.toNatClampNeg) ad) (zS d (((mt r.toNatClampNeg) &&& (-32768 : Int32)) ||| ((fC_packed (fC_unsigned (ad r.toNatClampNeg)) (if (4294967296 : Int64) < ((fC_unsigned (ad r.toNatClampNeg)) + (fC_unsigned n)) then (4294967296 : Int64) else ((fC_unsigned (ad r.toNatClampNeg)) + (fC_unsigned n)))) &&& (32767 : Int32))) mt) rb rt rp nr) t.heap ∧ va_K D zCl (zT k) t ∧ va_D A (cW q k (zS d (tC_narrow tg ad mt d r n y) tg) (zS d (ad r.toNatClampNeg) ad) (zS d (((mt r.toNatClampNeg) &&& (-32768 : Int32)) ||| ((fC_packed (fC_unsigned (ad r.toNatClampNeg)) (if (4294967296 : Int64) < ((fC_unsigned (ad r.toNatClampNeg)) + (fC_unsigned n)) then (4294967296 : Int64) else ((fC_unsigned (ad r.toNatClampNeg)) + (fC_unsigned n)))) &&& (32767 : Int32))) mt) rb rt rp nr)) A) (vx_X (fun _ : Unit => True) (fun E _ t => zE E (xC_narrow tg ad mt d r n y) ∧ va_P D zCl (cW q k tg ad mt rb rt rp nr) t.heap ∧ va_K D zCl (zT k) t) A) 1 6 A := by
  refine vx_ofW (cc := cC_narrow) (maxL := 11) (ret := (some .boolean)) (by decide) rfl ?_
  intro p e s m args below meth c s₁ B hml hnt hv
  obtain ⟨rfl, hP, hK, hD, hX⟩ := hv
  have hx := B.exec
  have hb := B.bytes
  have hr := B.returns
  have hts := atoms_spec (ws := wC_narrow) B.pre
  have hq : ∀ w ∈ wA, w.before _ s = true := fun w h => hts w (List.mem_cons_of_mem _ h)
  have hown : s.vm.findClass "CapUnit" = some m.cls := findClass_of_methodNamed B.named
  have hlocks := B.notSynchronized
  have hS : va_S A s.heap s.heap [] := va_S.rf
  have hl := lv_entry ([.ref (q 0), .int d, .int r, .int n, .int y]) (n := 11) (Nat.le_of_ble_eq_true rfl)
  rw [lg_entry_eq]
  generalize (lg_sl ([.ref (q 0), .int d, .int r, .int n, .int y]) ++ List.replicate (11 - (lg_sl ([.ref (q 0), .int d, .int r, .int n, .int y])).length) Slot.unset).toArray = ls at hl ⊢
  have hl : lv_has ls 11 [(0, .ref (q 0)), (1, .int d), (2, .int r), (3, .int n), (4, .int y)] := hl
  refine lv_iload_n hx hb dC_narrow_0 rfl (lv_at hl 2 rfl) ?_
  refine zc_i (va_runS (As := [.int r]) (rest := []) ⟨hx, hb, hml, hown, hq⟩ (kC_isRegister l s.heap r) (va_cwS 1 hq (wA_S q_243 q_244 q_1 q_245) rfl rfl rfl (by decide +kernel) ⟨Nat.le_of_ble_eq_true rfl, Nat.le_of_ble_eq_true rfl⟩) ⟨fun a U g mk q => q, fun U hU hW => ⟨rfl, hU⟩⟩ rfl rfl hl.1 rfl (lv_room (Nat.le_of_ble_eq_true rfl)) dC_narrow_1 ⟨Nat.zero_le _, Nat.zero_le _⟩) hS (fun locs hS => ?_)
  refine lv_if_eq (tgt := 14) hx hb dC_narrow_4 rfl (fun h1 => ?_) (fun h1 => ?_)
  · exact vx_throwS (rest := []) (names := xUp) (A := A) hx hb hl0 hown (by decide +kernel) (by decide +kernel) (hq _ q_109) (hq _ q_6) hX.2.2.2.2.2.2.2.1.choose_spec (x_all hq x_good39 x_bad39 hX.2.1.1 hX.2.2.2.1.1 hX.2.2.2.1.2.1 hX.2.2.2.1.2.2) x_ot39 hX.1.1 hX.1.2 hS (hl.1.trans hml.symm) dC_narrow_14 dC_narrow_17 dC_narrow_18 dC_narrow_20 dC_narrow_23 (fun x h9 => (hnt x h9).elim) (Nat.le_of_ble_eq_true rfl) (Nat.le_of_ble_eq_true rfl) (Nat.le_of_ble_eq_true rfl) (Nat.le_of_ble_eq_true rfl) hlocks (fun t9 ha hz hk9 => ⟨(), trivial, ⟨Or.inl ⟨rfl, (by unfold xC_narrow; rw [if_pos h1])⟩, hP.kept (fun _ q9 hq9 => hk9 q9.1 (vx_lt hP hq9)), va_K.moved ha hK⟩, hz, fun q9 h1 _ => hk9 q9 h1⟩) hS.2.2 (by decide) (by decide)
  · have gr := zz_reg h1
    refine lv_iload_n hx hb dC_narrow_7 rfl (lv_at hl 1 rfl) ?_
    refine zc_i (va_runS (As := [.int d]) (rest := []) ⟨hx, hb, hml, hown, hq⟩ (kC_isRegister l s.heap d) (va_cwS 1 hq (wA_S q_243 q_244 q_1 q_245) rfl rfl rfl (by decide +kernel) ⟨Nat.le_of_ble_eq_true rfl, Nat.le_of_ble_eq_true rfl⟩) ⟨fun a U g mk q => q, fun U hU hW => ⟨rfl, hU⟩⟩ rfl rfl hl.1 rfl (lv_room (Nat.le_of_ble_eq_true rfl)) dC_narrow_8 ⟨Nat.zero_le _, Nat.zero_le _⟩) hS (fun locs hS => ?_)
    refine lv_if_ne (tgt := 24) hx hb dC_narrow_11 rfl (fun h2 => ?_) (fun h2 => ?_)
    · have gd := zz_reg h2
      refine lv_aload_n hx hb dC_narrow_24 rfl (lv_at hl 0 rfl) ?_
      refine va_get (D := D) (ci := 0) (v := .ref (q 2)) (C := "CapUnit") (T := TC) (N := 7) hx hb hq uC_in hown hK hP 0 rfl rfl 1 (by decide) (hq _ q_20) (fun _ h9 => h9) rfl dC_narrow_25 ?_
      refine lv_iload_n hx hb dC_narrow_28 rfl (lv_at hl 2 rfl) ?_
      refine va_iald hx hb hK hP 2 1 rfl rfl (i := r) gr dC_narrow_29 ?_
      refine zc_l (va_runS (As := [.int (ad r.toNatClampNeg)]) (rest := []) ⟨hx, hb, hml, hown, hq⟩ (kC_unsigned l s.heap (ad r.toNatClampNeg)) (va_cwS 1 hq (wA_S q_63 q_64 q_1 q_65) rfl rfl rfl (by decide +kernel) ⟨Nat.le_of_ble_eq_true rfl, Nat.le_of_ble_eq_true rfl⟩) ⟨fun a U g mk q => q, fun U hU hW => ⟨rfl, hU⟩⟩ rfl rfl hl.1 rfl (lv_room (Nat.le_of_ble_eq_true rfl)) dC_narrow_30 ⟨Nat.zero_le _, Nat.zero_le _⟩) hS (fun locs hS => ?_)
      refine lv_lstore (lv' := [(5, .long (fC_unsigned (ad r.toNatClampNeg))), (0, .ref (q 0)), (1, .int d), (2, .int r), (3, .int n), (4, .int y)]) hx hb dC_narrow_33 hl (by decide) rfl (fun ls hl => ?_)
      refine lv_iload_n hx hb dC_narrow_35 rfl (lv_at hl 4 rfl) ?_
      refine zc_l (va_runS (As := [.int n]) (rest := []) ⟨hx, hb, hml, hown, hq⟩ (kC_unsigned l s.heap n) (va_cwS 1 hq (wA_S q_63 q_64 q_1 q_65) rfl rfl rfl (by decide +kernel) ⟨Nat.le_of_ble_eq_true rfl, Nat.le_of_ble_eq_true rfl⟩) ⟨fun a U g mk q => q, fun U hU hW => ⟨rfl, hU⟩⟩ rfl rfl hl.1 rfl (lv_room (Nat.le_of_ble_eq_true rfl)) dC_narrow_36 ⟨Nat.zero_le _, Nat.zero_le _⟩) hS (fun locs hS => ?_)
      refine lv_lstore (lv' := [(7, .long (fC_unsigned n)), (5, .long (fC_unsigned (ad r.toNatClampNeg))), (0, .ref (q 0)), (1, .int d), (2, .int r), (3, .int n), (4, .int y)]) hx hb dC_narrow_39 hl (by decide) rfl (fun ls hl => ?_)
      refine lv_lload hx hb dC_narrow_41 (lv_at hl 1 rfl) ?_
      refine lv_lload hx hb dC_narrow_43 (lv_at hl 1 rfl) ?_
      refine lv_lload hx hb dC_narrow_45 (lv_at hl 0 rfl) ?_
      refine lv_ladd hx hb dC_narrow_47 ?_
      refine lv_ldc2 (v := 4294967296) hx hb hown (hts (.constantLong "CapUnit" 81 4294967296) (by decide +kernel)) dC_narrow_48 ?_
      refine va_mmin_long hx hb (hml.trans hl.1.symm) hown (hq _ q_254) (hq _ q_255) (hq _ q_9) (hq _ q_256) (Nat.le_of_ble_eq_true rfl) (Nat.le_of_ble_eq_true rfl) (Nat.le_of_ble_eq_true rfl) (Nat.le_of_ble_eq_true rfl) dC_narrow_51 ?_
      refine zc_i (va_runS (As := [.long (fC_unsigned (ad r.toNatClampNeg)), .long (if (4294967296 : Int64) < ((fC_unsigned (ad r.toNatClampNeg)) + (fC_unsigned n)) then (4294967296 : Int64) else ((fC_unsigned (ad r.toNatClampNeg)) + (fC_unsigned n)))]) (rest := []) ⟨hx, hb, hml, hown, hq⟩ (kC_packed l s.heap (fC_unsigned (ad r.toNatClampNeg)) (if (4294967296 : Int64) < ((fC_unsigned (ad r.toNatClampNeg)) + (fC_unsigned n)) then (4294967296 : Int64) else ((fC_unsigned (ad r.toNatClampNeg)) + (fC_unsigned n)))) (va_cwS 2 hq (wA_S q_212 q_213 q_1 q_214) rfl rfl rfl (by decide +kernel) ⟨Nat.le_of_ble_eq_true rfl, Nat.le_of_ble_eq_true rfl⟩) ⟨fun a U g mk q => q, fun U hU hW => ⟨rfl, hU⟩⟩ rfl rfl hl.1 rfl (lv_room (Nat.le_of_ble_eq_true rfl)) dC_narrow_54 ⟨Nat.zero_le _, Nat.zero_le _⟩) hS (fun locs hS => ?_)
      refine lv_istore (lv' := [(9, .int (fC_packed (fC_unsigned (ad r.toNatClampNeg)) (if (4294967296 : Int64) < ((fC_unsigned (ad r.toNatClampNeg)) + (fC_unsigned n)) then (4294967296 : Int64) else ((fC_unsigned (ad r.toNatClampNeg)) + (fC_unsigned n))))), (7, .long (fC_unsigned n)), (5, .long (fC_unsigned (ad r.toNatClampNeg))), (0, .ref (q 0)), (1, .int d), (2, .int r), (3, .int n), (4, .int y)]) hx hb dC_narrow_57 hl (by decide) rfl (fun ls hl => ?_)
      refine zj_i (A0 := A) (H0 := s.heap) (tC_narrow tg ad mt d r n y) 97 [] (fun locs hS => ?_) (fun J9 => ?_)
      · refine lv_istore (lv' := [(10, .int (tC_narrow tg ad mt d r n y)), (9, .int (fC_packed (fC_unsigned (ad r.toNatClampNeg)) (if (4294967296 : Int64) < ((fC_unsigned (ad r.toNatClampNeg)) + (fC_unsigned n)) then (4294967296 : Int64) else ((fC_unsigned (ad r.toNatClampNeg)) + (fC_unsigned n))))), (7, .long (fC_unsigned n)), (5, .long (fC_unsigned (ad r.toNatClampNeg))), (0, .ref (q 0)), (1, .int d), (2, .int r), (3, .int n), (4, .int y)]) hx hb dC_narrow_97 hl (by decide) rfl (fun ls hl => ?_)
        refine lv_aload_n hx hb dC_narrow_99 rfl (lv_at hl 4 rfl) ?_
        refine lv_iload_n hx hb dC_narrow_100 rfl (lv_at hl 5 rfl) ?_
        refine lv_iload hx hb dC_narrow_101 (lv_at hl 0 rfl) ?_
        refine lv_aload_n hx hb dC_narrow_103 rfl (lv_at hl 4 rfl) ?_
        refine va_get (D := D) (ci := 0) (v := .ref (q 2)) (C := "CapUnit") (T := TC) (N := 7) hx hb hq uC_in hown hK hP 0 rfl rfl 1 (by decide) (hq _ q_20) (fun _ h9 => h9) rfl dC_narrow_104 ?_
        refine lv_iload_n hx hb dC_narrow_107 rfl (lv_at hl 6 rfl) ?_
        refine va_iald hx hb hK hP 2 1 rfl rfl (i := r) gr dC_narrow_108 ?_
        refine lv_aload_n hx hb dC_narrow_109 rfl (lv_at hl 4 rfl) ?_
        refine va_get (D := D) (ci := 0) (v := .ref (q 3)) (C := "CapUnit") (T := TC) (N := 7) hx hb hq uC_in hown hK hP 0 rfl rfl 2 (by decide) (hq _ q_21) (fun _ h9 => h9) rfl dC_narrow_110 ?_
        refine lv_iload_n hx hb dC_narrow_113 rfl (lv_at hl 6 rfl) ?_
        refine va_iald hx hb hK hP 3 1 rfl rfl (i := r) gr dC_narrow_114 ?_
        refine lv_sipush (v := -32768) hx hb dC_narrow_115 (by decide) ?_
        refine lv_iand hx hb dC_narrow_118 ?_
        refine lv_iload hx hb dC_narrow_119 (lv_at hl 1 rfl) ?_
        refine lv_sipush (v := 32767) hx hb dC_narrow_121 (by decide) ?_
        refine lv_iand hx hb dC_narrow_124 ?_
        refine lv_ior hx hb dC_narrow_125 ?_
        refine va_calli (va_runV (C := "CapUnit") (b := q 0) (As := [.int d, .int (tC_narrow tg ad mt d r n y), .int (ad r.toNatClampNeg), .int (((mt r.toNatClampNeg) &&& (-32768 : Int32)) ||| ((fC_packed (fC_unsigned (ad r.toNatClampNeg)) (if (4294967296 : Int64) < ((fC_unsigned (ad r.toNatClampNeg)) + (fC_unsigned n)) then (4294967296 : Int64) else ((fC_unsigned (ad r.toNatClampNeg)) + (fC_unsigned n)))) &&& (32767 : Int32)))]) (rest := []) ⟨hx, hb, hml, hown, hq⟩ (kC_become l d (tC_narrow tg ad mt d r n y) (ad r.toNatClampNeg) (((mt r.toNatClampNeg) &&& (-32768 : Int32)) ||| ((fC_packed (fC_unsigned (ad r.toNatClampNeg)) (if (4294967296 : Int64) < ((fC_unsigned (ad r.toNatClampNeg)) + (fC_unsigned n)) then (4294967296 : Int64) else ((fC_unsigned (ad r.toNatClampNeg)) + (fC_unsigned n)))) &&& (32767 : Int32))) gd (btC_narrow tg ad mt d r n y)) (cwV 4 hq (wA_V q_232 q_234 sC_become q_1 q_235) rfl rfl rfl (by decide +kernel) ⟨Nat.le_of_ble_eq_true rfl, Nat.le_of_ble_eq_true rfl⟩) (zw_pre (c := zCl[0]) (q0 := 0) hK hP hD rfl rfl) rfl rfl hl.1 rfl (lv_room (Nat.le_of_ble_eq_true rfl)) dC_narrow_126 ⟨Nat.le_of_ble_eq_true rfl, Nat.le_of_ble_eq_true rfl⟩) hS (fun _ _ h9 => h9) (fun _ h9 => h9) (fun v9 u9 t9 H locs ht9 hvm9 hv9 hB9 hz9 hk9 hS => ?_)
        obtain ⟨hP, -, hD⟩ := hB9
        rw [ht9] at hP
        subst hv9
        clear hz9 hk9
        refine vx_ret (W.widen (k := 1) (n := 6) (by decide) (by decide) ?_)
        exact W.zret (v := zSr d (tC_narrow tg ad mt d r n y)) hx hb hr (zz_nar (zSr_b (btC_narrow tg ad mt d r n y))) (fun t9 ht hW => ⟨⟨_, (), rfl, ⟨(by unfold xC_narrow; rw [if_neg h1, if_neg h2]), (rfl)⟩, by rw [ht]; exact hP, va_K.moved hW.alike hK, hD⟩, hS.F ht⟩) hS.2.2 dC_narrow_129
      · refine lv_aload_n hx hb dC_narrow_59 rfl (lv_at hl 3 rfl) ?_
        refine lv_iload_n hx hb dC_narrow_60 rfl (lv_at hl 5 rfl) ?_
        refine zc_i (va_runV (C := "CapUnit") (b := q 0) (As := [.int r]) (rest := []) ⟨hx, hb, hml, hown, hq⟩ (kC_isOpenWithTag l hP r gr) (cwV 1 hq (wA_V q_257 q_259 sC_isOpenWithTag q_1 q_260) rfl rfl rfl (by decide +kernel) ⟨Nat.le_of_ble_eq_true rfl, Nat.le_of_ble_eq_true rfl⟩) (zr_pre (c := zCl[0]) (q0 := 0) hK hP rfl rfl) rfl rfl hl.1 rfl (lv_room (Nat.le_of_ble_eq_true rfl)) dC_narrow_61 ⟨Nat.le_of_ble_eq_true rfl, Nat.le_of_ble_eq_true rfl⟩) hS (fun locs hS => ?_)
        refine lv_if_eq (tgt := 96) hx hb dC_narrow_64 rfl (fun h3 => ?_) (fun h3 => ?_)
        · refine lv_iconst (v := 0) hx hb dC_narrow_96 (by decide) ?_
          exact J9 _ _ (by unfold tC_narrow; rw [if_pos h3]) hS
        · refine lv_aload_n hx hb dC_narrow_67 rfl (lv_at hl 3 rfl) ?_
          refine lv_iload_n hx hb dC_narrow_68 rfl (lv_at hl 5 rfl) ?_
          refine lv_lload hx hb dC_narrow_69 (lv_at hl 2 rfl) ?_
          refine lv_lload hx hb dC_narrow_71 (lv_at hl 1 rfl) ?_
          refine zc_i (va_runV (C := "CapUnit") (b := q 0) (As := [.int r, .long (fC_unsigned (ad r.toNatClampNeg)), .long (fC_unsigned n)]) (rest := []) ⟨hx, hb, hml, hown, hq⟩ (kC_isInBounds l hP r (fC_unsigned (ad r.toNatClampNeg)) (fC_unsigned n) gr) (cwV 3 hq (wA_V q_264 q_266 sC_isInBounds q_1 q_267) rfl rfl rfl (by decide +kernel) ⟨Nat.le_of_ble_eq_true rfl, Nat.le_of_ble_eq_true rfl⟩) (zr_pre (c := zCl[0]) (q0 := 0) hK hP rfl rfl) rfl rfl hl.1 rfl (lv_room (Nat.le_of_ble_eq_true rfl)) dC_narrow_73 ⟨Nat.le_of_ble_eq_true rfl, Nat.le_of_ble_eq_true rfl⟩) hS (fun locs hS => ?_)
          refine lv_if_eq (tgt := 96) hx hb dC_narrow_76 rfl (fun h4 => ?_) (fun h4 => ?_)
          · refine lv_iconst (v := 0) hx hb dC_narrow_96 (by decide) ?_
            exact J9 _ _ (by unfold tC_narrow; rw [if_neg h3, if_pos h4]) hS
          · refine lv_iload hx hb dC_narrow_79 (lv_at hl 7 rfl) ?_
            refine lv_if_eq (tgt := 92) hx hb dC_narrow_81 rfl (fun h5 => ?_) (fun h5 => ?_)
            · refine lv_iconst (v := 1) hx hb dC_narrow_92 (by decide) ?_
              refine lv_goto (tgt := 97) hx hb dC_narrow_93 rfl ?_
              exact J9 _ _ (by unfold tC_narrow; rw [if_neg h3, if_neg h4, if_pos h5]) hS
            · refine lv_iload hx hb dC_narrow_84 (lv_at hl 0 rfl) ?_
              refine lv_ldc (v := 32768) hx hb hown (hts (.constant "CapUnit" 96 32768) (by decide +kernel)) dC_narrow_86 ?_
              refine lv_iand hx hb dC_narrow_88 ?_
              refine lv_if_eq (tgt := 96) hx hb dC_narrow_89 rfl (fun h6 => ?_) (fun h6 => ?_)
              · refine lv_iconst (v := 0) hx hb dC_narrow_96 (by decide) ?_
                exact J9 _ _ (by unfold tC_narrow; rw [if_neg h3, if_neg h4, if_neg h5, if_pos h6]) hS
              · refine lv_iconst (v := 1) hx hb dC_narrow_92 (by decide) ?_
                refine lv_goto (tgt := 97) hx hb dC_narrow_93 rfl ?_
                exact J9 _ _ (by unfold tC_narrow; rw [if_neg h3, if_neg h4, if_neg h5, if_neg h6]) hS
    · exact vx_throwS (rest := []) (names := xUp) (A := A) hx hb hl0 hown (by decide +kernel) (by decide +kernel) (hq _ q_109) (hq _ q_6) hX.2.2.2.2.2.2.2.1.choose_spec (x_all hq x_good39 x_bad39 hX.2.1.1 hX.2.2.2.1.1 hX.2.2.2.1.2.1 hX.2.2.2.1.2.2) x_ot39 hX.1.1 hX.1.2 hS (hl.1.trans hml.symm) dC_narrow_14 dC_narrow_17 dC_narrow_18 dC_narrow_20 dC_narrow_23 (fun x h9 => (hnt x h9).elim) (Nat.le_of_ble_eq_true rfl) (Nat.le_of_ble_eq_true rfl) (Nat.le_of_ble_eq_true rfl) (Nat.le_of_ble_eq_true rfl) hlocks (fun t9 ha hz hk9 => ⟨(), trivial, ⟨Or.inl ⟨rfl, (by unfold xC_narrow; rw [if_neg h1, if_pos h2])⟩, hP.kept (fun _ q9 hq9 => hk9 q9.1 (vx_lt hP hq9)), va_K.moved ha hK⟩, hz, fun q9 h1 _ => hk9 q9 h1⟩) hS.2.2 (by decide) (by decide)
def tC_moveS (tg : Nat → Int32) (ad : Nat → Int32) (mt : Nat → Int32) (d : Int32) (r : Int32) (x : Int32) : Int32 := if (fC_baseOf (mt r.toNatClampNeg) x) = (fC_baseIn tg ad mt r) then (if (fC_topOf (mt r.toNatClampNeg) x) = (fC_topIn tg ad mt r) then (1 : Int32) else (0 : Int32)) else (0 : Int32)
theorem btC_moveS (tg : Nat → Int32) (ad : Nat → Int32) (mt : Nat → Int32) (d : Int32) (r : Int32) (x : Int32) : tC_moveS tg ad mt d r x = 0 ∨ tC_moveS tg ad mt d r x = 1 := by
  unfold tC_moveS
  repeat' split
  all_goals first | exact Or.inl rfl | exact Or.inr rfl
def tC_move (tg : Nat → Int32) (ad : Nat → Int32) (mt : Nat → Int32) (d : Int32) (r : Int32) (x : Int32) : Int32 := if (fC_isOpenWithTag tg ad mt r) = 0 then (0 : Int32) else (if (tC_moveS tg ad mt d r x) = 0 then (0 : Int32) else (1 : Int32))
theorem btC_move (tg : Nat → Int32) (ad : Nat → Int32) (mt : Nat → Int32) (d : Int32) (r : Int32) (x : Int32) : tC_move tg ad mt d r x = 0 ∨ tC_move tg ad mt d r x = 1 := by
  unfold tC_move
  repeat' split
  all_goals first | exact Or.inl rfl | exact Or.inr rfl
def xC_move (tg : Nat → Int32) (ad : Nat → Int32) (mt : Nat → Int32) (d : Int32) (r : Int32) (x : Int32) : Int32 := if (fC_isRegister r) = 0 then 1 else (if (fC_isRegister d) = 0 then 1 else 0)
set_option maxHeartbeats 4000000 in
set_option maxRecDepth 100000 in
theorem kC_move (l : Launch) (hl0 : l.stackTraces = false) {D : va_G} {q : Nat → Nat} {k : Nat → ClassId} {tg : Nat → Int32} {ad : Nat → Int32} {mt : Nat → Int32} {rb : Nat → Int64} {rt : Nat → Int64} {rp : Nat → Int32} {nr : Int32} {A : Nat → Prop} (d : Int32) (r : Int32) (x : Int32) : vx_Met l yC_move wC_move { frames := 6, cells := 1, slots := 6, locals := 98 } (va_Pc [.ref (q 0), .int d, .int r, .int x] (fun U => va_P D zCl (cW q k tg ad mt rb rt rp nr) U.heap ∧ va_K D zCl (zT k) U ∧ va_D A (cW q k tg ad mt rb rt rp nr) ∧ zX A U U.heap)) (va_Qi (fun v9 (_ : Unit) => xC_move tg ad mt d r x = 0 ∧ v9 = zSr d (tC_move tg ad mt d r x)) (fun _ t => va_P D zCl (cW q k (zS d (tC_move tg ad mt d r x) tg) (zS d x ad) (zS d (mt r.toNatClampNeg) mt) rb rt rp nr) t.heap ∧ va_K D zCl (zT k) t ∧ va_D A (cW q k (zS d (tC_move tg ad mt d r x) tg) (zS d x ad) (zS d (mt r.toNatClampNeg) mt) rb rt rp nr)) A) (vx_X (fun _ : Unit => True) (fun E _ t => zE E (xC_move tg ad mt d r x) ∧ va_P D zCl (cW q k tg ad mt rb rt rp nr) t.heap ∧ va_K D zCl (zT k) t) A) 1 6 A := by
  refine vx_ofW (cc := cC_move) (maxL := 6) (ret := (some .boolean)) (by decide) rfl ?_
  intro p e s m args below meth c s₁ B hml hnt hv
  obtain ⟨rfl, hP, hK, hD, hX⟩ := hv
  have hx := B.exec
  have hb := B.bytes
  have hr := B.returns
  have hts := atoms_spec (ws := wC_move) B.pre
  have hq : ∀ w ∈ wA, w.before _ s = true := fun w h => hts w (List.mem_cons_of_mem _ h)
  have hown : s.vm.findClass "CapUnit" = some m.cls := findClass_of_methodNamed B.named
  have hlocks := B.notSynchronized
  have hS : va_S A s.heap s.heap [] := va_S.rf
  have hl := lv_entry ([.ref (q 0), .int d, .int r, .int x]) (n := 6) (Nat.le_of_ble_eq_true rfl)
  rw [lg_entry_eq]
  generalize (lg_sl ([.ref (q 0), .int d, .int r, .int x]) ++ List.replicate (6 - (lg_sl ([.ref (q 0), .int d, .int r, .int x])).length) Slot.unset).toArray = ls at hl ⊢
  have hl : lv_has ls 6 [(0, .ref (q 0)), (1, .int d), (2, .int r), (3, .int x)] := hl
  refine lv_iload_n hx hb dC_move_0 rfl (lv_at hl 2 rfl) ?_
  refine zc_i (va_runS (As := [.int r]) (rest := []) ⟨hx, hb, hml, hown, hq⟩ (kC_isRegister l s.heap r) (va_cwS 1 hq (wA_S q_243 q_244 q_1 q_245) rfl rfl rfl (by decide +kernel) ⟨Nat.le_of_ble_eq_true rfl, Nat.le_of_ble_eq_true rfl⟩) ⟨fun a U g mk q => q, fun U hU hW => ⟨rfl, hU⟩⟩ rfl rfl hl.1 rfl (lv_room (Nat.le_of_ble_eq_true rfl)) dC_move_1 ⟨Nat.zero_le _, Nat.zero_le _⟩) hS (fun locs hS => ?_)
  refine lv_if_eq (tgt := 14) hx hb dC_move_4 rfl (fun h1 => ?_) (fun h1 => ?_)
  · exact vx_throwS (rest := []) (names := xUp) (A := A) hx hb hl0 hown (by decide +kernel) (by decide +kernel) (hq _ q_109) (hq _ q_6) hX.2.2.2.2.2.2.2.1.choose_spec (x_all hq x_good39 x_bad39 hX.2.1.1 hX.2.2.2.1.1 hX.2.2.2.1.2.1 hX.2.2.2.1.2.2) x_ot39 hX.1.1 hX.1.2 hS (hl.1.trans hml.symm) dC_move_14 dC_move_17 dC_move_18 dC_move_20 dC_move_23 (fun x h9 => (hnt x h9).elim) (Nat.le_of_ble_eq_true rfl) (Nat.le_of_ble_eq_true rfl) (Nat.le_of_ble_eq_true rfl) (Nat.le_of_ble_eq_true rfl) hlocks (fun t9 ha hz hk9 => ⟨(), trivial, ⟨Or.inl ⟨rfl, (by unfold xC_move; rw [if_pos h1])⟩, hP.kept (fun _ q9 hq9 => hk9 q9.1 (vx_lt hP hq9)), va_K.moved ha hK⟩, hz, fun q9 h1 _ => hk9 q9 h1⟩) hS.2.2 (by decide) (by decide)
  · have gr := zz_reg h1
    refine lv_iload_n hx hb dC_move_7 rfl (lv_at hl 1 rfl) ?_
    refine zc_i (va_runS (As := [.int d]) (rest := []) ⟨hx, hb, hml, hown, hq⟩ (kC_isRegister l s.heap d) (va_cwS 1 hq (wA_S q_243 q_244 q_1 q_245) rfl rfl rfl (by decide +kernel) ⟨Nat.le_of_ble_eq_true rfl, Nat.le_of_ble_eq_true rfl⟩) ⟨fun a U g mk q => q, fun U hU hW => ⟨rfl, hU⟩⟩ rfl rfl hl.1 rfl (lv_room (Nat.le_of_ble_eq_true rfl)) dC_move_8 ⟨Nat.zero_le _, Nat.zero_le _⟩) hS (fun locs hS => ?_)
    refine lv_if_ne (tgt := 24) hx hb dC_move_11 rfl (fun h2 => ?_) (fun h2 => ?_)
    · have gd := zz_reg h2
      refine lv_aload_n hx hb dC_move_24 rfl (lv_at hl 0 rfl) ?_
      refine va_get (D := D) (ci := 0) (v := .ref (q 3)) (C := "CapUnit") (T := TC) (N := 7) hx hb hq uC_in hown hK hP 0 rfl rfl 2 (by decide) (hq _ q_21) (fun _ h9 => h9) rfl dC_move_25 ?_
      refine lv_iload_n hx hb dC_move_28 rfl (lv_at hl 2 rfl) ?_
      refine va_iald hx hb hK hP 3 1 rfl rfl (i := r) gr dC_move_29 ?_
      refine lv_istore (lv' := [(4, .int (mt r.toNatClampNeg)), (0, .ref (q 0)), (1, .int d), (2, .int r), (3, .int x)]) hx hb dC_move_30 hl (by decide) rfl (fun ls hl => ?_)
      refine zj_i (A0 := A) (H0 := s.heap) (tC_moveS tg ad mt d r x) 67 [] (fun locs hS => ?_) (fun J9 => ?_)
      · refine lv_istore (lv' := [(5, .int (tC_moveS tg ad mt d r x)), (4, .int (mt r.toNatClampNeg)), (0, .ref (q 0)), (1, .int d), (2, .int r), (3, .int x)]) hx hb dC_move_67 hl (by decide) rfl (fun ls hl => ?_)
        refine lv_aload_n hx hb dC_move_69 rfl (lv_at hl 2 rfl) ?_
        refine lv_iload_n hx hb dC_move_70 rfl (lv_at hl 3 rfl) ?_
        refine zj_i (A0 := A) (H0 := s.heap) (tC_move tg ad mt d r x) 89 [.int d, .ref (q 0)] (fun locs hS => ?_) (fun J9 => ?_)
        · refine lv_iload_n hx hb dC_move_89 rfl (lv_at hl 5 rfl) ?_
          refine lv_iload hx hb dC_move_90 (lv_at hl 1 rfl) ?_
          refine va_calli (va_runV (C := "CapUnit") (b := q 0) (As := [.int d, .int (tC_move tg ad mt d r x), .int x, .int (mt r.toNatClampNeg)]) (rest := []) ⟨hx, hb, hml, hown, hq⟩ (kC_become l d (tC_move tg ad mt d r x) x (mt r.toNatClampNeg) gd (btC_move tg ad mt d r x)) (cwV 4 hq (wA_V q_232 q_234 sC_become q_1 q_235) rfl rfl rfl (by decide +kernel) ⟨Nat.le_of_ble_eq_true rfl, Nat.le_of_ble_eq_true rfl⟩) (zw_pre (c := zCl[0]) (q0 := 0) hK hP hD rfl rfl) rfl rfl hl.1 rfl (lv_room (Nat.le_of_ble_eq_true rfl)) dC_move_92 ⟨Nat.le_of_ble_eq_true rfl, Nat.le_of_ble_eq_true rfl⟩) hS (fun _ _ h9 => h9) (fun _ h9 => h9) (fun v9 u9 t9 H locs ht9 hvm9 hv9 hB9 hz9 hk9 hS => ?_)
          obtain ⟨hP, -, hD⟩ := hB9
          rw [ht9] at hP
          subst hv9
          clear hz9 hk9
          refine vx_ret (W.widen (k := 1) (n := 6) (by decide) (by decide) ?_)
          exact W.zret (v := zSr d (tC_move tg ad mt d r x)) hx hb hr (zz_nar (zSr_b (btC_move tg ad mt d r x))) (fun t9 ht hW => ⟨⟨_, (), rfl, ⟨(by unfold xC_move; rw [if_neg h1, if_neg h2]), (rfl)⟩, by rw [ht]; exact hP, va_K.moved hW.alike hK, hD⟩, hS.F ht⟩) hS.2.2 dC_move_95
        · refine lv_aload_n hx hb dC_move_71 rfl (lv_at hl 2 rfl) ?_
          refine lv_iload_n hx hb dC_move_72 rfl (lv_at hl 4 rfl) ?_
          refine zc_i (va_runV (C := "CapUnit") (b := q 0) (As := [.int r]) (rest := [.int d, .ref (q 0)]) ⟨hx, hb, hml, hown, hq⟩ (kC_isOpenWithTag l hP r gr) (cwV 1 hq (wA_V q_257 q_259 sC_isOpenWithTag q_1 q_260) rfl rfl rfl (by decide +kernel) ⟨Nat.le_of_ble_eq_true rfl, Nat.le_of_ble_eq_true rfl⟩) (zr_pre (c := zCl[0]) (q0 := 0) hK hP rfl rfl) rfl rfl hl.1 rfl (lv_room (Nat.le_of_ble_eq_true rfl)) dC_move_73 ⟨Nat.le_of_ble_eq_true rfl, Nat.le_of_ble_eq_true rfl⟩) hS (fun locs hS => ?_)
          refine lv_if_eq (tgt := 88) hx hb dC_move_76 rfl (fun h3 => ?_) (fun h3 => ?_)
          · refine lv_iconst (v := 0) hx hb dC_move_88 (by decide) ?_
            exact J9 _ _ (by unfold tC_move; rw [if_pos h3]) hS
          · refine lv_iload hx hb dC_move_79 (lv_at hl 0 rfl) ?_
            refine lv_if_eq (tgt := 88) hx hb dC_move_81 rfl (fun h4 => ?_) (fun h4 => ?_)
            · refine lv_iconst (v := 0) hx hb dC_move_88 (by decide) ?_
              exact J9 _ _ (by unfold tC_move; rw [if_neg h3, if_pos h4]) hS
            · refine lv_iconst (v := 1) hx hb dC_move_84 (by decide) ?_
              refine lv_goto (tgt := 89) hx hb dC_move_85 rfl ?_
              exact J9 _ _ (by unfold tC_move; rw [if_neg h3, if_neg h4]) hS
      · refine lv_iload hx hb dC_move_32 (lv_at hl 0 rfl) ?_
        refine lv_iload_n hx hb dC_move_34 rfl (lv_at hl 4 rfl) ?_
        refine zc_l (va_runS (As := [.int (mt r.toNatClampNeg), .int x]) (rest := []) ⟨hx, hb, hml, hown, hq⟩ (kC_baseOf l s.heap (mt r.toNatClampNeg) x) (va_cwS 2 hq (wA_S q_73 q_74 q_1 q_75) rfl rfl rfl (by decide +kernel) ⟨Nat.le_of_ble_eq_true rfl, Nat.le_of_ble_eq_true rfl⟩) ⟨fun a U g mk q => q, fun U hU hW => ⟨rfl, hU⟩⟩ rfl rfl hl.1 rfl (lv_room (Nat.le_of_ble_eq_true rfl)) dC_move_35 ⟨Nat.zero_le _, Nat.zero_le _⟩) hS (fun locs hS => ?_)
        refine lv_aload_n hx hb dC_move_38 rfl (lv_at hl 1 rfl) ?_
        refine lv_iload_n hx hb dC_move_39 rfl (lv_at hl 3 rfl) ?_
        refine zc_l (va_runV (C := "CapUnit") (b := q 0) (As := [.int r]) (rest := [.long (fC_baseOf (mt r.toNatClampNeg) x)]) ⟨hx, hb, hml, hown, hq⟩ (kC_baseIn l hP r gr) (cwV 1 hq (wA_V q_88 q_90 sC_baseIn q_1 q_91) rfl rfl rfl (by decide +kernel) ⟨Nat.le_of_ble_eq_true rfl, Nat.le_of_ble_eq_true rfl⟩) (zr_pre (c := zCl[0]) (q0 := 0) hK hP rfl rfl) rfl rfl hl.1 rfl (lv_room (Nat.le_of_ble_eq_true rfl)) dC_move_40 ⟨Nat.le_of_ble_eq_true rfl, Nat.le_of_ble_eq_true rfl⟩) hS (fun locs hS => ?_)
        refine W.lcmp hx hb dC_move_43 ?_
        refine lv_if_ne (tgt := 66) hx hb dC_move_44 rfl (fun h5 => ?_) (fun h5 => ?_)
        · have h5 := Not.imp h5 (lg_cmp_eq _ _).mpr
          refine lv_iconst (v := 0) hx hb dC_move_66 (by decide) ?_
          exact J9 _ _ (by unfold tC_moveS; rw [if_neg h5]) hS
        · have h5 := (lg_cmp_eq _ _).mp h5
          refine lv_iload hx hb dC_move_47 (lv_at hl 0 rfl) ?_
          refine lv_iload_n hx hb dC_move_49 rfl (lv_at hl 4 rfl) ?_
          refine zc_l (va_runS (As := [.int (mt r.toNatClampNeg), .int x]) (rest := []) ⟨hx, hb, hml, hown, hq⟩ (kC_topOf l s.heap (mt r.toNatClampNeg) x) (va_cwS 2 hq (wA_S q_48 q_49 q_1 q_50) rfl rfl rfl (by decide +kernel) ⟨Nat.le_of_ble_eq_true rfl, Nat.le_of_ble_eq_true rfl⟩) ⟨fun a U g mk q => q, fun U hU hW => ⟨rfl, hU⟩⟩ rfl rfl hl.1 rfl (lv_room (Nat.le_of_ble_eq_true rfl)) dC_move_50 ⟨Nat.zero_le _, Nat.zero_le _⟩) hS (fun locs hS => ?_)
          refine lv_aload_n hx hb dC_move_53 rfl (lv_at hl 1 rfl) ?_
          refine lv_iload_n hx hb dC_move_54 rfl (lv_at hl 3 rfl) ?_
          refine zc_l (va_runV (C := "CapUnit") (b := q 0) (As := [.int r]) (rest := [.long (fC_topOf (mt r.toNatClampNeg) x)]) ⟨hx, hb, hml, hown, hq⟩ (kC_topIn l hP r gr) (cwV 1 hq (wA_V q_92 q_94 sC_topIn q_1 q_95) rfl rfl rfl (by decide +kernel) ⟨Nat.le_of_ble_eq_true rfl, Nat.le_of_ble_eq_true rfl⟩) (zr_pre (c := zCl[0]) (q0 := 0) hK hP rfl rfl) rfl rfl hl.1 rfl (lv_room (Nat.le_of_ble_eq_true rfl)) dC_move_55 ⟨Nat.le_of_ble_eq_true rfl, Nat.le_of_ble_eq_true rfl⟩) hS (fun locs hS => ?_)
          refine W.lcmp hx hb dC_move_58 ?_
          refine lv_if_ne (tgt := 66) hx hb dC_move_59 rfl (fun h6 => ?_) (fun h6 => ?_)
          · have h6 := Not.imp h6 (lg_cmp_eq _ _).mpr
            refine lv_iconst (v := 0) hx hb dC_move_66 (by decide) ?_
            exact J9 _ _ (by unfold tC_moveS; rw [if_pos h5, if_neg h6]) hS
          · have h6 := (lg_cmp_eq _ _).mp h6
            refine lv_iconst (v := 1) hx hb dC_move_62 (by decide) ?_
            refine lv_goto (tgt := 67) hx hb dC_move_63 rfl ?_
            exact J9 _ _ (by unfold tC_moveS; rw [if_pos h5, if_pos h6]) hS
    · exact vx_throwS (rest := []) (names := xUp) (A := A) hx hb hl0 hown (by decide +kernel) (by decide +kernel) (hq _ q_109) (hq _ q_6) hX.2.2.2.2.2.2.2.1.choose_spec (x_all hq x_good39 x_bad39 hX.2.1.1 hX.2.2.2.1.1 hX.2.2.2.1.2.1 hX.2.2.2.1.2.2) x_ot39 hX.1.1 hX.1.2 hS (hl.1.trans hml.symm) dC_move_14 dC_move_17 dC_move_18 dC_move_20 dC_move_23 (fun x h9 => (hnt x h9).elim) (Nat.le_of_ble_eq_true rfl) (Nat.le_of_ble_eq_true rfl) (Nat.le_of_ble_eq_true rfl) (Nat.le_of_ble_eq_true rfl) hlocks (fun t9 ha hz hk9 => ⟨(), trivial, ⟨Or.inl ⟨rfl, (by unfold xC_move; rw [if_neg h1, if_pos h2])⟩, hP.kept (fun _ q9 hq9 => hk9 q9.1 (vx_lt hP hq9)), va_K.moved ha hK⟩, hz, fun q9 h1 _ => hk9 q9 h1⟩) hS.2.2 (by decide) (by decide)
def tC_seal (tg : Nat → Int32) (ad : Nat → Int32) (mt : Nat → Int32) (d : Int32) (r : Int32) (y : Int32) : Int32 := if (fC_isOpenWithTag tg ad mt r) = 0 then (0 : Int32) else (if (fC_isKey tg ad mt y (128 : Int32)) = 0 then (0 : Int32) else (if (12 : Int64) ≤ (fC_unsigned (ad y.toNatClampNeg)) then (0 : Int32) else (1 : Int32)))
theorem btC_seal (tg : Nat → Int32) (ad : Nat → Int32) (mt : Nat → Int32) (d : Int32) (r : Int32) (y : Int32) : tC_seal tg ad mt d r y = 0 ∨ tC_seal tg ad mt d r y = 1 := by
  unfold tC_seal
  repeat' split
  all_goals first | exact Or.inl rfl | exact Or.inr rfl
def xC_seal (tg : Nat → Int32) (ad : Nat → Int32) (mt : Nat → Int32) (d : Int32) (r : Int32) (y : Int32) : Int32 := if (fC_isRegister r) = 0 then 1 else (if (fC_isRegister d) = 0 then 1 else (if (fC_isRegister y) = 0 then 1 else 0))
set_option maxHeartbeats 4000000 in
set_option maxRecDepth 100000 in
theorem kC_seal (l : Launch) (hl0 : l.stackTraces = false) {D : va_G} {q : Nat → Nat} {k : Nat → ClassId} {tg : Nat → Int32} {ad : Nat → Int32} {mt : Nat → Int32} {rb : Nat → Int64} {rt : Nat → Int64} {rp : Nat → Int32} {nr : Int32} {A : Nat → Prop} (d : Int32) (r : Int32) (y : Int32) : vx_Met l yC_seal wC_seal { frames := 6, cells := 1, slots := 6, locals := 145 } (va_Pc [.ref (q 0), .int d, .int r, .int y] (fun U => va_P D zCl (cW q k tg ad mt rb rt rp nr) U.heap ∧ va_K D zCl (zT k) U ∧ va_D A (cW q k tg ad mt rb rt rp nr) ∧ zX A U U.heap)) (va_Qi (fun v9 (_ : Unit) => xC_seal tg ad mt d r y = 0 ∧ v9 = zSr d (tC_seal tg ad mt d r y)) (fun _ t => va_P D zCl (cW q k (zS d (tC_seal tg ad mt d r y) tg) (zS d (ad r.toNatClampNeg) ad) (zS d (fC_withType (mt r.toNatClampNeg) ((ad y.toNatClampNeg) &&& (15 : Int32))) mt) rb rt rp nr) t.heap ∧ va_K D zCl (zT k) t ∧ va_D A (cW q k (zS d (tC_seal tg ad mt d r y) tg) (zS d (ad r.toNatClampNeg) ad) (zS d (fC_withType (mt r.toNatClampNeg) ((ad y.toNatClampNeg) &&& (15 : Int32))) mt) rb rt rp nr)) A) (vx_X (fun _ : Unit => True) (fun E _ t => zE E (xC_seal tg ad mt d r y) ∧ va_P D zCl (cW q k tg ad mt rb rt rp nr) t.heap ∧ va_K D zCl (zT k) t) A) 1 6 A := by
  refine vx_ofW (cc := cC_seal) (maxL := 5) (ret := (some .boolean)) (by decide) rfl ?_
  intro p e s m args below meth c s₁ B hml hnt hv
  obtain ⟨rfl, hP, hK, hD, hX⟩ := hv
  have hx := B.exec
  have hb := B.bytes
  have hr := B.returns
  have hts := atoms_spec (ws := wC_seal) B.pre
  have hq : ∀ w ∈ wA, w.before _ s = true := fun w h => hts w (List.mem_cons_of_mem _ h)
  have hown : s.vm.findClass "CapUnit" = some m.cls := findClass_of_methodNamed B.named
  have hlocks := B.notSynchronized
  have hS : va_S A s.heap s.heap [] := va_S.rf
  have hl := lv_entry ([.ref (q 0), .int d, .int r, .int y]) (n := 5) (Nat.le_of_ble_eq_true rfl)
  rw [lg_entry_eq]
  generalize (lg_sl ([.ref (q 0), .int d, .int r, .int y]) ++ List.replicate (5 - (lg_sl ([.ref (q 0), .int d, .int r, .int y])).length) Slot.unset).toArray = ls at hl ⊢
  have hl : lv_has ls 5 [(0, .ref (q 0)), (1, .int d), (2, .int r), (3, .int y)] := hl
  refine lv_iload_n hx hb dC_seal_0 rfl (lv_at hl 2 rfl) ?_
  refine zc_i (va_runS (As := [.int r]) (rest := []) ⟨hx, hb, hml, hown, hq⟩ (kC_isRegister l s.heap r) (va_cwS 1 hq (wA_S q_243 q_244 q_1 q_245) rfl rfl rfl (by decide +kernel) ⟨Nat.le_of_ble_eq_true rfl, Nat.le_of_ble_eq_true rfl⟩) ⟨fun a U g mk q => q, fun U hU hW => ⟨rfl, hU⟩⟩ rfl rfl hl.1 rfl (lv_room (Nat.le_of_ble_eq_true rfl)) dC_seal_1 ⟨Nat.zero_le _, Nat.zero_le _⟩) hS (fun locs hS => ?_)
  refine lv_if_eq (tgt := 21) hx hb dC_seal_4 rfl (fun h1 => ?_) (fun h1 => ?_)
  · exact vx_throwS (rest := []) (names := xUp) (A := A) hx hb hl0 hown (by decide +kernel) (by decide +kernel) (hq _ q_109) (hq _ q_6) hX.2.2.2.2.2.2.2.1.choose_spec (x_all hq x_good39 x_bad39 hX.2.1.1 hX.2.2.2.1.1 hX.2.2.2.1.2.1 hX.2.2.2.1.2.2) x_ot39 hX.1.1 hX.1.2 hS (hl.1.trans hml.symm) dC_seal_21 dC_seal_24 dC_seal_25 dC_seal_27 dC_seal_30 (fun x h9 => (hnt x h9).elim) (Nat.le_of_ble_eq_true rfl) (Nat.le_of_ble_eq_true rfl) (Nat.le_of_ble_eq_true rfl) (Nat.le_of_ble_eq_true rfl) hlocks (fun t9 ha hz hk9 => ⟨(), trivial, ⟨Or.inl ⟨rfl, (by unfold xC_seal; rw [if_pos h1])⟩, hP.kept (fun _ q9 hq9 => hk9 q9.1 (vx_lt hP hq9)), va_K.moved ha hK⟩, hz, fun q9 h1 _ => hk9 q9 h1⟩) hS.2.2 (by decide) (by decide)
  · have gr := zz_reg h1
    refine lv_iload_n hx hb dC_seal_7 rfl (lv_at hl 1 rfl) ?_
    refine zc_i (va_runS (As := [.int d]) (rest := []) ⟨hx, hb, hml, hown, hq⟩ (kC_isRegister l s.heap d) (va_cwS 1 hq (wA_S q_243 q_244 q_1 q_245) rfl rfl rfl (by decide +kernel) ⟨Nat.le_of_ble_eq_true rfl, Nat.le_of_ble_eq_true rfl⟩) ⟨fun a U g mk q => q, fun U hU hW => ⟨rfl, hU⟩⟩ rfl rfl hl.1 rfl (lv_room (Nat.le_of_ble_eq_true rfl)) dC_seal_8 ⟨Nat.zero_le _, Nat.zero_le _⟩) hS (fun locs hS => ?_)
    refine lv_if_eq (tgt := 21) hx hb dC_seal_11 rfl (fun h2 => ?_) (fun h2 => ?_)
    · exact vx_throwS (rest := []) (names := xUp) (A := A) hx hb hl0 hown (by decide +kernel) (by decide +kernel) (hq _ q_109) (hq _ q_6) hX.2.2.2.2.2.2.2.1.choose_spec (x_all hq x_good39 x_bad39 hX.2.1.1 hX.2.2.2.1.1 hX.2.2.2.1.2.1 hX.2.2.2.1.2.2) x_ot39 hX.1.1 hX.1.2 hS (hl.1.trans hml.symm) dC_seal_21 dC_seal_24 dC_seal_25 dC_seal_27 dC_seal_30 (fun x h9 => (hnt x h9).elim) (Nat.le_of_ble_eq_true rfl) (Nat.le_of_ble_eq_true rfl) (Nat.le_of_ble_eq_true rfl) (Nat.le_of_ble_eq_true rfl) hlocks (fun t9 ha hz hk9 => ⟨(), trivial, ⟨Or.inl ⟨rfl, (by unfold xC_seal; rw [if_neg h1, if_pos h2])⟩, hP.kept (fun _ q9 hq9 => hk9 q9.1 (vx_lt hP hq9)), va_K.moved ha hK⟩, hz, fun q9 h1 _ => hk9 q9 h1⟩) hS.2.2 (by decide) (by decide)
    · have gd := zz_reg h2
      refine lv_iload_n hx hb dC_seal_14 rfl (lv_at hl 3 rfl) ?_
      refine zc_i (va_runS (As := [.int y]) (rest := []) ⟨hx, hb, hml, hown, hq⟩ (kC_isRegister l s.heap y) (va_cwS 1 hq (wA_S q_243 q_244 q_1 q_245) rfl rfl rfl (by decide +kernel) ⟨Nat.le_of_ble_eq_true rfl, Nat.le_of_ble_eq_true rfl⟩) ⟨fun a U g mk q => q, fun U hU hW => ⟨rfl, hU⟩⟩ rfl rfl hl.1 rfl (lv_room (Nat.le_of_ble_eq_true rfl)) dC_seal_15 ⟨Nat.zero_le _, Nat.zero_le _⟩) hS (fun locs hS => ?_)
      refine lv_if_ne (tgt := 31) hx hb dC_seal_18 rfl (fun h3 => ?_) (fun h3 => ?_)
      · have gy := zz_reg h3
        refine zj_i (A0 := A) (H0 := s.heap) (tC_seal tg ad mt d r y) 71 [] (fun locs hS => ?_) (fun J9 => ?_)
        · refine lv_istore (lv' := [(4, .int (tC_seal tg ad mt d r y)), (0, .ref (q 0)), (1, .int d), (2, .int r), (3, .int y)]) hx hb dC_seal_71 hl (by decide) rfl (fun ls hl => ?_)
          refine lv_aload_n hx hb dC_seal_73 rfl (lv_at hl 1 rfl) ?_
          refine lv_iload_n hx hb dC_seal_74 rfl (lv_at hl 2 rfl) ?_
          refine lv_iload hx hb dC_seal_75 (lv_at hl 0 rfl) ?_
          refine lv_aload_n hx hb dC_seal_77 rfl (lv_at hl 1 rfl) ?_
          refine va_get (D := D) (ci := 0) (v := .ref (q 2)) (C := "CapUnit") (T := TC) (N := 7) hx hb hq uC_in hown hK hP 0 rfl rfl 1 (by decide) (hq _ q_20) (fun _ h9 => h9) rfl dC_seal_78 ?_
          refine lv_iload_n hx hb dC_seal_81 rfl (lv_at hl 3 rfl) ?_
          refine va_iald hx hb hK hP 2 1 rfl rfl (i := r) gr dC_seal_82 ?_
          refine lv_aload_n hx hb dC_seal_83 rfl (lv_at hl 1 rfl) ?_
          refine va_get (D := D) (ci := 0) (v := .ref (q 3)) (C := "CapUnit") (T := TC) (N := 7) hx hb hq uC_in hown hK hP 0 rfl rfl 2 (by decide) (hq _ q_21) (fun _ h9 => h9) rfl dC_seal_84 ?_
          refine lv_iload_n hx hb dC_seal_87 rfl (lv_at hl 3 rfl) ?_
          refine va_iald hx hb hK hP 3 1 rfl rfl (i := r) gr dC_seal_88 ?_
          refine lv_aload_n hx hb dC_seal_89 rfl (lv_at hl 1 rfl) ?_
          refine va_get (D := D) (ci := 0) (v := .ref (q 2)) (C := "CapUnit") (T := TC) (N := 7) hx hb hq uC_in hown hK hP 0 rfl rfl 1 (by decide) (hq _ q_20) (fun _ h9 => h9) rfl dC_seal_90 ?_
          refine lv_iload_n hx hb dC_seal_93 rfl (lv_at hl 4 rfl) ?_
          refine va_iald hx hb hK hP 2 1 rfl rfl (i := y) gy dC_seal_94 ?_
          refine lv_bipush (v := 15) hx hb dC_seal_95 (by decide) ?_
          refine lv_iand hx hb dC_seal_97 ?_
          refine zc_i (va_runS (As := [.int (mt r.toNatClampNeg), .int ((ad y.toNatClampNeg) &&& (15 : Int32))]) (rest := [.int (ad r.toNatClampNeg), .int (tC_seal tg ad mt d r y), .int d, .ref (q 0)]) ⟨hx, hb, hml, hown, hq⟩ (kC_withType l s.heap (mt r.toNatClampNeg) ((ad y.toNatClampNeg) &&& (15 : Int32))) (va_cwS 2 hq (wA_S q_298 q_299 q_1 q_300) rfl rfl rfl (by decide +kernel) ⟨Nat.le_of_ble_eq_true rfl, Nat.le_of_ble_eq_true rfl⟩) ⟨fun a U g mk q => q, fun U hU hW => ⟨rfl, hU⟩⟩ rfl rfl hl.1 rfl (lv_room (Nat.le_of_ble_eq_true rfl)) dC_seal_98 ⟨Nat.zero_le _, Nat.zero_le _⟩) hS (fun locs hS => ?_)
          refine va_calli (va_runV (C := "CapUnit") (b := q 0) (As := [.int d, .int (tC_seal tg ad mt d r y), .int (ad r.toNatClampNeg), .int (fC_withType (mt r.toNatClampNeg) ((ad y.toNatClampNeg) &&& (15 : Int32)))]) (rest := []) ⟨hx, hb, hml, hown, hq⟩ (kC_become l d (tC_seal tg ad mt d r y) (ad r.toNatClampNeg) (fC_withType (mt r.toNatClampNeg) ((ad y.toNatClampNeg) &&& (15 : Int32))) gd (btC_seal tg ad mt d r y)) (cwV 4 hq (wA_V q_232 q_234 sC_become q_1 q_235) rfl rfl rfl (by decide +kernel) ⟨Nat.le_of_ble_eq_true rfl, Nat.le_of_ble_eq_true rfl⟩) (zw_pre (c := zCl[0]) (q0 := 0) hK hP hD rfl rfl) rfl rfl hl.1 rfl (lv_room (Nat.le_of_ble_eq_true rfl)) dC_seal_101 ⟨Nat.le_of_ble_eq_true rfl, Nat.le_of_ble_eq_true rfl⟩) hS (fun _ _ h9 => h9) (fun _ h9 => h9) (fun v9 u9 t9 H locs ht9 hvm9 hv9 hB9 hz9 hk9 hS => ?_)
          obtain ⟨hP, -, hD⟩ := hB9
          rw [ht9] at hP
          subst hv9
          clear hz9 hk9
          refine vx_ret (W.widen (k := 1) (n := 6) (by decide) (by decide) ?_)
          exact W.zret (v := zSr d (tC_seal tg ad mt d r y)) hx hb hr (zz_nar (zSr_b (btC_seal tg ad mt d r y))) (fun t9 ht hW => ⟨⟨_, (), rfl, ⟨(by unfold xC_seal; rw [if_neg h1, if_neg h2, if_neg h3]), (rfl)⟩, by rw [ht]; exact hP, va_K.moved hW.alike hK, hD⟩, hS.F ht⟩) hS.2.2 dC_seal_104
        · refine lv_aload_n hx hb dC_seal_31 rfl (lv_at hl 0 rfl) ?_
          refine lv_iload_n hx hb dC_seal_32 rfl (lv_at hl 2 rfl) ?_
          refine zc_i (va_runV (C := "CapUnit") (b := q 0) (As := [.int r]) (rest := []) ⟨hx, hb, hml, hown, hq⟩ (kC_isOpenWithTag l hP r gr) (cwV 1 hq (wA_V q_257 q_259 sC_isOpenWithTag q_1 q_260) rfl rfl rfl (by decide +kernel) ⟨Nat.le_of_ble_eq_true rfl, Nat.le_of_ble_eq_true rfl⟩) (zr_pre (c := zCl[0]) (q0 := 0) hK hP rfl rfl) rfl rfl hl.1 rfl (lv_room (Nat.le_of_ble_eq_true rfl)) dC_seal_33 ⟨Nat.le_of_ble_eq_true rfl, Nat.le_of_ble_eq_true rfl⟩) hS (fun locs hS => ?_)
          refine lv_if_eq (tgt := 70) hx hb dC_seal_36 rfl (fun h4 => ?_) (fun h4 => ?_)
          · refine lv_iconst (v := 0) hx hb dC_seal_70 (by decide) ?_
            exact J9 _ _ (by unfold tC_seal; rw [if_pos h4]) hS
          · refine lv_aload_n hx hb dC_seal_39 rfl (lv_at hl 0 rfl) ?_
            refine lv_iload_n hx hb dC_seal_40 rfl (lv_at hl 3 rfl) ?_
            refine lv_sipush (v := 128) hx hb dC_seal_41 (by decide) ?_
            refine zc_i (va_runV (C := "CapUnit") (b := q 0) (As := [.int y, .int (128 : Int32)]) (rest := []) ⟨hx, hb, hml, hown, hq⟩ (kC_isKey l hP y (128 : Int32) gy) (cwV 2 hq (wA_V q_289 q_291 sC_isKey q_1 q_292) rfl rfl rfl (by decide +kernel) ⟨Nat.le_of_ble_eq_true rfl, Nat.le_of_ble_eq_true rfl⟩) (zr_pre (c := zCl[0]) (q0 := 0) hK hP rfl rfl) rfl rfl hl.1 rfl (lv_room (Nat.le_of_ble_eq_true rfl)) dC_seal_44 ⟨Nat.le_of_ble_eq_true rfl, Nat.le_of_ble_eq_true rfl⟩) hS (fun locs hS => ?_)
            refine lv_if_eq (tgt := 70) hx hb dC_seal_47 rfl (fun h5 => ?_) (fun h5 => ?_)
            · refine lv_iconst (v := 0) hx hb dC_seal_70 (by decide) ?_
              exact J9 _ _ (by unfold tC_seal; rw [if_neg h4, if_pos h5]) hS
            · refine lv_aload_n hx hb dC_seal_50 rfl (lv_at hl 0 rfl) ?_
              refine va_get (D := D) (ci := 0) (v := .ref (q 2)) (C := "CapUnit") (T := TC) (N := 7) hx hb hq uC_in hown hK hP 0 rfl rfl 1 (by decide) (hq _ q_20) (fun _ h9 => h9) rfl dC_seal_51 ?_
              refine lv_iload_n hx hb dC_seal_54 rfl (lv_at hl 3 rfl) ?_
              refine va_iald hx hb hK hP 2 1 rfl rfl (i := y) gy dC_seal_55 ?_
              refine zc_l (va_runS (As := [.int (ad y.toNatClampNeg)]) (rest := []) ⟨hx, hb, hml, hown, hq⟩ (kC_unsigned l s.heap (ad y.toNatClampNeg)) (va_cwS 1 hq (wA_S q_63 q_64 q_1 q_65) rfl rfl rfl (by decide +kernel) ⟨Nat.le_of_ble_eq_true rfl, Nat.le_of_ble_eq_true rfl⟩) ⟨fun a U g mk q => q, fun U hU hW => ⟨rfl, hU⟩⟩ rfl rfl hl.1 rfl (lv_room (Nat.le_of_ble_eq_true rfl)) dC_seal_56 ⟨Nat.zero_le _, Nat.zero_le _⟩) hS (fun locs hS => ?_)
              refine lv_ldc2 (v := 12) hx hb hown (hts (.constantLong "CapUnit" 108 12) (by decide +kernel)) dC_seal_59 ?_
              refine W.lcmp hx hb dC_seal_62 ?_
              refine lv_if_ge (tgt := 70) hx hb dC_seal_63 rfl (fun h6 => ?_) (fun h6 => ?_)
              · have h6 := (lg_cmp_ge _ _).mp h6
                refine lv_iconst (v := 0) hx hb dC_seal_70 (by decide) ?_
                exact J9 _ _ (by unfold tC_seal; rw [if_neg h4, if_neg h5, if_pos h6]) hS
              · have h6 := Not.imp h6 (lg_cmp_ge _ _).mpr
                refine lv_iconst (v := 1) hx hb dC_seal_66 (by decide) ?_
                refine lv_goto (tgt := 71) hx hb dC_seal_67 rfl ?_
                exact J9 _ _ (by unfold tC_seal; rw [if_neg h4, if_neg h5, if_neg h6]) hS
      · exact vx_throwS (rest := []) (names := xUp) (A := A) hx hb hl0 hown (by decide +kernel) (by decide +kernel) (hq _ q_109) (hq _ q_6) hX.2.2.2.2.2.2.2.1.choose_spec (x_all hq x_good39 x_bad39 hX.2.1.1 hX.2.2.2.1.1 hX.2.2.2.1.2.1 hX.2.2.2.1.2.2) x_ot39 hX.1.1 hX.1.2 hS (hl.1.trans hml.symm) dC_seal_21 dC_seal_24 dC_seal_25 dC_seal_27 dC_seal_30 (fun x h9 => (hnt x h9).elim) (Nat.le_of_ble_eq_true rfl) (Nat.le_of_ble_eq_true rfl) (Nat.le_of_ble_eq_true rfl) (Nat.le_of_ble_eq_true rfl) hlocks (fun t9 ha hz hk9 => ⟨(), trivial, ⟨Or.inl ⟨rfl, (by unfold xC_seal; rw [if_neg h1, if_neg h2, if_pos h3])⟩, hP.kept (fun _ q9 hq9 => hk9 q9.1 (vx_lt hP hq9)), va_K.moved ha hK⟩, hz, fun q9 h1 _ => hk9 q9 h1⟩) hS.2.2 (by decide) (by decide)
def tC_unseal (tg : Nat → Int32) (ad : Nat → Int32) (mt : Nat → Int32) (d : Int32) (r : Int32) (y : Int32) : Int32 := if (tg r.toNatClampNeg) = 0 then (0 : Int32) else (if (12 : Int32) ≤ (fC_typeOf (mt r.toNatClampNeg)) then (0 : Int32) else (if (fC_typeOf (mt r.toNatClampNeg)) = (ad y.toNatClampNeg) then (if (fC_isKey tg ad mt y (512 : Int32)) = 0 then (0 : Int32) else (1 : Int32)) else (0 : Int32)))
theorem btC_unseal (tg : Nat → Int32) (ad : Nat → Int32) (mt : Nat → Int32) (d : Int32) (r : Int32) (y : Int32) : tC_unseal tg ad mt d r y = 0 ∨ tC_unseal tg ad mt d r y = 1 := by
  unfold tC_unseal
  repeat' split
  all_goals first | exact Or.inl rfl | exact Or.inr rfl
def mC_unseal (tg : Nat → Int32) (ad : Nat → Int32) (mt : Nat → Int32) (d : Int32) (r : Int32) (y : Int32) : Int32 := if (fC_hasPerm tg ad mt y (1 : Int32)) = 0 then ((fC_withType (mt r.toNatClampNeg) (15 : Int32)) &&& (-1048577 : Int32)) else (fC_withType (mt r.toNatClampNeg) (15 : Int32))
def xC_unseal (tg : Nat → Int32) (ad : Nat → Int32) (mt : Nat → Int32) (d : Int32) (r : Int32) (y : Int32) : Int32 := if (fC_isRegister r) = 0 then 1 else (if (fC_isRegister d) = 0 then 1 else (if (fC_isRegister y) = 0 then 1 else (if (fC_hasPerm tg ad mt y (1 : Int32)) = 0 then 0 else 0)))
set_option maxHeartbeats 4000000 in
set_option maxRecDepth 100000 in
theorem kC_unseal (l : Launch) (hl0 : l.stackTraces = false) {D : va_G} {q : Nat → Nat} {k : Nat → ClassId} {tg : Nat → Int32} {ad : Nat → Int32} {mt : Nat → Int32} {rb : Nat → Int64} {rt : Nat → Int64} {rp : Nat → Int32} {nr : Int32} {A : Nat → Prop} (d : Int32) (r : Int32) (y : Int32) : vx_Met l yC_unseal wC_unseal { frames := 6, cells := 1, slots := 6, locals := 145 } (va_Pc [.ref (q 0), .int d, .int r, .int y] (fun U => va_P D zCl (cW q k tg ad mt rb rt rp nr) U.heap ∧ va_K D zCl (zT k) U ∧ va_D A (cW q k tg ad mt rb rt rp nr) ∧ zX A U U.heap)) (va_Qi (fun v9 (_ : Unit) => xC_unseal tg ad mt d r y = 0 ∧ v9 = zSr d (tC_unseal tg ad mt d r y)) (fun _ t => va_P D zCl (cW q k (zS d (tC_unseal tg ad mt d r y) tg) (zS d (ad r.toNatClampNeg) ad) (zS d (mC_unseal tg ad mt d r y) mt) rb rt rp nr) t.heap ∧ va_K D zCl (zT k) t ∧ va_D A (cW q k (zS d (tC_unseal tg ad mt d r y) tg) (zS d (ad r.toNatClampNeg) ad) (zS d (mC_unseal tg ad mt d r y) mt) rb rt rp nr)) A) (vx_X (fun _ : Unit => True) (fun E _ t => zE E (xC_unseal tg ad mt d r y) ∧ va_P D zCl (cW q k tg ad mt rb rt rp nr) t.heap ∧ va_K D zCl (zT k) t) A) 1 6 A := by
  refine vx_ofW (cc := cC_unseal) (maxL := 7) (ret := (some .boolean)) (by decide) rfl ?_
  intro p e s m args below meth c s₁ B hml hnt hv
  obtain ⟨rfl, hP, hK, hD, hX⟩ := hv
  have hx := B.exec
  have hb := B.bytes
  have hr := B.returns
  have hts := atoms_spec (ws := wC_unseal) B.pre
  have hq : ∀ w ∈ wA, w.before _ s = true := fun w h => hts w (List.mem_cons_of_mem _ h)
  have hown : s.vm.findClass "CapUnit" = some m.cls := findClass_of_methodNamed B.named
  have hlocks := B.notSynchronized
  have hS : va_S A s.heap s.heap [] := va_S.rf
  have hl := lv_entry ([.ref (q 0), .int d, .int r, .int y]) (n := 7) (Nat.le_of_ble_eq_true rfl)
  rw [lg_entry_eq]
  generalize (lg_sl ([.ref (q 0), .int d, .int r, .int y]) ++ List.replicate (7 - (lg_sl ([.ref (q 0), .int d, .int r, .int y])).length) Slot.unset).toArray = ls at hl ⊢
  have hl : lv_has ls 7 [(0, .ref (q 0)), (1, .int d), (2, .int r), (3, .int y)] := hl
  refine lv_iload_n hx hb dC_unseal_0 rfl (lv_at hl 2 rfl) ?_
  refine zc_i (va_runS (As := [.int r]) (rest := []) ⟨hx, hb, hml, hown, hq⟩ (kC_isRegister l s.heap r) (va_cwS 1 hq (wA_S q_243 q_244 q_1 q_245) rfl rfl rfl (by decide +kernel) ⟨Nat.le_of_ble_eq_true rfl, Nat.le_of_ble_eq_true rfl⟩) ⟨fun a U g mk q => q, fun U hU hW => ⟨rfl, hU⟩⟩ rfl rfl hl.1 rfl (lv_room (Nat.le_of_ble_eq_true rfl)) dC_unseal_1 ⟨Nat.zero_le _, Nat.zero_le _⟩) hS (fun locs hS => ?_)
  refine lv_if_eq (tgt := 21) hx hb dC_unseal_4 rfl (fun h1 => ?_) (fun h1 => ?_)
  · exact vx_throwS (rest := []) (names := xUp) (A := A) hx hb hl0 hown (by decide +kernel) (by decide +kernel) (hq _ q_109) (hq _ q_6) hX.2.2.2.2.2.2.2.1.choose_spec (x_all hq x_good39 x_bad39 hX.2.1.1 hX.2.2.2.1.1 hX.2.2.2.1.2.1 hX.2.2.2.1.2.2) x_ot39 hX.1.1 hX.1.2 hS (hl.1.trans hml.symm) dC_unseal_21 dC_unseal_24 dC_unseal_25 dC_unseal_27 dC_unseal_30 (fun x h9 => (hnt x h9).elim) (Nat.le_of_ble_eq_true rfl) (Nat.le_of_ble_eq_true rfl) (Nat.le_of_ble_eq_true rfl) (Nat.le_of_ble_eq_true rfl) hlocks (fun t9 ha hz hk9 => ⟨(), trivial, ⟨Or.inl ⟨rfl, (by unfold xC_unseal; rw [if_pos h1])⟩, hP.kept (fun _ q9 hq9 => hk9 q9.1 (vx_lt hP hq9)), va_K.moved ha hK⟩, hz, fun q9 h1 _ => hk9 q9 h1⟩) hS.2.2 (by decide) (by decide)
  · have gr := zz_reg h1
    refine lv_iload_n hx hb dC_unseal_7 rfl (lv_at hl 1 rfl) ?_
    refine zc_i (va_runS (As := [.int d]) (rest := []) ⟨hx, hb, hml, hown, hq⟩ (kC_isRegister l s.heap d) (va_cwS 1 hq (wA_S q_243 q_244 q_1 q_245) rfl rfl rfl (by decide +kernel) ⟨Nat.le_of_ble_eq_true rfl, Nat.le_of_ble_eq_true rfl⟩) ⟨fun a U g mk q => q, fun U hU hW => ⟨rfl, hU⟩⟩ rfl rfl hl.1 rfl (lv_room (Nat.le_of_ble_eq_true rfl)) dC_unseal_8 ⟨Nat.zero_le _, Nat.zero_le _⟩) hS (fun locs hS => ?_)
    refine lv_if_eq (tgt := 21) hx hb dC_unseal_11 rfl (fun h2 => ?_) (fun h2 => ?_)
    · exact vx_throwS (rest := []) (names := xUp) (A := A) hx hb hl0 hown (by decide +kernel) (by decide +kernel) (hq _ q_109) (hq _ q_6) hX.2.2.2.2.2.2.2.1.choose_spec (x_all hq x_good39 x_bad39 hX.2.1.1 hX.2.2.2.1.1 hX.2.2.2.1.2.1 hX.2.2.2.1.2.2) x_ot39 hX.1.1 hX.1.2 hS (hl.1.trans hml.symm) dC_unseal_21 dC_unseal_24 dC_unseal_25 dC_unseal_27 dC_unseal_30 (fun x h9 => (hnt x h9).elim) (Nat.le_of_ble_eq_true rfl) (Nat.le_of_ble_eq_true rfl) (Nat.le_of_ble_eq_true rfl) (Nat.le_of_ble_eq_true rfl) hlocks (fun t9 ha hz hk9 => ⟨(), trivial, ⟨Or.inl ⟨rfl, (by unfold xC_unseal; rw [if_neg h1, if_pos h2])⟩, hP.kept (fun _ q9 hq9 => hk9 q9.1 (vx_lt hP hq9)), va_K.moved ha hK⟩, hz, fun q9 h1 _ => hk9 q9 h1⟩) hS.2.2 (by decide) (by decide)
    · have gd := zz_reg h2
      refine lv_iload_n hx hb dC_unseal_14 rfl (lv_at hl 3 rfl) ?_
      refine zc_i (va_runS (As := [.int y]) (rest := []) ⟨hx, hb, hml, hown, hq⟩ (kC_isRegister l s.heap y) (va_cwS 1 hq (wA_S q_243 q_244 q_1 q_245) rfl rfl rfl (by decide +kernel) ⟨Nat.le_of_ble_eq_true rfl, Nat.le_of_ble_eq_true rfl⟩) ⟨fun a U g mk q => q, fun U hU hW => ⟨rfl, hU⟩⟩ rfl rfl hl.1 rfl (lv_room (Nat.le_of_ble_eq_true rfl)) dC_unseal_15 ⟨Nat.zero_le _, Nat.zero_le _⟩) hS (fun locs hS => ?_)
      refine lv_if_ne (tgt := 31) hx hb dC_unseal_18 rfl (fun h3 => ?_) (fun h3 => ?_)
      · have gy := zz_reg h3
        refine lv_aload_n hx hb dC_unseal_31 rfl (lv_at hl 0 rfl) ?_
        refine va_get (D := D) (ci := 0) (v := .ref (q 3)) (C := "CapUnit") (T := TC) (N := 7) hx hb hq uC_in hown hK hP 0 rfl rfl 2 (by decide) (hq _ q_21) (fun _ h9 => h9) rfl dC_unseal_32 ?_
        refine lv_iload_n hx hb dC_unseal_35 rfl (lv_at hl 2 rfl) ?_
        refine va_iald hx hb hK hP 3 1 rfl rfl (i := r) gr dC_unseal_36 ?_
        refine zc_i (va_runS (As := [.int (mt r.toNatClampNeg)]) (rest := []) ⟨hx, hb, hml, hown, hq⟩ (kC_typeOf l s.heap (mt r.toNatClampNeg)) (va_cwS 1 hq (wA_S q_261 q_262 q_1 q_263) rfl rfl rfl (by decide +kernel) ⟨Nat.le_of_ble_eq_true rfl, Nat.le_of_ble_eq_true rfl⟩) ⟨fun a U g mk q => q, fun U hU hW => ⟨rfl, hU⟩⟩ rfl rfl hl.1 rfl (lv_room (Nat.le_of_ble_eq_true rfl)) dC_unseal_37 ⟨Nat.zero_le _, Nat.zero_le _⟩) hS (fun locs hS => ?_)
        refine lv_istore (lv' := [(4, .int (fC_typeOf (mt r.toNatClampNeg))), (0, .ref (q 0)), (1, .int d), (2, .int r), (3, .int y)]) hx hb dC_unseal_40 hl (by decide) rfl (fun ls hl => ?_)
        refine zj_i (A0 := A) (H0 := s.heap) (tC_unseal tg ad mt d r y) 85 [] (fun locs hS => ?_) (fun J9 => ?_)
        · refine lv_istore (lv' := [(5, .int (tC_unseal tg ad mt d r y)), (4, .int (fC_typeOf (mt r.toNatClampNeg))), (0, .ref (q 0)), (1, .int d), (2, .int r), (3, .int y)]) hx hb dC_unseal_85 hl (by decide) rfl (fun ls hl => ?_)
          refine lv_aload_n hx hb dC_unseal_87 rfl (lv_at hl 2 rfl) ?_
          refine va_get (D := D) (ci := 0) (v := .ref (q 3)) (C := "CapUnit") (T := TC) (N := 7) hx hb hq uC_in hown hK hP 0 rfl rfl 2 (by decide) (hq _ q_21) (fun _ h9 => h9) rfl dC_unseal_88 ?_
          refine lv_iload_n hx hb dC_unseal_91 rfl (lv_at hl 4 rfl) ?_
          refine va_iald hx hb hK hP 3 1 rfl rfl (i := r) gr dC_unseal_92 ?_
          refine lv_bipush (v := 15) hx hb dC_unseal_93 (by decide) ?_
          refine zc_i (va_runS (As := [.int (mt r.toNatClampNeg), .int (15 : Int32)]) (rest := []) ⟨hx, hb, hml, hown, hq⟩ (kC_withType l s.heap (mt r.toNatClampNeg) (15 : Int32)) (va_cwS 2 hq (wA_S q_298 q_299 q_1 q_300) rfl rfl rfl (by decide +kernel) ⟨Nat.le_of_ble_eq_true rfl, Nat.le_of_ble_eq_true rfl⟩) ⟨fun a U g mk q => q, fun U hU hW => ⟨rfl, hU⟩⟩ rfl rfl hl.1 rfl (lv_room (Nat.le_of_ble_eq_true rfl)) dC_unseal_95 ⟨Nat.zero_le _, Nat.zero_le _⟩) hS (fun locs hS => ?_)
          refine lv_istore (lv' := [(6, .int (fC_withType (mt r.toNatClampNeg) (15 : Int32))), (5, .int (tC_unseal tg ad mt d r y)), (4, .int (fC_typeOf (mt r.toNatClampNeg))), (0, .ref (q 0)), (1, .int d), (2, .int r), (3, .int y)]) hx hb dC_unseal_98 hl (by decide) rfl (fun ls hl => ?_)
          refine lv_aload_n hx hb dC_unseal_100 rfl (lv_at hl 3 rfl) ?_
          refine lv_iload_n hx hb dC_unseal_101 rfl (lv_at hl 6 rfl) ?_
          refine lv_iconst (v := 1) hx hb dC_unseal_102 (by decide) ?_
          refine zc_i (va_runV (C := "CapUnit") (b := q 0) (As := [.int y, .int (1 : Int32)]) (rest := []) ⟨hx, hb, hml, hown, hq⟩ (kC_hasPerm l hP y (1 : Int32) gy) (cwV 2 hq (wA_V q_293 q_295 sC_hasPerm q_1 q_296) rfl rfl rfl (by decide +kernel) ⟨Nat.le_of_ble_eq_true rfl, Nat.le_of_ble_eq_true rfl⟩) (zr_pre (c := zCl[0]) (q0 := 0) hK hP rfl rfl) rfl rfl hl.1 rfl (lv_room (Nat.le_of_ble_eq_true rfl)) dC_unseal_103 ⟨Nat.le_of_ble_eq_true rfl, Nat.le_of_ble_eq_true rfl⟩) hS (fun locs hS => ?_)
          refine lv_if_ne (tgt := 116) hx hb dC_unseal_106 rfl (fun h4 => ?_) (fun h4 => ?_)
          · refine lv_aload_n hx hb dC_unseal_116 rfl (lv_at hl 3 rfl) ?_
            refine lv_iload_n hx hb dC_unseal_117 rfl (lv_at hl 4 rfl) ?_
            refine lv_iload hx hb dC_unseal_118 (lv_at hl 1 rfl) ?_
            refine lv_aload_n hx hb dC_unseal_120 rfl (lv_at hl 3 rfl) ?_
            refine va_get (D := D) (ci := 0) (v := .ref (q 2)) (C := "CapUnit") (T := TC) (N := 7) hx hb hq uC_in hown hK hP 0 rfl rfl 1 (by decide) (hq _ q_20) (fun _ h9 => h9) rfl dC_unseal_121 ?_
            refine lv_iload_n hx hb dC_unseal_124 rfl (lv_at hl 5 rfl) ?_
            refine va_iald hx hb hK hP 2 1 rfl rfl (i := r) gr dC_unseal_125 ?_
            refine lv_iload hx hb dC_unseal_126 (lv_at hl 0 rfl) ?_
            refine zt_i (show _ = mC_unseal tg ad mt d r y by unfold mC_unseal; rw [if_neg h4]) ?_
            refine va_calli (va_runV (C := "CapUnit") (b := q 0) (As := [.int d, .int (tC_unseal tg ad mt d r y), .int (ad r.toNatClampNeg), .int (mC_unseal tg ad mt d r y)]) (rest := []) ⟨hx, hb, hml, hown, hq⟩ (kC_become l d (tC_unseal tg ad mt d r y) (ad r.toNatClampNeg) (mC_unseal tg ad mt d r y) gd (btC_unseal tg ad mt d r y)) (cwV 4 hq (wA_V q_232 q_234 sC_become q_1 q_235) rfl rfl rfl (by decide +kernel) ⟨Nat.le_of_ble_eq_true rfl, Nat.le_of_ble_eq_true rfl⟩) (zw_pre (c := zCl[0]) (q0 := 0) hK hP hD rfl rfl) rfl rfl hl.1 rfl (lv_room (Nat.le_of_ble_eq_true rfl)) dC_unseal_128 ⟨Nat.le_of_ble_eq_true rfl, Nat.le_of_ble_eq_true rfl⟩) hS (fun _ _ h9 => h9) (fun _ h9 => h9) (fun v9 u9 t9 H locs ht9 hvm9 hv9 hB9 hz9 hk9 hS => ?_)
            obtain ⟨hP, -, hD⟩ := hB9
            rw [ht9] at hP
            subst hv9
            clear hz9 hk9
            refine vx_ret (W.widen (k := 1) (n := 6) (by decide) (by decide) ?_)
            exact W.zret (v := zSr d (tC_unseal tg ad mt d r y)) hx hb hr (zz_nar (zSr_b (btC_unseal tg ad mt d r y))) (fun t9 ht hW => ⟨⟨_, (), rfl, ⟨(by unfold xC_unseal; rw [if_neg h1, if_neg h2, if_neg h3, if_neg h4]), (rfl)⟩, by rw [ht]; exact hP, va_K.moved hW.alike hK, hD⟩, hS.F ht⟩) hS.2.2 dC_unseal_131
          · refine lv_iload hx hb dC_unseal_109 (lv_at hl 0 rfl) ?_
            refine lv_ldc (v := -1048577) hx hb hown (hts (.constant "CapUnit" 121 (-1048577)) (by decide +kernel)) dC_unseal_111 ?_
            refine lv_iand hx hb dC_unseal_113 ?_
            refine lv_istore (lv' := [(6, .int ((fC_withType (mt r.toNatClampNeg) (15 : Int32)) &&& (-1048577 : Int32))), (5, .int (tC_unseal tg ad mt d r y)), (4, .int (fC_typeOf (mt r.toNatClampNeg))), (0, .ref (q 0)), (1, .int d), (2, .int r), (3, .int y)]) hx hb dC_unseal_114 hl (by decide) rfl (fun ls hl => ?_)
            refine lv_aload_n hx hb dC_unseal_116 rfl (lv_at hl 3 rfl) ?_
            refine lv_iload_n hx hb dC_unseal_117 rfl (lv_at hl 4 rfl) ?_
            refine lv_iload hx hb dC_unseal_118 (lv_at hl 1 rfl) ?_
            refine lv_aload_n hx hb dC_unseal_120 rfl (lv_at hl 3 rfl) ?_
            refine va_get (D := D) (ci := 0) (v := .ref (q 2)) (C := "CapUnit") (T := TC) (N := 7) hx hb hq uC_in hown hK hP 0 rfl rfl 1 (by decide) (hq _ q_20) (fun _ h9 => h9) rfl dC_unseal_121 ?_
            refine lv_iload_n hx hb dC_unseal_124 rfl (lv_at hl 5 rfl) ?_
            refine va_iald hx hb hK hP 2 1 rfl rfl (i := r) gr dC_unseal_125 ?_
            refine lv_iload hx hb dC_unseal_126 (lv_at hl 0 rfl) ?_
            refine zt_i (show _ = mC_unseal tg ad mt d r y by unfold mC_unseal; rw [if_pos h4]) ?_
            refine va_calli (va_runV (C := "CapUnit") (b := q 0) (As := [.int d, .int (tC_unseal tg ad mt d r y), .int (ad r.toNatClampNeg), .int (mC_unseal tg ad mt d r y)]) (rest := []) ⟨hx, hb, hml, hown, hq⟩ (kC_become l d (tC_unseal tg ad mt d r y) (ad r.toNatClampNeg) (mC_unseal tg ad mt d r y) gd (btC_unseal tg ad mt d r y)) (cwV 4 hq (wA_V q_232 q_234 sC_become q_1 q_235) rfl rfl rfl (by decide +kernel) ⟨Nat.le_of_ble_eq_true rfl, Nat.le_of_ble_eq_true rfl⟩) (zw_pre (c := zCl[0]) (q0 := 0) hK hP hD rfl rfl) rfl rfl hl.1 rfl (lv_room (Nat.le_of_ble_eq_true rfl)) dC_unseal_128 ⟨Nat.le_of_ble_eq_true rfl, Nat.le_of_ble_eq_true rfl⟩) hS (fun _ _ h9 => h9) (fun _ h9 => h9) (fun v9 u9 t9 H locs ht9 hvm9 hv9 hB9 hz9 hk9 hS => ?_)
            obtain ⟨hP, -, hD⟩ := hB9
            rw [ht9] at hP
            subst hv9
            clear hz9 hk9
            refine vx_ret (W.widen (k := 1) (n := 6) (by decide) (by decide) ?_)
            exact W.zret (v := zSr d (tC_unseal tg ad mt d r y)) hx hb hr (zz_nar (zSr_b (btC_unseal tg ad mt d r y))) (fun t9 ht hW => ⟨⟨_, (), rfl, ⟨(by unfold xC_unseal; rw [if_neg h1, if_neg h2, if_neg h3, if_pos h4]), (rfl)⟩, by rw [ht]; exact hP, va_K.moved hW.alike hK, hD⟩, hS.F ht⟩) hS.2.2 dC_unseal_131
        · refine lv_aload_n hx hb dC_unseal_42 rfl (lv_at hl 1 rfl) ?_
          refine va_get (D := D) (ci := 0) (v := .ref (q 1)) (C := "CapUnit") (T := TC) (N := 7) hx hb hq uC_in hown hK hP 0 rfl rfl 0 (by decide) (hq _ q_19) (fun _ h9 => h9) rfl dC_unseal_43 ?_
          refine lv_iload_n hx hb dC_unseal_46 rfl (lv_at hl 3 rfl) ?_
          refine va_zald hx hb hK hP 1 0 rfl rfl (i := r) gr dC_unseal_47 ?_
          refine lv_if_eq (tgt := 84) hx hb dC_unseal_48 rfl (fun h5 => ?_) (fun h5 => ?_)
          · refine lv_iconst (v := 0) hx hb dC_unseal_84 (by decide) ?_
            exact J9 _ _ (by unfold tC_unseal; rw [if_pos h5]) hS
          · refine lv_iload hx hb dC_unseal_51 (lv_at hl 0 rfl) ?_
            refine lv_bipush (v := 12) hx hb dC_unseal_53 (by decide) ?_
            refine lv_icmp_ge (tgt := 84) hx hb dC_unseal_55 rfl (fun h6 => ?_) (fun h6 => ?_)
            · refine lv_iconst (v := 0) hx hb dC_unseal_84 (by decide) ?_
              exact J9 _ _ (by unfold tC_unseal; rw [if_neg h5, if_pos h6]) hS
            · refine lv_iload hx hb dC_unseal_58 (lv_at hl 0 rfl) ?_
              refine lv_aload_n hx hb dC_unseal_60 rfl (lv_at hl 1 rfl) ?_
              refine va_get (D := D) (ci := 0) (v := .ref (q 2)) (C := "CapUnit") (T := TC) (N := 7) hx hb hq uC_in hown hK hP 0 rfl rfl 1 (by decide) (hq _ q_20) (fun _ h9 => h9) rfl dC_unseal_61 ?_
              refine lv_iload_n hx hb dC_unseal_64 rfl (lv_at hl 4 rfl) ?_
              refine va_iald hx hb hK hP 2 1 rfl rfl (i := y) gy dC_unseal_65 ?_
              refine lv_icmp_ne (tgt := 84) hx hb dC_unseal_66 rfl (fun h7 => ?_) (fun h7 => ?_)
              · refine lv_iconst (v := 0) hx hb dC_unseal_84 (by decide) ?_
                exact J9 _ _ (by unfold tC_unseal; rw [if_neg h5, if_neg h6, if_neg h7]) hS
              · refine lv_aload_n hx hb dC_unseal_69 rfl (lv_at hl 1 rfl) ?_
                refine lv_iload_n hx hb dC_unseal_70 rfl (lv_at hl 4 rfl) ?_
                refine lv_sipush (v := 512) hx hb dC_unseal_71 (by decide) ?_
                refine zc_i (va_runV (C := "CapUnit") (b := q 0) (As := [.int y, .int (512 : Int32)]) (rest := []) ⟨hx, hb, hml, hown, hq⟩ (kC_isKey l hP y (512 : Int32) gy) (cwV 2 hq (wA_V q_289 q_291 sC_isKey q_1 q_292) rfl rfl rfl (by decide +kernel) ⟨Nat.le_of_ble_eq_true rfl, Nat.le_of_ble_eq_true rfl⟩) (zr_pre (c := zCl[0]) (q0 := 0) hK hP rfl rfl) rfl rfl hl.1 rfl (lv_room (Nat.le_of_ble_eq_true rfl)) dC_unseal_74 ⟨Nat.le_of_ble_eq_true rfl, Nat.le_of_ble_eq_true rfl⟩) hS (fun locs hS => ?_)
                refine lv_if_eq (tgt := 84) hx hb dC_unseal_77 rfl (fun h8 => ?_) (fun h8 => ?_)
                · refine lv_iconst (v := 0) hx hb dC_unseal_84 (by decide) ?_
                  exact J9 _ _ (by unfold tC_unseal; rw [if_neg h5, if_neg h6, if_pos h7, if_pos h8]) hS
                · refine lv_iconst (v := 1) hx hb dC_unseal_80 (by decide) ?_
                  refine lv_goto (tgt := 85) hx hb dC_unseal_81 rfl ?_
                  exact J9 _ _ (by unfold tC_unseal; rw [if_neg h5, if_neg h6, if_pos h7, if_neg h8]) hS
      · exact vx_throwS (rest := []) (names := xUp) (A := A) hx hb hl0 hown (by decide +kernel) (by decide +kernel) (hq _ q_109) (hq _ q_6) hX.2.2.2.2.2.2.2.1.choose_spec (x_all hq x_good39 x_bad39 hX.2.1.1 hX.2.2.2.1.1 hX.2.2.2.1.2.1 hX.2.2.2.1.2.2) x_ot39 hX.1.1 hX.1.2 hS (hl.1.trans hml.symm) dC_unseal_21 dC_unseal_24 dC_unseal_25 dC_unseal_27 dC_unseal_30 (fun x h9 => (hnt x h9).elim) (Nat.le_of_ble_eq_true rfl) (Nat.le_of_ble_eq_true rfl) (Nat.le_of_ble_eq_true rfl) (Nat.le_of_ble_eq_true rfl) hlocks (fun t9 ha hz hk9 => ⟨(), trivial, ⟨Or.inl ⟨rfl, (by unfold xC_unseal; rw [if_neg h1, if_neg h2, if_pos h3])⟩, hP.kept (fun _ q9 hq9 => hk9 q9.1 (vx_lt hP hq9)), va_K.moved ha hK⟩, hz, fun q9 h1 _ => hk9 q9 h1⟩) hS.2.2 (by decide) (by decide)
def tC_gate (tg : Nat → Int32) (ad : Nat → Int32) (mt : Nat → Int32) (d : Int32) (r : Int32) : Int32 := if (fC_isOpenWithTag tg ad mt r) = 0 then (0 : Int32) else (if (fC_hasPerm tg ad mt r (2 : Int32)) = 0 then (0 : Int32) else (1 : Int32))
theorem btC_gate (tg : Nat → Int32) (ad : Nat → Int32) (mt : Nat → Int32) (d : Int32) (r : Int32) : tC_gate tg ad mt d r = 0 ∨ tC_gate tg ad mt d r = 1 := by
  unfold tC_gate
  repeat' split
  all_goals first | exact Or.inl rfl | exact Or.inr rfl
def xC_gate (tg : Nat → Int32) (ad : Nat → Int32) (mt : Nat → Int32) (d : Int32) (r : Int32) : Int32 := if (fC_isRegister r) = 0 then 1 else (if (fC_isRegister d) = 0 then 1 else 0)
set_option maxHeartbeats 4000000 in
set_option maxRecDepth 100000 in
theorem kC_gate (l : Launch) (hl0 : l.stackTraces = false) {D : va_G} {q : Nat → Nat} {k : Nat → ClassId} {tg : Nat → Int32} {ad : Nat → Int32} {mt : Nat → Int32} {rb : Nat → Int64} {rt : Nat → Int64} {rp : Nat → Int32} {nr : Int32} {A : Nat → Prop} (d : Int32) (r : Int32) : vx_Met l yC_gate wC_gate { frames := 6, cells := 1, slots := 6, locals := 82 } (va_Pc [.ref (q 0), .int d, .int r] (fun U => va_P D zCl (cW q k tg ad mt rb rt rp nr) U.heap ∧ va_K D zCl (zT k) U ∧ va_D A (cW q k tg ad mt rb rt rp nr) ∧ zX A U U.heap)) (va_Qi (fun v9 (_ : Unit) => xC_gate tg ad mt d r = 0 ∧ v9 = zSr d (tC_gate tg ad mt d r)) (fun _ t => va_P D zCl (cW q k (zS d (tC_gate tg ad mt d r) tg) (zS d (ad r.toNatClampNeg) ad) (zS d (fC_withType (mt r.toNatClampNeg) (14 : Int32)) mt) rb rt rp nr) t.heap ∧ va_K D zCl (zT k) t ∧ va_D A (cW q k (zS d (tC_gate tg ad mt d r) tg) (zS d (ad r.toNatClampNeg) ad) (zS d (fC_withType (mt r.toNatClampNeg) (14 : Int32)) mt) rb rt rp nr)) A) (vx_X (fun _ : Unit => True) (fun E _ t => zE E (xC_gate tg ad mt d r) ∧ va_P D zCl (cW q k tg ad mt rb rt rp nr) t.heap ∧ va_K D zCl (zT k) t) A) 1 6 A := by
  refine vx_ofW (cc := cC_gate) (maxL := 4) (ret := (some .boolean)) (by decide) rfl ?_
  intro p e s m args below meth c s₁ B hml hnt hv
  obtain ⟨rfl, hP, hK, hD, hX⟩ := hv
  have hx := B.exec
  have hb := B.bytes
  have hr := B.returns
  have hts := atoms_spec (ws := wC_gate) B.pre
  have hq : ∀ w ∈ wA, w.before _ s = true := fun w h => hts w (List.mem_cons_of_mem _ h)
  have hown : s.vm.findClass "CapUnit" = some m.cls := findClass_of_methodNamed B.named
  have hlocks := B.notSynchronized
  have hS : va_S A s.heap s.heap [] := va_S.rf
  have hl := lv_entry ([.ref (q 0), .int d, .int r]) (n := 4) (Nat.le_of_ble_eq_true rfl)
  rw [lg_entry_eq]
  generalize (lg_sl ([.ref (q 0), .int d, .int r]) ++ List.replicate (4 - (lg_sl ([.ref (q 0), .int d, .int r])).length) Slot.unset).toArray = ls at hl ⊢
  have hl : lv_has ls 4 [(0, .ref (q 0)), (1, .int d), (2, .int r)] := hl
  refine lv_iload_n hx hb dC_gate_0 rfl (lv_at hl 2 rfl) ?_
  refine zc_i (va_runS (As := [.int r]) (rest := []) ⟨hx, hb, hml, hown, hq⟩ (kC_isRegister l s.heap r) (va_cwS 1 hq (wA_S q_243 q_244 q_1 q_245) rfl rfl rfl (by decide +kernel) ⟨Nat.le_of_ble_eq_true rfl, Nat.le_of_ble_eq_true rfl⟩) ⟨fun a U g mk q => q, fun U hU hW => ⟨rfl, hU⟩⟩ rfl rfl hl.1 rfl (lv_room (Nat.le_of_ble_eq_true rfl)) dC_gate_1 ⟨Nat.zero_le _, Nat.zero_le _⟩) hS (fun locs hS => ?_)
  refine lv_if_eq (tgt := 14) hx hb dC_gate_4 rfl (fun h1 => ?_) (fun h1 => ?_)
  · exact vx_throwS (rest := []) (names := xUp) (A := A) hx hb hl0 hown (by decide +kernel) (by decide +kernel) (hq _ q_109) (hq _ q_6) hX.2.2.2.2.2.2.2.1.choose_spec (x_all hq x_good39 x_bad39 hX.2.1.1 hX.2.2.2.1.1 hX.2.2.2.1.2.1 hX.2.2.2.1.2.2) x_ot39 hX.1.1 hX.1.2 hS (hl.1.trans hml.symm) dC_gate_14 dC_gate_17 dC_gate_18 dC_gate_20 dC_gate_23 (fun x h9 => (hnt x h9).elim) (Nat.le_of_ble_eq_true rfl) (Nat.le_of_ble_eq_true rfl) (Nat.le_of_ble_eq_true rfl) (Nat.le_of_ble_eq_true rfl) hlocks (fun t9 ha hz hk9 => ⟨(), trivial, ⟨Or.inl ⟨rfl, (by unfold xC_gate; rw [if_pos h1])⟩, hP.kept (fun _ q9 hq9 => hk9 q9.1 (vx_lt hP hq9)), va_K.moved ha hK⟩, hz, fun q9 h1 _ => hk9 q9 h1⟩) hS.2.2 (by decide) (by decide)
  · have gr := zz_reg h1
    refine lv_iload_n hx hb dC_gate_7 rfl (lv_at hl 1 rfl) ?_
    refine zc_i (va_runS (As := [.int d]) (rest := []) ⟨hx, hb, hml, hown, hq⟩ (kC_isRegister l s.heap d) (va_cwS 1 hq (wA_S q_243 q_244 q_1 q_245) rfl rfl rfl (by decide +kernel) ⟨Nat.le_of_ble_eq_true rfl, Nat.le_of_ble_eq_true rfl⟩) ⟨fun a U g mk q => q, fun U hU hW => ⟨rfl, hU⟩⟩ rfl rfl hl.1 rfl (lv_room (Nat.le_of_ble_eq_true rfl)) dC_gate_8 ⟨Nat.zero_le _, Nat.zero_le _⟩) hS (fun locs hS => ?_)
    refine lv_if_ne (tgt := 24) hx hb dC_gate_11 rfl (fun h2 => ?_) (fun h2 => ?_)
    · have gd := zz_reg h2
      refine zj_i (A0 := A) (H0 := s.heap) (tC_gate tg ad mt d r) 46 [] (fun locs hS => ?_) (fun J9 => ?_)
      · refine lv_istore_n (lv' := [(3, .int (tC_gate tg ad mt d r)), (0, .ref (q 0)), (1, .int d), (2, .int r)]) hx hb dC_gate_46 rfl hl (by decide) rfl (fun ls hl => ?_)
        refine lv_aload_n hx hb dC_gate_47 rfl (lv_at hl 1 rfl) ?_
        refine lv_iload_n hx hb dC_gate_48 rfl (lv_at hl 2 rfl) ?_
        refine lv_iload_n hx hb dC_gate_49 rfl (lv_at hl 0 rfl) ?_
        refine lv_aload_n hx hb dC_gate_50 rfl (lv_at hl 1 rfl) ?_
        refine va_get (D := D) (ci := 0) (v := .ref (q 2)) (C := "CapUnit") (T := TC) (N := 7) hx hb hq uC_in hown hK hP 0 rfl rfl 1 (by decide) (hq _ q_20) (fun _ h9 => h9) rfl dC_gate_51 ?_
        refine lv_iload_n hx hb dC_gate_54 rfl (lv_at hl 3 rfl) ?_
        refine va_iald hx hb hK hP 2 1 rfl rfl (i := r) gr dC_gate_55 ?_
        refine lv_aload_n hx hb dC_gate_56 rfl (lv_at hl 1 rfl) ?_
        refine va_get (D := D) (ci := 0) (v := .ref (q 3)) (C := "CapUnit") (T := TC) (N := 7) hx hb hq uC_in hown hK hP 0 rfl rfl 2 (by decide) (hq _ q_21) (fun _ h9 => h9) rfl dC_gate_57 ?_
        refine lv_iload_n hx hb dC_gate_60 rfl (lv_at hl 3 rfl) ?_
        refine va_iald hx hb hK hP 3 1 rfl rfl (i := r) gr dC_gate_61 ?_
        refine lv_bipush (v := 14) hx hb dC_gate_62 (by decide) ?_
        refine zc_i (va_runS (As := [.int (mt r.toNatClampNeg), .int (14 : Int32)]) (rest := [.int (ad r.toNatClampNeg), .int (tC_gate tg ad mt d r), .int d, .ref (q 0)]) ⟨hx, hb, hml, hown, hq⟩ (kC_withType l s.heap (mt r.toNatClampNeg) (14 : Int32)) (va_cwS 2 hq (wA_S q_298 q_299 q_1 q_300) rfl rfl rfl (by decide +kernel) ⟨Nat.le_of_ble_eq_true rfl, Nat.le_of_ble_eq_true rfl⟩) ⟨fun a U g mk q => q, fun U hU hW => ⟨rfl, hU⟩⟩ rfl rfl hl.1 rfl (lv_room (Nat.le_of_ble_eq_true rfl)) dC_gate_64 ⟨Nat.zero_le _, Nat.zero_le _⟩) hS (fun locs hS => ?_)
        refine va_calli (va_runV (C := "CapUnit") (b := q 0) (As := [.int d, .int (tC_gate tg ad mt d r), .int (ad r.toNatClampNeg), .int (fC_withType (mt r.toNatClampNeg) (14 : Int32))]) (rest := []) ⟨hx, hb, hml, hown, hq⟩ (kC_become l d (tC_gate tg ad mt d r) (ad r.toNatClampNeg) (fC_withType (mt r.toNatClampNeg) (14 : Int32)) gd (btC_gate tg ad mt d r)) (cwV 4 hq (wA_V q_232 q_234 sC_become q_1 q_235) rfl rfl rfl (by decide +kernel) ⟨Nat.le_of_ble_eq_true rfl, Nat.le_of_ble_eq_true rfl⟩) (zw_pre (c := zCl[0]) (q0 := 0) hK hP hD rfl rfl) rfl rfl hl.1 rfl (lv_room (Nat.le_of_ble_eq_true rfl)) dC_gate_67 ⟨Nat.le_of_ble_eq_true rfl, Nat.le_of_ble_eq_true rfl⟩) hS (fun _ _ h9 => h9) (fun _ h9 => h9) (fun v9 u9 t9 H locs ht9 hvm9 hv9 hB9 hz9 hk9 hS => ?_)
        obtain ⟨hP, -, hD⟩ := hB9
        rw [ht9] at hP
        subst hv9
        clear hz9 hk9
        refine vx_ret (W.widen (k := 1) (n := 6) (by decide) (by decide) ?_)
        exact W.zret (v := zSr d (tC_gate tg ad mt d r)) hx hb hr (zz_nar (zSr_b (btC_gate tg ad mt d r))) (fun t9 ht hW => ⟨⟨_, (), rfl, ⟨(by unfold xC_gate; rw [if_neg h1, if_neg h2]), (rfl)⟩, by rw [ht]; exact hP, va_K.moved hW.alike hK, hD⟩, hS.F ht⟩) hS.2.2 dC_gate_70
      · refine lv_aload_n hx hb dC_gate_24 rfl (lv_at hl 0 rfl) ?_
        refine lv_iload_n hx hb dC_gate_25 rfl (lv_at hl 2 rfl) ?_
        refine zc_i (va_runV (C := "CapUnit") (b := q 0) (As := [.int r]) (rest := []) ⟨hx, hb, hml, hown, hq⟩ (kC_isOpenWithTag l hP r gr) (cwV 1 hq (wA_V q_257 q_259 sC_isOpenWithTag q_1 q_260) rfl rfl rfl (by decide +kernel) ⟨Nat.le_of_ble_eq_true rfl, Nat.le_of_ble_eq_true rfl⟩) (zr_pre (c := zCl[0]) (q0 := 0) hK hP rfl rfl) rfl rfl hl.1 rfl (lv_room (Nat.le_of_ble_eq_true rfl)) dC_gate_26 ⟨Nat.le_of_ble_eq_true rfl, Nat.le_of_ble_eq_true rfl⟩) hS (fun locs hS => ?_)
        refine lv_if_eq (tgt := 45) hx hb dC_gate_29 rfl (fun h3 => ?_) (fun h3 => ?_)
        · refine lv_iconst (v := 0) hx hb dC_gate_45 (by decide) ?_
          exact J9 _ _ (by unfold tC_gate; rw [if_pos h3]) hS
        · refine lv_aload_n hx hb dC_gate_32 rfl (lv_at hl 0 rfl) ?_
          refine lv_iload_n hx hb dC_gate_33 rfl (lv_at hl 2 rfl) ?_
          refine lv_iconst (v := 2) hx hb dC_gate_34 (by decide) ?_
          refine zc_i (va_runV (C := "CapUnit") (b := q 0) (As := [.int r, .int (2 : Int32)]) (rest := []) ⟨hx, hb, hml, hown, hq⟩ (kC_hasPerm l hP r (2 : Int32) gr) (cwV 2 hq (wA_V q_293 q_295 sC_hasPerm q_1 q_296) rfl rfl rfl (by decide +kernel) ⟨Nat.le_of_ble_eq_true rfl, Nat.le_of_ble_eq_true rfl⟩) (zr_pre (c := zCl[0]) (q0 := 0) hK hP rfl rfl) rfl rfl hl.1 rfl (lv_room (Nat.le_of_ble_eq_true rfl)) dC_gate_35 ⟨Nat.le_of_ble_eq_true rfl, Nat.le_of_ble_eq_true rfl⟩) hS (fun locs hS => ?_)
          refine lv_if_eq (tgt := 45) hx hb dC_gate_38 rfl (fun h4 => ?_) (fun h4 => ?_)
          · refine lv_iconst (v := 0) hx hb dC_gate_45 (by decide) ?_
            exact J9 _ _ (by unfold tC_gate; rw [if_neg h3, if_pos h4]) hS
          · refine lv_iconst (v := 1) hx hb dC_gate_41 (by decide) ?_
            refine lv_goto (tgt := 46) hx hb dC_gate_42 rfl ?_
            exact J9 _ _ (by unfold tC_gate; rw [if_neg h3, if_neg h4]) hS
    · exact vx_throwS (rest := []) (names := xUp) (A := A) hx hb hl0 hown (by decide +kernel) (by decide +kernel) (hq _ q_109) (hq _ q_6) hX.2.2.2.2.2.2.2.1.choose_spec (x_all hq x_good39 x_bad39 hX.2.1.1 hX.2.2.2.1.1 hX.2.2.2.1.2.1 hX.2.2.2.1.2.2) x_ot39 hX.1.1 hX.1.2 hS (hl.1.trans hml.symm) dC_gate_14 dC_gate_17 dC_gate_18 dC_gate_20 dC_gate_23 (fun x h9 => (hnt x h9).elim) (Nat.le_of_ble_eq_true rfl) (Nat.le_of_ble_eq_true rfl) (Nat.le_of_ble_eq_true rfl) (Nat.le_of_ble_eq_true rfl) hlocks (fun t9 ha hz hk9 => ⟨(), trivial, ⟨Or.inl ⟨rfl, (by unfold xC_gate; rw [if_neg h1, if_pos h2])⟩, hP.kept (fun _ q9 hq9 => hk9 q9.1 (vx_lt hP hq9)), va_K.moved ha hK⟩, hz, fun q9 h1 _ => hk9 q9 h1⟩) hS.2.2 (by decide) (by decide)
def tC_build (tg : Nat → Int32) (ad : Nat → Int32) (mt : Nat → Int32) (d : Int32) (r : Int32) (y : Int32) : Int32 := if (fC_isOpenWithTag tg ad mt r) = 0 then (0 : Int32) else (if (fC_topIn tg ad mt y) < (fC_baseIn tg ad mt y) then (0 : Int32) else (if (fC_isWithin tg ad mt y (fC_baseIn tg ad mt r) (fC_topIn tg ad mt r) (fC_permsOf (mt r.toNatClampNeg))) = 0 then (0 : Int32) else (1 : Int32)))
theorem btC_build (tg : Nat → Int32) (ad : Nat → Int32) (mt : Nat → Int32) (d : Int32) (r : Int32) (y : Int32) : tC_build tg ad mt d r y = 0 ∨ tC_build tg ad mt d r y = 1 := by
  unfold tC_build
  repeat' split
  all_goals first | exact Or.inl rfl | exact Or.inr rfl
def uC_build (tg : Nat → Int32) (ad : Nat → Int32) (mt : Nat → Int32) (d : Int32) (r : Int32) (y : Int32) : Int32 := if (fC_typeOf (mt y.toNatClampNeg)) = (14 : Int32) then (14 : Int32) else (15 : Int32)
def xC_build (tg : Nat → Int32) (ad : Nat → Int32) (mt : Nat → Int32) (d : Int32) (r : Int32) (y : Int32) : Int32 := if (fC_isRegister r) = 0 then 1 else (if (fC_isRegister d) = 0 then 1 else (if (fC_isRegister y) = 0 then 1 else 0))
set_option maxHeartbeats 4000000 in
set_option maxRecDepth 100000 in
theorem kC_build (l : Launch) (hl0 : l.stackTraces = false) {D : va_G} {q : Nat → Nat} {k : Nat → ClassId} {tg : Nat → Int32} {ad : Nat → Int32} {mt : Nat → Int32} {rb : Nat → Int64} {rt : Nat → Int64} {rp : Nat → Int32} {nr : Int32} {A : Nat → Prop} (d : Int32) (r : Int32) (y : Int32) : vx_Met l yC_build wC_build { frames := 6, cells := 1, slots := 6, locals := 124 } (va_Pc [.ref (q 0), .int d, .int r, .int y] (fun U => va_P D zCl (cW q k tg ad mt rb rt rp nr) U.heap ∧ va_K D zCl (zT k) U ∧ va_D A (cW q k tg ad mt rb rt rp nr) ∧ zX A U U.heap)) (va_Qi (fun v9 (_ : Unit) => xC_build tg ad mt d r y = 0 ∧ v9 = zSr d (tC_build tg ad mt d r y)) (fun _ t => va_P D zCl (cW q k (zS d (tC_build tg ad mt d r y) tg) (zS d (ad y.toNatClampNeg) ad) (zS d (fC_withType (mt y.toNatClampNeg) (uC_build tg ad mt d r y)) mt) rb rt rp nr) t.heap ∧ va_K D zCl (zT k) t ∧ va_D A (cW q k (zS d (tC_build tg ad mt d r y) tg) (zS d (ad y.toNatClampNeg) ad) (zS d (fC_withType (mt y.toNatClampNeg) (uC_build tg ad mt d r y)) mt) rb rt rp nr)) A) (vx_X (fun _ : Unit => True) (fun E _ t => zE E (xC_build tg ad mt d r y) ∧ va_P D zCl (cW q k tg ad mt rb rt rp nr) t.heap ∧ va_K D zCl (zT k) t) A) 1 6 A := by
  refine vx_ofW (cc := cC_build) (maxL := 6) (ret := (some .boolean)) (by decide) rfl ?_
  intro p e s m args below meth c s₁ B hml hnt hv
  obtain ⟨rfl, hP, hK, hD, hX⟩ := hv
  have hx := B.exec
  have hb := B.bytes
  have hr := B.returns
  have hts := atoms_spec (ws := wC_build) B.pre
  have hq : ∀ w ∈ wA, w.before _ s = true := fun w h => hts w (List.mem_cons_of_mem _ h)
  have hown : s.vm.findClass "CapUnit" = some m.cls := findClass_of_methodNamed B.named
  have hlocks := B.notSynchronized
  have hS : va_S A s.heap s.heap [] := va_S.rf
  have hl := lv_entry ([.ref (q 0), .int d, .int r, .int y]) (n := 6) (Nat.le_of_ble_eq_true rfl)
  rw [lg_entry_eq]
  generalize (lg_sl ([.ref (q 0), .int d, .int r, .int y]) ++ List.replicate (6 - (lg_sl ([.ref (q 0), .int d, .int r, .int y])).length) Slot.unset).toArray = ls at hl ⊢
  have hl : lv_has ls 6 [(0, .ref (q 0)), (1, .int d), (2, .int r), (3, .int y)] := hl
  refine lv_iload_n hx hb dC_build_0 rfl (lv_at hl 2 rfl) ?_
  refine zc_i (va_runS (As := [.int r]) (rest := []) ⟨hx, hb, hml, hown, hq⟩ (kC_isRegister l s.heap r) (va_cwS 1 hq (wA_S q_243 q_244 q_1 q_245) rfl rfl rfl (by decide +kernel) ⟨Nat.le_of_ble_eq_true rfl, Nat.le_of_ble_eq_true rfl⟩) ⟨fun a U g mk q => q, fun U hU hW => ⟨rfl, hU⟩⟩ rfl rfl hl.1 rfl (lv_room (Nat.le_of_ble_eq_true rfl)) dC_build_1 ⟨Nat.zero_le _, Nat.zero_le _⟩) hS (fun locs hS => ?_)
  refine lv_if_eq (tgt := 21) hx hb dC_build_4 rfl (fun h1 => ?_) (fun h1 => ?_)
  · exact vx_throwS (rest := []) (names := xUp) (A := A) hx hb hl0 hown (by decide +kernel) (by decide +kernel) (hq _ q_109) (hq _ q_6) hX.2.2.2.2.2.2.2.1.choose_spec (x_all hq x_good39 x_bad39 hX.2.1.1 hX.2.2.2.1.1 hX.2.2.2.1.2.1 hX.2.2.2.1.2.2) x_ot39 hX.1.1 hX.1.2 hS (hl.1.trans hml.symm) dC_build_21 dC_build_24 dC_build_25 dC_build_27 dC_build_30 (fun x h9 => (hnt x h9).elim) (Nat.le_of_ble_eq_true rfl) (Nat.le_of_ble_eq_true rfl) (Nat.le_of_ble_eq_true rfl) (Nat.le_of_ble_eq_true rfl) hlocks (fun t9 ha hz hk9 => ⟨(), trivial, ⟨Or.inl ⟨rfl, (by unfold xC_build; rw [if_pos h1])⟩, hP.kept (fun _ q9 hq9 => hk9 q9.1 (vx_lt hP hq9)), va_K.moved ha hK⟩, hz, fun q9 h1 _ => hk9 q9 h1⟩) hS.2.2 (by decide) (by decide)
  · have gr := zz_reg h1
    refine lv_iload_n hx hb dC_build_7 rfl (lv_at hl 1 rfl) ?_
    refine zc_i (va_runS (As := [.int d]) (rest := []) ⟨hx, hb, hml, hown, hq⟩ (kC_isRegister l s.heap d) (va_cwS 1 hq (wA_S q_243 q_244 q_1 q_245) rfl rfl rfl (by decide +kernel) ⟨Nat.le_of_ble_eq_true rfl, Nat.le_of_ble_eq_true rfl⟩) ⟨fun a U g mk q => q, fun U hU hW => ⟨rfl, hU⟩⟩ rfl rfl hl.1 rfl (lv_room (Nat.le_of_ble_eq_true rfl)) dC_build_8 ⟨Nat.zero_le _, Nat.zero_le _⟩) hS (fun locs hS => ?_)
    refine lv_if_eq (tgt := 21) hx hb dC_build_11 rfl (fun h2 => ?_) (fun h2 => ?_)
    · exact vx_throwS (rest := []) (names := xUp) (A := A) hx hb hl0 hown (by decide +kernel) (by decide +kernel) (hq _ q_109) (hq _ q_6) hX.2.2.2.2.2.2.2.1.choose_spec (x_all hq x_good39 x_bad39 hX.2.1.1 hX.2.2.2.1.1 hX.2.2.2.1.2.1 hX.2.2.2.1.2.2) x_ot39 hX.1.1 hX.1.2 hS (hl.1.trans hml.symm) dC_build_21 dC_build_24 dC_build_25 dC_build_27 dC_build_30 (fun x h9 => (hnt x h9).elim) (Nat.le_of_ble_eq_true rfl) (Nat.le_of_ble_eq_true rfl) (Nat.le_of_ble_eq_true rfl) (Nat.le_of_ble_eq_true rfl) hlocks (fun t9 ha hz hk9 => ⟨(), trivial, ⟨Or.inl ⟨rfl, (by unfold xC_build; rw [if_neg h1, if_pos h2])⟩, hP.kept (fun _ q9 hq9 => hk9 q9.1 (vx_lt hP hq9)), va_K.moved ha hK⟩, hz, fun q9 h1 _ => hk9 q9 h1⟩) hS.2.2 (by decide) (by decide)
    · have gd := zz_reg h2
      refine lv_iload_n hx hb dC_build_14 rfl (lv_at hl 3 rfl) ?_
      refine zc_i (va_runS (As := [.int y]) (rest := []) ⟨hx, hb, hml, hown, hq⟩ (kC_isRegister l s.heap y) (va_cwS 1 hq (wA_S q_243 q_244 q_1 q_245) rfl rfl rfl (by decide +kernel) ⟨Nat.le_of_ble_eq_true rfl, Nat.le_of_ble_eq_true rfl⟩) ⟨fun a U g mk q => q, fun U hU hW => ⟨rfl, hU⟩⟩ rfl rfl hl.1 rfl (lv_room (Nat.le_of_ble_eq_true rfl)) dC_build_15 ⟨Nat.zero_le _, Nat.zero_le _⟩) hS (fun locs hS => ?_)
      refine lv_if_ne (tgt := 31) hx hb dC_build_18 rfl (fun h3 => ?_) (fun h3 => ?_)
      · have gy := zz_reg h3
        refine zj_i (A0 := A) (H0 := s.heap) (tC_build tg ad mt d r y) 85 [] (fun locs hS => ?_) (fun J9 => ?_)
        · refine lv_istore (lv' := [(4, .int (tC_build tg ad mt d r y)), (0, .ref (q 0)), (1, .int d), (2, .int r), (3, .int y)]) hx hb dC_build_85 hl (by decide) rfl (fun ls hl => ?_)
          refine zj_i (A0 := A) (H0 := s.heap) (uC_build tg ad mt d r y) 108 [] (fun locs hS => ?_) (fun J9 => ?_)
          · refine lv_istore (lv' := [(5, .int (uC_build tg ad mt d r y)), (4, .int (tC_build tg ad mt d r y)), (0, .ref (q 0)), (1, .int d), (2, .int r), (3, .int y)]) hx hb dC_build_108 hl (by decide) rfl (fun ls hl => ?_)
            refine lv_aload_n hx hb dC_build_110 rfl (lv_at hl 2 rfl) ?_
            refine lv_iload_n hx hb dC_build_111 rfl (lv_at hl 3 rfl) ?_
            refine lv_iload hx hb dC_build_112 (lv_at hl 1 rfl) ?_
            refine lv_aload_n hx hb dC_build_114 rfl (lv_at hl 2 rfl) ?_
            refine va_get (D := D) (ci := 0) (v := .ref (q 2)) (C := "CapUnit") (T := TC) (N := 7) hx hb hq uC_in hown hK hP 0 rfl rfl 1 (by decide) (hq _ q_20) (fun _ h9 => h9) rfl dC_build_115 ?_
            refine lv_iload_n hx hb dC_build_118 rfl (lv_at hl 5 rfl) ?_
            refine va_iald hx hb hK hP 2 1 rfl rfl (i := y) gy dC_build_119 ?_
            refine lv_aload_n hx hb dC_build_120 rfl (lv_at hl 2 rfl) ?_
            refine va_get (D := D) (ci := 0) (v := .ref (q 3)) (C := "CapUnit") (T := TC) (N := 7) hx hb hq uC_in hown hK hP 0 rfl rfl 2 (by decide) (hq _ q_21) (fun _ h9 => h9) rfl dC_build_121 ?_
            refine lv_iload_n hx hb dC_build_124 rfl (lv_at hl 5 rfl) ?_
            refine va_iald hx hb hK hP 3 1 rfl rfl (i := y) gy dC_build_125 ?_
            refine lv_iload hx hb dC_build_126 (lv_at hl 0 rfl) ?_
            refine zc_i (va_runS (As := [.int (mt y.toNatClampNeg), .int (uC_build tg ad mt d r y)]) (rest := [.int (ad y.toNatClampNeg), .int (tC_build tg ad mt d r y), .int d, .ref (q 0)]) ⟨hx, hb, hml, hown, hq⟩ (kC_withType l s.heap (mt y.toNatClampNeg) (uC_build tg ad mt d r y)) (va_cwS 2 hq (wA_S q_298 q_299 q_1 q_300) rfl rfl rfl (by decide +kernel) ⟨Nat.le_of_ble_eq_true rfl, Nat.le_of_ble_eq_true rfl⟩) ⟨fun a U g mk q => q, fun U hU hW => ⟨rfl, hU⟩⟩ rfl rfl hl.1 rfl (lv_room (Nat.le_of_ble_eq_true rfl)) dC_build_128 ⟨Nat.zero_le _, Nat.zero_le _⟩) hS (fun locs hS => ?_)
            refine va_calli (va_runV (C := "CapUnit") (b := q 0) (As := [.int d, .int (tC_build tg ad mt d r y), .int (ad y.toNatClampNeg), .int (fC_withType (mt y.toNatClampNeg) (uC_build tg ad mt d r y))]) (rest := []) ⟨hx, hb, hml, hown, hq⟩ (kC_become l d (tC_build tg ad mt d r y) (ad y.toNatClampNeg) (fC_withType (mt y.toNatClampNeg) (uC_build tg ad mt d r y)) gd (btC_build tg ad mt d r y)) (cwV 4 hq (wA_V q_232 q_234 sC_become q_1 q_235) rfl rfl rfl (by decide +kernel) ⟨Nat.le_of_ble_eq_true rfl, Nat.le_of_ble_eq_true rfl⟩) (zw_pre (c := zCl[0]) (q0 := 0) hK hP hD rfl rfl) rfl rfl hl.1 rfl (lv_room (Nat.le_of_ble_eq_true rfl)) dC_build_131 ⟨Nat.le_of_ble_eq_true rfl, Nat.le_of_ble_eq_true rfl⟩) hS (fun _ _ h9 => h9) (fun _ h9 => h9) (fun v9 u9 t9 H locs ht9 hvm9 hv9 hB9 hz9 hk9 hS => ?_)
            obtain ⟨hP, -, hD⟩ := hB9
            rw [ht9] at hP
            subst hv9
            clear hz9 hk9
            refine vx_ret (W.widen (k := 1) (n := 6) (by decide) (by decide) ?_)
            exact W.zret (v := zSr d (tC_build tg ad mt d r y)) hx hb hr (zz_nar (zSr_b (btC_build tg ad mt d r y))) (fun t9 ht hW => ⟨⟨_, (), rfl, ⟨(by unfold xC_build; rw [if_neg h1, if_neg h2, if_neg h3]), (rfl)⟩, by rw [ht]; exact hP, va_K.moved hW.alike hK, hD⟩, hS.F ht⟩) hS.2.2 dC_build_134
          · refine lv_aload_n hx hb dC_build_87 rfl (lv_at hl 1 rfl) ?_
            refine va_get (D := D) (ci := 0) (v := .ref (q 3)) (C := "CapUnit") (T := TC) (N := 7) hx hb hq uC_in hown hK hP 0 rfl rfl 2 (by decide) (hq _ q_21) (fun _ h9 => h9) rfl dC_build_88 ?_
            refine lv_iload_n hx hb dC_build_91 rfl (lv_at hl 4 rfl) ?_
            refine va_iald hx hb hK hP 3 1 rfl rfl (i := y) gy dC_build_92 ?_
            refine zc_i (va_runS (As := [.int (mt y.toNatClampNeg)]) (rest := []) ⟨hx, hb, hml, hown, hq⟩ (kC_typeOf l s.heap (mt y.toNatClampNeg)) (va_cwS 1 hq (wA_S q_261 q_262 q_1 q_263) rfl rfl rfl (by decide +kernel) ⟨Nat.le_of_ble_eq_true rfl, Nat.le_of_ble_eq_true rfl⟩) ⟨fun a U g mk q => q, fun U hU hW => ⟨rfl, hU⟩⟩ rfl rfl hl.1 rfl (lv_room (Nat.le_of_ble_eq_true rfl)) dC_build_93 ⟨Nat.zero_le _, Nat.zero_le _⟩) hS (fun locs hS => ?_)
            refine lv_bipush (v := 14) hx hb dC_build_96 (by decide) ?_
            refine lv_icmp_ne (tgt := 106) hx hb dC_build_98 rfl (fun h4 => ?_) (fun h4 => ?_)
            · refine lv_bipush (v := 15) hx hb dC_build_106 (by decide) ?_
              exact J9 _ _ (by unfold uC_build; rw [if_neg h4]) hS
            · refine lv_bipush (v := 14) hx hb dC_build_101 (by decide) ?_
              refine lv_goto (tgt := 108) hx hb dC_build_103 rfl ?_
              exact J9 _ _ (by unfold uC_build; rw [if_pos h4]) hS
        · refine lv_aload_n hx hb dC_build_31 rfl (lv_at hl 0 rfl) ?_
          refine lv_iload_n hx hb dC_build_32 rfl (lv_at hl 2 rfl) ?_
          refine zc_i (va_runV (C := "CapUnit") (b := q 0) (As := [.int r]) (rest := []) ⟨hx, hb, hml, hown, hq⟩ (kC_isOpenWithTag l hP r gr) (cwV 1 hq (wA_V q_257 q_259 sC_isOpenWithTag q_1 q_260) rfl rfl rfl (by decide +kernel) ⟨Nat.le_of_ble_eq_true rfl, Nat.le_of_ble_eq_true rfl⟩) (zr_pre (c := zCl[0]) (q0 := 0) hK hP rfl rfl) rfl rfl hl.1 rfl (lv_room (Nat.le_of_ble_eq_true rfl)) dC_build_33 ⟨Nat.le_of_ble_eq_true rfl, Nat.le_of_ble_eq_true rfl⟩) hS (fun locs hS => ?_)
          refine lv_if_eq (tgt := 84) hx hb dC_build_36 rfl (fun h5 => ?_) (fun h5 => ?_)
          · refine lv_iconst (v := 0) hx hb dC_build_84 (by decide) ?_
            exact J9 _ _ (by unfold tC_build; rw [if_pos h5]) hS
          · refine lv_aload_n hx hb dC_build_39 rfl (lv_at hl 0 rfl) ?_
            refine lv_iload_n hx hb dC_build_40 rfl (lv_at hl 3 rfl) ?_
            refine zc_l (va_runV (C := "CapUnit") (b := q 0) (As := [.int y]) (rest := []) ⟨hx, hb, hml, hown, hq⟩ (kC_baseIn l hP y gy) (cwV 1 hq (wA_V q_88 q_90 sC_baseIn q_1 q_91) rfl rfl rfl (by decide +kernel) ⟨Nat.le_of_ble_eq_true rfl, Nat.le_of_ble_eq_true rfl⟩) (zr_pre (c := zCl[0]) (q0 := 0) hK hP rfl rfl) rfl rfl hl.1 rfl (lv_room (Nat.le_of_ble_eq_true rfl)) dC_build_41 ⟨Nat.le_of_ble_eq_true rfl, Nat.le_of_ble_eq_true rfl⟩) hS (fun locs hS => ?_)
            refine lv_aload_n hx hb dC_build_44 rfl (lv_at hl 0 rfl) ?_
            refine lv_iload_n hx hb dC_build_45 rfl (lv_at hl 3 rfl) ?_
            refine zc_l (va_runV (C := "CapUnit") (b := q 0) (As := [.int y]) (rest := [.long (fC_baseIn tg ad mt y)]) ⟨hx, hb, hml, hown, hq⟩ (kC_topIn l hP y gy) (cwV 1 hq (wA_V q_92 q_94 sC_topIn q_1 q_95) rfl rfl rfl (by decide +kernel) ⟨Nat.le_of_ble_eq_true rfl, Nat.le_of_ble_eq_true rfl⟩) (zr_pre (c := zCl[0]) (q0 := 0) hK hP rfl rfl) rfl rfl hl.1 rfl (lv_room (Nat.le_of_ble_eq_true rfl)) dC_build_46 ⟨Nat.le_of_ble_eq_true rfl, Nat.le_of_ble_eq_true rfl⟩) hS (fun locs hS => ?_)
            refine W.lcmp hx hb dC_build_49 ?_
            refine lv_if_gt (tgt := 84) hx hb dC_build_50 rfl (fun h6 => ?_) (fun h6 => ?_)
            · have h6 := (lg_cmp_gt _ _).mp h6
              refine lv_iconst (v := 0) hx hb dC_build_84 (by decide) ?_
              exact J9 _ _ (by unfold tC_build; rw [if_neg h5, if_pos h6]) hS
            · have h6 := Not.imp h6 (lg_cmp_gt _ _).mpr
              refine lv_aload_n hx hb dC_build_53 rfl (lv_at hl 0 rfl) ?_
              refine lv_iload_n hx hb dC_build_54 rfl (lv_at hl 3 rfl) ?_
              refine lv_aload_n hx hb dC_build_55 rfl (lv_at hl 0 rfl) ?_
              refine lv_iload_n hx hb dC_build_56 rfl (lv_at hl 2 rfl) ?_
              refine zc_l (va_runV (C := "CapUnit") (b := q 0) (As := [.int r]) (rest := [.int y, .ref (q 0)]) ⟨hx, hb, hml, hown, hq⟩ (kC_baseIn l hP r gr) (cwV 1 hq (wA_V q_88 q_90 sC_baseIn q_1 q_91) rfl rfl rfl (by decide +kernel) ⟨Nat.le_of_ble_eq_true rfl, Nat.le_of_ble_eq_true rfl⟩) (zr_pre (c := zCl[0]) (q0 := 0) hK hP rfl rfl) rfl rfl hl.1 rfl (lv_room (Nat.le_of_ble_eq_true rfl)) dC_build_57 ⟨Nat.le_of_ble_eq_true rfl, Nat.le_of_ble_eq_true rfl⟩) hS (fun locs hS => ?_)
              refine lv_aload_n hx hb dC_build_60 rfl (lv_at hl 0 rfl) ?_
              refine lv_iload_n hx hb dC_build_61 rfl (lv_at hl 2 rfl) ?_
              refine zc_l (va_runV (C := "CapUnit") (b := q 0) (As := [.int r]) (rest := [.long (fC_baseIn tg ad mt r), .int y, .ref (q 0)]) ⟨hx, hb, hml, hown, hq⟩ (kC_topIn l hP r gr) (cwV 1 hq (wA_V q_92 q_94 sC_topIn q_1 q_95) rfl rfl rfl (by decide +kernel) ⟨Nat.le_of_ble_eq_true rfl, Nat.le_of_ble_eq_true rfl⟩) (zr_pre (c := zCl[0]) (q0 := 0) hK hP rfl rfl) rfl rfl hl.1 rfl (lv_room (Nat.le_of_ble_eq_true rfl)) dC_build_62 ⟨Nat.le_of_ble_eq_true rfl, Nat.le_of_ble_eq_true rfl⟩) hS (fun locs hS => ?_)
              refine lv_aload_n hx hb dC_build_65 rfl (lv_at hl 0 rfl) ?_
              refine va_get (D := D) (ci := 0) (v := .ref (q 3)) (C := "CapUnit") (T := TC) (N := 7) hx hb hq uC_in hown hK hP 0 rfl rfl 2 (by decide) (hq _ q_21) (fun _ h9 => h9) rfl dC_build_66 ?_
              refine lv_iload_n hx hb dC_build_69 rfl (lv_at hl 2 rfl) ?_
              refine va_iald hx hb hK hP 3 1 rfl rfl (i := r) gr dC_build_70 ?_
              refine zc_i (va_runS (As := [.int (mt r.toNatClampNeg)]) (rest := [.long (fC_topIn tg ad mt r), .long (fC_baseIn tg ad mt r), .int y, .ref (q 0)]) ⟨hx, hb, hml, hown, hq⟩ (kC_permsOf l s.heap (mt r.toNatClampNeg)) (va_cwS 1 hq (wA_S q_96 q_97 q_1 q_98) rfl rfl rfl (by decide +kernel) ⟨Nat.le_of_ble_eq_true rfl, Nat.le_of_ble_eq_true rfl⟩) ⟨fun a U g mk q => q, fun U hU hW => ⟨rfl, hU⟩⟩ rfl rfl hl.1 rfl (lv_room (Nat.le_of_ble_eq_true rfl)) dC_build_71 ⟨Nat.zero_le _, Nat.zero_le _⟩) hS (fun locs hS => ?_)
              refine zc_i (va_runV (C := "CapUnit") (b := q 0) (As := [.int y, .long (fC_baseIn tg ad mt r), .long (fC_topIn tg ad mt r), .int (fC_permsOf (mt r.toNatClampNeg))]) (rest := []) ⟨hx, hb, hml, hown, hq⟩ (kC_isWithin l hP y (fC_baseIn tg ad mt r) (fC_topIn tg ad mt r) (fC_permsOf (mt r.toNatClampNeg)) gy) (cwV 4 hq (wA_V q_84 q_86 sC_isWithin q_1 q_87) rfl rfl rfl (by decide +kernel) ⟨Nat.le_of_ble_eq_true rfl, Nat.le_of_ble_eq_true rfl⟩) (zr_pre (c := zCl[0]) (q0 := 0) hK hP rfl rfl) rfl rfl hl.1 rfl (lv_room (Nat.le_of_ble_eq_true rfl)) dC_build_74 ⟨Nat.le_of_ble_eq_true rfl, Nat.le_of_ble_eq_true rfl⟩) hS (fun locs hS => ?_)
              refine lv_if_eq (tgt := 84) hx hb dC_build_77 rfl (fun h7 => ?_) (fun h7 => ?_)
              · refine lv_iconst (v := 0) hx hb dC_build_84 (by decide) ?_
                exact J9 _ _ (by unfold tC_build; rw [if_neg h5, if_neg h6, if_pos h7]) hS
              · refine lv_iconst (v := 1) hx hb dC_build_80 (by decide) ?_
                refine lv_goto (tgt := 85) hx hb dC_build_81 rfl ?_
                exact J9 _ _ (by unfold tC_build; rw [if_neg h5, if_neg h6, if_neg h7]) hS
      · exact vx_throwS (rest := []) (names := xUp) (A := A) hx hb hl0 hown (by decide +kernel) (by decide +kernel) (hq _ q_109) (hq _ q_6) hX.2.2.2.2.2.2.2.1.choose_spec (x_all hq x_good39 x_bad39 hX.2.1.1 hX.2.2.2.1.1 hX.2.2.2.1.2.1 hX.2.2.2.1.2.2) x_ot39 hX.1.1 hX.1.2 hS (hl.1.trans hml.symm) dC_build_21 dC_build_24 dC_build_25 dC_build_27 dC_build_30 (fun x h9 => (hnt x h9).elim) (Nat.le_of_ble_eq_true rfl) (Nat.le_of_ble_eq_true rfl) (Nat.le_of_ble_eq_true rfl) (Nat.le_of_ble_eq_true rfl) hlocks (fun t9 ha hz hk9 => ⟨(), trivial, ⟨Or.inl ⟨rfl, (by unfold xC_build; rw [if_neg h1, if_neg h2, if_pos h3])⟩, hP.kept (fun _ q9 hq9 => hk9 q9.1 (vx_lt hP hq9)), va_K.moved ha hK⟩, hz, fun q9 h1 _ => hk9 q9 h1⟩) hS.2.2 (by decide) (by decide)
def xC_subset (tg : Nat → Int32) (ad : Nat → Int32) (mt : Nat → Int32) (r : Int32) (y : Int32) : Int32 := if (fC_isRegister r) = 0 then 1 else (if (fC_isRegister y) = 0 then 1 else (if (tg r.toNatClampNeg) = (tg y.toNatClampNeg) then (if (fC_isWithin tg ad mt y (fC_baseIn tg ad mt r) (fC_topIn tg ad mt r) (fC_permsOf (mt r.toNatClampNeg))) = 0 then 0 else 0) else 0))
def fC_subset (tg : Nat → Int32) (ad : Nat → Int32) (mt : Nat → Int32) (r : Int32) (y : Int32) : Int32 := if (fC_isRegister r) = 0 then 0 else (if (fC_isRegister y) = 0 then 0 else (if (tg r.toNatClampNeg) = (tg y.toNatClampNeg) then (if (fC_isWithin tg ad mt y (fC_baseIn tg ad mt r) (fC_topIn tg ad mt r) (fC_permsOf (mt r.toNatClampNeg))) = 0 then (0 : Int32) else (1 : Int32)) else (0 : Int32)))
theorem bC_subset (tg : Nat → Int32) (ad : Nat → Int32) (mt : Nat → Int32) (r : Int32) (y : Int32) : fC_subset tg ad mt r y = 0 ∨ fC_subset tg ad mt r y = 1 := by
  unfold fC_subset
  repeat' split
  all_goals first | exact Or.inl rfl | exact Or.inr rfl | exact bC_isWithin ..
set_option maxHeartbeats 4000000 in
set_option maxRecDepth 100000 in
theorem kC_subset (l : Launch) (hl0 : l.stackTraces = false) {D : va_G} {q : Nat → Nat} {k : Nat → ClassId} {tg : Nat → Int32} {ad : Nat → Int32} {mt : Nat → Int32} {rb : Nat → Int64} {rt : Nat → Int64} {rp : Nat → Int32} {nr : Int32} {A : Nat → Prop} (r : Int32) (y : Int32) : vx_Met l yC_subset wC_subset { frames := 6, cells := 1, slots := 6, locals := 124 } (va_Pc [.ref (q 0), .int r, .int y] (fun U => va_P D zCl (cW q k tg ad mt rb rt rp nr) U.heap ∧ va_K D zCl (zT k) U ∧ va_D A (cW q k tg ad mt rb rt rp nr) ∧ zX A U U.heap)) (va_Qi (fun v9 (_ : Unit) => xC_subset tg ad mt r y = 0 ∧ v9 = fC_subset tg ad mt r y) (fun _ t => va_P D zCl (cW q k tg ad mt rb rt rp nr) t.heap ∧ va_K D zCl (zT k) t ∧ va_D A (cW q k tg ad mt rb rt rp nr)) A) (vx_X (fun _ : Unit => True) (fun E _ t => zE E (xC_subset tg ad mt r y) ∧ va_P D zCl (cW q k tg ad mt rb rt rp nr) t.heap ∧ va_K D zCl (zT k) t) A) 1 6 A := by
  refine vx_ofW (cc := cC_subset) (maxL := 3) (ret := (some .boolean)) (by decide) rfl ?_
  intro p e s m args below meth c s₁ B hml hnt hv
  obtain ⟨rfl, hP, hK, hD, hX⟩ := hv
  have hx := B.exec
  have hb := B.bytes
  have hr := B.returns
  have hts := atoms_spec (ws := wC_subset) B.pre
  have hq : ∀ w ∈ wA, w.before _ s = true := fun w h => hts w (List.mem_cons_of_mem _ h)
  have hown : s.vm.findClass "CapUnit" = some m.cls := findClass_of_methodNamed B.named
  have hlocks := B.notSynchronized
  have hS : va_S A s.heap s.heap [] := va_S.rf
  have hl := lv_entry ([.ref (q 0), .int r, .int y]) (n := 3) (Nat.le_of_ble_eq_true rfl)
  rw [lg_entry_eq]
  generalize (lg_sl ([.ref (q 0), .int r, .int y]) ++ List.replicate (3 - (lg_sl ([.ref (q 0), .int r, .int y])).length) Slot.unset).toArray = ls at hl ⊢
  have hl : lv_has ls 3 [(0, .ref (q 0)), (1, .int r), (2, .int y)] := hl
  refine lv_iload_n hx hb dC_subset_0 rfl (lv_at hl 1 rfl) ?_
  refine zc_i (va_runS (As := [.int r]) (rest := []) ⟨hx, hb, hml, hown, hq⟩ (kC_isRegister l s.heap r) (va_cwS 1 hq (wA_S q_243 q_244 q_1 q_245) rfl rfl rfl (by decide +kernel) ⟨Nat.le_of_ble_eq_true rfl, Nat.le_of_ble_eq_true rfl⟩) ⟨fun a U g mk q => q, fun U hU hW => ⟨rfl, hU⟩⟩ rfl rfl hl.1 rfl (lv_room (Nat.le_of_ble_eq_true rfl)) dC_subset_1 ⟨Nat.zero_le _, Nat.zero_le _⟩) hS (fun locs hS => ?_)
  refine lv_if_eq (tgt := 14) hx hb dC_subset_4 rfl (fun h1 => ?_) (fun h1 => ?_)
  · exact vx_throwS (rest := []) (names := xUp) (A := A) hx hb hl0 hown (by decide +kernel) (by decide +kernel) (hq _ q_109) (hq _ q_6) hX.2.2.2.2.2.2.2.1.choose_spec (x_all hq x_good39 x_bad39 hX.2.1.1 hX.2.2.2.1.1 hX.2.2.2.1.2.1 hX.2.2.2.1.2.2) x_ot39 hX.1.1 hX.1.2 hS (hl.1.trans hml.symm) dC_subset_14 dC_subset_17 dC_subset_18 dC_subset_20 dC_subset_23 (fun x h9 => (hnt x h9).elim) (Nat.le_of_ble_eq_true rfl) (Nat.le_of_ble_eq_true rfl) (Nat.le_of_ble_eq_true rfl) (Nat.le_of_ble_eq_true rfl) hlocks (fun t9 ha hz hk9 => ⟨(), trivial, ⟨Or.inl ⟨rfl, (by unfold xC_subset; rw [if_pos h1])⟩, hP.kept (fun _ q9 hq9 => hk9 q9.1 (vx_lt hP hq9)), va_K.moved ha hK⟩, hz, fun q9 h1 _ => hk9 q9 h1⟩) hS.2.2 (by decide) (by decide)
  · have gr := zz_reg h1
    refine lv_iload_n hx hb dC_subset_7 rfl (lv_at hl 2 rfl) ?_
    refine zc_i (va_runS (As := [.int y]) (rest := []) ⟨hx, hb, hml, hown, hq⟩ (kC_isRegister l s.heap y) (va_cwS 1 hq (wA_S q_243 q_244 q_1 q_245) rfl rfl rfl (by decide +kernel) ⟨Nat.le_of_ble_eq_true rfl, Nat.le_of_ble_eq_true rfl⟩) ⟨fun a U g mk q => q, fun U hU hW => ⟨rfl, hU⟩⟩ rfl rfl hl.1 rfl (lv_room (Nat.le_of_ble_eq_true rfl)) dC_subset_8 ⟨Nat.zero_le _, Nat.zero_le _⟩) hS (fun locs hS => ?_)
    refine lv_if_ne (tgt := 24) hx hb dC_subset_11 rfl (fun h2 => ?_) (fun h2 => ?_)
    · have gy := zz_reg h2
      refine lv_aload_n hx hb dC_subset_24 rfl (lv_at hl 0 rfl) ?_
      refine va_get (D := D) (ci := 0) (v := .ref (q 1)) (C := "CapUnit") (T := TC) (N := 7) hx hb hq uC_in hown hK hP 0 rfl rfl 0 (by decide) (hq _ q_19) (fun _ h9 => h9) rfl dC_subset_25 ?_
      refine lv_iload_n hx hb dC_subset_28 rfl (lv_at hl 1 rfl) ?_
      refine va_zald hx hb hK hP 1 0 rfl rfl (i := r) gr dC_subset_29 ?_
      refine lv_aload_n hx hb dC_subset_30 rfl (lv_at hl 0 rfl) ?_
      refine va_get (D := D) (ci := 0) (v := .ref (q 1)) (C := "CapUnit") (T := TC) (N := 7) hx hb hq uC_in hown hK hP 0 rfl rfl 0 (by decide) (hq _ q_19) (fun _ h9 => h9) rfl dC_subset_31 ?_
      refine lv_iload_n hx hb dC_subset_34 rfl (lv_at hl 2 rfl) ?_
      refine va_zald hx hb hK hP 1 0 rfl rfl (i := y) gy dC_subset_35 ?_
      refine lv_icmp_ne (tgt := 70) hx hb dC_subset_36 rfl (fun h3 => ?_) (fun h3 => ?_)
      · refine lv_iconst (v := 0) hx hb dC_subset_70 (by decide) ?_
        refine vx_ret (W.widen (k := 1) (n := 6) (by decide) (by decide) ?_)
        exact W.zret (v := (0 : Int32)) hx hb hr (by decide) (fun t9 ht hW => ⟨⟨_, (), rfl, ⟨(by unfold xC_subset; rw [if_neg h1, if_neg h2, if_neg h3]), (by unfold fC_subset; rw [if_neg h1, if_neg h2, if_neg h3])⟩, by rw [ht]; exact hP, va_K.moved hW.alike hK, hD⟩, hS.F ht⟩) hS.2.2 dC_subset_71
      · refine lv_aload_n hx hb dC_subset_39 rfl (lv_at hl 0 rfl) ?_
        refine lv_iload_n hx hb dC_subset_40 rfl (lv_at hl 2 rfl) ?_
        refine lv_aload_n hx hb dC_subset_41 rfl (lv_at hl 0 rfl) ?_
        refine lv_iload_n hx hb dC_subset_42 rfl (lv_at hl 1 rfl) ?_
        refine zc_l (va_runV (C := "CapUnit") (b := q 0) (As := [.int r]) (rest := [.int y, .ref (q 0)]) ⟨hx, hb, hml, hown, hq⟩ (kC_baseIn l hP r gr) (cwV 1 hq (wA_V q_88 q_90 sC_baseIn q_1 q_91) rfl rfl rfl (by decide +kernel) ⟨Nat.le_of_ble_eq_true rfl, Nat.le_of_ble_eq_true rfl⟩) (zr_pre (c := zCl[0]) (q0 := 0) hK hP rfl rfl) rfl rfl hl.1 rfl (lv_room (Nat.le_of_ble_eq_true rfl)) dC_subset_43 ⟨Nat.le_of_ble_eq_true rfl, Nat.le_of_ble_eq_true rfl⟩) hS (fun locs hS => ?_)
        refine lv_aload_n hx hb dC_subset_46 rfl (lv_at hl 0 rfl) ?_
        refine lv_iload_n hx hb dC_subset_47 rfl (lv_at hl 1 rfl) ?_
        refine zc_l (va_runV (C := "CapUnit") (b := q 0) (As := [.int r]) (rest := [.long (fC_baseIn tg ad mt r), .int y, .ref (q 0)]) ⟨hx, hb, hml, hown, hq⟩ (kC_topIn l hP r gr) (cwV 1 hq (wA_V q_92 q_94 sC_topIn q_1 q_95) rfl rfl rfl (by decide +kernel) ⟨Nat.le_of_ble_eq_true rfl, Nat.le_of_ble_eq_true rfl⟩) (zr_pre (c := zCl[0]) (q0 := 0) hK hP rfl rfl) rfl rfl hl.1 rfl (lv_room (Nat.le_of_ble_eq_true rfl)) dC_subset_48 ⟨Nat.le_of_ble_eq_true rfl, Nat.le_of_ble_eq_true rfl⟩) hS (fun locs hS => ?_)
        refine lv_aload_n hx hb dC_subset_51 rfl (lv_at hl 0 rfl) ?_
        refine va_get (D := D) (ci := 0) (v := .ref (q 3)) (C := "CapUnit") (T := TC) (N := 7) hx hb hq uC_in hown hK hP 0 rfl rfl 2 (by decide) (hq _ q_21) (fun _ h9 => h9) rfl dC_subset_52 ?_
        refine lv_iload_n hx hb dC_subset_55 rfl (lv_at hl 1 rfl) ?_
        refine va_iald hx hb hK hP 3 1 rfl rfl (i := r) gr dC_subset_56 ?_
        refine zc_i (va_runS (As := [.int (mt r.toNatClampNeg)]) (rest := [.long (fC_topIn tg ad mt r), .long (fC_baseIn tg ad mt r), .int y, .ref (q 0)]) ⟨hx, hb, hml, hown, hq⟩ (kC_permsOf l s.heap (mt r.toNatClampNeg)) (va_cwS 1 hq (wA_S q_96 q_97 q_1 q_98) rfl rfl rfl (by decide +kernel) ⟨Nat.le_of_ble_eq_true rfl, Nat.le_of_ble_eq_true rfl⟩) ⟨fun a U g mk q => q, fun U hU hW => ⟨rfl, hU⟩⟩ rfl rfl hl.1 rfl (lv_room (Nat.le_of_ble_eq_true rfl)) dC_subset_57 ⟨Nat.zero_le _, Nat.zero_le _⟩) hS (fun locs hS => ?_)
        refine zc_i (va_runV (C := "CapUnit") (b := q 0) (As := [.int y, .long (fC_baseIn tg ad mt r), .long (fC_topIn tg ad mt r), .int (fC_permsOf (mt r.toNatClampNeg))]) (rest := []) ⟨hx, hb, hml, hown, hq⟩ (kC_isWithin l hP y (fC_baseIn tg ad mt r) (fC_topIn tg ad mt r) (fC_permsOf (mt r.toNatClampNeg)) gy) (cwV 4 hq (wA_V q_84 q_86 sC_isWithin q_1 q_87) rfl rfl rfl (by decide +kernel) ⟨Nat.le_of_ble_eq_true rfl, Nat.le_of_ble_eq_true rfl⟩) (zr_pre (c := zCl[0]) (q0 := 0) hK hP rfl rfl) rfl rfl hl.1 rfl (lv_room (Nat.le_of_ble_eq_true rfl)) dC_subset_60 ⟨Nat.le_of_ble_eq_true rfl, Nat.le_of_ble_eq_true rfl⟩) hS (fun locs hS => ?_)
        refine lv_if_eq (tgt := 70) hx hb dC_subset_63 rfl (fun h4 => ?_) (fun h4 => ?_)
        · refine lv_iconst (v := 0) hx hb dC_subset_70 (by decide) ?_
          refine vx_ret (W.widen (k := 1) (n := 6) (by decide) (by decide) ?_)
          exact W.zret (v := (0 : Int32)) hx hb hr (by decide) (fun t9 ht hW => ⟨⟨_, (), rfl, ⟨(by unfold xC_subset; rw [if_neg h1, if_neg h2, if_pos h3, if_pos h4]), (by unfold fC_subset; rw [if_neg h1, if_neg h2, if_pos h3, if_pos h4])⟩, by rw [ht]; exact hP, va_K.moved hW.alike hK, hD⟩, hS.F ht⟩) hS.2.2 dC_subset_71
        · refine lv_iconst (v := 1) hx hb dC_subset_66 (by decide) ?_
          refine lv_goto (tgt := 71) hx hb dC_subset_67 rfl ?_
          refine vx_ret (W.widen (k := 1) (n := 6) (by decide) (by decide) ?_)
          exact W.zret (v := (1 : Int32)) hx hb hr (by decide) (fun t9 ht hW => ⟨⟨_, (), rfl, ⟨(by unfold xC_subset; rw [if_neg h1, if_neg h2, if_pos h3, if_neg h4]), (by unfold fC_subset; rw [if_neg h1, if_neg h2, if_pos h3, if_neg h4])⟩, by rw [ht]; exact hP, va_K.moved hW.alike hK, hD⟩, hS.F ht⟩) hS.2.2 dC_subset_71
    · exact vx_throwS (rest := []) (names := xUp) (A := A) hx hb hl0 hown (by decide +kernel) (by decide +kernel) (hq _ q_109) (hq _ q_6) hX.2.2.2.2.2.2.2.1.choose_spec (x_all hq x_good39 x_bad39 hX.2.1.1 hX.2.2.2.1.1 hX.2.2.2.1.2.1 hX.2.2.2.1.2.2) x_ot39 hX.1.1 hX.1.2 hS (hl.1.trans hml.symm) dC_subset_14 dC_subset_17 dC_subset_18 dC_subset_20 dC_subset_23 (fun x h9 => (hnt x h9).elim) (Nat.le_of_ble_eq_true rfl) (Nat.le_of_ble_eq_true rfl) (Nat.le_of_ble_eq_true rfl) (Nat.le_of_ble_eq_true rfl) hlocks (fun t9 ha hz hk9 => ⟨(), trivial, ⟨Or.inl ⟨rfl, (by unfold xC_subset; rw [if_neg h1, if_pos h2])⟩, hP.kept (fun _ q9 hq9 => hk9 q9.1 (vx_lt hP hq9)), va_K.moved ha hK⟩, hz, fun q9 h1 _ => hk9 q9 h1⟩) hS.2.2 (by decide) (by decide)
def xC_told (tg : Nat → Int32) (ad : Nat → Int32) (mt : Nat → Int32) (r : Int32) (y : Int32) : Int32 := if (fC_isRegister r) = 0 then 1 else (if y = (0 : Int32) then (if (tg r.toNatClampNeg) = 0 then 0 else 0) else (if y = (1 : Int32) then 0 else (if y = (2 : Int32) then 0 else (if y = (3 : Int32) then 0 else (if y = (4 : Int32) then 0 else (if y = (5 : Int32) then 0 else (if y = (6 : Int32) then 0 else (if y = (7 : Int32) then 0 else 2))))))))
def fC_told (tg : Nat → Int32) (ad : Nat → Int32) (mt : Nat → Int32) (r : Int32) (y : Int32) : Int64 := if (fC_isRegister r) = 0 then 0 else (if y = (0 : Int32) then (if (tg r.toNatClampNeg) = 0 then (0 : Int64) else (1 : Int64)) else (if y = (1 : Int32) then ((ad r.toNatClampNeg).toInt64) else (if y = (2 : Int32) then (((mt r.toNatClampNeg) ^^^ (1000194 : Int32)).toInt64) else (if y = (3 : Int32) then (fC_baseIn tg ad mt r) else (if y = (4 : Int32) then ((fC_topIn tg ad mt r) - (fC_baseIn tg ad mt r)) else (if y = (5 : Int32) then ((fC_permsOf (mt r.toNatClampNeg)).toInt64) else (if y = (6 : Int32) then ((fC_typeOf (mt r.toNatClampNeg)).toInt64) else (if y = (7 : Int32) then ((fC_unsigned (ad r.toNatClampNeg)) - (fC_baseIn tg ad mt r)) else 0))))))))
set_option maxHeartbeats 4000000 in
set_option maxRecDepth 100000 in
theorem kC_told (l : Launch) (hl0 : l.stackTraces = false) {D : va_G} {q : Nat → Nat} {k : Nat → ClassId} {tg : Nat → Int32} {ad : Nat → Int32} {mt : Nat → Int32} {rb : Nat → Int64} {rt : Nat → Int64} {rp : Nat → Int32} {nr : Int32} {A : Nat → Prop} (r : Int32) (y : Int32) : vx_Met l yC_told wC_told { frames := 6, cells := 1, slots := 6, locals := 98 } (va_Pc [.ref (q 0), .int r, .int y] (fun U => va_P D zCl (cW q k tg ad mt rb rt rp nr) U.heap ∧ va_K D zCl (zT k) U ∧ va_D A (cW q k tg ad mt rb rt rp nr) ∧ zX A U U.heap)) (va_Ql (fun v9 (_ : Unit) => xC_told tg ad mt r y = 0 ∧ v9 = fC_told tg ad mt r y) (fun _ t => va_P D zCl (cW q k tg ad mt rb rt rp nr) t.heap ∧ va_K D zCl (zT k) t ∧ va_D A (cW q k tg ad mt rb rt rp nr)) A) (vx_X (fun _ : Unit => True) (fun E _ t => zE E (xC_told tg ad mt r y) ∧ va_P D zCl (cW q k tg ad mt rb rt rp nr) t.heap ∧ va_K D zCl (zT k) t) A) 1 6 A := by
  refine vx_ofW (cc := cC_told) (maxL := 3) (ret := (some .long)) (by decide) rfl ?_
  intro p e s m args below meth c s₁ B hml hnt hv
  obtain ⟨rfl, hP, hK, hD, hX⟩ := hv
  have hx := B.exec
  have hb := B.bytes
  have hr := B.returns
  have hts := atoms_spec (ws := wC_told) B.pre
  have hq : ∀ w ∈ wA, w.before _ s = true := fun w h => hts w (List.mem_cons_of_mem _ h)
  have hown : s.vm.findClass "CapUnit" = some m.cls := findClass_of_methodNamed B.named
  have hlocks := B.notSynchronized
  have hS : va_S A s.heap s.heap [] := va_S.rf
  have hl := lv_entry ([.ref (q 0), .int r, .int y]) (n := 3) (Nat.le_of_ble_eq_true rfl)
  rw [lg_entry_eq]
  generalize (lg_sl ([.ref (q 0), .int r, .int y]) ++ List.replicate (3 - (lg_sl ([.ref (q 0), .int r, .int y])).length) Slot.unset).toArray = ls at hl ⊢
  have hl : lv_has ls 3 [(0, .ref (q 0)), (1, .int r), (2, .int y)] := hl
  refine lv_iload_n hx hb dC_told_0 rfl (lv_at hl 1 rfl) ?_
  refine zc_i (va_runS (As := [.int r]) (rest := []) ⟨hx, hb, hml, hown, hq⟩ (kC_isRegister l s.heap r) (va_cwS 1 hq (wA_S q_243 q_244 q_1 q_245) rfl rfl rfl (by decide +kernel) ⟨Nat.le_of_ble_eq_true rfl, Nat.le_of_ble_eq_true rfl⟩) ⟨fun a U g mk q => q, fun U hU hW => ⟨rfl, hU⟩⟩ rfl rfl hl.1 rfl (lv_room (Nat.le_of_ble_eq_true rfl)) dC_told_1 ⟨Nat.zero_le _, Nat.zero_le _⟩) hS (fun locs hS => ?_)
  refine lv_if_ne (tgt := 17) hx hb dC_told_4 rfl (fun h1 => ?_) (fun h1 => ?_)
  · have gr := zz_reg h1
    refine lv_iload_n hx hb dC_told_17 rfl (lv_at hl 2 rfl) ?_
    by_cases h2 : y = (0 : Int32)
    · refine lv_tableIn (x := y) (off := 46) (tgt := 64) hx hb dC_told_18 (by rw [h2]; decide) (by rw [h2]; decide) (by rw [h2]; rfl) rfl ?_
      refine lv_aload_n hx hb dC_told_64 rfl (lv_at hl 0 rfl) ?_
      refine va_get (D := D) (ci := 0) (v := .ref (q 1)) (C := "CapUnit") (T := TC) (N := 7) hx hb hq uC_in hown hK hP 0 rfl rfl 0 (by decide) (hq _ q_19) (fun _ h9 => h9) rfl dC_told_65 ?_
      refine lv_iload_n hx hb dC_told_68 rfl (lv_at hl 1 rfl) ?_
      refine va_zald hx hb hK hP 1 0 rfl rfl (i := r) gr dC_told_69 ?_
      refine lv_if_eq (tgt := 77) hx hb dC_told_70 rfl (fun h3 => ?_) (fun h3 => ?_)
      · refine lv_lconst (v := 0) hx hb dC_told_77 (by decide) ?_
        refine vx_ret (W.widen (k := 1) (n := 6) (by decide) (by decide) ?_)
        exact W.lret (v := (0 : Int64)) hx hb hr (fun t9 ht hW => ⟨⟨_, (), rfl, ⟨(by unfold xC_told; rw [if_neg h1, if_pos h2, if_pos h3]), (by unfold fC_told; rw [if_neg h1, if_pos h2, if_pos h3])⟩, by rw [ht]; exact hP, va_K.moved hW.alike hK, hD⟩, hS.F ht⟩) hS.2.2 dC_told_78
      · refine lv_lconst (v := 1) hx hb dC_told_73 (by decide) ?_
        refine lv_goto (tgt := 78) hx hb dC_told_74 rfl ?_
        refine vx_ret (W.widen (k := 1) (n := 6) (by decide) (by decide) ?_)
        exact W.lret (v := (1 : Int64)) hx hb hr (fun t9 ht hW => ⟨⟨_, (), rfl, ⟨(by unfold xC_told; rw [if_neg h1, if_pos h2, if_neg h3]), (by unfold fC_told; rw [if_neg h1, if_pos h2, if_neg h3])⟩, by rw [ht]; exact hP, va_K.moved hW.alike hK, hD⟩, hS.F ht⟩) hS.2.2 dC_told_78
    · by_cases h4 : y = (1 : Int32)
      · refine lv_tableIn (x := y) (off := 61) (tgt := 79) hx hb dC_told_18 (by rw [h4]; decide) (by rw [h4]; decide) (by rw [h4]; rfl) rfl ?_
        refine lv_aload_n hx hb dC_told_79 rfl (lv_at hl 0 rfl) ?_
        refine va_get (D := D) (ci := 0) (v := .ref (q 2)) (C := "CapUnit") (T := TC) (N := 7) hx hb hq uC_in hown hK hP 0 rfl rfl 1 (by decide) (hq _ q_20) (fun _ h9 => h9) rfl dC_told_80 ?_
        refine lv_iload_n hx hb dC_told_83 rfl (lv_at hl 1 rfl) ?_
        refine va_iald hx hb hK hP 2 1 rfl rfl (i := r) gr dC_told_84 ?_
        refine lv_i2l hx hb dC_told_85 rfl ?_
        refine vx_ret (W.widen (k := 1) (n := 6) (by decide) (by decide) ?_)
        exact W.lret (v := (ad r.toNatClampNeg).toInt64) hx hb hr (fun t9 ht hW => ⟨⟨_, (), rfl, ⟨(by unfold xC_told; rw [if_neg h1, if_neg h2, if_pos h4]), (by unfold fC_told; rw [if_neg h1, if_neg h2, if_pos h4])⟩, by rw [ht]; exact hP, va_K.moved hW.alike hK, hD⟩, hS.F ht⟩) hS.2.2 dC_told_86
      · by_cases h5 : y = (2 : Int32)
        · refine lv_tableIn (x := y) (off := 69) (tgt := 87) hx hb dC_told_18 (by rw [h5]; decide) (by rw [h5]; decide) (by rw [h5]; rfl) rfl ?_
          refine lv_aload_n hx hb dC_told_87 rfl (lv_at hl 0 rfl) ?_
          refine va_get (D := D) (ci := 0) (v := .ref (q 3)) (C := "CapUnit") (T := TC) (N := 7) hx hb hq uC_in hown hK hP 0 rfl rfl 2 (by decide) (hq _ q_21) (fun _ h9 => h9) rfl dC_told_88 ?_
          refine lv_iload_n hx hb dC_told_91 rfl (lv_at hl 1 rfl) ?_
          refine va_iald hx hb hK hP 3 1 rfl rfl (i := r) gr dC_told_92 ?_
          refine lv_ldc (v := 1000194) hx hb hown (hts (.constant "CapUnit" 20 1000194) (by decide +kernel)) dC_told_93 ?_
          refine lv_ixor hx hb dC_told_95 ?_
          refine lv_i2l hx hb dC_told_96 rfl ?_
          refine vx_ret (W.widen (k := 1) (n := 6) (by decide) (by decide) ?_)
          exact W.lret (v := ((mt r.toNatClampNeg) ^^^ (1000194 : Int32)).toInt64) hx hb hr (fun t9 ht hW => ⟨⟨_, (), rfl, ⟨(by unfold xC_told; rw [if_neg h1, if_neg h2, if_neg h4, if_pos h5]), (by unfold fC_told; rw [if_neg h1, if_neg h2, if_neg h4, if_pos h5])⟩, by rw [ht]; exact hP, va_K.moved hW.alike hK, hD⟩, hS.F ht⟩) hS.2.2 dC_told_97
        · by_cases h6 : y = (3 : Int32)
          · refine lv_tableIn (x := y) (off := 80) (tgt := 98) hx hb dC_told_18 (by rw [h6]; decide) (by rw [h6]; decide) (by rw [h6]; rfl) rfl ?_
            refine lv_aload_n hx hb dC_told_98 rfl (lv_at hl 0 rfl) ?_
            refine lv_iload_n hx hb dC_told_99 rfl (lv_at hl 1 rfl) ?_
            refine zc_l (va_runV (C := "CapUnit") (b := q 0) (As := [.int r]) (rest := []) ⟨hx, hb, hml, hown, hq⟩ (kC_baseIn l hP r gr) (cwV 1 hq (wA_V q_88 q_90 sC_baseIn q_1 q_91) rfl rfl rfl (by decide +kernel) ⟨Nat.le_of_ble_eq_true rfl, Nat.le_of_ble_eq_true rfl⟩) (zr_pre (c := zCl[0]) (q0 := 0) hK hP rfl rfl) rfl rfl hl.1 rfl (lv_room (Nat.le_of_ble_eq_true rfl)) dC_told_100 ⟨Nat.le_of_ble_eq_true rfl, Nat.le_of_ble_eq_true rfl⟩) hS (fun locs hS => ?_)
            refine vx_ret (W.widen (k := 1) (n := 6) (by decide) (by decide) ?_)
            exact W.lret (v := fC_baseIn tg ad mt r) hx hb hr (fun t9 ht hW => ⟨⟨_, (), rfl, ⟨(by unfold xC_told; rw [if_neg h1, if_neg h2, if_neg h4, if_neg h5, if_pos h6]), (by unfold fC_told; rw [if_neg h1, if_neg h2, if_neg h4, if_neg h5, if_pos h6])⟩, by rw [ht]; exact hP, va_K.moved hW.alike hK, hD⟩, hS.F ht⟩) hS.2.2 dC_told_103
          · by_cases h7 : y = (4 : Int32)
            · refine lv_tableIn (x := y) (off := 86) (tgt := 104) hx hb dC_told_18 (by rw [h7]; decide) (by rw [h7]; decide) (by rw [h7]; rfl) rfl ?_
              refine lv_aload_n hx hb dC_told_104 rfl (lv_at hl 0 rfl) ?_
              refine lv_iload_n hx hb dC_told_105 rfl (lv_at hl 1 rfl) ?_
              refine zc_l (va_runV (C := "CapUnit") (b := q 0) (As := [.int r]) (rest := []) ⟨hx, hb, hml, hown, hq⟩ (kC_topIn l hP r gr) (cwV 1 hq (wA_V q_92 q_94 sC_topIn q_1 q_95) rfl rfl rfl (by decide +kernel) ⟨Nat.le_of_ble_eq_true rfl, Nat.le_of_ble_eq_true rfl⟩) (zr_pre (c := zCl[0]) (q0 := 0) hK hP rfl rfl) rfl rfl hl.1 rfl (lv_room (Nat.le_of_ble_eq_true rfl)) dC_told_106 ⟨Nat.le_of_ble_eq_true rfl, Nat.le_of_ble_eq_true rfl⟩) hS (fun locs hS => ?_)
              refine lv_aload_n hx hb dC_told_109 rfl (lv_at hl 0 rfl) ?_
              refine lv_iload_n hx hb dC_told_110 rfl (lv_at hl 1 rfl) ?_
              refine zc_l (va_runV (C := "CapUnit") (b := q 0) (As := [.int r]) (rest := [.long (fC_topIn tg ad mt r)]) ⟨hx, hb, hml, hown, hq⟩ (kC_baseIn l hP r gr) (cwV 1 hq (wA_V q_88 q_90 sC_baseIn q_1 q_91) rfl rfl rfl (by decide +kernel) ⟨Nat.le_of_ble_eq_true rfl, Nat.le_of_ble_eq_true rfl⟩) (zr_pre (c := zCl[0]) (q0 := 0) hK hP rfl rfl) rfl rfl hl.1 rfl (lv_room (Nat.le_of_ble_eq_true rfl)) dC_told_111 ⟨Nat.le_of_ble_eq_true rfl, Nat.le_of_ble_eq_true rfl⟩) hS (fun locs hS => ?_)
              refine lv_lsub hx hb dC_told_114 ?_
              refine vx_ret (W.widen (k := 1) (n := 6) (by decide) (by decide) ?_)
              exact W.lret (v := (fC_topIn tg ad mt r) - (fC_baseIn tg ad mt r)) hx hb hr (fun t9 ht hW => ⟨⟨_, (), rfl, ⟨(by unfold xC_told; rw [if_neg h1, if_neg h2, if_neg h4, if_neg h5, if_neg h6, if_pos h7]), (by unfold fC_told; rw [if_neg h1, if_neg h2, if_neg h4, if_neg h5, if_neg h6, if_pos h7])⟩, by rw [ht]; exact hP, va_K.moved hW.alike hK, hD⟩, hS.F ht⟩) hS.2.2 dC_told_115
            · by_cases h8 : y = (5 : Int32)
              · refine lv_tableIn (x := y) (off := 98) (tgt := 116) hx hb dC_told_18 (by rw [h8]; decide) (by rw [h8]; decide) (by rw [h8]; rfl) rfl ?_
                refine lv_aload_n hx hb dC_told_116 rfl (lv_at hl 0 rfl) ?_
                refine va_get (D := D) (ci := 0) (v := .ref (q 3)) (C := "CapUnit") (T := TC) (N := 7) hx hb hq uC_in hown hK hP 0 rfl rfl 2 (by decide) (hq _ q_21) (fun _ h9 => h9) rfl dC_told_117 ?_
                refine lv_iload_n hx hb dC_told_120 rfl (lv_at hl 1 rfl) ?_
                refine va_iald hx hb hK hP 3 1 rfl rfl (i := r) gr dC_told_121 ?_
                refine zc_i (va_runS (As := [.int (mt r.toNatClampNeg)]) (rest := []) ⟨hx, hb, hml, hown, hq⟩ (kC_permsOf l s.heap (mt r.toNatClampNeg)) (va_cwS 1 hq (wA_S q_96 q_97 q_1 q_98) rfl rfl rfl (by decide +kernel) ⟨Nat.le_of_ble_eq_true rfl, Nat.le_of_ble_eq_true rfl⟩) ⟨fun a U g mk q => q, fun U hU hW => ⟨rfl, hU⟩⟩ rfl rfl hl.1 rfl (lv_room (Nat.le_of_ble_eq_true rfl)) dC_told_122 ⟨Nat.zero_le _, Nat.zero_le _⟩) hS (fun locs hS => ?_)
                refine lv_i2l hx hb dC_told_125 rfl ?_
                refine vx_ret (W.widen (k := 1) (n := 6) (by decide) (by decide) ?_)
                exact W.lret (v := (fC_permsOf (mt r.toNatClampNeg)).toInt64) hx hb hr (fun t9 ht hW => ⟨⟨_, (), rfl, ⟨(by unfold xC_told; rw [if_neg h1, if_neg h2, if_neg h4, if_neg h5, if_neg h6, if_neg h7, if_pos h8]), (by unfold fC_told; rw [if_neg h1, if_neg h2, if_neg h4, if_neg h5, if_neg h6, if_neg h7, if_pos h8])⟩, by rw [ht]; exact hP, va_K.moved hW.alike hK, hD⟩, hS.F ht⟩) hS.2.2 dC_told_126
              · by_cases h9 : y = (6 : Int32)
                · refine lv_tableIn (x := y) (off := 109) (tgt := 127) hx hb dC_told_18 (by rw [h9]; decide) (by rw [h9]; decide) (by rw [h9]; rfl) rfl ?_
                  refine lv_aload_n hx hb dC_told_127 rfl (lv_at hl 0 rfl) ?_
                  refine va_get (D := D) (ci := 0) (v := .ref (q 3)) (C := "CapUnit") (T := TC) (N := 7) hx hb hq uC_in hown hK hP 0 rfl rfl 2 (by decide) (hq _ q_21) (fun _ h9 => h9) rfl dC_told_128 ?_
                  refine lv_iload_n hx hb dC_told_131 rfl (lv_at hl 1 rfl) ?_
                  refine va_iald hx hb hK hP 3 1 rfl rfl (i := r) gr dC_told_132 ?_
                  refine zc_i (va_runS (As := [.int (mt r.toNatClampNeg)]) (rest := []) ⟨hx, hb, hml, hown, hq⟩ (kC_typeOf l s.heap (mt r.toNatClampNeg)) (va_cwS 1 hq (wA_S q_261 q_262 q_1 q_263) rfl rfl rfl (by decide +kernel) ⟨Nat.le_of_ble_eq_true rfl, Nat.le_of_ble_eq_true rfl⟩) ⟨fun a U g mk q => q, fun U hU hW => ⟨rfl, hU⟩⟩ rfl rfl hl.1 rfl (lv_room (Nat.le_of_ble_eq_true rfl)) dC_told_133 ⟨Nat.zero_le _, Nat.zero_le _⟩) hS (fun locs hS => ?_)
                  refine lv_i2l hx hb dC_told_136 rfl ?_
                  refine vx_ret (W.widen (k := 1) (n := 6) (by decide) (by decide) ?_)
                  exact W.lret (v := (fC_typeOf (mt r.toNatClampNeg)).toInt64) hx hb hr (fun t9 ht hW => ⟨⟨_, (), rfl, ⟨(by unfold xC_told; rw [if_neg h1, if_neg h2, if_neg h4, if_neg h5, if_neg h6, if_neg h7, if_neg h8, if_pos h9]), (by unfold fC_told; rw [if_neg h1, if_neg h2, if_neg h4, if_neg h5, if_neg h6, if_neg h7, if_neg h8, if_pos h9])⟩, by rw [ht]; exact hP, va_K.moved hW.alike hK, hD⟩, hS.F ht⟩) hS.2.2 dC_told_137
                · by_cases h10 : y = (7 : Int32)
                  · refine lv_tableIn (x := y) (off := 120) (tgt := 138) hx hb dC_told_18 (by rw [h10]; decide) (by rw [h10]; decide) (by rw [h10]; rfl) rfl ?_
                    refine lv_aload_n hx hb dC_told_138 rfl (lv_at hl 0 rfl) ?_
                    refine va_get (D := D) (ci := 0) (v := .ref (q 2)) (C := "CapUnit") (T := TC) (N := 7) hx hb hq uC_in hown hK hP 0 rfl rfl 1 (by decide) (hq _ q_20) (fun _ h9 => h9) rfl dC_told_139 ?_
                    refine lv_iload_n hx hb dC_told_142 rfl (lv_at hl 1 rfl) ?_
                    refine va_iald hx hb hK hP 2 1 rfl rfl (i := r) gr dC_told_143 ?_
                    refine zc_l (va_runS (As := [.int (ad r.toNatClampNeg)]) (rest := []) ⟨hx, hb, hml, hown, hq⟩ (kC_unsigned l s.heap (ad r.toNatClampNeg)) (va_cwS 1 hq (wA_S q_63 q_64 q_1 q_65) rfl rfl rfl (by decide +kernel) ⟨Nat.le_of_ble_eq_true rfl, Nat.le_of_ble_eq_true rfl⟩) ⟨fun a U g mk q => q, fun U hU hW => ⟨rfl, hU⟩⟩ rfl rfl hl.1 rfl (lv_room (Nat.le_of_ble_eq_true rfl)) dC_told_144 ⟨Nat.zero_le _, Nat.zero_le _⟩) hS (fun locs hS => ?_)
                    refine lv_aload_n hx hb dC_told_147 rfl (lv_at hl 0 rfl) ?_
                    refine lv_iload_n hx hb dC_told_148 rfl (lv_at hl 1 rfl) ?_
                    refine zc_l (va_runV (C := "CapUnit") (b := q 0) (As := [.int r]) (rest := [.long (fC_unsigned (ad r.toNatClampNeg))]) ⟨hx, hb, hml, hown, hq⟩ (kC_baseIn l hP r gr) (cwV 1 hq (wA_V q_88 q_90 sC_baseIn q_1 q_91) rfl rfl rfl (by decide +kernel) ⟨Nat.le_of_ble_eq_true rfl, Nat.le_of_ble_eq_true rfl⟩) (zr_pre (c := zCl[0]) (q0 := 0) hK hP rfl rfl) rfl rfl hl.1 rfl (lv_room (Nat.le_of_ble_eq_true rfl)) dC_told_149 ⟨Nat.le_of_ble_eq_true rfl, Nat.le_of_ble_eq_true rfl⟩) hS (fun locs hS => ?_)
                    refine lv_lsub hx hb dC_told_152 ?_
                    refine vx_ret (W.widen (k := 1) (n := 6) (by decide) (by decide) ?_)
                    exact W.lret (v := (fC_unsigned (ad r.toNatClampNeg)) - (fC_baseIn tg ad mt r)) hx hb hr (fun t9 ht hW => ⟨⟨_, (), rfl, ⟨(by unfold xC_told; rw [if_neg h1, if_neg h2, if_neg h4, if_neg h5, if_neg h6, if_neg h7, if_neg h8, if_neg h9, if_pos h10]), (by unfold fC_told; rw [if_neg h1, if_neg h2, if_neg h4, if_neg h5, if_neg h6, if_neg h7, if_neg h8, if_neg h9, if_pos h10])⟩, by rw [ht]; exact hP, va_K.moved hW.alike hK, hD⟩, hS.F ht⟩) hS.2.2 dC_told_153
                  · refine lv_tableOut (tgt := 154) hx hb dC_told_18 (zz_sw8 h2 h4 h5 h6 h7 h8 h9 h10) rfl ?_
                    exact vx_throwS (rest := []) (names := xUp) (A := A) hx hb hl0 hown (by decide +kernel) (by decide +kernel) (hq _ q_180) (hq _ q_7) hX.2.2.2.2.2.2.2.2.1.choose_spec (x_all hq x_good50 x_bad50 hX.2.1.2.1 hX.2.2.2.1.1 hX.2.2.2.1.2.1 hX.2.2.2.1.2.2) x_ot50 hX.1.1 hX.1.2 hS (hl.1.trans hml.symm) dC_told_154 dC_told_157 dC_told_158 dC_told_160 dC_told_163 (fun x h9 => (hnt x h9).elim) (Nat.le_of_ble_eq_true rfl) (Nat.le_of_ble_eq_true rfl) (Nat.le_of_ble_eq_true rfl) (Nat.le_of_ble_eq_true rfl) hlocks (fun t9 ha hz hk9 => ⟨(), trivial, ⟨Or.inr (Or.inl ⟨rfl, (by unfold xC_told; rw [if_neg h1, if_neg h2, if_neg h4, if_neg h5, if_neg h6, if_neg h7, if_neg h8, if_neg h9, if_neg h10])⟩), hP.kept (fun _ q9 hq9 => hk9 q9.1 (vx_lt hP hq9)), va_K.moved ha hK⟩, hz, fun q9 h1 _ => hk9 q9 h1⟩) hS.2.2 (by decide) (by decide)
  · exact vx_throwS (rest := []) (names := xUp) (A := A) hx hb hl0 hown (by decide +kernel) (by decide +kernel) (hq _ q_109) (hq _ q_6) hX.2.2.2.2.2.2.2.1.choose_spec (x_all hq x_good39 x_bad39 hX.2.1.1 hX.2.2.2.1.1 hX.2.2.2.1.2.1 hX.2.2.2.1.2.2) x_ot39 hX.1.1 hX.1.2 hS (hl.1.trans hml.symm) dC_told_7 dC_told_10 dC_told_11 dC_told_13 dC_told_16 (fun x h9 => (hnt x h9).elim) (Nat.le_of_ble_eq_true rfl) (Nat.le_of_ble_eq_true rfl) (Nat.le_of_ble_eq_true rfl) (Nat.le_of_ble_eq_true rfl) hlocks (fun t9 ha hz hk9 => ⟨(), trivial, ⟨Or.inl ⟨rfl, (by unfold xC_told; rw [if_pos h1])⟩, hP.kept (fun _ q9 hq9 => hk9 q9.1 (vx_lt hP hq9)), va_K.moved ha hK⟩, hz, fun q9 h1 _ => hk9 q9 h1⟩) hS.2.2 (by decide) (by decide)
def xC_reaches (tg : Nat → Int32) (ad : Nat → Int32) (mt : Nat → Int32) (r : Int32) (x : Int32) (n : Int32) : Int32 := if (fC_isRegister r) = 0 then 1 else (if n < 0 then 2 else (if n ≤ (4096 : Int32) then 0 else 2))
set_option maxHeartbeats 4000000 in
set_option maxRecDepth 100000 in
theorem kC_reaches (l : Launch) (hl0 : l.stackTraces = false) {D : va_G} {q : Nat → Nat} {k : Nat → ClassId} {tg : Nat → Int32} {ad : Nat → Int32} {mt : Nat → Int32} {rb : Nat → Int64} {rt : Nat → Int64} {rp : Nat → Int32} {nr : Int32} {A : Nat → Prop} (r : Int32) (x : Int32) (n : Int32) : vx_Met l yC_reaches wC_reaches { frames := 6, cells := 1, slots := 6, locals := 123 } (va_Pc [.ref (q 0), .int r, .int x, .int n] (fun U => va_P D zCl (cW q k tg ad mt rb rt rp nr) U.heap ∧ va_K D zCl (zT k) U ∧ va_D A (cW q k tg ad mt rb rt rp nr) ∧ zX A U U.heap)) (va_Qi (fun v9 (_ : Unit) => xC_reaches tg ad mt r x n = 0 ∧ v9 = fC_isInBounds tg ad mt r (fC_unsigned x) n.toInt64) (fun _ t => va_P D zCl (cW q k tg ad mt rb rt rp nr) t.heap ∧ va_K D zCl (zT k) t ∧ va_D A (cW q k tg ad mt rb rt rp nr)) A) (vx_X (fun _ : Unit => True) (fun E _ t => zE E (xC_reaches tg ad mt r x n) ∧ va_P D zCl (cW q k tg ad mt rb rt rp nr) t.heap ∧ va_K D zCl (zT k) t) A) 1 6 A := by
  refine vx_ofW (cc := cC_reaches) (maxL := 4) (ret := (some .boolean)) (by decide) rfl ?_
  intro p e s m args below meth c s₁ B hml hnt hv
  obtain ⟨rfl, hP, hK, hD, hX⟩ := hv
  have hx := B.exec
  have hb := B.bytes
  have hr := B.returns
  have hts := atoms_spec (ws := wC_reaches) B.pre
  have hq : ∀ w ∈ wA, w.before _ s = true := fun w h => hts w (List.mem_cons_of_mem _ h)
  have hown : s.vm.findClass "CapUnit" = some m.cls := findClass_of_methodNamed B.named
  have hlocks := B.notSynchronized
  have hS : va_S A s.heap s.heap [] := va_S.rf
  have hl := lv_entry ([.ref (q 0), .int r, .int x, .int n]) (n := 4) (Nat.le_of_ble_eq_true rfl)
  rw [lg_entry_eq]
  generalize (lg_sl ([.ref (q 0), .int r, .int x, .int n]) ++ List.replicate (4 - (lg_sl ([.ref (q 0), .int r, .int x, .int n])).length) Slot.unset).toArray = ls at hl ⊢
  have hl : lv_has ls 4 [(0, .ref (q 0)), (1, .int r), (2, .int x), (3, .int n)] := hl
  refine lv_iload_n hx hb dC_reaches_0 rfl (lv_at hl 1 rfl) ?_
  refine zc_i (va_runS (As := [.int r]) (rest := []) ⟨hx, hb, hml, hown, hq⟩ (kC_isRegister l s.heap r) (va_cwS 1 hq (wA_S q_243 q_244 q_1 q_245) rfl rfl rfl (by decide +kernel) ⟨Nat.le_of_ble_eq_true rfl, Nat.le_of_ble_eq_true rfl⟩) ⟨fun a U g mk q => q, fun U hU hW => ⟨rfl, hU⟩⟩ rfl rfl hl.1 rfl (lv_room (Nat.le_of_ble_eq_true rfl)) dC_reaches_1 ⟨Nat.zero_le _, Nat.zero_le _⟩) hS (fun locs hS => ?_)
  refine lv_if_ne (tgt := 17) hx hb dC_reaches_4 rfl (fun h1 => ?_) (fun h1 => ?_)
  · have gr := zz_reg h1
    refine lv_iload_n hx hb dC_reaches_17 rfl (lv_at hl 3 rfl) ?_
    refine lv_if_lt (tgt := 28) hx hb dC_reaches_18 rfl (fun h2 => ?_) (fun h2 => ?_)
    · exact vx_throwS (rest := []) (names := xUp) (A := A) hx hb hl0 hown (by decide +kernel) (by decide +kernel) (hq _ q_180) (hq _ q_7) hX.2.2.2.2.2.2.2.2.2.1.choose_spec (x_all hq x_good50 x_bad50 hX.2.1.2.1 hX.2.2.2.1.1 hX.2.2.2.1.2.1 hX.2.2.2.1.2.2) x_ot50 hX.1.1 hX.1.2 hS (hl.1.trans hml.symm) dC_reaches_28 dC_reaches_31 dC_reaches_32 dC_reaches_34 dC_reaches_37 (fun x h9 => (hnt x h9).elim) (Nat.le_of_ble_eq_true rfl) (Nat.le_of_ble_eq_true rfl) (Nat.le_of_ble_eq_true rfl) (Nat.le_of_ble_eq_true rfl) hlocks (fun t9 ha hz hk9 => ⟨(), trivial, ⟨Or.inr (Or.inl ⟨rfl, (by unfold xC_reaches; rw [if_neg h1, if_pos h2])⟩), hP.kept (fun _ q9 hq9 => hk9 q9.1 (vx_lt hP hq9)), va_K.moved ha hK⟩, hz, fun q9 h1 _ => hk9 q9 h1⟩) hS.2.2 (by decide) (by decide)
    · refine lv_iload_n hx hb dC_reaches_21 rfl (lv_at hl 3 rfl) ?_
      refine lv_sipush (v := 4096) hx hb dC_reaches_22 (by decide) ?_
      refine lv_icmp_le (tgt := 38) hx hb dC_reaches_25 rfl (fun h3 => ?_) (fun h3 => ?_)
      · refine lv_aload_n hx hb dC_reaches_38 rfl (lv_at hl 0 rfl) ?_
        refine lv_iload_n hx hb dC_reaches_39 rfl (lv_at hl 1 rfl) ?_
        refine lv_iload_n hx hb dC_reaches_40 rfl (lv_at hl 2 rfl) ?_
        refine zc_l (va_runS (As := [.int x]) (rest := [.int r, .ref (q 0)]) ⟨hx, hb, hml, hown, hq⟩ (kC_unsigned l s.heap x) (va_cwS 1 hq (wA_S q_63 q_64 q_1 q_65) rfl rfl rfl (by decide +kernel) ⟨Nat.le_of_ble_eq_true rfl, Nat.le_of_ble_eq_true rfl⟩) ⟨fun a U g mk q => q, fun U hU hW => ⟨rfl, hU⟩⟩ rfl rfl hl.1 rfl (lv_room (Nat.le_of_ble_eq_true rfl)) dC_reaches_41 ⟨Nat.zero_le _, Nat.zero_le _⟩) hS (fun locs hS => ?_)
        refine lv_iload_n hx hb dC_reaches_44 rfl (lv_at hl 3 rfl) ?_
        refine lv_i2l hx hb dC_reaches_45 rfl ?_
        refine zc_i (va_runV (C := "CapUnit") (b := q 0) (As := [.int r, .long (fC_unsigned x), .long n.toInt64]) (rest := []) ⟨hx, hb, hml, hown, hq⟩ (kC_isInBounds l hP r (fC_unsigned x) n.toInt64 gr) (cwV 3 hq (wA_V q_264 q_266 sC_isInBounds q_1 q_267) rfl rfl rfl (by decide +kernel) ⟨Nat.le_of_ble_eq_true rfl, Nat.le_of_ble_eq_true rfl⟩) (zr_pre (c := zCl[0]) (q0 := 0) hK hP rfl rfl) rfl rfl hl.1 rfl (lv_room (Nat.le_of_ble_eq_true rfl)) dC_reaches_46 ⟨Nat.le_of_ble_eq_true rfl, Nat.le_of_ble_eq_true rfl⟩) hS (fun locs hS => ?_)
        refine vx_ret (W.widen (k := 1) (n := 6) (by decide) (by decide) ?_)
        exact W.zret (v := fC_isInBounds tg ad mt r (fC_unsigned x) n.toInt64) hx hb hr (zz_nar (bC_isInBounds tg ad mt r (fC_unsigned x) n.toInt64)) (fun t9 ht hW => ⟨⟨_, (), rfl, ⟨(by unfold xC_reaches; rw [if_neg h1, if_neg h2, if_pos h3]), (rfl)⟩, by rw [ht]; exact hP, va_K.moved hW.alike hK, hD⟩, hS.F ht⟩) hS.2.2 dC_reaches_49
      · exact vx_throwS (rest := []) (names := xUp) (A := A) hx hb hl0 hown (by decide +kernel) (by decide +kernel) (hq _ q_180) (hq _ q_7) hX.2.2.2.2.2.2.2.2.2.1.choose_spec (x_all hq x_good50 x_bad50 hX.2.1.2.1 hX.2.2.2.1.1 hX.2.2.2.1.2.1 hX.2.2.2.1.2.2) x_ot50 hX.1.1 hX.1.2 hS (hl.1.trans hml.symm) dC_reaches_28 dC_reaches_31 dC_reaches_32 dC_reaches_34 dC_reaches_37 (fun x h9 => (hnt x h9).elim) (Nat.le_of_ble_eq_true rfl) (Nat.le_of_ble_eq_true rfl) (Nat.le_of_ble_eq_true rfl) (Nat.le_of_ble_eq_true rfl) hlocks (fun t9 ha hz hk9 => ⟨(), trivial, ⟨Or.inr (Or.inl ⟨rfl, (by unfold xC_reaches; rw [if_neg h1, if_neg h2, if_neg h3])⟩), hP.kept (fun _ q9 hq9 => hk9 q9.1 (vx_lt hP hq9)), va_K.moved ha hK⟩, hz, fun q9 h1 _ => hk9 q9 h1⟩) hS.2.2 (by decide) (by decide)
  · exact vx_throwS (rest := []) (names := xUp) (A := A) hx hb hl0 hown (by decide +kernel) (by decide +kernel) (hq _ q_109) (hq _ q_6) hX.2.2.2.2.2.2.2.1.choose_spec (x_all hq x_good39 x_bad39 hX.2.1.1 hX.2.2.2.1.1 hX.2.2.2.1.2.1 hX.2.2.2.1.2.2) x_ot39 hX.1.1 hX.1.2 hS (hl.1.trans hml.symm) dC_reaches_7 dC_reaches_10 dC_reaches_11 dC_reaches_13 dC_reaches_16 (fun x h9 => (hnt x h9).elim) (Nat.le_of_ble_eq_true rfl) (Nat.le_of_ble_eq_true rfl) (Nat.le_of_ble_eq_true rfl) (Nat.le_of_ble_eq_true rfl) hlocks (fun t9 ha hz hk9 => ⟨(), trivial, ⟨Or.inl ⟨rfl, (by unfold xC_reaches; rw [if_pos h1])⟩, hP.kept (fun _ q9 hq9 => hk9 q9.1 (vx_lt hP hq9)), va_K.moved ha hK⟩, hz, fun q9 h1 _ => hk9 q9 h1⟩) hS.2.2 (by decide) (by decide)
def xC_pack (tg : Nat → Int32) (ad : Nat → Int32) (mt : Nat → Int32) (b : Int32) (n : Int64) : Int32 := if (fC_fitsSpace b n) = 0 then 1 else 0
set_option maxHeartbeats 4000000 in
set_option maxRecDepth 100000 in
theorem kC_pack (l : Launch) (hl0 : l.stackTraces = false) {D : va_G} {q : Nat → Nat} {k : Nat → ClassId} {tg : Nat → Int32} {ad : Nat → Int32} {mt : Nat → Int32} {rb : Nat → Int64} {rt : Nat → Int64} {rp : Nat → Int32} {nr : Int32} {A : Nat → Prop} (b : Int32) (n : Int64) : vx_Met l yC_pack wC_pack { frames := 6, cells := 1, slots := 6, locals := 101 } (va_Pc [.ref (q 0), .int b, .long n] (fun U => va_P D zCl (cW q k tg ad mt rb rt rp nr) U.heap ∧ va_K D zCl (zT k) U ∧ va_D A (cW q k tg ad mt rb rt rp nr) ∧ zX A U U.heap)) (va_Qi (fun v9 (_ : Unit) => xC_pack tg ad mt b n = 0 ∧ v9 = fC_packed (fC_unsigned b) ((fC_unsigned b) + n)) (fun _ t => va_P D zCl (cW q k tg ad mt rb rt rp nr) t.heap ∧ va_K D zCl (zT k) t ∧ va_D A (cW q k tg ad mt rb rt rp nr)) A) (vx_X (fun _ : Unit => True) (fun E _ t => zE1 E (xC_pack tg ad mt b n) ∧ va_P D zCl (cW q k tg ad mt rb rt rp nr) t.heap ∧ va_K D zCl (zT k) t) A) 1 6 A := by
  refine vx_ofW (cc := cC_pack) (maxL := 4) (ret := (some .int)) (by decide) rfl ?_
  intro p e s m args below meth c s₁ B hml hnt hv
  obtain ⟨rfl, hP, hK, hD, hX⟩ := hv
  have hx := B.exec
  have hb := B.bytes
  have hr := B.returns
  have hts := atoms_spec (ws := wC_pack) B.pre
  have hq : ∀ w ∈ wA, w.before _ s = true := fun w h => hts w (List.mem_cons_of_mem _ h)
  have hown : s.vm.findClass "CapUnit" = some m.cls := findClass_of_methodNamed B.named
  have hlocks := B.notSynchronized
  have hS : va_S A s.heap s.heap [] := va_S.rf
  have hl := lv_entry ([.ref (q 0), .int b, .long n]) (n := 4) (Nat.le_of_ble_eq_true rfl)
  rw [lg_entry_eq]
  generalize (lg_sl ([.ref (q 0), .int b, .long n]) ++ List.replicate (4 - (lg_sl ([.ref (q 0), .int b, .long n])).length) Slot.unset).toArray = ls at hl ⊢
  have hl : lv_has ls 4 [(0, .ref (q 0)), (1, .int b), (2, .long n)] := hl
  refine lv_iload_n hx hb dC_pack_0 rfl (lv_at hl 1 rfl) ?_
  refine lv_lload_n hx hb dC_pack_1 rfl (lv_at hl 2 rfl) ?_
  refine zc_i (va_runS (As := [.int b, .long n]) (rest := []) ⟨hx, hb, hml, hown, hq⟩ (kC_fitsSpace l s.heap b n) (va_cwS 2 hq (wA_S q_177 q_178 q_1 q_179) rfl rfl rfl (by decide +kernel) ⟨Nat.le_of_ble_eq_true rfl, Nat.le_of_ble_eq_true rfl⟩) ⟨fun a U g mk q => q, fun U hU hW => ⟨rfl, hU⟩⟩ rfl rfl hl.1 rfl (lv_room (Nat.le_of_ble_eq_true rfl)) dC_pack_2 ⟨Nat.zero_le _, Nat.zero_le _⟩) hS (fun locs hS => ?_)
  refine lv_if_ne (tgt := 18) hx hb dC_pack_5 rfl (fun h1 => ?_) (fun h1 => ?_)
  · refine lv_iload_n hx hb dC_pack_18 rfl (lv_at hl 1 rfl) ?_
    refine zc_l (va_runS (As := [.int b]) (rest := []) ⟨hx, hb, hml, hown, hq⟩ (kC_unsigned l s.heap b) (va_cwS 1 hq (wA_S q_63 q_64 q_1 q_65) rfl rfl rfl (by decide +kernel) ⟨Nat.le_of_ble_eq_true rfl, Nat.le_of_ble_eq_true rfl⟩) ⟨fun a U g mk q => q, fun U hU hW => ⟨rfl, hU⟩⟩ rfl rfl hl.1 rfl (lv_room (Nat.le_of_ble_eq_true rfl)) dC_pack_19 ⟨Nat.zero_le _, Nat.zero_le _⟩) hS (fun locs hS => ?_)
    refine lv_iload_n hx hb dC_pack_22 rfl (lv_at hl 1 rfl) ?_
    refine zc_l (va_runS (As := [.int b]) (rest := [.long (fC_unsigned b)]) ⟨hx, hb, hml, hown, hq⟩ (kC_unsigned l s.heap b) (va_cwS 1 hq (wA_S q_63 q_64 q_1 q_65) rfl rfl rfl (by decide +kernel) ⟨Nat.le_of_ble_eq_true rfl, Nat.le_of_ble_eq_true rfl⟩) ⟨fun a U g mk q => q, fun U hU hW => ⟨rfl, hU⟩⟩ rfl rfl hl.1 rfl (lv_room (Nat.le_of_ble_eq_true rfl)) dC_pack_23 ⟨Nat.zero_le _, Nat.zero_le _⟩) hS (fun locs hS => ?_)
    refine lv_lload_n hx hb dC_pack_26 rfl (lv_at hl 2 rfl) ?_
    refine lv_ladd hx hb dC_pack_27 ?_
    refine zc_i (va_runS (As := [.long (fC_unsigned b), .long ((fC_unsigned b) + n)]) (rest := []) ⟨hx, hb, hml, hown, hq⟩ (kC_packed l s.heap (fC_unsigned b) ((fC_unsigned b) + n)) (va_cwS 2 hq (wA_S q_212 q_213 q_1 q_214) rfl rfl rfl (by decide +kernel) ⟨Nat.le_of_ble_eq_true rfl, Nat.le_of_ble_eq_true rfl⟩) ⟨fun a U g mk q => q, fun U hU hW => ⟨rfl, hU⟩⟩ rfl rfl hl.1 rfl (lv_room (Nat.le_of_ble_eq_true rfl)) dC_pack_28 ⟨Nat.zero_le _, Nat.zero_le _⟩) hS (fun locs hS => ?_)
    refine vx_ret (W.widen (k := 1) (n := 6) (by decide) (by decide) ?_)
    exact W.iret (v := fC_packed (fC_unsigned b) ((fC_unsigned b) + n)) hx hb hr (fun t9 ht hW => ⟨⟨_, (), rfl, ⟨(by unfold xC_pack; rw [if_neg h1]), (rfl)⟩, by rw [ht]; exact hP, va_K.moved hW.alike hK, hD⟩, hS.F ht⟩) hS.2.2 dC_pack_31
  · exact vx_throwS (rest := []) (names := xUp) (A := A) hx hb hl0 hown (by decide +kernel) (by decide +kernel) (hq _ q_180) (hq _ q_7) hX.2.2.2.2.2.2.2.2.2.2.1.choose_spec (x_all hq x_good50 x_bad50 hX.2.1.2.1 hX.2.2.2.1.1 hX.2.2.2.1.2.1 hX.2.2.2.1.2.2) x_ot50 hX.1.1 hX.1.2 hS (hl.1.trans hml.symm) dC_pack_8 dC_pack_11 dC_pack_12 dC_pack_14 dC_pack_17 (fun x h9 => (hnt x h9).elim) (Nat.le_of_ble_eq_true rfl) (Nat.le_of_ble_eq_true rfl) (Nat.le_of_ble_eq_true rfl) (Nat.le_of_ble_eq_true rfl) hlocks (fun t9 ha hz hk9 => ⟨(), trivial, ⟨⟨rfl, (by unfold xC_pack; rw [if_pos h1])⟩, hP.kept (fun _ q9 hq9 => hk9 q9.1 (vx_lt hP hq9)), va_K.moved ha hK⟩, hz, fun q9 h1 _ => hk9 q9 h1⟩) hS.2.2 (by decide) (by decide)
def xC_rounded (tg : Nat → Int32) (ad : Nat → Int32) (mt : Nat → Int32) (n : Int64) (y : Int32) : Int32 := if (fC_fitsSpace (0 : Int32) n) = 0 then 1 else (if y = 0 then 0 else (if ((fC_packed (0 : Int64) n) &&& (16384 : Int32)) = 0 then 0 else 0))
def fC_rounded (tg : Nat → Int32) (ad : Nat → Int32) (mt : Nat → Int32) (n : Int64) (y : Int32) : Int64 := if (fC_fitsSpace (0 : Int32) n) = 0 then 0 else (if y = 0 then (fC_topOf (fC_packed (0 : Int64) n) (0 : Int32)) else (if ((fC_packed (0 : Int64) n) &&& (16384 : Int32)) = 0 then (1 : Int64) else ((1 : Int64) <<< (((fC_exponentOf (fC_packed (0 : Int64) n)) + (3 : Int32)).toInt64 &&& 63))))
set_option maxHeartbeats 4000000 in
set_option maxRecDepth 100000 in
theorem kC_rounded (l : Launch) (hl0 : l.stackTraces = false) {D : va_G} {q : Nat → Nat} {k : Nat → ClassId} {tg : Nat → Int32} {ad : Nat → Int32} {mt : Nat → Int32} {rb : Nat → Int64} {rt : Nat → Int64} {rp : Nat → Int32} {nr : Int32} {A : Nat → Prop} (n : Int64) (y : Int32) : vx_Met l yC_rounded wC_rounded { frames := 6, cells := 1, slots := 6, locals := 101 } (va_Pc [.ref (q 0), .long n, .int y] (fun U => va_P D zCl (cW q k tg ad mt rb rt rp nr) U.heap ∧ va_K D zCl (zT k) U ∧ va_D A (cW q k tg ad mt rb rt rp nr) ∧ zX A U U.heap)) (va_Ql (fun v9 (_ : Unit) => xC_rounded tg ad mt n y = 0 ∧ v9 = fC_rounded tg ad mt n y) (fun _ t => va_P D zCl (cW q k tg ad mt rb rt rp nr) t.heap ∧ va_K D zCl (zT k) t ∧ va_D A (cW q k tg ad mt rb rt rp nr)) A) (vx_X (fun _ : Unit => True) (fun E _ t => zE1 E (xC_rounded tg ad mt n y) ∧ va_P D zCl (cW q k tg ad mt rb rt rp nr) t.heap ∧ va_K D zCl (zT k) t) A) 1 6 A := by
  refine vx_ofW (cc := cC_rounded) (maxL := 5) (ret := (some .long)) (by decide) rfl ?_
  intro p e s m args below meth c s₁ B hml hnt hv
  obtain ⟨rfl, hP, hK, hD, hX⟩ := hv
  have hx := B.exec
  have hb := B.bytes
  have hr := B.returns
  have hts := atoms_spec (ws := wC_rounded) B.pre
  have hq : ∀ w ∈ wA, w.before _ s = true := fun w h => hts w (List.mem_cons_of_mem _ h)
  have hown : s.vm.findClass "CapUnit" = some m.cls := findClass_of_methodNamed B.named
  have hlocks := B.notSynchronized
  have hS : va_S A s.heap s.heap [] := va_S.rf
  have hl := lv_entry ([.ref (q 0), .long n, .int y]) (n := 5) (Nat.le_of_ble_eq_true rfl)
  rw [lg_entry_eq]
  generalize (lg_sl ([.ref (q 0), .long n, .int y]) ++ List.replicate (5 - (lg_sl ([.ref (q 0), .long n, .int y])).length) Slot.unset).toArray = ls at hl ⊢
  have hl : lv_has ls 5 [(0, .ref (q 0)), (1, .long n), (3, .int y)] := hl
  refine lv_iconst (v := 0) hx hb dC_rounded_0 (by decide) ?_
  refine lv_lload_n hx hb dC_rounded_1 rfl (lv_at hl 1 rfl) ?_
  refine zc_i (va_runS (As := [.int (0 : Int32), .long n]) (rest := []) ⟨hx, hb, hml, hown, hq⟩ (kC_fitsSpace l s.heap (0 : Int32) n) (va_cwS 2 hq (wA_S q_177 q_178 q_1 q_179) rfl rfl rfl (by decide +kernel) ⟨Nat.le_of_ble_eq_true rfl, Nat.le_of_ble_eq_true rfl⟩) ⟨fun a U g mk q => q, fun U hU hW => ⟨rfl, hU⟩⟩ rfl rfl hl.1 rfl (lv_room (Nat.le_of_ble_eq_true rfl)) dC_rounded_2 ⟨Nat.zero_le _, Nat.zero_le _⟩) hS (fun locs hS => ?_)
  refine lv_if_ne (tgt := 18) hx hb dC_rounded_5 rfl (fun h1 => ?_) (fun h1 => ?_)
  · refine lv_lconst (v := 0) hx hb dC_rounded_18 (by decide) ?_
    refine lv_lload_n hx hb dC_rounded_19 rfl (lv_at hl 1 rfl) ?_
    refine zc_i (va_runS (As := [.long (0 : Int64), .long n]) (rest := []) ⟨hx, hb, hml, hown, hq⟩ (kC_packed l s.heap (0 : Int64) n) (va_cwS 2 hq (wA_S q_212 q_213 q_1 q_214) rfl rfl rfl (by decide +kernel) ⟨Nat.le_of_ble_eq_true rfl, Nat.le_of_ble_eq_true rfl⟩) ⟨fun a U g mk q => q, fun U hU hW => ⟨rfl, hU⟩⟩ rfl rfl hl.1 rfl (lv_room (Nat.le_of_ble_eq_true rfl)) dC_rounded_20 ⟨Nat.zero_le _, Nat.zero_le _⟩) hS (fun locs hS => ?_)
    refine lv_istore (lv' := [(4, .int (fC_packed (0 : Int64) n)), (0, .ref (q 0)), (1, .long n), (3, .int y)]) hx hb dC_rounded_23 hl (by decide) rfl (fun ls hl => ?_)
    refine lv_iload_n hx hb dC_rounded_25 rfl (lv_at hl 3 rfl) ?_
    refine lv_if_ne (tgt := 36) hx hb dC_rounded_26 rfl (fun h2 => ?_) (fun h2 => ?_)
    · refine lv_iload hx hb dC_rounded_36 (lv_at hl 0 rfl) ?_
      refine lv_sipush (v := 16384) hx hb dC_rounded_38 (by decide) ?_
      refine lv_iand hx hb dC_rounded_41 ?_
      refine lv_if_eq (tgt := 57) hx hb dC_rounded_42 rfl (fun h3 => ?_) (fun h3 => ?_)
      · refine lv_lconst (v := 1) hx hb dC_rounded_57 (by decide) ?_
        refine vx_ret (W.widen (k := 1) (n := 6) (by decide) (by decide) ?_)
        exact W.lret (v := (1 : Int64)) hx hb hr (fun t9 ht hW => ⟨⟨_, (), rfl, ⟨(by unfold xC_rounded; rw [if_neg h1, if_neg h2, if_pos h3]), (by unfold fC_rounded; rw [if_neg h1, if_neg h2, if_pos h3])⟩, by rw [ht]; exact hP, va_K.moved hW.alike hK, hD⟩, hS.F ht⟩) hS.2.2 dC_rounded_58
      · refine lv_lconst (v := 1) hx hb dC_rounded_45 (by decide) ?_
        refine lv_iload hx hb dC_rounded_46 (lv_at hl 0 rfl) ?_
        refine zc_i (va_runS (As := [.int (fC_packed (0 : Int64) n)]) (rest := [.long (1 : Int64)]) ⟨hx, hb, hml, hown, hq⟩ (kC_exponentOf l s.heap (fC_packed (0 : Int64) n)) (va_cwS 1 hq (wA_S q_60 q_61 q_1 q_62) rfl rfl rfl (by decide +kernel) ⟨Nat.le_of_ble_eq_true rfl, Nat.le_of_ble_eq_true rfl⟩) ⟨fun a U g mk q => q, fun U hU hW => ⟨rfl, hU⟩⟩ rfl rfl hl.1 rfl (lv_room (Nat.le_of_ble_eq_true rfl)) dC_rounded_48 ⟨Nat.zero_le _, Nat.zero_le _⟩) hS (fun locs hS => ?_)
        refine lv_iconst (v := 3) hx hb dC_rounded_51 (by decide) ?_
        refine lv_iadd hx hb dC_rounded_52 ?_
        refine lv_lshl hx hb dC_rounded_53 rfl ?_
        refine lv_goto (tgt := 58) hx hb dC_rounded_54 rfl ?_
        refine vx_ret (W.widen (k := 1) (n := 6) (by decide) (by decide) ?_)
        exact W.lret (v := (1 : Int64) <<< (((fC_exponentOf (fC_packed (0 : Int64) n)) + (3 : Int32)).toInt64 &&& 63)) hx hb hr (fun t9 ht hW => ⟨⟨_, (), rfl, ⟨(by unfold xC_rounded; rw [if_neg h1, if_neg h2, if_neg h3]), (by unfold fC_rounded; rw [if_neg h1, if_neg h2, if_neg h3])⟩, by rw [ht]; exact hP, va_K.moved hW.alike hK, hD⟩, hS.F ht⟩) hS.2.2 dC_rounded_58
    · refine lv_iload hx hb dC_rounded_29 (lv_at hl 0 rfl) ?_
      refine lv_iconst (v := 0) hx hb dC_rounded_31 (by decide) ?_
      refine zc_l (va_runS (As := [.int (fC_packed (0 : Int64) n), .int (0 : Int32)]) (rest := []) ⟨hx, hb, hml, hown, hq⟩ (kC_topOf l s.heap (fC_packed (0 : Int64) n) (0 : Int32)) (va_cwS 2 hq (wA_S q_48 q_49 q_1 q_50) rfl rfl rfl (by decide +kernel) ⟨Nat.le_of_ble_eq_true rfl, Nat.le_of_ble_eq_true rfl⟩) ⟨fun a U g mk q => q, fun U hU hW => ⟨rfl, hU⟩⟩ rfl rfl hl.1 rfl (lv_room (Nat.le_of_ble_eq_true rfl)) dC_rounded_32 ⟨Nat.zero_le _, Nat.zero_le _⟩) hS (fun locs hS => ?_)
      refine vx_ret (W.widen (k := 1) (n := 6) (by decide) (by decide) ?_)
      exact W.lret (v := fC_topOf (fC_packed (0 : Int64) n) (0 : Int32)) hx hb hr (fun t9 ht hW => ⟨⟨_, (), rfl, ⟨(by unfold xC_rounded; rw [if_neg h1, if_pos h2]), (by unfold fC_rounded; rw [if_neg h1, if_pos h2])⟩, by rw [ht]; exact hP, va_K.moved hW.alike hK, hD⟩, hS.F ht⟩) hS.2.2 dC_rounded_35
  · exact vx_throwS (rest := []) (names := xUp) (A := A) hx hb hl0 hown (by decide +kernel) (by decide +kernel) (hq _ q_180) (hq _ q_7) hX.2.2.2.2.2.2.2.2.2.2.2.choose_spec (x_all hq x_good50 x_bad50 hX.2.1.2.1 hX.2.2.2.1.1 hX.2.2.2.1.2.1 hX.2.2.2.1.2.2) x_ot50 hX.1.1 hX.1.2 hS (hl.1.trans hml.symm) dC_rounded_8 dC_rounded_11 dC_rounded_12 dC_rounded_14 dC_rounded_17 (fun x h9 => (hnt x h9).elim) (Nat.le_of_ble_eq_true rfl) (Nat.le_of_ble_eq_true rfl) (Nat.le_of_ble_eq_true rfl) (Nat.le_of_ble_eq_true rfl) hlocks (fun t9 ha hz hk9 => ⟨(), trivial, ⟨⟨rfl, (by unfold xC_rounded; rw [if_pos h1])⟩, hP.kept (fun _ q9 hq9 => hk9 q9.1 (vx_lt hP hq9)), va_K.moved ha hK⟩, hz, fun q9 h1 _ => hk9 q9 h1⟩) hS.2.2 (by decide) (by decide)
end
section
/-! root, bound; the loops of the class. -/
theorem zz_r32 {r : Int32} (h1 : ¬ r < (1 : Int32)) (h2 : r < (32 : Int32)) : vp_in r 32 := by
  rw [vp_in_iff]
  rw [Int32.lt_iff_toInt_lt] at h1 h2
  have e0 : (1 : Int32).toInt = 1 := by decide
  have e32 : (32 : Int32).toInt = 32 := by decide
  omega
theorem zz_r8 {r : Int32} (h2 : r < (8 : Int32)) (h1 : ¬ r < (0 : Int32)) : vp_in r 8 := by
  rw [vp_in_iff]
  rw [Int32.lt_iff_toInt_lt] at h1 h2
  have e0 : (0 : Int32).toInt = 0 := by decide
  have e32 : (8 : Int32).toInt = 8 := by decide
  omega
theorem zI_cl {i : Nat} (h : i < 2147483648) : (zI (i : Nat)).toNatClampNeg = i := by
  rw [← Int32.toNat_toInt, zI_int (by omega) (by omega)]
  rfl
theorem zI_in {i n : Nat} (h : i < n) (hn : n < 2147483648) : vp_in (zI (i : Nat)) n := by
  rw [vp_in_iff, zI_int (by omega) (by omega)]
  omega

def xC_root (tg : Nat → Int32) (ad : Nat → Int32) (mt : Nat → Int32) (nr : Int32) (r : Int32) (b : Int32) (n : Int64) (y : Int32) : Int32 := if r < (1 : Int32) then 1 else (if r < (32 : Int32) then (if (fC_fitsSpace b n) = 0 then 2 else (if y < 0 then 2 else (if y ≤ (4095 : Int32) then (if nr < (8 : Int32) then 0 else 3) else 2))) else 1)
set_option maxHeartbeats 4000000 in
set_option maxRecDepth 100000 in
theorem kC_root (l : Launch) (hl0 : l.stackTraces = false) {D : va_G} {q : Nat → Nat} {k : Nat → ClassId} {tg : Nat → Int32} {ad : Nat → Int32} {mt : Nat → Int32} {rb : Nat → Int64} {rt : Nat → Int64} {rp : Nat → Int32} {nr : Int32} {A : Nat → Prop} (r : Int32) (b : Int32) (n : Int64) (y : Int32) (in0 : ¬ nr < (0 : Int32)) : vx_Met l yC_root wC_root { frames := 6, cells := 1, slots := 6, locals := 101 } (va_Pc [.ref (q 0), .int r, .int b, .long n, .int y] (fun U => va_P D zCl (cW q k tg ad mt rb rt rp nr) U.heap ∧ va_K D zCl (zT k) U ∧ va_D A (cW q k tg ad mt rb rt rp nr) ∧ zX A U U.heap)) (va_Qi (fun v9 (_ : Unit) => xC_root tg ad mt nr r b n y = 0 ∧ v9 = (fC_baseIn (zS r (1 : Int32) tg) (zS r b ad) (zS r (((y <<< ((20 : Int32) &&& 31)) ||| (983040 : Int32)) ||| ((fC_packed (fC_unsigned b) ((fC_unsigned b) + n)) &&& (32767 : Int32))) mt) r).toInt32) (fun _ t => va_P D zCl (cW q k (zS r (1 : Int32) tg) (zS r b ad) (zS r (((y <<< ((20 : Int32) &&& 31)) ||| (983040 : Int32)) ||| ((fC_packed (fC_unsigned b) ((fC_unsigned b) + n)) &&& (32767 : Int32))) mt) (vp_updL rb nr.toNatClampNeg (fC_baseIn (zS r (1 : Int32) tg) (zS r b ad) (zS r (((y <<< ((20 : Int32) &&& 31)) ||| (983040 : Int32)) ||| ((fC_packed (fC_unsigned b) ((fC_unsigned b) + n)) &&& (32767 : Int32))) mt) r)) (vp_updL rt nr.toNatClampNeg (fC_topIn (zS r (1 : Int32) tg) (zS r b ad) (zS r (((y <<< ((20 : Int32) &&& 31)) ||| (983040 : Int32)) ||| ((fC_packed (fC_unsigned b) ((fC_unsigned b) + n)) &&& (32767 : Int32))) mt) r)) (upd rp nr.toNatClampNeg y) (nr + (1 : Int32))) t.heap ∧ va_K D zCl (zT k) t ∧ va_D A (cW q k (zS r (1 : Int32) tg) (zS r b ad) (zS r (((y <<< ((20 : Int32) &&& 31)) ||| (983040 : Int32)) ||| ((fC_packed (fC_unsigned b) ((fC_unsigned b) + n)) &&& (32767 : Int32))) mt) (vp_updL rb nr.toNatClampNeg (fC_baseIn (zS r (1 : Int32) tg) (zS r b ad) (zS r (((y <<< ((20 : Int32) &&& 31)) ||| (983040 : Int32)) ||| ((fC_packed (fC_unsigned b) ((fC_unsigned b) + n)) &&& (32767 : Int32))) mt) r)) (vp_updL rt nr.toNatClampNeg (fC_topIn (zS r (1 : Int32) tg) (zS r b ad) (zS r (((y <<< ((20 : Int32) &&& 31)) ||| (983040 : Int32)) ||| ((fC_packed (fC_unsigned b) ((fC_unsigned b) + n)) &&& (32767 : Int32))) mt) r)) (upd rp nr.toNatClampNeg y) (nr + (1 : Int32)))) A) (vx_X (fun _ : Unit => True) (fun E _ t => zE E (xC_root tg ad mt nr r b n y) ∧ va_P D zCl (cW q k tg ad mt rb rt rp nr) t.heap ∧ va_K D zCl (zT k) t) A) 1 6 A := by
  refine vx_ofW (cc := cC_root) (maxL := 7) (ret := (some .int)) (by decide) rfl ?_
  intro p e s m args below meth c s₁ B hml hnt hv
  obtain ⟨rfl, hP, hK, hD, hX⟩ := hv
  have hx := B.exec
  have hb := B.bytes
  have hr := B.returns
  have hts := atoms_spec (ws := wC_root) B.pre
  have hq : ∀ w ∈ wA, w.before _ s = true := fun w h => hts w (List.mem_cons_of_mem _ h)
  have hown : s.vm.findClass "CapUnit" = some m.cls := findClass_of_methodNamed B.named
  have hlocks := B.notSynchronized
  have hS : va_S A s.heap s.heap [] := va_S.rf
  have hl := lv_entry ([.ref (q 0), .int r, .int b, .long n, .int y]) (n := 7) (Nat.le_of_ble_eq_true rfl)
  rw [lg_entry_eq]
  generalize (lg_sl ([.ref (q 0), .int r, .int b, .long n, .int y]) ++ List.replicate (7 - (lg_sl ([.ref (q 0), .int r, .int b, .long n, .int y])).length) Slot.unset).toArray = ls at hl ⊢
  have hl : lv_has ls 7 [(0, .ref (q 0)), (1, .int r), (2, .int b), (3, .long n), (5, .int y)] := hl
  refine lv_iload_n hx hb dC_root_0 rfl (lv_at hl 1 rfl) ?_
  refine lv_iconst (v := 1) hx hb dC_root_1 (by decide) ?_
  refine lv_icmp_lt (tgt := 11) hx hb dC_root_2 rfl (fun h1 => ?_) (fun h1 => ?_)
  · exact vx_throwS (rest := []) (names := xUp) (A := A) hx hb hl0 hown (by decide +kernel) (by decide +kernel) (hq _ q_109) (hq _ q_6) hX.2.2.2.2.1.choose_spec (x_all hq x_good39 x_bad39 hX.2.1.1 hX.2.2.2.1.1 hX.2.2.2.1.2.1 hX.2.2.2.1.2.2) x_ot39 hX.1.1 hX.1.2 hS (hl.1.trans hml.symm) dC_root_11 dC_root_14 dC_root_15 dC_root_17 dC_root_20 (fun x h9 => (hnt x h9).elim) (Nat.le_of_ble_eq_true rfl) (Nat.le_of_ble_eq_true rfl) (Nat.le_of_ble_eq_true rfl) (Nat.le_of_ble_eq_true rfl) hlocks (fun t9 ha hz hk9 => ⟨(), trivial, ⟨Or.inl ⟨rfl, (by unfold xC_root; rw [if_pos h1])⟩, hP.kept (fun _ q9 hq9 => hk9 q9.1 (vx_lt hP hq9)), va_K.moved ha hK⟩, hz, fun q9 h1 _ => hk9 q9 h1⟩) hS.2.2 (by decide) (by decide)
  · refine lv_iload_n hx hb dC_root_5 rfl (lv_at hl 1 rfl) ?_
    refine lv_bipush (v := 32) hx hb dC_root_6 (by decide) ?_
    refine lv_icmp_lt (tgt := 21) hx hb dC_root_8 rfl (fun h2 => ?_) (fun h2 => ?_)
    · have gr := zz_r32 h1 h2
      refine lv_iload_n hx hb dC_root_21 rfl (lv_at hl 2 rfl) ?_
      refine lv_lload_n hx hb dC_root_22 rfl (lv_at hl 3 rfl) ?_
      refine zc_i (va_runS (As := [.int b, .long n]) (rest := []) ⟨hx, hb, hml, hown, hq⟩ (kC_fitsSpace l s.heap b n) (va_cwS 2 hq (wA_S q_177 q_178 q_1 q_179) rfl rfl rfl (by decide +kernel) ⟨Nat.le_of_ble_eq_true rfl, Nat.le_of_ble_eq_true rfl⟩) ⟨fun a U g mk q => q, fun U hU hW => ⟨rfl, hU⟩⟩ rfl rfl hl.1 rfl (lv_room (Nat.le_of_ble_eq_true rfl)) dC_root_23 ⟨Nat.zero_le _, Nat.zero_le _⟩) hS (fun locs hS => ?_)
      refine lv_if_eq (tgt := 42) hx hb dC_root_26 rfl (fun h3 => ?_) (fun h3 => ?_)
      · exact vx_throwS (rest := []) (names := xUp) (A := A) hx hb hl0 hown (by decide +kernel) (by decide +kernel) (hq _ q_180) (hq _ q_7) hX.2.2.2.2.2.1.choose_spec (x_all hq x_good50 x_bad50 hX.2.1.2.1 hX.2.2.2.1.1 hX.2.2.2.1.2.1 hX.2.2.2.1.2.2) x_ot50 hX.1.1 hX.1.2 hS (hl.1.trans hml.symm) dC_root_42 dC_root_45 dC_root_46 dC_root_48 dC_root_51 (fun x h9 => (hnt x h9).elim) (Nat.le_of_ble_eq_true rfl) (Nat.le_of_ble_eq_true rfl) (Nat.le_of_ble_eq_true rfl) (Nat.le_of_ble_eq_true rfl) hlocks (fun t9 ha hz hk9 => ⟨(), trivial, ⟨Or.inr (Or.inl ⟨rfl, (by unfold xC_root; rw [if_neg h1, if_pos h2, if_pos h3])⟩), hP.kept (fun _ q9 hq9 => hk9 q9.1 (vx_lt hP hq9)), va_K.moved ha hK⟩, hz, fun q9 h1 _ => hk9 q9 h1⟩) hS.2.2 (by decide) (by decide)
      · refine lv_iload hx hb dC_root_29 (lv_at hl 4 rfl) ?_
        refine lv_if_lt (tgt := 42) hx hb dC_root_31 rfl (fun h4 => ?_) (fun h4 => ?_)
        · exact vx_throwS (rest := []) (names := xUp) (A := A) hx hb hl0 hown (by decide +kernel) (by decide +kernel) (hq _ q_180) (hq _ q_7) hX.2.2.2.2.2.1.choose_spec (x_all hq x_good50 x_bad50 hX.2.1.2.1 hX.2.2.2.1.1 hX.2.2.2.1.2.1 hX.2.2.2.1.2.2) x_ot50 hX.1.1 hX.1.2 hS (hl.1.trans hml.symm) dC_root_42 dC_root_45 dC_root_46 dC_root_48 dC_root_51 (fun x h9 => (hnt x h9).elim) (Nat.le_of_ble_eq_true rfl) (Nat.le_of_ble_eq_true rfl) (Nat.le_of_ble_eq_true rfl) (Nat.le_of_ble_eq_true rfl) hlocks (fun t9 ha hz hk9 => ⟨(), trivial, ⟨Or.inr (Or.inl ⟨rfl, (by unfold xC_root; rw [if_neg h1, if_pos h2, if_neg h3, if_pos h4])⟩), hP.kept (fun _ q9 hq9 => hk9 q9.1 (vx_lt hP hq9)), va_K.moved ha hK⟩, hz, fun q9 h1 _ => hk9 q9 h1⟩) hS.2.2 (by decide) (by decide)
        · refine lv_iload hx hb dC_root_34 (lv_at hl 4 rfl) ?_
          refine lv_sipush (v := 4095) hx hb dC_root_36 (by decide) ?_
          refine lv_icmp_le (tgt := 52) hx hb dC_root_39 rfl (fun h5 => ?_) (fun h5 => ?_)
          · refine lv_aload_n hx hb dC_root_52 rfl (lv_at hl 0 rfl) ?_
            refine va_get (D := D) (ci := 0) (v := .int nr) (C := "CapUnit") (T := TC) (N := 7) hx hb hq uC_in hown hK hP 0 rfl rfl 6 (by decide) (hq _ q_25) (fun _ h9 => h9) rfl dC_root_53 ?_
            refine lv_bipush (v := 8) hx hb dC_root_56 (by decide) ?_
            refine lv_icmp_lt (tgt := 71) hx hb dC_root_58 rfl (fun h6 => ?_) (fun h6 => ?_)
            · have gnr := zz_r8 h6 in0
              refine lv_iload_n hx hb dC_root_71 rfl (lv_at hl 2 rfl) ?_
              refine zc_l (va_runS (As := [.int b]) (rest := []) ⟨hx, hb, hml, hown, hq⟩ (kC_unsigned l s.heap b) (va_cwS 1 hq (wA_S q_63 q_64 q_1 q_65) rfl rfl rfl (by decide +kernel) ⟨Nat.le_of_ble_eq_true rfl, Nat.le_of_ble_eq_true rfl⟩) ⟨fun a U g mk q => q, fun U hU hW => ⟨rfl, hU⟩⟩ rfl rfl hl.1 rfl (lv_room (Nat.le_of_ble_eq_true rfl)) dC_root_72 ⟨Nat.zero_le _, Nat.zero_le _⟩) hS (fun locs hS => ?_)
              refine lv_iload_n hx hb dC_root_75 rfl (lv_at hl 2 rfl) ?_
              refine zc_l (va_runS (As := [.int b]) (rest := [.long (fC_unsigned b)]) ⟨hx, hb, hml, hown, hq⟩ (kC_unsigned l s.heap b) (va_cwS 1 hq (wA_S q_63 q_64 q_1 q_65) rfl rfl rfl (by decide +kernel) ⟨Nat.le_of_ble_eq_true rfl, Nat.le_of_ble_eq_true rfl⟩) ⟨fun a U g mk q => q, fun U hU hW => ⟨rfl, hU⟩⟩ rfl rfl hl.1 rfl (lv_room (Nat.le_of_ble_eq_true rfl)) dC_root_76 ⟨Nat.zero_le _, Nat.zero_le _⟩) hS (fun locs hS => ?_)
              refine lv_lload_n hx hb dC_root_79 rfl (lv_at hl 3 rfl) ?_
              refine lv_ladd hx hb dC_root_80 ?_
              refine zc_i (va_runS (As := [.long (fC_unsigned b), .long ((fC_unsigned b) + n)]) (rest := []) ⟨hx, hb, hml, hown, hq⟩ (kC_packed l s.heap (fC_unsigned b) ((fC_unsigned b) + n)) (va_cwS 2 hq (wA_S q_212 q_213 q_1 q_214) rfl rfl rfl (by decide +kernel) ⟨Nat.le_of_ble_eq_true rfl, Nat.le_of_ble_eq_true rfl⟩) ⟨fun a U g mk q => q, fun U hU hW => ⟨rfl, hU⟩⟩ rfl rfl hl.1 rfl (lv_room (Nat.le_of_ble_eq_true rfl)) dC_root_81 ⟨Nat.zero_le _, Nat.zero_le _⟩) hS (fun locs hS => ?_)
              refine lv_sipush (v := 32767) hx hb dC_root_84 (by decide) ?_
              refine lv_iand hx hb dC_root_87 ?_
              refine lv_istore (lv' := [(6, .int ((fC_packed (fC_unsigned b) ((fC_unsigned b) + n)) &&& (32767 : Int32))), (0, .ref (q 0)), (1, .int r), (2, .int b), (3, .long n), (5, .int y)]) hx hb dC_root_88 hl (by decide) rfl (fun ls hl => ?_)
              refine lv_aload_n hx hb dC_root_90 rfl (lv_at hl 1 rfl) ?_
              refine lv_iload_n hx hb dC_root_91 rfl (lv_at hl 2 rfl) ?_
              refine lv_iconst (v := 1) hx hb dC_root_92 (by decide) ?_
              refine lv_iload_n hx hb dC_root_93 rfl (lv_at hl 3 rfl) ?_
              refine lv_iload hx hb dC_root_94 (lv_at hl 5 rfl) ?_
              refine lv_bipush (v := 20) hx hb dC_root_96 (by decide) ?_
              refine lv_ishl hx hb dC_root_98 ?_
              refine lv_ldc (v := 983040) hx hb hown (hts (.constant "CapUnit" 64 983040) (by decide +kernel)) dC_root_99 ?_
              refine lv_ior hx hb dC_root_101 ?_
              refine lv_iload hx hb dC_root_102 (lv_at hl 0 rfl) ?_
              refine lv_ior hx hb dC_root_104 ?_
              refine va_calli (va_runV (C := "CapUnit") (b := q 0) (As := [.int r, .int (1 : Int32), .int b, .int (((y <<< ((20 : Int32) &&& 31)) ||| (983040 : Int32)) ||| ((fC_packed (fC_unsigned b) ((fC_unsigned b) + n)) &&& (32767 : Int32)))]) (rest := []) ⟨hx, hb, hml, hown, hq⟩ (kC_become l r (1 : Int32) b (((y <<< ((20 : Int32) &&& 31)) ||| (983040 : Int32)) ||| ((fC_packed (fC_unsigned b) ((fC_unsigned b) + n)) &&& (32767 : Int32))) gr (Or.inr rfl)) (cwV 4 hq (wA_V q_232 q_234 sC_become q_1 q_235) rfl rfl rfl (by decide +kernel) ⟨Nat.le_of_ble_eq_true rfl, Nat.le_of_ble_eq_true rfl⟩) (zw_pre (c := zCl[0]) (q0 := 0) hK hP hD rfl rfl) rfl rfl hl.1 rfl (lv_room (Nat.le_of_ble_eq_true rfl)) dC_root_105 ⟨Nat.le_of_ble_eq_true rfl, Nat.le_of_ble_eq_true rfl⟩) hS (fun _ _ h9 => h9) (fun _ h9 => h9) (fun v9 u9 t9 H locs ht9 hvm9 hv9 hB9 hz9 hk9 hS => ?_)
              obtain ⟨hP, -, hD⟩ := hB9
              rw [ht9] at hP
              subst hv9
              clear hz9 hk9
              refine lv_pop hx hb dC_root_108 rfl ?_
              refine lv_aload_n hx hb dC_root_109 rfl (lv_at hl 1 rfl) ?_
              refine va_get (D := D) (ci := 0) (v := .ref (q 4)) (C := "CapUnit") (T := TC) (N := 7) hx hb hq uC_in hown hK hP 0 rfl rfl 3 (by decide) (hq _ q_22) (fun _ h9 => h9) rfl dC_root_110 ?_
              refine lv_aload_n hx hb dC_root_113 rfl (lv_at hl 1 rfl) ?_
              refine va_get (D := D) (ci := 0) (v := .int nr) (C := "CapUnit") (T := TC) (N := 7) hx hb hq uC_in hown hK hP 0 rfl rfl 6 (by decide) (hq _ q_25) (fun _ h9 => h9) rfl dC_root_114 ?_
              refine lv_aload_n hx hb dC_root_117 rfl (lv_at hl 1 rfl) ?_
              refine lv_iload_n hx hb dC_root_118 rfl (lv_at hl 2 rfl) ?_
              refine zc_l (va_runV (C := "CapUnit") (b := q 0) (As := [.int r]) (rest := [.int nr, .ref (q 4)]) ⟨hx, hb, hml, hown, hq⟩ (kC_baseIn l hP r gr) (cwV 1 hq (wA_V q_88 q_90 sC_baseIn q_1 q_91) rfl rfl rfl (by decide +kernel) ⟨Nat.le_of_ble_eq_true rfl, Nat.le_of_ble_eq_true rfl⟩) (zr_pre (c := zCl[0]) (q0 := 0) hK hP rfl rfl) rfl rfl hl.1 rfl (lv_room (Nat.le_of_ble_eq_true rfl)) dC_root_119 ⟨Nat.le_of_ble_eq_true rfl, Nat.le_of_ble_eq_true rfl⟩) hS (fun locs hS => ?_)
              refine va_last hx hb hK hP hD hS 4 2 rfl rfl gnr dC_root_122 (fun H locs hP hD hS => ?_)
              have hP : va_P D zCl (cW q k (zS r (1 : Int32) tg) (zS r b ad) (zS r (((y <<< ((20 : Int32) &&& 31)) ||| (983040 : Int32)) ||| ((fC_packed (fC_unsigned b) ((fC_unsigned b) + n)) &&& (32767 : Int32))) mt) (vp_updL rb nr.toNatClampNeg (fC_baseIn (zS r (1 : Int32) tg) (zS r b ad) (zS r (((y <<< ((20 : Int32) &&& 31)) ||| (983040 : Int32)) ||| ((fC_packed (fC_unsigned b) ((fC_unsigned b) + n)) &&& (32767 : Int32))) mt) r)) rt rp nr) H := hP
              have hD : va_D A (cW q k (zS r (1 : Int32) tg) (zS r b ad) (zS r (((y <<< ((20 : Int32) &&& 31)) ||| (983040 : Int32)) ||| ((fC_packed (fC_unsigned b) ((fC_unsigned b) + n)) &&& (32767 : Int32))) mt) (vp_updL rb nr.toNatClampNeg (fC_baseIn (zS r (1 : Int32) tg) (zS r b ad) (zS r (((y <<< ((20 : Int32) &&& 31)) ||| (983040 : Int32)) ||| ((fC_packed (fC_unsigned b) ((fC_unsigned b) + n)) &&& (32767 : Int32))) mt) r)) rt rp nr) := hD
              refine lv_aload_n hx hb dC_root_123 rfl (lv_at hl 1 rfl) ?_
              refine va_get (D := D) (ci := 0) (v := .ref (q 5)) (C := "CapUnit") (T := TC) (N := 7) hx hb hq uC_in hown hK hP 0 rfl rfl 4 (by decide) (hq _ q_23) (fun _ h9 => h9) rfl dC_root_124 ?_
              refine lv_aload_n hx hb dC_root_127 rfl (lv_at hl 1 rfl) ?_
              refine va_get (D := D) (ci := 0) (v := .int nr) (C := "CapUnit") (T := TC) (N := 7) hx hb hq uC_in hown hK hP 0 rfl rfl 6 (by decide) (hq _ q_25) (fun _ h9 => h9) rfl dC_root_128 ?_
              refine lv_aload_n hx hb dC_root_131 rfl (lv_at hl 1 rfl) ?_
              refine lv_iload_n hx hb dC_root_132 rfl (lv_at hl 2 rfl) ?_
              refine zc_l (va_runV (C := "CapUnit") (b := q 0) (As := [.int r]) (rest := [.int nr, .ref (q 5)]) ⟨hx, hb, hml, hown, hq⟩ (kC_topIn l hP r gr) (cwV 1 hq (wA_V q_92 q_94 sC_topIn q_1 q_95) rfl rfl rfl (by decide +kernel) ⟨Nat.le_of_ble_eq_true rfl, Nat.le_of_ble_eq_true rfl⟩) (zr_pre (c := zCl[0]) (q0 := 0) hK hP rfl rfl) rfl rfl hl.1 rfl (lv_room (Nat.le_of_ble_eq_true rfl)) dC_root_133 ⟨Nat.le_of_ble_eq_true rfl, Nat.le_of_ble_eq_true rfl⟩) hS (fun locs hS => ?_)
              refine va_last hx hb hK hP hD hS 5 2 rfl rfl gnr dC_root_136 (fun H locs hP hD hS => ?_)
              have hP : va_P D zCl (cW q k (zS r (1 : Int32) tg) (zS r b ad) (zS r (((y <<< ((20 : Int32) &&& 31)) ||| (983040 : Int32)) ||| ((fC_packed (fC_unsigned b) ((fC_unsigned b) + n)) &&& (32767 : Int32))) mt) (vp_updL rb nr.toNatClampNeg (fC_baseIn (zS r (1 : Int32) tg) (zS r b ad) (zS r (((y <<< ((20 : Int32) &&& 31)) ||| (983040 : Int32)) ||| ((fC_packed (fC_unsigned b) ((fC_unsigned b) + n)) &&& (32767 : Int32))) mt) r)) (vp_updL rt nr.toNatClampNeg (fC_topIn (zS r (1 : Int32) tg) (zS r b ad) (zS r (((y <<< ((20 : Int32) &&& 31)) ||| (983040 : Int32)) ||| ((fC_packed (fC_unsigned b) ((fC_unsigned b) + n)) &&& (32767 : Int32))) mt) r)) rp nr) H := hP
              have hD : va_D A (cW q k (zS r (1 : Int32) tg) (zS r b ad) (zS r (((y <<< ((20 : Int32) &&& 31)) ||| (983040 : Int32)) ||| ((fC_packed (fC_unsigned b) ((fC_unsigned b) + n)) &&& (32767 : Int32))) mt) (vp_updL rb nr.toNatClampNeg (fC_baseIn (zS r (1 : Int32) tg) (zS r b ad) (zS r (((y <<< ((20 : Int32) &&& 31)) ||| (983040 : Int32)) ||| ((fC_packed (fC_unsigned b) ((fC_unsigned b) + n)) &&& (32767 : Int32))) mt) r)) (vp_updL rt nr.toNatClampNeg (fC_topIn (zS r (1 : Int32) tg) (zS r b ad) (zS r (((y <<< ((20 : Int32) &&& 31)) ||| (983040 : Int32)) ||| ((fC_packed (fC_unsigned b) ((fC_unsigned b) + n)) &&& (32767 : Int32))) mt) r)) rp nr) := hD
              refine lv_aload_n hx hb dC_root_137 rfl (lv_at hl 1 rfl) ?_
              refine va_get (D := D) (ci := 0) (v := .ref (q 6)) (C := "CapUnit") (T := TC) (N := 7) hx hb hq uC_in hown hK hP 0 rfl rfl 5 (by decide) (hq _ q_24) (fun _ h9 => h9) rfl dC_root_138 ?_
              refine lv_aload_n hx hb dC_root_141 rfl (lv_at hl 1 rfl) ?_
              refine va_get (D := D) (ci := 0) (v := .int nr) (C := "CapUnit") (T := TC) (N := 7) hx hb hq uC_in hown hK hP 0 rfl rfl 6 (by decide) (hq _ q_25) (fun _ h9 => h9) rfl dC_root_142 ?_
              refine lv_iload hx hb dC_root_145 (lv_at hl 5 rfl) ?_
              refine va_iast hx hb hK hP hD hS 6 1 rfl rfl gnr dC_root_147 (fun H locs hP hD hS => ?_)
              have hP : va_P D zCl (cW q k (zS r (1 : Int32) tg) (zS r b ad) (zS r (((y <<< ((20 : Int32) &&& 31)) ||| (983040 : Int32)) ||| ((fC_packed (fC_unsigned b) ((fC_unsigned b) + n)) &&& (32767 : Int32))) mt) (vp_updL rb nr.toNatClampNeg (fC_baseIn (zS r (1 : Int32) tg) (zS r b ad) (zS r (((y <<< ((20 : Int32) &&& 31)) ||| (983040 : Int32)) ||| ((fC_packed (fC_unsigned b) ((fC_unsigned b) + n)) &&& (32767 : Int32))) mt) r)) (vp_updL rt nr.toNatClampNeg (fC_topIn (zS r (1 : Int32) tg) (zS r b ad) (zS r (((y <<< ((20 : Int32) &&& 31)) ||| (983040 : Int32)) ||| ((fC_packed (fC_unsigned b) ((fC_unsigned b) + n)) &&& (32767 : Int32))) mt) r)) (upd rp nr.toNatClampNeg y) nr) H := hP
              have hD : va_D A (cW q k (zS r (1 : Int32) tg) (zS r b ad) (zS r (((y <<< ((20 : Int32) &&& 31)) ||| (983040 : Int32)) ||| ((fC_packed (fC_unsigned b) ((fC_unsigned b) + n)) &&& (32767 : Int32))) mt) (vp_updL rb nr.toNatClampNeg (fC_baseIn (zS r (1 : Int32) tg) (zS r b ad) (zS r (((y <<< ((20 : Int32) &&& 31)) ||| (983040 : Int32)) ||| ((fC_packed (fC_unsigned b) ((fC_unsigned b) + n)) &&& (32767 : Int32))) mt) r)) (vp_updL rt nr.toNatClampNeg (fC_topIn (zS r (1 : Int32) tg) (zS r b ad) (zS r (((y <<< ((20 : Int32) &&& 31)) ||| (983040 : Int32)) ||| ((fC_packed (fC_unsigned b) ((fC_unsigned b) + n)) &&& (32767 : Int32))) mt) r)) (upd rp nr.toNatClampNeg y) nr) := hD
              refine lv_aload_n hx hb dC_root_148 rfl (lv_at hl 1 rfl) ?_
              refine lv_dup hx hb dC_root_149 rfl ?_
              refine va_get (D := D) (ci := 0) (v := .int nr) (C := "CapUnit") (T := TC) (N := 7) hx hb hq uC_in hown hK hP 0 rfl rfl 6 (by decide) (hq _ q_25) (fun _ h9 => h9) rfl dC_root_150 ?_
              refine lv_iconst (v := 1) hx hb dC_root_153 (by decide) ?_
              refine lv_iadd hx hb dC_root_154 ?_
              refine va_put (D := D) (ci := 0) (v := .int (nr + (1 : Int32))) (ty := .int) (C := "CapUnit") (T := TC) (N := 7) hx hb hq uC_in tyC tyC_ok nmC hown hK hP hD hS 0 rfl rfl 6 (by decide) (hq _ q_25) (fun _ h9 => h9) rfl (by decide +kernel) (by rfl) (by rfl) (Nat.le_of_ble_eq_true rfl) dC_root_155 (fun H locs hP hD hS => ?_)
              have hP : va_P D zCl (cW q k (zS r (1 : Int32) tg) (zS r b ad) (zS r (((y <<< ((20 : Int32) &&& 31)) ||| (983040 : Int32)) ||| ((fC_packed (fC_unsigned b) ((fC_unsigned b) + n)) &&& (32767 : Int32))) mt) (vp_updL rb nr.toNatClampNeg (fC_baseIn (zS r (1 : Int32) tg) (zS r b ad) (zS r (((y <<< ((20 : Int32) &&& 31)) ||| (983040 : Int32)) ||| ((fC_packed (fC_unsigned b) ((fC_unsigned b) + n)) &&& (32767 : Int32))) mt) r)) (vp_updL rt nr.toNatClampNeg (fC_topIn (zS r (1 : Int32) tg) (zS r b ad) (zS r (((y <<< ((20 : Int32) &&& 31)) ||| (983040 : Int32)) ||| ((fC_packed (fC_unsigned b) ((fC_unsigned b) + n)) &&& (32767 : Int32))) mt) r)) (upd rp nr.toNatClampNeg y) (nr + (1 : Int32))) H := hP
              have hD : va_D A (cW q k (zS r (1 : Int32) tg) (zS r b ad) (zS r (((y <<< ((20 : Int32) &&& 31)) ||| (983040 : Int32)) ||| ((fC_packed (fC_unsigned b) ((fC_unsigned b) + n)) &&& (32767 : Int32))) mt) (vp_updL rb nr.toNatClampNeg (fC_baseIn (zS r (1 : Int32) tg) (zS r b ad) (zS r (((y <<< ((20 : Int32) &&& 31)) ||| (983040 : Int32)) ||| ((fC_packed (fC_unsigned b) ((fC_unsigned b) + n)) &&& (32767 : Int32))) mt) r)) (vp_updL rt nr.toNatClampNeg (fC_topIn (zS r (1 : Int32) tg) (zS r b ad) (zS r (((y <<< ((20 : Int32) &&& 31)) ||| (983040 : Int32)) ||| ((fC_packed (fC_unsigned b) ((fC_unsigned b) + n)) &&& (32767 : Int32))) mt) r)) (upd rp nr.toNatClampNeg y) (nr + (1 : Int32))) := hD
              refine lv_aload_n hx hb dC_root_158 rfl (lv_at hl 1 rfl) ?_
              refine lv_iload_n hx hb dC_root_159 rfl (lv_at hl 2 rfl) ?_
              refine zc_l (va_runV (C := "CapUnit") (b := q 0) (As := [.int r]) (rest := []) ⟨hx, hb, hml, hown, hq⟩ (kC_baseIn l hP r gr) (cwV 1 hq (wA_V q_88 q_90 sC_baseIn q_1 q_91) rfl rfl rfl (by decide +kernel) ⟨Nat.le_of_ble_eq_true rfl, Nat.le_of_ble_eq_true rfl⟩) (zr_pre (c := zCl[0]) (q0 := 0) hK hP rfl rfl) rfl rfl hl.1 rfl (lv_room (Nat.le_of_ble_eq_true rfl)) dC_root_160 ⟨Nat.le_of_ble_eq_true rfl, Nat.le_of_ble_eq_true rfl⟩) hS (fun locs hS => ?_)
              refine lv_l2i hx hb dC_root_163 rfl ?_
              refine vx_ret (W.widen (k := 1) (n := 6) (by decide) (by decide) ?_)
              exact W.iret (v := (fC_baseIn (zS r (1 : Int32) tg) (zS r b ad) (zS r (((y <<< ((20 : Int32) &&& 31)) ||| (983040 : Int32)) ||| ((fC_packed (fC_unsigned b) ((fC_unsigned b) + n)) &&& (32767 : Int32))) mt) r).toInt32) hx hb hr (fun t9 ht hW => ⟨⟨_, (), rfl, ⟨(by unfold xC_root; rw [if_neg h1, if_pos h2, if_neg h3, if_neg h4, if_pos h5, if_pos h6]), (rfl)⟩, by rw [ht]; exact hP, va_K.moved hW.alike hK, hD⟩, hS.F ht⟩) hS.2.2 dC_root_164
            · exact vx_throwS (rest := []) (names := xUp) (A := A) hx hb hl0 hown (by decide +kernel) (by decide +kernel) (hq _ q_196) (hq _ q_8) hX.2.2.2.2.2.2.1.choose_spec (x_all hq x_good55 x_bad55 hX.2.1.2.2 hX.2.2.2.1.1 hX.2.2.2.1.2.1 hX.2.2.2.1.2.2) x_ot55 hX.1.1 hX.1.2 hS (hl.1.trans hml.symm) dC_root_61 dC_root_64 dC_root_65 dC_root_67 dC_root_70 (fun x h9 => (hnt x h9).elim) (Nat.le_of_ble_eq_true rfl) (Nat.le_of_ble_eq_true rfl) (Nat.le_of_ble_eq_true rfl) (Nat.le_of_ble_eq_true rfl) hlocks (fun t9 ha hz hk9 => ⟨(), trivial, ⟨Or.inr (Or.inr ⟨rfl, (by unfold xC_root; rw [if_neg h1, if_pos h2, if_neg h3, if_neg h4, if_pos h5, if_neg h6])⟩), hP.kept (fun _ q9 hq9 => hk9 q9.1 (vx_lt hP hq9)), va_K.moved ha hK⟩, hz, fun q9 h1 _ => hk9 q9 h1⟩) hS.2.2 (by decide) (by decide)
          · exact vx_throwS (rest := []) (names := xUp) (A := A) hx hb hl0 hown (by decide +kernel) (by decide +kernel) (hq _ q_180) (hq _ q_7) hX.2.2.2.2.2.1.choose_spec (x_all hq x_good50 x_bad50 hX.2.1.2.1 hX.2.2.2.1.1 hX.2.2.2.1.2.1 hX.2.2.2.1.2.2) x_ot50 hX.1.1 hX.1.2 hS (hl.1.trans hml.symm) dC_root_42 dC_root_45 dC_root_46 dC_root_48 dC_root_51 (fun x h9 => (hnt x h9).elim) (Nat.le_of_ble_eq_true rfl) (Nat.le_of_ble_eq_true rfl) (Nat.le_of_ble_eq_true rfl) (Nat.le_of_ble_eq_true rfl) hlocks (fun t9 ha hz hk9 => ⟨(), trivial, ⟨Or.inr (Or.inl ⟨rfl, (by unfold xC_root; rw [if_neg h1, if_pos h2, if_neg h3, if_neg h4, if_neg h5])⟩), hP.kept (fun _ q9 hq9 => hk9 q9.1 (vx_lt hP hq9)), va_K.moved ha hK⟩, hz, fun q9 h1 _ => hk9 q9 h1⟩) hS.2.2 (by decide) (by decide)
    · exact vx_throwS (rest := []) (names := xUp) (A := A) hx hb hl0 hown (by decide +kernel) (by decide +kernel) (hq _ q_109) (hq _ q_6) hX.2.2.2.2.1.choose_spec (x_all hq x_good39 x_bad39 hX.2.1.1 hX.2.2.2.1.1 hX.2.2.2.1.2.1 hX.2.2.2.1.2.2) x_ot39 hX.1.1 hX.1.2 hS (hl.1.trans hml.symm) dC_root_11 dC_root_14 dC_root_15 dC_root_17 dC_root_20 (fun x h9 => (hnt x h9).elim) (Nat.le_of_ble_eq_true rfl) (Nat.le_of_ble_eq_true rfl) (Nat.le_of_ble_eq_true rfl) (Nat.le_of_ble_eq_true rfl) hlocks (fun t9 ha hz hk9 => ⟨(), trivial, ⟨Or.inl ⟨rfl, (by unfold xC_root; rw [if_neg h1, if_neg h2])⟩, hP.kept (fun _ q9 hq9 => hk9 q9.1 (vx_lt hP hq9)), va_K.moved ha hK⟩, hz, fun q9 h1 _ => hk9 q9 h1⟩) hS.2.2 (by decide) (by decide)
def fC_bound (tg : Nat → Int32) (ad : Nat → Int32) (mt : Nat → Int32) (z : Int32) (a : Int32) (y : Int32) : Int64 := if y = 0 then (fC_baseOf z a) else (fC_topOf z a)
set_option maxHeartbeats 4000000 in
set_option maxRecDepth 100000 in
theorem kC_bound (l : Launch) {D : va_G} {q : Nat → Nat} {k : Nat → ClassId} {tg : Nat → Int32} {ad : Nat → Int32} {mt : Nat → Int32} {rb : Nat → Int64} {rt : Nat → Int64} {rp : Nat → Int32} {nr : Int32} {H : Heap} (hP : va_P D zCl (cW q k tg ad mt rb rt rp nr) H) (z : Int32) (a : Int32) (y : Int32)  : Met l yC_bound wC_bound { frames := 3, cells := 0, slots := 0, locals := 77 } (va_Pc [.ref (q 0), .int z, .int a, .int y] (fun U => U.heap = H ∧ va_K D zCl (zT k) U)) (va_Ql (fun v9 (_ : Unit) => v9 = fC_bound tg ad mt z a y) (fun _ t => t.heap = H) (fun _ => False)) 0 0 (fun _ => False) := by
  refine Met.ofW (cc := cC_bound) (maxL := 4) (ret := (some .long)) (by decide) rfl ?_
  intro p e s m args below meth c s₁ B hml hv
  obtain ⟨rfl, hH, hK⟩ := hv
  subst hH
  have hx := B.exec
  have hb := B.bytes
  have hr := B.returns
  have hts := atoms_spec (ws := wC_bound) B.pre
  have hq : ∀ w ∈ wA, w.before _ s = true := fun w h => hts w (List.mem_cons_of_mem _ h)
  have hown : s.vm.findClass "CapUnit" = some m.cls := findClass_of_methodNamed B.named
  have hlocks := B.notSynchronized
  have hS : va_S (fun _ => False) s.heap s.heap [] := va_S.rf
  have hl := lv_entry ([.ref (q 0), .int z, .int a, .int y]) (n := 4) (Nat.le_of_ble_eq_true rfl)
  rw [lg_entry_eq]
  generalize (lg_sl ([.ref (q 0), .int z, .int a, .int y]) ++ List.replicate (4 - (lg_sl ([.ref (q 0), .int z, .int a, .int y])).length) Slot.unset).toArray = ls at hl ⊢
  have hl : lv_has ls 4 [(0, .ref (q 0)), (1, .int z), (2, .int a), (3, .int y)] := hl
  refine lv_iload_n hx hb dC_bound_0 rfl (lv_at hl 3 rfl) ?_
  refine lv_if_eq (tgt := 12) hx hb dC_bound_1 rfl (fun h1 => ?_) (fun h1 => ?_)
  · refine lv_iload_n hx hb dC_bound_12 rfl (lv_at hl 1 rfl) ?_
    refine lv_iload_n hx hb dC_bound_13 rfl (lv_at hl 2 rfl) ?_
    refine zc_l (va_runS (As := [.int z, .int a]) (rest := []) ⟨hx, hb, hml, hown, hq⟩ (kC_baseOf l s.heap z a) (va_cwS 2 hq (wA_S q_73 q_74 q_1 q_75) rfl rfl rfl (by decide +kernel) ⟨Nat.le_of_ble_eq_true rfl, Nat.le_of_ble_eq_true rfl⟩) ⟨fun a U g mk q => q, fun U hU hW => ⟨rfl, hU⟩⟩ rfl rfl hl.1 rfl (lv_room (Nat.le_of_ble_eq_true rfl)) dC_bound_14 ⟨Nat.zero_le _, Nat.zero_le _⟩) hS (fun locs hS => ?_)
    exact W.lret (v := fC_baseOf z a) hx hb hr (fun t9 ht hW => ⟨⟨_, (), rfl, (by unfold fC_bound; rw [if_pos h1]), ht⟩, hS.F ht⟩) hS.2.2 dC_bound_17
  · refine lv_iload_n hx hb dC_bound_4 rfl (lv_at hl 1 rfl) ?_
    refine lv_iload_n hx hb dC_bound_5 rfl (lv_at hl 2 rfl) ?_
    refine zc_l (va_runS (As := [.int z, .int a]) (rest := []) ⟨hx, hb, hml, hown, hq⟩ (kC_topOf l s.heap z a) (va_cwS 2 hq (wA_S q_48 q_49 q_1 q_50) rfl rfl rfl (by decide +kernel) ⟨Nat.le_of_ble_eq_true rfl, Nat.le_of_ble_eq_true rfl⟩) ⟨fun a U g mk q => q, fun U hU hW => ⟨rfl, hU⟩⟩ rfl rfl hl.1 rfl (lv_room (Nat.le_of_ble_eq_true rfl)) dC_bound_6 ⟨Nat.zero_le _, Nat.zero_le _⟩) hS (fun locs hS => ?_)
    refine lv_goto (tgt := 17) hx hb dC_bound_9 rfl ?_
    exact W.lret (v := fC_topOf z a) hx hb hr (fun t9 ht hW => ⟨⟨_, (), rfl, (by unfold fC_bound; rw [if_neg h1]), ht⟩, hS.F ht⟩) hS.2.2 dC_bound_17
end
section
def zF (tg ad mt : Nat → Int32) (rb rt : Nat → Int64) (rp : Nat → Int32) (r : Int32) : Nat → Nat → Int32
  | 0, _ => 0
  | k + 1, i => if fC_isWithin tg ad mt r (rb i) (rt i) (rp i) = 0 then zF tg ad mt rb rt rp r k (i + 1) else 1
theorem zF_b (tg ad mt : Nat → Int32) (rb rt : Nat → Int64) (rp : Nat → Int32) (r : Int32) : ∀ k i : Nat, zF tg ad mt rb rt rp r k i = 0 ∨ zF tg ad mt rb rt rp r k i = 1 := by
  intro k
  induction k with
  | zero => exact fun i => Or.inl rfl
  | succ k ih =>
    intro i
    rw [zF]
    split
    · exact ih (i + 1)
    · exact Or.inr rfl
set_option maxHeartbeats 4000000 in
set_option maxRecDepth 100000 in
theorem kC_isFromRoot (l : Launch) {D : va_G} {q : Nat → Nat} {k : Nat → ClassId} {tg : Nat → Int32} {ad : Nat → Int32} {mt : Nat → Int32} {rb : Nat → Int64} {rt : Nat → Int64} {rp : Nat → Int32} {nr : Int32} {H : Heap} (hP : va_P D zCl (cW q k tg ad mt rb rt rp nr) H) (r : Int32) (ir : vp_in r 32) {N : Nat} (hN : nr = zI (N : Nat)) (hN8 : N ≤ 8) : Met l yC_isFromRoot wC_isFromRoot { frames := 5, cells := 0, slots := 0, locals := 124 } (va_Pc [.ref (q 0), .int r] (fun U => U.heap = H ∧ va_K D zCl (zT k) U)) (va_Qi (fun v9 (_ : Unit) => v9 = zF tg ad mt rb rt rp r N 0) (fun _ t => t.heap = H) (fun _ => False)) 0 0 (fun _ => False) := by
  refine Met.ofW (cc := cC_isFromRoot) (maxL := 3) (ret := (some .boolean)) (by decide) rfl ?_
  intro p e s m args below meth c s₁ B hml hv
  obtain ⟨rfl, hH, hK⟩ := hv
  subst hH
  have hx := B.exec
  have hb := B.bytes
  have hr := B.returns
  have hts := atoms_spec (ws := wC_isFromRoot) B.pre
  have hq : ∀ w ∈ wA, w.before _ s = true := fun w h => hts w (List.mem_cons_of_mem _ h)
  have hown : s.vm.findClass "CapUnit" = some m.cls := findClass_of_methodNamed B.named
  have hlocks := B.notSynchronized
  have hS : va_S (fun _ => False) s.heap s.heap [] := va_S.rf
  have hl := lv_entry ([.ref (q 0), .int r]) (n := 3) (Nat.le_of_ble_eq_true rfl)
  rw [lg_entry_eq]
  generalize (lg_sl ([.ref (q 0), .int r]) ++ List.replicate (3 - (lg_sl ([.ref (q 0), .int r])).length) Slot.unset).toArray = ls at hl ⊢
  have hl : lv_has ls 3 [(0, .ref (q 0)), (1, .int r)] := hl
  have key : ∀ (j i : Nat), i + j = N → zF tg ad mt rb rt rp r N 0 = zF tg ad mt rb rt rp r j i → ∀ (ls : Array Slot) (locs : List Loc), lv_has ls 3 [(2, .int (zI (i : Nat))), (0, .ref (q 0)), (1, .int r)] → va_S (fun _ => False) s.heap s.heap locs → W p l e (headSpec wC_isFromRoot { frames := 5, cells := 0, slots := 0, locals := 124 }).room s m [Value.ref (q 0), .int r].toArray below meth c s.heap locs 0 0 (MQ below (va_Qi (fun v9 (_ : Unit) => v9 = zF tg ad mt rb rt rp r N 0) (fun _ t => t.heap = s.heap) (fun _ => False)) [Value.ref (q 0), .int r].toArray s 0 0 (fun _ => False)) (F0 m 2 ls []) := by
    intro j
    induction j with
    | zero =>
      intro i hi hz ls locs hl hS
      refine lv_iload_n hx hb dC_isFromRoot_2 rfl (lv_at hl 0 rfl) ?_
      refine lv_aload_n hx hb dC_isFromRoot_3 rfl (lv_at hl 1 rfl) ?_
      refine va_get (D := D) (ci := 0) (v := .int nr) (C := "CapUnit") (T := TC) (N := 7) hx hb hq uC_in hown hK hP 0 rfl rfl 6 (by decide) (hq _ q_25) (fun _ h9 => h9) rfl dC_isFromRoot_4 ?_
      refine lv_icmp_ge (tgt := 44) hx hb dC_isFromRoot_7 rfl (fun h1 => ?_) (fun h1 => absurd (show nr ≤ zI (i : Nat) by rw [hN, zI_le (by omega) (by omega) (by omega) (by omega)]; omega) h1)
      refine lv_iconst (v := 0) hx hb dC_isFromRoot_44 (by decide) ?_
      exact W.zret (v := (0 : Int32)) hx hb hr (by decide) (fun t9 ht hW => ⟨⟨_, (), rfl, (by rw [hz]; rfl), ht⟩, hS.F ht⟩) hS.2.2 dC_isFromRoot_45
    | succ j ih =>
      intro i hi hz ls locs hl hS
      have hi8 : vp_in (zI (i : Nat)) 8 := zI_in (by omega) (by omega)
      refine lv_iload_n hx hb dC_isFromRoot_2 rfl (lv_at hl 0 rfl) ?_
      refine lv_aload_n hx hb dC_isFromRoot_3 rfl (lv_at hl 1 rfl) ?_
      refine va_get (D := D) (ci := 0) (v := .int nr) (C := "CapUnit") (T := TC) (N := 7) hx hb hq uC_in hown hK hP 0 rfl rfl 6 (by decide) (hq _ q_25) (fun _ h9 => h9) rfl dC_isFromRoot_4 ?_
      refine lv_icmp_ge (tgt := 44) hx hb dC_isFromRoot_7 rfl (fun h1 => ?_) (fun h1 => ?_)
      · rw [hN, zI_le (by omega) (by omega) (by omega) (by omega)] at h1
        omega
      refine lv_aload_n hx hb dC_isFromRoot_10 rfl (lv_at hl 1 rfl) ?_
      refine lv_iload_n hx hb dC_isFromRoot_11 rfl (lv_at hl 2 rfl) ?_
      refine lv_aload_n hx hb dC_isFromRoot_12 rfl (lv_at hl 1 rfl) ?_
      refine va_get (D := D) (ci := 0) (v := .ref (q 4)) (C := "CapUnit") (T := TC) (N := 7) hx hb hq uC_in hown hK hP 0 rfl rfl 3 (by decide) (hq _ q_22) (fun _ h9 => h9) rfl dC_isFromRoot_13 ?_
      refine lv_iload_n hx hb dC_isFromRoot_16 rfl (lv_at hl 0 rfl) ?_
      refine va_lald hx hb hK hP 4 2 rfl rfl (i := (zI (i : Nat))) hi8 dC_isFromRoot_17 ?_
      refine zt_l (show _ = rb i by rw [zI_cl (by omega)]) ?_
      refine lv_aload_n hx hb dC_isFromRoot_18 rfl (lv_at hl 1 rfl) ?_
      refine va_get (D := D) (ci := 0) (v := .ref (q 5)) (C := "CapUnit") (T := TC) (N := 7) hx hb hq uC_in hown hK hP 0 rfl rfl 4 (by decide) (hq _ q_23) (fun _ h9 => h9) rfl dC_isFromRoot_19 ?_
      refine lv_iload_n hx hb dC_isFromRoot_22 rfl (lv_at hl 0 rfl) ?_
      refine va_lald hx hb hK hP 5 2 rfl rfl (i := (zI (i : Nat))) hi8 dC_isFromRoot_23 ?_
      refine zt_l (show _ = rt i by rw [zI_cl (by omega)]) ?_
      refine lv_aload_n hx hb dC_isFromRoot_24 rfl (lv_at hl 1 rfl) ?_
      refine va_get (D := D) (ci := 0) (v := .ref (q 6)) (C := "CapUnit") (T := TC) (N := 7) hx hb hq uC_in hown hK hP 0 rfl rfl 5 (by decide) (hq _ q_24) (fun _ h9 => h9) rfl dC_isFromRoot_25 ?_
      refine lv_iload_n hx hb dC_isFromRoot_28 rfl (lv_at hl 0 rfl) ?_
      refine va_iald hx hb hK hP 6 1 rfl rfl (i := (zI (i : Nat))) hi8 dC_isFromRoot_29 ?_
      refine zt_i (show _ = rp i by rw [zI_cl (by omega)]) ?_
      refine zc_i (va_runV (C := "CapUnit") (b := q 0) (As := [.int r, .long (rb i), .long (rt i), .int (rp i)]) (rest := []) ⟨hx, hb, hml, hown, hq⟩ (kC_isWithin l hP r (rb i) (rt i) (rp i) ir) (cwV 4 hq (wA_V q_84 q_86 sC_isWithin q_1 q_87) rfl rfl rfl (by decide +kernel) ⟨Nat.le_of_ble_eq_true rfl, Nat.le_of_ble_eq_true rfl⟩) (zr_pre (c := zCl[0]) (q0 := 0) hK hP rfl rfl) rfl rfl hl.1 rfl (lv_room (Nat.le_of_ble_eq_true rfl)) dC_isFromRoot_30 ⟨Nat.le_of_ble_eq_true rfl, Nat.le_of_ble_eq_true rfl⟩) hS (fun locs hS => ?_)
      refine lv_if_eq (tgt := 38) hx hb dC_isFromRoot_33 rfl (fun h2 => ?_) (fun h2 => ?_)
      · refine lv_iinc (k := 0) (v := zI ((i + 1 : Nat) : Int)) (lv' := [(2, .int (zI ((i + 1 : Nat) : Int))), (0, .ref (q 0)), (1, .int r)]) hx hb dC_isFromRoot_38 hl rfl (by show zI _ + zI 1 = _; rw [zI_add]; rfl) (by decide) rfl (fun ls hl => ?_)
        refine lv_goto (tgt := 2) hx hb dC_isFromRoot_41 rfl ?_
        exact ih (i + 1) (by omega) (by rw [hz, zF, if_pos h2]) ls locs hl hS
      · refine lv_iconst (v := 1) hx hb dC_isFromRoot_36 (by decide) ?_
        exact W.zret (v := (1 : Int32)) hx hb hr (by decide) (fun t9 ht hW => ⟨⟨_, (), rfl, (by rw [hz, zF, if_neg h2]), ht⟩, hS.F ht⟩) hS.2.2 dC_isFromRoot_37
  refine lv_iconst (v := 0) hx hb dC_isFromRoot_0 (by decide) ?_
  refine lv_istore_n (lv' := [(2, .int (zI ((0 : Nat) : Int))), (0, .ref (q 0)), (1, .int r)]) hx hb dC_isFromRoot_1 rfl hl (by decide) rfl (fun ls hl => ?_)
  exact key N 0 (by omega) rfl ls [] hl hS
def zG (tg ad mt : Nat → Int32) (rb rt : Nat → Int64) (rp : Nat → Int32) (N : Nat) : Nat → Nat → Int32 → Int32
  | 0, _, x => x
  | k + 1, i, x => if tg i = 0 then zG tg ad mt rb rt rp N k (i + 1) x else if zF tg ad mt rb rt rp (zI (i : Nat)) N 0 = 0 then zG tg ad mt rb rt rp N k (i + 1) (x + 1) else zG tg ad mt rb rt rp N k (i + 1) x
set_option maxHeartbeats 4000000 in
set_option maxRecDepth 100000 in
theorem kC_grown (l : Launch) {D : va_G} {q : Nat → Nat} {k : Nat → ClassId} {tg : Nat → Int32} {ad : Nat → Int32} {mt : Nat → Int32} {rb : Nat → Int64} {rt : Nat → Int64} {rp : Nat → Int32} {nr : Int32} {H : Heap} (hP : va_P D zCl (cW q k tg ad mt rb rt rp nr) H) {N : Nat} (hN : nr = zI (N : Nat)) (hN8 : N ≤ 8) : Met l yC_grown wC_grown { frames := 6, cells := 0, slots := 0, locals := 146 } (va_Pc [.ref (q 0)] (fun U => U.heap = H ∧ va_K D zCl (zT k) U)) (va_Qi (fun v9 (_ : Unit) => v9 = zG tg ad mt rb rt rp N 32 0 0) (fun _ t => t.heap = H) (fun _ => False)) 0 0 (fun _ => False) := by
  refine Met.ofW (cc := cC_grown) (maxL := 3) (ret := (some .int)) (by decide) rfl ?_
  intro p e s m args below meth c s₁ B hml hv
  obtain ⟨rfl, hH, hK⟩ := hv
  subst hH
  have hx := B.exec
  have hb := B.bytes
  have hr := B.returns
  have hts := atoms_spec (ws := wC_grown) B.pre
  have hq : ∀ w ∈ wA, w.before _ s = true := fun w h => hts w (List.mem_cons_of_mem _ h)
  have hown : s.vm.findClass "CapUnit" = some m.cls := findClass_of_methodNamed B.named
  have hlocks := B.notSynchronized
  have hS : va_S (fun _ => False) s.heap s.heap [] := va_S.rf
  have hl := lv_entry ([.ref (q 0)]) (n := 3) (Nat.le_of_ble_eq_true rfl)
  rw [lg_entry_eq]
  generalize (lg_sl ([.ref (q 0)]) ++ List.replicate (3 - (lg_sl ([.ref (q 0)])).length) Slot.unset).toArray = ls at hl ⊢
  have hl : lv_has ls 3 [(0, .ref (q 0))] := hl
  have key : ∀ (j i : Nat) (n0 : Int32), i + j = 32 → zG tg ad mt rb rt rp N 32 0 0 = zG tg ad mt rb rt rp N j i n0 → ∀ (ls : Array Slot) (locs : List Loc), lv_has ls 3 [(2, .int (zI (i : Nat))), (1, .int n0), (0, .ref (q 0))] → va_S (fun _ => False) s.heap s.heap locs → W p l e (headSpec wC_grown { frames := 6, cells := 0, slots := 0, locals := 146 }).room s m [Value.ref (q 0)].toArray below meth c s.heap locs 0 0 (MQ below (va_Qi (fun v9 (_ : Unit) => v9 = zG tg ad mt rb rt rp N 32 0 0) (fun _ t => t.heap = s.heap) (fun _ => False)) [Value.ref (q 0)].toArray s 0 0 (fun _ => False)) (F0 m 4 ls []) := by
    intro j
    induction j with
    | zero =>
      intro i n0 hi hz ls locs hl hS
      refine lv_iload_n hx hb dC_grown_4 rfl (lv_at hl 0 rfl) ?_
      refine lv_bipush (v := 32) hx hb dC_grown_5 (by decide) ?_
      refine lv_icmp_ge (tgt := 36) hx hb dC_grown_7 rfl (fun h1 => ?_) (fun h1 => absurd (show (32 : Int32) ≤ zI (i : Nat) by rw [(show (32 : Int32) = zI 32 by decide), zI_le (by omega) (by omega) (by omega) (by omega)]; omega) h1)
      refine lv_iload_n hx hb dC_grown_36 rfl (lv_at hl 1 rfl) ?_
      exact W.iret (v := n0) hx hb hr (fun t9 ht hW => ⟨⟨_, (), rfl, (by rw [hz]; rfl), ht⟩, hS.F ht⟩) hS.2.2 dC_grown_37
    | succ j ih =>
      intro i n0 hi hz ls locs hl hS
      have hi32 : vp_in (zI (i : Nat)) 32 := zI_in (by omega) (by omega)
      refine lv_iload_n hx hb dC_grown_4 rfl (lv_at hl 0 rfl) ?_
      refine lv_bipush (v := 32) hx hb dC_grown_5 (by decide) ?_
      refine lv_icmp_ge (tgt := 36) hx hb dC_grown_7 rfl (fun h1 => ?_) (fun h1 => ?_)
      · rw [(show (32 : Int32) = zI 32 by decide), zI_le (by omega) (by omega) (by omega) (by omega)] at h1
        omega
      refine lv_aload_n hx hb dC_grown_10 rfl (lv_at hl 2 rfl) ?_
      refine va_get (D := D) (ci := 0) (v := .ref (q 1)) (C := "CapUnit") (T := TC) (N := 7) hx hb hq uC_in hown hK hP 0 rfl rfl 0 (by decide) (hq _ q_19) (fun _ h9 => h9) rfl dC_grown_11 ?_
      refine lv_iload_n hx hb dC_grown_14 rfl (lv_at hl 0 rfl) ?_
      refine va_zald hx hb hK hP 1 0 rfl rfl (i := (zI (i : Nat))) hi32 dC_grown_15 ?_
      refine zt_i (show _ = tg i by rw [zI_cl (by omega)]) ?_
      refine lv_if_eq (tgt := 30) hx hb dC_grown_16 rfl (fun h2 => ?_) (fun h2 => ?_)
      · refine lv_iinc (k := 0) (v := zI ((i + 1 : Nat) : Int)) (lv' := [(2, .int (zI ((i + 1 : Nat) : Int))), (1, .int n0), (0, .ref (q 0))]) hx hb dC_grown_30 hl rfl (by show zI _ + zI 1 = _; rw [zI_add]; rfl) (by decide) rfl (fun ls hl => ?_)
        refine lv_goto (tgt := 4) hx hb dC_grown_33 rfl ?_
        exact ih (i + 1) n0 (by omega) (by rw [hz, zG, if_pos h2]) ls locs hl hS
      · refine lv_aload_n hx hb dC_grown_19 rfl (lv_at hl 2 rfl) ?_
        refine lv_iload_n hx hb dC_grown_20 rfl (lv_at hl 0 rfl) ?_
        refine zc_i (va_runV (C := "CapUnit") (b := q 0) (As := [.int (zI (i : Nat))]) (rest := []) ⟨hx, hb, hml, hown, hq⟩ (kC_isFromRoot l hP (zI (i : Nat)) hi32 hN hN8) (cwV 1 hq (wA_V q_80 q_82 sC_isFromRoot q_1 q_83) rfl rfl rfl (by decide +kernel) ⟨Nat.le_of_ble_eq_true rfl, Nat.le_of_ble_eq_true rfl⟩) (zr_pre (c := zCl[0]) (q0 := 0) hK hP rfl rfl) rfl rfl hl.1 rfl (lv_room (Nat.le_of_ble_eq_true rfl)) dC_grown_21 ⟨Nat.le_of_ble_eq_true rfl, Nat.le_of_ble_eq_true rfl⟩) hS (fun locs hS => ?_)
        refine lv_if_ne (tgt := 30) hx hb dC_grown_24 rfl (fun h3 => ?_) (fun h3 => ?_)
        · refine lv_iinc (k := 0) (v := zI ((i + 1 : Nat) : Int)) (lv' := [(2, .int (zI ((i + 1 : Nat) : Int))), (1, .int n0), (0, .ref (q 0))]) hx hb dC_grown_30 hl rfl (by show zI _ + zI 1 = _; rw [zI_add]; rfl) (by decide) rfl (fun ls hl => ?_)
          refine lv_goto (tgt := 4) hx hb dC_grown_33 rfl ?_
          exact ih (i + 1) n0 (by omega) (by rw [hz, zG, if_neg h2, if_neg h3]) ls locs hl hS
        · refine lv_iinc (k := 1) (v := n0 + 1) (lv' := [(1, .int (n0 + 1)), (2, .int (zI (i : Nat))), (0, .ref (q 0))]) hx hb dC_grown_27 hl rfl rfl (by decide) rfl (fun ls hl => ?_)
          refine lv_iinc (k := 0) (v := zI ((i + 1 : Nat) : Int)) (lv' := [(2, .int (zI ((i + 1 : Nat) : Int))), (1, .int (n0 + 1)), (0, .ref (q 0))]) hx hb dC_grown_30 (lv_sub hl [1, 0, 2] rfl) rfl (by show zI _ + zI 1 = _; rw [zI_add]; rfl) (by decide) rfl (fun ls hl => ?_)
          refine lv_goto (tgt := 4) hx hb dC_grown_33 rfl ?_
          exact ih (i + 1) (n0 + 1) (by omega) (by rw [hz, zG, if_neg h2, if_pos h3]) ls locs hl hS
  refine lv_iconst (v := 0) hx hb dC_grown_0 (by decide) ?_
  refine lv_istore_n (lv' := [(1, .int 0), (0, .ref (q 0))]) hx hb dC_grown_1 rfl hl (by decide) rfl (fun ls hl => ?_)
  refine lv_iconst (v := 0) hx hb dC_grown_2 (by decide) ?_
  refine lv_istore_n (lv' := [(2, .int (zI ((0 : Nat) : Int))), (1, .int 0), (0, .ref (q 0))]) hx hb dC_grown_3 rfl hl (by decide) rfl (fun ls hl => ?_)
  exact key 32 0 0 (by omega) rfl ls [] hl hS
end
section
/-! The constructors. -/
def zM : Nat → Nat → Int32
  | 0 => fun _ => 0
  | i + 1 => upd (zM i) i 1000194
section ZN
variable {p : Program} {l : Launch} {e : Env} {R : Room} {s : State} {m : MethodId} {args : Array Value} {below : List Frame} {meth : Method} {c : Code} {H : Heap} {locs : List Loc} {cells slots : Nat} {Q : State → Prop}
variable {cc : ByteArray} {pc : Nat} {ls : Array Slot} {rest : List Value} {D : va_G} {A : Nat → Prop} {ws : va_W} {H0 : Heap} {k : Nat → ClassId}
theorem zn_z (hexec : p.tables.exec = Jvm.exec) (hb : c.code = cc) (harr : (Cond.arrayClass .boolean).before args s = true) (hK : va_K D zCl (zT k) s) (hP : va_P D zCl ws H) (hD : va_D A ws) (hS : va_S A H0 H locs) (hA : ∀ q, H0.size ≤ q → A q)
    {n : Int32} {N' : Nat} (hn : ¬ n < 0) (hN : n.toNatClampNeg = N') (hbytes : N' * componentBytes .boolean ≤ 536870912) (hcells : cells + 1 ≤ R.cells) (hslots : slots + N' ≤ R.slots) (hdg : decode cc pc = .ok (.newarray .boolean, 2))
    (kk : ∀ (q : Nat) (H1 : Heap), va_P D zCl (ws ++ [(q, .inl (k 0, N', .inl (fun _ => (0 : Int32))))]) H1 → va_D A (ws ++ [(q, .inl (k 0, N', .inl (fun _ => (0 : Int32))))]) → va_S A H0 H1 locs →
      W p l e R s m args below meth c H1 locs (cells + 1) (slots + N') Q (F0 m (pc + 2) ls (.ref q :: rest))) : W p l e R s m args below meth c H locs cells slots Q (F0 m pc ls (.int n :: rest)) := by
  refine va_newa hexec hb (atype := .boolean) (ty := .boolean) harr rfl hK hP hD hS hA (a0 := (N', .inl (fun _ => (0 : Int32)))) (fun _ => rfl) hn hN hbytes hcells hslots hdg (fun q cA H1 hK1 hP1 hD1 hS1 => ?_)
  have e1 : s.vm.findClass ("[" ++ (FieldType.toString .boolean)) = some cA := (hK1.2 3 (cA, .boolean) rfl).2
  have e2 : s.vm.findClass ("[" ++ (FieldType.toString .boolean)) = some (k 0) := (hK.2 0 (k 0, .boolean) rfl).2
  have e3 : cA = k 0 := Option.some.inj (e1.symm.trans e2)
  subst e3
  exact kk q H1 hP1 hD1 hS1
theorem zn_i (hexec : p.tables.exec = Jvm.exec) (hb : c.code = cc) (harr : (Cond.arrayClass .int).before args s = true) (hK : va_K D zCl (zT k) s) (hP : va_P D zCl ws H) (hD : va_D A ws) (hS : va_S A H0 H locs) (hA : ∀ q, H0.size ≤ q → A q)
    {n : Int32} {N' : Nat} (hn : ¬ n < 0) (hN : n.toNatClampNeg = N') (hbytes : N' * componentBytes .int ≤ 536870912) (hcells : cells + 1 ≤ R.cells) (hslots : slots + N' ≤ R.slots) (hdg : decode cc pc = .ok (.newarray .int, 2))
    (kk : ∀ (q : Nat) (H1 : Heap), va_P D zCl (ws ++ [(q, .inl (k 1, N', .inl (fun _ => (0 : Int32))))]) H1 → va_D A (ws ++ [(q, .inl (k 1, N', .inl (fun _ => (0 : Int32))))]) → va_S A H0 H1 locs →
      W p l e R s m args below meth c H1 locs (cells + 1) (slots + N') Q (F0 m (pc + 2) ls (.ref q :: rest))) : W p l e R s m args below meth c H locs cells slots Q (F0 m pc ls (.int n :: rest)) := by
  refine va_newa hexec hb (atype := .int) (ty := .int) harr rfl hK hP hD hS hA (a0 := (N', .inl (fun _ => (0 : Int32)))) (fun _ => rfl) hn hN hbytes hcells hslots hdg (fun q cA H1 hK1 hP1 hD1 hS1 => ?_)
  have e1 : s.vm.findClass ("[" ++ (FieldType.toString .int)) = some cA := (hK1.2 3 (cA, .int) rfl).2
  have e2 : s.vm.findClass ("[" ++ (FieldType.toString .int)) = some (k 1) := (hK.2 1 (k 1, .int) rfl).2
  have e3 : cA = k 1 := Option.some.inj (e1.symm.trans e2)
  subst e3
  exact kk q H1 hP1 hD1 hS1
theorem zn_l (hexec : p.tables.exec = Jvm.exec) (hb : c.code = cc) (harr : (Cond.arrayClass .long).before args s = true) (hK : va_K D zCl (zT k) s) (hP : va_P D zCl ws H) (hD : va_D A ws) (hS : va_S A H0 H locs) (hA : ∀ q, H0.size ≤ q → A q)
    {n : Int32} {N' : Nat} (hn : ¬ n < 0) (hN : n.toNatClampNeg = N') (hbytes : N' * componentBytes .long ≤ 536870912) (hcells : cells + 1 ≤ R.cells) (hslots : slots + N' ≤ R.slots) (hdg : decode cc pc = .ok (.newarray .long, 2))
    (kk : ∀ (q : Nat) (H1 : Heap), va_P D zCl (ws ++ [(q, .inl (k 2, N', .inr (.inl (fun _ => (0 : Int64)))))]) H1 → va_D A (ws ++ [(q, .inl (k 2, N', .inr (.inl (fun _ => (0 : Int64)))))]) → va_S A H0 H1 locs →
      W p l e R s m args below meth c H1 locs (cells + 1) (slots + N') Q (F0 m (pc + 2) ls (.ref q :: rest))) : W p l e R s m args below meth c H locs cells slots Q (F0 m pc ls (.int n :: rest)) := by
  refine va_newa hexec hb (atype := .long) (ty := .long) harr rfl hK hP hD hS hA (a0 := (N', .inr (.inl (fun _ => (0 : Int64))))) (fun _ => rfl) hn hN hbytes hcells hslots hdg (fun q cA H1 hK1 hP1 hD1 hS1 => ?_)
  have e1 : s.vm.findClass ("[" ++ (FieldType.toString .long)) = some cA := (hK1.2 3 (cA, .long) rfl).2
  have e2 : s.vm.findClass ("[" ++ (FieldType.toString .long)) = some (k 2) := (hK.2 2 (k 2, .long) rfl).2
  have e3 : cA = k 2 := Option.some.inj (e1.symm.trans e2)
  subst e3
  exact kk q H1 hP1 hD1 hS1
end ZN

def zQ7 (a b c d e f g : Nat) : Nat → Nat := fun n => match n with
  | 0 => a
  | 1 => b
  | 2 => c
  | 3 => d
  | 4 => e
  | 5 => f
  | _ => g

set_option maxHeartbeats 4000000 in
set_option maxRecDepth 100000 in
theorem kC_init (l : Launch) {D : va_G} {k : Nat → ClassId} (h0 sz : Nat) {A : Nat → Prop} (hA0 : ∀ q, sz ≤ q → A q) : Met l yC_init wC_init { frames := 1, cells := 6, slots := 120, locals := 13 } (va_Pc [.ref h0] (fun U => U.heap.size = sz ∧ va_P D zCl [(h0, .inr (0, [.null, .null, .null, .null, .null, .null, .int 0]))] U.heap ∧ va_K D zCl (zT k) U ∧ va_D A [(h0, .inr (0, [.null, .null, .null, .null, .null, .null, .int 0]))])) (va_Qv (fun q : Nat → Nat => q 0 = h0) (fun q t => va_P D zCl (cW q k (fun _ => 0) (fun _ => 0) (zM 32) (fun _ => 0) (fun _ => 0) (fun _ => 0) 0) t.heap ∧ va_K D zCl (zT k) t ∧ va_D A (cW q k (fun _ => 0) (fun _ => 0) (zM 32) (fun _ => 0) (fun _ => 0) (fun _ => 0) 0)) A) 6 120 A := by
  refine Met.ofW (cc := cC_init) (maxL := 2) (ret := none) (by decide) rfl ?_
  intro p e s m args below meth c s₁ B hml hv
  obtain ⟨rfl, hsz, hP, hK, hD⟩ := hv
  have hx := B.exec
  have hb := B.bytes
  have hr := B.returns
  have hts := atoms_spec (ws := wC_init) B.pre
  have hq : ∀ w ∈ wA, w.before _ s = true := fun w h => hts w (List.mem_cons_of_mem _ h)
  have hown : s.vm.findClass "CapUnit" = some m.cls := findClass_of_methodNamed B.named
  have hlocks := B.notSynchronized
  have hS : va_S A s.heap s.heap [] := va_S.rf
  have hl := lv_entry ([.ref h0]) (n := 2) (Nat.le_of_ble_eq_true rfl)
  rw [lg_entry_eq]
  generalize (lg_sl ([.ref h0]) ++ List.replicate (2 - (lg_sl ([.ref h0])).length) Slot.unset).toArray = ls at hl ⊢
  have hl : lv_has ls 2 [(0, .ref h0)] := hl
  have hA : ∀ q, s.heap.size ≤ q → A q := fun q h => hA0 q (by omega)
  have hin : meth.name = "<init>" := (name_of_methodNamed B.named B.method).1
  refine lv_aload_n hx hb dC_init_0 rfl (lv_at hl 0 rfl) ?_
  refine W.objInit hx hb hown (hq _ q_15) (hq _ q_16) (hq _ q_17) rfl (by rw [hml]; exact hl.1) rfl dC_init_1 (Nat.le_of_ble_eq_true rfl) (Nat.le_of_ble_eq_true rfl) ?_
  refine W.eq (g2 := F0 m 4 ls []) rfl ?_
  refine lv_aload_n hx hb dC_init_4 rfl (lv_at hl 0 rfl) ?_
  refine lv_bipush (v := 32) hx hb dC_init_5 (by decide) ?_
  refine zn_z hx hb (hq _ q_41) hK hP hD hS hA (N' := 32) (by decide) (by decide) (by decide) (Nat.le_of_ble_eq_true rfl) (Nat.le_of_ble_eq_true rfl) dC_init_7 (fun q7 H hP hD hS => ?_)
  have hP : va_P D zCl [(h0, .inr (0, [.null, .null, .null, .null, .null, .null, .int 0])), (q7, .inl (k 0, 32, .inl (fun _ => (0 : Int32))))] H := hP
  have hD : va_D A [(h0, .inr (0, [.null, .null, .null, .null, .null, .null, .int 0])), (q7, .inl (k 0, 32, .inl (fun _ => (0 : Int32))))] := hD
  refine va_putF (D := D) (ci := 0) (v := .ref q7) (ty := .array .boolean) (C := "CapUnit") (T := TC) (N := 7) hx hb hq uC_in tyC tyC_ok nmC hown hK hP hD hS 0 rfl rfl 0 (by decide) (hq _ q_19) (fun _ h9 => h9) rfl hin rfl (by decide +kernel) rfl rfl (Nat.le_of_ble_eq_true rfl) dC_init_9 (fun H locs hP hD hS => ?_)
  have hP : va_P D zCl [(h0, .inr (0, [.ref q7, .null, .null, .null, .null, .null, .int 0])), (q7, .inl (k 0, 32, .inl (fun _ => (0 : Int32))))] H := hP
  have hD : va_D A [(h0, .inr (0, [.ref q7, .null, .null, .null, .null, .null, .int 0])), (q7, .inl (k 0, 32, .inl (fun _ => (0 : Int32))))] := hD
  refine lv_aload_n hx hb dC_init_12 rfl (lv_at hl 0 rfl) ?_
  refine lv_bipush (v := 32) hx hb dC_init_13 (by decide) ?_
  refine zn_i hx hb (hq _ q_42) hK hP hD hS hA (N' := 32) (by decide) (by decide) (by decide) (Nat.le_of_ble_eq_true rfl) (Nat.le_of_ble_eq_true rfl) dC_init_15 (fun q15 H hP hD hS => ?_)
  have hP : va_P D zCl [(h0, .inr (0, [.ref q7, .null, .null, .null, .null, .null, .int 0])), (q7, .inl (k 0, 32, .inl (fun _ => (0 : Int32)))), (q15, .inl (k 1, 32, .inl (fun _ => (0 : Int32))))] H := hP
  have hD : va_D A [(h0, .inr (0, [.ref q7, .null, .null, .null, .null, .null, .int 0])), (q7, .inl (k 0, 32, .inl (fun _ => (0 : Int32)))), (q15, .inl (k 1, 32, .inl (fun _ => (0 : Int32))))] := hD
  refine va_putF (D := D) (ci := 0) (v := .ref q15) (ty := .array .int) (C := "CapUnit") (T := TC) (N := 7) hx hb hq uC_in tyC tyC_ok nmC hown hK hP hD hS 0 rfl rfl 1 (by decide) (hq _ q_20) (fun _ h9 => h9) rfl hin rfl (by decide +kernel) rfl rfl (Nat.le_of_ble_eq_true rfl) dC_init_17 (fun H locs hP hD hS => ?_)
  have hP : va_P D zCl [(h0, .inr (0, [.ref q7, .ref q15, .null, .null, .null, .null, .int 0])), (q7, .inl (k 0, 32, .inl (fun _ => (0 : Int32)))), (q15, .inl (k 1, 32, .inl (fun _ => (0 : Int32))))] H := hP
  have hD : va_D A [(h0, .inr (0, [.ref q7, .ref q15, .null, .null, .null, .null, .int 0])), (q7, .inl (k 0, 32, .inl (fun _ => (0 : Int32)))), (q15, .inl (k 1, 32, .inl (fun _ => (0 : Int32))))] := hD
  refine lv_aload_n hx hb dC_init_20 rfl (lv_at hl 0 rfl) ?_
  refine lv_bipush (v := 32) hx hb dC_init_21 (by decide) ?_
  refine zn_i hx hb (hq _ q_42) hK hP hD hS hA (N' := 32) (by decide) (by decide) (by decide) (Nat.le_of_ble_eq_true rfl) (Nat.le_of_ble_eq_true rfl) dC_init_23 (fun q23 H hP hD hS => ?_)
  have hP : va_P D zCl [(h0, .inr (0, [.ref q7, .ref q15, .null, .null, .null, .null, .int 0])), (q7, .inl (k 0, 32, .inl (fun _ => (0 : Int32)))), (q15, .inl (k 1, 32, .inl (fun _ => (0 : Int32)))), (q23, .inl (k 1, 32, .inl (fun _ => (0 : Int32))))] H := hP
  have hD : va_D A [(h0, .inr (0, [.ref q7, .ref q15, .null, .null, .null, .null, .int 0])), (q7, .inl (k 0, 32, .inl (fun _ => (0 : Int32)))), (q15, .inl (k 1, 32, .inl (fun _ => (0 : Int32)))), (q23, .inl (k 1, 32, .inl (fun _ => (0 : Int32))))] := hD
  refine va_putF (D := D) (ci := 0) (v := .ref q23) (ty := .array .int) (C := "CapUnit") (T := TC) (N := 7) hx hb hq uC_in tyC tyC_ok nmC hown hK hP hD hS 0 rfl rfl 2 (by decide) (hq _ q_21) (fun _ h9 => h9) rfl hin rfl (by decide +kernel) rfl rfl (Nat.le_of_ble_eq_true rfl) dC_init_25 (fun H locs hP hD hS => ?_)
  have hP : va_P D zCl [(h0, .inr (0, [.ref q7, .ref q15, .ref q23, .null, .null, .null, .int 0])), (q7, .inl (k 0, 32, .inl (fun _ => (0 : Int32)))), (q15, .inl (k 1, 32, .inl (fun _ => (0 : Int32)))), (q23, .inl (k 1, 32, .inl (fun _ => (0 : Int32))))] H := hP
  have hD : va_D A [(h0, .inr (0, [.ref q7, .ref q15, .ref q23, .null, .null, .null, .int 0])), (q7, .inl (k 0, 32, .inl (fun _ => (0 : Int32)))), (q15, .inl (k 1, 32, .inl (fun _ => (0 : Int32)))), (q23, .inl (k 1, 32, .inl (fun _ => (0 : Int32))))] := hD
  refine lv_iconst (v := 0) hx hb dC_init_28 (by decide) ?_
  refine lv_istore_n (lv' := [(1, .int (zI ((0 : Nat) : Int))), (0, .ref h0)]) hx hb dC_init_29 rfl hl (by decide) rfl (fun ls hl => ?_)
  have key : ∀ (j i : Nat) (ls : Array Slot) (H : Heap) (locs : List Loc), i + j = 32 → lv_has ls 2 [(1, .int (zI (i : Nat))), (0, .ref h0)] → va_P D zCl [(h0, .inr (0, [.ref q7, .ref q15, .ref q23, .null, .null, .null, .int 0])), (q7, .inl (k 0, 32, .inl (fun _ => (0 : Int32)))), (q15, .inl (k 1, 32, .inl (fun _ => (0 : Int32)))), (q23, .inl (k 1, 32, .inl (zM i)))] H → va_D A [(h0, .inr (0, [.ref q7, .ref q15, .ref q23, .null, .null, .null, .int 0])), (q7, .inl (k 0, 32, .inl (fun _ => (0 : Int32)))), (q15, .inl (k 1, 32, .inl (fun _ => (0 : Int32)))), (q23, .inl (k 1, 32, .inl (zM i)))] → va_S A s.heap H locs → W p l e (headSpec wC_init { frames := 1, cells := 6, slots := 120, locals := 13 }).room s m [Value.ref h0].toArray below meth c H locs 3 96 (MQ below (va_Qv (fun q : Nat → Nat => q 0 = h0) (fun q t => va_P D zCl (cW q k (fun _ => 0) (fun _ => 0) (zM 32) (fun _ => 0) (fun _ => 0) (fun _ => 0) 0) t.heap ∧ va_K D zCl (zT k) t ∧ va_D A (cW q k (fun _ => 0) (fun _ => 0) (zM 32) (fun _ => 0) (fun _ => 0) (fun _ => 0) 0)) A) [Value.ref h0].toArray s 6 120 A) (F0 m 30 ls []) := by
    intro j
    induction j with
    | zero =>
      intro i ls H locs hi hl hP hD hS
      have h32 : i = 32 := by omega
      subst h32
      refine lv_iload_n hx hb dC_init_30 rfl (lv_at hl 0 rfl) ?_
      refine lv_bipush (v := 32) hx hb dC_init_31 (by decide) ?_
      refine lv_icmp_ge (tgt := 50) hx hb dC_init_33 rfl (fun h1 => ?_) (fun h1 => absurd (show (32 : Int32) ≤ zI ((32 : Nat) : Int) by decide) h1)
      refine lv_aload_n hx hb dC_init_50 rfl (lv_at hl 1 rfl) ?_
      refine lv_bipush (v := 8) hx hb dC_init_51 (by decide) ?_
      refine zn_l hx hb (hq _ q_43) hK hP hD hS hA (N' := 8) (by decide) (by decide) (by decide) (Nat.le_of_ble_eq_true rfl) (Nat.le_of_ble_eq_true rfl) dC_init_53 (fun q53 H hP hD hS => ?_)
      have hP : va_P D zCl [(h0, .inr (0, [.ref q7, .ref q15, .ref q23, .null, .null, .null, .int 0])), (q7, .inl (k 0, 32, .inl (fun _ => (0 : Int32)))), (q15, .inl (k 1, 32, .inl (fun _ => (0 : Int32)))), (q23, .inl (k 1, 32, .inl (zM 32))), (q53, .inl (k 2, 8, .inr (.inl (fun _ => (0 : Int64)))))] H := hP
      have hD : va_D A [(h0, .inr (0, [.ref q7, .ref q15, .ref q23, .null, .null, .null, .int 0])), (q7, .inl (k 0, 32, .inl (fun _ => (0 : Int32)))), (q15, .inl (k 1, 32, .inl (fun _ => (0 : Int32)))), (q23, .inl (k 1, 32, .inl (zM 32))), (q53, .inl (k 2, 8, .inr (.inl (fun _ => (0 : Int64)))))] := hD
      refine va_putF (D := D) (ci := 0) (v := .ref q53) (ty := .array .long) (C := "CapUnit") (T := TC) (N := 7) hx hb hq uC_in tyC tyC_ok nmC hown hK hP hD hS 0 rfl rfl 3 (by decide) (hq _ q_22) (fun _ h9 => h9) rfl hin rfl (by decide +kernel) rfl rfl (Nat.le_of_ble_eq_true rfl) dC_init_55 (fun H locs hP hD hS => ?_)
      have hP : va_P D zCl [(h0, .inr (0, [.ref q7, .ref q15, .ref q23, .ref q53, .null, .null, .int 0])), (q7, .inl (k 0, 32, .inl (fun _ => (0 : Int32)))), (q15, .inl (k 1, 32, .inl (fun _ => (0 : Int32)))), (q23, .inl (k 1, 32, .inl (zM 32))), (q53, .inl (k 2, 8, .inr (.inl (fun _ => (0 : Int64)))))] H := hP
      have hD : va_D A [(h0, .inr (0, [.ref q7, .ref q15, .ref q23, .ref q53, .null, .null, .int 0])), (q7, .inl (k 0, 32, .inl (fun _ => (0 : Int32)))), (q15, .inl (k 1, 32, .inl (fun _ => (0 : Int32)))), (q23, .inl (k 1, 32, .inl (zM 32))), (q53, .inl (k 2, 8, .inr (.inl (fun _ => (0 : Int64)))))] := hD
      refine lv_aload_n hx hb dC_init_58 rfl (lv_at hl 1 rfl) ?_
      refine lv_bipush (v := 8) hx hb dC_init_59 (by decide) ?_
      refine zn_l hx hb (hq _ q_43) hK hP hD hS hA (N' := 8) (by decide) (by decide) (by decide) (Nat.le_of_ble_eq_true rfl) (Nat.le_of_ble_eq_true rfl) dC_init_61 (fun q61 H hP hD hS => ?_)
      have hP : va_P D zCl [(h0, .inr (0, [.ref q7, .ref q15, .ref q23, .ref q53, .null, .null, .int 0])), (q7, .inl (k 0, 32, .inl (fun _ => (0 : Int32)))), (q15, .inl (k 1, 32, .inl (fun _ => (0 : Int32)))), (q23, .inl (k 1, 32, .inl (zM 32))), (q53, .inl (k 2, 8, .inr (.inl (fun _ => (0 : Int64))))), (q61, .inl (k 2, 8, .inr (.inl (fun _ => (0 : Int64)))))] H := hP
      have hD : va_D A [(h0, .inr (0, [.ref q7, .ref q15, .ref q23, .ref q53, .null, .null, .int 0])), (q7, .inl (k 0, 32, .inl (fun _ => (0 : Int32)))), (q15, .inl (k 1, 32, .inl (fun _ => (0 : Int32)))), (q23, .inl (k 1, 32, .inl (zM 32))), (q53, .inl (k 2, 8, .inr (.inl (fun _ => (0 : Int64))))), (q61, .inl (k 2, 8, .inr (.inl (fun _ => (0 : Int64)))))] := hD
      refine va_putF (D := D) (ci := 0) (v := .ref q61) (ty := .array .long) (C := "CapUnit") (T := TC) (N := 7) hx hb hq uC_in tyC tyC_ok nmC hown hK hP hD hS 0 rfl rfl 4 (by decide) (hq _ q_23) (fun _ h9 => h9) rfl hin rfl (by decide +kernel) rfl rfl (Nat.le_of_ble_eq_true rfl) dC_init_63 (fun H locs hP hD hS => ?_)
      have hP : va_P D zCl [(h0, .inr (0, [.ref q7, .ref q15, .ref q23, .ref q53, .ref q61, .null, .int 0])), (q7, .inl (k 0, 32, .inl (fun _ => (0 : Int32)))), (q15, .inl (k 1, 32, .inl (fun _ => (0 : Int32)))), (q23, .inl (k 1, 32, .inl (zM 32))), (q53, .inl (k 2, 8, .inr (.inl (fun _ => (0 : Int64))))), (q61, .inl (k 2, 8, .inr (.inl (fun _ => (0 : Int64)))))] H := hP
      have hD : va_D A [(h0, .inr (0, [.ref q7, .ref q15, .ref q23, .ref q53, .ref q61, .null, .int 0])), (q7, .inl (k 0, 32, .inl (fun _ => (0 : Int32)))), (q15, .inl (k 1, 32, .inl (fun _ => (0 : Int32)))), (q23, .inl (k 1, 32, .inl (zM 32))), (q53, .inl (k 2, 8, .inr (.inl (fun _ => (0 : Int64))))), (q61, .inl (k 2, 8, .inr (.inl (fun _ => (0 : Int64)))))] := hD
      refine lv_aload_n hx hb dC_init_66 rfl (lv_at hl 1 rfl) ?_
      refine lv_bipush (v := 8) hx hb dC_init_67 (by decide) ?_
      refine zn_i hx hb (hq _ q_42) hK hP hD hS hA (N' := 8) (by decide) (by decide) (by decide) (Nat.le_of_ble_eq_true rfl) (Nat.le_of_ble_eq_true rfl) dC_init_69 (fun q69 H hP hD hS => ?_)
      have hP : va_P D zCl [(h0, .inr (0, [.ref q7, .ref q15, .ref q23, .ref q53, .ref q61, .null, .int 0])), (q7, .inl (k 0, 32, .inl (fun _ => (0 : Int32)))), (q15, .inl (k 1, 32, .inl (fun _ => (0 : Int32)))), (q23, .inl (k 1, 32, .inl (zM 32))), (q53, .inl (k 2, 8, .inr (.inl (fun _ => (0 : Int64))))), (q61, .inl (k 2, 8, .inr (.inl (fun _ => (0 : Int64))))), (q69, .inl (k 1, 8, .inl (fun _ => (0 : Int32))))] H := hP
      have hD : va_D A [(h0, .inr (0, [.ref q7, .ref q15, .ref q23, .ref q53, .ref q61, .null, .int 0])), (q7, .inl (k 0, 32, .inl (fun _ => (0 : Int32)))), (q15, .inl (k 1, 32, .inl (fun _ => (0 : Int32)))), (q23, .inl (k 1, 32, .inl (zM 32))), (q53, .inl (k 2, 8, .inr (.inl (fun _ => (0 : Int64))))), (q61, .inl (k 2, 8, .inr (.inl (fun _ => (0 : Int64))))), (q69, .inl (k 1, 8, .inl (fun _ => (0 : Int32))))] := hD
      refine va_putF (D := D) (ci := 0) (v := .ref q69) (ty := .array .int) (C := "CapUnit") (T := TC) (N := 7) hx hb hq uC_in tyC tyC_ok nmC hown hK hP hD hS 0 rfl rfl 5 (by decide) (hq _ q_24) (fun _ h9 => h9) rfl hin rfl (by decide +kernel) rfl rfl (Nat.le_of_ble_eq_true rfl) dC_init_71 (fun H locs hP hD hS => ?_)
      have hP : va_P D zCl [(h0, .inr (0, [.ref q7, .ref q15, .ref q23, .ref q53, .ref q61, .ref q69, .int 0])), (q7, .inl (k 0, 32, .inl (fun _ => (0 : Int32)))), (q15, .inl (k 1, 32, .inl (fun _ => (0 : Int32)))), (q23, .inl (k 1, 32, .inl (zM 32))), (q53, .inl (k 2, 8, .inr (.inl (fun _ => (0 : Int64))))), (q61, .inl (k 2, 8, .inr (.inl (fun _ => (0 : Int64))))), (q69, .inl (k 1, 8, .inl (fun _ => (0 : Int32))))] H := hP
      have hD : va_D A [(h0, .inr (0, [.ref q7, .ref q15, .ref q23, .ref q53, .ref q61, .ref q69, .int 0])), (q7, .inl (k 0, 32, .inl (fun _ => (0 : Int32)))), (q15, .inl (k 1, 32, .inl (fun _ => (0 : Int32)))), (q23, .inl (k 1, 32, .inl (zM 32))), (q53, .inl (k 2, 8, .inr (.inl (fun _ => (0 : Int64))))), (q61, .inl (k 2, 8, .inr (.inl (fun _ => (0 : Int64))))), (q69, .inl (k 1, 8, .inl (fun _ => (0 : Int32))))] := hD
      refine lv_aload_n hx hb dC_init_74 rfl (lv_at hl 1 rfl) ?_
      refine lv_iconst (v := 0) hx hb dC_init_75 (by decide) ?_
      refine va_put (D := D) (ci := 0) (v := .int (0 : Int32)) (ty := .int) (C := "CapUnit") (T := TC) (N := 7) hx hb hq uC_in tyC tyC_ok nmC hown hK hP hD hS 0 rfl rfl 6 (by decide) (hq _ q_25) (fun _ h9 => h9) rfl (by decide +kernel) rfl rfl (Nat.le_of_ble_eq_true rfl) dC_init_76 (fun H locs hP hD hS => ?_)
      have hP : va_P D zCl [(h0, .inr (0, [.ref q7, .ref q15, .ref q23, .ref q53, .ref q61, .ref q69, .int (0 : Int32)])), (q7, .inl (k 0, 32, .inl (fun _ => (0 : Int32)))), (q15, .inl (k 1, 32, .inl (fun _ => (0 : Int32)))), (q23, .inl (k 1, 32, .inl (zM 32))), (q53, .inl (k 2, 8, .inr (.inl (fun _ => (0 : Int64))))), (q61, .inl (k 2, 8, .inr (.inl (fun _ => (0 : Int64))))), (q69, .inl (k 1, 8, .inl (fun _ => (0 : Int32))))] H := hP
      have hD : va_D A [(h0, .inr (0, [.ref q7, .ref q15, .ref q23, .ref q53, .ref q61, .ref q69, .int (0 : Int32)])), (q7, .inl (k 0, 32, .inl (fun _ => (0 : Int32)))), (q15, .inl (k 1, 32, .inl (fun _ => (0 : Int32)))), (q23, .inl (k 1, 32, .inl (zM 32))), (q53, .inl (k 2, 8, .inr (.inl (fun _ => (0 : Int64))))), (q61, .inl (k 2, 8, .inr (.inl (fun _ => (0 : Int64))))), (q69, .inl (k 1, 8, .inl (fun _ => (0 : Int32))))] := hD
      exact W.vret hx hb hr (fun t9 ht hW => ⟨⟨zQ7 h0 q7 q15 q23 q53 q61 q69, rfl, rfl, by rw [ht]; exact hP, va_K.moved hW.alike hK, hD⟩, hS.F ht⟩) hS.2.2 dC_init_79
    | succ j ih =>
      intro i ls H locs hi hl hP hD hS
      have hi32 : vp_in (zI (i : Nat)) 32 := zI_in (by omega) (by omega)
      refine lv_iload_n hx hb dC_init_30 rfl (lv_at hl 0 rfl) ?_
      refine lv_bipush (v := 32) hx hb dC_init_31 (by decide) ?_
      refine lv_icmp_ge (tgt := 50) hx hb dC_init_33 rfl (fun h1 => ?_) (fun h1 => ?_)
      · rw [(show (32 : Int32) = zI 32 by decide), zI_le (by omega) (by omega) (by omega) (by omega)] at h1
        omega
      refine lv_aload_n hx hb dC_init_36 rfl (lv_at hl 1 rfl) ?_
      refine va_get (D := D) (ci := 0) (v := .ref q23) (C := "CapUnit") (T := TC) (N := 7) hx hb hq uC_in hown hK hP 0 rfl rfl 2 (by decide) (hq _ q_21) (fun _ h9 => h9) rfl dC_init_37 ?_
      refine lv_iload_n hx hb dC_init_40 rfl (lv_at hl 0 rfl) ?_
      refine lv_ldc (v := 1000194) hx hb hown (hts (.constant "CapUnit" 20 1000194) (by decide +kernel)) dC_init_41 ?_
      refine va_iast hx hb hK hP hD hS 3 1 rfl rfl hi32 dC_init_43 (fun H locs hP hD hS => ?_)
      rw [zI_cl (show i < 2147483648 by omega)] at hP hD
      have hP : va_P D zCl [(h0, .inr (0, [.ref q7, .ref q15, .ref q23, .null, .null, .null, .int 0])), (q7, .inl (k 0, 32, .inl (fun _ => (0 : Int32)))), (q15, .inl (k 1, 32, .inl (fun _ => (0 : Int32)))), (q23, .inl (k 1, 32, .inl (zM (i + 1))))] H := hP
      have hD : va_D A [(h0, .inr (0, [.ref q7, .ref q15, .ref q23, .null, .null, .null, .int 0])), (q7, .inl (k 0, 32, .inl (fun _ => (0 : Int32)))), (q15, .inl (k 1, 32, .inl (fun _ => (0 : Int32)))), (q23, .inl (k 1, 32, .inl (zM (i + 1))))] := hD
      refine lv_iinc (k := 0) (v := zI ((i + 1 : Nat) : Int)) (lv' := [(1, .int (zI ((i + 1 : Nat) : Int))), (0, .ref h0)]) hx hb dC_init_44 hl rfl (by show zI _ + zI 1 = _; rw [zI_add]; rfl) (by decide) rfl (fun ls hl => ?_)
      refine lv_goto (tgt := 30) hx hb dC_init_47 rfl ?_
      exact ih (i + 1) ls H locs (by omega) hl hP hD hS
  exact key 32 0 ls H _ (by omega) hl hP hD hS
set_option maxHeartbeats 4000000 in
set_option maxRecDepth 100000 in
theorem kM_init (l : Launch) {D : va_G} {k : Nat → ClassId} (h0 sz : Nat) {A : Nat → Prop} (hA0 : ∀ q, sz ≤ q → A q) : Met l yM_init wM_init { frames := 1, cells := 6, slots := 120, locals := 13 } (va_Pc [.ref h0] (fun U => U.heap.size = sz ∧ va_P D zCl [(h0, .inr (1, [.null, .null, .null, .null, .null, .null, .int 0, .int 0, .int 0, .int 0, .long 0]))] U.heap ∧ va_K D zCl (zT k) U ∧ va_D A [(h0, .inr (1, [.null, .null, .null, .null, .null, .null, .int 0, .int 0, .int 0, .int 0, .long 0]))])) (va_Qv (fun q : Nat → Nat => q 0 = h0) (fun q t => va_P D zCl (mW q k (fun _ => 0) (fun _ => 0) (zM 32) (fun _ => 0) (fun _ => 0) (fun _ => 0) 0 0 0 0 0) t.heap ∧ va_K D zCl (zT k) t ∧ va_D A (mW q k (fun _ => 0) (fun _ => 0) (zM 32) (fun _ => 0) (fun _ => 0) (fun _ => 0) 0 0 0 0 0)) A) 6 120 A := by
  refine Met.ofW (cc := cM_init) (maxL := 2) (ret := none) (by decide) rfl ?_
  intro p e s m args below meth c s₁ B hml hv
  obtain ⟨rfl, hsz, hP, hK, hD⟩ := hv
  have hx := B.exec
  have hb := B.bytes
  have hr := B.returns
  have hts := atoms_spec (ws := wM_init) B.pre
  have hq : ∀ w ∈ wA, w.before _ s = true := fun w h => hts w (List.mem_cons_of_mem _ h)
  have hown : s.vm.findClass "CapUnitModel" = some m.cls := findClass_of_methodNamed B.named
  have hlocks := B.notSynchronized
  have hS : va_S A s.heap s.heap [] := va_S.rf
  have hl := lv_entry ([.ref h0]) (n := 2) (Nat.le_of_ble_eq_true rfl)
  rw [lg_entry_eq]
  generalize (lg_sl ([.ref h0]) ++ List.replicate (2 - (lg_sl ([.ref h0])).length) Slot.unset).toArray = ls at hl ⊢
  have hl : lv_has ls 2 [(0, .ref h0)] := hl
  have hA : ∀ q, s.heap.size ≤ q → A q := fun q h => hA0 q (by omega)
  have hin : meth.name = "<init>" := (name_of_methodNamed B.named B.method).1
  refine lv_aload_n hx hb dM_init_0 rfl (lv_at hl 0 rfl) ?_
  refine W.objInit hx hb hown (hq _ q_368) (hq _ q_16) (hq _ q_17) rfl (by rw [hml]; exact hl.1) rfl dM_init_1 (Nat.le_of_ble_eq_true rfl) (Nat.le_of_ble_eq_true rfl) ?_
  refine W.eq (g2 := F0 m 4 ls []) rfl ?_
  refine lv_aload_n hx hb dM_init_4 rfl (lv_at hl 0 rfl) ?_
  refine lv_bipush (v := 32) hx hb dM_init_5 (by decide) ?_
  refine zn_z hx hb (hq _ q_41) hK hP hD hS hA (N' := 32) (by decide) (by decide) (by decide) (Nat.le_of_ble_eq_true rfl) (Nat.le_of_ble_eq_true rfl) dM_init_7 (fun q7 H hP hD hS => ?_)
  have hP : va_P D zCl [(h0, .inr (1, [.null, .null, .null, .null, .null, .null, .int 0, .int 0, .int 0, .int 0, .long 0])), (q7, .inl (k 0, 32, .inl (fun _ => (0 : Int32))))] H := hP
  have hD : va_D A [(h0, .inr (1, [.null, .null, .null, .null, .null, .null, .int 0, .int 0, .int 0, .int 0, .long 0])), (q7, .inl (k 0, 32, .inl (fun _ => (0 : Int32))))] := hD
  refine va_putF (D := D) (ci := 1) (v := .ref q7) (ty := .array .boolean) (C := "CapUnitModel") (T := TM) (N := 11) hx hb hq uM_in tyM tyM_ok nmM hown hK hP hD hS 0 rfl rfl 0 (by decide) (hq _ q_370) (fun _ h9 => h9) rfl hin rfl (by decide +kernel) rfl rfl (Nat.le_of_ble_eq_true rfl) dM_init_9 (fun H locs hP hD hS => ?_)
  have hP : va_P D zCl [(h0, .inr (1, [.ref q7, .null, .null, .null, .null, .null, .int 0, .int 0, .int 0, .int 0, .long 0])), (q7, .inl (k 0, 32, .inl (fun _ => (0 : Int32))))] H := hP
  have hD : va_D A [(h0, .inr (1, [.ref q7, .null, .null, .null, .null, .null, .int 0, .int 0, .int 0, .int 0, .long 0])), (q7, .inl (k 0, 32, .inl (fun _ => (0 : Int32))))] := hD
  refine lv_aload_n hx hb dM_init_12 rfl (lv_at hl 0 rfl) ?_
  refine lv_bipush (v := 32) hx hb dM_init_13 (by decide) ?_
  refine zn_i hx hb (hq _ q_42) hK hP hD hS hA (N' := 32) (by decide) (by decide) (by decide) (Nat.le_of_ble_eq_true rfl) (Nat.le_of_ble_eq_true rfl) dM_init_15 (fun q15 H hP hD hS => ?_)
  have hP : va_P D zCl [(h0, .inr (1, [.ref q7, .null, .null, .null, .null, .null, .int 0, .int 0, .int 0, .int 0, .long 0])), (q7, .inl (k 0, 32, .inl (fun _ => (0 : Int32)))), (q15, .inl (k 1, 32, .inl (fun _ => (0 : Int32))))] H := hP
  have hD : va_D A [(h0, .inr (1, [.ref q7, .null, .null, .null, .null, .null, .int 0, .int 0, .int 0, .int 0, .long 0])), (q7, .inl (k 0, 32, .inl (fun _ => (0 : Int32)))), (q15, .inl (k 1, 32, .inl (fun _ => (0 : Int32))))] := hD
  refine va_putF (D := D) (ci := 1) (v := .ref q15) (ty := .array .int) (C := "CapUnitModel") (T := TM) (N := 11) hx hb hq uM_in tyM tyM_ok nmM hown hK hP hD hS 0 rfl rfl 1 (by decide) (hq _ q_371) (fun _ h9 => h9) rfl hin rfl (by decide +kernel) rfl rfl (Nat.le_of_ble_eq_true rfl) dM_init_17 (fun H locs hP hD hS => ?_)
  have hP : va_P D zCl [(h0, .inr (1, [.ref q7, .ref q15, .null, .null, .null, .null, .int 0, .int 0, .int 0, .int 0, .long 0])), (q7, .inl (k 0, 32, .inl (fun _ => (0 : Int32)))), (q15, .inl (k 1, 32, .inl (fun _ => (0 : Int32))))] H := hP
  have hD : va_D A [(h0, .inr (1, [.ref q7, .ref q15, .null, .null, .null, .null, .int 0, .int 0, .int 0, .int 0, .long 0])), (q7, .inl (k 0, 32, .inl (fun _ => (0 : Int32)))), (q15, .inl (k 1, 32, .inl (fun _ => (0 : Int32))))] := hD
  refine lv_aload_n hx hb dM_init_20 rfl (lv_at hl 0 rfl) ?_
  refine lv_bipush (v := 32) hx hb dM_init_21 (by decide) ?_
  refine zn_i hx hb (hq _ q_42) hK hP hD hS hA (N' := 32) (by decide) (by decide) (by decide) (Nat.le_of_ble_eq_true rfl) (Nat.le_of_ble_eq_true rfl) dM_init_23 (fun q23 H hP hD hS => ?_)
  have hP : va_P D zCl [(h0, .inr (1, [.ref q7, .ref q15, .null, .null, .null, .null, .int 0, .int 0, .int 0, .int 0, .long 0])), (q7, .inl (k 0, 32, .inl (fun _ => (0 : Int32)))), (q15, .inl (k 1, 32, .inl (fun _ => (0 : Int32)))), (q23, .inl (k 1, 32, .inl (fun _ => (0 : Int32))))] H := hP
  have hD : va_D A [(h0, .inr (1, [.ref q7, .ref q15, .null, .null, .null, .null, .int 0, .int 0, .int 0, .int 0, .long 0])), (q7, .inl (k 0, 32, .inl (fun _ => (0 : Int32)))), (q15, .inl (k 1, 32, .inl (fun _ => (0 : Int32)))), (q23, .inl (k 1, 32, .inl (fun _ => (0 : Int32))))] := hD
  refine va_putF (D := D) (ci := 1) (v := .ref q23) (ty := .array .int) (C := "CapUnitModel") (T := TM) (N := 11) hx hb hq uM_in tyM tyM_ok nmM hown hK hP hD hS 0 rfl rfl 2 (by decide) (hq _ q_372) (fun _ h9 => h9) rfl hin rfl (by decide +kernel) rfl rfl (Nat.le_of_ble_eq_true rfl) dM_init_25 (fun H locs hP hD hS => ?_)
  have hP : va_P D zCl [(h0, .inr (1, [.ref q7, .ref q15, .ref q23, .null, .null, .null, .int 0, .int 0, .int 0, .int 0, .long 0])), (q7, .inl (k 0, 32, .inl (fun _ => (0 : Int32)))), (q15, .inl (k 1, 32, .inl (fun _ => (0 : Int32)))), (q23, .inl (k 1, 32, .inl (fun _ => (0 : Int32))))] H := hP
  have hD : va_D A [(h0, .inr (1, [.ref q7, .ref q15, .ref q23, .null, .null, .null, .int 0, .int 0, .int 0, .int 0, .long 0])), (q7, .inl (k 0, 32, .inl (fun _ => (0 : Int32)))), (q15, .inl (k 1, 32, .inl (fun _ => (0 : Int32)))), (q23, .inl (k 1, 32, .inl (fun _ => (0 : Int32))))] := hD
  refine lv_aload_n hx hb dM_init_28 rfl (lv_at hl 0 rfl) ?_
  refine lv_bipush (v := 8) hx hb dM_init_29 (by decide) ?_
  refine zn_l hx hb (hq _ q_43) hK hP hD hS hA (N' := 8) (by decide) (by decide) (by decide) (Nat.le_of_ble_eq_true rfl) (Nat.le_of_ble_eq_true rfl) dM_init_31 (fun q31 H hP hD hS => ?_)
  have hP : va_P D zCl [(h0, .inr (1, [.ref q7, .ref q15, .ref q23, .null, .null, .null, .int 0, .int 0, .int 0, .int 0, .long 0])), (q7, .inl (k 0, 32, .inl (fun _ => (0 : Int32)))), (q15, .inl (k 1, 32, .inl (fun _ => (0 : Int32)))), (q23, .inl (k 1, 32, .inl (fun _ => (0 : Int32)))), (q31, .inl (k 2, 8, .inr (.inl (fun _ => (0 : Int64)))))] H := hP
  have hD : va_D A [(h0, .inr (1, [.ref q7, .ref q15, .ref q23, .null, .null, .null, .int 0, .int 0, .int 0, .int 0, .long 0])), (q7, .inl (k 0, 32, .inl (fun _ => (0 : Int32)))), (q15, .inl (k 1, 32, .inl (fun _ => (0 : Int32)))), (q23, .inl (k 1, 32, .inl (fun _ => (0 : Int32)))), (q31, .inl (k 2, 8, .inr (.inl (fun _ => (0 : Int64)))))] := hD
  refine va_putF (D := D) (ci := 1) (v := .ref q31) (ty := .array .long) (C := "CapUnitModel") (T := TM) (N := 11) hx hb hq uM_in tyM tyM_ok nmM hown hK hP hD hS 0 rfl rfl 3 (by decide) (hq _ q_373) (fun _ h9 => h9) rfl hin rfl (by decide +kernel) rfl rfl (Nat.le_of_ble_eq_true rfl) dM_init_33 (fun H locs hP hD hS => ?_)
  have hP : va_P D zCl [(h0, .inr (1, [.ref q7, .ref q15, .ref q23, .ref q31, .null, .null, .int 0, .int 0, .int 0, .int 0, .long 0])), (q7, .inl (k 0, 32, .inl (fun _ => (0 : Int32)))), (q15, .inl (k 1, 32, .inl (fun _ => (0 : Int32)))), (q23, .inl (k 1, 32, .inl (fun _ => (0 : Int32)))), (q31, .inl (k 2, 8, .inr (.inl (fun _ => (0 : Int64)))))] H := hP
  have hD : va_D A [(h0, .inr (1, [.ref q7, .ref q15, .ref q23, .ref q31, .null, .null, .int 0, .int 0, .int 0, .int 0, .long 0])), (q7, .inl (k 0, 32, .inl (fun _ => (0 : Int32)))), (q15, .inl (k 1, 32, .inl (fun _ => (0 : Int32)))), (q23, .inl (k 1, 32, .inl (fun _ => (0 : Int32)))), (q31, .inl (k 2, 8, .inr (.inl (fun _ => (0 : Int64)))))] := hD
  refine lv_aload_n hx hb dM_init_36 rfl (lv_at hl 0 rfl) ?_
  refine lv_bipush (v := 8) hx hb dM_init_37 (by decide) ?_
  refine zn_l hx hb (hq _ q_43) hK hP hD hS hA (N' := 8) (by decide) (by decide) (by decide) (Nat.le_of_ble_eq_true rfl) (Nat.le_of_ble_eq_true rfl) dM_init_39 (fun q39 H hP hD hS => ?_)
  have hP : va_P D zCl [(h0, .inr (1, [.ref q7, .ref q15, .ref q23, .ref q31, .null, .null, .int 0, .int 0, .int 0, .int 0, .long 0])), (q7, .inl (k 0, 32, .inl (fun _ => (0 : Int32)))), (q15, .inl (k 1, 32, .inl (fun _ => (0 : Int32)))), (q23, .inl (k 1, 32, .inl (fun _ => (0 : Int32)))), (q31, .inl (k 2, 8, .inr (.inl (fun _ => (0 : Int64))))), (q39, .inl (k 2, 8, .inr (.inl (fun _ => (0 : Int64)))))] H := hP
  have hD : va_D A [(h0, .inr (1, [.ref q7, .ref q15, .ref q23, .ref q31, .null, .null, .int 0, .int 0, .int 0, .int 0, .long 0])), (q7, .inl (k 0, 32, .inl (fun _ => (0 : Int32)))), (q15, .inl (k 1, 32, .inl (fun _ => (0 : Int32)))), (q23, .inl (k 1, 32, .inl (fun _ => (0 : Int32)))), (q31, .inl (k 2, 8, .inr (.inl (fun _ => (0 : Int64))))), (q39, .inl (k 2, 8, .inr (.inl (fun _ => (0 : Int64)))))] := hD
  refine va_putF (D := D) (ci := 1) (v := .ref q39) (ty := .array .long) (C := "CapUnitModel") (T := TM) (N := 11) hx hb hq uM_in tyM tyM_ok nmM hown hK hP hD hS 0 rfl rfl 4 (by decide) (hq _ q_374) (fun _ h9 => h9) rfl hin rfl (by decide +kernel) rfl rfl (Nat.le_of_ble_eq_true rfl) dM_init_41 (fun H locs hP hD hS => ?_)
  have hP : va_P D zCl [(h0, .inr (1, [.ref q7, .ref q15, .ref q23, .ref q31, .ref q39, .null, .int 0, .int 0, .int 0, .int 0, .long 0])), (q7, .inl (k 0, 32, .inl (fun _ => (0 : Int32)))), (q15, .inl (k 1, 32, .inl (fun _ => (0 : Int32)))), (q23, .inl (k 1, 32, .inl (fun _ => (0 : Int32)))), (q31, .inl (k 2, 8, .inr (.inl (fun _ => (0 : Int64))))), (q39, .inl (k 2, 8, .inr (.inl (fun _ => (0 : Int64)))))] H := hP
  have hD : va_D A [(h0, .inr (1, [.ref q7, .ref q15, .ref q23, .ref q31, .ref q39, .null, .int 0, .int 0, .int 0, .int 0, .long 0])), (q7, .inl (k 0, 32, .inl (fun _ => (0 : Int32)))), (q15, .inl (k 1, 32, .inl (fun _ => (0 : Int32)))), (q23, .inl (k 1, 32, .inl (fun _ => (0 : Int32)))), (q31, .inl (k 2, 8, .inr (.inl (fun _ => (0 : Int64))))), (q39, .inl (k 2, 8, .inr (.inl (fun _ => (0 : Int64)))))] := hD
  refine lv_aload_n hx hb dM_init_44 rfl (lv_at hl 0 rfl) ?_
  refine lv_bipush (v := 8) hx hb dM_init_45 (by decide) ?_
  refine zn_i hx hb (hq _ q_42) hK hP hD hS hA (N' := 8) (by decide) (by decide) (by decide) (Nat.le_of_ble_eq_true rfl) (Nat.le_of_ble_eq_true rfl) dM_init_47 (fun q47 H hP hD hS => ?_)
  have hP : va_P D zCl [(h0, .inr (1, [.ref q7, .ref q15, .ref q23, .ref q31, .ref q39, .null, .int 0, .int 0, .int 0, .int 0, .long 0])), (q7, .inl (k 0, 32, .inl (fun _ => (0 : Int32)))), (q15, .inl (k 1, 32, .inl (fun _ => (0 : Int32)))), (q23, .inl (k 1, 32, .inl (fun _ => (0 : Int32)))), (q31, .inl (k 2, 8, .inr (.inl (fun _ => (0 : Int64))))), (q39, .inl (k 2, 8, .inr (.inl (fun _ => (0 : Int64))))), (q47, .inl (k 1, 8, .inl (fun _ => (0 : Int32))))] H := hP
  have hD : va_D A [(h0, .inr (1, [.ref q7, .ref q15, .ref q23, .ref q31, .ref q39, .null, .int 0, .int 0, .int 0, .int 0, .long 0])), (q7, .inl (k 0, 32, .inl (fun _ => (0 : Int32)))), (q15, .inl (k 1, 32, .inl (fun _ => (0 : Int32)))), (q23, .inl (k 1, 32, .inl (fun _ => (0 : Int32)))), (q31, .inl (k 2, 8, .inr (.inl (fun _ => (0 : Int64))))), (q39, .inl (k 2, 8, .inr (.inl (fun _ => (0 : Int64))))), (q47, .inl (k 1, 8, .inl (fun _ => (0 : Int32))))] := hD
  refine va_putF (D := D) (ci := 1) (v := .ref q47) (ty := .array .int) (C := "CapUnitModel") (T := TM) (N := 11) hx hb hq uM_in tyM tyM_ok nmM hown hK hP hD hS 0 rfl rfl 5 (by decide) (hq _ q_375) (fun _ h9 => h9) rfl hin rfl (by decide +kernel) rfl rfl (Nat.le_of_ble_eq_true rfl) dM_init_49 (fun H locs hP hD hS => ?_)
  have hP : va_P D zCl [(h0, .inr (1, [.ref q7, .ref q15, .ref q23, .ref q31, .ref q39, .ref q47, .int 0, .int 0, .int 0, .int 0, .long 0])), (q7, .inl (k 0, 32, .inl (fun _ => (0 : Int32)))), (q15, .inl (k 1, 32, .inl (fun _ => (0 : Int32)))), (q23, .inl (k 1, 32, .inl (fun _ => (0 : Int32)))), (q31, .inl (k 2, 8, .inr (.inl (fun _ => (0 : Int64))))), (q39, .inl (k 2, 8, .inr (.inl (fun _ => (0 : Int64))))), (q47, .inl (k 1, 8, .inl (fun _ => (0 : Int32))))] H := hP
  have hD : va_D A [(h0, .inr (1, [.ref q7, .ref q15, .ref q23, .ref q31, .ref q39, .ref q47, .int 0, .int 0, .int 0, .int 0, .long 0])), (q7, .inl (k 0, 32, .inl (fun _ => (0 : Int32)))), (q15, .inl (k 1, 32, .inl (fun _ => (0 : Int32)))), (q23, .inl (k 1, 32, .inl (fun _ => (0 : Int32)))), (q31, .inl (k 2, 8, .inr (.inl (fun _ => (0 : Int64))))), (q39, .inl (k 2, 8, .inr (.inl (fun _ => (0 : Int64))))), (q47, .inl (k 1, 8, .inl (fun _ => (0 : Int32))))] := hD
  refine lv_iconst (v := 0) hx hb dM_init_52 (by decide) ?_
  refine lv_istore_n (lv' := [(1, .int (zI ((0 : Nat) : Int))), (0, .ref h0)]) hx hb dM_init_53 rfl hl (by decide) rfl (fun ls hl => ?_)
  have key : ∀ (j i : Nat) (ls : Array Slot) (H : Heap) (locs : List Loc), i + j = 32 → lv_has ls 2 [(1, .int (zI (i : Nat))), (0, .ref h0)] → va_P D zCl [(h0, .inr (1, [.ref q7, .ref q15, .ref q23, .ref q31, .ref q39, .ref q47, .int 0, .int 0, .int 0, .int 0, .long 0])), (q7, .inl (k 0, 32, .inl (fun _ => (0 : Int32)))), (q15, .inl (k 1, 32, .inl (fun _ => (0 : Int32)))), (q23, .inl (k 1, 32, .inl (zM i))), (q31, .inl (k 2, 8, .inr (.inl (fun _ => (0 : Int64))))), (q39, .inl (k 2, 8, .inr (.inl (fun _ => (0 : Int64))))), (q47, .inl (k 1, 8, .inl (fun _ => (0 : Int32))))] H → va_D A [(h0, .inr (1, [.ref q7, .ref q15, .ref q23, .ref q31, .ref q39, .ref q47, .int 0, .int 0, .int 0, .int 0, .long 0])), (q7, .inl (k 0, 32, .inl (fun _ => (0 : Int32)))), (q15, .inl (k 1, 32, .inl (fun _ => (0 : Int32)))), (q23, .inl (k 1, 32, .inl (zM i))), (q31, .inl (k 2, 8, .inr (.inl (fun _ => (0 : Int64))))), (q39, .inl (k 2, 8, .inr (.inl (fun _ => (0 : Int64))))), (q47, .inl (k 1, 8, .inl (fun _ => (0 : Int32))))] → va_S A s.heap H locs → W p l e (headSpec wM_init { frames := 1, cells := 6, slots := 120, locals := 13 }).room s m [Value.ref h0].toArray below meth c H locs 6 120 (MQ below (va_Qv (fun q : Nat → Nat => q 0 = h0) (fun q t => va_P D zCl (mW q k (fun _ => 0) (fun _ => 0) (zM 32) (fun _ => 0) (fun _ => 0) (fun _ => 0) 0 0 0 0 0) t.heap ∧ va_K D zCl (zT k) t ∧ va_D A (mW q k (fun _ => 0) (fun _ => 0) (zM 32) (fun _ => 0) (fun _ => 0) (fun _ => 0) 0 0 0 0 0)) A) [Value.ref h0].toArray s 6 120 A) (F0 m 54 ls []) := by
    intro j
    induction j with
    | zero =>
      intro i ls H locs hi hl hP hD hS
      have h32 : i = 32 := by omega
      subst h32
      refine lv_iload_n hx hb dM_init_54 rfl (lv_at hl 0 rfl) ?_
      refine lv_bipush (v := 32) hx hb dM_init_55 (by decide) ?_
      refine lv_icmp_ge (tgt := 74) hx hb dM_init_57 rfl (fun h1 => ?_) (fun h1 => absurd (show (32 : Int32) ≤ zI ((32 : Nat) : Int) by decide) h1)
      exact W.vret hx hb hr (fun t9 ht hW => ⟨⟨zQ7 h0 q7 q15 q23 q31 q39 q47, rfl, rfl, by rw [ht]; exact hP, va_K.moved hW.alike hK, hD⟩, hS.F ht⟩) hS.2.2 dM_init_74
    | succ j ih =>
      intro i ls H locs hi hl hP hD hS
      have hi32 : vp_in (zI (i : Nat)) 32 := zI_in (by omega) (by omega)
      refine lv_iload_n hx hb dM_init_54 rfl (lv_at hl 0 rfl) ?_
      refine lv_bipush (v := 32) hx hb dM_init_55 (by decide) ?_
      refine lv_icmp_ge (tgt := 74) hx hb dM_init_57 rfl (fun h1 => ?_) (fun h1 => ?_)
      · rw [(show (32 : Int32) = zI 32 by decide), zI_le (by omega) (by omega) (by omega) (by omega)] at h1
        omega
      refine lv_aload_n hx hb dM_init_60 rfl (lv_at hl 1 rfl) ?_
      refine va_get (D := D) (ci := 1) (v := .ref q23) (C := "CapUnitModel") (T := TM) (N := 11) hx hb hq uM_in hown hK hP 0 rfl rfl 2 (by decide) (hq _ q_372) (fun _ h9 => h9) rfl dM_init_61 ?_
      refine lv_iload_n hx hb dM_init_64 rfl (lv_at hl 0 rfl) ?_
      refine lv_ldc (v := 1000194) hx hb hown (hts (.constant "CapUnitModel" 30 1000194) (by decide +kernel)) dM_init_65 ?_
      refine va_iast hx hb hK hP hD hS 3 1 rfl rfl hi32 dM_init_67 (fun H locs hP hD hS => ?_)
      rw [zI_cl (show i < 2147483648 by omega)] at hP hD
      have hP : va_P D zCl [(h0, .inr (1, [.ref q7, .ref q15, .ref q23, .ref q31, .ref q39, .ref q47, .int 0, .int 0, .int 0, .int 0, .long 0])), (q7, .inl (k 0, 32, .inl (fun _ => (0 : Int32)))), (q15, .inl (k 1, 32, .inl (fun _ => (0 : Int32)))), (q23, .inl (k 1, 32, .inl (zM (i + 1)))), (q31, .inl (k 2, 8, .inr (.inl (fun _ => (0 : Int64))))), (q39, .inl (k 2, 8, .inr (.inl (fun _ => (0 : Int64))))), (q47, .inl (k 1, 8, .inl (fun _ => (0 : Int32))))] H := hP
      have hD : va_D A [(h0, .inr (1, [.ref q7, .ref q15, .ref q23, .ref q31, .ref q39, .ref q47, .int 0, .int 0, .int 0, .int 0, .long 0])), (q7, .inl (k 0, 32, .inl (fun _ => (0 : Int32)))), (q15, .inl (k 1, 32, .inl (fun _ => (0 : Int32)))), (q23, .inl (k 1, 32, .inl (zM (i + 1)))), (q31, .inl (k 2, 8, .inr (.inl (fun _ => (0 : Int64))))), (q39, .inl (k 2, 8, .inr (.inl (fun _ => (0 : Int64))))), (q47, .inl (k 1, 8, .inl (fun _ => (0 : Int32))))] := hD
      refine lv_iinc (k := 0) (v := zI ((i + 1 : Nat) : Int)) (lv' := [(1, .int (zI ((i + 1 : Nat) : Int))), (0, .ref h0)]) hx hb dM_init_68 hl rfl (by show zI _ + zI 1 = _; rw [zI_add]; rfl) (by decide) rfl (fun ls hl => ?_)
      refine lv_goto (tgt := 54) hx hb dM_init_71 rfl ?_
      exact ih (i + 1) ls H locs (by omega) hl hP hD hS
  exact key 32 0 ls H _ (by omega) hl hP hD hS
end
