section
-- ===== PART A: goes FIRST, ahead of the names: the tables' words, and 'selects' of the private methods out of them =====
/-- a private method of a class that the tables say can be made, by its rows of tables_1 -/
def lw_okq (q : MethodName × Nat) : Prop := (q.1.cls ≠ "java/lang/invoke/MethodHandle" ∧ q.1.cls ≠ "java/lang/invoke/VarHandle") ∧ Cond.instantiable q.1.cls q.2 ∈ tables_1 ∧ Cond.privateMethod q.1 ∈ tables_1 ∧ Cond.instanceMethod q.1 ∈ tables_1
theorem lw_p0 : lw_okq (⟨"YearFractions", "freeRow", "()LYearFractions$Row;"⟩, 7) := ⟨⟨by decide +kernel, by decide +kernel⟩, List.mem_of_getElem? (i := 16) (by decide +kernel), List.mem_of_getElem? (i := 127) (by decide +kernel), List.mem_of_getElem? (i := 128) (by decide +kernel)⟩
theorem lw_p1 : lw_okq (⟨"java/lang/Throwable", "fillInStackTrace", "(I)Ljava/lang/Throwable;"⟩, 6) := ⟨⟨by decide +kernel, by decide +kernel⟩, List.mem_of_getElem? (i := 170) (by decide +kernel), List.mem_of_getElem? (i := 168) (by decide +kernel), List.mem_of_getElem? (i := 169) (by decide +kernel)⟩
theorem lw_p2 : lw_okq (⟨"YearFractions", "keepFreeRow", "()I"⟩, 7) := ⟨⟨by decide +kernel, by decide +kernel⟩, List.mem_of_getElem? (i := 16) (by decide +kernel), List.mem_of_getElem? (i := 221) (by decide +kernel), List.mem_of_getElem? (i := 222) (by decide +kernel)⟩
theorem lw_p3 : lw_okq (⟨"YearFractions", "knownRowWith", "(II)LYearFractions$Row;"⟩, 7) := ⟨⟨by decide +kernel, by decide +kernel⟩, List.mem_of_getElem? (i := 16) (by decide +kernel), List.mem_of_getElem? (i := 233) (by decide +kernel), List.mem_of_getElem? (i := 234) (by decide +kernel)⟩
theorem lw_p4 : lw_okq (⟨"YearFractions", "knownRow", "(I)LYearFractions$Row;"⟩, 7) := ⟨⟨by decide +kernel, by decide +kernel⟩, List.mem_of_getElem? (i := 16) (by decide +kernel), List.mem_of_getElem? (i := 237) (by decide +kernel), List.mem_of_getElem? (i := 238) (by decide +kernel)⟩
theorem lw_p5 : lw_okq (⟨"YearFractions", "takeUntilEnough", "(LYearFractions$Row;I)V"⟩, 7) := ⟨⟨by decide +kernel, by decide +kernel⟩, List.mem_of_getElem? (i := 16) (by decide +kernel), List.mem_of_getElem? (i := 370) (by decide +kernel), List.mem_of_getElem? (i := 371) (by decide +kernel)⟩
theorem lw_p6 : lw_okq (⟨"YearFractions", "countWeighted", "(LYearFractions$Row;)I"⟩, 7) := ⟨⟨by decide +kernel, by decide +kernel⟩, List.mem_of_getElem? (i := 16) (by decide +kernel), List.mem_of_getElem? (i := 436) (by decide +kernel), List.mem_of_getElem? (i := 437) (by decide +kernel)⟩
theorem lw_p7 : lw_okq (⟨"YearFractionsModel", "goes", "(ZZZZ)Z"⟩, 12) := ⟨⟨by decide +kernel, by decide +kernel⟩, List.mem_of_getElem? (i := 522) (by decide +kernel), List.mem_of_getElem? (i := 576) (by decide +kernel), List.mem_of_getElem? (i := 577) (by decide +kernel)⟩
theorem lw_p8 : lw_okq (⟨"YearFractionsModel", "open", "(II)V"⟩, 12) := ⟨⟨by decide +kernel, by decide +kernel⟩, List.mem_of_getElem? (i := 522) (by decide +kernel), List.mem_of_getElem? (i := 580) (by decide +kernel), List.mem_of_getElem? (i := 581) (by decide +kernel)⟩
theorem lw_p9 : lw_okq (⟨"YearFractionsModel", "has", "(II)Z"⟩, 12) := ⟨⟨by decide +kernel, by decide +kernel⟩, List.mem_of_getElem? (i := 522) (by decide +kernel), List.mem_of_getElem? (i := 588) (by decide +kernel), List.mem_of_getElem? (i := 589) (by decide +kernel)⟩
theorem lw_p10 : lw_okq (⟨"YearFractionsModel", "isRow", "(I)Z"⟩, 12) := ⟨⟨by decide +kernel, by decide +kernel⟩, List.mem_of_getElem? (i := 522) (by decide +kernel), List.mem_of_getElem? (i := 592) (by decide +kernel), List.mem_of_getElem? (i := 593) (by decide +kernel)⟩
theorem lw_p11 : lw_okq (⟨"YearFractionsModel", "at", "(II)I"⟩, 12) := ⟨⟨by decide +kernel, by decide +kernel⟩, List.mem_of_getElem? (i := 522) (by decide +kernel), List.mem_of_getElem? (i := 597) (by decide +kernel), List.mem_of_getElem? (i := 598) (by decide +kernel)⟩
theorem lw_p12 : lw_okq (⟨"YearFractionsModel", "blank", "()V"⟩, 12) := ⟨⟨by decide +kernel, by decide +kernel⟩, List.mem_of_getElem? (i := 522) (by decide +kernel), List.mem_of_getElem? (i := 605) (by decide +kernel), List.mem_of_getElem? (i := 606) (by decide +kernel)⟩
theorem lw_p13 : lw_okq (⟨"YearFractionsModel", "plus", "(II)V"⟩, 12) := ⟨⟨by decide +kernel, by decide +kernel⟩, List.mem_of_getElem? (i := 522) (by decide +kernel), List.mem_of_getElem? (i := 609) (by decide +kernel), List.mem_of_getElem? (i := 610) (by decide +kernel)⟩
theorem lw_p14 : lw_okq (⟨"YearFractionsModel", "keep", "(II)Z"⟩, 12) := ⟨⟨by decide +kernel, by decide +kernel⟩, List.mem_of_getElem? (i := 522) (by decide +kernel), List.mem_of_getElem? (i := 613) (by decide +kernel), List.mem_of_getElem? (i := 614) (by decide +kernel)⟩
theorem lw_p15 : lw_okq (⟨"YearFractionsModel", "multiply", "(II)V"⟩, 12) := ⟨⟨by decide +kernel, by decide +kernel⟩, List.mem_of_getElem? (i := 522) (by decide +kernel), List.mem_of_getElem? (i := 622) (by decide +kernel), List.mem_of_getElem? (i := 623) (by decide +kernel)⟩
def lw_privs_1 : List (MethodName × Nat) := [(⟨"YearFractions", "freeRow", "()LYearFractions$Row;"⟩, 7), (⟨"java/lang/Throwable", "fillInStackTrace", "(I)Ljava/lang/Throwable;"⟩, 6), (⟨"YearFractions", "keepFreeRow", "()I"⟩, 7), (⟨"YearFractions", "knownRowWith", "(II)LYearFractions$Row;"⟩, 7), (⟨"YearFractions", "knownRow", "(I)LYearFractions$Row;"⟩, 7), (⟨"YearFractions", "takeUntilEnough", "(LYearFractions$Row;I)V"⟩, 7), (⟨"YearFractions", "countWeighted", "(LYearFractions$Row;)I"⟩, 7), (⟨"YearFractionsModel", "goes", "(ZZZZ)Z"⟩, 12), (⟨"YearFractionsModel", "open", "(II)V"⟩, 12), (⟨"YearFractionsModel", "has", "(II)Z"⟩, 12), (⟨"YearFractionsModel", "isRow", "(I)Z"⟩, 12), (⟨"YearFractionsModel", "at", "(II)I"⟩, 12), (⟨"YearFractionsModel", "blank", "()V"⟩, 12), (⟨"YearFractionsModel", "plus", "(II)V"⟩, 12), (⟨"YearFractionsModel", "keep", "(II)Z"⟩, 12), (⟨"YearFractionsModel", "multiply", "(II)V"⟩, 12)]
theorem lw_r1 : ∀ q ∈ lw_privs_1, lw_okq q := List.forall_mem_cons.mpr ⟨lw_p0, List.forall_mem_cons.mpr ⟨lw_p1, List.forall_mem_cons.mpr ⟨lw_p2, List.forall_mem_cons.mpr ⟨lw_p3, List.forall_mem_cons.mpr ⟨lw_p4, List.forall_mem_cons.mpr ⟨lw_p5, List.forall_mem_cons.mpr ⟨lw_p6, List.forall_mem_cons.mpr ⟨lw_p7, List.forall_mem_cons.mpr ⟨lw_p8, List.forall_mem_cons.mpr ⟨lw_p9, List.forall_mem_cons.mpr ⟨lw_p10, List.forall_mem_cons.mpr ⟨lw_p11, List.forall_mem_cons.mpr ⟨lw_p12, List.forall_mem_cons.mpr ⟨lw_p13, List.forall_mem_cons.mpr ⟨lw_p14, List.forall_mem_cons.mpr ⟨lw_p15, fun _ h => absurd h List.not_mem_nil⟩⟩⟩⟩⟩⟩⟩⟩⟩⟩⟩⟩⟩⟩⟩⟩
theorem lw_p16 : lw_okq (⟨"YearFractionsModel", "divide", "(I)J"⟩, 12) := ⟨⟨by decide +kernel, by decide +kernel⟩, List.mem_of_getElem? (i := 522) (by decide +kernel), List.mem_of_getElem? (i := 626) (by decide +kernel), List.mem_of_getElem? (i := 627) (by decide +kernel)⟩
theorem lw_p17 : lw_okq (⟨"YearFractionsModel", "isNothing", "(I)Z"⟩, 12) := ⟨⟨by decide +kernel, by decide +kernel⟩, List.mem_of_getElem? (i := 522) (by decide +kernel), List.mem_of_getElem? (i := 639) (by decide +kernel), List.mem_of_getElem? (i := 640) (by decide +kernel)⟩
theorem lw_p18 : lw_okq (⟨"YearFractionsModel", "enough", "(III)Z"⟩, 12) := ⟨⟨by decide +kernel, by decide +kernel⟩, List.mem_of_getElem? (i := 522) (by decide +kernel), List.mem_of_getElem? (i := 643) (by decide +kernel), List.mem_of_getElem? (i := 644) (by decide +kernel)⟩
theorem lw_p19 : lw_okq (⟨"YearFractionsModel", "sumUp", "(IZ)V"⟩, 12) := ⟨⟨by decide +kernel, by decide +kernel⟩, List.mem_of_getElem? (i := 522) (by decide +kernel), List.mem_of_getElem? (i := 647) (by decide +kernel), List.mem_of_getElem? (i := 648) (by decide +kernel)⟩
theorem lw_p20 : lw_okq (⟨"YearFractionsModel", "grow", "(I)V"⟩, 12) := ⟨⟨by decide +kernel, by decide +kernel⟩, List.mem_of_getElem? (i := 522) (by decide +kernel), List.mem_of_getElem? (i := 651) (by decide +kernel), List.mem_of_getElem? (i := 652) (by decide +kernel)⟩
theorem lw_p21 : lw_okq (⟨"YearFractionsModel", "compared", "(II)I"⟩, 12) := ⟨⟨by decide +kernel, by decide +kernel⟩, List.mem_of_getElem? (i := 522) (by decide +kernel), List.mem_of_getElem? (i := 655) (by decide +kernel), List.mem_of_getElem? (i := 656) (by decide +kernel)⟩
def lw_privs_2 : List (MethodName × Nat) := [(⟨"YearFractionsModel", "divide", "(I)J"⟩, 12), (⟨"YearFractionsModel", "isNothing", "(I)Z"⟩, 12), (⟨"YearFractionsModel", "enough", "(III)Z"⟩, 12), (⟨"YearFractionsModel", "sumUp", "(IZ)V"⟩, 12), (⟨"YearFractionsModel", "grow", "(I)V"⟩, 12), (⟨"YearFractionsModel", "compared", "(II)I"⟩, 12)]
theorem lw_r2 : ∀ q ∈ lw_privs_2, lw_okq q := List.forall_mem_cons.mpr ⟨lw_p16, List.forall_mem_cons.mpr ⟨lw_p17, List.forall_mem_cons.mpr ⟨lw_p18, List.forall_mem_cons.mpr ⟨lw_p19, List.forall_mem_cons.mpr ⟨lw_p20, List.forall_mem_cons.mpr ⟨lw_p21, fun _ h => absurd h List.not_mem_nil⟩⟩⟩⟩⟩⟩
def lw_privs : List (MethodName × Nat) := lw_privs_1 ++ (lw_privs_2)
def lw_tbl : List Cond := k2_sels lw_privs ++ tables_1
theorem lw_privs_ok : ∀ q ∈ lw_privs, lw_okq q := by
  show ∀ q ∈ lw_privs_1 ++ (lw_privs_2), lw_okq q
  exact List.forall_mem_append.mpr ⟨lw_r1, lw_r2⟩
/-- the words that hold at every later point of the run too -/
def yW : List Cond := lw_tbl.filter goodWord
theorem yW_good {w : Cond} (h : w ∈ yW) : (w.onTables && w.keeps) = true ∨ ∃ ty, w = .arrayClass ty := good_of_word (List.mem_filter.mp h).2
theorem yW_tbl {w : Cond} (h : w ∈ yW) : w ∈ lw_tbl := (List.mem_filter.mp h).1
theorem yW_of {w : Cond} (i : Nat) (h : lw_tbl[i]? = some w) (hg : goodWord w = true) : w ∈ yW := List.mem_filter.mpr ⟨List.mem_of_getElem? h, hg⟩
end
section
/-! ===== BEGIN exceptions that leave a method, and their catching by the caller (launches without stack traces) ===== -/
section VXA
/-! The laws vx_back, vx_callV, vx_callS, vx_callSW, vx_throw0, vx_throwS follow proofs of the library, with one case more: JvmDerived/Free/Laws.lean (Back.of_free), Shelf42/LK1.lean (callV, callS), Shelf/KitTraced.lean (throwNew0V, throwNewS). -/
/-- where a method has thrown q: the class by its name, the cell, what was written, the world -/
def vx_T (XC : String → State → State → Prop) (st : State) (q : Addr) (t : State) (mc ms : Nat) (free : Addr → Prop) : Prop :=
  ∃ (E : String) (ce : Cell) (L : List Loc), XC E st t ∧ t.heap[q]? = some ce ∧ ce.vm = .none ∧ st.vm.findClass E = some ce.cls ∧ st.WarmedH t.vm ∧ st.sameButNew ({ t with vm := st.vm } : State) L mc ms ∧ ∀ z ∈ L, free z.base
def vx_Q (Qc : Array Value → State → Outcome → State → Prop) (XC : String → State → State → Prop) (mc ms : Nat) (free : Addr → Prop) : Array Value → State → Outcome → State → Prop := fun a st o t =>
  (Qc a st o t ∧ ∃ L, FrameEnd st o t L mc ms ∧ ∀ q ∈ L, free q.base) ∨ ∃ q, o = .threw q ∧ vx_T XC st q t mc ms free
/-- a callee that returns or throws -/
def vx_Met (l : Launch) (y : MethodName) (ws : List Cond) (rm : Room) (Pc : Array Value → State → Prop) (Qc : Array Value → State → Outcome → State → Prop) (XC : String → State → State → Prop) (mc ms : Nat) (free : Addr → Prop) : Prop :=
  MetFree l y (headSpec ws rm) Pc (fun _ _ _ _ _ => True) (vx_Q Qc XC mc ms free)
def vx_Post (XC : String → State → State → Prop) (mc ms : Nat) (free : Addr → Prop) : Pt → Array Value → Addr → Pt → Prop := fun A a q B =>
  ∃ (g : JFrame) (mk : MethodId) (t : State) (L : List Loc) (E : String) (ce : Cell), B.U.heap = t.heap ∧ B.U.vm = t.vm ∧ XC E (A.U.calling g mk a) t ∧ t.heap[q]? = some ce ∧ ce.vm = .none ∧ A.U.vm.findClass E = some ce.cls ∧ B.locs = A.locs ++ L ∧ (∀ z ∈ L, free z.base) ∧ B.cells = A.cells + mc ∧ B.slots = A.slots + ms
def vx_Back (l : Launch) (R : Room) (p : Program) (e : Env) (below : List Frame) (s : State) (sargs : Array Value) (y : MethodName) (len W9 : Nat)
    (Pre : Pt → Array Value → Prop) (Post : Pt → Array Value → Option Value → Pt → Prop) (PostX : Pt → Array Value → Addr → Pt → Prop) : Prop :=
  ∀ (m : MethodId) (meth : Method) (c : Code) (A : Pt) (g : JFrame) (ig : Instr) (mk : MethodId) (a : Array Value),
    Stand p l e R s m sargs below meth c A.U A.locs A.cells A.slots → g.method = m → g.locals.size = c.maxLocals → decode c.code g.pc = .ok (ig, len) →
    2 * g.monitorRoom + (g.stack.map fun v => v.category).sum ≤ W9 → A.U.methodNamed? y = some mk → Pre A a →
    (∃ (v : Option Value) (B : Pt), Stand p l e R s m sargs below meth c B.U B.locs B.cells B.slots ∧ Post A a v B ∧
      Steps p.tables e below (doInvoke e (A.U.setTop g) [] mk a).1 (B.U.setTop { g with pc := g.pc + len, stack := v.toList ++ g.stack })) ∨
    (∃ (q : Addr) (B : Pt), Stand p l e R s m sargs below meth c B.U B.locs B.cells B.slots ∧ PostX A a q B ∧
      Steps p.tables e below (doInvoke e (A.U.setTop g) [] mk a).1 ((B.U.setTop g).pushFrame (.throwing q)))
section Payer
variable {l : Launch} {R : Room} {p : Program} {e : Env} {below : List Frame} {s : State} {sargs : Array Value} {y : MethodName} {len W9 : Nat}
theorem vx_back {ws : List Cond} {rm : Room} {Pc : Array Value → State → Prop} {Qc : Array Value → State → Outcome → State → Prop} {XC : String → State → State → Prop} {mc ms : Nat} {free : Addr → Prop} {bytes : ByteArray} {maxL : Nat} {ret : Option FieldType}
    (hM : vx_Met l y ws rm Pc Qc XC mc ms free) (hblind : FrameBlind Pc) (hrc : rm.cells = mc) (hrs : rm.slots = ms)
    (hframes : rm.frames + 1 ≤ R.frames) (hlocals : W9 + (maxL + 11) + rm.locals ≤ R.locals)
    (hws : ∀ w ∈ ws, ∀ a' U, s.WarmedH U.vm → w.before a' U = true) (hcode : Cond.code y bytes maxL ret ∈ ws) (hinit : ∀ a' U, s.WarmedH U.vm → (Cond.initialized y.cls).before a' U = true) :
    vx_Back l R p e below s sargs y len W9 (PreOf R mc ms Pc) (PostOf Qc mc ms free) (vx_Post XC mc ms free) := by
  intro m meth c A g ig mk a X hg hsize hdg hW hn hp
  have h1 : (headSpec ws rm).pre.before a A.U = true := atoms_intro fun w hw => hws w hw _ _ X.warmed
  have h2 : (Cond.code y bytes maxL ret).before a A.U = true := hws _ hcode _ _ X.warmed
  have h3 : (Cond.initialized y.cls).before a A.U = true := hinit _ _ X.warmed
  have h4 : A.cells + (headSpec ws rm).room.cells ≤ R.cells := by rw [show (headSpec ws rm).room.cells = mc from hrc]; exact hp.1
  have h5 : A.slots + (headSpec ws rm).room.slots ≤ R.slots := by rw [show (headSpec ws rm).room.slots = ms from hrs]; exact hp.2.1
  have hPc : Pc a (A.U.calling g mk a) := hblind _ _ _ _ hp.2.2
  obtain ⟨U, Ls, c0, s0⟩ := A
  dsimp only [Pt.U, Pt.locs, Pt.cells, Pt.slots] at h1 h2 h3 h4 h5 X hn hPc ⊢
  obtain ⟨methY, cY, hmY, hcY, -, hlY, -, -, -, -⟩ := Cond.code_spec hn h2
  obtain ⟨kY, hkY, -⟩ := className_of_methodNamed hn
  have hinitY : kY.init = .initialized := Cond.initialized_spec (findClass_of_methodNamed hn) hkY h3
  have h : At U g.method c below := by rw [hg]; exact X.here
  have hlocals9 : W9 + (maxL + 11) + (headSpec ws rm).room.locals ≤ R.locals := hlocals
  have happ : (headSpec ws rm).appliesLoose y e.platform (U.calling g mk a) = true :=
    Spec.appliesLoose_calling (g := g) h hdg hn hkY hinitY
      (X.room_calling (g := g) (R' := (headSpec ws rm).room) hsize hmY hcY hframes (by rw [hlY]; omega) h4 h5) h1
  obtain ⟨mid, hmid⟩ := h.above
  have hfr : (U.setTop g).frames = (.java g :: mid) ++ below := by rw [State.frames_setTop' g h.top, hmid]; rfl
  obtain ⟨o, s₂, hsteps, -, hend, hq⟩ := Steps.callFree hM p X.admits X.cas X.clock (acts := []) hfr happ hPc trivial
  have hq' : vx_Q Qc XC mc ms free a (U.calling g mk a) o s₂ := hq
  rw [State.frames_setTop' g h.top] at hend
  obtain ⟨g₀, hg0⟩ := Option.isSome_iff_exists.mp h.top
  obtain ⟨r, hr⟩ := State.topJava?_eq_some.mp hg0
  have hr' : (({ U with heap := s₂.heap, slotsUsed := s₂.slotsUsed } : State).setVm s₂.vm).frames = .java g₀ :: r := hr
  rcases hq' with ⟨hqc, L, hfe, hL⟩ | ⟨q, rfl, E, ce, L, hx, hce, hcv, hcl, hW₂, hsm, hL⟩
  · obtain ⟨⟨v, rfl⟩, hW₂, e2, q2, q3, q4, q5, q6⟩ := id hfe
    have e3 : s₂ = ({ (U.calling g mk a).setFrames s₂.frames with heap := s₂.heap, slotsUsed := s₂.slotsUsed } : State).setVm s₂.vm := by
      have : s₂ = ({ s₂ with vm := (U.calling g mk a).vm } : State).setVm s₂.vm := rfl
      rw [e2] at this
      exact this
    obtain ⟨c₂, i₂, len₂, hc₂, hd₂, hf₂⟩ := hend
    have hW' : U.WarmedH s₂.vm := hW₂
    have hcc : c₂ = c := by
      have h1 : s₂.code? g.method = U.code? g.method := by
        rw [State.code?_eq, State.code?_eq, hW'.alike.method?]
      exact Option.some.inj (hc₂.symm.trans (h1.trans h.code))
    subst hcc
    have hlen : len₂ = len := by rw [hdg] at hd₂; cases hd₂; rfl
    subst hlen
    have hs₂ : s₂ = (({ U with heap := s₂.heap, slotsUsed := s₂.slotsUsed } : State).setVm s₂.vm).setTop { g with pc := g.pc + len₂, stack := v.toList ++ g.stack } := by
      refine e3.trans ?_
      rw [hf₂, State.calling_eq h.top, State.setFrames_setFrames, State.setTop_of_frames _ hr', hr]
      rfl
    have hsame : U.sameButNew ({ U with heap := s₂.heap, slotsUsed := s₂.slotsUsed } : State) L mc ms := by
      refine ⟨?_, q2, q3, q4, q5, q6⟩
      obtain ⟨t, ht, -⟩ := State.frames_cons hr
      show ({ U with heap := s₂.heap, slotsUsed := s₂.slotsUsed } : State) = { U.setFrames U.frames with heap := s₂.heap, slotsUsed := s₂.slotsUsed }
      rw [State.setFrames_self ht]
    subst hg
    refine Or.inl ⟨v, ⟨(({ U with heap := s₂.heap, slotsUsed := s₂.slotsUsed } : State).setVm s₂.vm), Ls ++ L, c0 + mc, s0 + ms⟩,
      ⟨X.admits, X.cas, X.clock, X.frames, X.room, X.hears, X.method, X.code, (X.here.setHeapUsed s₂.heap s₂.slotsUsed).setVm hW'.alike, X.tail, State.WarmedH.trans X.warmed hW', X.limits, X.bytes, X.same.trans (hsame.setVm s.vm)⟩,
      ⟨g, mk, s₂, L, rfl, rfl, hqc, rfl, hL, rfl, rfl⟩, ?_⟩
    show Steps p.tables e below _ ((({ U with heap := s₂.heap, slotsUsed := s₂.slotsUsed } : State).setVm s₂.vm).setTop { g with pc := g.pc + len₂, stack := v.toList ++ g.stack })
    rw [← hs₂]
    exact hsteps
  · obtain ⟨e2, q2, q3, q4, q5, q6⟩ := id hsm
    have e3 : s₂ = ({ (U.calling g mk a).setFrames s₂.frames with heap := s₂.heap, slotsUsed := s₂.slotsUsed } : State).setVm s₂.vm := by
      have : s₂ = ({ s₂ with vm := (U.calling g mk a).vm } : State).setVm s₂.vm := rfl
      rw [e2] at this
      exact this
    have hf₂ : s₂.frames = .throwing q :: .java g :: U.frames.tail := hend
    have hW' : U.WarmedH s₂.vm := hW₂
    have hs₂ : s₂ = ((({ U with heap := s₂.heap, slotsUsed := s₂.slotsUsed } : State).setVm s₂.vm).setTop g).pushFrame (.throwing q) := by
      refine e3.trans ?_
      rw [hf₂, State.calling_eq h.top, State.setFrames_setFrames, State.pushFrame, State.frames_setTop _ hr', State.setTop_of_frames _ hr', State.setFrames_setFrames, hr]
      rfl
    have hsame : U.sameButNew ({ U with heap := s₂.heap, slotsUsed := s₂.slotsUsed } : State) L mc ms := by
      refine ⟨?_, q2, q3, q4, q5, q6⟩
      obtain ⟨t, ht, -⟩ := State.frames_cons hr
      show ({ U with heap := s₂.heap, slotsUsed := s₂.slotsUsed } : State) = { U.setFrames U.frames with heap := s₂.heap, slotsUsed := s₂.slotsUsed }
      rw [State.setFrames_self ht]
    subst hg
    refine Or.inr ⟨q, ⟨(({ U with heap := s₂.heap, slotsUsed := s₂.slotsUsed } : State).setVm s₂.vm), Ls ++ L, c0 + mc, s0 + ms⟩,
      ⟨X.admits, X.cas, X.clock, X.frames, X.room, X.hears, X.method, X.code, (X.here.setHeapUsed s₂.heap s₂.slotsUsed).setVm hW'.alike, X.tail, State.WarmedH.trans X.warmed hW', X.limits, X.bytes, X.same.trans (hsame.setVm s.vm)⟩,
      ⟨g, mk, s₂, L, E, ce, rfl, rfl, hx, hce, hcv, hcl, rfl, hL, rfl, rfl⟩, ?_⟩
    show Steps p.tables e below _ (((({ U with heap := s₂.heap, slotsUsed := s₂.slotsUsed } : State).setVm s₂.vm).setTop g).pushFrame (.throwing q))
    rw [← hs₂]
    exact hsteps
end Payer
section Calls
variable {p : Program} {l : Launch} {e : Env} {R : Room} {s : State} {m : MethodId} {args : Array Value} {below : List Frame} {meth : Method} {c : Code} {T : State} {locs : List Loc} {cells slots : Nat}
theorem vx_callV (X : Stand p l e R s m args below meth c T locs cells slots) (hexec : p.tables.exec = Jvm.exec) {own C : String} {index : Nat} {y : MethodName} {bytes : ByteArray} {maxL : Nat} {ret : Option FieldType}
    (hown : s.vm.findClass own = some m.cls) (hlink : (Cond.methodLink own index y).before args s = true) (hinst : (Cond.instanceMethod y).before args s = true) (hsel : (Cond.selects C y y).before args s = true)
    (hcode : (Cond.code y bytes maxL ret).before args s = true) (hy : y.cls ≠ "java/lang/invoke/MethodHandle" ∧ y.cls ≠ "java/lang/invoke/VarHandle")
    {W9 : Nat} {Pre : Pt → Array Value → Prop} {Post : Pt → Array Value → Option Value → Pt → Prop} {PostX : Pt → Array Value → Addr → Pt → Prop} (hK : vx_Back l R p e below s args y 3 W9 Pre Post PostX)
    {b : Addr} {cellB : Cell} (hcell : T.heap[b]? = some cellB) (hobj : cellB.vm.isStatics = false) (hcls : s.vm.findClass C = some cellB.cls)
    {g : JFrame} (hg : g.method = m) (hsize : g.locals.size = c.maxLocals) {argsL rest : List Value} (hlen : ∀ sig, parseMethodDescriptor y.desc = some sig → argsL.length = sig.parameters.length)
    (hstack : g.stack = argsL.reverse ++ .ref b :: rest) (hW : 2 * g.monitorRoom + (rest.map fun v => v.category).sum ≤ W9) (hdg : decode c.code g.pc = .ok (.invokevirtual index, 3))
    (hpre : ∀ vm₁, s.WarmedH vm₁ → Pre ⟨T.setVm vm₁, locs, cells, slots⟩ (Value.ref b :: argsL).toArray) :
    (∃ (v : Option Value) (vm₁ : Vm) (B : Pt), s.WarmedH vm₁ ∧ Stand p l e R s m args below meth c B.U B.locs B.cells B.slots ∧ Post ⟨T.setVm vm₁, locs, cells, slots⟩ (Value.ref b :: argsL).toArray v B ∧
      ∀ target, Steps p.tables e below (B.U.setTop { g with pc := g.pc + 3, stack := v.toList ++ rest }) target → Steps p.tables e below (T.setTop g) target) ∨
    (∃ (q : Addr) (vm₁ : Vm) (B : Pt), s.WarmedH vm₁ ∧ Stand p l e R s m args below meth c B.U B.locs B.cells B.slots ∧ PostX ⟨T.setVm vm₁, locs, cells, slots⟩ (Value.ref b :: argsL).toArray q B ∧
      Steps p.tables e below (T.setTop g) ((B.U.setTop { g with stack := rest }).pushFrame (.throwing q))) := by
  obtain ⟨mk, methM, hnamed, hmethM, hstM, habM⟩ := Cond.instanceMethod_spec hinst
  obtain ⟨methM', cM, hmethM', -, -, -, -, -, -, hsigM⟩ := Cond.code_spec hnamed hcode
  cases hmethM.symm.trans hmethM'
  obtain ⟨c2, r2, m2, q1, q2, q3, q4, kP, hkP, hkPi⟩ := Cond.selects_spec hsel
  cases hcls.symm.trans q1
  cases (State.methodFound?_of_named hnamed hy).symm.trans q2
  cases hnamed.symm.trans q3
  have hselP : selectMethod e.platform s.vm cellB.cls mk = .method mk := by rw [Launch.admits_selectMethod X.admits]; exact q4
  obtain ⟨vm₁, X₁, hstep₁⟩ := X.invokevirtual hexec hown hlink hnamed hmethM hstM hkP hkPi hy (a := b) (cell := cellB) hcell
    (fun z h => by rw [h] at hobj; cases hobj) hselP hmethM habM hkP hkPi (g := g) hg (argsL := argsL) (rest := rest) (hlen _ hsigM) hstack hdg
  rcases hK m meth c ⟨T.setVm vm₁, locs, cells, slots⟩ { g with stack := rest } (.invokevirtual index) mk (Value.ref b :: argsL).toArray X₁ hg hsize hdg hW (X₁.named hnamed) (hpre vm₁ X₁.warmed) with ⟨v, B, X', hpost, hsteps⟩ | ⟨q, B, X', hpost, hsteps⟩
  · exact Or.inl ⟨v, vm₁, B, X₁.warmed, X', hpost, fun target h => hstep₁ _ fun acts => by rw [doInvoke_state]; exact hsteps.trans h⟩
  · exact Or.inr ⟨q, vm₁, B, X₁.warmed, X', hpost, hstep₁ _ fun acts => by rw [doInvoke_state]; exact hsteps⟩
theorem vx_callS (X : Stand p l e R s m args below meth c T locs cells slots) (hexec : p.tables.exec = Jvm.exec) {own : String} {index : Nat} {y : MethodName} {bytes : ByteArray} {maxL : Nat} {ret : Option FieldType}
    (hown : s.vm.findClass own = some m.cls) (hlink : (Cond.methodLink own index y).before args s = true) (hstat : (Cond.static y).before args s = true) (hinit : (Cond.initialized y.cls).before args s = true)
    (hcode : (Cond.code y bytes maxL ret).before args s = true) (hy : y.cls ≠ "java/lang/invoke/MethodHandle" ∧ y.cls ≠ "java/lang/invoke/VarHandle")
    {W9 : Nat} {Pre : Pt → Array Value → Prop} {Post : Pt → Array Value → Option Value → Pt → Prop} {PostX : Pt → Array Value → Addr → Pt → Prop} (hK : vx_Back l R p e below s args y 3 W9 Pre Post PostX)
    {g : JFrame} (hg : g.method = m) (hsize : g.locals.size = c.maxLocals) {argsL rest : List Value} (hlen : ∀ sig, parseMethodDescriptor y.desc = some sig → argsL.length = sig.parameters.length)
    (hstack : g.stack = argsL.reverse ++ rest) (hW : 2 * g.monitorRoom + (rest.map fun v => v.category).sum ≤ W9) (hdg : decode c.code g.pc = .ok (.invokestatic index, 3))
    (hpre : ∀ vm₁, s.WarmedH vm₁ → Pre ⟨T.setVm vm₁, locs, cells, slots⟩ argsL.toArray) :
    (∃ (v : Option Value) (vm₁ : Vm) (B : Pt), s.WarmedH vm₁ ∧ Stand p l e R s m args below meth c B.U B.locs B.cells B.slots ∧ Post ⟨T.setVm vm₁, locs, cells, slots⟩ argsL.toArray v B ∧
      ∀ target, Steps p.tables e below (B.U.setTop { g with pc := g.pc + 3, stack := v.toList ++ rest }) target → Steps p.tables e below (T.setTop g) target) ∨
    (∃ (q : Addr) (vm₁ : Vm) (B : Pt), s.WarmedH vm₁ ∧ Stand p l e R s m args below meth c B.U B.locs B.cells B.slots ∧ PostX ⟨T.setVm vm₁, locs, cells, slots⟩ argsL.toArray q B ∧
      Steps p.tables e below (T.setTop g) ((B.U.setTop { g with stack := rest }).pushFrame (.throwing q))) := by
  obtain ⟨mk, hnamed⟩ := Cond.code_named hcode
  obtain ⟨methM, cM, hmethM, -, -, -, -, -, -, hsigM⟩ := Cond.code_spec hnamed hcode
  have hstatic : methM.isStatic = true := Cond.static_spec hnamed hmethM hstat
  obtain ⟨kP, hkP, -⟩ := className_of_methodNamed hnamed
  have hinitP : kP.init = .initialized := Cond.initialized_spec (findClass_of_methodNamed hnamed) hkP hinit
  obtain ⟨vm₁, X₁, hstep₁⟩ := X.invokestatic hexec hown hlink hnamed hmethM hstatic hkP hinitP hy (g := g) hg (argsL := argsL) (rest := rest) (hlen _ hsigM) hstack hdg
  rcases hK m meth c ⟨T.setVm vm₁, locs, cells, slots⟩ { g with stack := rest } (.invokestatic index) mk argsL.toArray X₁ hg hsize hdg hW (X₁.named hnamed) (hpre vm₁ X₁.warmed) with ⟨v, B, X', hpost, hsteps⟩ | ⟨q, B, X', hpost, hsteps⟩
  · exact Or.inl ⟨v, vm₁, B, X₁.warmed, X', hpost, fun target h => hstep₁ _ fun acts => by rw [doInvoke_state]; exact hsteps.trans h⟩
  · exact Or.inr ⟨q, vm₁, B, X₁.warmed, X', hpost, hstep₁ _ fun acts => by rw [doInvoke_state]; exact hsteps⟩
end Calls
theorem vx_cls {s : State} {T : State} {vm₁ : Vm} {E : String} {k : ClassId} (hW : s.WarmedH vm₁) (h : (T.setVm vm₁).vm.findClass E = some k) : s.vm.findClass E = some k := by
  have h1 : vm₁.findClass E = some k := h
  rw [hW.alike.findClass] at h1
  exact h1
/-- the method's frame g, with q thrown over it -/
def vx_W (p : Program) (l : Launch) (e : Env) (R : Room) (s : State) (m : MethodId) (args : Array Value) (below : List Frame) (meth : Method) (c : Code) (H : Heap) (locs : List Loc) (cells slots : Nat) (Q : State → Prop) (g : JFrame) (q : Addr) : Prop :=
  ∀ T : State, T.heap = H → Stand p l e R s m args below meth c T locs cells slots → ∃ t, Steps p.tables e below ((T.setTop g).pushFrame (.throwing q)) t ∧ Q t
def vx_Run (p : Program) (l : Launch) (e : Env) (R : Room) (s : State) (m : MethodId) (args : Array Value) (below : List Frame) (meth : Method) (c : Code) (H : Heap) (locs : List Loc) (cells slots mc ms : Nat) (g : JFrame) (rest : List Value) (Qa : State → Outcome → State → Prop) (XC : String → State → State → Prop) (free : Addr → Prop) : Prop :=
  ∀ T : State, T.heap = H → Stand p l e R s m args below meth c T locs cells slots →
    (∃ (v : Option Value) (st₀ t T' : State) (L : List Loc), st₀.heap = H ∧ Stand p l e R s m args below meth c T' (locs ++ L) (cells + mc) (slots + ms) ∧ (∀ q ∈ L, free q.base) ∧ T'.heap = t.heap ∧ T'.vm = t.vm ∧ Qa st₀ (.returned v) t ∧
      Goes p e below T g T' { g with pc := g.pc + 3, stack := v.toList ++ rest }) ∨
    (∃ (q : Addr) (st₀ t T' : State) (L : List Loc) (E : String) (ce : Cell), st₀.heap = H ∧ Stand p l e R s m args below meth c T' (locs ++ L) (cells + mc) (slots + ms) ∧ (∀ z ∈ L, free z.base) ∧ T'.heap = t.heap ∧ T'.vm = t.vm ∧ XC E st₀ t ∧ t.heap[q]? = some ce ∧ ce.vm = .none ∧ s.vm.findClass E = some ce.cls ∧
      Steps p.tables e below (T.setTop g) ((T'.setTop { g with stack := rest }).pushFrame (.throwing q)))
def vx_X {S : Type} (px : S → Prop) (B : String → S → State → Prop) (A : Nat → Prop) : String → State → State → Prop := fun E st t => ∃ u : S, px u ∧ B E u t ∧ va_F A st t
section Runs
variable {p : Program} {l : Launch} {e : Env} {R : Room} {s : State} {m : MethodId} {args : Array Value} {below : List Frame} {meth : Method} {c : Code} {H : Heap} {locs : List Loc} {cells slots : Nat}
variable {y : MethodName} {bytes cc : ByteArray} {maxL nL mc ms n index : Nat} {ret : Option FieldType} {ws : List Cond} {rm : Room} {Pc : Array Value → State → Prop} {Qc : Array Value → State → Outcome → State → Prop} {XC : String → State → State → Prop} {free : Addr → Prop} {Ts : List Cond} {own C : String} {b : Addr} {As rest : List Value} {g : JFrame}
theorem vx_callBack (cb : CallB R s args own index y bytes maxL ret ws rm mc ms n) (hM : vx_Met l y ws rm Pc Qc XC mc ms free) (hbl : FrameBlind Pc) : vx_Back l R p e below s args y 3 8 (PreOf R mc ms Pc) (PostOf Qc mc ms free) (vx_Post XC mc ms free) := by
  obtain ⟨hrc, hrs, hfr, hlo, hws, hcw, -, hini, -⟩ := cb
  exact vx_back (bytes := bytes) (maxL := maxL) (ret := ret) hM hbl hrc hrs hfr hlo hws hcw (fun a' U hW => word_at hW (Or.inl (by first | rfl | simp [Cond.onTables, Cond.keeps, Cond.steady])) hini)
theorem vx_runV (S : CallFix p m c cc nL s args Ts own) (hM : vx_Met l y ws rm Pc Qc XC mc ms free) (cw : CallW R s args own C index y bytes maxL ret ws rm mc ms n) (hp : PreV s H C b Pc As)
    (hg : g.method = m) (hn : As.length = n) (hsize : g.locals.size = nL) (hstack : g.stack = As.reverse ++ .ref b :: rest) (hW : 2 * g.monitorRoom + (rest.map fun v => v.category).sum ≤ 8) (hdg : decode cc g.pc = .ok (.invokevirtual index, 3)) (hf : cells + mc ≤ R.cells ∧ slots + ms ≤ R.slots) :
    vx_Run p l e R s m args below meth c H locs cells slots mc ms g rest (Qc (Value.ref b :: As).toArray) XC free := by
  have hK : vx_Back l R p e below s args y 3 8 (PreOf R mc ms Pc) (PostOf Qc mc ms free) (vx_Post XC mc ms free) := vx_callBack cw.1 hM hp.1
  obtain ⟨⟨-, -, -, -, -, -, hcode, -, hy, hlen, hl⟩, hin, hse⟩ := cw
  obtain ⟨hx, hb, hml, ho, -⟩ := S
  obtain ⟨-, ⟨cellB, hcB, hoB, hclB⟩, hPc⟩ := hp
  intro T hT X
  rcases vx_callV X hx (C := C) (bytes := bytes) (maxL := maxL) (ret := ret) ho hl hin hse hcode hy hK (by rw [hT]; exact hcB) hoB hclB hg (hsize.trans hml.symm) (argsL := As) (rest := rest) (fun sig h => hn.trans (hlen sig h)) hstack hW (by rw [hb]; exact hdg)
    (fun vm₁ hW₁ => ⟨hf.1, hf.2, hPc (T.setVm vm₁) hT hW₁⟩) with ⟨v, vm₁, ⟨U', l2, c2, s2⟩, hW₁, X', ⟨g', mk, t, L, e1, e2, hq, h1, hL, h2, h3⟩, st⟩ | ⟨q, vm₁, ⟨U', l2, c2, s2⟩, hW₁, X', ⟨g', mk, t, L, E, ce, e1, e2, hq, hce, hcv, hcl, h1, hL, h2, h3⟩, st⟩
  · dsimp only [Pt.U, Pt.locs, Pt.cells, Pt.slots] at X' e1 e2 h1 h2 h3 st
    subst h1; subst h2; subst h3
    exact Or.inl ⟨v, (T.setVm vm₁).calling g' mk (Value.ref b :: As).toArray, t, U', L, hT, X', hL, e1, e2, hq, st⟩
  · dsimp only [Pt.U, Pt.locs, Pt.cells, Pt.slots] at X' e1 e2 h1 h2 h3 st hcl
    subst h1; subst h2; subst h3
    exact Or.inr ⟨q, (T.setVm vm₁).calling g' mk (Value.ref b :: As).toArray, t, U', L, E, ce, hT, X', hL, e1, e2, hq, hce, hcv, vx_cls hW₁ hcl, st⟩
theorem vx_runS (S : CallFix p m c cc nL s args Ts own) (hM : vx_Met l y ws rm Pc Qc XC mc ms free) (cw : CallB R s args own index y bytes maxL ret ws rm mc ms n ∧ (Cond.static y).before args s = true) (hp : PreS s H Pc As)
    (hg : g.method = m) (hn : As.length = n) (hsize : g.locals.size = nL) (hstack : g.stack = As.reverse ++ rest) (hW : 2 * g.monitorRoom + (rest.map fun v => v.category).sum ≤ 8) (hdg : decode cc g.pc = .ok (.invokestatic index, 3)) (hf : cells + mc ≤ R.cells ∧ slots + ms ≤ R.slots) :
    vx_Run p l e R s m args below meth c H locs cells slots mc ms g rest (Qc As.toArray) XC free := by
  have hK : vx_Back l R p e below s args y 3 8 (PreOf R mc ms Pc) (PostOf Qc mc ms free) (vx_Post XC mc ms free) := vx_callBack cw.1 hM hp.1
  obtain ⟨⟨-, -, -, -, -, -, hcode, hini, hy, hlen, hl⟩, hstt⟩ := cw
  obtain ⟨hx, hb, hml, ho, -⟩ := S
  intro T hT X
  rcases vx_callS X hx (bytes := bytes) (maxL := maxL) (ret := ret) ho hl hstt hini hcode hy hK hg (hsize.trans hml.symm) (argsL := As) (rest := rest) (fun sig h => hn.trans (hlen sig h)) hstack hW (by rw [hb]; exact hdg)
    (fun vm₁ hW₁ => ⟨hf.1, hf.2, hp.2 (T.setVm vm₁) hT hW₁⟩) with ⟨v, vm₁, ⟨U', l2, c2, s2⟩, hW₁, X', ⟨g', mk, t, L, e1, e2, hq, h1, hL, h2, h3⟩, st⟩ | ⟨q, vm₁, ⟨U', l2, c2, s2⟩, hW₁, X', ⟨g', mk, t, L, E, ce, e1, e2, hq, hce, hcv, hcl, h1, hL, h2, h3⟩, st⟩
  · dsimp only [Pt.U, Pt.locs, Pt.cells, Pt.slots] at X' e1 e2 h1 h2 h3 st
    subst h1; subst h2; subst h3
    exact Or.inl ⟨v, (T.setVm vm₁).calling g' mk As.toArray, t, U', L, hT, X', hL, e1, e2, hq, st⟩
  · dsimp only [Pt.U, Pt.locs, Pt.cells, Pt.slots] at X' e1 e2 h1 h2 h3 st hcl
    subst h1; subst h2; subst h3
    exact Or.inr ⟨q, (T.setVm vm₁).calling g' mk As.toArray, t, U', L, E, ce, hT, X', hL, e1, e2, hq, hce, hcv, vx_cls hW₁ hcl, st⟩
end Runs
section Rows
variable {p : Program} {l : Launch} {e : Env} {R : Room} {s : State} {m : MethodId} {args : Array Value} {below : List Frame} {meth : Method} {c : Code} {H : Heap} {locs : List Loc} {cells slots : Nat} {Q : State → Prop}
variable {mc ms : Nat} {free : Addr → Prop} {A0 A1 : Nat → Prop} {H0 : Heap} {a : Array Value} {pc : Nat} {ls : Array Slot} {st0 rest : List Value}
theorem vx_keep {st₀ t T' : State} {L : List Loc} (h0 : st₀.heap = H) (e1 : T'.heap = t.heap) (hS : va_S A0 H0 H locs) (hA : ∀ q, q < H.size → A1 q → A0 q) (hf : ∀ q, free q → A0 q) (hL : ∀ q ∈ L, free q.base) (hF : va_F A1 st₀ t) :
    H.size ≤ T'.heap.size ∧ (∀ q : Nat, q < H.size → ¬ A1 q → T'.heap[q]? = H[q]?) ∧ va_S A0 H0 T'.heap (locs ++ L) := by
  obtain ⟨hz, hk⟩ := hF
  rw [h0] at hz hk
  exact ⟨by rw [e1]; exact hz, fun q h1 h2 => by rw [e1]; exact hk q h1 h2,
    ⟨Nat.le_trans hS.1 (by rw [e1]; exact hz), fun q h1 h2 => by rw [e1, hk q (Nat.lt_of_lt_of_le h1 hS.1) (fun z => h2 (hA q (Nat.lt_of_lt_of_le h1 hS.1) z))]; exact hS.2.1 q h1 h2, fun q hq => by
      rcases List.mem_append.mp hq with h | h
      · exact hS.2.2 q h
      · exact hf _ (hL q h)⟩⟩
theorem vx_calli {S SX : Type} {post : Int32 → S → Prop} {px : SX → Prop} {B : S → State → Prop} {BX : String → SX → State → Prop} {AX : Nat → Prop} (hr : vx_Run p l e R s m args below meth c H locs cells slots mc ms (F0 m pc ls st0) rest (va_Qi post B A1 a) (vx_X px BX AX) free) (hS : va_S A0 H0 H locs) (hA : ∀ q, q < H.size → A1 q → A0 q) (hf : ∀ q, free q → A0 q) (hAX : ∀ q, q < H.size → AX q → A0 q)
    (kx : ∀ (E : String) (ce : Cell) (q9 : Addr) (u : SX) (t : State) (H1 : Heap) (locs1 : List Loc), t.heap = H1 → s.vm.Alike t.vm → px u → BX E u t → H.size ≤ H1.size → (∀ q : Nat, q < H.size → ¬ AX q → H1[q]? = H[q]?) → va_S A0 H0 H1 locs1 → H1[q9]? = some ce → ce.vm = .none → s.vm.findClass E = some ce.cls → vx_W p l e R s m args below meth c H1 locs1 (cells + mc) (slots + ms) Q (F0 m pc ls rest) q9)
    (kk : ∀ (r : Int32) (u : S) (t : State) (H1 : Heap) (locs1 : List Loc), t.heap = H1 → s.vm.Alike t.vm → post r u → B u t → H.size ≤ H1.size → (∀ q : Nat, q < H.size → ¬ A1 q → H1[q]? = H[q]?) → va_S A0 H0 H1 locs1 → W p l e R s m args below meth c H1 locs1 (cells + mc) (slots + ms) Q (F0 m (pc + 3) ls (.int r :: rest))) : W p l e R s m args below meth c H locs cells slots Q (F0 m pc ls st0) := by
  intro T hT X
  rcases hr T hT X with ⟨v, st₀, t, T', L, h0, X', hL, e1, e2, ⟨⟨r, u, hv, hp, hb⟩, hF⟩, st⟩ | ⟨q, st₀, t, T', L, E, ce, h0, X', hL, e1, e2, ⟨u, hp, hb, hF⟩, hce, hcv, hcl, st⟩
  · cases hv
    obtain ⟨k1, k2, k3⟩ := vx_keep h0 e1 hS hA hf hL hF
    obtain ⟨t2, a1, b1⟩ := kk r u t T'.heap (locs ++ L) e1.symm (by rw [← e2]; exact X'.warmed.alike) hp hb k1 k2 k3 T' rfl X'
    exact ⟨t2, st t2 a1, b1⟩
  · obtain ⟨k1, k2, k3⟩ := vx_keep h0 e1 hS hAX hf hL hF
    obtain ⟨t2, a1, b1⟩ := kx E ce q u t T'.heap (locs ++ L) e1.symm (by rw [← e2]; exact X'.warmed.alike) hp hb k1 k2 k3 (by rw [e1]; exact hce) hcv hcl T' rfl X'
    exact ⟨t2, st.trans a1, b1⟩
theorem vx_calll {S SX : Type} {post : Int64 → S → Prop} {px : SX → Prop} {B : S → State → Prop} {BX : String → SX → State → Prop} {AX : Nat → Prop} (hr : vx_Run p l e R s m args below meth c H locs cells slots mc ms (F0 m pc ls st0) rest (va_Ql post B A1 a) (vx_X px BX AX) free) (hS : va_S A0 H0 H locs) (hA : ∀ q, q < H.size → A1 q → A0 q) (hf : ∀ q, free q → A0 q) (hAX : ∀ q, q < H.size → AX q → A0 q)
    (kx : ∀ (E : String) (ce : Cell) (q9 : Addr) (u : SX) (t : State) (H1 : Heap) (locs1 : List Loc), t.heap = H1 → s.vm.Alike t.vm → px u → BX E u t → H.size ≤ H1.size → (∀ q : Nat, q < H.size → ¬ AX q → H1[q]? = H[q]?) → va_S A0 H0 H1 locs1 → H1[q9]? = some ce → ce.vm = .none → s.vm.findClass E = some ce.cls → vx_W p l e R s m args below meth c H1 locs1 (cells + mc) (slots + ms) Q (F0 m pc ls rest) q9)
    (kk : ∀ (r : Int64) (u : S) (t : State) (H1 : Heap) (locs1 : List Loc), t.heap = H1 → s.vm.Alike t.vm → post r u → B u t → H.size ≤ H1.size → (∀ q : Nat, q < H.size → ¬ A1 q → H1[q]? = H[q]?) → va_S A0 H0 H1 locs1 → W p l e R s m args below meth c H1 locs1 (cells + mc) (slots + ms) Q (F0 m (pc + 3) ls (.long r :: rest))) : W p l e R s m args below meth c H locs cells slots Q (F0 m pc ls st0) := by
  intro T hT X
  rcases hr T hT X with ⟨v, st₀, t, T', L, h0, X', hL, e1, e2, ⟨⟨r, u, hv, hp, hb⟩, hF⟩, st⟩ | ⟨q, st₀, t, T', L, E, ce, h0, X', hL, e1, e2, ⟨u, hp, hb, hF⟩, hce, hcv, hcl, st⟩
  · cases hv
    obtain ⟨k1, k2, k3⟩ := vx_keep h0 e1 hS hA hf hL hF
    obtain ⟨t2, a1, b1⟩ := kk r u t T'.heap (locs ++ L) e1.symm (by rw [← e2]; exact X'.warmed.alike) hp hb k1 k2 k3 T' rfl X'
    exact ⟨t2, st t2 a1, b1⟩
  · obtain ⟨k1, k2, k3⟩ := vx_keep h0 e1 hS hAX hf hL hF
    obtain ⟨t2, a1, b1⟩ := kx E ce q u t T'.heap (locs ++ L) e1.symm (by rw [← e2]; exact X'.warmed.alike) hp hb k1 k2 k3 (by rw [e1]; exact hce) hcv hcl T' rfl X'
    exact ⟨t2, st.trans a1, b1⟩
theorem vx_callf {S SX : Type} {post : UInt32 → S → Prop} {px : SX → Prop} {B : S → State → Prop} {BX : String → SX → State → Prop} {AX : Nat → Prop} (hr : vx_Run p l e R s m args below meth c H locs cells slots mc ms (F0 m pc ls st0) rest (va_Qf post B A1 a) (vx_X px BX AX) free) (hS : va_S A0 H0 H locs) (hA : ∀ q, q < H.size → A1 q → A0 q) (hf : ∀ q, free q → A0 q) (hAX : ∀ q, q < H.size → AX q → A0 q)
    (kx : ∀ (E : String) (ce : Cell) (q9 : Addr) (u : SX) (t : State) (H1 : Heap) (locs1 : List Loc), t.heap = H1 → s.vm.Alike t.vm → px u → BX E u t → H.size ≤ H1.size → (∀ q : Nat, q < H.size → ¬ AX q → H1[q]? = H[q]?) → va_S A0 H0 H1 locs1 → H1[q9]? = some ce → ce.vm = .none → s.vm.findClass E = some ce.cls → vx_W p l e R s m args below meth c H1 locs1 (cells + mc) (slots + ms) Q (F0 m pc ls rest) q9)
    (kk : ∀ (r : UInt32) (u : S) (t : State) (H1 : Heap) (locs1 : List Loc), t.heap = H1 → s.vm.Alike t.vm → post r u → B u t → H.size ≤ H1.size → (∀ q : Nat, q < H.size → ¬ A1 q → H1[q]? = H[q]?) → va_S A0 H0 H1 locs1 → W p l e R s m args below meth c H1 locs1 (cells + mc) (slots + ms) Q (F0 m (pc + 3) ls (.float r :: rest))) : W p l e R s m args below meth c H locs cells slots Q (F0 m pc ls st0) := by
  intro T hT X
  rcases hr T hT X with ⟨v, st₀, t, T', L, h0, X', hL, e1, e2, ⟨⟨r, u, hv, hp, hb⟩, hF⟩, st⟩ | ⟨q, st₀, t, T', L, E, ce, h0, X', hL, e1, e2, ⟨u, hp, hb, hF⟩, hce, hcv, hcl, st⟩
  · cases hv
    obtain ⟨k1, k2, k3⟩ := vx_keep h0 e1 hS hA hf hL hF
    obtain ⟨t2, a1, b1⟩ := kk r u t T'.heap (locs ++ L) e1.symm (by rw [← e2]; exact X'.warmed.alike) hp hb k1 k2 k3 T' rfl X'
    exact ⟨t2, st t2 a1, b1⟩
  · obtain ⟨k1, k2, k3⟩ := vx_keep h0 e1 hS hAX hf hL hF
    obtain ⟨t2, a1, b1⟩ := kx E ce q u t T'.heap (locs ++ L) e1.symm (by rw [← e2]; exact X'.warmed.alike) hp hb k1 k2 k3 (by rw [e1]; exact hce) hcv hcl T' rfl X'
    exact ⟨t2, st.trans a1, b1⟩
theorem vx_calld {S SX : Type} {post : UInt64 → S → Prop} {px : SX → Prop} {B : S → State → Prop} {BX : String → SX → State → Prop} {AX : Nat → Prop} (hr : vx_Run p l e R s m args below meth c H locs cells slots mc ms (F0 m pc ls st0) rest (va_Qd post B A1 a) (vx_X px BX AX) free) (hS : va_S A0 H0 H locs) (hA : ∀ q, q < H.size → A1 q → A0 q) (hf : ∀ q, free q → A0 q) (hAX : ∀ q, q < H.size → AX q → A0 q)
    (kx : ∀ (E : String) (ce : Cell) (q9 : Addr) (u : SX) (t : State) (H1 : Heap) (locs1 : List Loc), t.heap = H1 → s.vm.Alike t.vm → px u → BX E u t → H.size ≤ H1.size → (∀ q : Nat, q < H.size → ¬ AX q → H1[q]? = H[q]?) → va_S A0 H0 H1 locs1 → H1[q9]? = some ce → ce.vm = .none → s.vm.findClass E = some ce.cls → vx_W p l e R s m args below meth c H1 locs1 (cells + mc) (slots + ms) Q (F0 m pc ls rest) q9)
    (kk : ∀ (r : UInt64) (u : S) (t : State) (H1 : Heap) (locs1 : List Loc), t.heap = H1 → s.vm.Alike t.vm → post r u → B u t → H.size ≤ H1.size → (∀ q : Nat, q < H.size → ¬ A1 q → H1[q]? = H[q]?) → va_S A0 H0 H1 locs1 → W p l e R s m args below meth c H1 locs1 (cells + mc) (slots + ms) Q (F0 m (pc + 3) ls (.double r :: rest))) : W p l e R s m args below meth c H locs cells slots Q (F0 m pc ls st0) := by
  intro T hT X
  rcases hr T hT X with ⟨v, st₀, t, T', L, h0, X', hL, e1, e2, ⟨⟨r, u, hv, hp, hb⟩, hF⟩, st⟩ | ⟨q, st₀, t, T', L, E, ce, h0, X', hL, e1, e2, ⟨u, hp, hb, hF⟩, hce, hcv, hcl, st⟩
  · cases hv
    obtain ⟨k1, k2, k3⟩ := vx_keep h0 e1 hS hA hf hL hF
    obtain ⟨t2, a1, b1⟩ := kk r u t T'.heap (locs ++ L) e1.symm (by rw [← e2]; exact X'.warmed.alike) hp hb k1 k2 k3 T' rfl X'
    exact ⟨t2, st t2 a1, b1⟩
  · obtain ⟨k1, k2, k3⟩ := vx_keep h0 e1 hS hAX hf hL hF
    obtain ⟨t2, a1, b1⟩ := kx E ce q u t T'.heap (locs ++ L) e1.symm (by rw [← e2]; exact X'.warmed.alike) hp hb k1 k2 k3 (by rw [e1]; exact hce) hcv hcl T' rfl X'
    exact ⟨t2, st.trans a1, b1⟩
theorem vx_callv {S SX : Type} {post : S → Prop} {px : SX → Prop} {B : S → State → Prop} {BX : String → SX → State → Prop} {AX : Nat → Prop} (hr : vx_Run p l e R s m args below meth c H locs cells slots mc ms (F0 m pc ls st0) rest (va_Qv post B A1 a) (vx_X px BX AX) free) (hS : va_S A0 H0 H locs) (hA : ∀ q, q < H.size → A1 q → A0 q) (hf : ∀ q, free q → A0 q) (hAX : ∀ q, q < H.size → AX q → A0 q)
    (kx : ∀ (E : String) (ce : Cell) (q9 : Addr) (u : SX) (t : State) (H1 : Heap) (locs1 : List Loc), t.heap = H1 → s.vm.Alike t.vm → px u → BX E u t → H.size ≤ H1.size → (∀ q : Nat, q < H.size → ¬ AX q → H1[q]? = H[q]?) → va_S A0 H0 H1 locs1 → H1[q9]? = some ce → ce.vm = .none → s.vm.findClass E = some ce.cls → vx_W p l e R s m args below meth c H1 locs1 (cells + mc) (slots + ms) Q (F0 m pc ls rest) q9)
    (kk : ∀ (u : S) (t : State) (H1 : Heap) (locs1 : List Loc), t.heap = H1 → s.vm.Alike t.vm → post u → B u t → H.size ≤ H1.size → (∀ q : Nat, q < H.size → ¬ A1 q → H1[q]? = H[q]?) → va_S A0 H0 H1 locs1 → W p l e R s m args below meth c H1 locs1 (cells + mc) (slots + ms) Q (F0 m (pc + 3) ls (rest))) : W p l e R s m args below meth c H locs cells slots Q (F0 m pc ls st0) := by
  intro T hT X
  rcases hr T hT X with ⟨v, st₀, t, T', L, h0, X', hL, e1, e2, ⟨⟨u, hv, hp, hb⟩, hF⟩, st⟩ | ⟨q, st₀, t, T', L, E, ce, h0, X', hL, e1, e2, ⟨u, hp, hb, hF⟩, hce, hcv, hcl, st⟩
  · cases hv
    obtain ⟨k1, k2, k3⟩ := vx_keep h0 e1 hS hA hf hL hF
    obtain ⟨t2, a1, b1⟩ := kk u t T'.heap (locs ++ L) e1.symm (by rw [← e2]; exact X'.warmed.alike) hp hb k1 k2 k3 T' rfl X'
    exact ⟨t2, st t2 a1, b1⟩
  · obtain ⟨k1, k2, k3⟩ := vx_keep h0 e1 hS hAX hf hL hF
    obtain ⟨t2, a1, b1⟩ := kx E ce q u t T'.heap (locs ++ L) e1.symm (by rw [← e2]; exact X'.warmed.alike) hp hb k1 k2 k3 (by rw [e1]; exact hce) hcv hcl T' rfl X'
    exact ⟨t2, st.trans a1, b1⟩
/-- caught by the row x of this method's table; the rows ahead don't take it -/
theorem vx_catch {own name : String} {E : String} {ce : Cell} {q : Addr} (hown : s.vm.findClass own = some m.cls) (pre : List ExceptionTableEntry) (x : ExceptionTableEntry) (suf : List ExceptionTableEntry) (hsplit : c.exceptionTable.toList = pre ++ x :: suf)
    (hpass : ∀ z ∈ pre, covers z pc = false ∨ (z.catchType ≠ 0 ∧ ∃ nm : String, (Cond.classLink own z.catchType nm).before args s = true ∧ va_Nc E nm s)) (hx : covers x pc = true) (h0 : x.catchType ≠ 0)
    (hlink : (Cond.classLink own x.catchType name).before args s = true) (hcast : (Cond.castable E name).before args s = true) (hcell : H[q]? = some ce) (hv : ce.vm = .none) (hcl : s.vm.findClass E = some ce.cls)
    (kk : W p l e R s m args below meth c H locs cells slots Q (F0 m x.handlerPc ls [.ref q])) : vx_W p l e R s m args below meth c H locs cells slots Q (F0 m pc ls rest) q := by
  intro T hT X
  have hpl : e.platform.magicAccessors = ({} : Platform).magicAccessors := by rw [X.admits.platform]
  obtain ⟨c3, c4, hc3, hc4, hasg⟩ := Cond.castable_spec hcast
  cases Option.some.inj (hc3.symm.trans hcl)
  obtain ⟨c5, hc5, hcl5⟩ := Cond.classLink_spec hown hlink e.platform hpl
  cases Option.some.inj (hc4.symm.trans hc5)
  obtain ⟨vm', X', st⟩ := X.thenCaughtThrough q (g := F0 m pc ls rest) rfl (Steps.refl _) (by rw [hT]; exact hcell) (by rw [hv]; rfl) (by obtain ⟨k9, h9, -⟩ := Vm.findClass_spec hcl; exact ⟨k9, h9⟩) pre x suf hsplit
    (fun z hz => by
      rcases hpass z hz with h | ⟨hz0, nm, hl1, hn1⟩
      · exact Or.inl h
      · obtain ⟨c6, hc6, hcl6⟩ := Cond.classLink_spec hown hl1 e.platform hpl
        obtain ⟨a8, b8, h1, h2, h3⟩ := hn1
        cases Option.some.inj (h1.symm.trans hcl)
        cases Option.some.inj (h2.symm.trans hc6)
        exact Or.inr ⟨hz0, _, hcl6, h3⟩) hx (Or.inr ⟨h0, c4, hcl5, hasg⟩)
  obtain ⟨t, a1, b1⟩ := kk (T.setVm vm') hT X'
  exact ⟨t, st.trans a1, b1⟩
end Rows
section Ends
variable {p : Program} {l : Launch} {e : Env} {R : Room} {s : State} {m : MethodId} {args : Array Value} {below : List Frame} {meth : Method} {c : Code} {H : Heap} {locs : List Loc} {cells slots : Nat} {Q : State → Prop}
variable {mc ms : Nat} {free : Addr → Prop} {A0 A1 : Nat → Prop} {H0 : Heap} {a : Array Value} {ls : Array Slot} {st0 rest : List Value}
variable {Qc : Array Value → State → Outcome → State → Prop} {XC : String → State → State → Prop}
/-- what a body that may throw owes at its end -/
def vx_MQ (below : List Frame) (Qc : Array Value → State → Outcome → State → Prop) (XC : String → State → State → Prop) (a : Array Value) (s : State) (mc ms : Nat) (free : Addr → Prop) : State → Prop := fun t =>
  ∃ o, t.status = .running ∧ Ended t below o ∧ vx_Q Qc XC mc ms free a s o t
theorem vx_ret {g : JFrame} {mc ms : Nat} (k : W p l e R s m args below meth c H locs cells slots (MQ below Qc args s mc ms free) g) : W p l e R s m args below meth c H locs cells slots (vx_MQ below Qc XC args s mc ms free) g := by
  intro T hT X
  obtain ⟨t, a1, o, b1, b2, b3, b4⟩ := k T hT X
  exact ⟨t, a1, o, b1, b2, Or.inl ⟨b3, b4⟩⟩
/-- not caught here: it goes on to the caller -/
theorem vx_widen {g : JFrame} {q : Addr} {k n : Nat} (h1 : cells ≤ k) (h2 : slots ≤ n) (kk : vx_W p l e R s m args below meth c H locs k n Q g q) : vx_W p l e R s m args below meth c H locs cells slots Q g q := fun T hT X => kk T hT (stand_widen X h1 h2)
theorem vx_out {pc : Nat} {E : String} {ce : Cell} {q : Addr} {mc ms : Nat} (hout : ∀ x ∈ c.exceptionTable.toList, covers x pc = false) (hlocks : meth.locks = false) (hcell : H[q]? = some ce) (hv : ce.vm = .none) (hcl : s.vm.findClass E = some ce.cls)
    (hx : ∀ t : State, t.heap = H → s.vm.Alike t.vm → XC E s t) (hf : ∀ z ∈ locs, free z.base) (hc : cells ≤ mc) (hs : slots ≤ ms) :
    vx_W p l e R s m args below meth c H locs cells slots (vx_MQ below Qc XC args s mc ms free) (F0 m pc ls rest) q := by
  intro T hT X
  obtain ⟨st1, hrun, hend, hW, hsm⟩ := X.leaveThrown q (g := F0 m pc ls rest) rfl rfl rfl hout hlocks
  have hcell9 : (T.setFrames (.throwing q :: below)).heap[q]? = some ce := by
    show T.heap[q]? = some ce
    rw [hT]; exact hcell
  exact ⟨_, st1, .threw q, hrun, hend, Or.inr ⟨q, rfl, E, ce, locs, hx _ hT hW.alike, hcell9, hv, hcl, hW, hsm.mono hc hs, hf⟩⟩
theorem vx_frame {U : State} {k n : Nat} (h : s.sameButNew ({ U with vm := s.vm } : State) locs k n) : s.heap.size ≤ U.heap.size ∧ ∀ q : Nat, q < s.heap.size → (∀ z ∈ locs, z.base ≠ q) → U.heap[q]? = s.heap[q]? := by
  obtain ⟨-, h2, -, -, -, h6⟩ := h
  refine ⟨h2, fun q hq hz => ?_⟩
  obtain ⟨c9, e1, e2, e3, e4⟩ := h6 q _ (Array.getElem?_eq_getElem hq)
  have hs : c9.slots = (s.heap[q]).slots := Array.ext_getElem? fun i => e4 i fun hm => hz _ hm rfl
  have h9 : c9 = s.heap[q] := by
    rw [hs] at e2
    exact e2
  have e5 : U.heap[q]? = some c9 := e1
  rw [e5, h9, Array.getElem?_eq_getElem hq]
/-- the words of a throw but the four that speak of the heap -/
def vx_no (w : Cond) : Bool := decide (w ≠ .isRef (.static Bundle.tN "UNASSIGNED_STACK" Bundle.steD)) && decide (w ≠ .isRef (.static Bundle.tN "SUPPRESSED_SENTINEL" Bundle.listD)) && decide (w ≠ .laysStatic Bundle.tN "UNASSIGNED_STACK" Bundle.steD) && decide (w ≠ .laysStatic Bundle.tN "SUPPRESSED_SENTINEL" Bundle.listD)
def vx_at0 (own : String) (ic : Nat) (X : String) (names : List String) : List Cond := (Bundle.ownAtoms0 own ic X names).filter vx_no
def vx_atS (own : String) (ic : Nat) (X : String) (names : List String) : List Cond := (Bundle.ownAtoms own ic X names).filter vx_no
/-- a word that the tables alone decide, or a good one -/
def vx_ot (w : Cond) : Bool := w.onTables || goodWord w
theorem vx_ot_at {args a' : Array Value} {s U : State} {w : Cond} (hW : s.WarmedH U.vm) (hvm : s.vm = U.vm) (hg : vx_ot w = true) (h : w.before args s = true) : w.before a' U = true := by
  simp only [vx_ot, Bool.or_eq_true] at hg
  rcases hg with hg | hg
  · exact va_tabs hg hvm h
  · exact word_at hW (good_of_word hg) h
/-- a list's words: the good ones out of the method's own list, the others by premises of their own -/
theorem vx_hat {args : Array Value} {s : State} {L B : List Cond} (h1 : ∀ w ∈ L.filter goodWord, w.before args s = true) (h2 : ∀ w ∈ L.filter (fun w => !goodWord w), w ∈ B) (h3 : ∀ w ∈ B, w.before args s = true) : ∀ w ∈ L, w.before args s = true := by
  intro w hw
  by_cases g : goodWord w = true
  · exact h1 w (List.mem_filter.mpr ⟨hw, g⟩)
  · refine h3 w (h2 w (List.mem_filter.mpr ⟨hw, ?_⟩))
    show (!goodWord w) = true
    cases hgw : goodWord w
    · rfl
    · exact absurd hgw g
theorem vx_c {args : Array Value} {s : State} {w : Cond} {B : List Cond} (h : w.before args s = true) (t : ∀ w ∈ B, w.before args s = true) : ∀ w' ∈ w :: B, w'.before args s = true := fun w' h' => (List.mem_cons.mp h').elim (fun e => by rw [e]; exact h) (t w')
theorem vx_n {args : Array Value} {s : State} : ∀ w ∈ ([] : List Cond), w.before args s = true := fun _ h => nomatch h
theorem vx_own {args : Array Value} {s : State} {L : List Cond} (h1 : ∀ w ∈ L.filter vx_no, w.before args s = true)
    (hU : (Cond.isRef (.static Bundle.tN "UNASSIGNED_STACK" Bundle.steD)).before args s = true) (hN : (Cond.isRef (.static Bundle.tN "SUPPRESSED_SENTINEL" Bundle.listD)).before args s = true)
    (lU : (Cond.laysStatic Bundle.tN "UNASSIGNED_STACK" Bundle.steD).before args s = true) (lN : (Cond.laysStatic Bundle.tN "SUPPRESSED_SENTINEL" Bundle.listD).before args s = true) : ∀ w ∈ L, w.before args s = true := by
  intro w hw
  by_cases e1 : w = .isRef (.static Bundle.tN "UNASSIGNED_STACK" Bundle.steD)
  · rw [e1]; exact hU
  · by_cases e2 : w = .isRef (.static Bundle.tN "SUPPRESSED_SENTINEL" Bundle.listD)
    · rw [e2]; exact hN
    · by_cases e3 : w = .laysStatic Bundle.tN "UNASSIGNED_STACK" Bundle.steD
      · rw [e3]; exact lU
      · by_cases e4 : w = .laysStatic Bundle.tN "SUPPRESSED_SENTINEL" Bundle.listD
        · rw [e4]; exact lN
        · exact h1 w (List.mem_filter.mpr ⟨hw, by unfold vx_no; rw [decide_eq_true e1, decide_eq_true e2, decide_eq_true e3, decide_eq_true e4]; rfl⟩)
/-- where a static field lies, its class's statics cell in H -/
def vx_L (C n d : String) (A : Nat → Prop) (U : State) (H : Heap) : Prop := ∃ (c : ClassId) (k : Class) (i : Nat) (f : Field) (a : Nat) (cell : Cell), U.vm.findClass C = some c ∧ U.fieldFound? C n d = some (c, k, i, f) ∧ f.isStatic = true ∧ k.statics = some a ∧ H[a]? = some cell ∧ cell.vm.isStatics = true ∧ cell.cls = c ∧ f.slot < cell.slots.size ∧ k.staticTypes[f.slot]? = some f.type ∧ ¬ A a
theorem vx_L.moved {C n d : String} {A : Nat → Prop} {u U : State} {H : Heap} (hvm : u.vm.Alike U.vm) (h : vx_L C n d A u H) : vx_L C n d A U H := by
  obtain ⟨c, k, i, f, a, cell, h1, h2, h3, h4, h5, h6, h7, h8, h9, h10⟩ := h
  obtain ⟨k', hi', he⟩ := State.fieldFound?_setVm hvm h2
  exact ⟨c, k', i, f, a, cell, by rw [hvm.findClass]; exact h1, hi', h3, by rw [he]; exact h4, h5, h6, h7, h8, by rw [he]; exact h9, h10⟩
theorem vx_L.kept {C n d : String} {A : Nat → Prop} {U : State} {H H1 : Heap} (h : vx_L C n d A U H) (hq : ∀ a : Nat, a < H.size → ¬ A a → H1[a]? = H[a]?) : vx_L C n d A U H1 := by
  obtain ⟨c, k, i, f, a, cell, h1, h2, h3, h4, h5, h6, h7, h8, h9, h10⟩ := h
  exact ⟨c, k, i, f, a, cell, h1, h2, h3, h4, by rw [hq a (Array.getElem?_eq_some_iff.mp h5).1 h10]; exact h5, h6, h7, h8, h9, h10⟩
theorem vx_L.narrow {C n d : String} {A B : Nat → Prop} {U : State} {H : Heap} (h : vx_L C n d A U H) (hAB : ∀ q, B q → A q) : vx_L C n d B U H := by
  obtain ⟨c, k, i, f, a, cell, h1, h2, h3, h4, h5, h6, h7, h8, h9, h10⟩ := h
  exact ⟨c, k, i, f, a, cell, h1, h2, h3, h4, h5, h6, h7, h8, h9, fun z => h10 (hAB _ z)⟩
theorem vx_L.word {C n d : String} {A : Nat → Prop} {s : State} {args : Array Value} (h : vx_L C n d A s s.heap) : (Cond.laysStatic C n d).before args s = true := by
  obtain ⟨c, k, i, f, a, cell, h1, h2, h3, h4, h5, h6, h7, h8, h9, -⟩ := h
  show (Cond.laysStatic C n d).holds args s none s [] = true
  exact Cond.laysStatic_of h1 h2 h3 h4 h5 h6 h7 h8 h9
/-- .. and what it holds: null or some reference -/
def vx_Zq (C n d : String) (A : Nat → Prop) (U : State) (H : Heap) : Prop := va_Zq C n d A U H ∧ vx_L C n d A U H
theorem vx_Zq.moved {C n d : String} {A : Nat → Prop} {u U : State} {H : Heap} (hvm : u.vm.Alike U.vm) (h : vx_Zq C n d A u H) : vx_Zq C n d A U H := ⟨va_Zq.moved hvm h.1, vx_L.moved hvm h.2⟩
theorem vx_Zq.kept {C n d : String} {A : Nat → Prop} {U : State} {H H1 : Heap} (h : vx_Zq C n d A U H) (hq : ∀ a : Nat, a < H.size → ¬ A a → H1[a]? = H[a]?) : vx_Zq C n d A U H1 := ⟨va_Zq.kept h.1 hq, vx_L.kept h.2 hq⟩
theorem vx_Zq.narrow {C n d : String} {A B : Nat → Prop} {U : State} {H : Heap} (h : vx_Zq C n d A U H) (hAB : ∀ q, B q → A q) : vx_Zq C n d B U H := ⟨va_Zq.narrow h.1 hAB, vx_L.narrow h.2 hAB⟩
theorem vx_Zqof {args : Array Value} {s : State} {C n d : String} {A : Nat → Prop} (hl : (Cond.laysStatic C n d).before args s = true) (hini : (Cond.initialized C).before args s = true) (h : (Cond.isRef (.static C n d)).before args s = true) (hA : ∀ a : Nat, a < s.heap.size → ¬ A a) : vx_Zq C n d A s s.heap := by
  refine ⟨va_Zqof hl hini h hA, ?_⟩
  obtain ⟨c, k, i, f, a, cell, h1, h2, h3, h4, h5, h6, h7, h8, h9⟩ := Cond.laysStatic_spec hl
  exact ⟨c, k, i, f, a, cell, h1, h2, h3, h4, h5, h6, h7, h8, h9, hA a (Array.getElem?_eq_some_iff.mp h5).1⟩
theorem vx_isRef {C n d : String} {v : Value} {A : Nat → Prop} {s : State} {args : Array Value} (h : va_Z C n d v A s s.heap) (hv : v.isRef = true) : (Cond.isRef (.static C n d)).before args s = true := by
  obtain ⟨cf, kf, fi, f, a, cell, h1, h2, h3, h4, h5, h6, h7, -⟩ := h
  have he : (Term.static C n d).eval args s none [] s = some v := by
    simp [Term.eval, State.fieldNamed?, h1, h2, h4, h5, h6, h7]
  simp only [Cond.before, Cond.holds, Cond.value, he]
  cases v <;> simp_all [Value.isRef]
theorem vx_isRefq {C n d : String} {A : Nat → Prop} {s : State} {args : Array Value} (h : va_Zq C n d A s s.heap) : (Cond.isRef (.static C n d)).before args s = true := by
  rcases h with h | ⟨t, h⟩
  · exact vx_isRef h rfl
  · exact vx_isRef h rfl
/-- the same frame, seen from here: as if the method were called anew in this heap -/
theorem vx_rebase {T : State} (X : Stand p l e R s m args below meth c T locs cells slots) {R' : Room} (hf : R'.frames ≤ R.frames) (hl : R'.locals ≤ R.locals) (hc : cells + R'.cells ≤ R.cells) (hs : slots + R'.slots ≤ R.slots) :
    Stand p l e R' ((T.setVm s.vm).setFrames (.invoking m args :: below)) m args below meth c T [] 0 0 := by
  have htop : (T.setVm s.vm).topJava?.isSome := X.here.top
  have hF : ((T.setVm s.vm).setFrames (.invoking m args :: below)).frames = .invoking m args :: below := State.frames_setFrames _ (State.cur_lt_of_top htop)
  obtain ⟨g₀, hg0⟩ := Option.isSome_iff_exists.mp htop
  obtain ⟨r, hr⟩ := State.topJava?_eq_some.mp hg0
  have hl9 : e.platform.stackLimits (T.setVm s.vm).me = e.platform.stackLimits s.me := X.limits
  have hb9 : (T.setVm s.vm).me.stackBytes = s.me.stackBytes := X.bytes
  refine ⟨X.admits, X.cas, X.clock, hF, ?_, X.hears, X.method, X.code, X.here, X.tail, X.warmed, ?_, ?_, ?_⟩
  · have h := X.room
    have hU : ((T.setVm s.vm).setFrames (.invoking m args :: below)).localsInUse = s.localsInUse := by
      rw [State.localsInUse_invoking hF (meth := meth) (c := c) X.method X.code, State.localsInUse_invoking X.frames X.method X.code]
    simp only [State.hasRoom, Bool.and_eq_true, decide_eq_true_eq] at h ⊢
    obtain ⟨⟨⟨⟨h1, h2, h3, h4, h5, h6⟩, h7⟩, h8⟩, h9⟩ := h
    rw [X.frames, List.length_cons] at h2 h3
    have q1 := X.heapSize
    have q2 := X.used
    simp only [hF, hU, List.length_cons, State.stackLimits_setFrames, State.stackBytes_setFrames, hl9, hb9]
    refine ⟨⟨⟨⟨by omega, by omega, by omega, by omega, by omega, h6⟩, ?_⟩, ?_⟩, X.book⟩
    · show T.heap.size + R'.cells ≤ e.platform.maxCells
      omega
    · show T.slotsUsed + R'.slots ≤ e.platform.maxSlots
      omega
  · rw [State.stackLimits_setFrames]; rfl
  · rw [State.stackBytes_setFrames]; rfl
  · refine ⟨?_, Nat.le_refl _, Nat.le_refl _, ?_, ?_, fun a c9 h9 => ⟨c9, h9, rfl, rfl, fun _ _ => rfl⟩⟩
    · obtain ⟨t, ht, -⟩ := State.frames_cons hr
      show T.setVm s.vm = { ((T.setVm s.vm).setFrames (.invoking m args :: below)).setFrames (T.setVm s.vm).frames with heap := T.heap, slotsUsed := T.slotsUsed }
      rw [State.setFrames_setFrames, State.setFrames_self ht]
      rfl
    · show T.slotsUsed = T.slotsUsed + ((T.heap.toList.drop T.heap.size).map (·.slots.size)).sum
      rw [List.drop_eq_nil_of_le (Nat.le_of_eq Array.length_toList)]
      rfl
    · show ((T.heap.toList.drop T.heap.size).map (·.slots.size)).sum ≤ 0
      rw [List.drop_eq_nil_of_le (Nat.le_of_eq Array.length_toList)]
      exact Nat.le_refl _
/-- 'throw new E()': new; dup; invokespecial; athrow -/
theorem vx_throw0 {cc : ByteArray} {pc : Nat} (hexec : p.tables.exec = Jvm.exec) (hb : c.code = cc) (hl : l.stackTraces = false) {own cls : String} {names : List String} {ik ic mc ms : Nat} {A : Nat → Prop}
    (hown : s.vm.findClass own = some m.cls) (hcls : Bundle.fit cls = true) (hnames : ∀ n ∈ names, Bundle.fit n = true)
    (hk : (Cond.classLink own ik cls).before args s = true) (hini : (Cond.initialized cls).before args s = true) (hat : ∀ w ∈ vx_at0 own ic cls names, w.before args s = true)
    (hgood : ∀ w ∈ Cond.classLink own ik cls :: Cond.initialized cls :: vx_at0 own ic cls names, vx_ot w = true)
    (hU : vx_Zq Bundle.tN "UNASSIGNED_STACK" Bundle.steD A s s.heap) (hN : vx_Zq Bundle.tN "SUPPRESSED_SENTINEL" Bundle.listD A s s.heap) (hS : va_S A s.heap H locs) (hsize : ls.size = c.maxLocals)
    (d0 : decode cc pc = .ok (.new ik, 3)) (d3 : decode cc (pc + 3) = .ok (.dup, 1)) (d4 : decode cc (pc + 4) = .ok (.invokespecial ic, 3)) (d7 : decode cc (pc + 7) = .ok (.athrow, 1))
    (hout : ∀ x ∈ c.exceptionTable.toList, covers x (pc + 7) = false)
    (hRframes : names.length + 3 < R.frames) (hRlocals : (rest.map fun v => v.category).sum + (13 * (names.length + 1) + 42) ≤ R.locals) (hRcells : cells + 1 ≤ R.cells) (hRslots : slots + 6 ≤ R.slots) (hlocks : meth.locks = false)
    (hx : ∀ t : State, s.vm.Alike t.vm → H.size ≤ t.heap.size → (∀ q : Nat, q < H.size → t.heap[q]? = H[q]?) → XC cls s t)
    (hf : ∀ z ∈ locs, free z.base) (hc : cells + 1 ≤ mc) (hs : slots + 6 ≤ ms) :
    W p l e R s m args below meth c H locs cells slots (vx_MQ below Qc XC args s mc ms free) (F0 m pc ls rest) := by
  intro T hT X
  have htr : e.platform.stackTraces = false := (show e.platform.stackTraces = l.stackTraces by rw [X.admits.platform]).trans hl
  have Y := vx_rebase X (R' := { frames := R.frames, locals := R.locals, cells := 1, slots := 6 }) (Nat.le_refl _) (Nat.le_refl _) hRcells hRslots
  obtain ⟨s', hA⟩ : ∃ z, z = (T.setVm s.vm).setFrames (.invoking m args :: below) := ⟨_, rfl⟩
  rw [← hA] at Y
  have hvm : s'.vm = s.vm := by rw [hA]; rfl
  have hhp : s'.heap = H := by rw [hA]; exact hT
  have hW0 : s.WarmedH s'.vm := by rw [hvm]; exact State.WarmedH.refl s
  have hat' : ∀ w ∈ vx_at0 own ic cls names, w.before args s' = true := fun w hw => vx_ot_at hW0 hvm.symm (hgood w (List.mem_cons_of_mem _ (List.mem_cons_of_mem _ hw))) (hat w hw)
  have hk' : (Cond.classLink own ik cls).before args s' = true := vx_ot_at hW0 hvm.symm (hgood _ List.mem_cons_self) hk
  have hini' : (Cond.initialized cls).before args s' = true := vx_ot_at hW0 hvm.symm (hgood _ (List.mem_cons_of_mem _ List.mem_cons_self)) hini
  have hU' : vx_Zq Bundle.tN "UNASSIGNED_STACK" Bundle.steD A s' s'.heap := by rw [hhp]; exact vx_Zq.moved hW0.alike (hU.kept hS.2.1)
  have hN' : vx_Zq Bundle.tN "SUPPRESSED_SENTINEL" Bundle.listD A s' s'.heap := by rw [hhp]; exact vx_Zq.moved hW0.alike (hN.kept hS.2.1)
  have h : ∀ w ∈ Bundle.ownAtoms0 own ic cls names, w.before args s' = true := vx_own hat' (vx_isRefq hU'.1) (vx_isRefq hN'.1) hU'.2.word hN'.2.word
  have hown' : s'.vm.findClass own = some m.cls := by rw [hvm]; exact hown
  have hins : (Cond.instantiable cls 6).before args s' = true := h _ (by simp [Bundle.ownAtoms0])
  obtain ⟨vm₁, cX, kX, hfX, hkX, -, -, X₁, st1⟩ := Y.newCold hexec (own := own) (C := cls) (index := ik) (n := 6) hown' hk' hins hini'
    (g := F0 m pc ls rest) rfl (by rw [hb]; exact d0) (Nat.le_refl _) (Nat.le_refl _)
  generalize hT1 : (T.setVm vm₁).pushCell { cls := cX, slots := kX.instanceTypes.map defaultValue, vm := .none } = T1 at X₁ st1
  have hcat : (Value.ref T.heap.size).category = 1 := rfl
  have hcellA : T1.heap[T.heap.size]? = some (freshCell cX kX) := by rw [← hT1]; exact State.heap_pushCell_size _ _
  have d3' : decode c.code (pc + 3) = .ok (.dup, 1) := by rw [hb]; exact d3
  obtain ⟨U, hsteps, hrun, hend, hW, hsame, ce, hce, hO⟩ := X₁.ctorThrow0 hexec htr (own := own) (cls := cls) (names := names) (ic := ic) hown' hcls hnames h (fun x hx => nomatch hx) hfX hkX hcellA (by rw [hhp, hT]; exact Nat.le_refl _)
    (g := { method := m, pc := pc + 4, locals := ls, stack := .ref T.heap.size :: .ref T.heap.size :: rest, locked := none }) rfl hsize rfl rfl (rest := rest) rfl
    (by rw [hb]; exact d4) (by rw [hb]; exact d7) hout hRframes (by simp only [List.map_cons, List.sum_cons, hcat]; omega) hlocks
  obtain ⟨f1, f2⟩ := vx_frame hsame
  rw [hhp] at f1 f2
  have hWs : s.WarmedH U.vm := State.WarmedH.trans hW0 hW
  have hcl : s.vm.findClass cls = some ce.cls := by
    have h9 := hO.cls
    rw [hvm] at h9
    exact h9
  have hall : s.sameButNew ({ U with vm := s.vm } : State) locs mc ms := by
    subst hA
    obtain ⟨e1, e2⟩ := hsame
    rw [State.setFrames_setFrames] at e1
    have h2 : (T.setVm s.vm).sameButNew ({ U with vm := s.vm } : State) [] (0 + 1) (0 + 6) := ⟨e1, e2⟩
    have h3 := X.same.trans h2
    rw [List.append_nil] at h3
    exact h3.mono hc hs
  refine ⟨U, ?_, .threw T.heap.size, hrun, hend, Or.inr ⟨T.heap.size, rfl, cls, ce, locs, hx U hWs.alike f1 (fun q hq => f2 q hq (fun z hz => nomatch hz)), hce, hO.vm, hcl, hWs, hall, hf⟩⟩
  refine st1 _ ?_
  show Steps p.tables e below (T1.setTop { method := m, pc := pc + 3, locals := ls, stack := .ref T.heap.size :: rest, locked := none }) _
  jvm_step X₁.here [X₁.here.top, hexec, d3', Value.category]
  exact hsteps
/-- 'throw new E("text")': new; dup; ldc; invokespecial; athrow -/
theorem vx_throwS {cc : ByteArray} {pc : Nat} (hexec : p.tables.exec = Jvm.exec) (hb : c.code = cc) (hl : l.stackTraces = false) {own cls text : String} {names : List String} {ik is ic mc ms sa : Nat} {A : Nat → Prop}
    (hown : s.vm.findClass own = some m.cls) (hcls : Bundle.fit cls = true) (hnames : ∀ n ∈ names, Bundle.fit n = true)
    (hk : (Cond.classLink own ik cls).before args s = true) (hini : (Cond.initialized cls).before args s = true) (hstr : vk_R own is text sa s) (hat : ∀ w ∈ vx_atS own ic cls names, w.before args s = true)
    (hgood : ∀ w ∈ Cond.classLink own ik cls :: Cond.initialized cls :: vx_atS own ic cls names, vx_ot w = true)
    (hU : vx_Zq Bundle.tN "UNASSIGNED_STACK" Bundle.steD A s s.heap) (hN : vx_Zq Bundle.tN "SUPPRESSED_SENTINEL" Bundle.listD A s s.heap) (hS : va_S A s.heap H locs) (hsize : ls.size = c.maxLocals)
    (d0 : decode cc pc = .ok (.new ik, 3)) (d3 : decode cc (pc + 3) = .ok (.dup, 1)) (d4 : decode cc (pc + 4) = .ok (.ldc is, 2)) (d6 : decode cc (pc + 6) = .ok (.invokespecial ic, 3)) (d9 : decode cc (pc + 9) = .ok (.athrow, 1))
    (hout : ∀ x ∈ c.exceptionTable.toList, covers x (pc + 9) = false)
    (hRframes : names.length + 3 < R.frames) (hRlocals : (rest.map fun v => v.category).sum + (13 * (names.length + 1) + 43) ≤ R.locals) (hRcells : cells + 1 ≤ R.cells) (hRslots : slots + 6 ≤ R.slots) (hlocks : meth.locks = false)
    (hx : ∀ t : State, s.vm.Alike t.vm → H.size ≤ t.heap.size → (∀ q : Nat, q < H.size → t.heap[q]? = H[q]?) → XC cls s t)
    (hf : ∀ z ∈ locs, free z.base) (hc : cells + 1 ≤ mc) (hs : slots + 6 ≤ ms) :
    W p l e R s m args below meth c H locs cells slots (vx_MQ below Qc XC args s mc ms free) (F0 m pc ls rest) := by
  intro T hT X
  have htr : e.platform.stackTraces = false := (show e.platform.stackTraces = l.stackTraces by rw [X.admits.platform]).trans hl
  have Y := vx_rebase X (R' := { frames := R.frames, locals := R.locals, cells := 1, slots := 6 }) (Nat.le_refl _) (Nat.le_refl _) hRcells hRslots
  obtain ⟨s', hA⟩ : ∃ z, z = (T.setVm s.vm).setFrames (.invoking m args :: below) := ⟨_, rfl⟩
  rw [← hA] at Y
  have hvm : s'.vm = s.vm := by rw [hA]; rfl
  have hhp : s'.heap = H := by rw [hA]; exact hT
  have hW0 : s.WarmedH s'.vm := by rw [hvm]; exact State.WarmedH.refl s
  have hat' : ∀ w ∈ vx_atS own ic cls names, w.before args s' = true := fun w hw => vx_ot_at hW0 hvm.symm (hgood w (List.mem_cons_of_mem _ (List.mem_cons_of_mem _ hw))) (hat w hw)
  have hk' : (Cond.classLink own ik cls).before args s' = true := vx_ot_at hW0 hvm.symm (hgood _ List.mem_cons_self) hk
  have hini' : (Cond.initialized cls).before args s' = true := vx_ot_at hW0 hvm.symm (hgood _ (List.mem_cons_of_mem _ List.mem_cons_self)) hini
  have hU' : vx_Zq Bundle.tN "UNASSIGNED_STACK" Bundle.steD A s' s'.heap := by rw [hhp]; exact vx_Zq.moved hW0.alike (hU.kept hS.2.1)
  have hN' : vx_Zq Bundle.tN "SUPPRESSED_SENTINEL" Bundle.listD A s' s'.heap := by rw [hhp]; exact vx_Zq.moved hW0.alike (hN.kept hS.2.1)
  have h : ∀ w ∈ Bundle.ownAtoms own ic cls names, w.before args s' = true := vx_own hat' (vx_isRefq hU'.1) (vx_isRefq hN'.1) hU'.2.word hN'.2.word
  have hown' : s'.vm.findClass own = some m.cls := by rw [hvm]; exact hown
  have hins : (Cond.instantiable cls 6).before args s' = true := h _ (by simp [Bundle.ownAtoms])
  obtain ⟨vm₁, cX, kX, hfX, hkX, -, -, X₁, st1⟩ := Y.newCold hexec (own := own) (C := cls) (index := ik) (n := 6) hown' hk' hins hini'
    (g := F0 m pc ls rest) rfl (by rw [hb]; exact d0) (Nat.le_refl _) (Nat.le_refl _)
  generalize hT1 : (T.setVm vm₁).pushCell { cls := cX, slots := kX.instanceTypes.map defaultValue, vm := .none } = T1 at X₁ st1
  have hcat : (Value.ref T.heap.size).category = 1 := rfl
  have hcellA : T1.heap[T.heap.size]? = some (freshCell cX kX) := by rw [← hT1]; exact State.heap_pushCell_size _ _
  have d3' : decode c.code (pc + 3) = .ok (.dup, 1) := by rw [hb]; exact d3
  have d4' : decode c.code (pc + 4) = .ok (.ldc is, 2) := by rw [hb]; exact d4
  have hstr' : vk_R own is text sa s' := vk_R.warm hW0 hstr
  obtain ⟨U, hsteps, hrun, hend, hW, hsame, ce, hce, hO⟩ := X₁.ctorThrowS hexec htr (own := own) (cls := cls) (names := names) (ic := ic) hown' hcls hnames h (fun x hx => nomatch hx) hfX hkX hcellA (by rw [hhp, hT]; exact Nat.le_refl _) (msg := .ref sa) rfl
    (g := { method := m, pc := pc + 6, locals := ls, stack := .ref sa :: .ref T.heap.size :: .ref T.heap.size :: rest, locked := none }) rfl hsize rfl rfl (rest := rest) rfl
    (by rw [hb]; exact d6) (by rw [hb]; exact d9) hout hRframes (by simp only [List.map_cons, List.sum_cons, hcat]; omega) hlocks
  obtain ⟨f1, f2⟩ := vx_frame hsame
  rw [hhp] at f1 f2
  have hWs : s.WarmedH U.vm := State.WarmedH.trans hW0 hW
  have hcl : s.vm.findClass cls = some ce.cls := by
    have h9 := hO.cls
    rw [hvm] at h9
    exact h9
  have hall : s.sameButNew ({ U with vm := s.vm } : State) locs mc ms := by
    subst hA
    obtain ⟨e1, e2⟩ := hsame
    rw [State.setFrames_setFrames] at e1
    have h2 : (T.setVm s.vm).sameButNew ({ U with vm := s.vm } : State) [] (0 + 1) (0 + 6) := ⟨e1, e2⟩
    have h3 := X.same.trans h2
    rw [List.append_nil] at h3
    exact h3.mono hc hs
  refine ⟨U, ?_, .threw T.heap.size, hrun, hend, Or.inr ⟨T.heap.size, rfl, cls, ce, locs, hx U hWs.alike f1 (fun q hq => f2 q hq (fun z hz => nomatch hz)), hce, hO.vm, hcl, hWs, hall, hf⟩⟩
  refine st1 _ ?_
  show Steps p.tables e below (T1.setTop { method := m, pc := pc + 3, locals := ls, stack := .ref T.heap.size :: rest, locked := none }) _
  jvm_step X₁.here [X₁.here.top, hexec, d3', Value.category]
  exact X₁.ldcString hexec (own := own) (text := text) (index := is) (a := sa) hown' hstr'.1 hstr'.2
    (g := { method := m, pc := pc + 4, locals := ls, stack := .ref T.heap.size :: .ref T.heap.size :: rest, locked := none }) rfl d4' _ hsteps
/-- 'throw new E("text")', the text by a wide index -/
theorem vx_throwSW {cc : ByteArray} {pc : Nat} (hexec : p.tables.exec = Jvm.exec) (hb : c.code = cc) (hl : l.stackTraces = false) {own cls text : String} {names : List String} {ik is ic mc ms sa : Nat} {A : Nat → Prop}
    (hown : s.vm.findClass own = some m.cls) (hcls : Bundle.fit cls = true) (hnames : ∀ n ∈ names, Bundle.fit n = true)
    (hk : (Cond.classLink own ik cls).before args s = true) (hini : (Cond.initialized cls).before args s = true) (hstr : vk_R own is text sa s) (hat : ∀ w ∈ vx_atS own ic cls names, w.before args s = true)
    (hgood : ∀ w ∈ Cond.classLink own ik cls :: Cond.initialized cls :: vx_atS own ic cls names, vx_ot w = true)
    (hU : vx_Zq Bundle.tN "UNASSIGNED_STACK" Bundle.steD A s s.heap) (hN : vx_Zq Bundle.tN "SUPPRESSED_SENTINEL" Bundle.listD A s s.heap) (hS : va_S A s.heap H locs) (hsize : ls.size = c.maxLocals)
    (d0 : decode cc pc = .ok (.new ik, 3)) (d3 : decode cc (pc + 3) = .ok (.dup, 1)) (d4 : decode cc (pc + 4) = .ok (.ldc_w is, 3)) (d7 : decode cc (pc + 7) = .ok (.invokespecial ic, 3)) (d10 : decode cc (pc + 10) = .ok (.athrow, 1))
    (hout : ∀ x ∈ c.exceptionTable.toList, covers x (pc + 10) = false)
    (hRframes : names.length + 3 < R.frames) (hRlocals : (rest.map fun v => v.category).sum + (13 * (names.length + 1) + 43) ≤ R.locals) (hRcells : cells + 1 ≤ R.cells) (hRslots : slots + 6 ≤ R.slots) (hlocks : meth.locks = false)
    (hx : ∀ t : State, s.vm.Alike t.vm → H.size ≤ t.heap.size → (∀ q : Nat, q < H.size → t.heap[q]? = H[q]?) → XC cls s t)
    (hf : ∀ z ∈ locs, free z.base) (hc : cells + 1 ≤ mc) (hs : slots + 6 ≤ ms) :
    W p l e R s m args below meth c H locs cells slots (vx_MQ below Qc XC args s mc ms free) (F0 m pc ls rest) := by
  intro T hT X
  have htr : e.platform.stackTraces = false := (show e.platform.stackTraces = l.stackTraces by rw [X.admits.platform]).trans hl
  have Y := vx_rebase X (R' := { frames := R.frames, locals := R.locals, cells := 1, slots := 6 }) (Nat.le_refl _) (Nat.le_refl _) hRcells hRslots
  obtain ⟨s', hA⟩ : ∃ z, z = (T.setVm s.vm).setFrames (.invoking m args :: below) := ⟨_, rfl⟩
  rw [← hA] at Y
  have hvm : s'.vm = s.vm := by rw [hA]; rfl
  have hhp : s'.heap = H := by rw [hA]; exact hT
  have hW0 : s.WarmedH s'.vm := by rw [hvm]; exact State.WarmedH.refl s
  have hat' : ∀ w ∈ vx_atS own ic cls names, w.before args s' = true := fun w hw => vx_ot_at hW0 hvm.symm (hgood w (List.mem_cons_of_mem _ (List.mem_cons_of_mem _ hw))) (hat w hw)
  have hk' : (Cond.classLink own ik cls).before args s' = true := vx_ot_at hW0 hvm.symm (hgood _ List.mem_cons_self) hk
  have hini' : (Cond.initialized cls).before args s' = true := vx_ot_at hW0 hvm.symm (hgood _ (List.mem_cons_of_mem _ List.mem_cons_self)) hini
  have hU' : vx_Zq Bundle.tN "UNASSIGNED_STACK" Bundle.steD A s' s'.heap := by rw [hhp]; exact vx_Zq.moved hW0.alike (hU.kept hS.2.1)
  have hN' : vx_Zq Bundle.tN "SUPPRESSED_SENTINEL" Bundle.listD A s' s'.heap := by rw [hhp]; exact vx_Zq.moved hW0.alike (hN.kept hS.2.1)
  have h : ∀ w ∈ Bundle.ownAtoms own ic cls names, w.before args s' = true := vx_own hat' (vx_isRefq hU'.1) (vx_isRefq hN'.1) hU'.2.word hN'.2.word
  have hown' : s'.vm.findClass own = some m.cls := by rw [hvm]; exact hown
  have hins : (Cond.instantiable cls 6).before args s' = true := h _ (by simp [Bundle.ownAtoms])
  obtain ⟨vm₁, cX, kX, hfX, hkX, -, -, X₁, st1⟩ := Y.newCold hexec (own := own) (C := cls) (index := ik) (n := 6) hown' hk' hins hini'
    (g := F0 m pc ls rest) rfl (by rw [hb]; exact d0) (Nat.le_refl _) (Nat.le_refl _)
  generalize hT1 : (T.setVm vm₁).pushCell { cls := cX, slots := kX.instanceTypes.map defaultValue, vm := .none } = T1 at X₁ st1
  have hcat : (Value.ref T.heap.size).category = 1 := rfl
  have hcellA : T1.heap[T.heap.size]? = some (freshCell cX kX) := by rw [← hT1]; exact State.heap_pushCell_size _ _
  have d3' : decode c.code (pc + 3) = .ok (.dup, 1) := by rw [hb]; exact d3
  have d4' : decode c.code (pc + 4) = .ok (.ldc_w is, 3) := by rw [hb]; exact d4
  have hstr' : vk_R own is text sa s' := vk_R.warm hW0 hstr
  obtain ⟨U, hsteps, hrun, hend, hW, hsame, ce, hce, hO⟩ := X₁.ctorThrowS hexec htr (own := own) (cls := cls) (names := names) (ic := ic) hown' hcls hnames h (fun x hx => nomatch hx) hfX hkX hcellA (by rw [hhp, hT]; exact Nat.le_refl _) (msg := .ref sa) rfl
    (g := { method := m, pc := pc + 7, locals := ls, stack := .ref sa :: .ref T.heap.size :: .ref T.heap.size :: rest, locked := none }) rfl hsize rfl rfl (rest := rest) rfl
    (by rw [hb]; exact d7) (by rw [hb]; exact d10) hout hRframes (by simp only [List.map_cons, List.sum_cons, hcat]; omega) hlocks
  obtain ⟨f1, f2⟩ := vx_frame hsame
  rw [hhp] at f1 f2
  have hWs : s.WarmedH U.vm := State.WarmedH.trans hW0 hW
  have hcl : s.vm.findClass cls = some ce.cls := by
    have h9 := hO.cls
    rw [hvm] at h9
    exact h9
  have hall : s.sameButNew ({ U with vm := s.vm } : State) locs mc ms := by
    subst hA
    obtain ⟨e1, e2⟩ := hsame
    rw [State.setFrames_setFrames] at e1
    have h2 : (T.setVm s.vm).sameButNew ({ U with vm := s.vm } : State) [] (0 + 1) (0 + 6) := ⟨e1, e2⟩
    have h3 := X.same.trans h2
    rw [List.append_nil] at h3
    exact h3.mono hc hs
  refine ⟨U, ?_, .threw T.heap.size, hrun, hend, Or.inr ⟨T.heap.size, rfl, cls, ce, locs, hx U hWs.alike f1 (fun q hq => f2 q hq (fun z hz => nomatch hz)), hce, hO.vm, hcl, hWs, hall, hf⟩⟩
  refine st1 _ ?_
  show Steps p.tables e below (T1.setTop { method := m, pc := pc + 3, locals := ls, stack := .ref T.heap.size :: rest, locked := none }) _
  jvm_step X₁.here [X₁.here.top, hexec, d3', Value.category]
  exact X₁.ldcStringW hexec (own := own) (text := text) (index := is) (a := sa) hown' hstr'.1 hstr'.2
    (g := { method := m, pc := pc + 4, locals := ls, stack := .ref T.heap.size :: .ref T.heap.size :: rest, locked := none }) rfl d4' _ hsteps
end Ends
section Bodies
variable {l : Launch}
theorem vx_ofW {y : MethodName} {ws ws' : List Cond} {rm : Room} {Pc : Array Value → State → Prop} {Qc : Array Value → State → Outcome → State → Prop} {XC : String → State → State → Prop} {mc ms : Nat} {free : Addr → Prop} {cc : ByteArray} {maxL : Nat} {ret : Option FieldType}
    (hy : plainName y.cls = true) (hw : ws = Cond.code y cc maxL ret :: ws')
    (body : ∀ p e s m args below meth c s₁, BodyLoose p l y (headSpec ws rm) cc maxL ret e s m args below meth c s₁ → c.maxLocals = maxL → (∀ x ∈ c.exceptionTable.toList, False) → Pc args s →
      W p l e (headSpec ws rm).room s m args below meth c s.heap [] 0 0 (vx_MQ below Qc XC args s mc ms free) (entryFrame m args maxL)) : vx_Met l y ws rm Pc Qc XC mc ms free := by
  refine MetFree.of_bodyS (code := cc) (maxLocals := maxL) (ret := ret) hy ?_ ?_
  · intro args s m h hn
    obtain ⟨meth, c, h1, h2, h3, h4, h5, h6, -, -⟩ := Cond.code_spec hn (atoms_spec (ws := ws) h _ (by rw [hw]; exact List.mem_cons_self))
    exact ⟨meth, c, h1, h2, h3, h4, h5, h6⟩
  · intro p e s m args below meth c s₁ B hml hP _
    have hh0 : s₁.heap = s.heap := by rw [B.state]; rfl
    have ht : ∀ x ∈ c.exceptionTable.toList, False := by
      obtain ⟨meth9, c9, h1, h2, -, -, -, -, h7, -⟩ := Cond.code_spec B.named (atoms_spec (ws := ws) B.pre _ (by rw [hw]; exact List.mem_cons_self))
      cases Option.some.inj (h1.symm.trans B.method)
      cases Option.some.inj (h2.symm.trans (Stand.of_body B).code)
      intro x hx
      rw [Array.isEmpty_iff.mp h7] at hx
      cases hx
    obtain ⟨t, a1, o, b1, b2, b3⟩ := body p e s m args below meth c s₁ B hml ht hP s₁ hh0 (Stand.of_body B)
    exact ⟨t, o, a1, b1, b2, b3⟩
/-- the table of a body with handlers -/
theorem vx_table {p : Program} {x y : MethodName} {S : Spec} {cc bytes : ByteArray} {maxL maxL' : Nat} {ret ret' : Option FieldType} {e : Env} {s s₁ : State} {m : MethodId} {args : Array Value} {below : List Frame} {meth : Method} {c : Code} {hh : List (Nat × Nat × Nat × Nat)}
    (B : BodyLoose p l y S cc maxL ret e s m args below meth c s₁) (h : (Cond.codeWith y bytes maxL' ret' hh).before args s = true) : c.exceptionTable.toList = tableOf hh := by
  obtain ⟨m9, meth9, c9, hn9, h1, h2, -, -, h6, -⟩ := Cond.codeWith_spec h
  cases Option.some.inj (hn9.symm.trans B.named)
  cases Option.some.inj (h1.symm.trans B.method)
  cases Option.some.inj (h2.symm.trans (Stand.of_body B).code)
  rw [← h6, table_eq]
end Bodies
end VXA
/-! ===== END ===== -/
end
section
/-! NUMBERS: an int or a long by the whole number that it stands for -/
def iI (z : Int) : Int32 := Int32.ofInt z
def jI (z : Int) : Int64 := Int64.ofInt z
abbrev vi (z : Int) : Value := Value.int (iI z)
abbrev vj (z : Int) : Value := Value.long (jI z)
def inI (z : Int) : Prop := -2147483648 ≤ z ∧ z ≤ 2147483647
def inJ (z : Int) : Prop := -9223372036854775808 ≤ z ∧ z ≤ 9223372036854775807
theorem inI_of {z : Int} (h1 : -2147483648 ≤ z) (h2 : z ≤ 2147483647) : inI z := ⟨h1, h2⟩
theorem inJ_of {z : Int} (h1 : -9223372036854775808 ≤ z) (h2 : z ≤ 9223372036854775807) : inJ z := ⟨h1, h2⟩
theorem inI_J {z : Int} (h : inI z) : inJ z := ⟨by have := h.1; omega, by have := h.2; omega⟩
theorem inI_x (x : Int32) : inI x.toInt := ⟨by have := x.le_toInt; omega, by have := x.toInt_lt; omega⟩
theorem inJ_x (x : Int64) : inJ x.toInt := ⟨by have := x.le_toInt; omega, by have := x.toInt_lt; omega⟩
theorem iI_int {z : Int} (h : inI z) : (iI z).toInt = z := Int32.toInt_ofInt_of_le (by have := h.1; omega) (by have := h.2; omega)
theorem jI_int {z : Int} (h : inJ z) : (jI z).toInt = z := Int64.toInt_ofInt_of_le (by have := h.1; omega) (by have := h.2; omega)
theorem iI_eta (x : Int32) : iI x.toInt = x := Int32.ofInt_toInt x
theorem jI_eta (x : Int64) : jI x.toInt = x := Int64.ofInt_toInt x
theorem iI_add (a b : Int) : iI a + iI b = iI (a + b) := (Int32.ofInt_add a b).symm
theorem iI_sub (a b : Int) : iI a - iI b = iI (a - b) := (Int32.ofInt_sub a b).symm
theorem iI_mul (a b : Int) : iI a * iI b = iI (a * b) := (Int32.ofInt_mul a b).symm
theorem iI_neg (a : Int) : -iI a = iI (-a) := (Int32.ofInt_neg a).symm
theorem jI_add (a b : Int) : jI a + jI b = jI (a + b) := (Int64.ofInt_add a b).symm
theorem jI_sub (a b : Int) : jI a - jI b = jI (a - b) := (Int64.ofInt_sub a b).symm
theorem jI_mul (a b : Int) : jI a * jI b = jI (a * b) := (Int64.ofInt_mul a b).symm
theorem jI_neg (a : Int) : -jI a = jI (-a) := (Int64.ofInt_neg a).symm
theorem iI_le {a b : Int} (ha : inI a) (hb : inI b) : iI a ≤ iI b ↔ a ≤ b := by rw [Int32.le_iff_toInt_le, iI_int ha, iI_int hb]
theorem iI_lt {a b : Int} (ha : inI a) (hb : inI b) : iI a < iI b ↔ a < b := by rw [Int32.lt_iff_toInt_lt, iI_int ha, iI_int hb]
theorem iI_eq {a b : Int} (ha : inI a) (hb : inI b) : iI a = iI b ↔ a = b := by rw [← Int32.toInt_inj, iI_int ha, iI_int hb]
theorem jI_le {a b : Int} (ha : inJ a) (hb : inJ b) : jI a ≤ jI b ↔ a ≤ b := by rw [Int64.le_iff_toInt_le, jI_int ha, jI_int hb]
theorem jI_lt {a b : Int} (ha : inJ a) (hb : inJ b) : jI a < jI b ↔ a < b := by rw [Int64.lt_iff_toInt_lt, jI_int ha, jI_int hb]
theorem jI_eq {a b : Int} (ha : inJ a) (hb : inJ b) : jI a = jI b ↔ a = b := by rw [← Int64.toInt_inj, jI_int ha, jI_int hb]
theorem iI_0 : iI 0 = 0 := rfl
theorem iI_1 : iI 1 = 1 := rfl
theorem jI_0 : jI 0 = 0 := rfl
theorem jI_1 : jI 1 = 1 := rfl
theorem inI_0 : inI 0 := ⟨by omega, by omega⟩
theorem inJ_0 : inJ 0 := ⟨by omega, by omega⟩
theorem iI_in {z : Int} {n : Nat} (h0 : 0 ≤ z) (h1 : z < n) (hn : n < 2 ^ 31) : vp_in (iI z) n := by
  rw [vp_in_iff, iI_int ⟨by omega, by omega⟩]
  exact ⟨h0, h1⟩
theorem iI_cl {z : Int} (h : inI z) : (iI z).toNatClampNeg = z.toNat := by
  show (iI z).toInt.toNat = z.toNat
  rw [iI_int h]
theorem iI_nat (n : Nat) : Int32.ofNat n = iI n := Int32.ofInt_eq_ofNat.symm
theorem iI_div {a b : Int} (ha : inI a) (hb : inI b) : iI a / iI b = iI (a.tdiv b) :=
  (Int32.ofInt_tdiv (by rw [Int32.toInt_minValue]; have := ha.1; omega) (by rw [Int32.toInt_maxValue]; have := ha.2; omega) (by rw [Int32.toInt_minValue]; have := hb.1; omega) (by rw [Int32.toInt_maxValue]; have := hb.2; omega)).symm
theorem jI_div {a b : Int} (ha : inJ a) (hb : inJ b) : jI a / jI b = jI (a.tdiv b) :=
  (Int64.ofInt_tdiv (by rw [Int64.toInt_minValue]; have := ha.1; omega) (by rw [Int64.toInt_maxValue]; have := ha.2; omega) (by rw [Int64.toInt_minValue]; have := hb.1; omega) (by rw [Int64.toInt_maxValue]; have := hb.2; omega)).symm
theorem tmod_sub (a b : Int) : a - a.tdiv b * b = a.tmod b := by
  have h := Int.tdiv_mul_add_tmod a b
  omega
theorem iI_rem {a b : Int} (ha : inI a) (hb : inI b) : iI a - iI a / iI b * iI b = iI (a.tmod b) := by
  rw [iI_div ha hb, iI_mul, iI_sub, tmod_sub]
theorem jI_rem {a b : Int} (ha : inJ a) (hb : inJ b) : jI a - jI a / jI b * jI b = jI (a.tmod b) := by
  rw [jI_div ha hb, jI_mul, jI_sub, tmod_sub]
theorem iI_l {z : Int} (h : inI z) : (iI z).toInt64 = jI z := Int64.toInt_inj.mp (by rw [Int32.toInt_toInt64, iI_int h, jI_int (inI_J h)])
theorem jI_i (z : Int) : (jI z).toInt32 = iI z := Int64.toInt32_ofInt
/-! lists of locals: the first that is written at a place -/
def lk : List (Nat × Value) → Nat → Option Value
  | [], _ => none
  | (i, v) :: r, k => match Nat.beq i k with
    | true => some v
    | false => lk r k
theorem lk_mem {k : Nat} {v : Value} : ∀ {l : List (Nat × Value)}, lk l k = some v → (k, v) ∈ l
  | [], h => by cases h
  | (i, w) :: r, h => by
    unfold lk at h
    cases hb : Nat.beq i k with
    | true =>
      rw [hb] at h
      have hi : i = k := Nat.eq_of_beq_eq_true hb
      cases h
      rw [hi]
      exact List.mem_cons_self
    | false =>
      rw [hb] at h
      exact List.mem_cons_of_mem _ (lk_mem h)
theorem lk_has {ls : Array Slot} {nL : Nat} {l : List (Nat × Value)} (h : lv_has ls nL l) {k : Nat} {v : Value} (hk : lk l k = some v) : ls[k]? = some (.val v) := h.2.2 (k, v) (lk_mem hk)
def lsub : List (Nat × Value) → List (Nat × Value) → Prop
  | [], _ => True
  | (i, v) :: r, l => lk l i = some v ∧ lsub r l
theorem lsub_has {ls : Array Slot} {nL : Nat} {l : List (Nat × Value)} (h : lv_has ls nL l) : ∀ {l' : List (Nat × Value)}, lsub l' l → lv_has ls nL l' := by
  intro l' hs
  refine ⟨h.1, h.2.1, ?_⟩
  induction l' with
  | nil => intro q hq; cases hq
  | cons x r ih =>
    intro q hq
    obtain ⟨i, v⟩ := x
    rcases List.mem_cons.mp hq with e | e
    · rw [e]
      exact lk_has h hs.1
    · exact ih hs.2 q e
end
section
/-! NUMBERS BY PARTS OF NINE DECIMAL DIGITS, the last ones first -/
def vl (f : Nat → Int) : Nat → Int
  | 0 => 0
  | n + 1 => vl f n + f n * 1000000000 ^ n
def dig (f : Nat → Int) (n : Nat) : Prop := ∀ i, i < n → 0 ≤ f i ∧ f i < 1000000000
theorem dig_le {f : Nat → Int} {n k : Nat} (h : dig f n) (hk : k ≤ n) : dig f k := fun i hi => h i (by omega)
theorem Bpos (n : Nat) : (0 : Int) < 1000000000 ^ n := Int.pow_pos (by omega)
theorem vl_congr {f g : Nat → Int} : ∀ {n : Nat}, (∀ i, i < n → f i = g i) → vl f n = vl g n
  | 0, _ => rfl
  | n + 1, h => by
    show vl f n + f n * _ = vl g n + g n * _
    rw [vl_congr (n := n) (fun i hi => h i (by omega)), h n (by omega)]
theorem vl_bound {f : Nat → Int} : ∀ {n : Nat}, dig f n → 0 ≤ vl f n ∧ vl f n < 1000000000 ^ n
  | 0, _ => by show (0 : Int) ≤ 0 ∧ (0 : Int) < 1; omega
  | n + 1, h => by
    have ih := vl_bound (n := n) (dig_le h (by omega))
    have hd := h n (by omega)
    have hp := Bpos n
    show 0 ≤ vl f n + f n * 1000000000 ^ n ∧ vl f n + f n * 1000000000 ^ n < 1000000000 ^ (n + 1)
    rw [Int.pow_succ]
    generalize (1000000000 : Int) ^ n = P at *
    have h1 : 0 ≤ f n * P := Int.mul_nonneg hd.1 (by omega)
    have h2 : f n * P ≤ 999999999 * P := Int.mul_le_mul_of_nonneg_right (by omega) (by omega)
    omega
theorem vl_zero {f : Nat → Int} : ∀ {n : Nat}, (∀ i, i < n → f i = 0) → vl f n = 0
  | 0, _ => rfl
  | n + 1, h => by
    show vl f n + f n * _ = 0
    rw [vl_zero (n := n) (fun i hi => h i (by omega)), h n (by omega)]
    omega
theorem dm_B (s P : Int) : (s % 1000000000) * P + (s / 1000000000) * (P * 1000000000) = s * P := by
  have h := Int.emod_add_mul_ediv s 1000000000
  rw [Int.mul_comm P 1000000000, ← Int.mul_assoc, Int.mul_comm (s / 1000000000) 1000000000, ← Int.add_mul, h]
/-- the order of two numbers is that of the first parts from above that differ -/
theorem vl_lt {f g : Nat → Int} : ∀ {n : Nat} (k : Nat), k < n → dig f n → dig g n → f k < g k → (∀ i, k < i → i < n → f i = g i) → vl f n < vl g n
  | 0, k, hk, _, _, _, _ => absurd hk (by omega)
  | n + 1, k, hk, hf, hg, hlt, hup => by
    show vl f n + f n * 1000000000 ^ n < vl g n + g n * 1000000000 ^ n
    by_cases e : k = n
    · subst e
      have b1 := vl_bound (dig_le hf (Nat.le_succ k))
      have b2 := vl_bound (dig_le hg (Nat.le_succ k))
      have hp := Bpos k
      generalize (1000000000 : Int) ^ k = P at *
      have h2 : (f k + 1) * P ≤ g k * P := Int.mul_le_mul_of_nonneg_right (by omega) (by omega)
      rw [Int.add_mul] at h2
      omega
    · have := vl_lt (n := n) k (by omega) (dig_le hf (by omega)) (dig_le hg (by omega)) hlt (fun i h1 h2 => hup i h1 (by omega))
      rw [hup n (by omega) (by omega)]
      omega
theorem vl_split {f g : Nat → Int} {n : Nat} (hf : dig f n) (hg : dig g n) : (∀ i, i < n → f i = g i) ∨ (∃ k, k < n ∧ f k ≠ g k ∧ ∀ i, k < i → i < n → f i = g i) := by
  induction n with
  | zero => exact Or.inl (fun i hi => absurd hi (by omega))
  | succ n ih =>
    by_cases e : f n = g n
    · rcases ih (dig_le hf (by omega)) (dig_le hg (by omega)) with h | ⟨k, h1, h2, h3⟩
      · refine Or.inl (fun i hi => ?_)
        by_cases e2 : i = n
        · rw [e2]; exact e
        · exact h i (by omega)
      · refine Or.inr ⟨k, by omega, h2, fun i h4 h5 => ?_⟩
        by_cases e2 : i = n
        · rw [e2]; exact e
        · exact h3 i h4 (by omega)
    · exact Or.inr ⟨n, by omega, e, fun i h1 h2 => absurd h1 (by omega)⟩
theorem vl_inj {f g : Nat → Int} {n : Nat} (hf : dig f n) (hg : dig g n) (h : vl f n = vl g n) : ∀ i, i < n → f i = g i := by
  rcases vl_split hf hg with q | ⟨k, h1, h2, h3⟩
  · exact q
  · rcases Int.lt_or_gt_of_ne h2 with q | q
    · have := vl_lt k h1 hf hg q h3; omega
    · have := vl_lt k h1 hg hf q (fun i a b => (h3 i a b).symm); omega
/-- what become leaves: quotients on the way, parts -/
def bcQ (v : Int) : Nat → Int
  | 0 => v
  | n + 1 => bcQ v n / 1000000000
def bcD (v : Int) (i : Nat) : Int := bcQ v i % 1000000000
theorem bcQ_in {v : Int} (h : 0 ≤ v) : ∀ n, 0 ≤ bcQ v n ∧ bcQ v n ≤ v
  | 0 => ⟨h, Int.le_refl _⟩
  | n + 1 => by
    have ih := bcQ_in h n
    show 0 ≤ bcQ v n / 1000000000 ∧ bcQ v n / 1000000000 ≤ v
    omega
theorem bc_dig (v : Int) (n : Nat) : dig (bcD v) n := fun i _ => by
  show 0 ≤ bcQ v i % 1000000000 ∧ bcQ v i % 1000000000 < 1000000000
  omega
theorem bc_val (v : Int) : ∀ n, vl (bcD v) n + bcQ v n * 1000000000 ^ n = v
  | 0 => by show (0 : Int) + v * 1 = v; omega
  | n + 1 => by
    have ih := bc_val v n
    have h := dm_B (bcQ v n) (1000000000 ^ n)
    show vl (bcD v) n + (bcQ v n % 1000000000) * 1000000000 ^ n + (bcQ v n / 1000000000) * 1000000000 ^ (n + 1) = v
    rw [Int.pow_succ]
    omega
theorem bc_all {v : Int} {n : Nat} (h0 : 0 ≤ v) (h : v < 1000000000 ^ n) : vl (bcD v) n = v := by
  have e := bc_val v n
  have b := vl_bound (bc_dig v n)
  have q := (bcQ_in h0 n).1
  have hp := Bpos n
  generalize (1000000000 : Int) ^ n = P at *
  have hq : bcQ v n = 0 := by
    rcases (show 0 < bcQ v n ∨ bcQ v n ≤ 0 by omega) with z | z
    · have h2 : 1 * P ≤ bcQ v n * P := Int.mul_le_mul_of_nonneg_right (by omega) (by omega)
      omega
    · omega
  rw [hq] at e
  omega
theorem bcQ_0 : ∀ n, bcQ 0 n = 0
  | 0 => rfl
  | n + 1 => by show bcQ 0 n / 1000000000 = 0; rw [bcQ_0 n]; rfl
theorem bcD_0 (i : Nat) : bcD 0 i = 0 := by show bcQ 0 i % 1000000000 = 0; rw [bcQ_0]; rfl
/-- a sum -/
def adC (f g : Nat → Int) : Nat → Int
  | 0 => 0
  | i + 1 => (f i + g i + adC f g i) / 1000000000
def adD (f g : Nat → Int) (i : Nat) : Int := (f i + g i + adC f g i) % 1000000000
theorem adC_in {f g : Nat → Int} {n : Nat} (hf : dig f n) (hg : dig g n) : ∀ i, i ≤ n → 0 ≤ adC f g i ∧ adC f g i ≤ 1
  | 0, _ => by show (0 : Int) ≤ 0 ∧ (0 : Int) ≤ 1; omega
  | i + 1, h => by
    have ih := adC_in hf hg i (by omega)
    have h1 := hf i (by omega)
    have h2 := hg i (by omega)
    show 0 ≤ (f i + g i + adC f g i) / 1000000000 ∧ (f i + g i + adC f g i) / 1000000000 ≤ 1
    omega
theorem ad_dig (f g : Nat → Int) (n : Nat) : dig (adD f g) n := fun i _ => by
  show 0 ≤ (f i + g i + adC f g i) % 1000000000 ∧ (f i + g i + adC f g i) % 1000000000 < 1000000000
  omega
theorem ad_val (f g : Nat → Int) : ∀ n, vl (adD f g) n + adC f g n * 1000000000 ^ n = vl f n + vl g n
  | 0 => rfl
  | n + 1 => by
    have ih := ad_val f g n
    have h := dm_B (f n + g n + adC f g n) (1000000000 ^ n)
    show vl (adD f g) n + ((f n + g n + adC f g n) % 1000000000) * 1000000000 ^ n + ((f n + g n + adC f g n) / 1000000000) * 1000000000 ^ (n + 1) = vl f n + f n * 1000000000 ^ n + (vl g n + g n * 1000000000 ^ n)
    rw [Int.pow_succ]
    rw [Int.add_mul, Int.add_mul] at h
    omega
theorem ad_all {f g : Nat → Int} {n : Nat} (hf : dig f n) (hg : dig g n) (h : vl f n + vl g n < 1000000000 ^ n) : vl (adD f g) n = vl f n + vl g n := by
  have e := ad_val f g n
  have b := vl_bound (ad_dig f g n)
  have q := adC_in hf hg n (Nat.le_refl n)
  have hp := Bpos n
  generalize (1000000000 : Int) ^ n = P at *
  rcases (show adC f g n = 0 ∨ adC f g n = 1 by omega) with z | z
  · rw [z] at e; omega
  · rw [z] at e; omega
/-- a number times a small one -/
def scC (g : Nat → Int) (k : Int) : Nat → Int
  | 0 => 0
  | i + 1 => (g i * k + scC g k i) / 1000000000
def scD (g : Nat → Int) (k : Int) (i : Nat) : Int := (g i * k + scC g k i) % 1000000000
theorem scC_in {g : Nat → Int} {k : Int} {n : Nat} (hg : dig g n) (hk : 0 ≤ k) : ∀ i, i ≤ n → 0 ≤ scC g k i ∧ scC g k i ≤ k
  | 0, _ => by show (0 : Int) ≤ 0 ∧ (0 : Int) ≤ k; omega
  | i + 1, h => by
    have ih := scC_in hg hk i (by omega)
    have h1 := hg i (by omega)
    have h2 : 0 ≤ g i * k := Int.mul_nonneg h1.1 hk
    have h3 : g i * k ≤ 999999999 * k := Int.mul_le_mul_of_nonneg_right (by omega) hk
    show 0 ≤ (g i * k + scC g k i) / 1000000000 ∧ (g i * k + scC g k i) / 1000000000 ≤ k
    omega
theorem sc_dig (g : Nat → Int) (k : Int) (n : Nat) : dig (scD g k) n := fun i _ => by
  show 0 ≤ (g i * k + scC g k i) % 1000000000 ∧ (g i * k + scC g k i) % 1000000000 < 1000000000
  omega
theorem sc_val (g : Nat → Int) (k : Int) : ∀ n, vl (scD g k) n + scC g k n * 1000000000 ^ n = vl g n * k
  | 0 => by show (0 : Int) + 0 * 1 = 0 * k; omega
  | n + 1 => by
    have ih := sc_val g k n
    have h := dm_B (g n * k + scC g k n) (1000000000 ^ n)
    show vl (scD g k) n + ((g n * k + scC g k n) % 1000000000) * 1000000000 ^ n + ((g n * k + scC g k n) / 1000000000) * 1000000000 ^ (n + 1) = (vl g n + g n * 1000000000 ^ n) * k
    rw [Int.pow_succ, Int.add_mul, Int.mul_right_comm (g n)]
    rw [Int.add_mul] at h
    omega
theorem sc_all {g : Nat → Int} {k : Int} {n : Nat} (hg : dig g n) (hk : 0 ≤ k) (h : vl g n * k < 1000000000 ^ n) : vl (scD g k) n = vl g n * k := by
  have e := sc_val g k n
  have b := vl_bound (sc_dig g k n)
  have q := scC_in hg hk n (Nat.le_refl n)
  have hp := Bpos n
  generalize (1000000000 : Int) ^ n = P at *
  have hq : scC g k n = 0 := by
    rcases (show 0 < scC g k n ∨ scC g k n ≤ 0 by omega) with z | z
    · have h2 : 1 * P ≤ scC g k n * P := Int.mul_le_mul_of_nonneg_right (by omega) (by omega)
      omega
    · omega
  rw [hq] at e
  omega
theorem vl_add (f : Nat → Int) (i : Nat) : ∀ n, vl f (i + n) = vl f i + 1000000000 ^ i * vl (fun j => f (i + j)) n
  | 0 => by show vl f i = vl f i + 1000000000 ^ i * 0; omega
  | n + 1 => by
    have ih := vl_add f i n
    show vl f (i + n) + f (i + n) * 1000000000 ^ (i + n) = vl f i + 1000000000 ^ i * (vl (fun j => f (i + j)) n + f (i + n) * 1000000000 ^ n)
    rw [ih, Int.mul_add, Int.pow_add, Int.mul_left_comm (1000000000 ^ i) (f (i + n))]
    omega
/-- a number by a small one: from the first part on; after k steps the rest so far -/
def dvR (q : Nat → Int) (u : Int) : Nat → Int
  | 0 => 0
  | k + 1 => (dvR q u k * 1000000000 + q (7 - k)) % u
def dvQ (q : Nat → Int) (u : Int) (i : Nat) : Int := (dvR q u (7 - i) * 1000000000 + q i) / u
def hk8 (f : Nat → Int) : Nat → Int
  | 0 => 0
  | k + 1 => hk8 f k * 1000000000 + f (7 - k)
theorem dvR_in {q : Nat → Int} {u : Int} (hu : 0 < u) : ∀ k, 0 ≤ dvR q u k ∧ dvR q u k < u
  | 0 => ⟨Int.le_refl 0, hu⟩
  | k + 1 => ⟨Int.emod_nonneg _ (by omega), Int.emod_lt_of_pos _ hu⟩
theorem dv_val {q : Nat → Int} {u : Int} : ∀ k, k ≤ 8 → hk8 (dvQ q u) k * u + dvR q u k = hk8 q k
  | 0, _ => by show (0 : Int) * u + 0 = 0; omega
  | k + 1, h => by
    have ih := dv_val (q := q) (u := u) k (by omega)
    have e : 7 - (7 - k) = k := by omega
    have h1 := Int.emod_add_mul_ediv (dvR q u k * 1000000000 + q (7 - k)) u
    show (hk8 (dvQ q u) k * 1000000000 + (dvR q u (7 - (7 - k)) * 1000000000 + q (7 - k)) / u) * u + (dvR q u k * 1000000000 + q (7 - k)) % u = hk8 q k * 1000000000 + q (7 - k)
    rw [e, Int.add_mul, Int.mul_right_comm, Int.mul_comm ((dvR q u k * 1000000000 + q (7 - k)) / u) u]
    omega
theorem dv_dig {q : Nat → Int} {u : Int} (hu : 0 < u) (hq : dig q 8) : dig (dvQ q u) 8 := fun i hi => by
  have h1 := dvR_in (q := q) hu (7 - i)
  have h2 := hq i hi
  show 0 ≤ (dvR q u (7 - i) * 1000000000 + q i) / u ∧ (dvR q u (7 - i) * 1000000000 + q i) / u < 1000000000
  refine ⟨Int.ediv_nonneg (by omega) (by omega), Int.ediv_lt_of_lt_mul hu (by omega)⟩
theorem hk8_vl (f : Nat → Int) : hk8 f 8 = vl f 8 := by
  simp only [hk8, vl]
  simp only [Nat.sub_zero, Nat.reduceSub, Int.reducePow, Int.zero_add, Int.zero_mul, Int.pow_zero, Int.mul_one, Int.pow_succ]
  omega
end
section
/-! CONTRACTS WHOSE METHOD RETURNS OR THROWS -/
def FEX (first t : State) (L : List Loc) (k n : Nat) : Prop := first.WarmedH t.vm ∧ first.sameButNew ({ t with vm := first.vm } : State) L k n
def MX (l : Launch) (y : MethodName) (ws : List Cond) (rm : Room) (Pc : Array Value → State → Prop) (Qc : Array Value → State → Outcome → State → Prop) (mc ms : Nat) (free : Addr → Prop) : Prop :=
  MetFree l y (headSpec ws rm) Pc (fun _ _ _ _ _ => True) (fun a st o t => Qc a st o t ∧ ∃ L, FEX st t L mc ms ∧ ∀ q ∈ L, free q.base)
def yGo (p : Program) (e : Env) (below : List Frame) (A B : State) (g : JFrame) (len : Nat) : Outcome → Prop
  | .returned v => Steps p.tables e below A (B.setTop { g with pc := g.pc + len, stack := v.toList ++ g.stack })
  | .threw x => Steps p.tables e below A ((B.setTop g).pushFrame (.throwing x))
theorem yGo.pre {p : Program} {e : Env} {below : List Frame} {A A' B : State} {g : JFrame} {len : Nat} {o : Outcome} (h : yGo p e below A B g len o) (hs : ∀ t, Steps p.tables e below A t → Steps p.tables e below A' t) : yGo p e below A' B g len o := by
  cases o with
  | returned v => exact hs _ h
  | threw x => exact hs _ h
def BackX (l : Launch) (R : Room) (p : Program) (e : Env) (below : List Frame) (s : State) (sargs : Array Value) (y : MethodName) (len W : Nat)
    (Pre : Pt → Array Value → Prop) (Post : Pt → Array Value → Outcome → Pt → Prop) : Prop :=
  ∀ (m : MethodId) (meth : Method) (c : Code) (A : Pt) (g : JFrame) (ig : ClassFile.Instr) (mk : MethodId) (a : Array Value),
    Stand p l e R s m sargs below meth c A.U A.locs A.cells A.slots → g.method = m → g.locals.size = c.maxLocals → decode c.code g.pc = .ok (ig, len) →
    2 * g.monitorRoom + (g.stack.map fun v => v.category).sum ≤ W → A.U.methodNamed? y = some mk → Pre A a →
    ∃ (o : Outcome) (B : Pt), Stand p l e R s m sargs below meth c B.U B.locs B.cells B.slots ∧ Post A a o B ∧ yGo p e below (doInvoke e (A.U.setTop g) [] mk a).1 B.U g len o
def PostX (Qc : Array Value → State → Outcome → State → Prop) (mc ms : Nat) (free : Addr → Prop) : Pt → Array Value → Outcome → Pt → Prop := fun A a o B =>
  ∃ (g : JFrame) (mk : MethodId) (t : State) (L : List Loc), B.U.heap = t.heap ∧ B.U.vm = t.vm ∧ Qc a (A.U.calling g mk a) o t ∧ B.locs = A.locs ++ L ∧ (∀ q ∈ L, free q.base) ∧ B.cells = A.cells + mc ∧ B.slots = A.slots + ms
section YBack
variable {l : Launch} {R : Room} {p : Program} {e : Env} {below : List Frame} {s : State} {sargs : Array Value} {y : MethodName} {len W : Nat}
set_option maxHeartbeats 1000000 in
theorem backX_of {ws : List Cond} {rm : Room} {Pc : Array Value → State → Prop} {Qc : Array Value → State → Outcome → State → Prop} {mc ms : Nat} {free : Addr → Prop} {bytes : ByteArray} {maxL : Nat} {ret : Option FieldType}
    (hM : MX l y ws rm Pc Qc mc ms free) (hblind : FrameBlind Pc) (hrc : rm.cells = mc) (hrs : rm.slots = ms)
    (hframes : rm.frames + 1 ≤ R.frames) (hlocals : W + (maxL + 11) + rm.locals ≤ R.locals)
    (hws : ∀ w ∈ ws, ∀ a' U, s.WarmedH U.vm → w.before a' U = true) (hcode : Cond.code y bytes maxL ret ∈ ws) (hinit : ∀ a' U, s.WarmedH U.vm → (Cond.initialized y.cls).before a' U = true) :
    BackX l R p e below s sargs y len W (PreOf R mc ms Pc) (PostX Qc mc ms free) := by
  intro m meth c A g ig mk a X hg hsize hdg hW hn hp
  obtain ⟨U, Ls, c0, s0⟩ := A
  dsimp only [Pt.U, Pt.locs, Pt.cells, Pt.slots] at X hn ⊢
  obtain ⟨h4, h5, hPc⟩ := hp
  dsimp only [Pt.U, Pt.locs, Pt.cells, Pt.slots] at h4 h5 hPc
  have h2 : (Cond.code y bytes maxL ret).before a U = true := hws _ hcode _ _ X.warmed
  have h3 : (Cond.initialized y.cls).before a U = true := hinit _ _ X.warmed
  have h1 : (headSpec ws rm).pre.before a U = true := atoms_intro fun w hw => hws w hw _ _ X.warmed
  obtain ⟨methY, cY, hmY, hcY, -, hlY, -, -, -, -⟩ := Cond.code_spec hn h2
  obtain ⟨kY, hkY, -⟩ := className_of_methodNamed hn
  have hinitY : kY.init = .initialized := Cond.initialized_spec (findClass_of_methodNamed hn) hkY h3
  have h : At U g.method c below := by rw [hg]; exact X.here
  have happ : (headSpec ws rm).appliesLoose y e.platform (U.calling g mk a) = true :=
    Spec.appliesLoose_calling (g := g) h hdg hn hkY hinitY
      (X.room_calling (g := g) (R' := rm) hsize hmY hcY hframes (by rw [hlY]; omega) (by rw [hrc]; exact h4) (by rw [hrs]; exact h5)) h1
  obtain ⟨mid, hmid⟩ := h.above
  have hfr : (U.setTop g).frames = (.java g :: mid) ++ below := by rw [State.frames_setTop' g h.top, hmid]; rfl
  obtain ⟨o, s₂, hsteps, -, hend, hq⟩ := Steps.callFree hM p X.admits X.cas X.clock (acts := []) hfr happ (hblind _ _ _ _ hPc) trivial
  have hq' : Qc a (U.calling g mk a) o s₂ ∧ ∃ L, FEX (U.calling g mk a) s₂ L mc ms ∧ ∀ q ∈ L, free q.base := hq
  obtain ⟨hqc, L, ⟨hW₂, hsm⟩, hL⟩ := hq'
  rw [State.frames_setTop' g h.top] at hend
  cases o with
  | threw x =>
    rw [X.tail] at hend
    obtain ⟨T', X', -, -, ht⟩ := X.outOfThrown hg (mk := mk) (a := a) hend hW₂ hsm
    refine ⟨.threw x, ⟨T', Ls ++ L, c0 + mc, s0 + ms⟩, X', ⟨g, mk, s₂, L, ?_, ?_, hqc, rfl, hL, rfl, rfl⟩, ?_⟩
    · rw [ht]; exact (Stand.throwing_heap T' g x).symm
    · rw [ht]; exact (Stand.throwing_vm T' g x).symm
    · show Steps p.tables e below _ ((T'.setTop g).pushFrame (.throwing x))
      rw [← ht]
      exact hsteps
  | returned v =>
    obtain ⟨e2, q2, q3, q4, q5, q6⟩ := hsm
    have e3 : s₂ = ({ (U.calling g mk a).setFrames s₂.frames with heap := s₂.heap, slotsUsed := s₂.slotsUsed } : State).setVm s₂.vm := by
      have : s₂ = ({ s₂ with vm := (U.calling g mk a).vm } : State).setVm s₂.vm := rfl
      rw [e2] at this
      exact this
    obtain ⟨c₂, i₂, len₂, hc₂, hd₂, hf₂⟩ := hend
    have hW' : U.WarmedH s₂.vm := hW₂
    have hcc : c₂ = c := by
      have h1 : s₂.code? g.method = U.code? g.method := by
        rw [State.code?_eq, State.code?_eq, hW'.alike.method?]
      exact Option.some.inj (hc₂.symm.trans (h1.trans h.code))
    subst hcc
    have hlen : len₂ = len := by rw [hdg] at hd₂; cases hd₂; rfl
    subst hlen
    obtain ⟨g₀, hg0⟩ := Option.isSome_iff_exists.mp h.top
    obtain ⟨r, hr⟩ := State.topJava?_eq_some.mp hg0
    have hs₂ : s₂ = (({ U with heap := s₂.heap, slotsUsed := s₂.slotsUsed } : State).setVm s₂.vm).setTop { g with pc := g.pc + len₂, stack := v.toList ++ g.stack } := by
      have hr' : (({ U with heap := s₂.heap, slotsUsed := s₂.slotsUsed } : State).setVm s₂.vm).frames = .java g₀ :: r := hr
      refine e3.trans ?_
      rw [hf₂, State.calling_eq h.top, State.setFrames_setFrames, State.setTop_of_frames _ hr', hr]
      rfl
    have hsame : U.sameButNew ({ U with heap := s₂.heap, slotsUsed := s₂.slotsUsed } : State) L mc ms := by
      refine ⟨?_, q2, q3, q4, q5, q6⟩
      obtain ⟨t, ht, -⟩ := State.frames_cons hr
      show ({ U with heap := s₂.heap, slotsUsed := s₂.slotsUsed } : State) = { U.setFrames U.frames with heap := s₂.heap, slotsUsed := s₂.slotsUsed }
      rw [State.setFrames_self ht]
    subst hg
    refine ⟨.returned v, ⟨(({ U with heap := s₂.heap, slotsUsed := s₂.slotsUsed } : State).setVm s₂.vm), Ls ++ L, c0 + mc, s0 + ms⟩,
      ⟨X.admits, X.cas, X.clock, X.frames, X.room, X.hears, X.method, X.code, (X.here.setHeapUsed s₂.heap s₂.slotsUsed).setVm hW'.alike, X.tail, State.WarmedH.trans X.warmed hW', X.limits, X.bytes, X.same.trans (hsame.setVm s.vm)⟩,
      ⟨g, mk, s₂, L, rfl, rfl, hqc, rfl, hL, rfl, rfl⟩, ?_⟩
    show Steps p.tables e below _ ((({ U with heap := s₂.heap, slotsUsed := s₂.slotsUsed } : State).setVm s₂.vm).setTop { g with pc := g.pc + len₂, stack := v.toList ++ g.stack })
    rw [← hs₂]
    exact hsteps
end YBack
section YCalls
variable {p : Program} {l : Launch} {e : Env} {R : Room} {s : State} {m : MethodId} {args : Array Value} {below : List Frame} {meth : Method} {c : Code} {T : State} {locs : List Loc} {cells slots : Nat}
variable {own C host : String} {index : Nat} {y : MethodName} {bytes : ByteArray} {maxL : Nat} {ret : Option FieldType} {W : Nat} {Pre : Pt → Array Value → Prop} {Post : Pt → Array Value → Outcome → Pt → Prop} {g : JFrame} {argsL rest : List Value}
theorem callVX (X : Stand p l e R s m args below meth c T locs cells slots) (hexec : p.tables.exec = Jvm.exec)
    (hown : s.vm.findClass own = some m.cls) (hlink : (Cond.methodLink own index y).before args s = true) (hinst : (Cond.instanceMethod y).before args s = true) (hsel : (Cond.selects C y y).before args s = true)
    (hcode : (Cond.code y bytes maxL ret).before args s = true) (hy : y.cls ≠ "java/lang/invoke/MethodHandle" ∧ y.cls ≠ "java/lang/invoke/VarHandle")
    (hK : BackX l R p e below s args y 3 W Pre Post)
    {b : Addr} {cellB : Cell} (hcell : T.heap[b]? = some cellB) (hobj : cellB.vm.isStatics = false) (hcls : s.vm.findClass C = some cellB.cls)
    (hg : g.method = m) (hsize : g.locals.size = c.maxLocals) (hlen : ∀ sig, parseMethodDescriptor y.desc = some sig → argsL.length = sig.parameters.length)
    (hstack : g.stack = argsL.reverse ++ .ref b :: rest) (hW : 2 * g.monitorRoom + (rest.map fun v => v.category).sum ≤ W) (hdg : decode c.code g.pc = .ok (.invokevirtual index, 3))
    (hpre : ∀ vm₁, s.WarmedH vm₁ → Pre ⟨T.setVm vm₁, locs, cells, slots⟩ (Value.ref b :: argsL).toArray) :
    ∃ (o : Outcome) (vm₁ : Vm) (B : Pt), s.WarmedH vm₁ ∧ Stand p l e R s m args below meth c B.U B.locs B.cells B.slots ∧ Post ⟨T.setVm vm₁, locs, cells, slots⟩ (Value.ref b :: argsL).toArray o B ∧
      yGo p e below (T.setTop g) B.U { g with stack := rest } 3 o := by
  obtain ⟨mk, methM, hnamed, hmethM, hstM, habM⟩ := Cond.instanceMethod_spec hinst
  obtain ⟨methM', cM, hmethM', -, -, -, -, -, -, hsigM⟩ := Cond.code_spec hnamed hcode
  cases hmethM.symm.trans hmethM'
  obtain ⟨c2, r2, m2, q1, q2, q3, q4, kP, hkP, hkPi⟩ := Cond.selects_spec hsel
  cases hcls.symm.trans q1
  cases (State.methodFound?_of_named hnamed hy).symm.trans q2
  cases hnamed.symm.trans q3
  have hselP : selectMethod e.platform s.vm cellB.cls mk = .method mk := by rw [Launch.admits_selectMethod X.admits]; exact q4
  obtain ⟨vm₁, X₁, hstep₁⟩ := X.invokevirtual hexec hown hlink hnamed hmethM hstM hkP hkPi hy (a := b) (cell := cellB) hcell
    (fun z h => by rw [h] at hobj; cases hobj) hselP hmethM habM hkP hkPi (g := g) hg (argsL := argsL) (rest := rest) (hlen _ hsigM) hstack hdg
  obtain ⟨o, B, X', hpost, hsteps⟩ := hK m meth c ⟨T.setVm vm₁, locs, cells, slots⟩ { g with stack := rest } (.invokevirtual index) mk (Value.ref b :: argsL).toArray X₁ hg hsize hdg hW (X₁.named hnamed) (hpre vm₁ X₁.warmed)
  exact ⟨o, vm₁, B, X₁.warmed, X', hpost, hsteps.pre fun t h => hstep₁ _ fun acts => by rw [doInvoke_state]; exact h⟩
theorem callSX (X : Stand p l e R s m args below meth c T locs cells slots) (hexec : p.tables.exec = Jvm.exec)
    (hown : s.vm.findClass own = some m.cls) (hlink : (Cond.methodLink own index y).before args s = true) (hstat : (Cond.static y).before args s = true) (hinit : (Cond.initialized y.cls).before args s = true)
    (hcode : (Cond.code y bytes maxL ret).before args s = true) (hy : y.cls ≠ "java/lang/invoke/MethodHandle" ∧ y.cls ≠ "java/lang/invoke/VarHandle")
    (hK : BackX l R p e below s args y 3 W Pre Post)
    (hg : g.method = m) (hsize : g.locals.size = c.maxLocals) (hlen : ∀ sig, parseMethodDescriptor y.desc = some sig → argsL.length = sig.parameters.length)
    (hstack : g.stack = argsL.reverse ++ rest) (hW : 2 * g.monitorRoom + (rest.map fun v => v.category).sum ≤ W) (hdg : decode c.code g.pc = .ok (.invokestatic index, 3))
    (hpre : ∀ vm₁, s.WarmedH vm₁ → Pre ⟨T.setVm vm₁, locs, cells, slots⟩ argsL.toArray) :
    ∃ (o : Outcome) (vm₁ : Vm) (B : Pt), s.WarmedH vm₁ ∧ Stand p l e R s m args below meth c B.U B.locs B.cells B.slots ∧ Post ⟨T.setVm vm₁, locs, cells, slots⟩ argsL.toArray o B ∧
      yGo p e below (T.setTop g) B.U { g with stack := rest } 3 o := by
  obtain ⟨mk, hnamed⟩ := Cond.code_named hcode
  obtain ⟨methM, cM, hmethM, -, -, -, -, -, -, hsigM⟩ := Cond.code_spec hnamed hcode
  have hstatic : methM.isStatic = true := Cond.static_spec hnamed hmethM hstat
  obtain ⟨kP, hkP, -⟩ := className_of_methodNamed hnamed
  have hinitP : kP.init = .initialized := Cond.initialized_spec (findClass_of_methodNamed hnamed) hkP hinit
  obtain ⟨vm₁, X₁, hstep₁⟩ := X.invokestatic hexec hown hlink hnamed hmethM hstatic hkP hinitP hy (g := g) hg (argsL := argsL) (rest := rest) (hlen _ hsigM) hstack hdg
  obtain ⟨o, B, X', hpost, hsteps⟩ := hK m meth c ⟨T.setVm vm₁, locs, cells, slots⟩ { g with stack := rest } (.invokestatic index) mk argsL.toArray X₁ hg hsize hdg hW (X₁.named hnamed) (hpre vm₁ X₁.warmed)
  exact ⟨o, vm₁, B, X₁.warmed, X', hpost, hsteps.pre fun t h => hstep₁ _ fun acts => by rw [doInvoke_state]; exact h⟩
theorem callIX (X : Stand p l e R s m args below meth c T locs cells slots) (hexec : p.tables.exec = Jvm.exec)
    (hown : s.vm.findClass own = some m.cls) (hy1 : y.name = "<init>") (hlink : (Cond.methodLink own index y).before args s = true) (hinst : (Cond.instanceMethod y).before args s = true)
    (hcode : (Cond.code y bytes maxL none).before args s = true) (hy : y.cls ≠ "java/lang/invoke/MethodHandle" ∧ y.cls ≠ "java/lang/invoke/VarHandle")
    (hK : BackX l R p e below s args y 3 W Pre Post)
    (hg : g.method = m) (hsize : g.locals.size = c.maxLocals) {a : Addr} (hlen : ∀ sig, parseMethodDescriptor y.desc = some sig → argsL.length = sig.parameters.length)
    (hstack : g.stack = argsL.reverse ++ .ref a :: rest) (hW : 2 * g.monitorRoom + (rest.map fun v => v.category).sum ≤ W) (hdg : decode c.code g.pc = .ok (.invokespecial index, 3))
    (hpre : ∀ vm₁, s.WarmedH vm₁ → Pre ⟨T.setVm vm₁, locs, cells, slots⟩ (Value.ref a :: argsL).toArray) :
    ∃ (o : Outcome) (vm₁ : Vm) (B : Pt), s.WarmedH vm₁ ∧ Stand p l e R s m args below meth c B.U B.locs B.cells B.slots ∧ Post ⟨T.setVm vm₁, locs, cells, slots⟩ (Value.ref a :: argsL).toArray o B ∧
      yGo p e below (T.setTop g) B.U { g with stack := rest } 3 o := by
  subst hg
  have hpl : e.platform.magicAccessors = ({} : Platform).magicAccessors := by rw [X.admits.platform]
  obtain ⟨mk, methM, cM, kP, vm₁, hnamed, hmethM, hcodeM, -, hlocalsM, -, hkP, -, hW₁, hstep₁⟩ := Steps.initColdArgs (e := e) X.here hexec X.warmed hpl hown hy1 hy hlink hinst hcode (f := g) rfl hlen hstack hdg
  have X₁ := X.noted hW₁
  obtain ⟨o, B, X', hpost, hsteps⟩ := hK g.method meth c ⟨T.setVm vm₁, locs, cells, slots⟩ { g with stack := rest } (.invokespecial index) mk (Value.ref a :: argsL).toArray X₁ rfl hsize hdg hW (X₁.named hnamed) (hpre vm₁ X₁.warmed)
  exact ⟨o, vm₁, B, X₁.warmed, X', hpost, hsteps.pre fun t h => hstep₁ _ fun acts => by rw [doInvoke_state]; exact h⟩
theorem callINX (X : Stand p l e R s m args below meth c T locs cells slots) (hexec : p.tables.exec = Jvm.exec)
    (hown : s.vm.findClass own = some m.cls) (hy1 : y.name = "<init>") (hlink : (Cond.methodLinkNest own index y host).before args s = true) (hinst : (Cond.instanceMethod y).before args s = true)
    (hcode : (Cond.code y bytes maxL none).before args s = true) (hy : y.cls ≠ "java/lang/invoke/MethodHandle" ∧ y.cls ≠ "java/lang/invoke/VarHandle")
    (hK : BackX l R p e below s args y 3 W Pre Post)
    (hg : g.method = m) (hsize : g.locals.size = c.maxLocals) {a : Addr} (hlen : ∀ sig, parseMethodDescriptor y.desc = some sig → argsL.length = sig.parameters.length)
    (hstack : g.stack = argsL.reverse ++ .ref a :: rest) (hW : 2 * g.monitorRoom + (rest.map fun v => v.category).sum ≤ W) (hdg : decode c.code g.pc = .ok (.invokespecial index, 3))
    (hpre : ∀ vm₁, s.WarmedH vm₁ → Pre ⟨T.setVm vm₁, locs, cells, slots⟩ (Value.ref a :: argsL).toArray) :
    ∃ (o : Outcome) (vm₁ : Vm) (B : Pt), s.WarmedH vm₁ ∧ Stand p l e R s m args below meth c B.U B.locs B.cells B.slots ∧ Post ⟨T.setVm vm₁, locs, cells, slots⟩ (Value.ref a :: argsL).toArray o B ∧
      yGo p e below (T.setTop g) B.U { g with stack := rest } 3 o := by
  subst hg
  have hpl : e.platform.magicAccessors = ({} : Platform).magicAccessors := by rw [X.admits.platform]
  obtain ⟨mk, methM, cM, kP, vm₁, hnamed, hmethM, hcodeM, -, hlocalsM, -, hkP, -, hW₁, hstep₁⟩ := Steps.initColdArgsNest (e := e) X.here hexec X.warmed hpl hown hy1 hy hlink hinst hcode (f := g) rfl hlen hstack hdg
  have X₁ := X.noted hW₁
  obtain ⟨o, B, X', hpost, hsteps⟩ := hK g.method meth c ⟨T.setVm vm₁, locs, cells, slots⟩ { g with stack := rest } (.invokespecial index) mk (Value.ref a :: argsL).toArray X₁ rfl hsize hdg hW (X₁.named hnamed) (hpre vm₁ X₁.warmed)
  exact ⟨o, vm₁, B, X₁.warmed, X', hpost, hsteps.pre fun t h => hstep₁ _ fun acts => by rw [doInvoke_state]; exact h⟩
end YCalls
end
section
/-! NAMES, by program (wip/whole/tools/names.py): methods, fields, words -/
def R_Cal : String := "YearFractions$Calendars"
def R_Set : String := "YearFractions$LeastSet"
def R_Row : String := "YearFractions$Row"
def R_Who : String := "YearFractions$Whole"
def R_Yf : String := "YearFractions"
def R_Mod : String := "YearFractionsModel"
def R_Law : String := "YearFractionsLaw"
abbrev b_Yf_init : ByteArray := prog_1_method_1_code
def y_Yf_init : MethodName := ⟨"YearFractions", "<init>", "()V"⟩
abbrev b_Yf_row : ByteArray := prog_1_method_2_code
def y_Yf_row : MethodName := ⟨"YearFractions", "row", "(II)I"⟩
abbrev b_Yf_weight : ByteArray := prog_1_method_3_code
def y_Yf_weight : MethodName := ⟨"YearFractions", "weight", "(IIJ)Z"⟩
abbrev b_Yf_add : ByteArray := prog_1_method_4_code
def y_Yf_add : MethodName := ⟨"YearFractions", "add", "(II)I"⟩
abbrev b_Yf_times : ByteArray := prog_1_method_5_code
def y_Yf_times : MethodName := ⟨"YearFractions", "times", "(III)I"⟩
abbrev b_Yf_rest : ByteArray := prog_1_method_6_code
def y_Yf_rest : MethodName := ⟨"YearFractions", "rest", "()J"⟩
abbrev b_Yf_least : ByteArray := prog_1_method_7_code
def y_Yf_least : MethodName := ⟨"YearFractions", "least", "(III)I"⟩
abbrev b_Yf_span : ByteArray := prog_1_method_8_code
def y_Yf_span : MethodName := ⟨"YearFractions", "span", "(II)I"⟩
abbrev b_Yf_digit : ByteArray := prog_1_method_9_code
def y_Yf_digit : MethodName := ⟨"YearFractions", "digit", "(III)I"⟩
abbrev b_Yf_total : ByteArray := prog_1_method_10_code
def y_Yf_total : MethodName := ⟨"YearFractions", "total", "(II)I"⟩
abbrev b_Yf_compare : ByteArray := prog_1_method_11_code
def y_Yf_compare : MethodName := ⟨"YearFractions", "compare", "(IIII)I"⟩
abbrev b_Yf_about : ByteArray := prog_1_method_12_code
def y_Yf_about : MethodName := ⟨"YearFractions", "about", "(II)I"⟩
abbrev b_Yf_over : ByteArray := prog_1_method_13_code
def y_Yf_over : MethodName := ⟨"YearFractions", "over", "(JJ)J"⟩
abbrev b_Yf_written : ByteArray := prog_1_method_14_code
def y_Yf_written : MethodName := ⟨"YearFractions", "written", "(I)J"⟩
abbrev b_Yf_day : ByteArray := prog_1_method_15_code
def y_Yf_day : MethodName := ⟨"YearFractions", "day", "(IIII)I"⟩
abbrev b_Yf_date : ByteArray := prog_1_method_16_code
def y_Yf_date : MethodName := ⟨"YearFractions", "date", "(III)I"⟩
abbrev b_Yf_clear : ByteArray := prog_1_method_17_code
def y_Yf_clear : MethodName := ⟨"YearFractions", "clear", "()I"⟩
abbrev b_Yf_knownRow : ByteArray := prog_1_method_18_code
def y_Yf_knownRow : MethodName := ⟨"YearFractions", "knownRow", "(I)LYearFractions$Row;"⟩
abbrev b_Yf_knownRowWith : ByteArray := prog_1_method_19_code
def y_Yf_knownRowWith : MethodName := ⟨"YearFractions", "knownRowWith", "(II)LYearFractions$Row;"⟩
abbrev b_Yf_freeRow : ByteArray := prog_1_method_20_code
def y_Yf_freeRow : MethodName := ⟨"YearFractions", "freeRow", "()LYearFractions$Row;"⟩
abbrev b_Yf_keepFreeRow : ByteArray := prog_1_method_21_code
def y_Yf_keepFreeRow : MethodName := ⟨"YearFractions", "keepFreeRow", "()I"⟩
abbrev b_Yf_requireDigit : ByteArray := prog_1_method_22_code
def y_Yf_requireDigit : MethodName := ⟨"YearFractions", "requireDigit", "(II)V"⟩
abbrev b_Yf_requireCalendar : ByteArray := prog_1_method_23_code
def y_Yf_requireCalendar : MethodName := ⟨"YearFractions", "requireCalendar", "(I)V"⟩
abbrev b_Yf_storeWeight : ByteArray := prog_1_method_24_code
def y_Yf_storeWeight : MethodName := ⟨"YearFractions", "storeWeight", "(LYearFractions$Row;ILYearFractions$Whole;)V"⟩
abbrev b_Yf_gather : ByteArray := prog_1_method_25_code
def y_Yf_gather : MethodName := ⟨"YearFractions", "gather", "(LYearFractions$Row;LYearFractions$Whole;LYearFractions$Whole;)V"⟩
abbrev b_Yf_countWeighted : ByteArray := prog_1_method_26_code
def y_Yf_countWeighted : MethodName := ⟨"YearFractions", "countWeighted", "(LYearFractions$Row;)I"⟩
abbrev b_Yf_takeUntilEnough : ByteArray := prog_1_method_27_code
def y_Yf_takeUntilEnough : MethodName := ⟨"YearFractions", "takeUntilEnough", "(LYearFractions$Row;I)V"⟩
abbrev b_Mod_init : ByteArray := prog_7_method_1_code
def y_Mod_init : MethodName := ⟨"YearFractionsModel", "<init>", "()V"⟩
abbrev b_Mod_thrown : ByteArray := prog_7_method_2_code
def y_Mod_thrown : MethodName := ⟨"YearFractionsModel", "thrown", "()I"⟩
abbrev b_Mod_goes : ByteArray := prog_7_method_3_code
def y_Mod_goes : MethodName := ⟨"YearFractionsModel", "goes", "(ZZZZ)Z"⟩
abbrev b_Mod_within : ByteArray := prog_7_method_4_code
def y_Mod_within : MethodName := ⟨"YearFractionsModel", "within", "(III)Z"⟩
abbrev b_Mod_isRow : ByteArray := prog_7_method_5_code
def y_Mod_isRow : MethodName := ⟨"YearFractionsModel", "isRow", "(I)Z"⟩
abbrev b_Mod_has : ByteArray := prog_7_method_6_code
def y_Mod_has : MethodName := ⟨"YearFractionsModel", "has", "(II)Z"⟩
abbrev b_Mod_at : ByteArray := prog_7_method_7_code
def y_Mod_at : MethodName := ⟨"YearFractionsModel", "at", "(II)I"⟩
abbrev b_Mod_open : ByteArray := prog_7_method_8_code
def y_Mod_open : MethodName := ⟨"YearFractionsModel", "open", "(II)V"⟩
abbrev b_Mod_row : ByteArray := prog_7_method_9_code
def y_Mod_row : MethodName := ⟨"YearFractionsModel", "row", "(II)I"⟩
abbrev b_Mod_weight : ByteArray := prog_7_method_10_code
def y_Mod_weight : MethodName := ⟨"YearFractionsModel", "weight", "(IIJ)Z"⟩
abbrev b_Mod_blank : ByteArray := prog_7_method_11_code
def y_Mod_blank : MethodName := ⟨"YearFractionsModel", "blank", "()V"⟩
abbrev b_Mod_plus : ByteArray := prog_7_method_12_code
def y_Mod_plus : MethodName := ⟨"YearFractionsModel", "plus", "(II)V"⟩
abbrev b_Mod_keep : ByteArray := prog_7_method_13_code
def y_Mod_keep : MethodName := ⟨"YearFractionsModel", "keep", "(II)Z"⟩
abbrev b_Mod_add : ByteArray := prog_7_method_14_code
def y_Mod_add : MethodName := ⟨"YearFractionsModel", "add", "(II)I"⟩
abbrev b_Mod_multiply : ByteArray := prog_7_method_15_code
def y_Mod_multiply : MethodName := ⟨"YearFractionsModel", "multiply", "(II)V"⟩
abbrev b_Mod_divide : ByteArray := prog_7_method_16_code
def y_Mod_divide : MethodName := ⟨"YearFractionsModel", "divide", "(I)J"⟩
abbrev b_Mod_times : ByteArray := prog_7_method_17_code
def y_Mod_times : MethodName := ⟨"YearFractionsModel", "times", "(III)I"⟩
abbrev b_Mod_rest : ByteArray := prog_7_method_18_code
def y_Mod_rest : MethodName := ⟨"YearFractionsModel", "rest", "()J"⟩
abbrev b_Mod_compared : ByteArray := prog_7_method_19_code
def y_Mod_compared : MethodName := ⟨"YearFractionsModel", "compared", "(II)I"⟩
abbrev b_Mod_sumUp : ByteArray := prog_7_method_20_code
def y_Mod_sumUp : MethodName := ⟨"YearFractionsModel", "sumUp", "(IZ)V"⟩
abbrev b_Mod_grow : ByteArray := prog_7_method_21_code
def y_Mod_grow : MethodName := ⟨"YearFractionsModel", "grow", "(I)V"⟩
abbrev b_Mod_enough : ByteArray := prog_7_method_22_code
def y_Mod_enough : MethodName := ⟨"YearFractionsModel", "enough", "(III)Z"⟩
abbrev b_Mod_isNothing : ByteArray := prog_7_method_23_code
def y_Mod_isNothing : MethodName := ⟨"YearFractionsModel", "isNothing", "(I)Z"⟩
abbrev b_Mod_least : ByteArray := prog_7_method_24_code
def y_Mod_least : MethodName := ⟨"YearFractionsModel", "least", "(III)I"⟩
abbrev b_Mod_span : ByteArray := prog_7_method_25_code
def y_Mod_span : MethodName := ⟨"YearFractionsModel", "span", "(II)I"⟩
abbrev b_Mod_digit : ByteArray := prog_7_method_26_code
def y_Mod_digit : MethodName := ⟨"YearFractionsModel", "digit", "(III)I"⟩
abbrev b_Mod_total : ByteArray := prog_7_method_27_code
def y_Mod_total : MethodName := ⟨"YearFractionsModel", "total", "(II)I"⟩
abbrev b_Mod_compare : ByteArray := prog_7_method_28_code
def y_Mod_compare : MethodName := ⟨"YearFractionsModel", "compare", "(IIII)I"⟩
abbrev b_Mod_about : ByteArray := prog_7_method_29_code
def y_Mod_about : MethodName := ⟨"YearFractionsModel", "about", "(II)I"⟩
abbrev b_Mod_over : ByteArray := prog_7_method_30_code
def y_Mod_over : MethodName := ⟨"YearFractionsModel", "over", "(JJ)J"⟩
abbrev b_Mod_written : ByteArray := prog_7_method_31_code
def y_Mod_written : MethodName := ⟨"YearFractionsModel", "written", "(I)J"⟩
abbrev b_Mod_rest_2 : ByteArray := prog_7_method_32_code
def y_Mod_rest_2 : MethodName := ⟨"YearFractionsModel", "rest", "(II)I"⟩
abbrev b_Mod_isLeap : ByteArray := prog_7_method_33_code
def y_Mod_isLeap : MethodName := ⟨"YearFractionsModel", "isLeap", "(II)Z"⟩
abbrev b_Mod_yearDays : ByteArray := prog_7_method_34_code
def y_Mod_yearDays : MethodName := ⟨"YearFractionsModel", "yearDays", "(II)I"⟩
abbrev b_Mod_months : ByteArray := prog_7_method_35_code
def y_Mod_months : MethodName := ⟨"YearFractionsModel", "months", "(I)I"⟩
abbrev b_Mod_monthDays : ByteArray := prog_7_method_36_code
def y_Mod_monthDays : MethodName := ⟨"YearFractionsModel", "monthDays", "(III)I"⟩
abbrev b_Mod_cycle : ByteArray := prog_7_method_37_code
def y_Mod_cycle : MethodName := ⟨"YearFractionsModel", "cycle", "(I)I"⟩
abbrev b_Mod_cycleDays : ByteArray := prog_7_method_38_code
def y_Mod_cycleDays : MethodName := ⟨"YearFractionsModel", "cycleDays", "(I)I"⟩
abbrev b_Mod_origin : ByteArray := prog_7_method_39_code
def y_Mod_origin : MethodName := ⟨"YearFractionsModel", "origin", "(I)I"⟩
abbrev b_Mod_behind : ByteArray := prog_7_method_40_code
def y_Mod_behind : MethodName := ⟨"YearFractionsModel", "behind", "(II)I"⟩
abbrev b_Mod_firstOf : ByteArray := prog_7_method_41_code
def y_Mod_firstOf : MethodName := ⟨"YearFractionsModel", "firstOf", "(II)I"⟩
abbrev b_Mod_day : ByteArray := prog_7_method_42_code
def y_Mod_day : MethodName := ⟨"YearFractionsModel", "day", "(IIII)I"⟩
abbrev b_Mod_date : ByteArray := prog_7_method_43_code
def y_Mod_date : MethodName := ⟨"YearFractionsModel", "date", "(III)I"⟩
abbrev b_Mod_clear : ByteArray := prog_7_method_44_code
def y_Mod_clear : MethodName := ⟨"YearFractionsModel", "clear", "()I"⟩
abbrev b_Cal_months : ByteArray := prog_2_method_2_code
def y_Cal_months : MethodName := ⟨"YearFractions$Calendars", "months", "(I)I"⟩
abbrev b_Cal_isLeap : ByteArray := prog_2_method_3_code
def y_Cal_isLeap : MethodName := ⟨"YearFractions$Calendars", "isLeap", "(II)Z"⟩
abbrev b_Cal_isLunarLeap : ByteArray := prog_2_method_4_code
def y_Cal_isLunarLeap : MethodName := ⟨"YearFractions$Calendars", "isLunarLeap", "(I)Z"⟩
abbrev b_Cal_lunarLeapsTo : ByteArray := prog_2_method_5_code
def y_Cal_lunarLeapsTo : MethodName := ⟨"YearFractions$Calendars", "lunarLeapsTo", "(I)I"⟩
abbrev b_Cal_monthDays : ByteArray := prog_2_method_6_code
def y_Cal_monthDays : MethodName := ⟨"YearFractions$Calendars", "monthDays", "(III)I"⟩
abbrev b_Cal_daysAhead : ByteArray := prog_2_method_7_code
def y_Cal_daysAhead : MethodName := ⟨"YearFractions$Calendars", "daysAhead", "(III)I"⟩
abbrev b_Cal_newYear : ByteArray := prog_2_method_8_code
def y_Cal_newYear : MethodName := ⟨"YearFractions$Calendars", "newYear", "(II)I"⟩
abbrev b_Cal_yearOf : ByteArray := prog_2_method_9_code
def y_Cal_yearOf : MethodName := ⟨"YearFractions$Calendars", "yearOf", "(II)I"⟩
abbrev b_Cal_monthOf : ByteArray := prog_2_method_10_code
def y_Cal_monthOf : MethodName := ⟨"YearFractions$Calendars", "monthOf", "(III)I"⟩
abbrev b_Set_init : ByteArray := prog_3_method_1_code
def y_Set_init : MethodName := ⟨"YearFractions$LeastSet", "<init>", "()V"⟩
abbrev b_Set_rank : ByteArray := prog_3_method_2_code
def y_Set_rank : MethodName := ⟨"YearFractions$LeastSet", "rank", "(LYearFractions$Row;)V"⟩
abbrev b_Set_take : ByteArray := prog_3_method_3_code
def y_Set_take : MethodName := ⟨"YearFractions$LeastSet", "take", "(LYearFractions$Row;I)I"⟩
abbrev b_Set_findSpans : ByteArray := prog_3_method_4_code
def y_Set_findSpans : MethodName := ⟨"YearFractions$LeastSet", "findSpans", "(LYearFractions$Row;)V"⟩
abbrev b_Row_init : ByteArray := prog_4_method_1_code
def y_Row_init : MethodName := ⟨"YearFractions$Row", "<init>", "()V"⟩
abbrev b_Row_open : ByteArray := prog_4_method_2_code
def y_Row_open : MethodName := ⟨"YearFractions$Row", "open", "(II)V"⟩
abbrev b_Row_last : ByteArray := prog_4_method_3_code
def y_Row_last : MethodName := ⟨"YearFractions$Row", "last", "()I"⟩
abbrev b_Row_has : ByteArray := prog_4_method_4_code
def y_Row_has : MethodName := ⟨"YearFractions$Row", "has", "(I)Z"⟩
abbrev b_Row_read : ByteArray := prog_4_method_5_code
def y_Row_read : MethodName := ⟨"YearFractions$Row", "read", "(ILYearFractions$Whole;)V"⟩
abbrev b_Row_write : ByteArray := prog_4_method_6_code
def y_Row_write : MethodName := ⟨"YearFractions$Row", "write", "(ILYearFractions$Whole;)V"⟩
abbrev b_Row_isLess : ByteArray := prog_4_method_7_code
def y_Row_isLess : MethodName := ⟨"YearFractions$Row", "isLess", "(II)Z"⟩
abbrev b_Who_init : ByteArray := prog_5_method_1_code
def y_Who_init : MethodName := ⟨"YearFractions$Whole", "<init>", "()V"⟩
abbrev b_Who_become : ByteArray := prog_5_method_2_code
def y_Who_become : MethodName := ⟨"YearFractions$Whole", "become", "(J)V"⟩
abbrev b_Who_increase : ByteArray := prog_5_method_3_code
def y_Who_increase : MethodName := ⟨"YearFractions$Whole", "increase", "(LYearFractions$Whole;)V"⟩
abbrev b_Who_becomeScaled : ByteArray := prog_5_method_4_code
def y_Who_becomeScaled : MethodName := ⟨"YearFractions$Whole", "becomeScaled", "(LYearFractions$Whole;J)V"⟩
abbrev b_Who_becomeProduct : ByteArray := prog_5_method_5_code
def y_Who_becomeProduct : MethodName := ⟨"YearFractions$Whole", "becomeProduct", "(LYearFractions$Whole;LYearFractions$Whole;)V"⟩
abbrev b_Who_divide : ByteArray := prog_5_method_6_code
def y_Who_divide : MethodName := ⟨"YearFractions$Whole", "divide", "(I)J"⟩
abbrev b_Who_order : ByteArray := prog_5_method_7_code
def y_Who_order : MethodName := ⟨"YearFractions$Whole", "order", "(LYearFractions$Whole;)I"⟩
abbrev b_Who_isZero : ByteArray := prog_5_method_8_code
def y_Who_isZero : MethodName := ⟨"YearFractions$Whole", "isZero", "()Z"⟩
abbrev b_Who_isWeight : ByteArray := prog_5_method_9_code
def y_Who_isWeight : MethodName := ⟨"YearFractions$Whole", "isWeight", "()Z"⟩
abbrev b_Who_digitAt : ByteArray := prog_5_method_10_code
def y_Who_digitAt : MethodName := ⟨"YearFractions$Whole", "digitAt", "(I)I"⟩
abbrev b_Law_row : ByteArray := method_3_code
def y_Law_row : MethodName := ⟨"YearFractionsLaw", "row", "(LYearFractions;II[J)I"⟩
abbrev b_Law_weight : ByteArray := method_4_code
def y_Law_weight : MethodName := ⟨"YearFractionsLaw", "weight", "(LYearFractions;IIJ[J)I"⟩
abbrev b_Law_add : ByteArray := method_5_code
def y_Law_add : MethodName := ⟨"YearFractionsLaw", "add", "(LYearFractions;II[J)I"⟩
abbrev b_Law_times : ByteArray := method_6_code
def y_Law_times : MethodName := ⟨"YearFractionsLaw", "times", "(LYearFractions;III[J)I"⟩
abbrev b_Law_least : ByteArray := method_7_code
def y_Law_least : MethodName := ⟨"YearFractionsLaw", "least", "(LYearFractions;III[J)I"⟩
abbrev b_Law_span : ByteArray := method_8_code
def y_Law_span : MethodName := ⟨"YearFractionsLaw", "span", "(LYearFractions;II[J)I"⟩
abbrev b_Law_digit : ByteArray := method_9_code
def y_Law_digit : MethodName := ⟨"YearFractionsLaw", "digit", "(LYearFractions;III[J)I"⟩
abbrev b_Law_total : ByteArray := method_10_code
def y_Law_total : MethodName := ⟨"YearFractionsLaw", "total", "(LYearFractions;II[J)I"⟩
abbrev b_Law_compare : ByteArray := method_11_code
def y_Law_compare : MethodName := ⟨"YearFractionsLaw", "compare", "(LYearFractions;IIII[J)I"⟩
abbrev b_Law_about : ByteArray := method_12_code
def y_Law_about : MethodName := ⟨"YearFractionsLaw", "about", "(LYearFractions;II[J)I"⟩
abbrev b_Law_over : ByteArray := method_13_code
def y_Law_over : MethodName := ⟨"YearFractionsLaw", "over", "(LYearFractions;JJ[J)I"⟩
abbrev b_Law_day : ByteArray := method_14_code
def y_Law_day : MethodName := ⟨"YearFractionsLaw", "day", "(LYearFractions;IIII[J)I"⟩
abbrev b_Law_date : ByteArray := method_15_code
def y_Law_date : MethodName := ⟨"YearFractionsLaw", "date", "(LYearFractions;III[J)I"⟩
def F_Set : u_T := fun k => match k with
  | 0 => ("YearFractions$LeastSet", "ranked", "[I", true)
  | 1 => ("YearFractions$LeastSet", "taken", "[Z", true)
  | 2 => ("YearFractions$LeastSet", "spans", "I", false)
  | 3 => ("YearFractions$LeastSet", "firsts", "[I", true)
  | _ => ("YearFractions$LeastSet", "lasts", "[I", true)
def t_Set : Nat → FieldType := fun k => match k with
  | 0 => (.array .int)
  | 1 => (.array .boolean)
  | 2 => .int
  | 3 => (.array .int)
  | _ => (.array .int)
theorem nm_Set : ∀ a, a < 5 → ∀ b, b < 5 → a ≠ b → (F_Set a).2.1 ≠ (F_Set b).2.1 := by decide +kernel
theorem tok_Set : ∀ k, k < 5 → parseFieldDescriptor (F_Set k).2.2.1 = some (t_Set k) := by decide +kernel
theorem in_Set : ∀ w ∈ u_ws R_Set F_Set 5, w ∈ yW := by decide +kernel
def F_Row : u_T := fun k => match k with
  | 0 => ("YearFractions$Row", "first", "I", false)
  | 1 => ("YearFractions$Row", "many", "I", false)
  | _ => ("YearFractions$Row", "parts", "[J", true)
def t_Row : Nat → FieldType := fun k => match k with
  | 0 => .int
  | 1 => .int
  | _ => (.array .long)
theorem nm_Row : ∀ a, a < 3 → ∀ b, b < 3 → a ≠ b → (F_Row a).2.1 ≠ (F_Row b).2.1 := by decide +kernel
theorem tok_Row : ∀ k, k < 3 → parseFieldDescriptor (F_Row k).2.2.1 = some (t_Row k) := by decide +kernel
theorem in_Row : ∀ w ∈ u_ws R_Row F_Row 3, w ∈ yW := by decide +kernel
def F_Who : u_T := fun k => match k with
  | _ => ("YearFractions$Whole", "parts", "[J", true)
def t_Who : Nat → FieldType := fun k => match k with
  | _ => (.array .long)
theorem nm_Who : ∀ a, a < 1 → ∀ b, b < 1 → a ≠ b → (F_Who a).2.1 ≠ (F_Who b).2.1 := by decide +kernel
theorem tok_Who : ∀ k, k < 1 → parseFieldDescriptor (F_Who k).2.2.1 = some (t_Who k) := by decide +kernel
theorem in_Who : ∀ w ∈ u_ws R_Who F_Who 1, w ∈ yW := by decide +kernel
def F_Yf : u_T := fun k => match k with
  | 0 => ("YearFractions", "rows", "[LYearFractions$Row;", true)
  | 1 => ("YearFractions", "rowCount", "I", false)
  | 2 => ("YearFractions", "rests", "J", false)
  | 3 => ("YearFractions", "latestSet", "LYearFractions$LeastSet;", true)
  | 4 => ("YearFractions", "left", "LYearFractions$Whole;", true)
  | 5 => ("YearFractions", "right", "LYearFractions$Whole;", true)
  | _ => ("YearFractions", "result", "LYearFractions$Whole;", true)
def t_Yf : Nat → FieldType := fun k => match k with
  | 0 => (.array (.object "YearFractions$Row"))
  | 1 => .int
  | 2 => .long
  | 3 => (.object "YearFractions$LeastSet")
  | 4 => (.object "YearFractions$Whole")
  | 5 => (.object "YearFractions$Whole")
  | _ => (.object "YearFractions$Whole")
theorem nm_Yf : ∀ a, a < 7 → ∀ b, b < 7 → a ≠ b → (F_Yf a).2.1 ≠ (F_Yf b).2.1 := by decide +kernel
theorem tok_Yf : ∀ k, k < 7 → parseFieldDescriptor (F_Yf k).2.2.1 = some (t_Yf k) := by decide +kernel
theorem in_Yf : ∀ w ∈ u_ws R_Yf F_Yf 7, w ∈ yW := by decide +kernel
def F_Mod : u_T := fun k => match k with
  | 0 => ("YearFractionsModel", "thrown", "I", false)
  | 1 => ("YearFractionsModel", "rows", "I", false)
  | 2 => ("YearFractionsModel", "firsts", "[I", true)
  | 3 => ("YearFractionsModel", "sizes", "[I", true)
  | 4 => ("YearFractionsModel", "digits", "[I", true)
  | 5 => ("YearFractionsModel", "rests", "J", false)
  | 6 => ("YearFractionsModel", "spans", "I", false)
  | 7 => ("YearFractionsModel", "starts", "[I", true)
  | 8 => ("YearFractionsModel", "ends", "[I", true)
  | 9 => ("YearFractionsModel", "wide", "[I", true)
  | 10 => ("YearFractionsModel", "other", "[I", true)
  | _ => ("YearFractionsModel", "chosen", "[Z", true)
def t_Mod : Nat → FieldType := fun k => match k with
  | 0 => .int
  | 1 => .int
  | 2 => (.array .int)
  | 3 => (.array .int)
  | 4 => (.array .int)
  | 5 => .long
  | 6 => .int
  | 7 => (.array .int)
  | 8 => (.array .int)
  | 9 => (.array .int)
  | 10 => (.array .int)
  | _ => (.array .boolean)
theorem nm_Mod : ∀ a, a < 12 → ∀ b, b < 12 → a ≠ b → (F_Mod a).2.1 ≠ (F_Mod b).2.1 := by decide +kernel
theorem tok_Mod : ∀ k, k < 12 → parseFieldDescriptor (F_Mod k).2.2.1 = some (t_Mod k) := by decide +kernel
theorem in_Mod : ∀ w ∈ u_ws R_Mod F_Mod 12, w ∈ yW := by decide +kernel
abbrev vwCl : List vw_C := [(R_Set, F_Set, 5), (R_Row, F_Row, 3), (R_Who, F_Who, 1), (R_Yf, F_Yf, 7), (R_Mod, F_Mod, 12)]
end
section
theorem d_Cal_months_0 : decode b_Cal_months 0 = .ok (.iload_n 0, 1) := by decide +kernel
theorem d_Cal_months_1 : decode b_Cal_months 1 = .ok (.iconst 3, 1) := by decide +kernel
theorem d_Cal_months_2 : decode b_Cal_months 2 = .ok (.if_icmp .ne 8, 3) := by decide +kernel
theorem d_Cal_months_5 : decode b_Cal_months 5 = .ok (.bipush 13, 2) := by decide +kernel
theorem d_Cal_months_7 : decode b_Cal_months 7 = .ok (.goto 5, 3) := by decide +kernel
theorem d_Cal_months_10 : decode b_Cal_months 10 = .ok (.bipush 12, 2) := by decide +kernel
theorem d_Cal_months_12 : decode b_Cal_months 12 = .ok (.ireturn, 1) := by decide +kernel
theorem d_Cal_isLeap_0 : decode b_Cal_isLeap 0 = .ok (.iload_n 0, 1) := by decide +kernel
theorem d_Cal_isLeap_1 : decode b_Cal_isLeap 1 = .ok (.tableswitch 84 0 2 #[27, 60, 74], 27) := by decide +kernel
theorem d_Cal_isLeap_28 : decode b_Cal_isLeap 28 = .ok (.iload_n 1, 1) := by decide +kernel
theorem d_Cal_isLeap_29 : decode b_Cal_isLeap 29 = .ok (.iconst 4, 1) := by decide +kernel
theorem d_Cal_isLeap_30 : decode b_Cal_isLeap 30 = .ok (.invokestatic 9, 3) := by decide +kernel
theorem d_Cal_isLeap_33 : decode b_Cal_isLeap 33 = .ok (.ifCond .ne 26, 3) := by decide +kernel
theorem d_Cal_isLeap_36 : decode b_Cal_isLeap 36 = .ok (.iload_n 1, 1) := by decide +kernel
theorem d_Cal_isLeap_37 : decode b_Cal_isLeap 37 = .ok (.bipush 100, 2) := by decide +kernel
theorem d_Cal_isLeap_39 : decode b_Cal_isLeap 39 = .ok (.invokestatic 9, 3) := by decide +kernel
theorem d_Cal_isLeap_42 : decode b_Cal_isLeap 42 = .ok (.ifCond .ne 13, 3) := by decide +kernel
theorem d_Cal_isLeap_45 : decode b_Cal_isLeap 45 = .ok (.iload_n 1, 1) := by decide +kernel
theorem d_Cal_isLeap_46 : decode b_Cal_isLeap 46 = .ok (.sipush 400, 3) := by decide +kernel
theorem d_Cal_isLeap_49 : decode b_Cal_isLeap 49 = .ok (.invokestatic 9, 3) := by decide +kernel
theorem d_Cal_isLeap_52 : decode b_Cal_isLeap 52 = .ok (.ifCond .ne 7, 3) := by decide +kernel
theorem d_Cal_isLeap_55 : decode b_Cal_isLeap 55 = .ok (.iconst 1, 1) := by decide +kernel
theorem d_Cal_isLeap_56 : decode b_Cal_isLeap 56 = .ok (.goto 4, 3) := by decide +kernel
theorem d_Cal_isLeap_59 : decode b_Cal_isLeap 59 = .ok (.iconst 0, 1) := by decide +kernel
theorem d_Cal_isLeap_60 : decode b_Cal_isLeap 60 = .ok (.ireturn, 1) := by decide +kernel
theorem d_Cal_isLeap_61 : decode b_Cal_isLeap 61 = .ok (.iload_n 1, 1) := by decide +kernel
theorem d_Cal_isLeap_62 : decode b_Cal_isLeap 62 = .ok (.iconst 4, 1) := by decide +kernel
theorem d_Cal_isLeap_63 : decode b_Cal_isLeap 63 = .ok (.invokestatic 9, 3) := by decide +kernel
theorem d_Cal_isLeap_66 : decode b_Cal_isLeap 66 = .ok (.ifCond .ne 7, 3) := by decide +kernel
theorem d_Cal_isLeap_69 : decode b_Cal_isLeap 69 = .ok (.iconst 1, 1) := by decide +kernel
theorem d_Cal_isLeap_70 : decode b_Cal_isLeap 70 = .ok (.goto 4, 3) := by decide +kernel
theorem d_Cal_isLeap_73 : decode b_Cal_isLeap 73 = .ok (.iconst 0, 1) := by decide +kernel
theorem d_Cal_isLeap_74 : decode b_Cal_isLeap 74 = .ok (.ireturn, 1) := by decide +kernel
theorem d_Cal_isLeap_75 : decode b_Cal_isLeap 75 = .ok (.iload_n 1, 1) := by decide +kernel
theorem d_Cal_isLeap_76 : decode b_Cal_isLeap 76 = .ok (.bipush 30, 2) := by decide +kernel
theorem d_Cal_isLeap_78 : decode b_Cal_isLeap 78 = .ok (.invokestatic 9, 3) := by decide +kernel
theorem d_Cal_isLeap_81 : decode b_Cal_isLeap 81 = .ok (.invokestatic 15, 3) := by decide +kernel
theorem d_Cal_isLeap_84 : decode b_Cal_isLeap 84 = .ok (.ireturn, 1) := by decide +kernel
theorem d_Cal_isLeap_85 : decode b_Cal_isLeap 85 = .ok (.iconst 0, 1) := by decide +kernel
theorem d_Cal_isLeap_86 : decode b_Cal_isLeap 86 = .ok (.ireturn, 1) := by decide +kernel
theorem d_Cal_isLunarLeap_0 : decode b_Cal_isLunarLeap 0 = .ok (.getstatic 19, 3) := by decide +kernel
theorem d_Cal_isLunarLeap_3 : decode b_Cal_isLunarLeap 3 = .ok (.astore_n 1, 1) := by decide +kernel
theorem d_Cal_isLunarLeap_4 : decode b_Cal_isLunarLeap 4 = .ok (.aload_n 1, 1) := by decide +kernel
theorem d_Cal_isLunarLeap_5 : decode b_Cal_isLunarLeap 5 = .ok (.arraylength, 1) := by decide +kernel
theorem d_Cal_isLunarLeap_6 : decode b_Cal_isLunarLeap 6 = .ok (.istore_n 2, 1) := by decide +kernel
theorem d_Cal_isLunarLeap_7 : decode b_Cal_isLunarLeap 7 = .ok (.iconst 0, 1) := by decide +kernel
theorem d_Cal_isLunarLeap_8 : decode b_Cal_isLunarLeap 8 = .ok (.istore_n 3, 1) := by decide +kernel
theorem d_Cal_isLunarLeap_9 : decode b_Cal_isLunarLeap 9 = .ok (.iload_n 3, 1) := by decide +kernel
theorem d_Cal_isLunarLeap_10 : decode b_Cal_isLunarLeap 10 = .ok (.iload_n 2, 1) := by decide +kernel
theorem d_Cal_isLunarLeap_11 : decode b_Cal_isLunarLeap 11 = .ok (.if_icmp .ge 22, 3) := by decide +kernel
theorem d_Cal_isLunarLeap_14 : decode b_Cal_isLunarLeap 14 = .ok (.aload_n 1, 1) := by decide +kernel
theorem d_Cal_isLunarLeap_15 : decode b_Cal_isLunarLeap 15 = .ok (.iload_n 3, 1) := by decide +kernel
theorem d_Cal_isLunarLeap_16 : decode b_Cal_isLunarLeap 16 = .ok (.iaload, 1) := by decide +kernel
theorem d_Cal_isLunarLeap_17 : decode b_Cal_isLunarLeap 17 = .ok (.istore 4, 2) := by decide +kernel
theorem d_Cal_isLunarLeap_19 : decode b_Cal_isLunarLeap 19 = .ok (.iload 4, 2) := by decide +kernel
theorem d_Cal_isLunarLeap_21 : decode b_Cal_isLunarLeap 21 = .ok (.iload_n 0, 1) := by decide +kernel
theorem d_Cal_isLunarLeap_22 : decode b_Cal_isLunarLeap 22 = .ok (.if_icmp .ne 5, 3) := by decide +kernel
theorem d_Cal_isLunarLeap_25 : decode b_Cal_isLunarLeap 25 = .ok (.iconst 1, 1) := by decide +kernel
theorem d_Cal_isLunarLeap_26 : decode b_Cal_isLunarLeap 26 = .ok (.ireturn, 1) := by decide +kernel
theorem d_Cal_isLunarLeap_27 : decode b_Cal_isLunarLeap 27 = .ok (.iinc 3 1, 3) := by decide +kernel
theorem d_Cal_isLunarLeap_30 : decode b_Cal_isLunarLeap 30 = .ok (.goto (-21), 3) := by decide +kernel
theorem d_Cal_isLunarLeap_33 : decode b_Cal_isLunarLeap 33 = .ok (.iconst 0, 1) := by decide +kernel
theorem d_Cal_isLunarLeap_34 : decode b_Cal_isLunarLeap 34 = .ok (.ireturn, 1) := by decide +kernel
theorem d_Cal_lunarLeapsTo_0 : decode b_Cal_lunarLeapsTo 0 = .ok (.iconst 0, 1) := by decide +kernel
theorem d_Cal_lunarLeapsTo_1 : decode b_Cal_lunarLeapsTo 1 = .ok (.istore_n 1, 1) := by decide +kernel
theorem d_Cal_lunarLeapsTo_2 : decode b_Cal_lunarLeapsTo 2 = .ok (.getstatic 19, 3) := by decide +kernel
theorem d_Cal_lunarLeapsTo_5 : decode b_Cal_lunarLeapsTo 5 = .ok (.astore_n 2, 1) := by decide +kernel
theorem d_Cal_lunarLeapsTo_6 : decode b_Cal_lunarLeapsTo 6 = .ok (.aload_n 2, 1) := by decide +kernel
theorem d_Cal_lunarLeapsTo_7 : decode b_Cal_lunarLeapsTo 7 = .ok (.arraylength, 1) := by decide +kernel
theorem d_Cal_lunarLeapsTo_8 : decode b_Cal_lunarLeapsTo 8 = .ok (.istore_n 3, 1) := by decide +kernel
theorem d_Cal_lunarLeapsTo_9 : decode b_Cal_lunarLeapsTo 9 = .ok (.iconst 0, 1) := by decide +kernel
theorem d_Cal_lunarLeapsTo_10 : decode b_Cal_lunarLeapsTo 10 = .ok (.istore 4, 2) := by decide +kernel
theorem d_Cal_lunarLeapsTo_12 : decode b_Cal_lunarLeapsTo 12 = .ok (.iload 4, 2) := by decide +kernel
theorem d_Cal_lunarLeapsTo_14 : decode b_Cal_lunarLeapsTo 14 = .ok (.iload_n 3, 1) := by decide +kernel
theorem d_Cal_lunarLeapsTo_15 : decode b_Cal_lunarLeapsTo 15 = .ok (.if_icmp .ge 24, 3) := by decide +kernel
theorem d_Cal_lunarLeapsTo_18 : decode b_Cal_lunarLeapsTo 18 = .ok (.aload_n 2, 1) := by decide +kernel
theorem d_Cal_lunarLeapsTo_19 : decode b_Cal_lunarLeapsTo 19 = .ok (.iload 4, 2) := by decide +kernel
theorem d_Cal_lunarLeapsTo_21 : decode b_Cal_lunarLeapsTo 21 = .ok (.iaload, 1) := by decide +kernel
theorem d_Cal_lunarLeapsTo_22 : decode b_Cal_lunarLeapsTo 22 = .ok (.istore 5, 2) := by decide +kernel
theorem d_Cal_lunarLeapsTo_24 : decode b_Cal_lunarLeapsTo 24 = .ok (.iload 5, 2) := by decide +kernel
theorem d_Cal_lunarLeapsTo_26 : decode b_Cal_lunarLeapsTo 26 = .ok (.iload_n 0, 1) := by decide +kernel
theorem d_Cal_lunarLeapsTo_27 : decode b_Cal_lunarLeapsTo 27 = .ok (.if_icmp .gt 6, 3) := by decide +kernel
theorem d_Cal_lunarLeapsTo_30 : decode b_Cal_lunarLeapsTo 30 = .ok (.iinc 1 1, 3) := by decide +kernel
theorem d_Cal_lunarLeapsTo_33 : decode b_Cal_lunarLeapsTo 33 = .ok (.iinc 4 1, 3) := by decide +kernel
theorem d_Cal_lunarLeapsTo_36 : decode b_Cal_lunarLeapsTo 36 = .ok (.goto (-24), 3) := by decide +kernel
theorem d_Cal_lunarLeapsTo_39 : decode b_Cal_lunarLeapsTo 39 = .ok (.iload_n 1, 1) := by decide +kernel
theorem d_Cal_lunarLeapsTo_40 : decode b_Cal_lunarLeapsTo 40 = .ok (.ireturn, 1) := by decide +kernel
theorem d_Cal_monthDays_0 : decode b_Cal_monthDays 0 = .ok (.iload_n 0, 1) := by decide +kernel
theorem d_Cal_monthDays_1 : decode b_Cal_monthDays 1 = .ok (.lookupswitch 69 #[(2, 27), (3, 56)], 27) := by decide +kernel
theorem d_Cal_monthDays_28 : decode b_Cal_monthDays 28 = .ok (.iload_n 2, 1) := by decide +kernel
theorem d_Cal_monthDays_29 : decode b_Cal_monthDays 29 = .ok (.iconst 2, 1) := by decide +kernel
theorem d_Cal_monthDays_30 : decode b_Cal_monthDays 30 = .ok (.irem, 1) := by decide +kernel
theorem d_Cal_monthDays_31 : decode b_Cal_monthDays 31 = .ok (.iconst 1, 1) := by decide +kernel
theorem d_Cal_monthDays_32 : decode b_Cal_monthDays 32 = .ok (.if_icmp .eq 17, 3) := by decide +kernel
theorem d_Cal_monthDays_35 : decode b_Cal_monthDays 35 = .ok (.iload_n 2, 1) := by decide +kernel
theorem d_Cal_monthDays_36 : decode b_Cal_monthDays 36 = .ok (.bipush 12, 2) := by decide +kernel
theorem d_Cal_monthDays_38 : decode b_Cal_monthDays 38 = .ok (.if_icmp .ne 16, 3) := by decide +kernel
theorem d_Cal_monthDays_41 : decode b_Cal_monthDays 41 = .ok (.iload_n 0, 1) := by decide +kernel
theorem d_Cal_monthDays_42 : decode b_Cal_monthDays 42 = .ok (.iload_n 1, 1) := by decide +kernel
theorem d_Cal_monthDays_43 : decode b_Cal_monthDays 43 = .ok (.invokestatic 23, 3) := by decide +kernel
theorem d_Cal_monthDays_46 : decode b_Cal_monthDays 46 = .ok (.ifCond .eq 8, 3) := by decide +kernel
theorem d_Cal_monthDays_49 : decode b_Cal_monthDays 49 = .ok (.bipush 30, 2) := by decide +kernel
theorem d_Cal_monthDays_51 : decode b_Cal_monthDays 51 = .ok (.goto 5, 3) := by decide +kernel
theorem d_Cal_monthDays_54 : decode b_Cal_monthDays 54 = .ok (.bipush 29, 2) := by decide +kernel
theorem d_Cal_monthDays_56 : decode b_Cal_monthDays 56 = .ok (.ireturn, 1) := by decide +kernel
theorem d_Cal_monthDays_57 : decode b_Cal_monthDays 57 = .ok (.iload_n 2, 1) := by decide +kernel
theorem d_Cal_monthDays_58 : decode b_Cal_monthDays 58 = .ok (.bipush 13, 2) := by decide +kernel
theorem d_Cal_monthDays_60 : decode b_Cal_monthDays 60 = .ok (.if_icmp .ne 7, 3) := by decide +kernel
theorem d_Cal_monthDays_63 : decode b_Cal_monthDays 63 = .ok (.iconst 5, 1) := by decide +kernel
theorem d_Cal_monthDays_64 : decode b_Cal_monthDays 64 = .ok (.goto 5, 3) := by decide +kernel
theorem d_Cal_monthDays_67 : decode b_Cal_monthDays 67 = .ok (.bipush 30, 2) := by decide +kernel
theorem d_Cal_monthDays_69 : decode b_Cal_monthDays 69 = .ok (.ireturn, 1) := by decide +kernel
theorem d_Cal_monthDays_70 : decode b_Cal_monthDays 70 = .ok (.iload_n 2, 1) := by decide +kernel
theorem d_Cal_monthDays_71 : decode b_Cal_monthDays 71 = .ok (.iconst 2, 1) := by decide +kernel
theorem d_Cal_monthDays_72 : decode b_Cal_monthDays 72 = .ok (.if_icmp .ne 16, 3) := by decide +kernel
theorem d_Cal_monthDays_75 : decode b_Cal_monthDays 75 = .ok (.iload_n 0, 1) := by decide +kernel
theorem d_Cal_monthDays_76 : decode b_Cal_monthDays 76 = .ok (.iload_n 1, 1) := by decide +kernel
theorem d_Cal_monthDays_77 : decode b_Cal_monthDays 77 = .ok (.invokestatic 23, 3) := by decide +kernel
theorem d_Cal_monthDays_80 : decode b_Cal_monthDays 80 = .ok (.ifCond .eq 8, 3) := by decide +kernel
theorem d_Cal_monthDays_83 : decode b_Cal_monthDays 83 = .ok (.bipush 29, 2) := by decide +kernel
theorem d_Cal_monthDays_85 : decode b_Cal_monthDays 85 = .ok (.goto 10, 3) := by decide +kernel
theorem d_Cal_monthDays_88 : decode b_Cal_monthDays 88 = .ok (.getstatic 27, 3) := by decide +kernel
theorem d_Cal_monthDays_91 : decode b_Cal_monthDays 91 = .ok (.iload_n 2, 1) := by decide +kernel
theorem d_Cal_monthDays_92 : decode b_Cal_monthDays 92 = .ok (.iconst 1, 1) := by decide +kernel
theorem d_Cal_monthDays_93 : decode b_Cal_monthDays 93 = .ok (.isub, 1) := by decide +kernel
theorem d_Cal_monthDays_94 : decode b_Cal_monthDays 94 = .ok (.iaload, 1) := by decide +kernel
theorem d_Cal_monthDays_95 : decode b_Cal_monthDays 95 = .ok (.ireturn, 1) := by decide +kernel
theorem d_Cal_daysAhead_0 : decode b_Cal_daysAhead 0 = .ok (.iconst 0, 1) := by decide +kernel
theorem d_Cal_daysAhead_1 : decode b_Cal_daysAhead 1 = .ok (.istore_n 3, 1) := by decide +kernel
theorem d_Cal_daysAhead_2 : decode b_Cal_daysAhead 2 = .ok (.iconst 1, 1) := by decide +kernel
theorem d_Cal_daysAhead_3 : decode b_Cal_daysAhead 3 = .ok (.istore 4, 2) := by decide +kernel
theorem d_Cal_daysAhead_5 : decode b_Cal_daysAhead 5 = .ok (.iload 4, 2) := by decide +kernel
theorem d_Cal_daysAhead_7 : decode b_Cal_daysAhead 7 = .ok (.iload_n 2, 1) := by decide +kernel
theorem d_Cal_daysAhead_8 : decode b_Cal_daysAhead 8 = .ok (.if_icmp .ge 19, 3) := by decide +kernel
theorem d_Cal_daysAhead_11 : decode b_Cal_daysAhead 11 = .ok (.iload_n 3, 1) := by decide +kernel
theorem d_Cal_daysAhead_12 : decode b_Cal_daysAhead 12 = .ok (.iload_n 0, 1) := by decide +kernel
theorem d_Cal_daysAhead_13 : decode b_Cal_daysAhead 13 = .ok (.iload_n 1, 1) := by decide +kernel
theorem d_Cal_daysAhead_14 : decode b_Cal_daysAhead 14 = .ok (.iload 4, 2) := by decide +kernel
theorem d_Cal_daysAhead_16 : decode b_Cal_daysAhead 16 = .ok (.invokestatic 30, 3) := by decide +kernel
theorem d_Cal_daysAhead_19 : decode b_Cal_daysAhead 19 = .ok (.iadd, 1) := by decide +kernel
theorem d_Cal_daysAhead_20 : decode b_Cal_daysAhead 20 = .ok (.istore_n 3, 1) := by decide +kernel
theorem d_Cal_daysAhead_21 : decode b_Cal_daysAhead 21 = .ok (.iinc 4 1, 3) := by decide +kernel
theorem d_Cal_daysAhead_24 : decode b_Cal_daysAhead 24 = .ok (.goto (-19), 3) := by decide +kernel
theorem d_Cal_daysAhead_27 : decode b_Cal_daysAhead 27 = .ok (.iload_n 3, 1) := by decide +kernel
theorem d_Cal_daysAhead_28 : decode b_Cal_daysAhead 28 = .ok (.ireturn, 1) := by decide +kernel
theorem d_Cal_newYear_0 : decode b_Cal_newYear 0 = .ok (.iload_n 1, 1) := by decide +kernel
theorem d_Cal_newYear_1 : decode b_Cal_newYear 1 = .ok (.iconst 1, 1) := by decide +kernel
theorem d_Cal_newYear_2 : decode b_Cal_newYear 2 = .ok (.isub, 1) := by decide +kernel
theorem d_Cal_newYear_3 : decode b_Cal_newYear 3 = .ok (.istore_n 2, 1) := by decide +kernel
theorem d_Cal_newYear_4 : decode b_Cal_newYear 4 = .ok (.getstatic 34, 3) := by decide +kernel
theorem d_Cal_newYear_7 : decode b_Cal_newYear 7 = .ok (.iload_n 0, 1) := by decide +kernel
theorem d_Cal_newYear_8 : decode b_Cal_newYear 8 = .ok (.iaload, 1) := by decide +kernel
theorem d_Cal_newYear_9 : decode b_Cal_newYear 9 = .ok (.istore_n 3, 1) := by decide +kernel
theorem d_Cal_newYear_10 : decode b_Cal_newYear 10 = .ok (.iload_n 0, 1) := by decide +kernel
theorem d_Cal_newYear_11 : decode b_Cal_newYear 11 = .ok (.tableswitch 98 0 2 #[25, 54, 68], 25) := by decide +kernel
theorem d_Cal_newYear_36 : decode b_Cal_newYear 36 = .ok (.iload_n 3, 1) := by decide +kernel
theorem d_Cal_newYear_37 : decode b_Cal_newYear 37 = .ok (.sipush 365, 3) := by decide +kernel
theorem d_Cal_newYear_40 : decode b_Cal_newYear 40 = .ok (.iload_n 2, 1) := by decide +kernel
theorem d_Cal_newYear_41 : decode b_Cal_newYear 41 = .ok (.imul, 1) := by decide +kernel
theorem d_Cal_newYear_42 : decode b_Cal_newYear 42 = .ok (.iadd, 1) := by decide +kernel
theorem d_Cal_newYear_43 : decode b_Cal_newYear 43 = .ok (.iload_n 2, 1) := by decide +kernel
theorem d_Cal_newYear_44 : decode b_Cal_newYear 44 = .ok (.iconst 4, 1) := by decide +kernel
theorem d_Cal_newYear_45 : decode b_Cal_newYear 45 = .ok (.invokestatic 37, 3) := by decide +kernel
theorem d_Cal_newYear_48 : decode b_Cal_newYear 48 = .ok (.iadd, 1) := by decide +kernel
theorem d_Cal_newYear_49 : decode b_Cal_newYear 49 = .ok (.iload_n 2, 1) := by decide +kernel
theorem d_Cal_newYear_50 : decode b_Cal_newYear 50 = .ok (.bipush 100, 2) := by decide +kernel
theorem d_Cal_newYear_52 : decode b_Cal_newYear 52 = .ok (.invokestatic 37, 3) := by decide +kernel
theorem d_Cal_newYear_55 : decode b_Cal_newYear 55 = .ok (.isub, 1) := by decide +kernel
theorem d_Cal_newYear_56 : decode b_Cal_newYear 56 = .ok (.iload_n 2, 1) := by decide +kernel
theorem d_Cal_newYear_57 : decode b_Cal_newYear 57 = .ok (.sipush 400, 3) := by decide +kernel
theorem d_Cal_newYear_60 : decode b_Cal_newYear 60 = .ok (.invokestatic 37, 3) := by decide +kernel
theorem d_Cal_newYear_63 : decode b_Cal_newYear 63 = .ok (.iadd, 1) := by decide +kernel
theorem d_Cal_newYear_64 : decode b_Cal_newYear 64 = .ok (.ireturn, 1) := by decide +kernel
theorem d_Cal_newYear_65 : decode b_Cal_newYear 65 = .ok (.iload_n 3, 1) := by decide +kernel
theorem d_Cal_newYear_66 : decode b_Cal_newYear 66 = .ok (.sipush 365, 3) := by decide +kernel
theorem d_Cal_newYear_69 : decode b_Cal_newYear 69 = .ok (.iload_n 2, 1) := by decide +kernel
theorem d_Cal_newYear_70 : decode b_Cal_newYear 70 = .ok (.imul, 1) := by decide +kernel
theorem d_Cal_newYear_71 : decode b_Cal_newYear 71 = .ok (.iadd, 1) := by decide +kernel
theorem d_Cal_newYear_72 : decode b_Cal_newYear 72 = .ok (.iload_n 2, 1) := by decide +kernel
theorem d_Cal_newYear_73 : decode b_Cal_newYear 73 = .ok (.iconst 4, 1) := by decide +kernel
theorem d_Cal_newYear_74 : decode b_Cal_newYear 74 = .ok (.invokestatic 37, 3) := by decide +kernel
theorem d_Cal_newYear_77 : decode b_Cal_newYear 77 = .ok (.iadd, 1) := by decide +kernel
theorem d_Cal_newYear_78 : decode b_Cal_newYear 78 = .ok (.ireturn, 1) := by decide +kernel
theorem d_Cal_newYear_79 : decode b_Cal_newYear 79 = .ok (.iload_n 3, 1) := by decide +kernel
theorem d_Cal_newYear_80 : decode b_Cal_newYear 80 = .ok (.sipush 354, 3) := by decide +kernel
theorem d_Cal_newYear_83 : decode b_Cal_newYear 83 = .ok (.iload_n 2, 1) := by decide +kernel
theorem d_Cal_newYear_84 : decode b_Cal_newYear 84 = .ok (.imul, 1) := by decide +kernel
theorem d_Cal_newYear_85 : decode b_Cal_newYear 85 = .ok (.iadd, 1) := by decide +kernel
theorem d_Cal_newYear_86 : decode b_Cal_newYear 86 = .ok (.getstatic 19, 3) := by decide +kernel
theorem d_Cal_newYear_89 : decode b_Cal_newYear 89 = .ok (.arraylength, 1) := by decide +kernel
theorem d_Cal_newYear_90 : decode b_Cal_newYear 90 = .ok (.iload_n 2, 1) := by decide +kernel
theorem d_Cal_newYear_91 : decode b_Cal_newYear 91 = .ok (.bipush 30, 2) := by decide +kernel
theorem d_Cal_newYear_93 : decode b_Cal_newYear 93 = .ok (.invokestatic 37, 3) := by decide +kernel
theorem d_Cal_newYear_96 : decode b_Cal_newYear 96 = .ok (.imul, 1) := by decide +kernel
theorem d_Cal_newYear_97 : decode b_Cal_newYear 97 = .ok (.iadd, 1) := by decide +kernel
theorem d_Cal_newYear_98 : decode b_Cal_newYear 98 = .ok (.iload_n 2, 1) := by decide +kernel
theorem d_Cal_newYear_99 : decode b_Cal_newYear 99 = .ok (.bipush 30, 2) := by decide +kernel
theorem d_Cal_newYear_101 : decode b_Cal_newYear 101 = .ok (.invokestatic 9, 3) := by decide +kernel
theorem d_Cal_newYear_104 : decode b_Cal_newYear 104 = .ok (.invokestatic 40, 3) := by decide +kernel
theorem d_Cal_newYear_107 : decode b_Cal_newYear 107 = .ok (.iadd, 1) := by decide +kernel
theorem d_Cal_newYear_108 : decode b_Cal_newYear 108 = .ok (.ireturn, 1) := by decide +kernel
theorem d_Cal_newYear_109 : decode b_Cal_newYear 109 = .ok (.iload_n 3, 1) := by decide +kernel
theorem d_Cal_newYear_110 : decode b_Cal_newYear 110 = .ok (.sipush 365, 3) := by decide +kernel
theorem d_Cal_newYear_113 : decode b_Cal_newYear 113 = .ok (.iload_n 2, 1) := by decide +kernel
theorem d_Cal_newYear_114 : decode b_Cal_newYear 114 = .ok (.imul, 1) := by decide +kernel
theorem d_Cal_newYear_115 : decode b_Cal_newYear 115 = .ok (.iadd, 1) := by decide +kernel
theorem d_Cal_newYear_116 : decode b_Cal_newYear 116 = .ok (.ireturn, 1) := by decide +kernel
theorem d_Cal_yearOf_0 : decode b_Cal_yearOf 0 = .ok (.iload_n 1, 1) := by decide +kernel
theorem d_Cal_yearOf_1 : decode b_Cal_yearOf 1 = .ok (.getstatic 34, 3) := by decide +kernel
theorem d_Cal_yearOf_4 : decode b_Cal_yearOf 4 = .ok (.iload_n 0, 1) := by decide +kernel
theorem d_Cal_yearOf_5 : decode b_Cal_yearOf 5 = .ok (.iaload, 1) := by decide +kernel
theorem d_Cal_yearOf_6 : decode b_Cal_yearOf 6 = .ok (.isub, 1) := by decide +kernel
theorem d_Cal_yearOf_7 : decode b_Cal_yearOf 7 = .ok (.i2l, 1) := by decide +kernel
theorem d_Cal_yearOf_8 : decode b_Cal_yearOf 8 = .ok (.lstore_n 2, 1) := by decide +kernel
theorem d_Cal_yearOf_9 : decode b_Cal_yearOf 9 = .ok (.lload_n 2, 1) := by decide +kernel
theorem d_Cal_yearOf_10 : decode b_Cal_yearOf 10 = .ok (.getstatic 44, 3) := by decide +kernel
theorem d_Cal_yearOf_13 : decode b_Cal_yearOf 13 = .ok (.iload_n 0, 1) := by decide +kernel
theorem d_Cal_yearOf_14 : decode b_Cal_yearOf 14 = .ok (.iaload, 1) := by decide +kernel
theorem d_Cal_yearOf_15 : decode b_Cal_yearOf 15 = .ok (.i2l, 1) := by decide +kernel
theorem d_Cal_yearOf_16 : decode b_Cal_yearOf 16 = .ok (.lmul, 1) := by decide +kernel
theorem d_Cal_yearOf_17 : decode b_Cal_yearOf 17 = .ok (.getstatic 47, 3) := by decide +kernel
theorem d_Cal_yearOf_20 : decode b_Cal_yearOf 20 = .ok (.iload_n 0, 1) := by decide +kernel
theorem d_Cal_yearOf_21 : decode b_Cal_yearOf 21 = .ok (.iaload, 1) := by decide +kernel
theorem d_Cal_yearOf_22 : decode b_Cal_yearOf 22 = .ok (.i2l, 1) := by decide +kernel
theorem d_Cal_yearOf_23 : decode b_Cal_yearOf 23 = .ok (.invokestatic 50, 3) := by decide +kernel
theorem d_Cal_yearOf_26 : decode b_Cal_yearOf 26 = .ok (.l2i, 1) := by decide +kernel
theorem d_Cal_yearOf_27 : decode b_Cal_yearOf 27 = .ok (.iconst 1, 1) := by decide +kernel
theorem d_Cal_yearOf_28 : decode b_Cal_yearOf 28 = .ok (.iadd, 1) := by decide +kernel
theorem d_Cal_yearOf_29 : decode b_Cal_yearOf 29 = .ok (.istore 4, 2) := by decide +kernel
theorem d_Cal_yearOf_31 : decode b_Cal_yearOf 31 = .ok (.iload_n 0, 1) := by decide +kernel
theorem d_Cal_yearOf_32 : decode b_Cal_yearOf 32 = .ok (.iload 4, 2) := by decide +kernel
theorem d_Cal_yearOf_34 : decode b_Cal_yearOf 34 = .ok (.iconst 1, 1) := by decide +kernel
theorem d_Cal_yearOf_35 : decode b_Cal_yearOf 35 = .ok (.iadd, 1) := by decide +kernel
theorem d_Cal_yearOf_36 : decode b_Cal_yearOf 36 = .ok (.invokestatic 53, 3) := by decide +kernel
theorem d_Cal_yearOf_39 : decode b_Cal_yearOf 39 = .ok (.iload_n 1, 1) := by decide +kernel
theorem d_Cal_yearOf_40 : decode b_Cal_yearOf 40 = .ok (.if_icmp .gt 10, 3) := by decide +kernel
theorem d_Cal_yearOf_43 : decode b_Cal_yearOf 43 = .ok (.iload 4, 2) := by decide +kernel
theorem d_Cal_yearOf_45 : decode b_Cal_yearOf 45 = .ok (.iconst 1, 1) := by decide +kernel
theorem d_Cal_yearOf_46 : decode b_Cal_yearOf 46 = .ok (.iadd, 1) := by decide +kernel
theorem d_Cal_yearOf_47 : decode b_Cal_yearOf 47 = .ok (.goto 5, 3) := by decide +kernel
theorem d_Cal_yearOf_50 : decode b_Cal_yearOf 50 = .ok (.iload 4, 2) := by decide +kernel
theorem d_Cal_yearOf_52 : decode b_Cal_yearOf 52 = .ok (.ireturn, 1) := by decide +kernel
theorem d_Cal_monthOf_0 : decode b_Cal_monthOf 0 = .ok (.iload_n 2, 1) := by decide +kernel
theorem d_Cal_monthOf_1 : decode b_Cal_monthOf 1 = .ok (.iload_n 0, 1) := by decide +kernel
theorem d_Cal_monthOf_2 : decode b_Cal_monthOf 2 = .ok (.iload_n 1, 1) := by decide +kernel
theorem d_Cal_monthOf_3 : decode b_Cal_monthOf 3 = .ok (.invokestatic 53, 3) := by decide +kernel
theorem d_Cal_monthOf_6 : decode b_Cal_monthOf 6 = .ok (.isub, 1) := by decide +kernel
theorem d_Cal_monthOf_7 : decode b_Cal_monthOf 7 = .ok (.istore_n 3, 1) := by decide +kernel
theorem d_Cal_monthOf_8 : decode b_Cal_monthOf 8 = .ok (.iconst 1, 1) := by decide +kernel
theorem d_Cal_monthOf_9 : decode b_Cal_monthOf 9 = .ok (.istore 4, 2) := by decide +kernel
theorem d_Cal_monthOf_11 : decode b_Cal_monthOf 11 = .ok (.iload 4, 2) := by decide +kernel
theorem d_Cal_monthOf_13 : decode b_Cal_monthOf 13 = .ok (.iload_n 0, 1) := by decide +kernel
theorem d_Cal_monthOf_14 : decode b_Cal_monthOf 14 = .ok (.invokestatic 56, 3) := by decide +kernel
theorem d_Cal_monthOf_17 : decode b_Cal_monthOf 17 = .ok (.if_icmp .ge 30, 3) := by decide +kernel
theorem d_Cal_monthOf_20 : decode b_Cal_monthOf 20 = .ok (.iload_n 3, 1) := by decide +kernel
theorem d_Cal_monthOf_21 : decode b_Cal_monthOf 21 = .ok (.iload_n 0, 1) := by decide +kernel
theorem d_Cal_monthOf_22 : decode b_Cal_monthOf 22 = .ok (.iload_n 1, 1) := by decide +kernel
theorem d_Cal_monthOf_23 : decode b_Cal_monthOf 23 = .ok (.iload 4, 2) := by decide +kernel
theorem d_Cal_monthOf_25 : decode b_Cal_monthOf 25 = .ok (.invokestatic 30, 3) := by decide +kernel
theorem d_Cal_monthOf_28 : decode b_Cal_monthOf 28 = .ok (.if_icmp .lt 19, 3) := by decide +kernel
theorem d_Cal_monthOf_31 : decode b_Cal_monthOf 31 = .ok (.iload_n 3, 1) := by decide +kernel
theorem d_Cal_monthOf_32 : decode b_Cal_monthOf 32 = .ok (.iload_n 0, 1) := by decide +kernel
theorem d_Cal_monthOf_33 : decode b_Cal_monthOf 33 = .ok (.iload_n 1, 1) := by decide +kernel
theorem d_Cal_monthOf_34 : decode b_Cal_monthOf 34 = .ok (.iload 4, 2) := by decide +kernel
theorem d_Cal_monthOf_36 : decode b_Cal_monthOf 36 = .ok (.invokestatic 30, 3) := by decide +kernel
theorem d_Cal_monthOf_39 : decode b_Cal_monthOf 39 = .ok (.isub, 1) := by decide +kernel
theorem d_Cal_monthOf_40 : decode b_Cal_monthOf 40 = .ok (.istore_n 3, 1) := by decide +kernel
theorem d_Cal_monthOf_41 : decode b_Cal_monthOf 41 = .ok (.iinc 4 1, 3) := by decide +kernel
theorem d_Cal_monthOf_44 : decode b_Cal_monthOf 44 = .ok (.goto (-33), 3) := by decide +kernel
theorem d_Cal_monthOf_47 : decode b_Cal_monthOf 47 = .ok (.iload 4, 2) := by decide +kernel
theorem d_Cal_monthOf_49 : decode b_Cal_monthOf 49 = .ok (.ireturn, 1) := by decide +kernel
end
section
theorem d_Mod_init_0 : decode b_Mod_init 0 = .ok (.aload_n 0, 1) := by decide +kernel
theorem d_Mod_init_1 : decode b_Mod_init 1 = .ok (.invokespecial 1, 3) := by decide +kernel
theorem d_Mod_init_4 : decode b_Mod_init 4 = .ok (.aload_n 0, 1) := by decide +kernel
theorem d_Mod_init_5 : decode b_Mod_init 5 = .ok (.bipush 8, 2) := by decide +kernel
theorem d_Mod_init_7 : decode b_Mod_init 7 = .ok (.newarray .int, 2) := by decide +kernel
theorem d_Mod_init_9 : decode b_Mod_init 9 = .ok (.putfield 7, 3) := by decide +kernel
theorem d_Mod_init_12 : decode b_Mod_init 12 = .ok (.aload_n 0, 1) := by decide +kernel
theorem d_Mod_init_13 : decode b_Mod_init 13 = .ok (.bipush 8, 2) := by decide +kernel
theorem d_Mod_init_15 : decode b_Mod_init 15 = .ok (.newarray .int, 2) := by decide +kernel
theorem d_Mod_init_17 : decode b_Mod_init 17 = .ok (.putfield 13, 3) := by decide +kernel
theorem d_Mod_init_20 : decode b_Mod_init 20 = .ok (.aload_n 0, 1) := by decide +kernel
theorem d_Mod_init_21 : decode b_Mod_init 21 = .ok (.sipush 13824, 3) := by decide +kernel
theorem d_Mod_init_24 : decode b_Mod_init 24 = .ok (.newarray .int, 2) := by decide +kernel
theorem d_Mod_init_26 : decode b_Mod_init 26 = .ok (.putfield 16, 3) := by decide +kernel
theorem d_Mod_init_29 : decode b_Mod_init 29 = .ok (.aload_n 0, 1) := by decide +kernel
theorem d_Mod_init_30 : decode b_Mod_init 30 = .ok (.bipush 48, 2) := by decide +kernel
theorem d_Mod_init_32 : decode b_Mod_init 32 = .ok (.newarray .int, 2) := by decide +kernel
theorem d_Mod_init_34 : decode b_Mod_init 34 = .ok (.putfield 19, 3) := by decide +kernel
theorem d_Mod_init_37 : decode b_Mod_init 37 = .ok (.aload_n 0, 1) := by decide +kernel
theorem d_Mod_init_38 : decode b_Mod_init 38 = .ok (.bipush 48, 2) := by decide +kernel
theorem d_Mod_init_40 : decode b_Mod_init 40 = .ok (.newarray .int, 2) := by decide +kernel
theorem d_Mod_init_42 : decode b_Mod_init 42 = .ok (.putfield 22, 3) := by decide +kernel
theorem d_Mod_init_45 : decode b_Mod_init 45 = .ok (.aload_n 0, 1) := by decide +kernel
theorem d_Mod_init_46 : decode b_Mod_init 46 = .ok (.bipush 80, 2) := by decide +kernel
theorem d_Mod_init_48 : decode b_Mod_init 48 = .ok (.newarray .int, 2) := by decide +kernel
theorem d_Mod_init_50 : decode b_Mod_init 50 = .ok (.putfield 25, 3) := by decide +kernel
theorem d_Mod_init_53 : decode b_Mod_init 53 = .ok (.aload_n 0, 1) := by decide +kernel
theorem d_Mod_init_54 : decode b_Mod_init 54 = .ok (.bipush 80, 2) := by decide +kernel
theorem d_Mod_init_56 : decode b_Mod_init 56 = .ok (.newarray .int, 2) := by decide +kernel
theorem d_Mod_init_58 : decode b_Mod_init 58 = .ok (.putfield 28, 3) := by decide +kernel
theorem d_Mod_init_61 : decode b_Mod_init 61 = .ok (.aload_n 0, 1) := by decide +kernel
theorem d_Mod_init_62 : decode b_Mod_init 62 = .ok (.bipush 48, 2) := by decide +kernel
theorem d_Mod_init_64 : decode b_Mod_init 64 = .ok (.newarray .boolean, 2) := by decide +kernel
theorem d_Mod_init_66 : decode b_Mod_init 66 = .ok (.putfield 31, 3) := by decide +kernel
theorem d_Mod_init_69 : decode b_Mod_init 69 = .ok (.return_, 1) := by decide +kernel
theorem d_Mod_thrown_0 : decode b_Mod_thrown 0 = .ok (.aload_n 0, 1) := by decide +kernel
theorem d_Mod_thrown_1 : decode b_Mod_thrown 1 = .ok (.getfield 35, 3) := by decide +kernel
theorem d_Mod_thrown_4 : decode b_Mod_thrown 4 = .ok (.ireturn, 1) := by decide +kernel
theorem d_Mod_goes_0 : decode b_Mod_goes 0 = .ok (.aload_n 0, 1) := by decide +kernel
theorem d_Mod_goes_1 : decode b_Mod_goes 1 = .ok (.iload_n 1, 1) := by decide +kernel
theorem d_Mod_goes_2 : decode b_Mod_goes 2 = .ok (.ifCond .ne 7, 3) := by decide +kernel
theorem d_Mod_goes_5 : decode b_Mod_goes 5 = .ok (.iconst 1, 1) := by decide +kernel
theorem d_Mod_goes_6 : decode b_Mod_goes 6 = .ok (.goto 29, 3) := by decide +kernel
theorem d_Mod_goes_9 : decode b_Mod_goes 9 = .ok (.iload_n 2, 1) := by decide +kernel
theorem d_Mod_goes_10 : decode b_Mod_goes 10 = .ok (.ifCond .ne 7, 3) := by decide +kernel
theorem d_Mod_goes_13 : decode b_Mod_goes 13 = .ok (.iconst 2, 1) := by decide +kernel
theorem d_Mod_goes_14 : decode b_Mod_goes 14 = .ok (.goto 21, 3) := by decide +kernel
theorem d_Mod_goes_17 : decode b_Mod_goes 17 = .ok (.iload_n 3, 1) := by decide +kernel
theorem d_Mod_goes_18 : decode b_Mod_goes 18 = .ok (.ifCond .ne 7, 3) := by decide +kernel
theorem d_Mod_goes_21 : decode b_Mod_goes 21 = .ok (.iconst 3, 1) := by decide +kernel
theorem d_Mod_goes_22 : decode b_Mod_goes 22 = .ok (.goto 13, 3) := by decide +kernel
theorem d_Mod_goes_25 : decode b_Mod_goes 25 = .ok (.iload 4, 2) := by decide +kernel
theorem d_Mod_goes_27 : decode b_Mod_goes 27 = .ok (.ifCond .ne 7, 3) := by decide +kernel
theorem d_Mod_goes_30 : decode b_Mod_goes 30 = .ok (.iconst 4, 1) := by decide +kernel
theorem d_Mod_goes_31 : decode b_Mod_goes 31 = .ok (.goto 4, 3) := by decide +kernel
theorem d_Mod_goes_34 : decode b_Mod_goes 34 = .ok (.iconst 0, 1) := by decide +kernel
theorem d_Mod_goes_35 : decode b_Mod_goes 35 = .ok (.putfield 35, 3) := by decide +kernel
theorem d_Mod_goes_38 : decode b_Mod_goes 38 = .ok (.aload_n 0, 1) := by decide +kernel
theorem d_Mod_goes_39 : decode b_Mod_goes 39 = .ok (.getfield 35, 3) := by decide +kernel
theorem d_Mod_goes_42 : decode b_Mod_goes 42 = .ok (.ifCond .ne 7, 3) := by decide +kernel
theorem d_Mod_goes_45 : decode b_Mod_goes 45 = .ok (.iconst 1, 1) := by decide +kernel
theorem d_Mod_goes_46 : decode b_Mod_goes 46 = .ok (.goto 4, 3) := by decide +kernel
theorem d_Mod_goes_49 : decode b_Mod_goes 49 = .ok (.iconst 0, 1) := by decide +kernel
theorem d_Mod_goes_50 : decode b_Mod_goes 50 = .ok (.ireturn, 1) := by decide +kernel
theorem d_Mod_within_0 : decode b_Mod_within 0 = .ok (.iload_n 0, 1) := by decide +kernel
theorem d_Mod_within_1 : decode b_Mod_within 1 = .ok (.iload_n 1, 1) := by decide +kernel
theorem d_Mod_within_2 : decode b_Mod_within 2 = .ok (.if_icmp .lt 12, 3) := by decide +kernel
theorem d_Mod_within_5 : decode b_Mod_within 5 = .ok (.iload_n 0, 1) := by decide +kernel
theorem d_Mod_within_6 : decode b_Mod_within 6 = .ok (.iload_n 2, 1) := by decide +kernel
theorem d_Mod_within_7 : decode b_Mod_within 7 = .ok (.if_icmp .gt 7, 3) := by decide +kernel
theorem d_Mod_within_10 : decode b_Mod_within 10 = .ok (.iconst 1, 1) := by decide +kernel
theorem d_Mod_within_11 : decode b_Mod_within 11 = .ok (.goto 4, 3) := by decide +kernel
theorem d_Mod_within_14 : decode b_Mod_within 14 = .ok (.iconst 0, 1) := by decide +kernel
theorem d_Mod_within_15 : decode b_Mod_within 15 = .ok (.ireturn, 1) := by decide +kernel
theorem d_Mod_isRow_0 : decode b_Mod_isRow 0 = .ok (.iload_n 1, 1) := by decide +kernel
theorem d_Mod_isRow_1 : decode b_Mod_isRow 1 = .ok (.ifCond .lt 15, 3) := by decide +kernel
theorem d_Mod_isRow_4 : decode b_Mod_isRow 4 = .ok (.iload_n 1, 1) := by decide +kernel
theorem d_Mod_isRow_5 : decode b_Mod_isRow 5 = .ok (.aload_n 0, 1) := by decide +kernel
theorem d_Mod_isRow_6 : decode b_Mod_isRow 6 = .ok (.getfield 39, 3) := by decide +kernel
theorem d_Mod_isRow_9 : decode b_Mod_isRow 9 = .ok (.if_icmp .ge 7, 3) := by decide +kernel
theorem d_Mod_isRow_12 : decode b_Mod_isRow 12 = .ok (.iconst 1, 1) := by decide +kernel
theorem d_Mod_isRow_13 : decode b_Mod_isRow 13 = .ok (.goto 4, 3) := by decide +kernel
theorem d_Mod_isRow_16 : decode b_Mod_isRow 16 = .ok (.iconst 0, 1) := by decide +kernel
theorem d_Mod_isRow_17 : decode b_Mod_isRow 17 = .ok (.ireturn, 1) := by decide +kernel
theorem d_Mod_has_0 : decode b_Mod_has 0 = .ok (.aload_n 0, 1) := by decide +kernel
theorem d_Mod_has_1 : decode b_Mod_has 1 = .ok (.iload_n 1, 1) := by decide +kernel
theorem d_Mod_has_2 : decode b_Mod_has 2 = .ok (.invokevirtual 42, 3) := by decide +kernel
theorem d_Mod_has_5 : decode b_Mod_has 5 = .ok (.ifCond .eq 36, 3) := by decide +kernel
theorem d_Mod_has_8 : decode b_Mod_has 8 = .ok (.iload_n 2, 1) := by decide +kernel
theorem d_Mod_has_9 : decode b_Mod_has 9 = .ok (.aload_n 0, 1) := by decide +kernel
theorem d_Mod_has_10 : decode b_Mod_has 10 = .ok (.getfield 7, 3) := by decide +kernel
theorem d_Mod_has_13 : decode b_Mod_has 13 = .ok (.iload_n 1, 1) := by decide +kernel
theorem d_Mod_has_14 : decode b_Mod_has 14 = .ok (.iaload, 1) := by decide +kernel
theorem d_Mod_has_15 : decode b_Mod_has 15 = .ok (.if_icmp .lt 26, 3) := by decide +kernel
theorem d_Mod_has_18 : decode b_Mod_has 18 = .ok (.iload_n 2, 1) := by decide +kernel
theorem d_Mod_has_19 : decode b_Mod_has 19 = .ok (.aload_n 0, 1) := by decide +kernel
theorem d_Mod_has_20 : decode b_Mod_has 20 = .ok (.getfield 7, 3) := by decide +kernel
theorem d_Mod_has_23 : decode b_Mod_has 23 = .ok (.iload_n 1, 1) := by decide +kernel
theorem d_Mod_has_24 : decode b_Mod_has 24 = .ok (.iaload, 1) := by decide +kernel
theorem d_Mod_has_25 : decode b_Mod_has 25 = .ok (.aload_n 0, 1) := by decide +kernel
theorem d_Mod_has_26 : decode b_Mod_has 26 = .ok (.getfield 13, 3) := by decide +kernel
theorem d_Mod_has_29 : decode b_Mod_has 29 = .ok (.iload_n 1, 1) := by decide +kernel
theorem d_Mod_has_30 : decode b_Mod_has 30 = .ok (.iaload, 1) := by decide +kernel
theorem d_Mod_has_31 : decode b_Mod_has 31 = .ok (.iadd, 1) := by decide +kernel
theorem d_Mod_has_32 : decode b_Mod_has 32 = .ok (.iconst 1, 1) := by decide +kernel
theorem d_Mod_has_33 : decode b_Mod_has 33 = .ok (.isub, 1) := by decide +kernel
theorem d_Mod_has_34 : decode b_Mod_has 34 = .ok (.if_icmp .gt 7, 3) := by decide +kernel
theorem d_Mod_has_37 : decode b_Mod_has 37 = .ok (.iconst 1, 1) := by decide +kernel
theorem d_Mod_has_38 : decode b_Mod_has 38 = .ok (.goto 4, 3) := by decide +kernel
theorem d_Mod_has_41 : decode b_Mod_has 41 = .ok (.iconst 0, 1) := by decide +kernel
theorem d_Mod_has_42 : decode b_Mod_has 42 = .ok (.ireturn, 1) := by decide +kernel
theorem d_Mod_at_0 : decode b_Mod_at 0 = .ok (.bipush 36, 2) := by decide +kernel
theorem d_Mod_at_2 : decode b_Mod_at 2 = .ok (.bipush 48, 2) := by decide +kernel
theorem d_Mod_at_4 : decode b_Mod_at 4 = .ok (.iload_n 1, 1) := by decide +kernel
theorem d_Mod_at_5 : decode b_Mod_at 5 = .ok (.imul, 1) := by decide +kernel
theorem d_Mod_at_6 : decode b_Mod_at 6 = .ok (.iload_n 2, 1) := by decide +kernel
theorem d_Mod_at_7 : decode b_Mod_at 7 = .ok (.iadd, 1) := by decide +kernel
theorem d_Mod_at_8 : decode b_Mod_at 8 = .ok (.aload_n 0, 1) := by decide +kernel
theorem d_Mod_at_9 : decode b_Mod_at 9 = .ok (.getfield 7, 3) := by decide +kernel
theorem d_Mod_at_12 : decode b_Mod_at 12 = .ok (.iload_n 1, 1) := by decide +kernel
theorem d_Mod_at_13 : decode b_Mod_at 13 = .ok (.iaload, 1) := by decide +kernel
theorem d_Mod_at_14 : decode b_Mod_at 14 = .ok (.isub, 1) := by decide +kernel
theorem d_Mod_at_15 : decode b_Mod_at 15 = .ok (.imul, 1) := by decide +kernel
theorem d_Mod_at_16 : decode b_Mod_at 16 = .ok (.ireturn, 1) := by decide +kernel
theorem d_Mod_open_0 : decode b_Mod_open 0 = .ok (.aload_n 0, 1) := by decide +kernel
theorem d_Mod_open_1 : decode b_Mod_open 1 = .ok (.getfield 7, 3) := by decide +kernel
theorem d_Mod_open_4 : decode b_Mod_open 4 = .ok (.aload_n 0, 1) := by decide +kernel
theorem d_Mod_open_5 : decode b_Mod_open 5 = .ok (.getfield 39, 3) := by decide +kernel
theorem d_Mod_open_8 : decode b_Mod_open 8 = .ok (.iload_n 1, 1) := by decide +kernel
theorem d_Mod_open_9 : decode b_Mod_open 9 = .ok (.iastore, 1) := by decide +kernel
theorem d_Mod_open_10 : decode b_Mod_open 10 = .ok (.aload_n 0, 1) := by decide +kernel
theorem d_Mod_open_11 : decode b_Mod_open 11 = .ok (.getfield 13, 3) := by decide +kernel
theorem d_Mod_open_14 : decode b_Mod_open 14 = .ok (.aload_n 0, 1) := by decide +kernel
theorem d_Mod_open_15 : decode b_Mod_open 15 = .ok (.getfield 39, 3) := by decide +kernel
theorem d_Mod_open_18 : decode b_Mod_open 18 = .ok (.iload_n 2, 1) := by decide +kernel
theorem d_Mod_open_19 : decode b_Mod_open 19 = .ok (.iastore, 1) := by decide +kernel
theorem d_Mod_open_20 : decode b_Mod_open 20 = .ok (.iconst 0, 1) := by decide +kernel
theorem d_Mod_open_21 : decode b_Mod_open 21 = .ok (.istore_n 3, 1) := by decide +kernel
theorem d_Mod_open_22 : decode b_Mod_open 22 = .ok (.iload_n 3, 1) := by decide +kernel
theorem d_Mod_open_23 : decode b_Mod_open 23 = .ok (.sipush 1728, 3) := by decide +kernel
theorem d_Mod_open_26 : decode b_Mod_open 26 = .ok (.if_icmp .ge 25, 3) := by decide +kernel
theorem d_Mod_open_29 : decode b_Mod_open 29 = .ok (.aload_n 0, 1) := by decide +kernel
theorem d_Mod_open_30 : decode b_Mod_open 30 = .ok (.getfield 16, 3) := by decide +kernel
theorem d_Mod_open_33 : decode b_Mod_open 33 = .ok (.sipush 1728, 3) := by decide +kernel
theorem d_Mod_open_36 : decode b_Mod_open 36 = .ok (.aload_n 0, 1) := by decide +kernel
theorem d_Mod_open_37 : decode b_Mod_open 37 = .ok (.getfield 39, 3) := by decide +kernel
theorem d_Mod_open_40 : decode b_Mod_open 40 = .ok (.imul, 1) := by decide +kernel
theorem d_Mod_open_41 : decode b_Mod_open 41 = .ok (.iload_n 3, 1) := by decide +kernel
theorem d_Mod_open_42 : decode b_Mod_open 42 = .ok (.iadd, 1) := by decide +kernel
theorem d_Mod_open_43 : decode b_Mod_open 43 = .ok (.iconst 0, 1) := by decide +kernel
theorem d_Mod_open_44 : decode b_Mod_open 44 = .ok (.iastore, 1) := by decide +kernel
theorem d_Mod_open_45 : decode b_Mod_open 45 = .ok (.iinc 3 1, 3) := by decide +kernel
theorem d_Mod_open_48 : decode b_Mod_open 48 = .ok (.goto (-26), 3) := by decide +kernel
theorem d_Mod_open_51 : decode b_Mod_open 51 = .ok (.aload_n 0, 1) := by decide +kernel
theorem d_Mod_open_52 : decode b_Mod_open 52 = .ok (.dup, 1) := by decide +kernel
theorem d_Mod_open_53 : decode b_Mod_open 53 = .ok (.getfield 39, 3) := by decide +kernel
theorem d_Mod_open_56 : decode b_Mod_open 56 = .ok (.iconst 1, 1) := by decide +kernel
theorem d_Mod_open_57 : decode b_Mod_open 57 = .ok (.iadd, 1) := by decide +kernel
theorem d_Mod_open_58 : decode b_Mod_open 58 = .ok (.putfield 39, 3) := by decide +kernel
theorem d_Mod_open_61 : decode b_Mod_open 61 = .ok (.return_, 1) := by decide +kernel
theorem d_Mod_row_0 : decode b_Mod_row 0 = .ok (.iload_n 2, 1) := by decide +kernel
theorem d_Mod_row_1 : decode b_Mod_row 1 = .ok (.iconst 1, 1) := by decide +kernel
theorem d_Mod_row_2 : decode b_Mod_row 2 = .ok (.bipush 48, 2) := by decide +kernel
theorem d_Mod_row_4 : decode b_Mod_row 4 = .ok (.invokestatic 46, 3) := by decide +kernel
theorem d_Mod_row_7 : decode b_Mod_row 7 = .ok (.ifCond .eq 31, 3) := by decide +kernel
theorem d_Mod_row_10 : decode b_Mod_row 10 = .ok (.iload_n 1, 1) := by decide +kernel
theorem d_Mod_row_11 : decode b_Mod_row 11 = .ok (.sipush (-9999), 3) := by decide +kernel
theorem d_Mod_row_14 : decode b_Mod_row 14 = .ok (.sipush 9999, 3) := by decide +kernel
theorem d_Mod_row_17 : decode b_Mod_row 17 = .ok (.invokestatic 46, 3) := by decide +kernel
theorem d_Mod_row_20 : decode b_Mod_row 20 = .ok (.ifCond .eq 18, 3) := by decide +kernel
theorem d_Mod_row_23 : decode b_Mod_row 23 = .ok (.iload_n 1, 1) := by decide +kernel
theorem d_Mod_row_24 : decode b_Mod_row 24 = .ok (.iload_n 2, 1) := by decide +kernel
theorem d_Mod_row_25 : decode b_Mod_row 25 = .ok (.iadd, 1) := by decide +kernel
theorem d_Mod_row_26 : decode b_Mod_row 26 = .ok (.iconst 1, 1) := by decide +kernel
theorem d_Mod_row_27 : decode b_Mod_row 27 = .ok (.isub, 1) := by decide +kernel
theorem d_Mod_row_28 : decode b_Mod_row 28 = .ok (.sipush 9999, 3) := by decide +kernel
theorem d_Mod_row_31 : decode b_Mod_row 31 = .ok (.if_icmp .gt 7, 3) := by decide +kernel
theorem d_Mod_row_34 : decode b_Mod_row 34 = .ok (.iconst 1, 1) := by decide +kernel
theorem d_Mod_row_35 : decode b_Mod_row 35 = .ok (.goto 4, 3) := by decide +kernel
theorem d_Mod_row_38 : decode b_Mod_row 38 = .ok (.iconst 0, 1) := by decide +kernel
theorem d_Mod_row_39 : decode b_Mod_row 39 = .ok (.istore_n 3, 1) := by decide +kernel
theorem d_Mod_row_40 : decode b_Mod_row 40 = .ok (.aload_n 0, 1) := by decide +kernel
theorem d_Mod_row_41 : decode b_Mod_row 41 = .ok (.aload_n 0, 1) := by decide +kernel
theorem d_Mod_row_42 : decode b_Mod_row 42 = .ok (.getfield 39, 3) := by decide +kernel
theorem d_Mod_row_45 : decode b_Mod_row 45 = .ok (.bipush 8, 2) := by decide +kernel
theorem d_Mod_row_47 : decode b_Mod_row 47 = .ok (.if_icmp .ge 7, 3) := by decide +kernel
theorem d_Mod_row_50 : decode b_Mod_row 50 = .ok (.iconst 1, 1) := by decide +kernel
theorem d_Mod_row_51 : decode b_Mod_row 51 = .ok (.goto 4, 3) := by decide +kernel
theorem d_Mod_row_54 : decode b_Mod_row 54 = .ok (.iconst 0, 1) := by decide +kernel
theorem d_Mod_row_55 : decode b_Mod_row 55 = .ok (.iload_n 3, 1) := by decide +kernel
theorem d_Mod_row_56 : decode b_Mod_row 56 = .ok (.iconst 1, 1) := by decide +kernel
theorem d_Mod_row_57 : decode b_Mod_row 57 = .ok (.iconst 1, 1) := by decide +kernel
theorem d_Mod_row_58 : decode b_Mod_row 58 = .ok (.invokevirtual 50, 3) := by decide +kernel
theorem d_Mod_row_61 : decode b_Mod_row 61 = .ok (.ifCond .ne 5, 3) := by decide +kernel
theorem d_Mod_row_64 : decode b_Mod_row 64 = .ok (.iconst 0, 1) := by decide +kernel
theorem d_Mod_row_65 : decode b_Mod_row 65 = .ok (.ireturn, 1) := by decide +kernel
theorem d_Mod_row_66 : decode b_Mod_row 66 = .ok (.aload_n 0, 1) := by decide +kernel
theorem d_Mod_row_67 : decode b_Mod_row 67 = .ok (.iload_n 1, 1) := by decide +kernel
theorem d_Mod_row_68 : decode b_Mod_row 68 = .ok (.iload_n 2, 1) := by decide +kernel
theorem d_Mod_row_69 : decode b_Mod_row 69 = .ok (.invokevirtual 54, 3) := by decide +kernel
theorem d_Mod_row_72 : decode b_Mod_row 72 = .ok (.aload_n 0, 1) := by decide +kernel
theorem d_Mod_row_73 : decode b_Mod_row 73 = .ok (.getfield 39, 3) := by decide +kernel
theorem d_Mod_row_76 : decode b_Mod_row 76 = .ok (.iconst 1, 1) := by decide +kernel
theorem d_Mod_row_77 : decode b_Mod_row 77 = .ok (.isub, 1) := by decide +kernel
theorem d_Mod_row_78 : decode b_Mod_row 78 = .ok (.ireturn, 1) := by decide +kernel
theorem d_Mod_weight_0 : decode b_Mod_weight 0 = .ok (.aload_n 0, 1) := by decide +kernel
theorem d_Mod_weight_1 : decode b_Mod_weight 1 = .ok (.aload_n 0, 1) := by decide +kernel
theorem d_Mod_weight_2 : decode b_Mod_weight 2 = .ok (.iload_n 1, 1) := by decide +kernel
theorem d_Mod_weight_3 : decode b_Mod_weight 3 = .ok (.iload_n 2, 1) := by decide +kernel
theorem d_Mod_weight_4 : decode b_Mod_weight 4 = .ok (.invokevirtual 58, 3) := by decide +kernel
theorem d_Mod_weight_7 : decode b_Mod_weight 7 = .ok (.lload_n 3, 1) := by decide +kernel
theorem d_Mod_weight_8 : decode b_Mod_weight 8 = .ok (.lconst 0, 1) := by decide +kernel
theorem d_Mod_weight_9 : decode b_Mod_weight 9 = .ok (.lcmp, 1) := by decide +kernel
theorem d_Mod_weight_10 : decode b_Mod_weight 10 = .ok (.ifCond .lt 7, 3) := by decide +kernel
theorem d_Mod_weight_13 : decode b_Mod_weight 13 = .ok (.iconst 1, 1) := by decide +kernel
theorem d_Mod_weight_14 : decode b_Mod_weight 14 = .ok (.goto 4, 3) := by decide +kernel
theorem d_Mod_weight_17 : decode b_Mod_weight 17 = .ok (.iconst 0, 1) := by decide +kernel
theorem d_Mod_weight_18 : decode b_Mod_weight 18 = .ok (.iconst 1, 1) := by decide +kernel
theorem d_Mod_weight_19 : decode b_Mod_weight 19 = .ok (.iconst 1, 1) := by decide +kernel
theorem d_Mod_weight_20 : decode b_Mod_weight 20 = .ok (.invokevirtual 50, 3) := by decide +kernel
theorem d_Mod_weight_23 : decode b_Mod_weight 23 = .ok (.ifCond .ne 5, 3) := by decide +kernel
theorem d_Mod_weight_26 : decode b_Mod_weight 26 = .ok (.iconst 0, 1) := by decide +kernel
theorem d_Mod_weight_27 : decode b_Mod_weight 27 = .ok (.ireturn, 1) := by decide +kernel
theorem d_Mod_weight_28 : decode b_Mod_weight 28 = .ok (.iconst 0, 1) := by decide +kernel
theorem d_Mod_weight_29 : decode b_Mod_weight 29 = .ok (.istore 5, 2) := by decide +kernel
theorem d_Mod_weight_31 : decode b_Mod_weight 31 = .ok (.lload_n 3, 1) := by decide +kernel
theorem d_Mod_weight_32 : decode b_Mod_weight 32 = .ok (.lstore 6, 2) := by decide +kernel
theorem d_Mod_weight_34 : decode b_Mod_weight 34 = .ok (.iconst 0, 1) := by decide +kernel
theorem d_Mod_weight_35 : decode b_Mod_weight 35 = .ok (.istore 8, 2) := by decide +kernel
theorem d_Mod_weight_37 : decode b_Mod_weight 37 = .ok (.iload 8, 2) := by decide +kernel
theorem d_Mod_weight_39 : decode b_Mod_weight 39 = .ok (.bipush 36, 2) := by decide +kernel
theorem d_Mod_weight_41 : decode b_Mod_weight 41 = .ok (.if_icmp .ge 73, 3) := by decide +kernel
theorem d_Mod_weight_44 : decode b_Mod_weight 44 = .ok (.lload 6, 2) := by decide +kernel
theorem d_Mod_weight_46 : decode b_Mod_weight 46 = .ok (.ldc2_w 62, 3) := by decide +kernel
theorem d_Mod_weight_49 : decode b_Mod_weight 49 = .ok (.lrem, 1) := by decide +kernel
theorem d_Mod_weight_50 : decode b_Mod_weight 50 = .ok (.l2i, 1) := by decide +kernel
theorem d_Mod_weight_51 : decode b_Mod_weight 51 = .ok (.istore 9, 2) := by decide +kernel
theorem d_Mod_weight_53 : decode b_Mod_weight 53 = .ok (.lload 6, 2) := by decide +kernel
theorem d_Mod_weight_55 : decode b_Mod_weight 55 = .ok (.ldc2_w 62, 3) := by decide +kernel
theorem d_Mod_weight_58 : decode b_Mod_weight 58 = .ok (.ldiv, 1) := by decide +kernel
theorem d_Mod_weight_59 : decode b_Mod_weight 59 = .ok (.lstore 6, 2) := by decide +kernel
theorem d_Mod_weight_61 : decode b_Mod_weight 61 = .ok (.iload 5, 2) := by decide +kernel
theorem d_Mod_weight_63 : decode b_Mod_weight 63 = .ok (.ifCond .ne 22, 3) := by decide +kernel
theorem d_Mod_weight_66 : decode b_Mod_weight 66 = .ok (.aload_n 0, 1) := by decide +kernel
theorem d_Mod_weight_67 : decode b_Mod_weight 67 = .ok (.getfield 16, 3) := by decide +kernel
theorem d_Mod_weight_70 : decode b_Mod_weight 70 = .ok (.aload_n 0, 1) := by decide +kernel
theorem d_Mod_weight_71 : decode b_Mod_weight 71 = .ok (.iload_n 1, 1) := by decide +kernel
theorem d_Mod_weight_72 : decode b_Mod_weight 72 = .ok (.iload_n 2, 1) := by decide +kernel
theorem d_Mod_weight_73 : decode b_Mod_weight 73 = .ok (.invokevirtual 64, 3) := by decide +kernel
theorem d_Mod_weight_76 : decode b_Mod_weight 76 = .ok (.iload 8, 2) := by decide +kernel
theorem d_Mod_weight_78 : decode b_Mod_weight 78 = .ok (.iadd, 1) := by decide +kernel
theorem d_Mod_weight_79 : decode b_Mod_weight 79 = .ok (.iaload, 1) := by decide +kernel
theorem d_Mod_weight_80 : decode b_Mod_weight 80 = .ok (.iload 9, 2) := by decide +kernel
theorem d_Mod_weight_82 : decode b_Mod_weight 82 = .ok (.if_icmp .eq 7, 3) := by decide +kernel
theorem d_Mod_weight_85 : decode b_Mod_weight 85 = .ok (.iconst 1, 1) := by decide +kernel
theorem d_Mod_weight_86 : decode b_Mod_weight 86 = .ok (.goto 4, 3) := by decide +kernel
theorem d_Mod_weight_89 : decode b_Mod_weight 89 = .ok (.iconst 0, 1) := by decide +kernel
theorem d_Mod_weight_90 : decode b_Mod_weight 90 = .ok (.istore 5, 2) := by decide +kernel
theorem d_Mod_weight_92 : decode b_Mod_weight 92 = .ok (.aload_n 0, 1) := by decide +kernel
theorem d_Mod_weight_93 : decode b_Mod_weight 93 = .ok (.getfield 16, 3) := by decide +kernel
theorem d_Mod_weight_96 : decode b_Mod_weight 96 = .ok (.aload_n 0, 1) := by decide +kernel
theorem d_Mod_weight_97 : decode b_Mod_weight 97 = .ok (.iload_n 1, 1) := by decide +kernel
theorem d_Mod_weight_98 : decode b_Mod_weight 98 = .ok (.iload_n 2, 1) := by decide +kernel
theorem d_Mod_weight_99 : decode b_Mod_weight 99 = .ok (.invokevirtual 64, 3) := by decide +kernel
theorem d_Mod_weight_102 : decode b_Mod_weight 102 = .ok (.iload 8, 2) := by decide +kernel
theorem d_Mod_weight_104 : decode b_Mod_weight 104 = .ok (.iadd, 1) := by decide +kernel
theorem d_Mod_weight_105 : decode b_Mod_weight 105 = .ok (.iload 9, 2) := by decide +kernel
theorem d_Mod_weight_107 : decode b_Mod_weight 107 = .ok (.iastore, 1) := by decide +kernel
theorem d_Mod_weight_108 : decode b_Mod_weight 108 = .ok (.iinc 8 1, 3) := by decide +kernel
theorem d_Mod_weight_111 : decode b_Mod_weight 111 = .ok (.goto (-74), 3) := by decide +kernel
theorem d_Mod_weight_114 : decode b_Mod_weight 114 = .ok (.iload 5, 2) := by decide +kernel
theorem d_Mod_weight_116 : decode b_Mod_weight 116 = .ok (.ireturn, 1) := by decide +kernel
theorem d_Mod_blank_0 : decode b_Mod_blank 0 = .ok (.iconst 0, 1) := by decide +kernel
theorem d_Mod_blank_1 : decode b_Mod_blank 1 = .ok (.istore_n 1, 1) := by decide +kernel
theorem d_Mod_blank_2 : decode b_Mod_blank 2 = .ok (.iload_n 1, 1) := by decide +kernel
theorem d_Mod_blank_3 : decode b_Mod_blank 3 = .ok (.bipush 80, 2) := by decide +kernel
theorem d_Mod_blank_5 : decode b_Mod_blank 5 = .ok (.if_icmp .ge 16, 3) := by decide +kernel
theorem d_Mod_blank_8 : decode b_Mod_blank 8 = .ok (.aload_n 0, 1) := by decide +kernel
theorem d_Mod_blank_9 : decode b_Mod_blank 9 = .ok (.getfield 25, 3) := by decide +kernel
theorem d_Mod_blank_12 : decode b_Mod_blank 12 = .ok (.iload_n 1, 1) := by decide +kernel
theorem d_Mod_blank_13 : decode b_Mod_blank 13 = .ok (.iconst 0, 1) := by decide +kernel
theorem d_Mod_blank_14 : decode b_Mod_blank 14 = .ok (.iastore, 1) := by decide +kernel
theorem d_Mod_blank_15 : decode b_Mod_blank 15 = .ok (.iinc 1 1, 3) := by decide +kernel
theorem d_Mod_blank_18 : decode b_Mod_blank 18 = .ok (.goto (-16), 3) := by decide +kernel
theorem d_Mod_blank_21 : decode b_Mod_blank 21 = .ok (.return_, 1) := by decide +kernel
theorem d_Mod_plus_0 : decode b_Mod_plus 0 = .ok (.aload_n 0, 1) := by decide +kernel
theorem d_Mod_plus_1 : decode b_Mod_plus 1 = .ok (.iload_n 1, 1) := by decide +kernel
theorem d_Mod_plus_2 : decode b_Mod_plus 2 = .ok (.iload_n 2, 1) := by decide +kernel
theorem d_Mod_plus_3 : decode b_Mod_plus 3 = .ok (.invokevirtual 58, 3) := by decide +kernel
theorem d_Mod_plus_6 : decode b_Mod_plus 6 = .ok (.ifCond .ne 4, 3) := by decide +kernel
theorem d_Mod_plus_9 : decode b_Mod_plus 9 = .ok (.return_, 1) := by decide +kernel
theorem d_Mod_plus_10 : decode b_Mod_plus 10 = .ok (.iconst 0, 1) := by decide +kernel
theorem d_Mod_plus_11 : decode b_Mod_plus 11 = .ok (.istore_n 3, 1) := by decide +kernel
theorem d_Mod_plus_12 : decode b_Mod_plus 12 = .ok (.iconst 0, 1) := by decide +kernel
theorem d_Mod_plus_13 : decode b_Mod_plus 13 = .ok (.istore 4, 2) := by decide +kernel
theorem d_Mod_plus_15 : decode b_Mod_plus 15 = .ok (.iload 4, 2) := by decide +kernel
theorem d_Mod_plus_17 : decode b_Mod_plus 17 = .ok (.bipush 80, 2) := by decide +kernel
theorem d_Mod_plus_19 : decode b_Mod_plus 19 = .ok (.if_icmp .ge 64, 3) := by decide +kernel
theorem d_Mod_plus_22 : decode b_Mod_plus 22 = .ok (.aload_n 0, 1) := by decide +kernel
theorem d_Mod_plus_23 : decode b_Mod_plus 23 = .ok (.getfield 25, 3) := by decide +kernel
theorem d_Mod_plus_26 : decode b_Mod_plus 26 = .ok (.iload 4, 2) := by decide +kernel
theorem d_Mod_plus_28 : decode b_Mod_plus 28 = .ok (.iaload, 1) := by decide +kernel
theorem d_Mod_plus_29 : decode b_Mod_plus 29 = .ok (.iload_n 3, 1) := by decide +kernel
theorem d_Mod_plus_30 : decode b_Mod_plus 30 = .ok (.iadd, 1) := by decide +kernel
theorem d_Mod_plus_31 : decode b_Mod_plus 31 = .ok (.iload 4, 2) := by decide +kernel
theorem d_Mod_plus_33 : decode b_Mod_plus 33 = .ok (.bipush 36, 2) := by decide +kernel
theorem d_Mod_plus_35 : decode b_Mod_plus 35 = .ok (.if_icmp .ge 20, 3) := by decide +kernel
theorem d_Mod_plus_38 : decode b_Mod_plus 38 = .ok (.aload_n 0, 1) := by decide +kernel
theorem d_Mod_plus_39 : decode b_Mod_plus 39 = .ok (.getfield 16, 3) := by decide +kernel
theorem d_Mod_plus_42 : decode b_Mod_plus 42 = .ok (.aload_n 0, 1) := by decide +kernel
theorem d_Mod_plus_43 : decode b_Mod_plus 43 = .ok (.iload_n 1, 1) := by decide +kernel
theorem d_Mod_plus_44 : decode b_Mod_plus 44 = .ok (.iload_n 2, 1) := by decide +kernel
theorem d_Mod_plus_45 : decode b_Mod_plus 45 = .ok (.invokevirtual 64, 3) := by decide +kernel
theorem d_Mod_plus_48 : decode b_Mod_plus 48 = .ok (.iload 4, 2) := by decide +kernel
theorem d_Mod_plus_50 : decode b_Mod_plus 50 = .ok (.iadd, 1) := by decide +kernel
theorem d_Mod_plus_51 : decode b_Mod_plus 51 = .ok (.iaload, 1) := by decide +kernel
theorem d_Mod_plus_52 : decode b_Mod_plus 52 = .ok (.goto 4, 3) := by decide +kernel
theorem d_Mod_plus_55 : decode b_Mod_plus 55 = .ok (.iconst 0, 1) := by decide +kernel
theorem d_Mod_plus_56 : decode b_Mod_plus 56 = .ok (.iadd, 1) := by decide +kernel
theorem d_Mod_plus_57 : decode b_Mod_plus 57 = .ok (.istore 5, 2) := by decide +kernel
theorem d_Mod_plus_59 : decode b_Mod_plus 59 = .ok (.aload_n 0, 1) := by decide +kernel
theorem d_Mod_plus_60 : decode b_Mod_plus 60 = .ok (.getfield 25, 3) := by decide +kernel
theorem d_Mod_plus_63 : decode b_Mod_plus 63 = .ok (.iload 4, 2) := by decide +kernel
theorem d_Mod_plus_65 : decode b_Mod_plus 65 = .ok (.iload 5, 2) := by decide +kernel
theorem d_Mod_plus_67 : decode b_Mod_plus 67 = .ok (.bipush 10, 2) := by decide +kernel
theorem d_Mod_plus_69 : decode b_Mod_plus 69 = .ok (.irem, 1) := by decide +kernel
theorem d_Mod_plus_70 : decode b_Mod_plus 70 = .ok (.iastore, 1) := by decide +kernel
theorem d_Mod_plus_71 : decode b_Mod_plus 71 = .ok (.iload 5, 2) := by decide +kernel
theorem d_Mod_plus_73 : decode b_Mod_plus 73 = .ok (.bipush 10, 2) := by decide +kernel
theorem d_Mod_plus_75 : decode b_Mod_plus 75 = .ok (.idiv, 1) := by decide +kernel
theorem d_Mod_plus_76 : decode b_Mod_plus 76 = .ok (.istore_n 3, 1) := by decide +kernel
theorem d_Mod_plus_77 : decode b_Mod_plus 77 = .ok (.iinc 4 1, 3) := by decide +kernel
theorem d_Mod_plus_80 : decode b_Mod_plus 80 = .ok (.goto (-65), 3) := by decide +kernel
theorem d_Mod_plus_83 : decode b_Mod_plus 83 = .ok (.return_, 1) := by decide +kernel
theorem d_Mod_keep_0 : decode b_Mod_keep 0 = .ok (.iconst 1, 1) := by decide +kernel
theorem d_Mod_keep_1 : decode b_Mod_keep 1 = .ok (.istore_n 3, 1) := by decide +kernel
theorem d_Mod_keep_2 : decode b_Mod_keep 2 = .ok (.iconst 0, 1) := by decide +kernel
theorem d_Mod_keep_3 : decode b_Mod_keep 3 = .ok (.istore 4, 2) := by decide +kernel
theorem d_Mod_keep_5 : decode b_Mod_keep 5 = .ok (.iload 4, 2) := by decide +kernel
theorem d_Mod_keep_7 : decode b_Mod_keep 7 = .ok (.bipush 80, 2) := by decide +kernel
theorem d_Mod_keep_9 : decode b_Mod_keep 9 = .ok (.if_icmp .ge 64, 3) := by decide +kernel
theorem d_Mod_keep_12 : decode b_Mod_keep 12 = .ok (.iload_n 3, 1) := by decide +kernel
theorem d_Mod_keep_13 : decode b_Mod_keep 13 = .ok (.ifCond .eq 24, 3) := by decide +kernel
theorem d_Mod_keep_16 : decode b_Mod_keep 16 = .ok (.iload 4, 2) := by decide +kernel
theorem d_Mod_keep_18 : decode b_Mod_keep 18 = .ok (.bipush 36, 2) := by decide +kernel
theorem d_Mod_keep_20 : decode b_Mod_keep 20 = .ok (.if_icmp .lt 13, 3) := by decide +kernel
theorem d_Mod_keep_23 : decode b_Mod_keep 23 = .ok (.aload_n 0, 1) := by decide +kernel
theorem d_Mod_keep_24 : decode b_Mod_keep 24 = .ok (.getfield 25, 3) := by decide +kernel
theorem d_Mod_keep_27 : decode b_Mod_keep 27 = .ok (.iload 4, 2) := by decide +kernel
theorem d_Mod_keep_29 : decode b_Mod_keep 29 = .ok (.iaload, 1) := by decide +kernel
theorem d_Mod_keep_30 : decode b_Mod_keep 30 = .ok (.ifCond .ne 7, 3) := by decide +kernel
theorem d_Mod_keep_33 : decode b_Mod_keep 33 = .ok (.iconst 1, 1) := by decide +kernel
theorem d_Mod_keep_34 : decode b_Mod_keep 34 = .ok (.goto 4, 3) := by decide +kernel
theorem d_Mod_keep_37 : decode b_Mod_keep 37 = .ok (.iconst 0, 1) := by decide +kernel
theorem d_Mod_keep_38 : decode b_Mod_keep 38 = .ok (.istore_n 3, 1) := by decide +kernel
theorem d_Mod_keep_39 : decode b_Mod_keep 39 = .ok (.iload 4, 2) := by decide +kernel
theorem d_Mod_keep_41 : decode b_Mod_keep 41 = .ok (.bipush 36, 2) := by decide +kernel
theorem d_Mod_keep_43 : decode b_Mod_keep 43 = .ok (.if_icmp .ge 24, 3) := by decide +kernel
theorem d_Mod_keep_46 : decode b_Mod_keep 46 = .ok (.aload_n 0, 1) := by decide +kernel
theorem d_Mod_keep_47 : decode b_Mod_keep 47 = .ok (.getfield 16, 3) := by decide +kernel
theorem d_Mod_keep_50 : decode b_Mod_keep 50 = .ok (.aload_n 0, 1) := by decide +kernel
theorem d_Mod_keep_51 : decode b_Mod_keep 51 = .ok (.iload_n 1, 1) := by decide +kernel
theorem d_Mod_keep_52 : decode b_Mod_keep 52 = .ok (.iload_n 2, 1) := by decide +kernel
theorem d_Mod_keep_53 : decode b_Mod_keep 53 = .ok (.invokevirtual 64, 3) := by decide +kernel
theorem d_Mod_keep_56 : decode b_Mod_keep 56 = .ok (.iload 4, 2) := by decide +kernel
theorem d_Mod_keep_58 : decode b_Mod_keep 58 = .ok (.iadd, 1) := by decide +kernel
theorem d_Mod_keep_59 : decode b_Mod_keep 59 = .ok (.aload_n 0, 1) := by decide +kernel
theorem d_Mod_keep_60 : decode b_Mod_keep 60 = .ok (.getfield 25, 3) := by decide +kernel
theorem d_Mod_keep_63 : decode b_Mod_keep 63 = .ok (.iload 4, 2) := by decide +kernel
theorem d_Mod_keep_65 : decode b_Mod_keep 65 = .ok (.iaload, 1) := by decide +kernel
theorem d_Mod_keep_66 : decode b_Mod_keep 66 = .ok (.iastore, 1) := by decide +kernel
theorem d_Mod_keep_67 : decode b_Mod_keep 67 = .ok (.iinc 4 1, 3) := by decide +kernel
theorem d_Mod_keep_70 : decode b_Mod_keep 70 = .ok (.goto (-65), 3) := by decide +kernel
theorem d_Mod_keep_73 : decode b_Mod_keep 73 = .ok (.iload_n 3, 1) := by decide +kernel
theorem d_Mod_keep_74 : decode b_Mod_keep 74 = .ok (.ireturn, 1) := by decide +kernel
theorem d_Mod_add_0 : decode b_Mod_add 0 = .ok (.aload_n 0, 1) := by decide +kernel
theorem d_Mod_add_1 : decode b_Mod_add 1 = .ok (.iload_n 1, 1) := by decide +kernel
theorem d_Mod_add_2 : decode b_Mod_add 2 = .ok (.invokevirtual 42, 3) := by decide +kernel
theorem d_Mod_add_5 : decode b_Mod_add 5 = .ok (.ifCond .eq 15, 3) := by decide +kernel
theorem d_Mod_add_8 : decode b_Mod_add 8 = .ok (.aload_n 0, 1) := by decide +kernel
theorem d_Mod_add_9 : decode b_Mod_add 9 = .ok (.iload_n 2, 1) := by decide +kernel
theorem d_Mod_add_10 : decode b_Mod_add 10 = .ok (.invokevirtual 42, 3) := by decide +kernel
theorem d_Mod_add_13 : decode b_Mod_add 13 = .ok (.ifCond .eq 7, 3) := by decide +kernel
theorem d_Mod_add_16 : decode b_Mod_add 16 = .ok (.iconst 1, 1) := by decide +kernel
theorem d_Mod_add_17 : decode b_Mod_add 17 = .ok (.goto 4, 3) := by decide +kernel
theorem d_Mod_add_20 : decode b_Mod_add 20 = .ok (.iconst 0, 1) := by decide +kernel
theorem d_Mod_add_21 : decode b_Mod_add 21 = .ok (.istore_n 3, 1) := by decide +kernel
theorem d_Mod_add_22 : decode b_Mod_add 22 = .ok (.iconst 0, 1) := by decide +kernel
theorem d_Mod_add_23 : decode b_Mod_add 23 = .ok (.istore 4, 2) := by decide +kernel
theorem d_Mod_add_25 : decode b_Mod_add 25 = .ok (.iconst (-1), 1) := by decide +kernel
theorem d_Mod_add_26 : decode b_Mod_add 26 = .ok (.istore 5, 2) := by decide +kernel
theorem d_Mod_add_28 : decode b_Mod_add 28 = .ok (.iload_n 3, 1) := by decide +kernel
theorem d_Mod_add_29 : decode b_Mod_add 29 = .ok (.ifCond .eq 85, 3) := by decide +kernel
theorem d_Mod_add_32 : decode b_Mod_add 32 = .ok (.aload_n 0, 1) := by decide +kernel
theorem d_Mod_add_33 : decode b_Mod_add 33 = .ok (.getfield 7, 3) := by decide +kernel
theorem d_Mod_add_36 : decode b_Mod_add 36 = .ok (.iload_n 1, 1) := by decide +kernel
theorem d_Mod_add_37 : decode b_Mod_add 37 = .ok (.iaload, 1) := by decide +kernel
theorem d_Mod_add_38 : decode b_Mod_add 38 = .ok (.aload_n 0, 1) := by decide +kernel
theorem d_Mod_add_39 : decode b_Mod_add 39 = .ok (.getfield 7, 3) := by decide +kernel
theorem d_Mod_add_42 : decode b_Mod_add 42 = .ok (.iload_n 2, 1) := by decide +kernel
end
section
theorem d_Mod_add_43 : decode b_Mod_add 43 = .ok (.iaload, 1) := by decide +kernel
theorem d_Mod_add_44 : decode b_Mod_add 44 = .ok (.if_icmp .ge 12, 3) := by decide +kernel
theorem d_Mod_add_47 : decode b_Mod_add 47 = .ok (.aload_n 0, 1) := by decide +kernel
theorem d_Mod_add_48 : decode b_Mod_add 48 = .ok (.getfield 7, 3) := by decide +kernel
theorem d_Mod_add_51 : decode b_Mod_add 51 = .ok (.iload_n 1, 1) := by decide +kernel
theorem d_Mod_add_52 : decode b_Mod_add 52 = .ok (.iaload, 1) := by decide +kernel
theorem d_Mod_add_53 : decode b_Mod_add 53 = .ok (.goto 9, 3) := by decide +kernel
theorem d_Mod_add_56 : decode b_Mod_add 56 = .ok (.aload_n 0, 1) := by decide +kernel
theorem d_Mod_add_57 : decode b_Mod_add 57 = .ok (.getfield 7, 3) := by decide +kernel
theorem d_Mod_add_60 : decode b_Mod_add 60 = .ok (.iload_n 2, 1) := by decide +kernel
theorem d_Mod_add_61 : decode b_Mod_add 61 = .ok (.iaload, 1) := by decide +kernel
theorem d_Mod_add_62 : decode b_Mod_add 62 = .ok (.istore 4, 2) := by decide +kernel
theorem d_Mod_add_64 : decode b_Mod_add 64 = .ok (.aload_n 0, 1) := by decide +kernel
theorem d_Mod_add_65 : decode b_Mod_add 65 = .ok (.getfield 7, 3) := by decide +kernel
theorem d_Mod_add_68 : decode b_Mod_add 68 = .ok (.iload_n 1, 1) := by decide +kernel
theorem d_Mod_add_69 : decode b_Mod_add 69 = .ok (.iaload, 1) := by decide +kernel
theorem d_Mod_add_70 : decode b_Mod_add 70 = .ok (.aload_n 0, 1) := by decide +kernel
theorem d_Mod_add_71 : decode b_Mod_add 71 = .ok (.getfield 13, 3) := by decide +kernel
theorem d_Mod_add_74 : decode b_Mod_add 74 = .ok (.iload_n 1, 1) := by decide +kernel
theorem d_Mod_add_75 : decode b_Mod_add 75 = .ok (.iaload, 1) := by decide +kernel
theorem d_Mod_add_76 : decode b_Mod_add 76 = .ok (.iadd, 1) := by decide +kernel
theorem d_Mod_add_77 : decode b_Mod_add 77 = .ok (.iconst 1, 1) := by decide +kernel
theorem d_Mod_add_78 : decode b_Mod_add 78 = .ok (.isub, 1) := by decide +kernel
theorem d_Mod_add_79 : decode b_Mod_add 79 = .ok (.istore 6, 2) := by decide +kernel
theorem d_Mod_add_81 : decode b_Mod_add 81 = .ok (.aload_n 0, 1) := by decide +kernel
theorem d_Mod_add_82 : decode b_Mod_add 82 = .ok (.getfield 7, 3) := by decide +kernel
theorem d_Mod_add_85 : decode b_Mod_add 85 = .ok (.iload_n 2, 1) := by decide +kernel
theorem d_Mod_add_86 : decode b_Mod_add 86 = .ok (.iaload, 1) := by decide +kernel
theorem d_Mod_add_87 : decode b_Mod_add 87 = .ok (.aload_n 0, 1) := by decide +kernel
theorem d_Mod_add_88 : decode b_Mod_add 88 = .ok (.getfield 13, 3) := by decide +kernel
theorem d_Mod_add_91 : decode b_Mod_add 91 = .ok (.iload_n 2, 1) := by decide +kernel
theorem d_Mod_add_92 : decode b_Mod_add 92 = .ok (.iaload, 1) := by decide +kernel
theorem d_Mod_add_93 : decode b_Mod_add 93 = .ok (.iadd, 1) := by decide +kernel
theorem d_Mod_add_94 : decode b_Mod_add 94 = .ok (.iconst 1, 1) := by decide +kernel
theorem d_Mod_add_95 : decode b_Mod_add 95 = .ok (.isub, 1) := by decide +kernel
theorem d_Mod_add_96 : decode b_Mod_add 96 = .ok (.istore 7, 2) := by decide +kernel
theorem d_Mod_add_98 : decode b_Mod_add 98 = .ok (.iload 6, 2) := by decide +kernel
theorem d_Mod_add_100 : decode b_Mod_add 100 = .ok (.iload 7, 2) := by decide +kernel
theorem d_Mod_add_102 : decode b_Mod_add 102 = .ok (.if_icmp .le 8, 3) := by decide +kernel
theorem d_Mod_add_105 : decode b_Mod_add 105 = .ok (.iload 6, 2) := by decide +kernel
theorem d_Mod_add_107 : decode b_Mod_add 107 = .ok (.goto 5, 3) := by decide +kernel
theorem d_Mod_add_110 : decode b_Mod_add 110 = .ok (.iload 7, 2) := by decide +kernel
theorem d_Mod_add_112 : decode b_Mod_add 112 = .ok (.istore 5, 2) := by decide +kernel
theorem d_Mod_add_114 : decode b_Mod_add 114 = .ok (.aload_n 0, 1) := by decide +kernel
theorem d_Mod_add_115 : decode b_Mod_add 115 = .ok (.iload_n 3, 1) := by decide +kernel
theorem d_Mod_add_116 : decode b_Mod_add 116 = .ok (.aload_n 0, 1) := by decide +kernel
theorem d_Mod_add_117 : decode b_Mod_add 117 = .ok (.getfield 39, 3) := by decide +kernel
theorem d_Mod_add_120 : decode b_Mod_add 120 = .ok (.bipush 8, 2) := by decide +kernel
theorem d_Mod_add_122 : decode b_Mod_add 122 = .ok (.if_icmp .ge 7, 3) := by decide +kernel
theorem d_Mod_add_125 : decode b_Mod_add 125 = .ok (.iconst 1, 1) := by decide +kernel
theorem d_Mod_add_126 : decode b_Mod_add 126 = .ok (.goto 4, 3) := by decide +kernel
theorem d_Mod_add_129 : decode b_Mod_add 129 = .ok (.iconst 0, 1) := by decide +kernel
theorem d_Mod_add_130 : decode b_Mod_add 130 = .ok (.iload 5, 2) := by decide +kernel
theorem d_Mod_add_132 : decode b_Mod_add 132 = .ok (.iload 4, 2) := by decide +kernel
theorem d_Mod_add_134 : decode b_Mod_add 134 = .ok (.isub, 1) := by decide +kernel
theorem d_Mod_add_135 : decode b_Mod_add 135 = .ok (.bipush 48, 2) := by decide +kernel
theorem d_Mod_add_137 : decode b_Mod_add 137 = .ok (.if_icmp .ge 7, 3) := by decide +kernel
theorem d_Mod_add_140 : decode b_Mod_add 140 = .ok (.iconst 1, 1) := by decide +kernel
theorem d_Mod_add_141 : decode b_Mod_add 141 = .ok (.goto 4, 3) := by decide +kernel
theorem d_Mod_add_144 : decode b_Mod_add 144 = .ok (.iconst 0, 1) := by decide +kernel
theorem d_Mod_add_145 : decode b_Mod_add 145 = .ok (.iconst 1, 1) := by decide +kernel
theorem d_Mod_add_146 : decode b_Mod_add 146 = .ok (.invokevirtual 50, 3) := by decide +kernel
theorem d_Mod_add_149 : decode b_Mod_add 149 = .ok (.ifCond .ne 5, 3) := by decide +kernel
theorem d_Mod_add_152 : decode b_Mod_add 152 = .ok (.iconst 0, 1) := by decide +kernel
theorem d_Mod_add_153 : decode b_Mod_add 153 = .ok (.ireturn, 1) := by decide +kernel
theorem d_Mod_add_154 : decode b_Mod_add 154 = .ok (.aload_n 0, 1) := by decide +kernel
theorem d_Mod_add_155 : decode b_Mod_add 155 = .ok (.iload 4, 2) := by decide +kernel
theorem d_Mod_add_157 : decode b_Mod_add 157 = .ok (.iload 5, 2) := by decide +kernel
theorem d_Mod_add_159 : decode b_Mod_add 159 = .ok (.iload 4, 2) := by decide +kernel
theorem d_Mod_add_161 : decode b_Mod_add 161 = .ok (.isub, 1) := by decide +kernel
theorem d_Mod_add_162 : decode b_Mod_add 162 = .ok (.iconst 1, 1) := by decide +kernel
theorem d_Mod_add_163 : decode b_Mod_add 163 = .ok (.iadd, 1) := by decide +kernel
theorem d_Mod_add_164 : decode b_Mod_add 164 = .ok (.invokevirtual 54, 3) := by decide +kernel
theorem d_Mod_add_167 : decode b_Mod_add 167 = .ok (.iconst 1, 1) := by decide +kernel
theorem d_Mod_add_168 : decode b_Mod_add 168 = .ok (.istore 6, 2) := by decide +kernel
theorem d_Mod_add_170 : decode b_Mod_add 170 = .ok (.iload 4, 2) := by decide +kernel
theorem d_Mod_add_172 : decode b_Mod_add 172 = .ok (.istore 7, 2) := by decide +kernel
theorem d_Mod_add_174 : decode b_Mod_add 174 = .ok (.iload 7, 2) := by decide +kernel
theorem d_Mod_add_176 : decode b_Mod_add 176 = .ok (.iload 5, 2) := by decide +kernel
theorem d_Mod_add_178 : decode b_Mod_add 178 = .ok (.if_icmp .gt 54, 3) := by decide +kernel
theorem d_Mod_add_181 : decode b_Mod_add 181 = .ok (.aload_n 0, 1) := by decide +kernel
theorem d_Mod_add_182 : decode b_Mod_add 182 = .ok (.invokevirtual 68, 3) := by decide +kernel
theorem d_Mod_add_185 : decode b_Mod_add 185 = .ok (.aload_n 0, 1) := by decide +kernel
theorem d_Mod_add_186 : decode b_Mod_add 186 = .ok (.iload_n 1, 1) := by decide +kernel
theorem d_Mod_add_187 : decode b_Mod_add 187 = .ok (.iload 7, 2) := by decide +kernel
theorem d_Mod_add_189 : decode b_Mod_add 189 = .ok (.invokevirtual 71, 3) := by decide +kernel
theorem d_Mod_add_192 : decode b_Mod_add 192 = .ok (.aload_n 0, 1) := by decide +kernel
theorem d_Mod_add_193 : decode b_Mod_add 193 = .ok (.iload_n 2, 1) := by decide +kernel
theorem d_Mod_add_194 : decode b_Mod_add 194 = .ok (.iload 7, 2) := by decide +kernel
theorem d_Mod_add_196 : decode b_Mod_add 196 = .ok (.invokevirtual 71, 3) := by decide +kernel
theorem d_Mod_add_199 : decode b_Mod_add 199 = .ok (.aload_n 0, 1) := by decide +kernel
theorem d_Mod_add_200 : decode b_Mod_add 200 = .ok (.aload_n 0, 1) := by decide +kernel
theorem d_Mod_add_201 : decode b_Mod_add 201 = .ok (.getfield 39, 3) := by decide +kernel
theorem d_Mod_add_204 : decode b_Mod_add 204 = .ok (.iconst 1, 1) := by decide +kernel
theorem d_Mod_add_205 : decode b_Mod_add 205 = .ok (.isub, 1) := by decide +kernel
theorem d_Mod_add_206 : decode b_Mod_add 206 = .ok (.iload 7, 2) := by decide +kernel
theorem d_Mod_add_208 : decode b_Mod_add 208 = .ok (.invokevirtual 74, 3) := by decide +kernel
theorem d_Mod_add_211 : decode b_Mod_add 211 = .ok (.ifCond .eq 12, 3) := by decide +kernel
theorem d_Mod_add_214 : decode b_Mod_add 214 = .ok (.iload 6, 2) := by decide +kernel
theorem d_Mod_add_216 : decode b_Mod_add 216 = .ok (.ifCond .eq 7, 3) := by decide +kernel
theorem d_Mod_add_219 : decode b_Mod_add 219 = .ok (.iconst 1, 1) := by decide +kernel
theorem d_Mod_add_220 : decode b_Mod_add 220 = .ok (.goto 4, 3) := by decide +kernel
theorem d_Mod_add_223 : decode b_Mod_add 223 = .ok (.iconst 0, 1) := by decide +kernel
theorem d_Mod_add_224 : decode b_Mod_add 224 = .ok (.istore 6, 2) := by decide +kernel
theorem d_Mod_add_226 : decode b_Mod_add 226 = .ok (.iinc 7 1, 3) := by decide +kernel
theorem d_Mod_add_229 : decode b_Mod_add 229 = .ok (.goto (-55), 3) := by decide +kernel
theorem d_Mod_add_232 : decode b_Mod_add 232 = .ok (.aload_n 0, 1) := by decide +kernel
theorem d_Mod_add_233 : decode b_Mod_add 233 = .ok (.iload 6, 2) := by decide +kernel
theorem d_Mod_add_235 : decode b_Mod_add 235 = .ok (.ifCond .eq 10, 3) := by decide +kernel
theorem d_Mod_add_238 : decode b_Mod_add 238 = .ok (.aload_n 0, 1) := by decide +kernel
theorem d_Mod_add_239 : decode b_Mod_add 239 = .ok (.getfield 39, 3) := by decide +kernel
theorem d_Mod_add_242 : decode b_Mod_add 242 = .ok (.goto 9, 3) := by decide +kernel
theorem d_Mod_add_245 : decode b_Mod_add 245 = .ok (.aload_n 0, 1) := by decide +kernel
theorem d_Mod_add_246 : decode b_Mod_add 246 = .ok (.getfield 39, 3) := by decide +kernel
theorem d_Mod_add_249 : decode b_Mod_add 249 = .ok (.iconst 1, 1) := by decide +kernel
theorem d_Mod_add_250 : decode b_Mod_add 250 = .ok (.isub, 1) := by decide +kernel
theorem d_Mod_add_251 : decode b_Mod_add 251 = .ok (.putfield 39, 3) := by decide +kernel
theorem d_Mod_add_254 : decode b_Mod_add 254 = .ok (.aload_n 0, 1) := by decide +kernel
theorem d_Mod_add_255 : decode b_Mod_add 255 = .ok (.iconst 1, 1) := by decide +kernel
theorem d_Mod_add_256 : decode b_Mod_add 256 = .ok (.iconst 1, 1) := by decide +kernel
theorem d_Mod_add_257 : decode b_Mod_add 257 = .ok (.iconst 1, 1) := by decide +kernel
theorem d_Mod_add_258 : decode b_Mod_add 258 = .ok (.iload 6, 2) := by decide +kernel
theorem d_Mod_add_260 : decode b_Mod_add 260 = .ok (.invokevirtual 50, 3) := by decide +kernel
theorem d_Mod_add_263 : decode b_Mod_add 263 = .ok (.ifCond .eq 12, 3) := by decide +kernel
theorem d_Mod_add_266 : decode b_Mod_add 266 = .ok (.aload_n 0, 1) := by decide +kernel
theorem d_Mod_add_267 : decode b_Mod_add 267 = .ok (.getfield 39, 3) := by decide +kernel
theorem d_Mod_add_270 : decode b_Mod_add 270 = .ok (.iconst 1, 1) := by decide +kernel
theorem d_Mod_add_271 : decode b_Mod_add 271 = .ok (.isub, 1) := by decide +kernel
theorem d_Mod_add_272 : decode b_Mod_add 272 = .ok (.goto 4, 3) := by decide +kernel
theorem d_Mod_add_275 : decode b_Mod_add 275 = .ok (.iconst 0, 1) := by decide +kernel
theorem d_Mod_add_276 : decode b_Mod_add 276 = .ok (.ireturn, 1) := by decide +kernel
theorem d_Mod_multiply_0 : decode b_Mod_multiply 0 = .ok (.aload_n 0, 1) := by decide +kernel
theorem d_Mod_multiply_1 : decode b_Mod_multiply 1 = .ok (.invokevirtual 68, 3) := by decide +kernel
theorem d_Mod_multiply_4 : decode b_Mod_multiply 4 = .ok (.iconst 0, 1) := by decide +kernel
theorem d_Mod_multiply_5 : decode b_Mod_multiply 5 = .ok (.istore_n 3, 1) := by decide +kernel
theorem d_Mod_multiply_6 : decode b_Mod_multiply 6 = .ok (.iload_n 3, 1) := by decide +kernel
theorem d_Mod_multiply_7 : decode b_Mod_multiply 7 = .ok (.bipush 36, 2) := by decide +kernel
theorem d_Mod_multiply_9 : decode b_Mod_multiply 9 = .ok (.if_icmp .ge 95, 3) := by decide +kernel
theorem d_Mod_multiply_12 : decode b_Mod_multiply 12 = .ok (.iconst 0, 1) := by decide +kernel
theorem d_Mod_multiply_13 : decode b_Mod_multiply 13 = .ok (.istore 4, 2) := by decide +kernel
theorem d_Mod_multiply_15 : decode b_Mod_multiply 15 = .ok (.iconst 0, 1) := by decide +kernel
theorem d_Mod_multiply_16 : decode b_Mod_multiply 16 = .ok (.istore 5, 2) := by decide +kernel
theorem d_Mod_multiply_18 : decode b_Mod_multiply 18 = .ok (.iload_n 3, 1) := by decide +kernel
theorem d_Mod_multiply_19 : decode b_Mod_multiply 19 = .ok (.iload 5, 2) := by decide +kernel
theorem d_Mod_multiply_21 : decode b_Mod_multiply 21 = .ok (.iadd, 1) := by decide +kernel
theorem d_Mod_multiply_22 : decode b_Mod_multiply 22 = .ok (.bipush 80, 2) := by decide +kernel
theorem d_Mod_multiply_24 : decode b_Mod_multiply 24 = .ok (.if_icmp .ge 74, 3) := by decide +kernel
theorem d_Mod_multiply_27 : decode b_Mod_multiply 27 = .ok (.aload_n 0, 1) := by decide +kernel
theorem d_Mod_multiply_28 : decode b_Mod_multiply 28 = .ok (.getfield 25, 3) := by decide +kernel
theorem d_Mod_multiply_31 : decode b_Mod_multiply 31 = .ok (.iload_n 3, 1) := by decide +kernel
theorem d_Mod_multiply_32 : decode b_Mod_multiply 32 = .ok (.iload 5, 2) := by decide +kernel
theorem d_Mod_multiply_34 : decode b_Mod_multiply 34 = .ok (.iadd, 1) := by decide +kernel
theorem d_Mod_multiply_35 : decode b_Mod_multiply 35 = .ok (.iaload, 1) := by decide +kernel
theorem d_Mod_multiply_36 : decode b_Mod_multiply 36 = .ok (.iload 4, 2) := by decide +kernel
theorem d_Mod_multiply_38 : decode b_Mod_multiply 38 = .ok (.iadd, 1) := by decide +kernel
theorem d_Mod_multiply_39 : decode b_Mod_multiply 39 = .ok (.iload 5, 2) := by decide +kernel
theorem d_Mod_multiply_41 : decode b_Mod_multiply 41 = .ok (.bipush 36, 2) := by decide +kernel
theorem d_Mod_multiply_43 : decode b_Mod_multiply 43 = .ok (.if_icmp .ge 24, 3) := by decide +kernel
theorem d_Mod_multiply_46 : decode b_Mod_multiply 46 = .ok (.aload_n 0, 1) := by decide +kernel
theorem d_Mod_multiply_47 : decode b_Mod_multiply 47 = .ok (.getfield 16, 3) := by decide +kernel
theorem d_Mod_multiply_50 : decode b_Mod_multiply 50 = .ok (.iload_n 1, 1) := by decide +kernel
theorem d_Mod_multiply_51 : decode b_Mod_multiply 51 = .ok (.iload_n 3, 1) := by decide +kernel
theorem d_Mod_multiply_52 : decode b_Mod_multiply 52 = .ok (.iadd, 1) := by decide +kernel
theorem d_Mod_multiply_53 : decode b_Mod_multiply 53 = .ok (.iaload, 1) := by decide +kernel
theorem d_Mod_multiply_54 : decode b_Mod_multiply 54 = .ok (.aload_n 0, 1) := by decide +kernel
theorem d_Mod_multiply_55 : decode b_Mod_multiply 55 = .ok (.getfield 16, 3) := by decide +kernel
theorem d_Mod_multiply_58 : decode b_Mod_multiply 58 = .ok (.iload_n 2, 1) := by decide +kernel
theorem d_Mod_multiply_59 : decode b_Mod_multiply 59 = .ok (.iload 5, 2) := by decide +kernel
theorem d_Mod_multiply_61 : decode b_Mod_multiply 61 = .ok (.iadd, 1) := by decide +kernel
theorem d_Mod_multiply_62 : decode b_Mod_multiply 62 = .ok (.iaload, 1) := by decide +kernel
theorem d_Mod_multiply_63 : decode b_Mod_multiply 63 = .ok (.imul, 1) := by decide +kernel
theorem d_Mod_multiply_64 : decode b_Mod_multiply 64 = .ok (.goto 4, 3) := by decide +kernel
theorem d_Mod_multiply_67 : decode b_Mod_multiply 67 = .ok (.iconst 0, 1) := by decide +kernel
theorem d_Mod_multiply_68 : decode b_Mod_multiply 68 = .ok (.iadd, 1) := by decide +kernel
theorem d_Mod_multiply_69 : decode b_Mod_multiply 69 = .ok (.istore 6, 2) := by decide +kernel
theorem d_Mod_multiply_71 : decode b_Mod_multiply 71 = .ok (.aload_n 0, 1) := by decide +kernel
theorem d_Mod_multiply_72 : decode b_Mod_multiply 72 = .ok (.getfield 25, 3) := by decide +kernel
theorem d_Mod_multiply_75 : decode b_Mod_multiply 75 = .ok (.iload_n 3, 1) := by decide +kernel
theorem d_Mod_multiply_76 : decode b_Mod_multiply 76 = .ok (.iload 5, 2) := by decide +kernel
theorem d_Mod_multiply_78 : decode b_Mod_multiply 78 = .ok (.iadd, 1) := by decide +kernel
theorem d_Mod_multiply_79 : decode b_Mod_multiply 79 = .ok (.iload 6, 2) := by decide +kernel
theorem d_Mod_multiply_81 : decode b_Mod_multiply 81 = .ok (.bipush 10, 2) := by decide +kernel
theorem d_Mod_multiply_83 : decode b_Mod_multiply 83 = .ok (.irem, 1) := by decide +kernel
theorem d_Mod_multiply_84 : decode b_Mod_multiply 84 = .ok (.iastore, 1) := by decide +kernel
theorem d_Mod_multiply_85 : decode b_Mod_multiply 85 = .ok (.iload 6, 2) := by decide +kernel
theorem d_Mod_multiply_87 : decode b_Mod_multiply 87 = .ok (.bipush 10, 2) := by decide +kernel
theorem d_Mod_multiply_89 : decode b_Mod_multiply 89 = .ok (.idiv, 1) := by decide +kernel
theorem d_Mod_multiply_90 : decode b_Mod_multiply 90 = .ok (.istore 4, 2) := by decide +kernel
theorem d_Mod_multiply_92 : decode b_Mod_multiply 92 = .ok (.iinc 5 1, 3) := by decide +kernel
theorem d_Mod_multiply_95 : decode b_Mod_multiply 95 = .ok (.goto (-77), 3) := by decide +kernel
theorem d_Mod_multiply_98 : decode b_Mod_multiply 98 = .ok (.iinc 3 1, 3) := by decide +kernel
theorem d_Mod_multiply_101 : decode b_Mod_multiply 101 = .ok (.goto (-95), 3) := by decide +kernel
theorem d_Mod_multiply_104 : decode b_Mod_multiply 104 = .ok (.return_, 1) := by decide +kernel
theorem d_Mod_divide_0 : decode b_Mod_divide 0 = .ok (.lconst 0, 1) := by decide +kernel
theorem d_Mod_divide_1 : decode b_Mod_divide 1 = .ok (.lstore_n 2, 1) := by decide +kernel
theorem d_Mod_divide_2 : decode b_Mod_divide 2 = .ok (.bipush 79, 2) := by decide +kernel
theorem d_Mod_divide_4 : decode b_Mod_divide 4 = .ok (.istore 4, 2) := by decide +kernel
theorem d_Mod_divide_6 : decode b_Mod_divide 6 = .ok (.iload 4, 2) := by decide +kernel
theorem d_Mod_divide_8 : decode b_Mod_divide 8 = .ok (.ifCond .lt 41, 3) := by decide +kernel
theorem d_Mod_divide_11 : decode b_Mod_divide 11 = .ok (.lload_n 2, 1) := by decide +kernel
theorem d_Mod_divide_12 : decode b_Mod_divide 12 = .ok (.ldc2_w 62, 3) := by decide +kernel
theorem d_Mod_divide_15 : decode b_Mod_divide 15 = .ok (.lmul, 1) := by decide +kernel
theorem d_Mod_divide_16 : decode b_Mod_divide 16 = .ok (.aload_n 0, 1) := by decide +kernel
theorem d_Mod_divide_17 : decode b_Mod_divide 17 = .ok (.getfield 25, 3) := by decide +kernel
theorem d_Mod_divide_20 : decode b_Mod_divide 20 = .ok (.iload 4, 2) := by decide +kernel
theorem d_Mod_divide_22 : decode b_Mod_divide 22 = .ok (.iaload, 1) := by decide +kernel
theorem d_Mod_divide_23 : decode b_Mod_divide 23 = .ok (.i2l, 1) := by decide +kernel
theorem d_Mod_divide_24 : decode b_Mod_divide 24 = .ok (.ladd, 1) := by decide +kernel
theorem d_Mod_divide_25 : decode b_Mod_divide 25 = .ok (.lstore_n 2, 1) := by decide +kernel
theorem d_Mod_divide_26 : decode b_Mod_divide 26 = .ok (.aload_n 0, 1) := by decide +kernel
theorem d_Mod_divide_27 : decode b_Mod_divide 27 = .ok (.getfield 25, 3) := by decide +kernel
theorem d_Mod_divide_30 : decode b_Mod_divide 30 = .ok (.iload 4, 2) := by decide +kernel
theorem d_Mod_divide_32 : decode b_Mod_divide 32 = .ok (.lload_n 2, 1) := by decide +kernel
theorem d_Mod_divide_33 : decode b_Mod_divide 33 = .ok (.iload_n 1, 1) := by decide +kernel
theorem d_Mod_divide_34 : decode b_Mod_divide 34 = .ok (.i2l, 1) := by decide +kernel
theorem d_Mod_divide_35 : decode b_Mod_divide 35 = .ok (.ldiv, 1) := by decide +kernel
theorem d_Mod_divide_36 : decode b_Mod_divide 36 = .ok (.l2i, 1) := by decide +kernel
theorem d_Mod_divide_37 : decode b_Mod_divide 37 = .ok (.iastore, 1) := by decide +kernel
theorem d_Mod_divide_38 : decode b_Mod_divide 38 = .ok (.lload_n 2, 1) := by decide +kernel
theorem d_Mod_divide_39 : decode b_Mod_divide 39 = .ok (.iload_n 1, 1) := by decide +kernel
theorem d_Mod_divide_40 : decode b_Mod_divide 40 = .ok (.i2l, 1) := by decide +kernel
theorem d_Mod_divide_41 : decode b_Mod_divide 41 = .ok (.lrem, 1) := by decide +kernel
theorem d_Mod_divide_42 : decode b_Mod_divide 42 = .ok (.lstore_n 2, 1) := by decide +kernel
theorem d_Mod_divide_43 : decode b_Mod_divide 43 = .ok (.iinc 4 (-1), 3) := by decide +kernel
theorem d_Mod_divide_46 : decode b_Mod_divide 46 = .ok (.goto (-40), 3) := by decide +kernel
theorem d_Mod_divide_49 : decode b_Mod_divide 49 = .ok (.lload_n 2, 1) := by decide +kernel
theorem d_Mod_divide_50 : decode b_Mod_divide 50 = .ok (.lreturn, 1) := by decide +kernel
theorem d_Mod_times_0 : decode b_Mod_times 0 = .ok (.aload_n 0, 1) := by decide +kernel
theorem d_Mod_times_1 : decode b_Mod_times 1 = .ok (.iload_n 1, 1) := by decide +kernel
theorem d_Mod_times_2 : decode b_Mod_times 2 = .ok (.invokevirtual 42, 3) := by decide +kernel
theorem d_Mod_times_5 : decode b_Mod_times 5 = .ok (.ifCond .eq 15, 3) := by decide +kernel
theorem d_Mod_times_8 : decode b_Mod_times 8 = .ok (.aload_n 0, 1) := by decide +kernel
theorem d_Mod_times_9 : decode b_Mod_times 9 = .ok (.iload_n 2, 1) := by decide +kernel
theorem d_Mod_times_10 : decode b_Mod_times 10 = .ok (.invokevirtual 42, 3) := by decide +kernel
theorem d_Mod_times_13 : decode b_Mod_times 13 = .ok (.ifCond .eq 7, 3) := by decide +kernel
theorem d_Mod_times_16 : decode b_Mod_times 16 = .ok (.iconst 1, 1) := by decide +kernel
theorem d_Mod_times_17 : decode b_Mod_times 17 = .ok (.goto 4, 3) := by decide +kernel
theorem d_Mod_times_20 : decode b_Mod_times 20 = .ok (.iconst 0, 1) := by decide +kernel
theorem d_Mod_times_21 : decode b_Mod_times 21 = .ok (.istore 4, 2) := by decide +kernel
theorem d_Mod_times_23 : decode b_Mod_times 23 = .ok (.iconst 0, 1) := by decide +kernel
theorem d_Mod_times_24 : decode b_Mod_times 24 = .ok (.istore 5, 2) := by decide +kernel
theorem d_Mod_times_26 : decode b_Mod_times 26 = .ok (.iconst (-1), 1) := by decide +kernel
theorem d_Mod_times_27 : decode b_Mod_times 27 = .ok (.istore 6, 2) := by decide +kernel
theorem d_Mod_times_29 : decode b_Mod_times 29 = .ok (.iload 4, 2) := by decide +kernel
theorem d_Mod_times_31 : decode b_Mod_times 31 = .ok (.ifCond .eq 85, 3) := by decide +kernel
theorem d_Mod_times_34 : decode b_Mod_times 34 = .ok (.aload_n 0, 1) := by decide +kernel
theorem d_Mod_times_35 : decode b_Mod_times 35 = .ok (.getfield 7, 3) := by decide +kernel
theorem d_Mod_times_38 : decode b_Mod_times 38 = .ok (.iload_n 1, 1) := by decide +kernel
theorem d_Mod_times_39 : decode b_Mod_times 39 = .ok (.iaload, 1) := by decide +kernel
theorem d_Mod_times_40 : decode b_Mod_times 40 = .ok (.aload_n 0, 1) := by decide +kernel
theorem d_Mod_times_41 : decode b_Mod_times 41 = .ok (.getfield 7, 3) := by decide +kernel
theorem d_Mod_times_44 : decode b_Mod_times 44 = .ok (.iload_n 2, 1) := by decide +kernel
theorem d_Mod_times_45 : decode b_Mod_times 45 = .ok (.iaload, 1) := by decide +kernel
theorem d_Mod_times_46 : decode b_Mod_times 46 = .ok (.if_icmp .le 12, 3) := by decide +kernel
theorem d_Mod_times_49 : decode b_Mod_times 49 = .ok (.aload_n 0, 1) := by decide +kernel
theorem d_Mod_times_50 : decode b_Mod_times 50 = .ok (.getfield 7, 3) := by decide +kernel
theorem d_Mod_times_53 : decode b_Mod_times 53 = .ok (.iload_n 1, 1) := by decide +kernel
theorem d_Mod_times_54 : decode b_Mod_times 54 = .ok (.iaload, 1) := by decide +kernel
theorem d_Mod_times_55 : decode b_Mod_times 55 = .ok (.goto 9, 3) := by decide +kernel
theorem d_Mod_times_58 : decode b_Mod_times 58 = .ok (.aload_n 0, 1) := by decide +kernel
theorem d_Mod_times_59 : decode b_Mod_times 59 = .ok (.getfield 7, 3) := by decide +kernel
theorem d_Mod_times_62 : decode b_Mod_times 62 = .ok (.iload_n 2, 1) := by decide +kernel
theorem d_Mod_times_63 : decode b_Mod_times 63 = .ok (.iaload, 1) := by decide +kernel
theorem d_Mod_times_64 : decode b_Mod_times 64 = .ok (.istore 5, 2) := by decide +kernel
theorem d_Mod_times_66 : decode b_Mod_times 66 = .ok (.aload_n 0, 1) := by decide +kernel
theorem d_Mod_times_67 : decode b_Mod_times 67 = .ok (.getfield 7, 3) := by decide +kernel
theorem d_Mod_times_70 : decode b_Mod_times 70 = .ok (.iload_n 1, 1) := by decide +kernel
theorem d_Mod_times_71 : decode b_Mod_times 71 = .ok (.iaload, 1) := by decide +kernel
theorem d_Mod_times_72 : decode b_Mod_times 72 = .ok (.aload_n 0, 1) := by decide +kernel
theorem d_Mod_times_73 : decode b_Mod_times 73 = .ok (.getfield 13, 3) := by decide +kernel
theorem d_Mod_times_76 : decode b_Mod_times 76 = .ok (.iload_n 1, 1) := by decide +kernel
theorem d_Mod_times_77 : decode b_Mod_times 77 = .ok (.iaload, 1) := by decide +kernel
theorem d_Mod_times_78 : decode b_Mod_times 78 = .ok (.iadd, 1) := by decide +kernel
theorem d_Mod_times_79 : decode b_Mod_times 79 = .ok (.iconst 1, 1) := by decide +kernel
theorem d_Mod_times_80 : decode b_Mod_times 80 = .ok (.isub, 1) := by decide +kernel
theorem d_Mod_times_81 : decode b_Mod_times 81 = .ok (.istore 7, 2) := by decide +kernel
theorem d_Mod_times_83 : decode b_Mod_times 83 = .ok (.aload_n 0, 1) := by decide +kernel
theorem d_Mod_times_84 : decode b_Mod_times 84 = .ok (.getfield 7, 3) := by decide +kernel
theorem d_Mod_times_87 : decode b_Mod_times 87 = .ok (.iload_n 2, 1) := by decide +kernel
theorem d_Mod_times_88 : decode b_Mod_times 88 = .ok (.iaload, 1) := by decide +kernel
theorem d_Mod_times_89 : decode b_Mod_times 89 = .ok (.aload_n 0, 1) := by decide +kernel
theorem d_Mod_times_90 : decode b_Mod_times 90 = .ok (.getfield 13, 3) := by decide +kernel
theorem d_Mod_times_93 : decode b_Mod_times 93 = .ok (.iload_n 2, 1) := by decide +kernel
theorem d_Mod_times_94 : decode b_Mod_times 94 = .ok (.iaload, 1) := by decide +kernel
theorem d_Mod_times_95 : decode b_Mod_times 95 = .ok (.iadd, 1) := by decide +kernel
theorem d_Mod_times_96 : decode b_Mod_times 96 = .ok (.iconst 1, 1) := by decide +kernel
theorem d_Mod_times_97 : decode b_Mod_times 97 = .ok (.isub, 1) := by decide +kernel
theorem d_Mod_times_98 : decode b_Mod_times 98 = .ok (.istore 8, 2) := by decide +kernel
theorem d_Mod_times_100 : decode b_Mod_times 100 = .ok (.iload 7, 2) := by decide +kernel
theorem d_Mod_times_102 : decode b_Mod_times 102 = .ok (.iload 8, 2) := by decide +kernel
theorem d_Mod_times_104 : decode b_Mod_times 104 = .ok (.if_icmp .ge 8, 3) := by decide +kernel
theorem d_Mod_times_107 : decode b_Mod_times 107 = .ok (.iload 7, 2) := by decide +kernel
theorem d_Mod_times_109 : decode b_Mod_times 109 = .ok (.goto 5, 3) := by decide +kernel
theorem d_Mod_times_112 : decode b_Mod_times 112 = .ok (.iload 8, 2) := by decide +kernel
theorem d_Mod_times_114 : decode b_Mod_times 114 = .ok (.istore 6, 2) := by decide +kernel
theorem d_Mod_times_116 : decode b_Mod_times 116 = .ok (.aload_n 0, 1) := by decide +kernel
theorem d_Mod_times_117 : decode b_Mod_times 117 = .ok (.iload 4, 2) := by decide +kernel
theorem d_Mod_times_119 : decode b_Mod_times 119 = .ok (.aload_n 0, 1) := by decide +kernel
theorem d_Mod_times_120 : decode b_Mod_times 120 = .ok (.getfield 39, 3) := by decide +kernel
theorem d_Mod_times_123 : decode b_Mod_times 123 = .ok (.bipush 8, 2) := by decide +kernel
theorem d_Mod_times_125 : decode b_Mod_times 125 = .ok (.if_icmp .ge 7, 3) := by decide +kernel
theorem d_Mod_times_128 : decode b_Mod_times 128 = .ok (.iconst 1, 1) := by decide +kernel
theorem d_Mod_times_129 : decode b_Mod_times 129 = .ok (.goto 4, 3) := by decide +kernel
theorem d_Mod_times_132 : decode b_Mod_times 132 = .ok (.iconst 0, 1) := by decide +kernel
theorem d_Mod_times_133 : decode b_Mod_times 133 = .ok (.iload_n 3, 1) := by decide +kernel
theorem d_Mod_times_134 : decode b_Mod_times 134 = .ok (.iconst 1, 1) := by decide +kernel
theorem d_Mod_times_135 : decode b_Mod_times 135 = .ok (.ldc 77, 2) := by decide +kernel
theorem d_Mod_times_137 : decode b_Mod_times 137 = .ok (.invokestatic 46, 3) := by decide +kernel
theorem d_Mod_times_140 : decode b_Mod_times 140 = .ok (.ifCond .eq 14, 3) := by decide +kernel
theorem d_Mod_times_143 : decode b_Mod_times 143 = .ok (.iload 6, 2) := by decide +kernel
theorem d_Mod_times_145 : decode b_Mod_times 145 = .ok (.iload 5, 2) := by decide +kernel
theorem d_Mod_times_147 : decode b_Mod_times 147 = .ok (.if_icmp .lt 7, 3) := by decide +kernel
theorem d_Mod_times_150 : decode b_Mod_times 150 = .ok (.iconst 1, 1) := by decide +kernel
theorem d_Mod_times_151 : decode b_Mod_times 151 = .ok (.goto 4, 3) := by decide +kernel
theorem d_Mod_times_154 : decode b_Mod_times 154 = .ok (.iconst 0, 1) := by decide +kernel
theorem d_Mod_times_155 : decode b_Mod_times 155 = .ok (.iconst 1, 1) := by decide +kernel
theorem d_Mod_times_156 : decode b_Mod_times 156 = .ok (.invokevirtual 50, 3) := by decide +kernel
theorem d_Mod_times_159 : decode b_Mod_times 159 = .ok (.ifCond .ne 5, 3) := by decide +kernel
theorem d_Mod_times_162 : decode b_Mod_times 162 = .ok (.iconst 0, 1) := by decide +kernel
theorem d_Mod_times_163 : decode b_Mod_times 163 = .ok (.ireturn, 1) := by decide +kernel
theorem d_Mod_times_164 : decode b_Mod_times 164 = .ok (.aload_n 0, 1) := by decide +kernel
theorem d_Mod_times_165 : decode b_Mod_times 165 = .ok (.iload 5, 2) := by decide +kernel
theorem d_Mod_times_167 : decode b_Mod_times 167 = .ok (.iload 6, 2) := by decide +kernel
theorem d_Mod_times_169 : decode b_Mod_times 169 = .ok (.iload 5, 2) := by decide +kernel
theorem d_Mod_times_171 : decode b_Mod_times 171 = .ok (.isub, 1) := by decide +kernel
theorem d_Mod_times_172 : decode b_Mod_times 172 = .ok (.iconst 1, 1) := by decide +kernel
theorem d_Mod_times_173 : decode b_Mod_times 173 = .ok (.iadd, 1) := by decide +kernel
theorem d_Mod_times_174 : decode b_Mod_times 174 = .ok (.invokevirtual 54, 3) := by decide +kernel
theorem d_Mod_times_177 : decode b_Mod_times 177 = .ok (.iconst 1, 1) := by decide +kernel
theorem d_Mod_times_178 : decode b_Mod_times 178 = .ok (.istore 7, 2) := by decide +kernel
theorem d_Mod_times_180 : decode b_Mod_times 180 = .ok (.lconst 0, 1) := by decide +kernel
theorem d_Mod_times_181 : decode b_Mod_times 181 = .ok (.lstore 8, 2) := by decide +kernel
theorem d_Mod_times_183 : decode b_Mod_times 183 = .ok (.iload 5, 2) := by decide +kernel
theorem d_Mod_times_185 : decode b_Mod_times 185 = .ok (.istore 10, 2) := by decide +kernel
theorem d_Mod_times_187 : decode b_Mod_times 187 = .ok (.iload 10, 2) := by decide +kernel
theorem d_Mod_times_189 : decode b_Mod_times 189 = .ok (.iload 6, 2) := by decide +kernel
theorem d_Mod_times_191 : decode b_Mod_times 191 = .ok (.if_icmp .gt 64, 3) := by decide +kernel
theorem d_Mod_times_194 : decode b_Mod_times 194 = .ok (.aload_n 0, 1) := by decide +kernel
theorem d_Mod_times_195 : decode b_Mod_times 195 = .ok (.aload_n 0, 1) := by decide +kernel
theorem d_Mod_times_196 : decode b_Mod_times 196 = .ok (.iload_n 1, 1) := by decide +kernel
theorem d_Mod_times_197 : decode b_Mod_times 197 = .ok (.iload 10, 2) := by decide +kernel
theorem d_Mod_times_199 : decode b_Mod_times 199 = .ok (.invokevirtual 64, 3) := by decide +kernel
theorem d_Mod_times_202 : decode b_Mod_times 202 = .ok (.aload_n 0, 1) := by decide +kernel
theorem d_Mod_times_203 : decode b_Mod_times 203 = .ok (.iload_n 2, 1) := by decide +kernel
theorem d_Mod_times_204 : decode b_Mod_times 204 = .ok (.iload 10, 2) := by decide +kernel
theorem d_Mod_times_206 : decode b_Mod_times 206 = .ok (.invokevirtual 64, 3) := by decide +kernel
theorem d_Mod_times_209 : decode b_Mod_times 209 = .ok (.invokevirtual 78, 3) := by decide +kernel
theorem d_Mod_times_212 : decode b_Mod_times 212 = .ok (.lload 8, 2) := by decide +kernel
theorem d_Mod_times_214 : decode b_Mod_times 214 = .ok (.aload_n 0, 1) := by decide +kernel
theorem d_Mod_times_215 : decode b_Mod_times 215 = .ok (.iload_n 3, 1) := by decide +kernel
theorem d_Mod_times_216 : decode b_Mod_times 216 = .ok (.invokevirtual 81, 3) := by decide +kernel
theorem d_Mod_times_219 : decode b_Mod_times 219 = .ok (.ladd, 1) := by decide +kernel
theorem d_Mod_times_220 : decode b_Mod_times 220 = .ok (.lstore 8, 2) := by decide +kernel
theorem d_Mod_times_222 : decode b_Mod_times 222 = .ok (.aload_n 0, 1) := by decide +kernel
theorem d_Mod_times_223 : decode b_Mod_times 223 = .ok (.aload_n 0, 1) := by decide +kernel
theorem d_Mod_times_224 : decode b_Mod_times 224 = .ok (.getfield 39, 3) := by decide +kernel
theorem d_Mod_times_227 : decode b_Mod_times 227 = .ok (.iconst 1, 1) := by decide +kernel
theorem d_Mod_times_228 : decode b_Mod_times 228 = .ok (.isub, 1) := by decide +kernel
theorem d_Mod_times_229 : decode b_Mod_times 229 = .ok (.iload 10, 2) := by decide +kernel
theorem d_Mod_times_231 : decode b_Mod_times 231 = .ok (.invokevirtual 74, 3) := by decide +kernel
theorem d_Mod_times_234 : decode b_Mod_times 234 = .ok (.ifCond .eq 12, 3) := by decide +kernel
theorem d_Mod_times_237 : decode b_Mod_times 237 = .ok (.iload 7, 2) := by decide +kernel
theorem d_Mod_times_239 : decode b_Mod_times 239 = .ok (.ifCond .eq 7, 3) := by decide +kernel
theorem d_Mod_times_242 : decode b_Mod_times 242 = .ok (.iconst 1, 1) := by decide +kernel
theorem d_Mod_times_243 : decode b_Mod_times 243 = .ok (.goto 4, 3) := by decide +kernel
theorem d_Mod_times_246 : decode b_Mod_times 246 = .ok (.iconst 0, 1) := by decide +kernel
theorem d_Mod_times_247 : decode b_Mod_times 247 = .ok (.istore 7, 2) := by decide +kernel
theorem d_Mod_times_249 : decode b_Mod_times 249 = .ok (.iinc 10 1, 3) := by decide +kernel
theorem d_Mod_times_252 : decode b_Mod_times 252 = .ok (.goto (-65), 3) := by decide +kernel
theorem d_Mod_times_255 : decode b_Mod_times 255 = .ok (.aload_n 0, 1) := by decide +kernel
theorem d_Mod_times_256 : decode b_Mod_times 256 = .ok (.iload 7, 2) := by decide +kernel
theorem d_Mod_times_258 : decode b_Mod_times 258 = .ok (.ifCond .eq 10, 3) := by decide +kernel
theorem d_Mod_times_261 : decode b_Mod_times 261 = .ok (.aload_n 0, 1) := by decide +kernel
theorem d_Mod_times_262 : decode b_Mod_times 262 = .ok (.getfield 39, 3) := by decide +kernel
theorem d_Mod_times_265 : decode b_Mod_times 265 = .ok (.goto 9, 3) := by decide +kernel
theorem d_Mod_times_268 : decode b_Mod_times 268 = .ok (.aload_n 0, 1) := by decide +kernel
theorem d_Mod_times_269 : decode b_Mod_times 269 = .ok (.getfield 39, 3) := by decide +kernel
theorem d_Mod_times_272 : decode b_Mod_times 272 = .ok (.iconst 1, 1) := by decide +kernel
theorem d_Mod_times_273 : decode b_Mod_times 273 = .ok (.isub, 1) := by decide +kernel
theorem d_Mod_times_274 : decode b_Mod_times 274 = .ok (.putfield 39, 3) := by decide +kernel
theorem d_Mod_times_277 : decode b_Mod_times 277 = .ok (.aload_n 0, 1) := by decide +kernel
theorem d_Mod_times_278 : decode b_Mod_times 278 = .ok (.iload 7, 2) := by decide +kernel
theorem d_Mod_times_280 : decode b_Mod_times 280 = .ok (.ifCond .eq 8, 3) := by decide +kernel
theorem d_Mod_times_283 : decode b_Mod_times 283 = .ok (.lload 8, 2) := by decide +kernel
theorem d_Mod_times_285 : decode b_Mod_times 285 = .ok (.goto 7, 3) := by decide +kernel
theorem d_Mod_times_288 : decode b_Mod_times 288 = .ok (.aload_n 0, 1) := by decide +kernel
theorem d_Mod_times_289 : decode b_Mod_times 289 = .ok (.getfield 85, 3) := by decide +kernel
theorem d_Mod_times_292 : decode b_Mod_times 292 = .ok (.putfield 85, 3) := by decide +kernel
theorem d_Mod_times_295 : decode b_Mod_times 295 = .ok (.aload_n 0, 1) := by decide +kernel
theorem d_Mod_times_296 : decode b_Mod_times 296 = .ok (.iconst 1, 1) := by decide +kernel
theorem d_Mod_times_297 : decode b_Mod_times 297 = .ok (.iconst 1, 1) := by decide +kernel
theorem d_Mod_times_298 : decode b_Mod_times 298 = .ok (.iconst 1, 1) := by decide +kernel
theorem d_Mod_times_299 : decode b_Mod_times 299 = .ok (.iload 7, 2) := by decide +kernel
theorem d_Mod_times_301 : decode b_Mod_times 301 = .ok (.invokevirtual 50, 3) := by decide +kernel
theorem d_Mod_times_304 : decode b_Mod_times 304 = .ok (.ifCond .eq 12, 3) := by decide +kernel
theorem d_Mod_times_307 : decode b_Mod_times 307 = .ok (.aload_n 0, 1) := by decide +kernel
theorem d_Mod_times_308 : decode b_Mod_times 308 = .ok (.getfield 39, 3) := by decide +kernel
theorem d_Mod_times_311 : decode b_Mod_times 311 = .ok (.iconst 1, 1) := by decide +kernel
theorem d_Mod_times_312 : decode b_Mod_times 312 = .ok (.isub, 1) := by decide +kernel
theorem d_Mod_times_313 : decode b_Mod_times 313 = .ok (.goto 4, 3) := by decide +kernel
end
section
theorem d_Mod_times_316 : decode b_Mod_times 316 = .ok (.iconst 0, 1) := by decide +kernel
theorem d_Mod_times_317 : decode b_Mod_times 317 = .ok (.ireturn, 1) := by decide +kernel
theorem d_Mod_rest_0 : decode b_Mod_rest 0 = .ok (.aload_n 0, 1) := by decide +kernel
theorem d_Mod_rest_1 : decode b_Mod_rest 1 = .ok (.iconst 0, 1) := by decide +kernel
theorem d_Mod_rest_2 : decode b_Mod_rest 2 = .ok (.putfield 35, 3) := by decide +kernel
theorem d_Mod_rest_5 : decode b_Mod_rest 5 = .ok (.aload_n 0, 1) := by decide +kernel
theorem d_Mod_rest_6 : decode b_Mod_rest 6 = .ok (.getfield 85, 3) := by decide +kernel
theorem d_Mod_rest_9 : decode b_Mod_rest 9 = .ok (.lreturn, 1) := by decide +kernel
theorem d_Mod_compared_0 : decode b_Mod_compared 0 = .ok (.bipush 35, 2) := by decide +kernel
theorem d_Mod_compared_2 : decode b_Mod_compared 2 = .ok (.istore_n 3, 1) := by decide +kernel
theorem d_Mod_compared_3 : decode b_Mod_compared 3 = .ok (.iload_n 3, 1) := by decide +kernel
theorem d_Mod_compared_4 : decode b_Mod_compared 4 = .ok (.ifCond .lt 53, 3) := by decide +kernel
theorem d_Mod_compared_7 : decode b_Mod_compared 7 = .ok (.aload_n 0, 1) := by decide +kernel
theorem d_Mod_compared_8 : decode b_Mod_compared 8 = .ok (.getfield 16, 3) := by decide +kernel
theorem d_Mod_compared_11 : decode b_Mod_compared 11 = .ok (.iload_n 1, 1) := by decide +kernel
theorem d_Mod_compared_12 : decode b_Mod_compared 12 = .ok (.iload_n 3, 1) := by decide +kernel
theorem d_Mod_compared_13 : decode b_Mod_compared 13 = .ok (.iadd, 1) := by decide +kernel
theorem d_Mod_compared_14 : decode b_Mod_compared 14 = .ok (.iaload, 1) := by decide +kernel
theorem d_Mod_compared_15 : decode b_Mod_compared 15 = .ok (.aload_n 0, 1) := by decide +kernel
theorem d_Mod_compared_16 : decode b_Mod_compared 16 = .ok (.getfield 16, 3) := by decide +kernel
theorem d_Mod_compared_19 : decode b_Mod_compared 19 = .ok (.iload_n 2, 1) := by decide +kernel
theorem d_Mod_compared_20 : decode b_Mod_compared 20 = .ok (.iload_n 3, 1) := by decide +kernel
theorem d_Mod_compared_21 : decode b_Mod_compared 21 = .ok (.iadd, 1) := by decide +kernel
theorem d_Mod_compared_22 : decode b_Mod_compared 22 = .ok (.iaload, 1) := by decide +kernel
theorem d_Mod_compared_23 : decode b_Mod_compared 23 = .ok (.if_icmp .eq 28, 3) := by decide +kernel
theorem d_Mod_compared_26 : decode b_Mod_compared 26 = .ok (.aload_n 0, 1) := by decide +kernel
theorem d_Mod_compared_27 : decode b_Mod_compared 27 = .ok (.getfield 16, 3) := by decide +kernel
theorem d_Mod_compared_30 : decode b_Mod_compared 30 = .ok (.iload_n 1, 1) := by decide +kernel
theorem d_Mod_compared_31 : decode b_Mod_compared 31 = .ok (.iload_n 3, 1) := by decide +kernel
theorem d_Mod_compared_32 : decode b_Mod_compared 32 = .ok (.iadd, 1) := by decide +kernel
theorem d_Mod_compared_33 : decode b_Mod_compared 33 = .ok (.iaload, 1) := by decide +kernel
theorem d_Mod_compared_34 : decode b_Mod_compared 34 = .ok (.aload_n 0, 1) := by decide +kernel
theorem d_Mod_compared_35 : decode b_Mod_compared 35 = .ok (.getfield 16, 3) := by decide +kernel
theorem d_Mod_compared_38 : decode b_Mod_compared 38 = .ok (.iload_n 2, 1) := by decide +kernel
theorem d_Mod_compared_39 : decode b_Mod_compared 39 = .ok (.iload_n 3, 1) := by decide +kernel
theorem d_Mod_compared_40 : decode b_Mod_compared 40 = .ok (.iadd, 1) := by decide +kernel
theorem d_Mod_compared_41 : decode b_Mod_compared 41 = .ok (.iaload, 1) := by decide +kernel
theorem d_Mod_compared_42 : decode b_Mod_compared 42 = .ok (.if_icmp .ge 7, 3) := by decide +kernel
theorem d_Mod_compared_45 : decode b_Mod_compared 45 = .ok (.iconst (-1), 1) := by decide +kernel
theorem d_Mod_compared_46 : decode b_Mod_compared 46 = .ok (.goto 4, 3) := by decide +kernel
theorem d_Mod_compared_49 : decode b_Mod_compared 49 = .ok (.iconst 1, 1) := by decide +kernel
theorem d_Mod_compared_50 : decode b_Mod_compared 50 = .ok (.ireturn, 1) := by decide +kernel
theorem d_Mod_compared_51 : decode b_Mod_compared 51 = .ok (.iinc 3 (-1), 3) := by decide +kernel
theorem d_Mod_compared_54 : decode b_Mod_compared 54 = .ok (.goto (-51), 3) := by decide +kernel
theorem d_Mod_compared_57 : decode b_Mod_compared 57 = .ok (.iconst 0, 1) := by decide +kernel
theorem d_Mod_compared_58 : decode b_Mod_compared 58 = .ok (.ireturn, 1) := by decide +kernel
theorem d_Mod_sumUp_0 : decode b_Mod_sumUp 0 = .ok (.aload_n 0, 1) := by decide +kernel
theorem d_Mod_sumUp_1 : decode b_Mod_sumUp 1 = .ok (.invokevirtual 68, 3) := by decide +kernel
theorem d_Mod_sumUp_4 : decode b_Mod_sumUp 4 = .ok (.iconst 0, 1) := by decide +kernel
theorem d_Mod_sumUp_5 : decode b_Mod_sumUp 5 = .ok (.istore_n 3, 1) := by decide +kernel
theorem d_Mod_sumUp_6 : decode b_Mod_sumUp 6 = .ok (.iload_n 3, 1) := by decide +kernel
theorem d_Mod_sumUp_7 : decode b_Mod_sumUp 7 = .ok (.aload_n 0, 1) := by decide +kernel
theorem d_Mod_sumUp_8 : decode b_Mod_sumUp 8 = .ok (.getfield 13, 3) := by decide +kernel
theorem d_Mod_sumUp_11 : decode b_Mod_sumUp 11 = .ok (.iload_n 1, 1) := by decide +kernel
theorem d_Mod_sumUp_12 : decode b_Mod_sumUp 12 = .ok (.iaload, 1) := by decide +kernel
theorem d_Mod_sumUp_13 : decode b_Mod_sumUp 13 = .ok (.if_icmp .ge 35, 3) := by decide +kernel
theorem d_Mod_sumUp_16 : decode b_Mod_sumUp 16 = .ok (.iload_n 2, 1) := by decide +kernel
theorem d_Mod_sumUp_17 : decode b_Mod_sumUp 17 = .ok (.ifCond .ne 12, 3) := by decide +kernel
theorem d_Mod_sumUp_20 : decode b_Mod_sumUp 20 = .ok (.aload_n 0, 1) := by decide +kernel
theorem d_Mod_sumUp_21 : decode b_Mod_sumUp 21 = .ok (.getfield 31, 3) := by decide +kernel
theorem d_Mod_sumUp_24 : decode b_Mod_sumUp 24 = .ok (.iload_n 3, 1) := by decide +kernel
theorem d_Mod_sumUp_25 : decode b_Mod_sumUp 25 = .ok (.baload, 1) := by decide +kernel
theorem d_Mod_sumUp_26 : decode b_Mod_sumUp 26 = .ok (.ifCond .eq 16, 3) := by decide +kernel
theorem d_Mod_sumUp_29 : decode b_Mod_sumUp 29 = .ok (.aload_n 0, 1) := by decide +kernel
theorem d_Mod_sumUp_30 : decode b_Mod_sumUp 30 = .ok (.iload_n 1, 1) := by decide +kernel
theorem d_Mod_sumUp_31 : decode b_Mod_sumUp 31 = .ok (.aload_n 0, 1) := by decide +kernel
theorem d_Mod_sumUp_32 : decode b_Mod_sumUp 32 = .ok (.getfield 7, 3) := by decide +kernel
theorem d_Mod_sumUp_35 : decode b_Mod_sumUp 35 = .ok (.iload_n 1, 1) := by decide +kernel
theorem d_Mod_sumUp_36 : decode b_Mod_sumUp 36 = .ok (.iaload, 1) := by decide +kernel
theorem d_Mod_sumUp_37 : decode b_Mod_sumUp 37 = .ok (.iload_n 3, 1) := by decide +kernel
theorem d_Mod_sumUp_38 : decode b_Mod_sumUp 38 = .ok (.iadd, 1) := by decide +kernel
theorem d_Mod_sumUp_39 : decode b_Mod_sumUp 39 = .ok (.invokevirtual 71, 3) := by decide +kernel
theorem d_Mod_sumUp_42 : decode b_Mod_sumUp 42 = .ok (.iinc 3 1, 3) := by decide +kernel
theorem d_Mod_sumUp_45 : decode b_Mod_sumUp 45 = .ok (.goto (-39), 3) := by decide +kernel
theorem d_Mod_sumUp_48 : decode b_Mod_sumUp 48 = .ok (.return_, 1) := by decide +kernel
theorem d_Mod_grow_0 : decode b_Mod_grow 0 = .ok (.lconst 0, 1) := by decide +kernel
theorem d_Mod_grow_1 : decode b_Mod_grow 1 = .ok (.lstore_n 2, 1) := by decide +kernel
theorem d_Mod_grow_2 : decode b_Mod_grow 2 = .ok (.iconst 0, 1) := by decide +kernel
theorem d_Mod_grow_3 : decode b_Mod_grow 3 = .ok (.istore 4, 2) := by decide +kernel
theorem d_Mod_grow_5 : decode b_Mod_grow 5 = .ok (.iload 4, 2) := by decide +kernel
theorem d_Mod_grow_7 : decode b_Mod_grow 7 = .ok (.bipush 80, 2) := by decide +kernel
theorem d_Mod_grow_9 : decode b_Mod_grow 9 = .ok (.if_icmp .ge 45, 3) := by decide +kernel
theorem d_Mod_grow_12 : decode b_Mod_grow 12 = .ok (.aload_n 0, 1) := by decide +kernel
theorem d_Mod_grow_13 : decode b_Mod_grow 13 = .ok (.getfield 25, 3) := by decide +kernel
theorem d_Mod_grow_16 : decode b_Mod_grow 16 = .ok (.iload 4, 2) := by decide +kernel
theorem d_Mod_grow_18 : decode b_Mod_grow 18 = .ok (.iaload, 1) := by decide +kernel
theorem d_Mod_grow_19 : decode b_Mod_grow 19 = .ok (.i2l, 1) := by decide +kernel
theorem d_Mod_grow_20 : decode b_Mod_grow 20 = .ok (.iload_n 1, 1) := by decide +kernel
theorem d_Mod_grow_21 : decode b_Mod_grow 21 = .ok (.i2l, 1) := by decide +kernel
theorem d_Mod_grow_22 : decode b_Mod_grow 22 = .ok (.lmul, 1) := by decide +kernel
theorem d_Mod_grow_23 : decode b_Mod_grow 23 = .ok (.lload_n 2, 1) := by decide +kernel
theorem d_Mod_grow_24 : decode b_Mod_grow 24 = .ok (.ladd, 1) := by decide +kernel
theorem d_Mod_grow_25 : decode b_Mod_grow 25 = .ok (.lstore 5, 2) := by decide +kernel
theorem d_Mod_grow_27 : decode b_Mod_grow 27 = .ok (.aload_n 0, 1) := by decide +kernel
theorem d_Mod_grow_28 : decode b_Mod_grow 28 = .ok (.getfield 25, 3) := by decide +kernel
theorem d_Mod_grow_31 : decode b_Mod_grow 31 = .ok (.iload 4, 2) := by decide +kernel
theorem d_Mod_grow_33 : decode b_Mod_grow 33 = .ok (.lload 5, 2) := by decide +kernel
theorem d_Mod_grow_35 : decode b_Mod_grow 35 = .ok (.ldc2_w 62, 3) := by decide +kernel
theorem d_Mod_grow_38 : decode b_Mod_grow 38 = .ok (.lrem, 1) := by decide +kernel
theorem d_Mod_grow_39 : decode b_Mod_grow 39 = .ok (.l2i, 1) := by decide +kernel
theorem d_Mod_grow_40 : decode b_Mod_grow 40 = .ok (.iastore, 1) := by decide +kernel
theorem d_Mod_grow_41 : decode b_Mod_grow 41 = .ok (.lload 5, 2) := by decide +kernel
theorem d_Mod_grow_43 : decode b_Mod_grow 43 = .ok (.ldc2_w 62, 3) := by decide +kernel
theorem d_Mod_grow_46 : decode b_Mod_grow 46 = .ok (.ldiv, 1) := by decide +kernel
theorem d_Mod_grow_47 : decode b_Mod_grow 47 = .ok (.lstore_n 2, 1) := by decide +kernel
theorem d_Mod_grow_48 : decode b_Mod_grow 48 = .ok (.iinc 4 1, 3) := by decide +kernel
theorem d_Mod_grow_51 : decode b_Mod_grow 51 = .ok (.goto (-46), 3) := by decide +kernel
theorem d_Mod_grow_54 : decode b_Mod_grow 54 = .ok (.return_, 1) := by decide +kernel
theorem d_Mod_enough_0 : decode b_Mod_enough 0 = .ok (.aload_n 0, 1) := by decide +kernel
theorem d_Mod_enough_1 : decode b_Mod_enough 1 = .ok (.iload_n 1, 1) := by decide +kernel
theorem d_Mod_enough_2 : decode b_Mod_enough 2 = .ok (.iconst 1, 1) := by decide +kernel
theorem d_Mod_enough_3 : decode b_Mod_enough 3 = .ok (.invokevirtual 89, 3) := by decide +kernel
theorem d_Mod_enough_6 : decode b_Mod_enough 6 = .ok (.aload_n 0, 1) := by decide +kernel
theorem d_Mod_enough_7 : decode b_Mod_enough 7 = .ok (.iload_n 2, 1) := by decide +kernel
theorem d_Mod_enough_8 : decode b_Mod_enough 8 = .ok (.invokevirtual 93, 3) := by decide +kernel
theorem d_Mod_enough_11 : decode b_Mod_enough 11 = .ok (.iconst 0, 1) := by decide +kernel
theorem d_Mod_enough_12 : decode b_Mod_enough 12 = .ok (.istore 4, 2) := by decide +kernel
theorem d_Mod_enough_14 : decode b_Mod_enough 14 = .ok (.iload 4, 2) := by decide +kernel
theorem d_Mod_enough_16 : decode b_Mod_enough 16 = .ok (.bipush 80, 2) := by decide +kernel
theorem d_Mod_enough_18 : decode b_Mod_enough 18 = .ok (.if_icmp .ge 23, 3) := by decide +kernel
theorem d_Mod_enough_21 : decode b_Mod_enough 21 = .ok (.aload_n 0, 1) := by decide +kernel
theorem d_Mod_enough_22 : decode b_Mod_enough 22 = .ok (.getfield 28, 3) := by decide +kernel
theorem d_Mod_enough_25 : decode b_Mod_enough 25 = .ok (.iload 4, 2) := by decide +kernel
theorem d_Mod_enough_27 : decode b_Mod_enough 27 = .ok (.aload_n 0, 1) := by decide +kernel
theorem d_Mod_enough_28 : decode b_Mod_enough 28 = .ok (.getfield 25, 3) := by decide +kernel
theorem d_Mod_enough_31 : decode b_Mod_enough 31 = .ok (.iload 4, 2) := by decide +kernel
theorem d_Mod_enough_33 : decode b_Mod_enough 33 = .ok (.iaload, 1) := by decide +kernel
theorem d_Mod_enough_34 : decode b_Mod_enough 34 = .ok (.iastore, 1) := by decide +kernel
theorem d_Mod_enough_35 : decode b_Mod_enough 35 = .ok (.iinc 4 1, 3) := by decide +kernel
theorem d_Mod_enough_38 : decode b_Mod_enough 38 = .ok (.goto (-24), 3) := by decide +kernel
theorem d_Mod_enough_41 : decode b_Mod_enough 41 = .ok (.aload_n 0, 1) := by decide +kernel
theorem d_Mod_enough_42 : decode b_Mod_enough 42 = .ok (.iload_n 1, 1) := by decide +kernel
theorem d_Mod_enough_43 : decode b_Mod_enough 43 = .ok (.iconst 0, 1) := by decide +kernel
theorem d_Mod_enough_44 : decode b_Mod_enough 44 = .ok (.invokevirtual 89, 3) := by decide +kernel
theorem d_Mod_enough_47 : decode b_Mod_enough 47 = .ok (.aload_n 0, 1) := by decide +kernel
theorem d_Mod_enough_48 : decode b_Mod_enough 48 = .ok (.iload_n 3, 1) := by decide +kernel
theorem d_Mod_enough_49 : decode b_Mod_enough 49 = .ok (.invokevirtual 93, 3) := by decide +kernel
theorem d_Mod_enough_52 : decode b_Mod_enough 52 = .ok (.bipush 79, 2) := by decide +kernel
theorem d_Mod_enough_54 : decode b_Mod_enough 54 = .ok (.istore 4, 2) := by decide +kernel
theorem d_Mod_enough_56 : decode b_Mod_enough 56 = .ok (.iload 4, 2) := by decide +kernel
theorem d_Mod_enough_58 : decode b_Mod_enough 58 = .ok (.ifCond .lt 49, 3) := by decide +kernel
theorem d_Mod_enough_61 : decode b_Mod_enough 61 = .ok (.aload_n 0, 1) := by decide +kernel
theorem d_Mod_enough_62 : decode b_Mod_enough 62 = .ok (.getfield 25, 3) := by decide +kernel
theorem d_Mod_enough_65 : decode b_Mod_enough 65 = .ok (.iload 4, 2) := by decide +kernel
theorem d_Mod_enough_67 : decode b_Mod_enough 67 = .ok (.iaload, 1) := by decide +kernel
theorem d_Mod_enough_68 : decode b_Mod_enough 68 = .ok (.aload_n 0, 1) := by decide +kernel
theorem d_Mod_enough_69 : decode b_Mod_enough 69 = .ok (.getfield 28, 3) := by decide +kernel
theorem d_Mod_enough_72 : decode b_Mod_enough 72 = .ok (.iload 4, 2) := by decide +kernel
theorem d_Mod_enough_74 : decode b_Mod_enough 74 = .ok (.iaload, 1) := by decide +kernel
theorem d_Mod_enough_75 : decode b_Mod_enough 75 = .ok (.if_icmp .eq 26, 3) := by decide +kernel
theorem d_Mod_enough_78 : decode b_Mod_enough 78 = .ok (.aload_n 0, 1) := by decide +kernel
theorem d_Mod_enough_79 : decode b_Mod_enough 79 = .ok (.getfield 25, 3) := by decide +kernel
theorem d_Mod_enough_82 : decode b_Mod_enough 82 = .ok (.iload 4, 2) := by decide +kernel
theorem d_Mod_enough_84 : decode b_Mod_enough 84 = .ok (.iaload, 1) := by decide +kernel
theorem d_Mod_enough_85 : decode b_Mod_enough 85 = .ok (.aload_n 0, 1) := by decide +kernel
theorem d_Mod_enough_86 : decode b_Mod_enough 86 = .ok (.getfield 28, 3) := by decide +kernel
theorem d_Mod_enough_89 : decode b_Mod_enough 89 = .ok (.iload 4, 2) := by decide +kernel
theorem d_Mod_enough_91 : decode b_Mod_enough 91 = .ok (.iaload, 1) := by decide +kernel
theorem d_Mod_enough_92 : decode b_Mod_enough 92 = .ok (.if_icmp .le 7, 3) := by decide +kernel
theorem d_Mod_enough_95 : decode b_Mod_enough 95 = .ok (.iconst 1, 1) := by decide +kernel
theorem d_Mod_enough_96 : decode b_Mod_enough 96 = .ok (.goto 4, 3) := by decide +kernel
theorem d_Mod_enough_99 : decode b_Mod_enough 99 = .ok (.iconst 0, 1) := by decide +kernel
theorem d_Mod_enough_100 : decode b_Mod_enough 100 = .ok (.ireturn, 1) := by decide +kernel
theorem d_Mod_enough_101 : decode b_Mod_enough 101 = .ok (.iinc 4 (-1), 3) := by decide +kernel
theorem d_Mod_enough_104 : decode b_Mod_enough 104 = .ok (.goto (-48), 3) := by decide +kernel
theorem d_Mod_enough_107 : decode b_Mod_enough 107 = .ok (.iconst 1, 1) := by decide +kernel
theorem d_Mod_enough_108 : decode b_Mod_enough 108 = .ok (.ireturn, 1) := by decide +kernel
theorem d_Mod_isNothing_0 : decode b_Mod_isNothing 0 = .ok (.iconst 1, 1) := by decide +kernel
theorem d_Mod_isNothing_1 : decode b_Mod_isNothing 1 = .ok (.istore_n 2, 1) := by decide +kernel
theorem d_Mod_isNothing_2 : decode b_Mod_isNothing 2 = .ok (.iconst 0, 1) := by decide +kernel
theorem d_Mod_isNothing_3 : decode b_Mod_isNothing 3 = .ok (.istore_n 3, 1) := by decide +kernel
theorem d_Mod_isNothing_4 : decode b_Mod_isNothing 4 = .ok (.iload_n 3, 1) := by decide +kernel
theorem d_Mod_isNothing_5 : decode b_Mod_isNothing 5 = .ok (.bipush 36, 2) := by decide +kernel
theorem d_Mod_isNothing_7 : decode b_Mod_isNothing 7 = .ok (.aload_n 0, 1) := by decide +kernel
theorem d_Mod_isNothing_8 : decode b_Mod_isNothing 8 = .ok (.getfield 13, 3) := by decide +kernel
theorem d_Mod_isNothing_11 : decode b_Mod_isNothing 11 = .ok (.iload_n 1, 1) := by decide +kernel
theorem d_Mod_isNothing_12 : decode b_Mod_isNothing 12 = .ok (.iaload, 1) := by decide +kernel
theorem d_Mod_isNothing_13 : decode b_Mod_isNothing 13 = .ok (.imul, 1) := by decide +kernel
theorem d_Mod_isNothing_14 : decode b_Mod_isNothing 14 = .ok (.if_icmp .ge 34, 3) := by decide +kernel
theorem d_Mod_isNothing_17 : decode b_Mod_isNothing 17 = .ok (.iload_n 2, 1) := by decide +kernel
theorem d_Mod_isNothing_18 : decode b_Mod_isNothing 18 = .ok (.ifCond .eq 22, 3) := by decide +kernel
theorem d_Mod_isNothing_21 : decode b_Mod_isNothing 21 = .ok (.aload_n 0, 1) := by decide +kernel
theorem d_Mod_isNothing_22 : decode b_Mod_isNothing 22 = .ok (.getfield 16, 3) := by decide +kernel
theorem d_Mod_isNothing_25 : decode b_Mod_isNothing 25 = .ok (.sipush 1728, 3) := by decide +kernel
theorem d_Mod_isNothing_28 : decode b_Mod_isNothing 28 = .ok (.iload_n 1, 1) := by decide +kernel
theorem d_Mod_isNothing_29 : decode b_Mod_isNothing 29 = .ok (.imul, 1) := by decide +kernel
theorem d_Mod_isNothing_30 : decode b_Mod_isNothing 30 = .ok (.iload_n 3, 1) := by decide +kernel
theorem d_Mod_isNothing_31 : decode b_Mod_isNothing 31 = .ok (.iadd, 1) := by decide +kernel
theorem d_Mod_isNothing_32 : decode b_Mod_isNothing 32 = .ok (.iaload, 1) := by decide +kernel
theorem d_Mod_isNothing_33 : decode b_Mod_isNothing 33 = .ok (.ifCond .ne 7, 3) := by decide +kernel
theorem d_Mod_isNothing_36 : decode b_Mod_isNothing 36 = .ok (.iconst 1, 1) := by decide +kernel
theorem d_Mod_isNothing_37 : decode b_Mod_isNothing 37 = .ok (.goto 4, 3) := by decide +kernel
theorem d_Mod_isNothing_40 : decode b_Mod_isNothing 40 = .ok (.iconst 0, 1) := by decide +kernel
theorem d_Mod_isNothing_41 : decode b_Mod_isNothing 41 = .ok (.istore_n 2, 1) := by decide +kernel
theorem d_Mod_isNothing_42 : decode b_Mod_isNothing 42 = .ok (.iinc 3 1, 3) := by decide +kernel
theorem d_Mod_isNothing_45 : decode b_Mod_isNothing 45 = .ok (.goto (-41), 3) := by decide +kernel
theorem d_Mod_isNothing_48 : decode b_Mod_isNothing 48 = .ok (.iload_n 2, 1) := by decide +kernel
theorem d_Mod_isNothing_49 : decode b_Mod_isNothing 49 = .ok (.ireturn, 1) := by decide +kernel
theorem d_Mod_least_0 : decode b_Mod_least 0 = .ok (.aload_n 0, 1) := by decide +kernel
theorem d_Mod_least_1 : decode b_Mod_least 1 = .ok (.aload_n 0, 1) := by decide +kernel
theorem d_Mod_least_2 : decode b_Mod_least 2 = .ok (.iload_n 1, 1) := by decide +kernel
theorem d_Mod_least_3 : decode b_Mod_least 3 = .ok (.invokevirtual 42, 3) := by decide +kernel
theorem d_Mod_least_6 : decode b_Mod_least 6 = .ok (.iload_n 3, 1) := by decide +kernel
theorem d_Mod_least_7 : decode b_Mod_least 7 = .ok (.iconst 1, 1) := by decide +kernel
theorem d_Mod_least_8 : decode b_Mod_least 8 = .ok (.ldc 97, 2) := by decide +kernel
theorem d_Mod_least_10 : decode b_Mod_least 10 = .ok (.invokestatic 46, 3) := by decide +kernel
theorem d_Mod_least_13 : decode b_Mod_least 13 = .ok (.ifCond .eq 16, 3) := by decide +kernel
theorem d_Mod_least_16 : decode b_Mod_least 16 = .ok (.iload_n 2, 1) := by decide +kernel
theorem d_Mod_least_17 : decode b_Mod_least 17 = .ok (.ifCond .lt 12, 3) := by decide +kernel
theorem d_Mod_least_20 : decode b_Mod_least 20 = .ok (.iload_n 2, 1) := by decide +kernel
theorem d_Mod_least_21 : decode b_Mod_least 21 = .ok (.iload_n 3, 1) := by decide +kernel
theorem d_Mod_least_22 : decode b_Mod_least 22 = .ok (.if_icmp .gt 7, 3) := by decide +kernel
theorem d_Mod_least_25 : decode b_Mod_least 25 = .ok (.iconst 1, 1) := by decide +kernel
theorem d_Mod_least_26 : decode b_Mod_least 26 = .ok (.goto 4, 3) := by decide +kernel
theorem d_Mod_least_29 : decode b_Mod_least 29 = .ok (.iconst 0, 1) := by decide +kernel
theorem d_Mod_least_30 : decode b_Mod_least 30 = .ok (.aload_n 0, 1) := by decide +kernel
theorem d_Mod_least_31 : decode b_Mod_least 31 = .ok (.iload_n 1, 1) := by decide +kernel
theorem d_Mod_least_32 : decode b_Mod_least 32 = .ok (.invokevirtual 42, 3) := by decide +kernel
theorem d_Mod_least_35 : decode b_Mod_least 35 = .ok (.ifCond .eq 15, 3) := by decide +kernel
theorem d_Mod_least_38 : decode b_Mod_least 38 = .ok (.aload_n 0, 1) := by decide +kernel
theorem d_Mod_least_39 : decode b_Mod_least 39 = .ok (.iload_n 1, 1) := by decide +kernel
theorem d_Mod_least_40 : decode b_Mod_least 40 = .ok (.invokevirtual 98, 3) := by decide +kernel
theorem d_Mod_least_43 : decode b_Mod_least 43 = .ok (.ifCond .ne 7, 3) := by decide +kernel
theorem d_Mod_least_46 : decode b_Mod_least 46 = .ok (.iconst 1, 1) := by decide +kernel
theorem d_Mod_least_47 : decode b_Mod_least 47 = .ok (.goto 4, 3) := by decide +kernel
theorem d_Mod_least_50 : decode b_Mod_least 50 = .ok (.iconst 0, 1) := by decide +kernel
theorem d_Mod_least_51 : decode b_Mod_least 51 = .ok (.iconst 1, 1) := by decide +kernel
theorem d_Mod_least_52 : decode b_Mod_least 52 = .ok (.invokevirtual 50, 3) := by decide +kernel
theorem d_Mod_least_55 : decode b_Mod_least 55 = .ok (.ifCond .ne 5, 3) := by decide +kernel
theorem d_Mod_least_58 : decode b_Mod_least 58 = .ok (.iconst 0, 1) := by decide +kernel
theorem d_Mod_least_59 : decode b_Mod_least 59 = .ok (.ireturn, 1) := by decide +kernel
theorem d_Mod_least_60 : decode b_Mod_least 60 = .ok (.iconst 0, 1) := by decide +kernel
theorem d_Mod_least_61 : decode b_Mod_least 61 = .ok (.istore 4, 2) := by decide +kernel
theorem d_Mod_least_63 : decode b_Mod_least 63 = .ok (.iload 4, 2) := by decide +kernel
theorem d_Mod_least_65 : decode b_Mod_least 65 = .ok (.bipush 48, 2) := by decide +kernel
theorem d_Mod_least_67 : decode b_Mod_least 67 = .ok (.if_icmp .ge 17, 3) := by decide +kernel
theorem d_Mod_least_70 : decode b_Mod_least 70 = .ok (.aload_n 0, 1) := by decide +kernel
theorem d_Mod_least_71 : decode b_Mod_least 71 = .ok (.getfield 31, 3) := by decide +kernel
theorem d_Mod_least_74 : decode b_Mod_least 74 = .ok (.iload 4, 2) := by decide +kernel
theorem d_Mod_least_76 : decode b_Mod_least 76 = .ok (.iconst 0, 1) := by decide +kernel
theorem d_Mod_least_77 : decode b_Mod_least 77 = .ok (.bastore, 1) := by decide +kernel
theorem d_Mod_least_78 : decode b_Mod_least 78 = .ok (.iinc 4 1, 3) := by decide +kernel
theorem d_Mod_least_81 : decode b_Mod_least 81 = .ok (.goto (-18), 3) := by decide +kernel
theorem d_Mod_least_84 : decode b_Mod_least 84 = .ok (.aload_n 0, 1) := by decide +kernel
theorem d_Mod_least_85 : decode b_Mod_least 85 = .ok (.iload_n 1, 1) := by decide +kernel
theorem d_Mod_least_86 : decode b_Mod_least 86 = .ok (.iload_n 2, 1) := by decide +kernel
theorem d_Mod_least_87 : decode b_Mod_least 87 = .ok (.iload_n 3, 1) := by decide +kernel
theorem d_Mod_least_88 : decode b_Mod_least 88 = .ok (.invokevirtual 101, 3) := by decide +kernel
theorem d_Mod_least_91 : decode b_Mod_least 91 = .ok (.ifCond .ne 101, 3) := by decide +kernel
theorem d_Mod_least_94 : decode b_Mod_least 94 = .ok (.iconst (-1), 1) := by decide +kernel
theorem d_Mod_least_95 : decode b_Mod_least 95 = .ok (.istore 4, 2) := by decide +kernel
theorem d_Mod_least_97 : decode b_Mod_least 97 = .ok (.iconst 0, 1) := by decide +kernel
theorem d_Mod_least_98 : decode b_Mod_least 98 = .ok (.istore 5, 2) := by decide +kernel
theorem d_Mod_least_100 : decode b_Mod_least 100 = .ok (.iload 5, 2) := by decide +kernel
theorem d_Mod_least_102 : decode b_Mod_least 102 = .ok (.aload_n 0, 1) := by decide +kernel
theorem d_Mod_least_103 : decode b_Mod_least 103 = .ok (.getfield 13, 3) := by decide +kernel
theorem d_Mod_least_106 : decode b_Mod_least 106 = .ok (.iload_n 1, 1) := by decide +kernel
theorem d_Mod_least_107 : decode b_Mod_least 107 = .ok (.iaload, 1) := by decide +kernel
theorem d_Mod_least_108 : decode b_Mod_least 108 = .ok (.if_icmp .ge 73, 3) := by decide +kernel
theorem d_Mod_least_111 : decode b_Mod_least 111 = .ok (.aload_n 0, 1) := by decide +kernel
theorem d_Mod_least_112 : decode b_Mod_least 112 = .ok (.getfield 31, 3) := by decide +kernel
theorem d_Mod_least_115 : decode b_Mod_least 115 = .ok (.iload 5, 2) := by decide +kernel
theorem d_Mod_least_117 : decode b_Mod_least 117 = .ok (.baload, 1) := by decide +kernel
theorem d_Mod_least_118 : decode b_Mod_least 118 = .ok (.ifCond .ne 40, 3) := by decide +kernel
theorem d_Mod_least_121 : decode b_Mod_least 121 = .ok (.iload 4, 2) := by decide +kernel
theorem d_Mod_least_123 : decode b_Mod_least 123 = .ok (.iconst (-1), 1) := by decide +kernel
theorem d_Mod_least_124 : decode b_Mod_least 124 = .ok (.if_icmp .eq 30, 3) := by decide +kernel
theorem d_Mod_least_127 : decode b_Mod_least 127 = .ok (.aload_n 0, 1) := by decide +kernel
theorem d_Mod_least_128 : decode b_Mod_least 128 = .ok (.bipush 36, 2) := by decide +kernel
theorem d_Mod_least_130 : decode b_Mod_least 130 = .ok (.bipush 48, 2) := by decide +kernel
theorem d_Mod_least_132 : decode b_Mod_least 132 = .ok (.iload_n 1, 1) := by decide +kernel
theorem d_Mod_least_133 : decode b_Mod_least 133 = .ok (.imul, 1) := by decide +kernel
theorem d_Mod_least_134 : decode b_Mod_least 134 = .ok (.iload 5, 2) := by decide +kernel
theorem d_Mod_least_136 : decode b_Mod_least 136 = .ok (.iadd, 1) := by decide +kernel
theorem d_Mod_least_137 : decode b_Mod_least 137 = .ok (.imul, 1) := by decide +kernel
theorem d_Mod_least_138 : decode b_Mod_least 138 = .ok (.bipush 36, 2) := by decide +kernel
theorem d_Mod_least_140 : decode b_Mod_least 140 = .ok (.bipush 48, 2) := by decide +kernel
theorem d_Mod_least_142 : decode b_Mod_least 142 = .ok (.iload_n 1, 1) := by decide +kernel
theorem d_Mod_least_143 : decode b_Mod_least 143 = .ok (.imul, 1) := by decide +kernel
theorem d_Mod_least_144 : decode b_Mod_least 144 = .ok (.iload 4, 2) := by decide +kernel
theorem d_Mod_least_146 : decode b_Mod_least 146 = .ok (.iadd, 1) := by decide +kernel
theorem d_Mod_least_147 : decode b_Mod_least 147 = .ok (.imul, 1) := by decide +kernel
theorem d_Mod_least_148 : decode b_Mod_least 148 = .ok (.invokevirtual 104, 3) := by decide +kernel
theorem d_Mod_least_151 : decode b_Mod_least 151 = .ok (.ifCond .le 7, 3) := by decide +kernel
theorem d_Mod_least_154 : decode b_Mod_least 154 = .ok (.iconst 1, 1) := by decide +kernel
theorem d_Mod_least_155 : decode b_Mod_least 155 = .ok (.goto 4, 3) := by decide +kernel
theorem d_Mod_least_158 : decode b_Mod_least 158 = .ok (.iconst 0, 1) := by decide +kernel
theorem d_Mod_least_159 : decode b_Mod_least 159 = .ok (.istore 6, 2) := by decide +kernel
theorem d_Mod_least_161 : decode b_Mod_least 161 = .ok (.iload 6, 2) := by decide +kernel
theorem d_Mod_least_163 : decode b_Mod_least 163 = .ok (.ifCond .eq 8, 3) := by decide +kernel
theorem d_Mod_least_166 : decode b_Mod_least 166 = .ok (.iload 5, 2) := by decide +kernel
theorem d_Mod_least_168 : decode b_Mod_least 168 = .ok (.goto 5, 3) := by decide +kernel
theorem d_Mod_least_171 : decode b_Mod_least 171 = .ok (.iload 4, 2) := by decide +kernel
theorem d_Mod_least_173 : decode b_Mod_least 173 = .ok (.istore 4, 2) := by decide +kernel
theorem d_Mod_least_175 : decode b_Mod_least 175 = .ok (.iinc 5 1, 3) := by decide +kernel
theorem d_Mod_least_178 : decode b_Mod_least 178 = .ok (.goto (-78), 3) := by decide +kernel
theorem d_Mod_least_181 : decode b_Mod_least 181 = .ok (.aload_n 0, 1) := by decide +kernel
theorem d_Mod_least_182 : decode b_Mod_least 182 = .ok (.getfield 31, 3) := by decide +kernel
theorem d_Mod_least_185 : decode b_Mod_least 185 = .ok (.iload 4, 2) := by decide +kernel
theorem d_Mod_least_187 : decode b_Mod_least 187 = .ok (.iconst 1, 1) := by decide +kernel
theorem d_Mod_least_188 : decode b_Mod_least 188 = .ok (.bastore, 1) := by decide +kernel
theorem d_Mod_least_189 : decode b_Mod_least 189 = .ok (.goto (-105), 3) := by decide +kernel
theorem d_Mod_least_192 : decode b_Mod_least 192 = .ok (.aload_n 0, 1) := by decide +kernel
theorem d_Mod_least_193 : decode b_Mod_least 193 = .ok (.iconst 0, 1) := by decide +kernel
theorem d_Mod_least_194 : decode b_Mod_least 194 = .ok (.putfield 107, 3) := by decide +kernel
theorem d_Mod_least_197 : decode b_Mod_least 197 = .ok (.iconst 0, 1) := by decide +kernel
theorem d_Mod_least_198 : decode b_Mod_least 198 = .ok (.istore 4, 2) := by decide +kernel
theorem d_Mod_least_200 : decode b_Mod_least 200 = .ok (.iload 4, 2) := by decide +kernel
theorem d_Mod_least_202 : decode b_Mod_least 202 = .ok (.aload_n 0, 1) := by decide +kernel
theorem d_Mod_least_203 : decode b_Mod_least 203 = .ok (.getfield 13, 3) := by decide +kernel
theorem d_Mod_least_206 : decode b_Mod_least 206 = .ok (.iload_n 1, 1) := by decide +kernel
theorem d_Mod_least_207 : decode b_Mod_least 207 = .ok (.iaload, 1) := by decide +kernel
theorem d_Mod_least_208 : decode b_Mod_least 208 = .ok (.if_icmp .ge 94, 3) := by decide +kernel
theorem d_Mod_least_211 : decode b_Mod_least 211 = .ok (.aload_n 0, 1) := by decide +kernel
theorem d_Mod_least_212 : decode b_Mod_least 212 = .ok (.getfield 31, 3) := by decide +kernel
theorem d_Mod_least_215 : decode b_Mod_least 215 = .ok (.iload 4, 2) := by decide +kernel
theorem d_Mod_least_217 : decode b_Mod_least 217 = .ok (.baload, 1) := by decide +kernel
theorem d_Mod_least_218 : decode b_Mod_least 218 = .ok (.ifCond .eq 48, 3) := by decide +kernel
theorem d_Mod_least_221 : decode b_Mod_least 221 = .ok (.iload 4, 2) := by decide +kernel
theorem d_Mod_least_223 : decode b_Mod_least 223 = .ok (.ifCond .eq 15, 3) := by decide +kernel
theorem d_Mod_least_226 : decode b_Mod_least 226 = .ok (.aload_n 0, 1) := by decide +kernel
theorem d_Mod_least_227 : decode b_Mod_least 227 = .ok (.getfield 31, 3) := by decide +kernel
theorem d_Mod_least_230 : decode b_Mod_least 230 = .ok (.iload 4, 2) := by decide +kernel
theorem d_Mod_least_232 : decode b_Mod_least 232 = .ok (.iconst 1, 1) := by decide +kernel
theorem d_Mod_least_233 : decode b_Mod_least 233 = .ok (.isub, 1) := by decide +kernel
theorem d_Mod_least_234 : decode b_Mod_least 234 = .ok (.baload, 1) := by decide +kernel
theorem d_Mod_least_235 : decode b_Mod_least 235 = .ok (.ifCond .ne 31, 3) := by decide +kernel
theorem d_Mod_least_238 : decode b_Mod_least 238 = .ok (.aload_n 0, 1) := by decide +kernel
theorem d_Mod_least_239 : decode b_Mod_least 239 = .ok (.getfield 19, 3) := by decide +kernel
theorem d_Mod_least_242 : decode b_Mod_least 242 = .ok (.aload_n 0, 1) := by decide +kernel
theorem d_Mod_least_243 : decode b_Mod_least 243 = .ok (.getfield 107, 3) := by decide +kernel
theorem d_Mod_least_246 : decode b_Mod_least 246 = .ok (.aload_n 0, 1) := by decide +kernel
theorem d_Mod_least_247 : decode b_Mod_least 247 = .ok (.getfield 7, 3) := by decide +kernel
theorem d_Mod_least_250 : decode b_Mod_least 250 = .ok (.iload_n 1, 1) := by decide +kernel
theorem d_Mod_least_251 : decode b_Mod_least 251 = .ok (.iaload, 1) := by decide +kernel
theorem d_Mod_least_252 : decode b_Mod_least 252 = .ok (.iload 4, 2) := by decide +kernel
theorem d_Mod_least_254 : decode b_Mod_least 254 = .ok (.iadd, 1) := by decide +kernel
theorem d_Mod_least_255 : decode b_Mod_least 255 = .ok (.iastore, 1) := by decide +kernel
theorem d_Mod_least_256 : decode b_Mod_least 256 = .ok (.aload_n 0, 1) := by decide +kernel
theorem d_Mod_least_257 : decode b_Mod_least 257 = .ok (.dup, 1) := by decide +kernel
theorem d_Mod_least_258 : decode b_Mod_least 258 = .ok (.getfield 107, 3) := by decide +kernel
theorem d_Mod_least_261 : decode b_Mod_least 261 = .ok (.iconst 1, 1) := by decide +kernel
theorem d_Mod_least_262 : decode b_Mod_least 262 = .ok (.iadd, 1) := by decide +kernel
theorem d_Mod_least_263 : decode b_Mod_least 263 = .ok (.putfield 107, 3) := by decide +kernel
theorem d_Mod_least_266 : decode b_Mod_least 266 = .ok (.aload_n 0, 1) := by decide +kernel
theorem d_Mod_least_267 : decode b_Mod_least 267 = .ok (.getfield 31, 3) := by decide +kernel
theorem d_Mod_least_270 : decode b_Mod_least 270 = .ok (.iload 4, 2) := by decide +kernel
theorem d_Mod_least_272 : decode b_Mod_least 272 = .ok (.baload, 1) := by decide +kernel
theorem d_Mod_least_273 : decode b_Mod_least 273 = .ok (.ifCond .eq 23, 3) := by decide +kernel
theorem d_Mod_least_276 : decode b_Mod_least 276 = .ok (.aload_n 0, 1) := by decide +kernel
theorem d_Mod_least_277 : decode b_Mod_least 277 = .ok (.getfield 22, 3) := by decide +kernel
theorem d_Mod_least_280 : decode b_Mod_least 280 = .ok (.aload_n 0, 1) := by decide +kernel
theorem d_Mod_least_281 : decode b_Mod_least 281 = .ok (.getfield 107, 3) := by decide +kernel
theorem d_Mod_least_284 : decode b_Mod_least 284 = .ok (.iconst 1, 1) := by decide +kernel
theorem d_Mod_least_285 : decode b_Mod_least 285 = .ok (.isub, 1) := by decide +kernel
theorem d_Mod_least_286 : decode b_Mod_least 286 = .ok (.aload_n 0, 1) := by decide +kernel
theorem d_Mod_least_287 : decode b_Mod_least 287 = .ok (.getfield 7, 3) := by decide +kernel
theorem d_Mod_least_290 : decode b_Mod_least 290 = .ok (.iload_n 1, 1) := by decide +kernel
theorem d_Mod_least_291 : decode b_Mod_least 291 = .ok (.iaload, 1) := by decide +kernel
theorem d_Mod_least_292 : decode b_Mod_least 292 = .ok (.iload 4, 2) := by decide +kernel
theorem d_Mod_least_294 : decode b_Mod_least 294 = .ok (.iadd, 1) := by decide +kernel
theorem d_Mod_least_295 : decode b_Mod_least 295 = .ok (.iastore, 1) := by decide +kernel
theorem d_Mod_least_296 : decode b_Mod_least 296 = .ok (.iinc 4 1, 3) := by decide +kernel
theorem d_Mod_least_299 : decode b_Mod_least 299 = .ok (.goto (-99), 3) := by decide +kernel
theorem d_Mod_least_302 : decode b_Mod_least 302 = .ok (.aload_n 0, 1) := by decide +kernel
theorem d_Mod_least_303 : decode b_Mod_least 303 = .ok (.getfield 107, 3) := by decide +kernel
theorem d_Mod_least_306 : decode b_Mod_least 306 = .ok (.ireturn, 1) := by decide +kernel
theorem d_Mod_span_0 : decode b_Mod_span 0 = .ok (.aload_n 0, 1) := by decide +kernel
theorem d_Mod_span_1 : decode b_Mod_span 1 = .ok (.iload_n 1, 1) := by decide +kernel
theorem d_Mod_span_2 : decode b_Mod_span 2 = .ok (.ifCond .lt 24, 3) := by decide +kernel
theorem d_Mod_span_5 : decode b_Mod_span 5 = .ok (.iload_n 1, 1) := by decide +kernel
theorem d_Mod_span_6 : decode b_Mod_span 6 = .ok (.aload_n 0, 1) := by decide +kernel
theorem d_Mod_span_7 : decode b_Mod_span 7 = .ok (.getfield 107, 3) := by decide +kernel
theorem d_Mod_span_10 : decode b_Mod_span 10 = .ok (.if_icmp .ge 16, 3) := by decide +kernel
theorem d_Mod_span_13 : decode b_Mod_span 13 = .ok (.iload_n 2, 1) := by decide +kernel
theorem d_Mod_span_14 : decode b_Mod_span 14 = .ok (.ifCond .eq 8, 3) := by decide +kernel
theorem d_Mod_span_17 : decode b_Mod_span 17 = .ok (.iload_n 2, 1) := by decide +kernel
theorem d_Mod_span_18 : decode b_Mod_span 18 = .ok (.iconst 1, 1) := by decide +kernel
theorem d_Mod_span_19 : decode b_Mod_span 19 = .ok (.if_icmp .ne 7, 3) := by decide +kernel
theorem d_Mod_span_22 : decode b_Mod_span 22 = .ok (.iconst 1, 1) := by decide +kernel
theorem d_Mod_span_23 : decode b_Mod_span 23 = .ok (.goto 4, 3) := by decide +kernel
theorem d_Mod_span_26 : decode b_Mod_span 26 = .ok (.iconst 0, 1) := by decide +kernel
theorem d_Mod_span_27 : decode b_Mod_span 27 = .ok (.iconst 1, 1) := by decide +kernel
theorem d_Mod_span_28 : decode b_Mod_span 28 = .ok (.iconst 1, 1) := by decide +kernel
theorem d_Mod_span_29 : decode b_Mod_span 29 = .ok (.iconst 1, 1) := by decide +kernel
theorem d_Mod_span_30 : decode b_Mod_span 30 = .ok (.invokevirtual 50, 3) := by decide +kernel
theorem d_Mod_span_33 : decode b_Mod_span 33 = .ok (.ifCond .ne 5, 3) := by decide +kernel
theorem d_Mod_span_36 : decode b_Mod_span 36 = .ok (.iconst 0, 1) := by decide +kernel
theorem d_Mod_span_37 : decode b_Mod_span 37 = .ok (.ireturn, 1) := by decide +kernel
theorem d_Mod_span_38 : decode b_Mod_span 38 = .ok (.iload_n 2, 1) := by decide +kernel
theorem d_Mod_span_39 : decode b_Mod_span 39 = .ok (.ifCond .ne 12, 3) := by decide +kernel
theorem d_Mod_span_42 : decode b_Mod_span 42 = .ok (.aload_n 0, 1) := by decide +kernel
theorem d_Mod_span_43 : decode b_Mod_span 43 = .ok (.getfield 19, 3) := by decide +kernel
theorem d_Mod_span_46 : decode b_Mod_span 46 = .ok (.iload_n 1, 1) := by decide +kernel
theorem d_Mod_span_47 : decode b_Mod_span 47 = .ok (.iaload, 1) := by decide +kernel
theorem d_Mod_span_48 : decode b_Mod_span 48 = .ok (.goto 9, 3) := by decide +kernel
theorem d_Mod_span_51 : decode b_Mod_span 51 = .ok (.aload_n 0, 1) := by decide +kernel
theorem d_Mod_span_52 : decode b_Mod_span 52 = .ok (.getfield 22, 3) := by decide +kernel
theorem d_Mod_span_55 : decode b_Mod_span 55 = .ok (.iload_n 1, 1) := by decide +kernel
theorem d_Mod_span_56 : decode b_Mod_span 56 = .ok (.iaload, 1) := by decide +kernel
end
section
theorem d_Mod_span_57 : decode b_Mod_span 57 = .ok (.ireturn, 1) := by decide +kernel
theorem d_Mod_digit_0 : decode b_Mod_digit 0 = .ok (.aload_n 0, 1) := by decide +kernel
theorem d_Mod_digit_1 : decode b_Mod_digit 1 = .ok (.aload_n 0, 1) := by decide +kernel
theorem d_Mod_digit_2 : decode b_Mod_digit 2 = .ok (.iload_n 1, 1) := by decide +kernel
theorem d_Mod_digit_3 : decode b_Mod_digit 3 = .ok (.iload_n 2, 1) := by decide +kernel
theorem d_Mod_digit_4 : decode b_Mod_digit 4 = .ok (.invokevirtual 58, 3) := by decide +kernel
theorem d_Mod_digit_7 : decode b_Mod_digit 7 = .ok (.ifCond .eq 17, 3) := by decide +kernel
theorem d_Mod_digit_10 : decode b_Mod_digit 10 = .ok (.iload_n 3, 1) := by decide +kernel
theorem d_Mod_digit_11 : decode b_Mod_digit 11 = .ok (.iconst 0, 1) := by decide +kernel
theorem d_Mod_digit_12 : decode b_Mod_digit 12 = .ok (.bipush 35, 2) := by decide +kernel
theorem d_Mod_digit_14 : decode b_Mod_digit 14 = .ok (.invokestatic 46, 3) := by decide +kernel
theorem d_Mod_digit_17 : decode b_Mod_digit 17 = .ok (.ifCond .eq 7, 3) := by decide +kernel
theorem d_Mod_digit_20 : decode b_Mod_digit 20 = .ok (.iconst 1, 1) := by decide +kernel
theorem d_Mod_digit_21 : decode b_Mod_digit 21 = .ok (.goto 4, 3) := by decide +kernel
theorem d_Mod_digit_24 : decode b_Mod_digit 24 = .ok (.iconst 0, 1) := by decide +kernel
theorem d_Mod_digit_25 : decode b_Mod_digit 25 = .ok (.iconst 1, 1) := by decide +kernel
theorem d_Mod_digit_26 : decode b_Mod_digit 26 = .ok (.iconst 1, 1) := by decide +kernel
theorem d_Mod_digit_27 : decode b_Mod_digit 27 = .ok (.iconst 1, 1) := by decide +kernel
theorem d_Mod_digit_28 : decode b_Mod_digit 28 = .ok (.invokevirtual 50, 3) := by decide +kernel
theorem d_Mod_digit_31 : decode b_Mod_digit 31 = .ok (.ifCond .eq 19, 3) := by decide +kernel
theorem d_Mod_digit_34 : decode b_Mod_digit 34 = .ok (.aload_n 0, 1) := by decide +kernel
theorem d_Mod_digit_35 : decode b_Mod_digit 35 = .ok (.getfield 16, 3) := by decide +kernel
theorem d_Mod_digit_38 : decode b_Mod_digit 38 = .ok (.aload_n 0, 1) := by decide +kernel
theorem d_Mod_digit_39 : decode b_Mod_digit 39 = .ok (.iload_n 1, 1) := by decide +kernel
theorem d_Mod_digit_40 : decode b_Mod_digit 40 = .ok (.iload_n 2, 1) := by decide +kernel
theorem d_Mod_digit_41 : decode b_Mod_digit 41 = .ok (.invokevirtual 64, 3) := by decide +kernel
theorem d_Mod_digit_44 : decode b_Mod_digit 44 = .ok (.iload_n 3, 1) := by decide +kernel
theorem d_Mod_digit_45 : decode b_Mod_digit 45 = .ok (.iadd, 1) := by decide +kernel
theorem d_Mod_digit_46 : decode b_Mod_digit 46 = .ok (.iaload, 1) := by decide +kernel
theorem d_Mod_digit_47 : decode b_Mod_digit 47 = .ok (.goto 4, 3) := by decide +kernel
theorem d_Mod_digit_50 : decode b_Mod_digit 50 = .ok (.iconst 0, 1) := by decide +kernel
theorem d_Mod_digit_51 : decode b_Mod_digit 51 = .ok (.ireturn, 1) := by decide +kernel
theorem d_Mod_total_0 : decode b_Mod_total 0 = .ok (.aload_n 0, 1) := by decide +kernel
theorem d_Mod_total_1 : decode b_Mod_total 1 = .ok (.aload_n 0, 1) := by decide +kernel
theorem d_Mod_total_2 : decode b_Mod_total 2 = .ok (.iload_n 1, 1) := by decide +kernel
theorem d_Mod_total_3 : decode b_Mod_total 3 = .ok (.invokevirtual 42, 3) := by decide +kernel
theorem d_Mod_total_6 : decode b_Mod_total 6 = .ok (.ifCond .eq 17, 3) := by decide +kernel
theorem d_Mod_total_9 : decode b_Mod_total 9 = .ok (.iload_n 2, 1) := by decide +kernel
theorem d_Mod_total_10 : decode b_Mod_total 10 = .ok (.iconst 0, 1) := by decide +kernel
theorem d_Mod_total_11 : decode b_Mod_total 11 = .ok (.bipush 37, 2) := by decide +kernel
theorem d_Mod_total_13 : decode b_Mod_total 13 = .ok (.invokestatic 46, 3) := by decide +kernel
theorem d_Mod_total_16 : decode b_Mod_total 16 = .ok (.ifCond .eq 7, 3) := by decide +kernel
theorem d_Mod_total_19 : decode b_Mod_total 19 = .ok (.iconst 1, 1) := by decide +kernel
theorem d_Mod_total_20 : decode b_Mod_total 20 = .ok (.goto 4, 3) := by decide +kernel
theorem d_Mod_total_23 : decode b_Mod_total 23 = .ok (.iconst 0, 1) := by decide +kernel
theorem d_Mod_total_24 : decode b_Mod_total 24 = .ok (.iconst 1, 1) := by decide +kernel
theorem d_Mod_total_25 : decode b_Mod_total 25 = .ok (.iconst 1, 1) := by decide +kernel
theorem d_Mod_total_26 : decode b_Mod_total 26 = .ok (.iconst 1, 1) := by decide +kernel
theorem d_Mod_total_27 : decode b_Mod_total 27 = .ok (.invokevirtual 50, 3) := by decide +kernel
theorem d_Mod_total_30 : decode b_Mod_total 30 = .ok (.ifCond .ne 5, 3) := by decide +kernel
theorem d_Mod_total_33 : decode b_Mod_total 33 = .ok (.iconst 0, 1) := by decide +kernel
theorem d_Mod_total_34 : decode b_Mod_total 34 = .ok (.ireturn, 1) := by decide +kernel
theorem d_Mod_total_35 : decode b_Mod_total 35 = .ok (.aload_n 0, 1) := by decide +kernel
theorem d_Mod_total_36 : decode b_Mod_total 36 = .ok (.iload_n 1, 1) := by decide +kernel
theorem d_Mod_total_37 : decode b_Mod_total 37 = .ok (.iconst 1, 1) := by decide +kernel
theorem d_Mod_total_38 : decode b_Mod_total 38 = .ok (.invokevirtual 89, 3) := by decide +kernel
theorem d_Mod_total_41 : decode b_Mod_total 41 = .ok (.aload_n 0, 1) := by decide +kernel
theorem d_Mod_total_42 : decode b_Mod_total 42 = .ok (.getfield 25, 3) := by decide +kernel
theorem d_Mod_total_45 : decode b_Mod_total 45 = .ok (.iload_n 2, 1) := by decide +kernel
theorem d_Mod_total_46 : decode b_Mod_total 46 = .ok (.iaload, 1) := by decide +kernel
theorem d_Mod_total_47 : decode b_Mod_total 47 = .ok (.ireturn, 1) := by decide +kernel
theorem d_Mod_compare_0 : decode b_Mod_compare 0 = .ok (.aload_n 0, 1) := by decide +kernel
theorem d_Mod_compare_1 : decode b_Mod_compare 1 = .ok (.aload_n 0, 1) := by decide +kernel
theorem d_Mod_compare_2 : decode b_Mod_compare 2 = .ok (.iload_n 1, 1) := by decide +kernel
theorem d_Mod_compare_3 : decode b_Mod_compare 3 = .ok (.iload_n 2, 1) := by decide +kernel
theorem d_Mod_compare_4 : decode b_Mod_compare 4 = .ok (.invokevirtual 58, 3) := by decide +kernel
theorem d_Mod_compare_7 : decode b_Mod_compare 7 = .ok (.ifCond .eq 17, 3) := by decide +kernel
theorem d_Mod_compare_10 : decode b_Mod_compare 10 = .ok (.aload_n 0, 1) := by decide +kernel
theorem d_Mod_compare_11 : decode b_Mod_compare 11 = .ok (.iload_n 3, 1) := by decide +kernel
theorem d_Mod_compare_12 : decode b_Mod_compare 12 = .ok (.iload 4, 2) := by decide +kernel
theorem d_Mod_compare_14 : decode b_Mod_compare 14 = .ok (.invokevirtual 58, 3) := by decide +kernel
theorem d_Mod_compare_17 : decode b_Mod_compare 17 = .ok (.ifCond .eq 7, 3) := by decide +kernel
theorem d_Mod_compare_20 : decode b_Mod_compare 20 = .ok (.iconst 1, 1) := by decide +kernel
theorem d_Mod_compare_21 : decode b_Mod_compare 21 = .ok (.goto 4, 3) := by decide +kernel
theorem d_Mod_compare_24 : decode b_Mod_compare 24 = .ok (.iconst 0, 1) := by decide +kernel
theorem d_Mod_compare_25 : decode b_Mod_compare 25 = .ok (.iconst 1, 1) := by decide +kernel
theorem d_Mod_compare_26 : decode b_Mod_compare 26 = .ok (.iconst 1, 1) := by decide +kernel
theorem d_Mod_compare_27 : decode b_Mod_compare 27 = .ok (.iconst 1, 1) := by decide +kernel
theorem d_Mod_compare_28 : decode b_Mod_compare 28 = .ok (.invokevirtual 50, 3) := by decide +kernel
theorem d_Mod_compare_31 : decode b_Mod_compare 31 = .ok (.ifCond .eq 23, 3) := by decide +kernel
theorem d_Mod_compare_34 : decode b_Mod_compare 34 = .ok (.aload_n 0, 1) := by decide +kernel
theorem d_Mod_compare_35 : decode b_Mod_compare 35 = .ok (.aload_n 0, 1) := by decide +kernel
theorem d_Mod_compare_36 : decode b_Mod_compare 36 = .ok (.iload_n 1, 1) := by decide +kernel
theorem d_Mod_compare_37 : decode b_Mod_compare 37 = .ok (.iload_n 2, 1) := by decide +kernel
theorem d_Mod_compare_38 : decode b_Mod_compare 38 = .ok (.invokevirtual 64, 3) := by decide +kernel
theorem d_Mod_compare_41 : decode b_Mod_compare 41 = .ok (.aload_n 0, 1) := by decide +kernel
theorem d_Mod_compare_42 : decode b_Mod_compare 42 = .ok (.iload_n 3, 1) := by decide +kernel
theorem d_Mod_compare_43 : decode b_Mod_compare 43 = .ok (.iload 4, 2) := by decide +kernel
theorem d_Mod_compare_45 : decode b_Mod_compare 45 = .ok (.invokevirtual 64, 3) := by decide +kernel
theorem d_Mod_compare_48 : decode b_Mod_compare 48 = .ok (.invokevirtual 104, 3) := by decide +kernel
theorem d_Mod_compare_51 : decode b_Mod_compare 51 = .ok (.goto 4, 3) := by decide +kernel
theorem d_Mod_compare_54 : decode b_Mod_compare 54 = .ok (.iconst 0, 1) := by decide +kernel
theorem d_Mod_compare_55 : decode b_Mod_compare 55 = .ok (.ireturn, 1) := by decide +kernel
theorem d_Mod_about_0 : decode b_Mod_about 0 = .ok (.aload_n 0, 1) := by decide +kernel
theorem d_Mod_about_1 : decode b_Mod_about 1 = .ok (.aload_n 0, 1) := by decide +kernel
theorem d_Mod_about_2 : decode b_Mod_about 2 = .ok (.iload_n 1, 1) := by decide +kernel
theorem d_Mod_about_3 : decode b_Mod_about 3 = .ok (.invokevirtual 42, 3) := by decide +kernel
theorem d_Mod_about_6 : decode b_Mod_about 6 = .ok (.iload_n 2, 1) := by decide +kernel
theorem d_Mod_about_7 : decode b_Mod_about 7 = .ok (.iconst 0, 1) := by decide +kernel
theorem d_Mod_about_8 : decode b_Mod_about 8 = .ok (.iconst 2, 1) := by decide +kernel
theorem d_Mod_about_9 : decode b_Mod_about 9 = .ok (.invokestatic 46, 3) := by decide +kernel
theorem d_Mod_about_12 : decode b_Mod_about 12 = .ok (.iconst 1, 1) := by decide +kernel
theorem d_Mod_about_13 : decode b_Mod_about 13 = .ok (.iconst 1, 1) := by decide +kernel
theorem d_Mod_about_14 : decode b_Mod_about 14 = .ok (.invokevirtual 50, 3) := by decide +kernel
theorem d_Mod_about_17 : decode b_Mod_about 17 = .ok (.ifCond .ne 5, 3) := by decide +kernel
theorem d_Mod_about_20 : decode b_Mod_about 20 = .ok (.iconst 0, 1) := by decide +kernel
theorem d_Mod_about_21 : decode b_Mod_about 21 = .ok (.ireturn, 1) := by decide +kernel
theorem d_Mod_about_22 : decode b_Mod_about 22 = .ok (.iconst 0, 1) := by decide +kernel
theorem d_Mod_about_23 : decode b_Mod_about 23 = .ok (.istore_n 3, 1) := by decide +kernel
theorem d_Mod_about_24 : decode b_Mod_about 24 = .ok (.iconst 0, 1) := by decide +kernel
theorem d_Mod_about_25 : decode b_Mod_about 25 = .ok (.istore 4, 2) := by decide +kernel
theorem d_Mod_about_27 : decode b_Mod_about 27 = .ok (.iload 4, 2) := by decide +kernel
theorem d_Mod_about_29 : decode b_Mod_about 29 = .ok (.aload_n 0, 1) := by decide +kernel
theorem d_Mod_about_30 : decode b_Mod_about 30 = .ok (.getfield 13, 3) := by decide +kernel
theorem d_Mod_about_33 : decode b_Mod_about 33 = .ok (.iload_n 1, 1) := by decide +kernel
theorem d_Mod_about_34 : decode b_Mod_about 34 = .ok (.iaload, 1) := by decide +kernel
theorem d_Mod_about_35 : decode b_Mod_about 35 = .ok (.if_icmp .ge 74, 3) := by decide +kernel
theorem d_Mod_about_38 : decode b_Mod_about 38 = .ok (.iconst 0, 1) := by decide +kernel
theorem d_Mod_about_39 : decode b_Mod_about 39 = .ok (.istore 5, 2) := by decide +kernel
theorem d_Mod_about_41 : decode b_Mod_about 41 = .ok (.iconst 0, 1) := by decide +kernel
theorem d_Mod_about_42 : decode b_Mod_about 42 = .ok (.istore 6, 2) := by decide +kernel
theorem d_Mod_about_44 : decode b_Mod_about 44 = .ok (.iload 6, 2) := by decide +kernel
theorem d_Mod_about_46 : decode b_Mod_about 46 = .ok (.bipush 36, 2) := by decide +kernel
theorem d_Mod_about_48 : decode b_Mod_about 48 = .ok (.if_icmp .ge 42, 3) := by decide +kernel
theorem d_Mod_about_51 : decode b_Mod_about 51 = .ok (.iload 5, 2) := by decide +kernel
theorem d_Mod_about_53 : decode b_Mod_about 53 = .ok (.ifCond .ne 24, 3) := by decide +kernel
theorem d_Mod_about_56 : decode b_Mod_about 56 = .ok (.aload_n 0, 1) := by decide +kernel
theorem d_Mod_about_57 : decode b_Mod_about 57 = .ok (.getfield 16, 3) := by decide +kernel
theorem d_Mod_about_60 : decode b_Mod_about 60 = .ok (.bipush 36, 2) := by decide +kernel
theorem d_Mod_about_62 : decode b_Mod_about 62 = .ok (.bipush 48, 2) := by decide +kernel
theorem d_Mod_about_64 : decode b_Mod_about 64 = .ok (.iload_n 1, 1) := by decide +kernel
theorem d_Mod_about_65 : decode b_Mod_about 65 = .ok (.imul, 1) := by decide +kernel
theorem d_Mod_about_66 : decode b_Mod_about 66 = .ok (.iload 4, 2) := by decide +kernel
theorem d_Mod_about_68 : decode b_Mod_about 68 = .ok (.iadd, 1) := by decide +kernel
theorem d_Mod_about_69 : decode b_Mod_about 69 = .ok (.imul, 1) := by decide +kernel
theorem d_Mod_about_70 : decode b_Mod_about 70 = .ok (.iload 6, 2) := by decide +kernel
theorem d_Mod_about_72 : decode b_Mod_about 72 = .ok (.iadd, 1) := by decide +kernel
theorem d_Mod_about_73 : decode b_Mod_about 73 = .ok (.iaload, 1) := by decide +kernel
theorem d_Mod_about_74 : decode b_Mod_about 74 = .ok (.ifCond .eq 7, 3) := by decide +kernel
theorem d_Mod_about_77 : decode b_Mod_about 77 = .ok (.iconst 1, 1) := by decide +kernel
theorem d_Mod_about_78 : decode b_Mod_about 78 = .ok (.goto 4, 3) := by decide +kernel
theorem d_Mod_about_81 : decode b_Mod_about 81 = .ok (.iconst 0, 1) := by decide +kernel
theorem d_Mod_about_82 : decode b_Mod_about 82 = .ok (.istore 5, 2) := by decide +kernel
theorem d_Mod_about_84 : decode b_Mod_about 84 = .ok (.iinc 6 1, 3) := by decide +kernel
theorem d_Mod_about_87 : decode b_Mod_about 87 = .ok (.goto (-43), 3) := by decide +kernel
theorem d_Mod_about_90 : decode b_Mod_about 90 = .ok (.iload 5, 2) := by decide +kernel
theorem d_Mod_about_92 : decode b_Mod_about 92 = .ok (.ifCond .eq 9, 3) := by decide +kernel
theorem d_Mod_about_95 : decode b_Mod_about 95 = .ok (.iload_n 3, 1) := by decide +kernel
theorem d_Mod_about_96 : decode b_Mod_about 96 = .ok (.iconst 1, 1) := by decide +kernel
theorem d_Mod_about_97 : decode b_Mod_about 97 = .ok (.iadd, 1) := by decide +kernel
theorem d_Mod_about_98 : decode b_Mod_about 98 = .ok (.goto 4, 3) := by decide +kernel
theorem d_Mod_about_101 : decode b_Mod_about 101 = .ok (.iload_n 3, 1) := by decide +kernel
theorem d_Mod_about_102 : decode b_Mod_about 102 = .ok (.istore_n 3, 1) := by decide +kernel
theorem d_Mod_about_103 : decode b_Mod_about 103 = .ok (.iinc 4 1, 3) := by decide +kernel
theorem d_Mod_about_106 : decode b_Mod_about 106 = .ok (.goto (-79), 3) := by decide +kernel
theorem d_Mod_about_109 : decode b_Mod_about 109 = .ok (.iload_n 2, 1) := by decide +kernel
theorem d_Mod_about_110 : decode b_Mod_about 110 = .ok (.ifCond .ne 12, 3) := by decide +kernel
theorem d_Mod_about_113 : decode b_Mod_about 113 = .ok (.aload_n 0, 1) := by decide +kernel
theorem d_Mod_about_114 : decode b_Mod_about 114 = .ok (.getfield 7, 3) := by decide +kernel
theorem d_Mod_about_117 : decode b_Mod_about 117 = .ok (.iload_n 1, 1) := by decide +kernel
theorem d_Mod_about_118 : decode b_Mod_about 118 = .ok (.iaload, 1) := by decide +kernel
theorem d_Mod_about_119 : decode b_Mod_about 119 = .ok (.goto 27, 3) := by decide +kernel
theorem d_Mod_about_122 : decode b_Mod_about 122 = .ok (.iload_n 2, 1) := by decide +kernel
theorem d_Mod_about_123 : decode b_Mod_about 123 = .ok (.iconst 1, 1) := by decide +kernel
theorem d_Mod_about_124 : decode b_Mod_about 124 = .ok (.if_icmp .ne 21, 3) := by decide +kernel
theorem d_Mod_about_127 : decode b_Mod_about 127 = .ok (.aload_n 0, 1) := by decide +kernel
theorem d_Mod_about_128 : decode b_Mod_about 128 = .ok (.getfield 7, 3) := by decide +kernel
theorem d_Mod_about_131 : decode b_Mod_about 131 = .ok (.iload_n 1, 1) := by decide +kernel
theorem d_Mod_about_132 : decode b_Mod_about 132 = .ok (.iaload, 1) := by decide +kernel
theorem d_Mod_about_133 : decode b_Mod_about 133 = .ok (.aload_n 0, 1) := by decide +kernel
theorem d_Mod_about_134 : decode b_Mod_about 134 = .ok (.getfield 13, 3) := by decide +kernel
theorem d_Mod_about_137 : decode b_Mod_about 137 = .ok (.iload_n 1, 1) := by decide +kernel
theorem d_Mod_about_138 : decode b_Mod_about 138 = .ok (.iaload, 1) := by decide +kernel
theorem d_Mod_about_139 : decode b_Mod_about 139 = .ok (.iadd, 1) := by decide +kernel
theorem d_Mod_about_140 : decode b_Mod_about 140 = .ok (.iconst 1, 1) := by decide +kernel
theorem d_Mod_about_141 : decode b_Mod_about 141 = .ok (.isub, 1) := by decide +kernel
theorem d_Mod_about_142 : decode b_Mod_about 142 = .ok (.goto 4, 3) := by decide +kernel
theorem d_Mod_about_145 : decode b_Mod_about 145 = .ok (.iload_n 3, 1) := by decide +kernel
theorem d_Mod_about_146 : decode b_Mod_about 146 = .ok (.ireturn, 1) := by decide +kernel
theorem d_Mod_over_0 : decode b_Mod_over 0 = .ok (.aload_n 0, 1) := by decide +kernel
theorem d_Mod_over_1 : decode b_Mod_over 1 = .ok (.lload_n 3, 1) := by decide +kernel
theorem d_Mod_over_2 : decode b_Mod_over 2 = .ok (.lconst 0, 1) := by decide +kernel
theorem d_Mod_over_3 : decode b_Mod_over 3 = .ok (.lcmp, 1) := by decide +kernel
theorem d_Mod_over_4 : decode b_Mod_over 4 = .ok (.ifCond .eq 7, 3) := by decide +kernel
theorem d_Mod_over_7 : decode b_Mod_over 7 = .ok (.iconst 1, 1) := by decide +kernel
theorem d_Mod_over_8 : decode b_Mod_over 8 = .ok (.goto 4, 3) := by decide +kernel
theorem d_Mod_over_11 : decode b_Mod_over 11 = .ok (.iconst 0, 1) := by decide +kernel
theorem d_Mod_over_12 : decode b_Mod_over 12 = .ok (.iconst 1, 1) := by decide +kernel
theorem d_Mod_over_13 : decode b_Mod_over 13 = .ok (.iconst 1, 1) := by decide +kernel
theorem d_Mod_over_14 : decode b_Mod_over 14 = .ok (.iconst 1, 1) := by decide +kernel
theorem d_Mod_over_15 : decode b_Mod_over 15 = .ok (.invokevirtual 50, 3) := by decide +kernel
theorem d_Mod_over_18 : decode b_Mod_over 18 = .ok (.ifCond .eq 9, 3) := by decide +kernel
theorem d_Mod_over_21 : decode b_Mod_over 21 = .ok (.lload_n 1, 1) := by decide +kernel
theorem d_Mod_over_22 : decode b_Mod_over 22 = .ok (.lload_n 3, 1) := by decide +kernel
theorem d_Mod_over_23 : decode b_Mod_over 23 = .ok (.ldiv, 1) := by decide +kernel
theorem d_Mod_over_24 : decode b_Mod_over 24 = .ok (.goto 4, 3) := by decide +kernel
theorem d_Mod_over_27 : decode b_Mod_over 27 = .ok (.lconst 0, 1) := by decide +kernel
theorem d_Mod_over_28 : decode b_Mod_over 28 = .ok (.lreturn, 1) := by decide +kernel
theorem d_Mod_written_0 : decode b_Mod_written 0 = .ok (.aload_n 0, 1) := by decide +kernel
theorem d_Mod_written_1 : decode b_Mod_written 1 = .ok (.iconst 0, 1) := by decide +kernel
theorem d_Mod_written_2 : decode b_Mod_written 2 = .ok (.putfield 35, 3) := by decide +kernel
theorem d_Mod_written_5 : decode b_Mod_written 5 = .ok (.iload_n 1, 1) := by decide +kernel
theorem d_Mod_written_6 : decode b_Mod_written 6 = .ok (.ifCond .le 8, 3) := by decide +kernel
theorem d_Mod_written_9 : decode b_Mod_written 9 = .ok (.iload_n 1, 1) := by decide +kernel
theorem d_Mod_written_10 : decode b_Mod_written 10 = .ok (.i2l, 1) := by decide +kernel
theorem d_Mod_written_11 : decode b_Mod_written 11 = .ok (.goto 7, 3) := by decide +kernel
theorem d_Mod_written_14 : decode b_Mod_written 14 = .ok (.iload_n 1, 1) := by decide +kernel
theorem d_Mod_written_15 : decode b_Mod_written 15 = .ok (.i2l, 1) := by decide +kernel
theorem d_Mod_written_16 : decode b_Mod_written 16 = .ok (.lconst 1, 1) := by decide +kernel
theorem d_Mod_written_17 : decode b_Mod_written 17 = .ok (.lsub, 1) := by decide +kernel
theorem d_Mod_written_18 : decode b_Mod_written 18 = .ok (.lreturn, 1) := by decide +kernel
theorem d_Mod_rest_2_0 : decode b_Mod_rest_2 0 = .ok (.iload_n 0, 1) := by decide +kernel
theorem d_Mod_rest_2_1 : decode b_Mod_rest_2 1 = .ok (.iload_n 1, 1) := by decide +kernel
theorem d_Mod_rest_2_2 : decode b_Mod_rest_2 2 = .ok (.irem, 1) := by decide +kernel
theorem d_Mod_rest_2_3 : decode b_Mod_rest_2 3 = .ok (.istore_n 2, 1) := by decide +kernel
theorem d_Mod_rest_2_4 : decode b_Mod_rest_2 4 = .ok (.iload_n 2, 1) := by decide +kernel
theorem d_Mod_rest_2_5 : decode b_Mod_rest_2 5 = .ok (.ifCond .ge 9, 3) := by decide +kernel
theorem d_Mod_rest_2_8 : decode b_Mod_rest_2 8 = .ok (.iload_n 2, 1) := by decide +kernel
theorem d_Mod_rest_2_9 : decode b_Mod_rest_2 9 = .ok (.iload_n 1, 1) := by decide +kernel
theorem d_Mod_rest_2_10 : decode b_Mod_rest_2 10 = .ok (.iadd, 1) := by decide +kernel
theorem d_Mod_rest_2_11 : decode b_Mod_rest_2 11 = .ok (.goto 4, 3) := by decide +kernel
theorem d_Mod_rest_2_14 : decode b_Mod_rest_2 14 = .ok (.iload_n 2, 1) := by decide +kernel
theorem d_Mod_rest_2_15 : decode b_Mod_rest_2 15 = .ok (.ireturn, 1) := by decide +kernel
theorem d_Mod_isLeap_0 : decode b_Mod_isLeap 0 = .ok (.iload_n 0, 1) := by decide +kernel
theorem d_Mod_isLeap_1 : decode b_Mod_isLeap 1 = .ok (.iconst 2, 1) := by decide +kernel
theorem d_Mod_isLeap_2 : decode b_Mod_isLeap 2 = .ok (.if_icmp .ge 41, 3) := by decide +kernel
theorem d_Mod_isLeap_5 : decode b_Mod_isLeap 5 = .ok (.iload_n 1, 1) := by decide +kernel
theorem d_Mod_isLeap_6 : decode b_Mod_isLeap 6 = .ok (.iconst 4, 1) := by decide +kernel
theorem d_Mod_isLeap_7 : decode b_Mod_isLeap 7 = .ok (.invokestatic 110, 3) := by decide +kernel
theorem d_Mod_isLeap_10 : decode b_Mod_isLeap 10 = .ok (.ifCond .ne 31, 3) := by decide +kernel
theorem d_Mod_isLeap_13 : decode b_Mod_isLeap 13 = .ok (.iload_n 0, 1) := by decide +kernel
theorem d_Mod_isLeap_14 : decode b_Mod_isLeap 14 = .ok (.iconst 1, 1) := by decide +kernel
theorem d_Mod_isLeap_15 : decode b_Mod_isLeap 15 = .ok (.if_icmp .eq 22, 3) := by decide +kernel
theorem d_Mod_isLeap_18 : decode b_Mod_isLeap 18 = .ok (.iload_n 1, 1) := by decide +kernel
theorem d_Mod_isLeap_19 : decode b_Mod_isLeap 19 = .ok (.bipush 100, 2) := by decide +kernel
theorem d_Mod_isLeap_21 : decode b_Mod_isLeap 21 = .ok (.invokestatic 110, 3) := by decide +kernel
theorem d_Mod_isLeap_24 : decode b_Mod_isLeap 24 = .ok (.ifCond .ne 13, 3) := by decide +kernel
theorem d_Mod_isLeap_27 : decode b_Mod_isLeap 27 = .ok (.iload_n 1, 1) := by decide +kernel
theorem d_Mod_isLeap_28 : decode b_Mod_isLeap 28 = .ok (.sipush 400, 3) := by decide +kernel
theorem d_Mod_isLeap_31 : decode b_Mod_isLeap 31 = .ok (.invokestatic 110, 3) := by decide +kernel
theorem d_Mod_isLeap_34 : decode b_Mod_isLeap 34 = .ok (.ifCond .ne 7, 3) := by decide +kernel
theorem d_Mod_isLeap_37 : decode b_Mod_isLeap 37 = .ok (.iconst 1, 1) := by decide +kernel
theorem d_Mod_isLeap_38 : decode b_Mod_isLeap 38 = .ok (.goto 4, 3) := by decide +kernel
theorem d_Mod_isLeap_41 : decode b_Mod_isLeap 41 = .ok (.iconst 0, 1) := by decide +kernel
theorem d_Mod_isLeap_42 : decode b_Mod_isLeap 42 = .ok (.ireturn, 1) := by decide +kernel
theorem d_Mod_isLeap_43 : decode b_Mod_isLeap 43 = .ok (.iload_n 1, 1) := by decide +kernel
theorem d_Mod_isLeap_44 : decode b_Mod_isLeap 44 = .ok (.bipush 30, 2) := by decide +kernel
theorem d_Mod_isLeap_46 : decode b_Mod_isLeap 46 = .ok (.invokestatic 110, 3) := by decide +kernel
theorem d_Mod_isLeap_49 : decode b_Mod_isLeap 49 = .ok (.istore_n 2, 1) := by decide +kernel
theorem d_Mod_isLeap_50 : decode b_Mod_isLeap 50 = .ok (.iload_n 0, 1) := by decide +kernel
theorem d_Mod_isLeap_51 : decode b_Mod_isLeap 51 = .ok (.iconst 2, 1) := by decide +kernel
theorem d_Mod_isLeap_52 : decode b_Mod_isLeap 52 = .ok (.if_icmp .ne 71, 3) := by decide +kernel
theorem d_Mod_isLeap_55 : decode b_Mod_isLeap 55 = .ok (.iload_n 2, 1) := by decide +kernel
theorem d_Mod_isLeap_56 : decode b_Mod_isLeap 56 = .ok (.iconst 2, 1) := by decide +kernel
theorem d_Mod_isLeap_57 : decode b_Mod_isLeap 57 = .ok (.if_icmp .eq 62, 3) := by decide +kernel
theorem d_Mod_isLeap_60 : decode b_Mod_isLeap 60 = .ok (.iload_n 2, 1) := by decide +kernel
theorem d_Mod_isLeap_61 : decode b_Mod_isLeap 61 = .ok (.iconst 5, 1) := by decide +kernel
theorem d_Mod_isLeap_62 : decode b_Mod_isLeap 62 = .ok (.if_icmp .eq 57, 3) := by decide +kernel
theorem d_Mod_isLeap_65 : decode b_Mod_isLeap 65 = .ok (.iload_n 2, 1) := by decide +kernel
theorem d_Mod_isLeap_66 : decode b_Mod_isLeap 66 = .ok (.bipush 7, 2) := by decide +kernel
theorem d_Mod_isLeap_68 : decode b_Mod_isLeap 68 = .ok (.if_icmp .eq 51, 3) := by decide +kernel
theorem d_Mod_isLeap_71 : decode b_Mod_isLeap 71 = .ok (.iload_n 2, 1) := by decide +kernel
theorem d_Mod_isLeap_72 : decode b_Mod_isLeap 72 = .ok (.bipush 10, 2) := by decide +kernel
theorem d_Mod_isLeap_74 : decode b_Mod_isLeap 74 = .ok (.if_icmp .eq 45, 3) := by decide +kernel
theorem d_Mod_isLeap_77 : decode b_Mod_isLeap 77 = .ok (.iload_n 2, 1) := by decide +kernel
theorem d_Mod_isLeap_78 : decode b_Mod_isLeap 78 = .ok (.bipush 13, 2) := by decide +kernel
theorem d_Mod_isLeap_80 : decode b_Mod_isLeap 80 = .ok (.if_icmp .eq 39, 3) := by decide +kernel
theorem d_Mod_isLeap_83 : decode b_Mod_isLeap 83 = .ok (.iload_n 2, 1) := by decide +kernel
theorem d_Mod_isLeap_84 : decode b_Mod_isLeap 84 = .ok (.bipush 16, 2) := by decide +kernel
theorem d_Mod_isLeap_86 : decode b_Mod_isLeap 86 = .ok (.if_icmp .eq 33, 3) := by decide +kernel
theorem d_Mod_isLeap_89 : decode b_Mod_isLeap 89 = .ok (.iload_n 2, 1) := by decide +kernel
theorem d_Mod_isLeap_90 : decode b_Mod_isLeap 90 = .ok (.bipush 18, 2) := by decide +kernel
theorem d_Mod_isLeap_92 : decode b_Mod_isLeap 92 = .ok (.if_icmp .eq 27, 3) := by decide +kernel
theorem d_Mod_isLeap_95 : decode b_Mod_isLeap 95 = .ok (.iload_n 2, 1) := by decide +kernel
theorem d_Mod_isLeap_96 : decode b_Mod_isLeap 96 = .ok (.bipush 21, 2) := by decide +kernel
theorem d_Mod_isLeap_98 : decode b_Mod_isLeap 98 = .ok (.if_icmp .eq 21, 3) := by decide +kernel
theorem d_Mod_isLeap_101 : decode b_Mod_isLeap 101 = .ok (.iload_n 2, 1) := by decide +kernel
theorem d_Mod_isLeap_102 : decode b_Mod_isLeap 102 = .ok (.bipush 24, 2) := by decide +kernel
theorem d_Mod_isLeap_104 : decode b_Mod_isLeap 104 = .ok (.if_icmp .eq 15, 3) := by decide +kernel
theorem d_Mod_isLeap_107 : decode b_Mod_isLeap 107 = .ok (.iload_n 2, 1) := by decide +kernel
theorem d_Mod_isLeap_108 : decode b_Mod_isLeap 108 = .ok (.bipush 26, 2) := by decide +kernel
theorem d_Mod_isLeap_110 : decode b_Mod_isLeap 110 = .ok (.if_icmp .eq 9, 3) := by decide +kernel
theorem d_Mod_isLeap_113 : decode b_Mod_isLeap 113 = .ok (.iload_n 2, 1) := by decide +kernel
theorem d_Mod_isLeap_114 : decode b_Mod_isLeap 114 = .ok (.bipush 29, 2) := by decide +kernel
theorem d_Mod_isLeap_116 : decode b_Mod_isLeap 116 = .ok (.if_icmp .ne 7, 3) := by decide +kernel
theorem d_Mod_isLeap_119 : decode b_Mod_isLeap 119 = .ok (.iconst 1, 1) := by decide +kernel
theorem d_Mod_isLeap_120 : decode b_Mod_isLeap 120 = .ok (.goto 4, 3) := by decide +kernel
theorem d_Mod_isLeap_123 : decode b_Mod_isLeap 123 = .ok (.iconst 0, 1) := by decide +kernel
theorem d_Mod_isLeap_124 : decode b_Mod_isLeap 124 = .ok (.ireturn, 1) := by decide +kernel
theorem d_Mod_yearDays_0 : decode b_Mod_yearDays 0 = .ok (.iload_n 0, 1) := by decide +kernel
theorem d_Mod_yearDays_1 : decode b_Mod_yearDays 1 = .ok (.iconst 2, 1) := by decide +kernel
theorem d_Mod_yearDays_2 : decode b_Mod_yearDays 2 = .ok (.if_icmp .ne 9, 3) := by decide +kernel
theorem d_Mod_yearDays_5 : decode b_Mod_yearDays 5 = .ok (.sipush 354, 3) := by decide +kernel
theorem d_Mod_yearDays_8 : decode b_Mod_yearDays 8 = .ok (.goto 6, 3) := by decide +kernel
theorem d_Mod_yearDays_11 : decode b_Mod_yearDays 11 = .ok (.sipush 365, 3) := by decide +kernel
theorem d_Mod_yearDays_14 : decode b_Mod_yearDays 14 = .ok (.iload_n 0, 1) := by decide +kernel
theorem d_Mod_yearDays_15 : decode b_Mod_yearDays 15 = .ok (.iload_n 1, 1) := by decide +kernel
theorem d_Mod_yearDays_16 : decode b_Mod_yearDays 16 = .ok (.invokestatic 113, 3) := by decide +kernel
theorem d_Mod_yearDays_19 : decode b_Mod_yearDays 19 = .ok (.ifCond .eq 7, 3) := by decide +kernel
theorem d_Mod_yearDays_22 : decode b_Mod_yearDays 22 = .ok (.iconst 1, 1) := by decide +kernel
theorem d_Mod_yearDays_23 : decode b_Mod_yearDays 23 = .ok (.goto 4, 3) := by decide +kernel
theorem d_Mod_yearDays_26 : decode b_Mod_yearDays 26 = .ok (.iconst 0, 1) := by decide +kernel
theorem d_Mod_yearDays_27 : decode b_Mod_yearDays 27 = .ok (.iadd, 1) := by decide +kernel
theorem d_Mod_yearDays_28 : decode b_Mod_yearDays 28 = .ok (.ireturn, 1) := by decide +kernel
theorem d_Mod_months_0 : decode b_Mod_months 0 = .ok (.iload_n 0, 1) := by decide +kernel
theorem d_Mod_months_1 : decode b_Mod_months 1 = .ok (.iconst 3, 1) := by decide +kernel
theorem d_Mod_months_2 : decode b_Mod_months 2 = .ok (.if_icmp .ne 8, 3) := by decide +kernel
theorem d_Mod_months_5 : decode b_Mod_months 5 = .ok (.bipush 13, 2) := by decide +kernel
theorem d_Mod_months_7 : decode b_Mod_months 7 = .ok (.goto 5, 3) := by decide +kernel
theorem d_Mod_months_10 : decode b_Mod_months 10 = .ok (.bipush 12, 2) := by decide +kernel
theorem d_Mod_months_12 : decode b_Mod_months 12 = .ok (.ireturn, 1) := by decide +kernel
theorem d_Mod_monthDays_0 : decode b_Mod_monthDays 0 = .ok (.iload_n 0, 1) := by decide +kernel
theorem d_Mod_monthDays_1 : decode b_Mod_monthDays 1 = .ok (.iconst 3, 1) := by decide +kernel
theorem d_Mod_monthDays_2 : decode b_Mod_monthDays 2 = .ok (.if_icmp .ne 16, 3) := by decide +kernel
theorem d_Mod_monthDays_5 : decode b_Mod_monthDays 5 = .ok (.iload_n 2, 1) := by decide +kernel
theorem d_Mod_monthDays_6 : decode b_Mod_monthDays 6 = .ok (.bipush 13, 2) := by decide +kernel
theorem d_Mod_monthDays_8 : decode b_Mod_monthDays 8 = .ok (.if_icmp .ne 7, 3) := by decide +kernel
theorem d_Mod_monthDays_11 : decode b_Mod_monthDays 11 = .ok (.iconst 5, 1) := by decide +kernel
theorem d_Mod_monthDays_12 : decode b_Mod_monthDays 12 = .ok (.goto 5, 3) := by decide +kernel
theorem d_Mod_monthDays_15 : decode b_Mod_monthDays 15 = .ok (.bipush 30, 2) := by decide +kernel
theorem d_Mod_monthDays_17 : decode b_Mod_monthDays 17 = .ok (.ireturn, 1) := by decide +kernel
theorem d_Mod_monthDays_18 : decode b_Mod_monthDays 18 = .ok (.iload_n 0, 1) := by decide +kernel
theorem d_Mod_monthDays_19 : decode b_Mod_monthDays 19 = .ok (.iconst 2, 1) := by decide +kernel
theorem d_Mod_monthDays_20 : decode b_Mod_monthDays 20 = .ok (.if_icmp .ne 37, 3) := by decide +kernel
theorem d_Mod_monthDays_23 : decode b_Mod_monthDays 23 = .ok (.iload_n 2, 1) := by decide +kernel
theorem d_Mod_monthDays_24 : decode b_Mod_monthDays 24 = .ok (.bipush 12, 2) := by decide +kernel
theorem d_Mod_monthDays_26 : decode b_Mod_monthDays 26 = .ok (.if_icmp .ne 16, 3) := by decide +kernel
theorem d_Mod_monthDays_29 : decode b_Mod_monthDays 29 = .ok (.iconst 2, 1) := by decide +kernel
theorem d_Mod_monthDays_30 : decode b_Mod_monthDays 30 = .ok (.iload_n 1, 1) := by decide +kernel
theorem d_Mod_monthDays_31 : decode b_Mod_monthDays 31 = .ok (.invokestatic 113, 3) := by decide +kernel
theorem d_Mod_monthDays_34 : decode b_Mod_monthDays 34 = .ok (.ifCond .eq 8, 3) := by decide +kernel
theorem d_Mod_monthDays_37 : decode b_Mod_monthDays 37 = .ok (.bipush 30, 2) := by decide +kernel
theorem d_Mod_monthDays_39 : decode b_Mod_monthDays 39 = .ok (.goto 17, 3) := by decide +kernel
theorem d_Mod_monthDays_42 : decode b_Mod_monthDays 42 = .ok (.iload_n 2, 1) := by decide +kernel
theorem d_Mod_monthDays_43 : decode b_Mod_monthDays 43 = .ok (.iconst 2, 1) := by decide +kernel
theorem d_Mod_monthDays_44 : decode b_Mod_monthDays 44 = .ok (.irem, 1) := by decide +kernel
theorem d_Mod_monthDays_45 : decode b_Mod_monthDays 45 = .ok (.iconst 1, 1) := by decide +kernel
theorem d_Mod_monthDays_46 : decode b_Mod_monthDays 46 = .ok (.if_icmp .ne 8, 3) := by decide +kernel
theorem d_Mod_monthDays_49 : decode b_Mod_monthDays 49 = .ok (.bipush 30, 2) := by decide +kernel
theorem d_Mod_monthDays_51 : decode b_Mod_monthDays 51 = .ok (.goto 5, 3) := by decide +kernel
theorem d_Mod_monthDays_54 : decode b_Mod_monthDays 54 = .ok (.bipush 29, 2) := by decide +kernel
theorem d_Mod_monthDays_56 : decode b_Mod_monthDays 56 = .ok (.ireturn, 1) := by decide +kernel
theorem d_Mod_monthDays_57 : decode b_Mod_monthDays 57 = .ok (.iload_n 2, 1) := by decide +kernel
theorem d_Mod_monthDays_58 : decode b_Mod_monthDays 58 = .ok (.iconst 2, 1) := by decide +kernel
theorem d_Mod_monthDays_59 : decode b_Mod_monthDays 59 = .ok (.if_icmp .ne 19, 3) := by decide +kernel
theorem d_Mod_monthDays_62 : decode b_Mod_monthDays 62 = .ok (.iload_n 0, 1) := by decide +kernel
theorem d_Mod_monthDays_63 : decode b_Mod_monthDays 63 = .ok (.iload_n 1, 1) := by decide +kernel
theorem d_Mod_monthDays_64 : decode b_Mod_monthDays 64 = .ok (.invokestatic 113, 3) := by decide +kernel
theorem d_Mod_monthDays_67 : decode b_Mod_monthDays 67 = .ok (.ifCond .eq 8, 3) := by decide +kernel
theorem d_Mod_monthDays_70 : decode b_Mod_monthDays 70 = .ok (.bipush 29, 2) := by decide +kernel
theorem d_Mod_monthDays_72 : decode b_Mod_monthDays 72 = .ok (.goto 5, 3) := by decide +kernel
theorem d_Mod_monthDays_75 : decode b_Mod_monthDays 75 = .ok (.bipush 28, 2) := by decide +kernel
theorem d_Mod_monthDays_77 : decode b_Mod_monthDays 77 = .ok (.ireturn, 1) := by decide +kernel
theorem d_Mod_monthDays_78 : decode b_Mod_monthDays 78 = .ok (.iload_n 2, 1) := by decide +kernel
theorem d_Mod_monthDays_79 : decode b_Mod_monthDays 79 = .ok (.iconst 4, 1) := by decide +kernel
theorem d_Mod_monthDays_80 : decode b_Mod_monthDays 80 = .ok (.if_icmp .eq 21, 3) := by decide +kernel
theorem d_Mod_monthDays_83 : decode b_Mod_monthDays 83 = .ok (.iload_n 2, 1) := by decide +kernel
theorem d_Mod_monthDays_84 : decode b_Mod_monthDays 84 = .ok (.bipush 6, 2) := by decide +kernel
theorem d_Mod_monthDays_86 : decode b_Mod_monthDays 86 = .ok (.if_icmp .eq 15, 3) := by decide +kernel
theorem d_Mod_monthDays_89 : decode b_Mod_monthDays 89 = .ok (.iload_n 2, 1) := by decide +kernel
theorem d_Mod_monthDays_90 : decode b_Mod_monthDays 90 = .ok (.bipush 9, 2) := by decide +kernel
theorem d_Mod_monthDays_92 : decode b_Mod_monthDays 92 = .ok (.if_icmp .eq 9, 3) := by decide +kernel
theorem d_Mod_monthDays_95 : decode b_Mod_monthDays 95 = .ok (.iload_n 2, 1) := by decide +kernel
theorem d_Mod_monthDays_96 : decode b_Mod_monthDays 96 = .ok (.bipush 11, 2) := by decide +kernel
theorem d_Mod_monthDays_98 : decode b_Mod_monthDays 98 = .ok (.if_icmp .ne 8, 3) := by decide +kernel
theorem d_Mod_monthDays_101 : decode b_Mod_monthDays 101 = .ok (.bipush 30, 2) := by decide +kernel
theorem d_Mod_monthDays_103 : decode b_Mod_monthDays 103 = .ok (.goto 5, 3) := by decide +kernel
theorem d_Mod_monthDays_106 : decode b_Mod_monthDays 106 = .ok (.bipush 31, 2) := by decide +kernel
theorem d_Mod_monthDays_108 : decode b_Mod_monthDays 108 = .ok (.ireturn, 1) := by decide +kernel
theorem d_Mod_cycle_0 : decode b_Mod_cycle 0 = .ok (.iload_n 0, 1) := by decide +kernel
theorem d_Mod_cycle_1 : decode b_Mod_cycle 1 = .ok (.ifCond .ne 9, 3) := by decide +kernel
theorem d_Mod_cycle_4 : decode b_Mod_cycle 4 = .ok (.sipush 400, 3) := by decide +kernel
theorem d_Mod_cycle_7 : decode b_Mod_cycle 7 = .ok (.goto 23, 3) := by decide +kernel
theorem d_Mod_cycle_10 : decode b_Mod_cycle 10 = .ok (.iload_n 0, 1) := by decide +kernel
theorem d_Mod_cycle_11 : decode b_Mod_cycle 11 = .ok (.iconst 1, 1) := by decide +kernel
theorem d_Mod_cycle_12 : decode b_Mod_cycle 12 = .ok (.if_icmp .ne 7, 3) := by decide +kernel
theorem d_Mod_cycle_15 : decode b_Mod_cycle 15 = .ok (.iconst 4, 1) := by decide +kernel
theorem d_Mod_cycle_16 : decode b_Mod_cycle 16 = .ok (.goto 14, 3) := by decide +kernel
theorem d_Mod_cycle_19 : decode b_Mod_cycle 19 = .ok (.iload_n 0, 1) := by decide +kernel
theorem d_Mod_cycle_20 : decode b_Mod_cycle 20 = .ok (.iconst 2, 1) := by decide +kernel
theorem d_Mod_cycle_21 : decode b_Mod_cycle 21 = .ok (.if_icmp .ne 8, 3) := by decide +kernel
theorem d_Mod_cycle_24 : decode b_Mod_cycle 24 = .ok (.bipush 30, 2) := by decide +kernel
theorem d_Mod_cycle_26 : decode b_Mod_cycle 26 = .ok (.goto 4, 3) := by decide +kernel
theorem d_Mod_cycle_29 : decode b_Mod_cycle 29 = .ok (.iconst 1, 1) := by decide +kernel
theorem d_Mod_cycle_30 : decode b_Mod_cycle 30 = .ok (.ireturn, 1) := by decide +kernel
theorem d_Mod_cycleDays_0 : decode b_Mod_cycleDays 0 = .ok (.iconst 0, 1) := by decide +kernel
theorem d_Mod_cycleDays_1 : decode b_Mod_cycleDays 1 = .ok (.istore_n 1, 1) := by decide +kernel
theorem d_Mod_cycleDays_2 : decode b_Mod_cycleDays 2 = .ok (.iconst 1, 1) := by decide +kernel
theorem d_Mod_cycleDays_3 : decode b_Mod_cycleDays 3 = .ok (.istore_n 2, 1) := by decide +kernel
theorem d_Mod_cycleDays_4 : decode b_Mod_cycleDays 4 = .ok (.iload_n 2, 1) := by decide +kernel
theorem d_Mod_cycleDays_5 : decode b_Mod_cycleDays 5 = .ok (.iload_n 0, 1) := by decide +kernel
theorem d_Mod_cycleDays_6 : decode b_Mod_cycleDays 6 = .ok (.invokestatic 116, 3) := by decide +kernel
theorem d_Mod_cycleDays_9 : decode b_Mod_cycleDays 9 = .ok (.if_icmp .gt 17, 3) := by decide +kernel
theorem d_Mod_cycleDays_12 : decode b_Mod_cycleDays 12 = .ok (.iload_n 1, 1) := by decide +kernel
theorem d_Mod_cycleDays_13 : decode b_Mod_cycleDays 13 = .ok (.iload_n 0, 1) := by decide +kernel
theorem d_Mod_cycleDays_14 : decode b_Mod_cycleDays 14 = .ok (.iload_n 2, 1) := by decide +kernel
theorem d_Mod_cycleDays_15 : decode b_Mod_cycleDays 15 = .ok (.invokestatic 120, 3) := by decide +kernel
theorem d_Mod_cycleDays_18 : decode b_Mod_cycleDays 18 = .ok (.iadd, 1) := by decide +kernel
theorem d_Mod_cycleDays_19 : decode b_Mod_cycleDays 19 = .ok (.istore_n 1, 1) := by decide +kernel
theorem d_Mod_cycleDays_20 : decode b_Mod_cycleDays 20 = .ok (.iinc 2 1, 3) := by decide +kernel
end
section
theorem d_Mod_cycleDays_23 : decode b_Mod_cycleDays 23 = .ok (.goto (-19), 3) := by decide +kernel
theorem d_Mod_cycleDays_26 : decode b_Mod_cycleDays 26 = .ok (.iload_n 1, 1) := by decide +kernel
theorem d_Mod_cycleDays_27 : decode b_Mod_cycleDays 27 = .ok (.ireturn, 1) := by decide +kernel
theorem d_Mod_origin_0 : decode b_Mod_origin 0 = .ok (.iload_n 0, 1) := by decide +kernel
theorem d_Mod_origin_1 : decode b_Mod_origin 1 = .ok (.ifCond .ne 5, 3) := by decide +kernel
theorem d_Mod_origin_4 : decode b_Mod_origin 4 = .ok (.iconst 0, 1) := by decide +kernel
theorem d_Mod_origin_5 : decode b_Mod_origin 5 = .ok (.ireturn, 1) := by decide +kernel
theorem d_Mod_origin_6 : decode b_Mod_origin 6 = .ok (.iload_n 0, 1) := by decide +kernel
theorem d_Mod_origin_7 : decode b_Mod_origin 7 = .ok (.iconst 1, 1) := by decide +kernel
theorem d_Mod_origin_8 : decode b_Mod_origin 8 = .ok (.if_icmp .ne 6, 3) := by decide +kernel
theorem d_Mod_origin_11 : decode b_Mod_origin 11 = .ok (.bipush (-2), 2) := by decide +kernel
theorem d_Mod_origin_13 : decode b_Mod_origin 13 = .ok (.ireturn, 1) := by decide +kernel
theorem d_Mod_origin_14 : decode b_Mod_origin 14 = .ok (.iload_n 0, 1) := by decide +kernel
theorem d_Mod_origin_15 : decode b_Mod_origin 15 = .ok (.iconst 2, 1) := by decide +kernel
theorem d_Mod_origin_16 : decode b_Mod_origin 16 = .ok (.if_icmp .ne 17, 3) := by decide +kernel
theorem d_Mod_origin_19 : decode b_Mod_origin 19 = .ok (.iconst 1, 1) := by decide +kernel
theorem d_Mod_origin_20 : decode b_Mod_origin 20 = .ok (.sipush 622, 3) := by decide +kernel
theorem d_Mod_origin_23 : decode b_Mod_origin 23 = .ok (.invokestatic 123, 3) := by decide +kernel
theorem d_Mod_origin_26 : decode b_Mod_origin 26 = .ok (.sipush 196, 3) := by decide +kernel
theorem d_Mod_origin_29 : decode b_Mod_origin 29 = .ok (.iadd, 1) := by decide +kernel
theorem d_Mod_origin_30 : decode b_Mod_origin 30 = .ok (.goto 13, 3) := by decide +kernel
theorem d_Mod_origin_33 : decode b_Mod_origin 33 = .ok (.iconst 1, 1) := by decide +kernel
theorem d_Mod_origin_34 : decode b_Mod_origin 34 = .ok (.sipush (-746), 3) := by decide +kernel
theorem d_Mod_origin_37 : decode b_Mod_origin 37 = .ok (.invokestatic 123, 3) := by decide +kernel
theorem d_Mod_origin_40 : decode b_Mod_origin 40 = .ok (.bipush 56, 2) := by decide +kernel
theorem d_Mod_origin_42 : decode b_Mod_origin 42 = .ok (.iadd, 1) := by decide +kernel
theorem d_Mod_origin_43 : decode b_Mod_origin 43 = .ok (.ireturn, 1) := by decide +kernel
theorem d_Mod_behind_0 : decode b_Mod_behind 0 = .ok (.iconst 0, 1) := by decide +kernel
theorem d_Mod_behind_1 : decode b_Mod_behind 1 = .ok (.istore_n 2, 1) := by decide +kernel
theorem d_Mod_behind_2 : decode b_Mod_behind 2 = .ok (.iload_n 1, 1) := by decide +kernel
theorem d_Mod_behind_3 : decode b_Mod_behind 3 = .ok (.istore_n 3, 1) := by decide +kernel
theorem d_Mod_behind_4 : decode b_Mod_behind 4 = .ok (.iload_n 3, 1) := by decide +kernel
theorem d_Mod_behind_5 : decode b_Mod_behind 5 = .ok (.iconst 1, 1) := by decide +kernel
theorem d_Mod_behind_6 : decode b_Mod_behind 6 = .ok (.if_icmp .ge 16, 3) := by decide +kernel
theorem d_Mod_behind_9 : decode b_Mod_behind 9 = .ok (.iload_n 3, 1) := by decide +kernel
theorem d_Mod_behind_10 : decode b_Mod_behind 10 = .ok (.iload_n 0, 1) := by decide +kernel
theorem d_Mod_behind_11 : decode b_Mod_behind 11 = .ok (.invokestatic 116, 3) := by decide +kernel
theorem d_Mod_behind_14 : decode b_Mod_behind 14 = .ok (.iadd, 1) := by decide +kernel
theorem d_Mod_behind_15 : decode b_Mod_behind 15 = .ok (.istore_n 3, 1) := by decide +kernel
theorem d_Mod_behind_16 : decode b_Mod_behind 16 = .ok (.iinc 2 (-1), 3) := by decide +kernel
theorem d_Mod_behind_19 : decode b_Mod_behind 19 = .ok (.goto (-15), 3) := by decide +kernel
theorem d_Mod_behind_22 : decode b_Mod_behind 22 = .ok (.iload_n 3, 1) := by decide +kernel
theorem d_Mod_behind_23 : decode b_Mod_behind 23 = .ok (.iload_n 0, 1) := by decide +kernel
theorem d_Mod_behind_24 : decode b_Mod_behind 24 = .ok (.invokestatic 116, 3) := by decide +kernel
theorem d_Mod_behind_27 : decode b_Mod_behind 27 = .ok (.if_icmp .le 16, 3) := by decide +kernel
theorem d_Mod_behind_30 : decode b_Mod_behind 30 = .ok (.iload_n 3, 1) := by decide +kernel
theorem d_Mod_behind_31 : decode b_Mod_behind 31 = .ok (.iload_n 0, 1) := by decide +kernel
theorem d_Mod_behind_32 : decode b_Mod_behind 32 = .ok (.invokestatic 116, 3) := by decide +kernel
theorem d_Mod_behind_35 : decode b_Mod_behind 35 = .ok (.isub, 1) := by decide +kernel
theorem d_Mod_behind_36 : decode b_Mod_behind 36 = .ok (.istore_n 3, 1) := by decide +kernel
theorem d_Mod_behind_37 : decode b_Mod_behind 37 = .ok (.iinc 2 1, 3) := by decide +kernel
theorem d_Mod_behind_40 : decode b_Mod_behind 40 = .ok (.goto (-18), 3) := by decide +kernel
theorem d_Mod_behind_43 : decode b_Mod_behind 43 = .ok (.iload_n 2, 1) := by decide +kernel
theorem d_Mod_behind_44 : decode b_Mod_behind 44 = .ok (.iload_n 0, 1) := by decide +kernel
theorem d_Mod_behind_45 : decode b_Mod_behind 45 = .ok (.invokestatic 126, 3) := by decide +kernel
theorem d_Mod_behind_48 : decode b_Mod_behind 48 = .ok (.imul, 1) := by decide +kernel
theorem d_Mod_behind_49 : decode b_Mod_behind 49 = .ok (.istore 4, 2) := by decide +kernel
theorem d_Mod_behind_51 : decode b_Mod_behind 51 = .ok (.iconst 1, 1) := by decide +kernel
theorem d_Mod_behind_52 : decode b_Mod_behind 52 = .ok (.istore 5, 2) := by decide +kernel
theorem d_Mod_behind_54 : decode b_Mod_behind 54 = .ok (.iload 5, 2) := by decide +kernel
theorem d_Mod_behind_56 : decode b_Mod_behind 56 = .ok (.iload_n 3, 1) := by decide +kernel
theorem d_Mod_behind_57 : decode b_Mod_behind 57 = .ok (.if_icmp .ge 20, 3) := by decide +kernel
theorem d_Mod_behind_60 : decode b_Mod_behind 60 = .ok (.iload 4, 2) := by decide +kernel
theorem d_Mod_behind_62 : decode b_Mod_behind 62 = .ok (.iload_n 0, 1) := by decide +kernel
theorem d_Mod_behind_63 : decode b_Mod_behind 63 = .ok (.iload 5, 2) := by decide +kernel
theorem d_Mod_behind_65 : decode b_Mod_behind 65 = .ok (.invokestatic 120, 3) := by decide +kernel
theorem d_Mod_behind_68 : decode b_Mod_behind 68 = .ok (.iadd, 1) := by decide +kernel
theorem d_Mod_behind_69 : decode b_Mod_behind 69 = .ok (.istore 4, 2) := by decide +kernel
theorem d_Mod_behind_71 : decode b_Mod_behind 71 = .ok (.iinc 5 1, 3) := by decide +kernel
theorem d_Mod_behind_74 : decode b_Mod_behind 74 = .ok (.goto (-20), 3) := by decide +kernel
theorem d_Mod_behind_77 : decode b_Mod_behind 77 = .ok (.iload 4, 2) := by decide +kernel
theorem d_Mod_behind_79 : decode b_Mod_behind 79 = .ok (.ireturn, 1) := by decide +kernel
theorem d_Mod_firstOf_0 : decode b_Mod_firstOf 0 = .ok (.iload_n 0, 1) := by decide +kernel
theorem d_Mod_firstOf_1 : decode b_Mod_firstOf 1 = .ok (.iconst 1, 1) := by decide +kernel
theorem d_Mod_firstOf_2 : decode b_Mod_firstOf 2 = .ok (.if_icmp .ne 13, 3) := by decide +kernel
theorem d_Mod_firstOf_5 : decode b_Mod_firstOf 5 = .ok (.iconst 1, 1) := by decide +kernel
theorem d_Mod_firstOf_6 : decode b_Mod_firstOf 6 = .ok (.iload_n 1, 1) := by decide +kernel
theorem d_Mod_firstOf_7 : decode b_Mod_firstOf 7 = .ok (.invokestatic 129, 3) := by decide +kernel
theorem d_Mod_firstOf_10 : decode b_Mod_firstOf 10 = .ok (.iconst 2, 1) := by decide +kernel
theorem d_Mod_firstOf_11 : decode b_Mod_firstOf 11 = .ok (.isub, 1) := by decide +kernel
theorem d_Mod_firstOf_12 : decode b_Mod_firstOf 12 = .ok (.goto 8, 3) := by decide +kernel
theorem d_Mod_firstOf_15 : decode b_Mod_firstOf 15 = .ok (.iconst 0, 1) := by decide +kernel
theorem d_Mod_firstOf_16 : decode b_Mod_firstOf 16 = .ok (.iload_n 1, 1) := by decide +kernel
theorem d_Mod_firstOf_17 : decode b_Mod_firstOf 17 = .ok (.invokestatic 129, 3) := by decide +kernel
theorem d_Mod_firstOf_20 : decode b_Mod_firstOf 20 = .ok (.ireturn, 1) := by decide +kernel
theorem d_Mod_day_0 : decode b_Mod_day 0 = .ok (.iload_n 1, 1) := by decide +kernel
theorem d_Mod_day_1 : decode b_Mod_day 1 = .ok (.iconst 0, 1) := by decide +kernel
theorem d_Mod_day_2 : decode b_Mod_day 2 = .ok (.iconst 3, 1) := by decide +kernel
theorem d_Mod_day_3 : decode b_Mod_day 3 = .ok (.invokestatic 46, 3) := by decide +kernel
theorem d_Mod_day_6 : decode b_Mod_day 6 = .ok (.istore 5, 2) := by decide +kernel
theorem d_Mod_day_8 : decode b_Mod_day 8 = .ok (.iload 5, 2) := by decide +kernel
theorem d_Mod_day_10 : decode b_Mod_day 10 = .ok (.ifCond .eq 50, 3) := by decide +kernel
theorem d_Mod_day_13 : decode b_Mod_day 13 = .ok (.iload_n 2, 1) := by decide +kernel
theorem d_Mod_day_14 : decode b_Mod_day 14 = .ok (.sipush (-9999), 3) := by decide +kernel
theorem d_Mod_day_17 : decode b_Mod_day 17 = .ok (.sipush 9999, 3) := by decide +kernel
theorem d_Mod_day_20 : decode b_Mod_day 20 = .ok (.invokestatic 46, 3) := by decide +kernel
theorem d_Mod_day_23 : decode b_Mod_day 23 = .ok (.ifCond .eq 37, 3) := by decide +kernel
theorem d_Mod_day_26 : decode b_Mod_day 26 = .ok (.iload_n 3, 1) := by decide +kernel
theorem d_Mod_day_27 : decode b_Mod_day 27 = .ok (.iconst 1, 1) := by decide +kernel
theorem d_Mod_day_28 : decode b_Mod_day 28 = .ok (.if_icmp .lt 32, 3) := by decide +kernel
theorem d_Mod_day_31 : decode b_Mod_day 31 = .ok (.iload_n 3, 1) := by decide +kernel
theorem d_Mod_day_32 : decode b_Mod_day 32 = .ok (.iload_n 1, 1) := by decide +kernel
theorem d_Mod_day_33 : decode b_Mod_day 33 = .ok (.invokestatic 132, 3) := by decide +kernel
theorem d_Mod_day_36 : decode b_Mod_day 36 = .ok (.if_icmp .gt 24, 3) := by decide +kernel
theorem d_Mod_day_39 : decode b_Mod_day 39 = .ok (.iload 4, 2) := by decide +kernel
theorem d_Mod_day_41 : decode b_Mod_day 41 = .ok (.iconst 1, 1) := by decide +kernel
theorem d_Mod_day_42 : decode b_Mod_day 42 = .ok (.if_icmp .lt 18, 3) := by decide +kernel
theorem d_Mod_day_45 : decode b_Mod_day 45 = .ok (.iload 4, 2) := by decide +kernel
theorem d_Mod_day_47 : decode b_Mod_day 47 = .ok (.iload_n 1, 1) := by decide +kernel
theorem d_Mod_day_48 : decode b_Mod_day 48 = .ok (.iload_n 2, 1) := by decide +kernel
theorem d_Mod_day_49 : decode b_Mod_day 49 = .ok (.iload_n 3, 1) := by decide +kernel
theorem d_Mod_day_50 : decode b_Mod_day 50 = .ok (.invokestatic 135, 3) := by decide +kernel
theorem d_Mod_day_53 : decode b_Mod_day 53 = .ok (.if_icmp .gt 7, 3) := by decide +kernel
theorem d_Mod_day_56 : decode b_Mod_day 56 = .ok (.iconst 1, 1) := by decide +kernel
theorem d_Mod_day_57 : decode b_Mod_day 57 = .ok (.goto 4, 3) := by decide +kernel
theorem d_Mod_day_60 : decode b_Mod_day 60 = .ok (.iconst 0, 1) := by decide +kernel
theorem d_Mod_day_61 : decode b_Mod_day 61 = .ok (.istore 6, 2) := by decide +kernel
theorem d_Mod_day_63 : decode b_Mod_day 63 = .ok (.aload_n 0, 1) := by decide +kernel
theorem d_Mod_day_64 : decode b_Mod_day 64 = .ok (.iload 5, 2) := by decide +kernel
theorem d_Mod_day_66 : decode b_Mod_day 66 = .ok (.iload 6, 2) := by decide +kernel
theorem d_Mod_day_68 : decode b_Mod_day 68 = .ok (.iconst 1, 1) := by decide +kernel
theorem d_Mod_day_69 : decode b_Mod_day 69 = .ok (.iconst 1, 1) := by decide +kernel
theorem d_Mod_day_70 : decode b_Mod_day 70 = .ok (.invokevirtual 50, 3) := by decide +kernel
theorem d_Mod_day_73 : decode b_Mod_day 73 = .ok (.ifCond .ne 5, 3) := by decide +kernel
theorem d_Mod_day_76 : decode b_Mod_day 76 = .ok (.iconst 0, 1) := by decide +kernel
theorem d_Mod_day_77 : decode b_Mod_day 77 = .ok (.ireturn, 1) := by decide +kernel
theorem d_Mod_day_78 : decode b_Mod_day 78 = .ok (.iload_n 1, 1) := by decide +kernel
theorem d_Mod_day_79 : decode b_Mod_day 79 = .ok (.invokestatic 139, 3) := by decide +kernel
theorem d_Mod_day_82 : decode b_Mod_day 82 = .ok (.iload_n 1, 1) := by decide +kernel
theorem d_Mod_day_83 : decode b_Mod_day 83 = .ok (.iload_n 2, 1) := by decide +kernel
theorem d_Mod_day_84 : decode b_Mod_day 84 = .ok (.invokestatic 129, 3) := by decide +kernel
theorem d_Mod_day_87 : decode b_Mod_day 87 = .ok (.iadd, 1) := by decide +kernel
theorem d_Mod_day_88 : decode b_Mod_day 88 = .ok (.iload 4, 2) := by decide +kernel
theorem d_Mod_day_90 : decode b_Mod_day 90 = .ok (.iadd, 1) := by decide +kernel
theorem d_Mod_day_91 : decode b_Mod_day 91 = .ok (.iconst 1, 1) := by decide +kernel
theorem d_Mod_day_92 : decode b_Mod_day 92 = .ok (.isub, 1) := by decide +kernel
theorem d_Mod_day_93 : decode b_Mod_day 93 = .ok (.istore 7, 2) := by decide +kernel
theorem d_Mod_day_95 : decode b_Mod_day 95 = .ok (.iconst 1, 1) := by decide +kernel
theorem d_Mod_day_96 : decode b_Mod_day 96 = .ok (.istore 8, 2) := by decide +kernel
theorem d_Mod_day_98 : decode b_Mod_day 98 = .ok (.iload 8, 2) := by decide +kernel
theorem d_Mod_day_100 : decode b_Mod_day 100 = .ok (.iload_n 3, 1) := by decide +kernel
theorem d_Mod_day_101 : decode b_Mod_day 101 = .ok (.if_icmp .ge 21, 3) := by decide +kernel
theorem d_Mod_day_104 : decode b_Mod_day 104 = .ok (.iload 7, 2) := by decide +kernel
theorem d_Mod_day_106 : decode b_Mod_day 106 = .ok (.iload_n 1, 1) := by decide +kernel
theorem d_Mod_day_107 : decode b_Mod_day 107 = .ok (.iload_n 2, 1) := by decide +kernel
theorem d_Mod_day_108 : decode b_Mod_day 108 = .ok (.iload 8, 2) := by decide +kernel
theorem d_Mod_day_110 : decode b_Mod_day 110 = .ok (.invokestatic 135, 3) := by decide +kernel
theorem d_Mod_day_113 : decode b_Mod_day 113 = .ok (.iadd, 1) := by decide +kernel
theorem d_Mod_day_114 : decode b_Mod_day 114 = .ok (.istore 7, 2) := by decide +kernel
theorem d_Mod_day_116 : decode b_Mod_day 116 = .ok (.iinc 8 1, 3) := by decide +kernel
theorem d_Mod_day_119 : decode b_Mod_day 119 = .ok (.goto (-21), 3) := by decide +kernel
theorem d_Mod_day_122 : decode b_Mod_day 122 = .ok (.iload 7, 2) := by decide +kernel
theorem d_Mod_day_124 : decode b_Mod_day 124 = .ok (.ireturn, 1) := by decide +kernel
theorem d_Mod_date_0 : decode b_Mod_date 0 = .ok (.aload_n 0, 1) := by decide +kernel
theorem d_Mod_date_1 : decode b_Mod_date 1 = .ok (.iload_n 1, 1) := by decide +kernel
theorem d_Mod_date_2 : decode b_Mod_date 2 = .ok (.iconst 0, 1) := by decide +kernel
theorem d_Mod_date_3 : decode b_Mod_date 3 = .ok (.iconst 3, 1) := by decide +kernel
theorem d_Mod_date_4 : decode b_Mod_date 4 = .ok (.invokestatic 46, 3) := by decide +kernel
theorem d_Mod_date_7 : decode b_Mod_date 7 = .ok (.iload_n 3, 1) := by decide +kernel
theorem d_Mod_date_8 : decode b_Mod_date 8 = .ok (.iconst 0, 1) := by decide +kernel
theorem d_Mod_date_9 : decode b_Mod_date 9 = .ok (.iconst 2, 1) := by decide +kernel
theorem d_Mod_date_10 : decode b_Mod_date 10 = .ok (.invokestatic 46, 3) := by decide +kernel
theorem d_Mod_date_13 : decode b_Mod_date 13 = .ok (.ifCond .eq 18, 3) := by decide +kernel
theorem d_Mod_date_16 : decode b_Mod_date 16 = .ok (.iload_n 2, 1) := by decide +kernel
theorem d_Mod_date_17 : decode b_Mod_date 17 = .ok (.ldc 142, 2) := by decide +kernel
theorem d_Mod_date_19 : decode b_Mod_date 19 = .ok (.ldc 143, 2) := by decide +kernel
theorem d_Mod_date_21 : decode b_Mod_date 21 = .ok (.invokestatic 46, 3) := by decide +kernel
theorem d_Mod_date_24 : decode b_Mod_date 24 = .ok (.ifCond .eq 7, 3) := by decide +kernel
theorem d_Mod_date_27 : decode b_Mod_date 27 = .ok (.iconst 1, 1) := by decide +kernel
theorem d_Mod_date_28 : decode b_Mod_date 28 = .ok (.goto 4, 3) := by decide +kernel
theorem d_Mod_date_31 : decode b_Mod_date 31 = .ok (.iconst 0, 1) := by decide +kernel
theorem d_Mod_date_32 : decode b_Mod_date 32 = .ok (.iconst 1, 1) := by decide +kernel
theorem d_Mod_date_33 : decode b_Mod_date 33 = .ok (.iconst 1, 1) := by decide +kernel
theorem d_Mod_date_34 : decode b_Mod_date 34 = .ok (.invokevirtual 50, 3) := by decide +kernel
theorem d_Mod_date_37 : decode b_Mod_date 37 = .ok (.ifCond .ne 5, 3) := by decide +kernel
theorem d_Mod_date_40 : decode b_Mod_date 40 = .ok (.iconst 0, 1) := by decide +kernel
theorem d_Mod_date_41 : decode b_Mod_date 41 = .ok (.ireturn, 1) := by decide +kernel
theorem d_Mod_date_42 : decode b_Mod_date 42 = .ok (.iload_n 2, 1) := by decide +kernel
theorem d_Mod_date_43 : decode b_Mod_date 43 = .ok (.iload_n 1, 1) := by decide +kernel
theorem d_Mod_date_44 : decode b_Mod_date 44 = .ok (.invokestatic 139, 3) := by decide +kernel
theorem d_Mod_date_47 : decode b_Mod_date 47 = .ok (.isub, 1) := by decide +kernel
theorem d_Mod_date_48 : decode b_Mod_date 48 = .ok (.istore 4, 2) := by decide +kernel
theorem d_Mod_date_50 : decode b_Mod_date 50 = .ok (.iconst 1, 1) := by decide +kernel
theorem d_Mod_date_51 : decode b_Mod_date 51 = .ok (.istore 5, 2) := by decide +kernel
theorem d_Mod_date_53 : decode b_Mod_date 53 = .ok (.iload_n 1, 1) := by decide +kernel
theorem d_Mod_date_54 : decode b_Mod_date 54 = .ok (.invokestatic 126, 3) := by decide +kernel
theorem d_Mod_date_57 : decode b_Mod_date 57 = .ok (.istore 6, 2) := by decide +kernel
theorem d_Mod_date_59 : decode b_Mod_date 59 = .ok (.iload 4, 2) := by decide +kernel
theorem d_Mod_date_61 : decode b_Mod_date 61 = .ok (.ifCond .ge 22, 3) := by decide +kernel
theorem d_Mod_date_64 : decode b_Mod_date 64 = .ok (.iload 4, 2) := by decide +kernel
theorem d_Mod_date_66 : decode b_Mod_date 66 = .ok (.iload 6, 2) := by decide +kernel
theorem d_Mod_date_68 : decode b_Mod_date 68 = .ok (.iadd, 1) := by decide +kernel
theorem d_Mod_date_69 : decode b_Mod_date 69 = .ok (.istore 4, 2) := by decide +kernel
theorem d_Mod_date_71 : decode b_Mod_date 71 = .ok (.iload 5, 2) := by decide +kernel
theorem d_Mod_date_73 : decode b_Mod_date 73 = .ok (.iload_n 1, 1) := by decide +kernel
theorem d_Mod_date_74 : decode b_Mod_date 74 = .ok (.invokestatic 116, 3) := by decide +kernel
theorem d_Mod_date_77 : decode b_Mod_date 77 = .ok (.isub, 1) := by decide +kernel
theorem d_Mod_date_78 : decode b_Mod_date 78 = .ok (.istore 5, 2) := by decide +kernel
theorem d_Mod_date_80 : decode b_Mod_date 80 = .ok (.goto (-21), 3) := by decide +kernel
theorem d_Mod_date_83 : decode b_Mod_date 83 = .ok (.iload 4, 2) := by decide +kernel
theorem d_Mod_date_85 : decode b_Mod_date 85 = .ok (.iload 6, 2) := by decide +kernel
theorem d_Mod_date_87 : decode b_Mod_date 87 = .ok (.if_icmp .lt 22, 3) := by decide +kernel
theorem d_Mod_date_90 : decode b_Mod_date 90 = .ok (.iload 4, 2) := by decide +kernel
theorem d_Mod_date_92 : decode b_Mod_date 92 = .ok (.iload 6, 2) := by decide +kernel
theorem d_Mod_date_94 : decode b_Mod_date 94 = .ok (.isub, 1) := by decide +kernel
theorem d_Mod_date_95 : decode b_Mod_date 95 = .ok (.istore 4, 2) := by decide +kernel
theorem d_Mod_date_97 : decode b_Mod_date 97 = .ok (.iload 5, 2) := by decide +kernel
theorem d_Mod_date_99 : decode b_Mod_date 99 = .ok (.iload_n 1, 1) := by decide +kernel
theorem d_Mod_date_100 : decode b_Mod_date 100 = .ok (.invokestatic 116, 3) := by decide +kernel
theorem d_Mod_date_103 : decode b_Mod_date 103 = .ok (.iadd, 1) := by decide +kernel
theorem d_Mod_date_104 : decode b_Mod_date 104 = .ok (.istore 5, 2) := by decide +kernel
theorem d_Mod_date_106 : decode b_Mod_date 106 = .ok (.goto (-23), 3) := by decide +kernel
theorem d_Mod_date_109 : decode b_Mod_date 109 = .ok (.iload 4, 2) := by decide +kernel
theorem d_Mod_date_111 : decode b_Mod_date 111 = .ok (.iload_n 1, 1) := by decide +kernel
theorem d_Mod_date_112 : decode b_Mod_date 112 = .ok (.iload 5, 2) := by decide +kernel
theorem d_Mod_date_114 : decode b_Mod_date 114 = .ok (.invokestatic 120, 3) := by decide +kernel
theorem d_Mod_date_117 : decode b_Mod_date 117 = .ok (.if_icmp .lt 20, 3) := by decide +kernel
theorem d_Mod_date_120 : decode b_Mod_date 120 = .ok (.iload 4, 2) := by decide +kernel
theorem d_Mod_date_122 : decode b_Mod_date 122 = .ok (.iload_n 1, 1) := by decide +kernel
theorem d_Mod_date_123 : decode b_Mod_date 123 = .ok (.iload 5, 2) := by decide +kernel
theorem d_Mod_date_125 : decode b_Mod_date 125 = .ok (.invokestatic 120, 3) := by decide +kernel
theorem d_Mod_date_128 : decode b_Mod_date 128 = .ok (.isub, 1) := by decide +kernel
theorem d_Mod_date_129 : decode b_Mod_date 129 = .ok (.istore 4, 2) := by decide +kernel
theorem d_Mod_date_131 : decode b_Mod_date 131 = .ok (.iinc 5 1, 3) := by decide +kernel
theorem d_Mod_date_134 : decode b_Mod_date 134 = .ok (.goto (-25), 3) := by decide +kernel
theorem d_Mod_date_137 : decode b_Mod_date 137 = .ok (.iconst 1, 1) := by decide +kernel
theorem d_Mod_date_138 : decode b_Mod_date 138 = .ok (.istore 7, 2) := by decide +kernel
theorem d_Mod_date_140 : decode b_Mod_date 140 = .ok (.iload 4, 2) := by decide +kernel
theorem d_Mod_date_142 : decode b_Mod_date 142 = .ok (.iload_n 1, 1) := by decide +kernel
theorem d_Mod_date_143 : decode b_Mod_date 143 = .ok (.iload 5, 2) := by decide +kernel
theorem d_Mod_date_145 : decode b_Mod_date 145 = .ok (.iload 7, 2) := by decide +kernel
theorem d_Mod_date_147 : decode b_Mod_date 147 = .ok (.invokestatic 135, 3) := by decide +kernel
theorem d_Mod_date_150 : decode b_Mod_date 150 = .ok (.if_icmp .lt 22, 3) := by decide +kernel
theorem d_Mod_date_153 : decode b_Mod_date 153 = .ok (.iload 4, 2) := by decide +kernel
theorem d_Mod_date_155 : decode b_Mod_date 155 = .ok (.iload_n 1, 1) := by decide +kernel
theorem d_Mod_date_156 : decode b_Mod_date 156 = .ok (.iload 5, 2) := by decide +kernel
theorem d_Mod_date_158 : decode b_Mod_date 158 = .ok (.iload 7, 2) := by decide +kernel
theorem d_Mod_date_160 : decode b_Mod_date 160 = .ok (.invokestatic 135, 3) := by decide +kernel
theorem d_Mod_date_163 : decode b_Mod_date 163 = .ok (.isub, 1) := by decide +kernel
theorem d_Mod_date_164 : decode b_Mod_date 164 = .ok (.istore 4, 2) := by decide +kernel
theorem d_Mod_date_166 : decode b_Mod_date 166 = .ok (.iinc 7 1, 3) := by decide +kernel
theorem d_Mod_date_169 : decode b_Mod_date 169 = .ok (.goto (-29), 3) := by decide +kernel
theorem d_Mod_date_172 : decode b_Mod_date 172 = .ok (.iload_n 3, 1) := by decide +kernel
theorem d_Mod_date_173 : decode b_Mod_date 173 = .ok (.ifCond .ne 8, 3) := by decide +kernel
theorem d_Mod_date_176 : decode b_Mod_date 176 = .ok (.iload 5, 2) := by decide +kernel
theorem d_Mod_date_178 : decode b_Mod_date 178 = .ok (.goto 17, 3) := by decide +kernel
theorem d_Mod_date_181 : decode b_Mod_date 181 = .ok (.iload_n 3, 1) := by decide +kernel
theorem d_Mod_date_182 : decode b_Mod_date 182 = .ok (.iconst 1, 1) := by decide +kernel
theorem d_Mod_date_183 : decode b_Mod_date 183 = .ok (.if_icmp .ne 8, 3) := by decide +kernel
theorem d_Mod_date_186 : decode b_Mod_date 186 = .ok (.iload 7, 2) := by decide +kernel
theorem d_Mod_date_188 : decode b_Mod_date 188 = .ok (.goto 7, 3) := by decide +kernel
theorem d_Mod_date_191 : decode b_Mod_date 191 = .ok (.iload 4, 2) := by decide +kernel
theorem d_Mod_date_193 : decode b_Mod_date 193 = .ok (.iconst 1, 1) := by decide +kernel
theorem d_Mod_date_194 : decode b_Mod_date 194 = .ok (.iadd, 1) := by decide +kernel
theorem d_Mod_date_195 : decode b_Mod_date 195 = .ok (.ireturn, 1) := by decide +kernel
theorem d_Mod_clear_0 : decode b_Mod_clear 0 = .ok (.aload_n 0, 1) := by decide +kernel
theorem d_Mod_clear_1 : decode b_Mod_clear 1 = .ok (.iconst 0, 1) := by decide +kernel
theorem d_Mod_clear_2 : decode b_Mod_clear 2 = .ok (.putfield 35, 3) := by decide +kernel
theorem d_Mod_clear_5 : decode b_Mod_clear 5 = .ok (.aload_n 0, 1) := by decide +kernel
theorem d_Mod_clear_6 : decode b_Mod_clear 6 = .ok (.getfield 39, 3) := by decide +kernel
theorem d_Mod_clear_9 : decode b_Mod_clear 9 = .ok (.istore_n 1, 1) := by decide +kernel
theorem d_Mod_clear_10 : decode b_Mod_clear 10 = .ok (.aload_n 0, 1) := by decide +kernel
theorem d_Mod_clear_11 : decode b_Mod_clear 11 = .ok (.iconst 0, 1) := by decide +kernel
theorem d_Mod_clear_12 : decode b_Mod_clear 12 = .ok (.putfield 39, 3) := by decide +kernel
theorem d_Mod_clear_15 : decode b_Mod_clear 15 = .ok (.aload_n 0, 1) := by decide +kernel
theorem d_Mod_clear_16 : decode b_Mod_clear 16 = .ok (.iconst 0, 1) := by decide +kernel
theorem d_Mod_clear_17 : decode b_Mod_clear 17 = .ok (.putfield 107, 3) := by decide +kernel
theorem d_Mod_clear_20 : decode b_Mod_clear 20 = .ok (.aload_n 0, 1) := by decide +kernel
theorem d_Mod_clear_21 : decode b_Mod_clear 21 = .ok (.lconst 0, 1) := by decide +kernel
theorem d_Mod_clear_22 : decode b_Mod_clear 22 = .ok (.putfield 85, 3) := by decide +kernel
theorem d_Mod_clear_25 : decode b_Mod_clear 25 = .ok (.iload_n 1, 1) := by decide +kernel
theorem d_Mod_clear_26 : decode b_Mod_clear 26 = .ok (.ireturn, 1) := by decide +kernel
end
section
theorem d_Row_init_0 : decode b_Row_init 0 = .ok (.aload_n 0, 1) := by decide +kernel
theorem d_Row_init_1 : decode b_Row_init 1 = .ok (.invokespecial 3, 3) := by decide +kernel
theorem d_Row_init_4 : decode b_Row_init 4 = .ok (.aload_n 0, 1) := by decide +kernel
theorem d_Row_init_5 : decode b_Row_init 5 = .ok (.sipush 192, 3) := by decide +kernel
theorem d_Row_init_8 : decode b_Row_init 8 = .ok (.newarray .long, 2) := by decide +kernel
theorem d_Row_init_10 : decode b_Row_init 10 = .ok (.putfield 11, 3) := by decide +kernel
theorem d_Row_init_13 : decode b_Row_init 13 = .ok (.return_, 1) := by decide +kernel
theorem d_Row_open_0 : decode b_Row_open 0 = .ok (.aload_n 0, 1) := by decide +kernel
theorem d_Row_open_1 : decode b_Row_open 1 = .ok (.iload_n 1, 1) := by decide +kernel
theorem d_Row_open_2 : decode b_Row_open 2 = .ok (.putfield 17, 3) := by decide +kernel
theorem d_Row_open_5 : decode b_Row_open 5 = .ok (.aload_n 0, 1) := by decide +kernel
theorem d_Row_open_6 : decode b_Row_open 6 = .ok (.iload_n 2, 1) := by decide +kernel
theorem d_Row_open_7 : decode b_Row_open 7 = .ok (.putfield 21, 3) := by decide +kernel
theorem d_Row_open_10 : decode b_Row_open 10 = .ok (.iconst 0, 1) := by decide +kernel
theorem d_Row_open_11 : decode b_Row_open 11 = .ok (.istore_n 3, 1) := by decide +kernel
theorem d_Row_open_12 : decode b_Row_open 12 = .ok (.iload_n 3, 1) := by decide +kernel
theorem d_Row_open_13 : decode b_Row_open 13 = .ok (.aload_n 0, 1) := by decide +kernel
theorem d_Row_open_14 : decode b_Row_open 14 = .ok (.getfield 11, 3) := by decide +kernel
theorem d_Row_open_17 : decode b_Row_open 17 = .ok (.arraylength, 1) := by decide +kernel
theorem d_Row_open_18 : decode b_Row_open 18 = .ok (.if_icmp .ge 16, 3) := by decide +kernel
theorem d_Row_open_21 : decode b_Row_open 21 = .ok (.aload_n 0, 1) := by decide +kernel
theorem d_Row_open_22 : decode b_Row_open 22 = .ok (.getfield 11, 3) := by decide +kernel
theorem d_Row_open_25 : decode b_Row_open 25 = .ok (.iload_n 3, 1) := by decide +kernel
theorem d_Row_open_26 : decode b_Row_open 26 = .ok (.lconst 0, 1) := by decide +kernel
theorem d_Row_open_27 : decode b_Row_open 27 = .ok (.lastore, 1) := by decide +kernel
theorem d_Row_open_28 : decode b_Row_open 28 = .ok (.iinc 3 1, 3) := by decide +kernel
theorem d_Row_open_31 : decode b_Row_open 31 = .ok (.goto (-19), 3) := by decide +kernel
theorem d_Row_open_34 : decode b_Row_open 34 = .ok (.return_, 1) := by decide +kernel
theorem d_Row_last_0 : decode b_Row_last 0 = .ok (.aload_n 0, 1) := by decide +kernel
theorem d_Row_last_1 : decode b_Row_last 1 = .ok (.getfield 17, 3) := by decide +kernel
theorem d_Row_last_4 : decode b_Row_last 4 = .ok (.aload_n 0, 1) := by decide +kernel
theorem d_Row_last_5 : decode b_Row_last 5 = .ok (.getfield 21, 3) := by decide +kernel
theorem d_Row_last_8 : decode b_Row_last 8 = .ok (.iadd, 1) := by decide +kernel
theorem d_Row_last_9 : decode b_Row_last 9 = .ok (.iconst 1, 1) := by decide +kernel
theorem d_Row_last_10 : decode b_Row_last 10 = .ok (.isub, 1) := by decide +kernel
theorem d_Row_last_11 : decode b_Row_last 11 = .ok (.ireturn, 1) := by decide +kernel
theorem d_Row_has_0 : decode b_Row_has 0 = .ok (.iload_n 1, 1) := by decide +kernel
theorem d_Row_has_1 : decode b_Row_has 1 = .ok (.aload_n 0, 1) := by decide +kernel
theorem d_Row_has_2 : decode b_Row_has 2 = .ok (.getfield 17, 3) := by decide +kernel
theorem d_Row_has_5 : decode b_Row_has 5 = .ok (.if_icmp .lt 15, 3) := by decide +kernel
theorem d_Row_has_8 : decode b_Row_has 8 = .ok (.iload_n 1, 1) := by decide +kernel
theorem d_Row_has_9 : decode b_Row_has 9 = .ok (.aload_n 0, 1) := by decide +kernel
theorem d_Row_has_10 : decode b_Row_has 10 = .ok (.invokevirtual 24, 3) := by decide +kernel
theorem d_Row_has_13 : decode b_Row_has 13 = .ok (.if_icmp .gt 7, 3) := by decide +kernel
theorem d_Row_has_16 : decode b_Row_has 16 = .ok (.iconst 1, 1) := by decide +kernel
theorem d_Row_has_17 : decode b_Row_has 17 = .ok (.goto 4, 3) := by decide +kernel
theorem d_Row_has_20 : decode b_Row_has 20 = .ok (.iconst 0, 1) := by decide +kernel
theorem d_Row_has_21 : decode b_Row_has 21 = .ok (.ireturn, 1) := by decide +kernel
theorem d_Row_read_0 : decode b_Row_read 0 = .ok (.aload_n 2, 1) := by decide +kernel
theorem d_Row_read_1 : decode b_Row_read 1 = .ok (.lconst 0, 1) := by decide +kernel
theorem d_Row_read_2 : decode b_Row_read 2 = .ok (.invokevirtual 28, 3) := by decide +kernel
theorem d_Row_read_5 : decode b_Row_read 5 = .ok (.aload_n 0, 1) := by decide +kernel
theorem d_Row_read_6 : decode b_Row_read 6 = .ok (.iload_n 1, 1) := by decide +kernel
theorem d_Row_read_7 : decode b_Row_read 7 = .ok (.invokevirtual 32, 3) := by decide +kernel
theorem d_Row_read_10 : decode b_Row_read 10 = .ok (.ifCond .eq 43, 3) := by decide +kernel
theorem d_Row_read_13 : decode b_Row_read 13 = .ok (.iload_n 1, 1) := by decide +kernel
theorem d_Row_read_14 : decode b_Row_read 14 = .ok (.aload_n 0, 1) := by decide +kernel
theorem d_Row_read_15 : decode b_Row_read 15 = .ok (.getfield 17, 3) := by decide +kernel
theorem d_Row_read_18 : decode b_Row_read 18 = .ok (.isub, 1) := by decide +kernel
theorem d_Row_read_19 : decode b_Row_read 19 = .ok (.iconst 4, 1) := by decide +kernel
theorem d_Row_read_20 : decode b_Row_read 20 = .ok (.imul, 1) := by decide +kernel
theorem d_Row_read_21 : decode b_Row_read 21 = .ok (.istore_n 3, 1) := by decide +kernel
theorem d_Row_read_22 : decode b_Row_read 22 = .ok (.iconst 0, 1) := by decide +kernel
theorem d_Row_read_23 : decode b_Row_read 23 = .ok (.istore 4, 2) := by decide +kernel
theorem d_Row_read_25 : decode b_Row_read 25 = .ok (.iload 4, 2) := by decide +kernel
theorem d_Row_read_27 : decode b_Row_read 27 = .ok (.iconst 4, 1) := by decide +kernel
theorem d_Row_read_28 : decode b_Row_read 28 = .ok (.if_icmp .ge 25, 3) := by decide +kernel
theorem d_Row_read_31 : decode b_Row_read 31 = .ok (.aload_n 2, 1) := by decide +kernel
theorem d_Row_read_32 : decode b_Row_read 32 = .ok (.getfield 36, 3) := by decide +kernel
theorem d_Row_read_35 : decode b_Row_read 35 = .ok (.iload 4, 2) := by decide +kernel
theorem d_Row_read_37 : decode b_Row_read 37 = .ok (.aload_n 0, 1) := by decide +kernel
theorem d_Row_read_38 : decode b_Row_read 38 = .ok (.getfield 11, 3) := by decide +kernel
theorem d_Row_read_41 : decode b_Row_read 41 = .ok (.iload_n 3, 1) := by decide +kernel
theorem d_Row_read_42 : decode b_Row_read 42 = .ok (.iload 4, 2) := by decide +kernel
theorem d_Row_read_44 : decode b_Row_read 44 = .ok (.iadd, 1) := by decide +kernel
theorem d_Row_read_45 : decode b_Row_read 45 = .ok (.laload, 1) := by decide +kernel
theorem d_Row_read_46 : decode b_Row_read 46 = .ok (.lastore, 1) := by decide +kernel
theorem d_Row_read_47 : decode b_Row_read 47 = .ok (.iinc 4 1, 3) := by decide +kernel
theorem d_Row_read_50 : decode b_Row_read 50 = .ok (.goto (-25), 3) := by decide +kernel
theorem d_Row_read_53 : decode b_Row_read 53 = .ok (.return_, 1) := by decide +kernel
theorem d_Row_write_0 : decode b_Row_write 0 = .ok (.aload_n 0, 1) := by decide +kernel
theorem d_Row_write_1 : decode b_Row_write 1 = .ok (.iload_n 1, 1) := by decide +kernel
theorem d_Row_write_2 : decode b_Row_write 2 = .ok (.invokevirtual 32, 3) := by decide +kernel
theorem d_Row_write_5 : decode b_Row_write 5 = .ok (.ifCond .eq 43, 3) := by decide +kernel
theorem d_Row_write_8 : decode b_Row_write 8 = .ok (.iload_n 1, 1) := by decide +kernel
theorem d_Row_write_9 : decode b_Row_write 9 = .ok (.aload_n 0, 1) := by decide +kernel
theorem d_Row_write_10 : decode b_Row_write 10 = .ok (.getfield 17, 3) := by decide +kernel
theorem d_Row_write_13 : decode b_Row_write 13 = .ok (.isub, 1) := by decide +kernel
theorem d_Row_write_14 : decode b_Row_write 14 = .ok (.iconst 4, 1) := by decide +kernel
theorem d_Row_write_15 : decode b_Row_write 15 = .ok (.imul, 1) := by decide +kernel
theorem d_Row_write_16 : decode b_Row_write 16 = .ok (.istore_n 3, 1) := by decide +kernel
theorem d_Row_write_17 : decode b_Row_write 17 = .ok (.iconst 0, 1) := by decide +kernel
theorem d_Row_write_18 : decode b_Row_write 18 = .ok (.istore 4, 2) := by decide +kernel
theorem d_Row_write_20 : decode b_Row_write 20 = .ok (.iload 4, 2) := by decide +kernel
theorem d_Row_write_22 : decode b_Row_write 22 = .ok (.iconst 4, 1) := by decide +kernel
theorem d_Row_write_23 : decode b_Row_write 23 = .ok (.if_icmp .ge 25, 3) := by decide +kernel
theorem d_Row_write_26 : decode b_Row_write 26 = .ok (.aload_n 0, 1) := by decide +kernel
theorem d_Row_write_27 : decode b_Row_write 27 = .ok (.getfield 11, 3) := by decide +kernel
theorem d_Row_write_30 : decode b_Row_write 30 = .ok (.iload_n 3, 1) := by decide +kernel
theorem d_Row_write_31 : decode b_Row_write 31 = .ok (.iload 4, 2) := by decide +kernel
theorem d_Row_write_33 : decode b_Row_write 33 = .ok (.iadd, 1) := by decide +kernel
theorem d_Row_write_34 : decode b_Row_write 34 = .ok (.aload_n 2, 1) := by decide +kernel
theorem d_Row_write_35 : decode b_Row_write 35 = .ok (.getfield 36, 3) := by decide +kernel
theorem d_Row_write_38 : decode b_Row_write 38 = .ok (.iload 4, 2) := by decide +kernel
theorem d_Row_write_40 : decode b_Row_write 40 = .ok (.laload, 1) := by decide +kernel
theorem d_Row_write_41 : decode b_Row_write 41 = .ok (.lastore, 1) := by decide +kernel
theorem d_Row_write_42 : decode b_Row_write 42 = .ok (.iinc 4 1, 3) := by decide +kernel
theorem d_Row_write_45 : decode b_Row_write 45 = .ok (.goto (-25), 3) := by decide +kernel
theorem d_Row_write_48 : decode b_Row_write 48 = .ok (.return_, 1) := by decide +kernel
theorem d_Row_isLess_0 : decode b_Row_isLess 0 = .ok (.iconst 3, 1) := by decide +kernel
theorem d_Row_isLess_1 : decode b_Row_isLess 1 = .ok (.istore_n 3, 1) := by decide +kernel
theorem d_Row_isLess_2 : decode b_Row_isLess 2 = .ok (.iload_n 3, 1) := by decide +kernel
theorem d_Row_isLess_3 : decode b_Row_isLess 3 = .ok (.ifCond .lt 55, 3) := by decide +kernel
theorem d_Row_isLess_6 : decode b_Row_isLess 6 = .ok (.aload_n 0, 1) := by decide +kernel
theorem d_Row_isLess_7 : decode b_Row_isLess 7 = .ok (.getfield 11, 3) := by decide +kernel
theorem d_Row_isLess_10 : decode b_Row_isLess 10 = .ok (.iload_n 1, 1) := by decide +kernel
theorem d_Row_isLess_11 : decode b_Row_isLess 11 = .ok (.iconst 4, 1) := by decide +kernel
theorem d_Row_isLess_12 : decode b_Row_isLess 12 = .ok (.imul, 1) := by decide +kernel
theorem d_Row_isLess_13 : decode b_Row_isLess 13 = .ok (.iload_n 3, 1) := by decide +kernel
theorem d_Row_isLess_14 : decode b_Row_isLess 14 = .ok (.iadd, 1) := by decide +kernel
theorem d_Row_isLess_15 : decode b_Row_isLess 15 = .ok (.laload, 1) := by decide +kernel
theorem d_Row_isLess_16 : decode b_Row_isLess 16 = .ok (.lstore 4, 2) := by decide +kernel
theorem d_Row_isLess_18 : decode b_Row_isLess 18 = .ok (.aload_n 0, 1) := by decide +kernel
theorem d_Row_isLess_19 : decode b_Row_isLess 19 = .ok (.getfield 11, 3) := by decide +kernel
theorem d_Row_isLess_22 : decode b_Row_isLess 22 = .ok (.iload_n 2, 1) := by decide +kernel
theorem d_Row_isLess_23 : decode b_Row_isLess 23 = .ok (.iconst 4, 1) := by decide +kernel
theorem d_Row_isLess_24 : decode b_Row_isLess 24 = .ok (.imul, 1) := by decide +kernel
theorem d_Row_isLess_25 : decode b_Row_isLess 25 = .ok (.iload_n 3, 1) := by decide +kernel
theorem d_Row_isLess_26 : decode b_Row_isLess 26 = .ok (.iadd, 1) := by decide +kernel
theorem d_Row_isLess_27 : decode b_Row_isLess 27 = .ok (.laload, 1) := by decide +kernel
theorem d_Row_isLess_28 : decode b_Row_isLess 28 = .ok (.lstore 6, 2) := by decide +kernel
theorem d_Row_isLess_30 : decode b_Row_isLess 30 = .ok (.lload 4, 2) := by decide +kernel
theorem d_Row_isLess_32 : decode b_Row_isLess 32 = .ok (.lload 6, 2) := by decide +kernel
theorem d_Row_isLess_34 : decode b_Row_isLess 34 = .ok (.lcmp, 1) := by decide +kernel
theorem d_Row_isLess_35 : decode b_Row_isLess 35 = .ok (.ifCond .eq 17, 3) := by decide +kernel
theorem d_Row_isLess_38 : decode b_Row_isLess 38 = .ok (.lload 4, 2) := by decide +kernel
theorem d_Row_isLess_40 : decode b_Row_isLess 40 = .ok (.lload 6, 2) := by decide +kernel
theorem d_Row_isLess_42 : decode b_Row_isLess 42 = .ok (.lcmp, 1) := by decide +kernel
theorem d_Row_isLess_43 : decode b_Row_isLess 43 = .ok (.ifCond .ge 7, 3) := by decide +kernel
theorem d_Row_isLess_46 : decode b_Row_isLess 46 = .ok (.iconst 1, 1) := by decide +kernel
theorem d_Row_isLess_47 : decode b_Row_isLess 47 = .ok (.goto 4, 3) := by decide +kernel
theorem d_Row_isLess_50 : decode b_Row_isLess 50 = .ok (.iconst 0, 1) := by decide +kernel
theorem d_Row_isLess_51 : decode b_Row_isLess 51 = .ok (.ireturn, 1) := by decide +kernel
theorem d_Row_isLess_52 : decode b_Row_isLess 52 = .ok (.iinc 3 (-1), 3) := by decide +kernel
theorem d_Row_isLess_55 : decode b_Row_isLess 55 = .ok (.goto (-53), 3) := by decide +kernel
theorem d_Row_isLess_58 : decode b_Row_isLess 58 = .ok (.iconst 0, 1) := by decide +kernel
theorem d_Row_isLess_59 : decode b_Row_isLess 59 = .ok (.ireturn, 1) := by decide +kernel
end
section
theorem d_Set_init_0 : decode b_Set_init 0 = .ok (.aload_n 0, 1) := by decide +kernel
theorem d_Set_init_1 : decode b_Set_init 1 = .ok (.invokespecial 3, 3) := by decide +kernel
theorem d_Set_init_4 : decode b_Set_init 4 = .ok (.aload_n 0, 1) := by decide +kernel
theorem d_Set_init_5 : decode b_Set_init 5 = .ok (.bipush 48, 2) := by decide +kernel
theorem d_Set_init_7 : decode b_Set_init 7 = .ok (.newarray .int, 2) := by decide +kernel
theorem d_Set_init_9 : decode b_Set_init 9 = .ok (.putfield 9, 3) := by decide +kernel
theorem d_Set_init_12 : decode b_Set_init 12 = .ok (.aload_n 0, 1) := by decide +kernel
theorem d_Set_init_13 : decode b_Set_init 13 = .ok (.bipush 48, 2) := by decide +kernel
theorem d_Set_init_15 : decode b_Set_init 15 = .ok (.newarray .boolean, 2) := by decide +kernel
theorem d_Set_init_17 : decode b_Set_init 17 = .ok (.putfield 15, 3) := by decide +kernel
theorem d_Set_init_20 : decode b_Set_init 20 = .ok (.aload_n 0, 1) := by decide +kernel
theorem d_Set_init_21 : decode b_Set_init 21 = .ok (.bipush 24, 2) := by decide +kernel
theorem d_Set_init_23 : decode b_Set_init 23 = .ok (.newarray .int, 2) := by decide +kernel
theorem d_Set_init_25 : decode b_Set_init 25 = .ok (.putfield 19, 3) := by decide +kernel
theorem d_Set_init_28 : decode b_Set_init 28 = .ok (.aload_n 0, 1) := by decide +kernel
theorem d_Set_init_29 : decode b_Set_init 29 = .ok (.bipush 24, 2) := by decide +kernel
theorem d_Set_init_31 : decode b_Set_init 31 = .ok (.newarray .int, 2) := by decide +kernel
theorem d_Set_init_33 : decode b_Set_init 33 = .ok (.putfield 22, 3) := by decide +kernel
theorem d_Set_init_36 : decode b_Set_init 36 = .ok (.return_, 1) := by decide +kernel
theorem d_Set_rank_0 : decode b_Set_rank 0 = .ok (.iconst 0, 1) := by decide +kernel
theorem d_Set_rank_1 : decode b_Set_rank 1 = .ok (.istore_n 2, 1) := by decide +kernel
theorem d_Set_rank_2 : decode b_Set_rank 2 = .ok (.iload_n 2, 1) := by decide +kernel
theorem d_Set_rank_3 : decode b_Set_rank 3 = .ok (.aload_n 1, 1) := by decide +kernel
theorem d_Set_rank_4 : decode b_Set_rank 4 = .ok (.getfield 25, 3) := by decide +kernel
theorem d_Set_rank_7 : decode b_Set_rank 7 = .ok (.if_icmp .ge 65, 3) := by decide +kernel
theorem d_Set_rank_10 : decode b_Set_rank 10 = .ok (.aload_n 0, 1) := by decide +kernel
theorem d_Set_rank_11 : decode b_Set_rank 11 = .ok (.getfield 15, 3) := by decide +kernel
theorem d_Set_rank_14 : decode b_Set_rank 14 = .ok (.iload_n 2, 1) := by decide +kernel
theorem d_Set_rank_15 : decode b_Set_rank 15 = .ok (.iconst 0, 1) := by decide +kernel
theorem d_Set_rank_16 : decode b_Set_rank 16 = .ok (.bastore, 1) := by decide +kernel
theorem d_Set_rank_17 : decode b_Set_rank 17 = .ok (.iload_n 2, 1) := by decide +kernel
theorem d_Set_rank_18 : decode b_Set_rank 18 = .ok (.istore_n 3, 1) := by decide +kernel
theorem d_Set_rank_19 : decode b_Set_rank 19 = .ok (.iload_n 3, 1) := by decide +kernel
theorem d_Set_rank_20 : decode b_Set_rank 20 = .ok (.ifCond .le 39, 3) := by decide +kernel
theorem d_Set_rank_23 : decode b_Set_rank 23 = .ok (.aload_n 1, 1) := by decide +kernel
theorem d_Set_rank_24 : decode b_Set_rank 24 = .ok (.aload_n 0, 1) := by decide +kernel
theorem d_Set_rank_25 : decode b_Set_rank 25 = .ok (.getfield 9, 3) := by decide +kernel
theorem d_Set_rank_28 : decode b_Set_rank 28 = .ok (.iload_n 3, 1) := by decide +kernel
theorem d_Set_rank_29 : decode b_Set_rank 29 = .ok (.iconst 1, 1) := by decide +kernel
theorem d_Set_rank_30 : decode b_Set_rank 30 = .ok (.isub, 1) := by decide +kernel
theorem d_Set_rank_31 : decode b_Set_rank 31 = .ok (.iaload, 1) := by decide +kernel
theorem d_Set_rank_32 : decode b_Set_rank 32 = .ok (.iload_n 2, 1) := by decide +kernel
theorem d_Set_rank_33 : decode b_Set_rank 33 = .ok (.invokevirtual 31, 3) := by decide +kernel
theorem d_Set_rank_36 : decode b_Set_rank 36 = .ok (.ifCond .eq 23, 3) := by decide +kernel
theorem d_Set_rank_39 : decode b_Set_rank 39 = .ok (.aload_n 0, 1) := by decide +kernel
theorem d_Set_rank_40 : decode b_Set_rank 40 = .ok (.getfield 9, 3) := by decide +kernel
theorem d_Set_rank_43 : decode b_Set_rank 43 = .ok (.iload_n 3, 1) := by decide +kernel
theorem d_Set_rank_44 : decode b_Set_rank 44 = .ok (.aload_n 0, 1) := by decide +kernel
theorem d_Set_rank_45 : decode b_Set_rank 45 = .ok (.getfield 9, 3) := by decide +kernel
theorem d_Set_rank_48 : decode b_Set_rank 48 = .ok (.iload_n 3, 1) := by decide +kernel
theorem d_Set_rank_49 : decode b_Set_rank 49 = .ok (.iconst 1, 1) := by decide +kernel
theorem d_Set_rank_50 : decode b_Set_rank 50 = .ok (.isub, 1) := by decide +kernel
theorem d_Set_rank_51 : decode b_Set_rank 51 = .ok (.iaload, 1) := by decide +kernel
theorem d_Set_rank_52 : decode b_Set_rank 52 = .ok (.iastore, 1) := by decide +kernel
theorem d_Set_rank_53 : decode b_Set_rank 53 = .ok (.iinc 3 (-1), 3) := by decide +kernel
theorem d_Set_rank_56 : decode b_Set_rank 56 = .ok (.goto (-37), 3) := by decide +kernel
theorem d_Set_rank_59 : decode b_Set_rank 59 = .ok (.aload_n 0, 1) := by decide +kernel
theorem d_Set_rank_60 : decode b_Set_rank 60 = .ok (.getfield 9, 3) := by decide +kernel
theorem d_Set_rank_63 : decode b_Set_rank 63 = .ok (.iload_n 3, 1) := by decide +kernel
theorem d_Set_rank_64 : decode b_Set_rank 64 = .ok (.iload_n 2, 1) := by decide +kernel
theorem d_Set_rank_65 : decode b_Set_rank 65 = .ok (.iastore, 1) := by decide +kernel
theorem d_Set_rank_66 : decode b_Set_rank 66 = .ok (.iinc 2 1, 3) := by decide +kernel
theorem d_Set_rank_69 : decode b_Set_rank 69 = .ok (.goto (-67), 3) := by decide +kernel
theorem d_Set_rank_72 : decode b_Set_rank 72 = .ok (.return_, 1) := by decide +kernel
theorem d_Set_take_0 : decode b_Set_take 0 = .ok (.aload_n 0, 1) := by decide +kernel
theorem d_Set_take_1 : decode b_Set_take 1 = .ok (.getfield 9, 3) := by decide +kernel
theorem d_Set_take_4 : decode b_Set_take 4 = .ok (.iload_n 2, 1) := by decide +kernel
theorem d_Set_take_5 : decode b_Set_take 5 = .ok (.iaload, 1) := by decide +kernel
theorem d_Set_take_6 : decode b_Set_take 6 = .ok (.istore_n 3, 1) := by decide +kernel
theorem d_Set_take_7 : decode b_Set_take 7 = .ok (.aload_n 0, 1) := by decide +kernel
theorem d_Set_take_8 : decode b_Set_take 8 = .ok (.getfield 15, 3) := by decide +kernel
theorem d_Set_take_11 : decode b_Set_take 11 = .ok (.iload_n 3, 1) := by decide +kernel
theorem d_Set_take_12 : decode b_Set_take 12 = .ok (.iconst 1, 1) := by decide +kernel
theorem d_Set_take_13 : decode b_Set_take 13 = .ok (.bastore, 1) := by decide +kernel
theorem d_Set_take_14 : decode b_Set_take 14 = .ok (.aload_n 1, 1) := by decide +kernel
theorem d_Set_take_15 : decode b_Set_take 15 = .ok (.getfield 35, 3) := by decide +kernel
theorem d_Set_take_18 : decode b_Set_take 18 = .ok (.iload_n 3, 1) := by decide +kernel
theorem d_Set_take_19 : decode b_Set_take 19 = .ok (.iadd, 1) := by decide +kernel
theorem d_Set_take_20 : decode b_Set_take 20 = .ok (.ireturn, 1) := by decide +kernel
theorem d_Set_findSpans_0 : decode b_Set_findSpans 0 = .ok (.aload_n 0, 1) := by decide +kernel
theorem d_Set_findSpans_1 : decode b_Set_findSpans 1 = .ok (.iconst 0, 1) := by decide +kernel
theorem d_Set_findSpans_2 : decode b_Set_findSpans 2 = .ok (.putfield 38, 3) := by decide +kernel
theorem d_Set_findSpans_5 : decode b_Set_findSpans 5 = .ok (.iconst 0, 1) := by decide +kernel
theorem d_Set_findSpans_6 : decode b_Set_findSpans 6 = .ok (.istore_n 2, 1) := by decide +kernel
theorem d_Set_findSpans_7 : decode b_Set_findSpans 7 = .ok (.iconst 0, 1) := by decide +kernel
theorem d_Set_findSpans_8 : decode b_Set_findSpans 8 = .ok (.istore_n 3, 1) := by decide +kernel
theorem d_Set_findSpans_9 : decode b_Set_findSpans 9 = .ok (.iload_n 3, 1) := by decide +kernel
theorem d_Set_findSpans_10 : decode b_Set_findSpans 10 = .ok (.aload_n 1, 1) := by decide +kernel
theorem d_Set_findSpans_11 : decode b_Set_findSpans 11 = .ok (.getfield 25, 3) := by decide +kernel
theorem d_Set_findSpans_14 : decode b_Set_findSpans 14 = .ok (.if_icmp .ge 71, 3) := by decide +kernel
theorem d_Set_findSpans_17 : decode b_Set_findSpans 17 = .ok (.aload_n 0, 1) := by decide +kernel
theorem d_Set_findSpans_18 : decode b_Set_findSpans 18 = .ok (.getfield 15, 3) := by decide +kernel
theorem d_Set_findSpans_21 : decode b_Set_findSpans 21 = .ok (.iload_n 3, 1) := by decide +kernel
theorem d_Set_findSpans_22 : decode b_Set_findSpans 22 = .ok (.baload, 1) := by decide +kernel
theorem d_Set_findSpans_23 : decode b_Set_findSpans 23 = .ok (.ifCond .eq 49, 3) := by decide +kernel
theorem d_Set_findSpans_26 : decode b_Set_findSpans 26 = .ok (.iload_n 2, 1) := by decide +kernel
theorem d_Set_findSpans_27 : decode b_Set_findSpans 27 = .ok (.ifCond .ne 28, 3) := by decide +kernel
theorem d_Set_findSpans_30 : decode b_Set_findSpans 30 = .ok (.aload_n 0, 1) := by decide +kernel
theorem d_Set_findSpans_31 : decode b_Set_findSpans 31 = .ok (.getfield 19, 3) := by decide +kernel
theorem d_Set_findSpans_34 : decode b_Set_findSpans 34 = .ok (.aload_n 0, 1) := by decide +kernel
theorem d_Set_findSpans_35 : decode b_Set_findSpans 35 = .ok (.getfield 38, 3) := by decide +kernel
theorem d_Set_findSpans_38 : decode b_Set_findSpans 38 = .ok (.aload_n 1, 1) := by decide +kernel
theorem d_Set_findSpans_39 : decode b_Set_findSpans 39 = .ok (.getfield 35, 3) := by decide +kernel
theorem d_Set_findSpans_42 : decode b_Set_findSpans 42 = .ok (.iload_n 3, 1) := by decide +kernel
theorem d_Set_findSpans_43 : decode b_Set_findSpans 43 = .ok (.iadd, 1) := by decide +kernel
theorem d_Set_findSpans_44 : decode b_Set_findSpans 44 = .ok (.iastore, 1) := by decide +kernel
theorem d_Set_findSpans_45 : decode b_Set_findSpans 45 = .ok (.aload_n 0, 1) := by decide +kernel
theorem d_Set_findSpans_46 : decode b_Set_findSpans 46 = .ok (.dup, 1) := by decide +kernel
theorem d_Set_findSpans_47 : decode b_Set_findSpans 47 = .ok (.getfield 38, 3) := by decide +kernel
theorem d_Set_findSpans_50 : decode b_Set_findSpans 50 = .ok (.iconst 1, 1) := by decide +kernel
theorem d_Set_findSpans_51 : decode b_Set_findSpans 51 = .ok (.iadd, 1) := by decide +kernel
theorem d_Set_findSpans_52 : decode b_Set_findSpans 52 = .ok (.putfield 38, 3) := by decide +kernel
theorem d_Set_findSpans_55 : decode b_Set_findSpans 55 = .ok (.aload_n 0, 1) := by decide +kernel
theorem d_Set_findSpans_56 : decode b_Set_findSpans 56 = .ok (.getfield 22, 3) := by decide +kernel
theorem d_Set_findSpans_59 : decode b_Set_findSpans 59 = .ok (.aload_n 0, 1) := by decide +kernel
theorem d_Set_findSpans_60 : decode b_Set_findSpans 60 = .ok (.getfield 38, 3) := by decide +kernel
theorem d_Set_findSpans_63 : decode b_Set_findSpans 63 = .ok (.iconst 1, 1) := by decide +kernel
theorem d_Set_findSpans_64 : decode b_Set_findSpans 64 = .ok (.isub, 1) := by decide +kernel
theorem d_Set_findSpans_65 : decode b_Set_findSpans 65 = .ok (.aload_n 1, 1) := by decide +kernel
theorem d_Set_findSpans_66 : decode b_Set_findSpans 66 = .ok (.getfield 35, 3) := by decide +kernel
theorem d_Set_findSpans_69 : decode b_Set_findSpans 69 = .ok (.iload_n 3, 1) := by decide +kernel
theorem d_Set_findSpans_70 : decode b_Set_findSpans 70 = .ok (.iadd, 1) := by decide +kernel
theorem d_Set_findSpans_71 : decode b_Set_findSpans 71 = .ok (.iastore, 1) := by decide +kernel
theorem d_Set_findSpans_72 : decode b_Set_findSpans 72 = .ok (.aload_n 0, 1) := by decide +kernel
theorem d_Set_findSpans_73 : decode b_Set_findSpans 73 = .ok (.getfield 15, 3) := by decide +kernel
theorem d_Set_findSpans_76 : decode b_Set_findSpans 76 = .ok (.iload_n 3, 1) := by decide +kernel
theorem d_Set_findSpans_77 : decode b_Set_findSpans 77 = .ok (.baload, 1) := by decide +kernel
theorem d_Set_findSpans_78 : decode b_Set_findSpans 78 = .ok (.istore_n 2, 1) := by decide +kernel
theorem d_Set_findSpans_79 : decode b_Set_findSpans 79 = .ok (.iinc 3 1, 3) := by decide +kernel
theorem d_Set_findSpans_82 : decode b_Set_findSpans 82 = .ok (.goto (-73), 3) := by decide +kernel
theorem d_Set_findSpans_85 : decode b_Set_findSpans 85 = .ok (.return_, 1) := by decide +kernel
end
section
theorem d_Who_init_0 : decode b_Who_init 0 = .ok (.aload_n 0, 1) := by decide +kernel
theorem d_Who_init_1 : decode b_Who_init 1 = .ok (.invokespecial 1, 3) := by decide +kernel
theorem d_Who_init_4 : decode b_Who_init 4 = .ok (.aload_n 0, 1) := by decide +kernel
theorem d_Who_init_5 : decode b_Who_init 5 = .ok (.bipush 8, 2) := by decide +kernel
theorem d_Who_init_7 : decode b_Who_init 7 = .ok (.newarray .long, 2) := by decide +kernel
theorem d_Who_init_9 : decode b_Who_init 9 = .ok (.putfield 9, 3) := by decide +kernel
theorem d_Who_init_12 : decode b_Who_init 12 = .ok (.return_, 1) := by decide +kernel
theorem d_Who_become_0 : decode b_Who_become 0 = .ok (.lload_n 1, 1) := by decide +kernel
theorem d_Who_become_1 : decode b_Who_become 1 = .ok (.lstore_n 3, 1) := by decide +kernel
theorem d_Who_become_2 : decode b_Who_become 2 = .ok (.iconst 0, 1) := by decide +kernel
theorem d_Who_become_3 : decode b_Who_become 3 = .ok (.istore 5, 2) := by decide +kernel
theorem d_Who_become_5 : decode b_Who_become 5 = .ok (.iload 5, 2) := by decide +kernel
theorem d_Who_become_7 : decode b_Who_become 7 = .ok (.bipush 8, 2) := by decide +kernel
theorem d_Who_become_9 : decode b_Who_become 9 = .ok (.if_icmp .ge 27, 3) := by decide +kernel
theorem d_Who_become_12 : decode b_Who_become 12 = .ok (.aload_n 0, 1) := by decide +kernel
theorem d_Who_become_13 : decode b_Who_become 13 = .ok (.getfield 9, 3) := by decide +kernel
theorem d_Who_become_16 : decode b_Who_become 16 = .ok (.iload 5, 2) := by decide +kernel
theorem d_Who_become_18 : decode b_Who_become 18 = .ok (.lload_n 3, 1) := by decide +kernel
theorem d_Who_become_19 : decode b_Who_become 19 = .ok (.ldc2_w 13, 3) := by decide +kernel
theorem d_Who_become_22 : decode b_Who_become 22 = .ok (.lrem, 1) := by decide +kernel
theorem d_Who_become_23 : decode b_Who_become 23 = .ok (.lastore, 1) := by decide +kernel
theorem d_Who_become_24 : decode b_Who_become 24 = .ok (.lload_n 3, 1) := by decide +kernel
theorem d_Who_become_25 : decode b_Who_become 25 = .ok (.ldc2_w 13, 3) := by decide +kernel
theorem d_Who_become_28 : decode b_Who_become 28 = .ok (.ldiv, 1) := by decide +kernel
theorem d_Who_become_29 : decode b_Who_become 29 = .ok (.lstore_n 3, 1) := by decide +kernel
theorem d_Who_become_30 : decode b_Who_become 30 = .ok (.iinc 5 1, 3) := by decide +kernel
theorem d_Who_become_33 : decode b_Who_become 33 = .ok (.goto (-28), 3) := by decide +kernel
theorem d_Who_become_36 : decode b_Who_become 36 = .ok (.return_, 1) := by decide +kernel
theorem d_Who_increase_0 : decode b_Who_increase 0 = .ok (.lconst 0, 1) := by decide +kernel
theorem d_Who_increase_1 : decode b_Who_increase 1 = .ok (.lstore_n 2, 1) := by decide +kernel
theorem d_Who_increase_2 : decode b_Who_increase 2 = .ok (.iconst 0, 1) := by decide +kernel
theorem d_Who_increase_3 : decode b_Who_increase 3 = .ok (.istore 4, 2) := by decide +kernel
theorem d_Who_increase_5 : decode b_Who_increase 5 = .ok (.iload 4, 2) := by decide +kernel
theorem d_Who_increase_7 : decode b_Who_increase 7 = .ok (.bipush 8, 2) := by decide +kernel
theorem d_Who_increase_9 : decode b_Who_increase 9 = .ok (.if_icmp .ge 48, 3) := by decide +kernel
theorem d_Who_increase_12 : decode b_Who_increase 12 = .ok (.aload_n 0, 1) := by decide +kernel
theorem d_Who_increase_13 : decode b_Who_increase 13 = .ok (.getfield 9, 3) := by decide +kernel
theorem d_Who_increase_16 : decode b_Who_increase 16 = .ok (.iload 4, 2) := by decide +kernel
theorem d_Who_increase_18 : decode b_Who_increase 18 = .ok (.laload, 1) := by decide +kernel
theorem d_Who_increase_19 : decode b_Who_increase 19 = .ok (.aload_n 1, 1) := by decide +kernel
theorem d_Who_increase_20 : decode b_Who_increase 20 = .ok (.getfield 9, 3) := by decide +kernel
theorem d_Who_increase_23 : decode b_Who_increase 23 = .ok (.iload 4, 2) := by decide +kernel
theorem d_Who_increase_25 : decode b_Who_increase 25 = .ok (.laload, 1) := by decide +kernel
theorem d_Who_increase_26 : decode b_Who_increase 26 = .ok (.ladd, 1) := by decide +kernel
theorem d_Who_increase_27 : decode b_Who_increase 27 = .ok (.lload_n 2, 1) := by decide +kernel
theorem d_Who_increase_28 : decode b_Who_increase 28 = .ok (.ladd, 1) := by decide +kernel
theorem d_Who_increase_29 : decode b_Who_increase 29 = .ok (.lstore 5, 2) := by decide +kernel
theorem d_Who_increase_31 : decode b_Who_increase 31 = .ok (.aload_n 0, 1) := by decide +kernel
theorem d_Who_increase_32 : decode b_Who_increase 32 = .ok (.getfield 9, 3) := by decide +kernel
theorem d_Who_increase_35 : decode b_Who_increase 35 = .ok (.iload 4, 2) := by decide +kernel
theorem d_Who_increase_37 : decode b_Who_increase 37 = .ok (.lload 5, 2) := by decide +kernel
theorem d_Who_increase_39 : decode b_Who_increase 39 = .ok (.ldc2_w 13, 3) := by decide +kernel
theorem d_Who_increase_42 : decode b_Who_increase 42 = .ok (.lrem, 1) := by decide +kernel
theorem d_Who_increase_43 : decode b_Who_increase 43 = .ok (.lastore, 1) := by decide +kernel
theorem d_Who_increase_44 : decode b_Who_increase 44 = .ok (.lload 5, 2) := by decide +kernel
theorem d_Who_increase_46 : decode b_Who_increase 46 = .ok (.ldc2_w 13, 3) := by decide +kernel
theorem d_Who_increase_49 : decode b_Who_increase 49 = .ok (.ldiv, 1) := by decide +kernel
theorem d_Who_increase_50 : decode b_Who_increase 50 = .ok (.lstore_n 2, 1) := by decide +kernel
theorem d_Who_increase_51 : decode b_Who_increase 51 = .ok (.iinc 4 1, 3) := by decide +kernel
theorem d_Who_increase_54 : decode b_Who_increase 54 = .ok (.goto (-49), 3) := by decide +kernel
theorem d_Who_increase_57 : decode b_Who_increase 57 = .ok (.return_, 1) := by decide +kernel
theorem d_Who_becomeScaled_0 : decode b_Who_becomeScaled 0 = .ok (.lconst 0, 1) := by decide +kernel
theorem d_Who_becomeScaled_1 : decode b_Who_becomeScaled 1 = .ok (.lstore 4, 2) := by decide +kernel
theorem d_Who_becomeScaled_3 : decode b_Who_becomeScaled 3 = .ok (.iconst 0, 1) := by decide +kernel
theorem d_Who_becomeScaled_4 : decode b_Who_becomeScaled 4 = .ok (.istore 6, 2) := by decide +kernel
theorem d_Who_becomeScaled_6 : decode b_Who_becomeScaled 6 = .ok (.iload 6, 2) := by decide +kernel
theorem d_Who_becomeScaled_8 : decode b_Who_becomeScaled 8 = .ok (.bipush 8, 2) := by decide +kernel
theorem d_Who_becomeScaled_10 : decode b_Who_becomeScaled 10 = .ok (.if_icmp .ge 44, 3) := by decide +kernel
theorem d_Who_becomeScaled_13 : decode b_Who_becomeScaled 13 = .ok (.aload_n 1, 1) := by decide +kernel
theorem d_Who_becomeScaled_14 : decode b_Who_becomeScaled 14 = .ok (.getfield 9, 3) := by decide +kernel
theorem d_Who_becomeScaled_17 : decode b_Who_becomeScaled 17 = .ok (.iload 6, 2) := by decide +kernel
theorem d_Who_becomeScaled_19 : decode b_Who_becomeScaled 19 = .ok (.laload, 1) := by decide +kernel
theorem d_Who_becomeScaled_20 : decode b_Who_becomeScaled 20 = .ok (.lload_n 2, 1) := by decide +kernel
theorem d_Who_becomeScaled_21 : decode b_Who_becomeScaled 21 = .ok (.lmul, 1) := by decide +kernel
theorem d_Who_becomeScaled_22 : decode b_Who_becomeScaled 22 = .ok (.lload 4, 2) := by decide +kernel
theorem d_Who_becomeScaled_24 : decode b_Who_becomeScaled 24 = .ok (.ladd, 1) := by decide +kernel
theorem d_Who_becomeScaled_25 : decode b_Who_becomeScaled 25 = .ok (.lstore 7, 2) := by decide +kernel
theorem d_Who_becomeScaled_27 : decode b_Who_becomeScaled 27 = .ok (.aload_n 0, 1) := by decide +kernel
theorem d_Who_becomeScaled_28 : decode b_Who_becomeScaled 28 = .ok (.getfield 9, 3) := by decide +kernel
theorem d_Who_becomeScaled_31 : decode b_Who_becomeScaled 31 = .ok (.iload 6, 2) := by decide +kernel
theorem d_Who_becomeScaled_33 : decode b_Who_becomeScaled 33 = .ok (.lload 7, 2) := by decide +kernel
theorem d_Who_becomeScaled_35 : decode b_Who_becomeScaled 35 = .ok (.ldc2_w 13, 3) := by decide +kernel
theorem d_Who_becomeScaled_38 : decode b_Who_becomeScaled 38 = .ok (.lrem, 1) := by decide +kernel
theorem d_Who_becomeScaled_39 : decode b_Who_becomeScaled 39 = .ok (.lastore, 1) := by decide +kernel
theorem d_Who_becomeScaled_40 : decode b_Who_becomeScaled 40 = .ok (.lload 7, 2) := by decide +kernel
theorem d_Who_becomeScaled_42 : decode b_Who_becomeScaled 42 = .ok (.ldc2_w 13, 3) := by decide +kernel
theorem d_Who_becomeScaled_45 : decode b_Who_becomeScaled 45 = .ok (.ldiv, 1) := by decide +kernel
theorem d_Who_becomeScaled_46 : decode b_Who_becomeScaled 46 = .ok (.lstore 4, 2) := by decide +kernel
theorem d_Who_becomeScaled_48 : decode b_Who_becomeScaled 48 = .ok (.iinc 6 1, 3) := by decide +kernel
theorem d_Who_becomeScaled_51 : decode b_Who_becomeScaled 51 = .ok (.goto (-45), 3) := by decide +kernel
theorem d_Who_becomeScaled_54 : decode b_Who_becomeScaled 54 = .ok (.return_, 1) := by decide +kernel
theorem d_Who_becomeProduct_0 : decode b_Who_becomeProduct 0 = .ok (.aload_n 0, 1) := by decide +kernel
theorem d_Who_becomeProduct_1 : decode b_Who_becomeProduct 1 = .ok (.lconst 0, 1) := by decide +kernel
theorem d_Who_becomeProduct_2 : decode b_Who_becomeProduct 2 = .ok (.invokevirtual 15, 3) := by decide +kernel
theorem d_Who_becomeProduct_5 : decode b_Who_becomeProduct 5 = .ok (.iconst 0, 1) := by decide +kernel
theorem d_Who_becomeProduct_6 : decode b_Who_becomeProduct 6 = .ok (.istore_n 3, 1) := by decide +kernel
theorem d_Who_becomeProduct_7 : decode b_Who_becomeProduct 7 = .ok (.iload_n 3, 1) := by decide +kernel
theorem d_Who_becomeProduct_8 : decode b_Who_becomeProduct 8 = .ok (.iconst 4, 1) := by decide +kernel
theorem d_Who_becomeProduct_9 : decode b_Who_becomeProduct 9 = .ok (.if_icmp .ge 89, 3) := by decide +kernel
theorem d_Who_becomeProduct_12 : decode b_Who_becomeProduct 12 = .ok (.lconst 0, 1) := by decide +kernel
theorem d_Who_becomeProduct_13 : decode b_Who_becomeProduct 13 = .ok (.lstore 4, 2) := by decide +kernel
theorem d_Who_becomeProduct_15 : decode b_Who_becomeProduct 15 = .ok (.iconst 0, 1) := by decide +kernel
theorem d_Who_becomeProduct_16 : decode b_Who_becomeProduct 16 = .ok (.istore 6, 2) := by decide +kernel
theorem d_Who_becomeProduct_18 : decode b_Who_becomeProduct 18 = .ok (.iload 6, 2) := by decide +kernel
theorem d_Who_becomeProduct_20 : decode b_Who_becomeProduct 20 = .ok (.iconst 4, 1) := by decide +kernel
theorem d_Who_becomeProduct_21 : decode b_Who_becomeProduct 21 = .ok (.if_icmp .ge 61, 3) := by decide +kernel
theorem d_Who_becomeProduct_24 : decode b_Who_becomeProduct 24 = .ok (.aload_n 1, 1) := by decide +kernel
theorem d_Who_becomeProduct_25 : decode b_Who_becomeProduct 25 = .ok (.getfield 9, 3) := by decide +kernel
theorem d_Who_becomeProduct_28 : decode b_Who_becomeProduct 28 = .ok (.iload_n 3, 1) := by decide +kernel
theorem d_Who_becomeProduct_29 : decode b_Who_becomeProduct 29 = .ok (.laload, 1) := by decide +kernel
theorem d_Who_becomeProduct_30 : decode b_Who_becomeProduct 30 = .ok (.aload_n 2, 1) := by decide +kernel
theorem d_Who_becomeProduct_31 : decode b_Who_becomeProduct 31 = .ok (.getfield 9, 3) := by decide +kernel
theorem d_Who_becomeProduct_34 : decode b_Who_becomeProduct 34 = .ok (.iload 6, 2) := by decide +kernel
theorem d_Who_becomeProduct_36 : decode b_Who_becomeProduct 36 = .ok (.laload, 1) := by decide +kernel
theorem d_Who_becomeProduct_37 : decode b_Who_becomeProduct 37 = .ok (.lmul, 1) := by decide +kernel
theorem d_Who_becomeProduct_38 : decode b_Who_becomeProduct 38 = .ok (.aload_n 0, 1) := by decide +kernel
theorem d_Who_becomeProduct_39 : decode b_Who_becomeProduct 39 = .ok (.getfield 9, 3) := by decide +kernel
theorem d_Who_becomeProduct_42 : decode b_Who_becomeProduct 42 = .ok (.iload_n 3, 1) := by decide +kernel
theorem d_Who_becomeProduct_43 : decode b_Who_becomeProduct 43 = .ok (.iload 6, 2) := by decide +kernel
theorem d_Who_becomeProduct_45 : decode b_Who_becomeProduct 45 = .ok (.iadd, 1) := by decide +kernel
theorem d_Who_becomeProduct_46 : decode b_Who_becomeProduct 46 = .ok (.laload, 1) := by decide +kernel
theorem d_Who_becomeProduct_47 : decode b_Who_becomeProduct 47 = .ok (.ladd, 1) := by decide +kernel
theorem d_Who_becomeProduct_48 : decode b_Who_becomeProduct 48 = .ok (.lload 4, 2) := by decide +kernel
theorem d_Who_becomeProduct_50 : decode b_Who_becomeProduct 50 = .ok (.ladd, 1) := by decide +kernel
theorem d_Who_becomeProduct_51 : decode b_Who_becomeProduct 51 = .ok (.lstore 7, 2) := by decide +kernel
theorem d_Who_becomeProduct_53 : decode b_Who_becomeProduct 53 = .ok (.aload_n 0, 1) := by decide +kernel
theorem d_Who_becomeProduct_54 : decode b_Who_becomeProduct 54 = .ok (.getfield 9, 3) := by decide +kernel
theorem d_Who_becomeProduct_57 : decode b_Who_becomeProduct 57 = .ok (.iload_n 3, 1) := by decide +kernel
theorem d_Who_becomeProduct_58 : decode b_Who_becomeProduct 58 = .ok (.iload 6, 2) := by decide +kernel
theorem d_Who_becomeProduct_60 : decode b_Who_becomeProduct 60 = .ok (.iadd, 1) := by decide +kernel
theorem d_Who_becomeProduct_61 : decode b_Who_becomeProduct 61 = .ok (.lload 7, 2) := by decide +kernel
theorem d_Who_becomeProduct_63 : decode b_Who_becomeProduct 63 = .ok (.ldc2_w 13, 3) := by decide +kernel
theorem d_Who_becomeProduct_66 : decode b_Who_becomeProduct 66 = .ok (.lrem, 1) := by decide +kernel
theorem d_Who_becomeProduct_67 : decode b_Who_becomeProduct 67 = .ok (.lastore, 1) := by decide +kernel
theorem d_Who_becomeProduct_68 : decode b_Who_becomeProduct 68 = .ok (.lload 7, 2) := by decide +kernel
theorem d_Who_becomeProduct_70 : decode b_Who_becomeProduct 70 = .ok (.ldc2_w 13, 3) := by decide +kernel
theorem d_Who_becomeProduct_73 : decode b_Who_becomeProduct 73 = .ok (.ldiv, 1) := by decide +kernel
theorem d_Who_becomeProduct_74 : decode b_Who_becomeProduct 74 = .ok (.lstore 4, 2) := by decide +kernel
theorem d_Who_becomeProduct_76 : decode b_Who_becomeProduct 76 = .ok (.iinc 6 1, 3) := by decide +kernel
theorem d_Who_becomeProduct_79 : decode b_Who_becomeProduct 79 = .ok (.goto (-61), 3) := by decide +kernel
theorem d_Who_becomeProduct_82 : decode b_Who_becomeProduct 82 = .ok (.aload_n 0, 1) := by decide +kernel
theorem d_Who_becomeProduct_83 : decode b_Who_becomeProduct 83 = .ok (.getfield 9, 3) := by decide +kernel
theorem d_Who_becomeProduct_86 : decode b_Who_becomeProduct 86 = .ok (.iload_n 3, 1) := by decide +kernel
theorem d_Who_becomeProduct_87 : decode b_Who_becomeProduct 87 = .ok (.iconst 4, 1) := by decide +kernel
theorem d_Who_becomeProduct_88 : decode b_Who_becomeProduct 88 = .ok (.iadd, 1) := by decide +kernel
theorem d_Who_becomeProduct_89 : decode b_Who_becomeProduct 89 = .ok (.lload 4, 2) := by decide +kernel
theorem d_Who_becomeProduct_91 : decode b_Who_becomeProduct 91 = .ok (.lastore, 1) := by decide +kernel
theorem d_Who_becomeProduct_92 : decode b_Who_becomeProduct 92 = .ok (.iinc 3 1, 3) := by decide +kernel
theorem d_Who_becomeProduct_95 : decode b_Who_becomeProduct 95 = .ok (.goto (-88), 3) := by decide +kernel
theorem d_Who_becomeProduct_98 : decode b_Who_becomeProduct 98 = .ok (.return_, 1) := by decide +kernel
theorem d_Who_divide_0 : decode b_Who_divide 0 = .ok (.lconst 0, 1) := by decide +kernel
theorem d_Who_divide_1 : decode b_Who_divide 1 = .ok (.lstore_n 2, 1) := by decide +kernel
theorem d_Who_divide_2 : decode b_Who_divide 2 = .ok (.bipush 7, 2) := by decide +kernel
theorem d_Who_divide_4 : decode b_Who_divide 4 = .ok (.istore 4, 2) := by decide +kernel
theorem d_Who_divide_6 : decode b_Who_divide 6 = .ok (.iload 4, 2) := by decide +kernel
theorem d_Who_divide_8 : decode b_Who_divide 8 = .ok (.ifCond .lt 42, 3) := by decide +kernel
theorem d_Who_divide_11 : decode b_Who_divide 11 = .ok (.lload_n 2, 1) := by decide +kernel
theorem d_Who_divide_12 : decode b_Who_divide 12 = .ok (.ldc2_w 13, 3) := by decide +kernel
theorem d_Who_divide_15 : decode b_Who_divide 15 = .ok (.lmul, 1) := by decide +kernel
theorem d_Who_divide_16 : decode b_Who_divide 16 = .ok (.aload_n 0, 1) := by decide +kernel
theorem d_Who_divide_17 : decode b_Who_divide 17 = .ok (.getfield 9, 3) := by decide +kernel
theorem d_Who_divide_20 : decode b_Who_divide 20 = .ok (.iload 4, 2) := by decide +kernel
theorem d_Who_divide_22 : decode b_Who_divide 22 = .ok (.laload, 1) := by decide +kernel
theorem d_Who_divide_23 : decode b_Who_divide 23 = .ok (.ladd, 1) := by decide +kernel
theorem d_Who_divide_24 : decode b_Who_divide 24 = .ok (.lstore 5, 2) := by decide +kernel
theorem d_Who_divide_26 : decode b_Who_divide 26 = .ok (.aload_n 0, 1) := by decide +kernel
theorem d_Who_divide_27 : decode b_Who_divide 27 = .ok (.getfield 9, 3) := by decide +kernel
theorem d_Who_divide_30 : decode b_Who_divide 30 = .ok (.iload 4, 2) := by decide +kernel
theorem d_Who_divide_32 : decode b_Who_divide 32 = .ok (.lload 5, 2) := by decide +kernel
theorem d_Who_divide_34 : decode b_Who_divide 34 = .ok (.iload_n 1, 1) := by decide +kernel
theorem d_Who_divide_35 : decode b_Who_divide 35 = .ok (.i2l, 1) := by decide +kernel
theorem d_Who_divide_36 : decode b_Who_divide 36 = .ok (.ldiv, 1) := by decide +kernel
theorem d_Who_divide_37 : decode b_Who_divide 37 = .ok (.lastore, 1) := by decide +kernel
theorem d_Who_divide_38 : decode b_Who_divide 38 = .ok (.lload 5, 2) := by decide +kernel
theorem d_Who_divide_40 : decode b_Who_divide 40 = .ok (.iload_n 1, 1) := by decide +kernel
theorem d_Who_divide_41 : decode b_Who_divide 41 = .ok (.i2l, 1) := by decide +kernel
theorem d_Who_divide_42 : decode b_Who_divide 42 = .ok (.lrem, 1) := by decide +kernel
theorem d_Who_divide_43 : decode b_Who_divide 43 = .ok (.lstore_n 2, 1) := by decide +kernel
theorem d_Who_divide_44 : decode b_Who_divide 44 = .ok (.iinc 4 (-1), 3) := by decide +kernel
theorem d_Who_divide_47 : decode b_Who_divide 47 = .ok (.goto (-41), 3) := by decide +kernel
theorem d_Who_divide_50 : decode b_Who_divide 50 = .ok (.lload_n 2, 1) := by decide +kernel
theorem d_Who_divide_51 : decode b_Who_divide 51 = .ok (.lreturn, 1) := by decide +kernel
theorem d_Who_order_0 : decode b_Who_order 0 = .ok (.bipush 7, 2) := by decide +kernel
theorem d_Who_order_2 : decode b_Who_order 2 = .ok (.istore_n 2, 1) := by decide +kernel
theorem d_Who_order_3 : decode b_Who_order 3 = .ok (.iload_n 2, 1) := by decide +kernel
theorem d_Who_order_4 : decode b_Who_order 4 = .ok (.ifCond .lt 47, 3) := by decide +kernel
theorem d_Who_order_7 : decode b_Who_order 7 = .ok (.aload_n 0, 1) := by decide +kernel
theorem d_Who_order_8 : decode b_Who_order 8 = .ok (.getfield 9, 3) := by decide +kernel
theorem d_Who_order_11 : decode b_Who_order 11 = .ok (.iload_n 2, 1) := by decide +kernel
theorem d_Who_order_12 : decode b_Who_order 12 = .ok (.laload, 1) := by decide +kernel
theorem d_Who_order_13 : decode b_Who_order 13 = .ok (.aload_n 1, 1) := by decide +kernel
theorem d_Who_order_14 : decode b_Who_order 14 = .ok (.getfield 9, 3) := by decide +kernel
theorem d_Who_order_17 : decode b_Who_order 17 = .ok (.iload_n 2, 1) := by decide +kernel
theorem d_Who_order_18 : decode b_Who_order 18 = .ok (.laload, 1) := by decide +kernel
theorem d_Who_order_19 : decode b_Who_order 19 = .ok (.lcmp, 1) := by decide +kernel
theorem d_Who_order_20 : decode b_Who_order 20 = .ok (.ifCond .eq 25, 3) := by decide +kernel
theorem d_Who_order_23 : decode b_Who_order 23 = .ok (.aload_n 0, 1) := by decide +kernel
theorem d_Who_order_24 : decode b_Who_order 24 = .ok (.getfield 9, 3) := by decide +kernel
theorem d_Who_order_27 : decode b_Who_order 27 = .ok (.iload_n 2, 1) := by decide +kernel
theorem d_Who_order_28 : decode b_Who_order 28 = .ok (.laload, 1) := by decide +kernel
theorem d_Who_order_29 : decode b_Who_order 29 = .ok (.aload_n 1, 1) := by decide +kernel
theorem d_Who_order_30 : decode b_Who_order 30 = .ok (.getfield 9, 3) := by decide +kernel
theorem d_Who_order_33 : decode b_Who_order 33 = .ok (.iload_n 2, 1) := by decide +kernel
theorem d_Who_order_34 : decode b_Who_order 34 = .ok (.laload, 1) := by decide +kernel
theorem d_Who_order_35 : decode b_Who_order 35 = .ok (.lcmp, 1) := by decide +kernel
theorem d_Who_order_36 : decode b_Who_order 36 = .ok (.ifCond .ge 7, 3) := by decide +kernel
theorem d_Who_order_39 : decode b_Who_order 39 = .ok (.iconst (-1), 1) := by decide +kernel
theorem d_Who_order_40 : decode b_Who_order 40 = .ok (.goto 4, 3) := by decide +kernel
theorem d_Who_order_43 : decode b_Who_order 43 = .ok (.iconst 1, 1) := by decide +kernel
theorem d_Who_order_44 : decode b_Who_order 44 = .ok (.ireturn, 1) := by decide +kernel
theorem d_Who_order_45 : decode b_Who_order 45 = .ok (.iinc 2 (-1), 3) := by decide +kernel
theorem d_Who_order_48 : decode b_Who_order 48 = .ok (.goto (-45), 3) := by decide +kernel
theorem d_Who_order_51 : decode b_Who_order 51 = .ok (.iconst 0, 1) := by decide +kernel
theorem d_Who_order_52 : decode b_Who_order 52 = .ok (.ireturn, 1) := by decide +kernel
theorem d_Who_isZero_0 : decode b_Who_isZero 0 = .ok (.iconst 0, 1) := by decide +kernel
theorem d_Who_isZero_1 : decode b_Who_isZero 1 = .ok (.istore_n 1, 1) := by decide +kernel
theorem d_Who_isZero_2 : decode b_Who_isZero 2 = .ok (.iload_n 1, 1) := by decide +kernel
theorem d_Who_isZero_3 : decode b_Who_isZero 3 = .ok (.bipush 8, 2) := by decide +kernel
theorem d_Who_isZero_5 : decode b_Who_isZero 5 = .ok (.if_icmp .ge 22, 3) := by decide +kernel
theorem d_Who_isZero_8 : decode b_Who_isZero 8 = .ok (.aload_n 0, 1) := by decide +kernel
theorem d_Who_isZero_9 : decode b_Who_isZero 9 = .ok (.getfield 9, 3) := by decide +kernel
theorem d_Who_isZero_12 : decode b_Who_isZero 12 = .ok (.iload_n 1, 1) := by decide +kernel
theorem d_Who_isZero_13 : decode b_Who_isZero 13 = .ok (.laload, 1) := by decide +kernel
theorem d_Who_isZero_14 : decode b_Who_isZero 14 = .ok (.lconst 0, 1) := by decide +kernel
theorem d_Who_isZero_15 : decode b_Who_isZero 15 = .ok (.lcmp, 1) := by decide +kernel
theorem d_Who_isZero_16 : decode b_Who_isZero 16 = .ok (.ifCond .eq 5, 3) := by decide +kernel
theorem d_Who_isZero_19 : decode b_Who_isZero 19 = .ok (.iconst 0, 1) := by decide +kernel
theorem d_Who_isZero_20 : decode b_Who_isZero 20 = .ok (.ireturn, 1) := by decide +kernel
theorem d_Who_isZero_21 : decode b_Who_isZero 21 = .ok (.iinc 1 1, 3) := by decide +kernel
theorem d_Who_isZero_24 : decode b_Who_isZero 24 = .ok (.goto (-22), 3) := by decide +kernel
theorem d_Who_isZero_27 : decode b_Who_isZero 27 = .ok (.iconst 1, 1) := by decide +kernel
theorem d_Who_isZero_28 : decode b_Who_isZero 28 = .ok (.ireturn, 1) := by decide +kernel
theorem d_Who_isWeight_0 : decode b_Who_isWeight 0 = .ok (.iconst 4, 1) := by decide +kernel
theorem d_Who_isWeight_1 : decode b_Who_isWeight 1 = .ok (.istore_n 1, 1) := by decide +kernel
theorem d_Who_isWeight_2 : decode b_Who_isWeight 2 = .ok (.iload_n 1, 1) := by decide +kernel
theorem d_Who_isWeight_3 : decode b_Who_isWeight 3 = .ok (.bipush 8, 2) := by decide +kernel
theorem d_Who_isWeight_5 : decode b_Who_isWeight 5 = .ok (.if_icmp .ge 22, 3) := by decide +kernel
theorem d_Who_isWeight_8 : decode b_Who_isWeight 8 = .ok (.aload_n 0, 1) := by decide +kernel
theorem d_Who_isWeight_9 : decode b_Who_isWeight 9 = .ok (.getfield 9, 3) := by decide +kernel
theorem d_Who_isWeight_12 : decode b_Who_isWeight 12 = .ok (.iload_n 1, 1) := by decide +kernel
theorem d_Who_isWeight_13 : decode b_Who_isWeight 13 = .ok (.laload, 1) := by decide +kernel
theorem d_Who_isWeight_14 : decode b_Who_isWeight 14 = .ok (.lconst 0, 1) := by decide +kernel
theorem d_Who_isWeight_15 : decode b_Who_isWeight 15 = .ok (.lcmp, 1) := by decide +kernel
theorem d_Who_isWeight_16 : decode b_Who_isWeight 16 = .ok (.ifCond .eq 5, 3) := by decide +kernel
theorem d_Who_isWeight_19 : decode b_Who_isWeight 19 = .ok (.iconst 0, 1) := by decide +kernel
theorem d_Who_isWeight_20 : decode b_Who_isWeight 20 = .ok (.ireturn, 1) := by decide +kernel
theorem d_Who_isWeight_21 : decode b_Who_isWeight 21 = .ok (.iinc 1 1, 3) := by decide +kernel
theorem d_Who_isWeight_24 : decode b_Who_isWeight 24 = .ok (.goto (-22), 3) := by decide +kernel
theorem d_Who_isWeight_27 : decode b_Who_isWeight 27 = .ok (.iconst 1, 1) := by decide +kernel
theorem d_Who_isWeight_28 : decode b_Who_isWeight 28 = .ok (.ireturn, 1) := by decide +kernel
theorem d_Who_digitAt_0 : decode b_Who_digitAt 0 = .ok (.aload_n 0, 1) := by decide +kernel
theorem d_Who_digitAt_1 : decode b_Who_digitAt 1 = .ok (.getfield 9, 3) := by decide +kernel
theorem d_Who_digitAt_4 : decode b_Who_digitAt 4 = .ok (.iload_n 1, 1) := by decide +kernel
theorem d_Who_digitAt_5 : decode b_Who_digitAt 5 = .ok (.bipush 9, 2) := by decide +kernel
theorem d_Who_digitAt_7 : decode b_Who_digitAt 7 = .ok (.idiv, 1) := by decide +kernel
theorem d_Who_digitAt_8 : decode b_Who_digitAt 8 = .ok (.laload, 1) := by decide +kernel
theorem d_Who_digitAt_9 : decode b_Who_digitAt 9 = .ok (.lstore_n 2, 1) := by decide +kernel
theorem d_Who_digitAt_10 : decode b_Who_digitAt 10 = .ok (.iload_n 1, 1) := by decide +kernel
theorem d_Who_digitAt_11 : decode b_Who_digitAt 11 = .ok (.bipush 9, 2) := by decide +kernel
theorem d_Who_digitAt_13 : decode b_Who_digitAt 13 = .ok (.irem, 1) := by decide +kernel
theorem d_Who_digitAt_14 : decode b_Who_digitAt 14 = .ok (.istore 4, 2) := by decide +kernel
theorem d_Who_digitAt_16 : decode b_Who_digitAt 16 = .ok (.iload 4, 2) := by decide +kernel
theorem d_Who_digitAt_18 : decode b_Who_digitAt 18 = .ok (.ifCond .le 15, 3) := by decide +kernel
theorem d_Who_digitAt_21 : decode b_Who_digitAt 21 = .ok (.lload_n 2, 1) := by decide +kernel
theorem d_Who_digitAt_22 : decode b_Who_digitAt 22 = .ok (.ldc2_w 19, 3) := by decide +kernel
theorem d_Who_digitAt_25 : decode b_Who_digitAt 25 = .ok (.ldiv, 1) := by decide +kernel
theorem d_Who_digitAt_26 : decode b_Who_digitAt 26 = .ok (.lstore_n 2, 1) := by decide +kernel
theorem d_Who_digitAt_27 : decode b_Who_digitAt 27 = .ok (.iinc 4 (-1), 3) := by decide +kernel
theorem d_Who_digitAt_30 : decode b_Who_digitAt 30 = .ok (.goto (-14), 3) := by decide +kernel
theorem d_Who_digitAt_33 : decode b_Who_digitAt 33 = .ok (.lload_n 2, 1) := by decide +kernel
theorem d_Who_digitAt_34 : decode b_Who_digitAt 34 = .ok (.ldc2_w 19, 3) := by decide +kernel
theorem d_Who_digitAt_37 : decode b_Who_digitAt 37 = .ok (.lrem, 1) := by decide +kernel
theorem d_Who_digitAt_38 : decode b_Who_digitAt 38 = .ok (.l2i, 1) := by decide +kernel
theorem d_Who_digitAt_39 : decode b_Who_digitAt 39 = .ok (.ireturn, 1) := by decide +kernel
end
section
theorem d_Yf_init_0 : decode b_Yf_init 0 = .ok (.aload_n 0, 1) := by decide +kernel
theorem d_Yf_init_1 : decode b_Yf_init 1 = .ok (.invokespecial 1, 3) := by decide +kernel
theorem d_Yf_init_4 : decode b_Yf_init 4 = .ok (.aload_n 0, 1) := by decide +kernel
theorem d_Yf_init_5 : decode b_Yf_init 5 = .ok (.bipush 8, 2) := by decide +kernel
theorem d_Yf_init_7 : decode b_Yf_init 7 = .ok (.anewarray 9, 3) := by decide +kernel
theorem d_Yf_init_10 : decode b_Yf_init 10 = .ok (.putfield 11, 3) := by decide +kernel
theorem d_Yf_init_13 : decode b_Yf_init 13 = .ok (.iconst 0, 1) := by decide +kernel
theorem d_Yf_init_14 : decode b_Yf_init 14 = .ok (.istore_n 1, 1) := by decide +kernel
theorem d_Yf_init_15 : decode b_Yf_init 15 = .ok (.iload_n 1, 1) := by decide +kernel
theorem d_Yf_init_16 : decode b_Yf_init 16 = .ok (.bipush 8, 2) := by decide +kernel
theorem d_Yf_init_18 : decode b_Yf_init 18 = .ok (.if_icmp .ge 22, 3) := by decide +kernel
theorem d_Yf_init_21 : decode b_Yf_init 21 = .ok (.aload_n 0, 1) := by decide +kernel
theorem d_Yf_init_22 : decode b_Yf_init 22 = .ok (.getfield 11, 3) := by decide +kernel
theorem d_Yf_init_25 : decode b_Yf_init 25 = .ok (.iload_n 1, 1) := by decide +kernel
theorem d_Yf_init_26 : decode b_Yf_init 26 = .ok (.new 9, 3) := by decide +kernel
theorem d_Yf_init_29 : decode b_Yf_init 29 = .ok (.dup, 1) := by decide +kernel
theorem d_Yf_init_30 : decode b_Yf_init 30 = .ok (.invokespecial 15, 3) := by decide +kernel
theorem d_Yf_init_33 : decode b_Yf_init 33 = .ok (.aastore, 1) := by decide +kernel
theorem d_Yf_init_34 : decode b_Yf_init 34 = .ok (.iinc 1 1, 3) := by decide +kernel
theorem d_Yf_init_37 : decode b_Yf_init 37 = .ok (.goto (-22), 3) := by decide +kernel
theorem d_Yf_init_40 : decode b_Yf_init 40 = .ok (.aload_n 0, 1) := by decide +kernel
theorem d_Yf_init_41 : decode b_Yf_init 41 = .ok (.iconst 0, 1) := by decide +kernel
theorem d_Yf_init_42 : decode b_Yf_init 42 = .ok (.putfield 16, 3) := by decide +kernel
theorem d_Yf_init_45 : decode b_Yf_init 45 = .ok (.aload_n 0, 1) := by decide +kernel
theorem d_Yf_init_46 : decode b_Yf_init 46 = .ok (.lconst 0, 1) := by decide +kernel
theorem d_Yf_init_47 : decode b_Yf_init 47 = .ok (.putfield 20, 3) := by decide +kernel
theorem d_Yf_init_50 : decode b_Yf_init 50 = .ok (.aload_n 0, 1) := by decide +kernel
theorem d_Yf_init_51 : decode b_Yf_init 51 = .ok (.new 24, 3) := by decide +kernel
theorem d_Yf_init_54 : decode b_Yf_init 54 = .ok (.dup, 1) := by decide +kernel
theorem d_Yf_init_55 : decode b_Yf_init 55 = .ok (.invokespecial 26, 3) := by decide +kernel
theorem d_Yf_init_58 : decode b_Yf_init 58 = .ok (.putfield 27, 3) := by decide +kernel
theorem d_Yf_init_61 : decode b_Yf_init 61 = .ok (.aload_n 0, 1) := by decide +kernel
theorem d_Yf_init_62 : decode b_Yf_init 62 = .ok (.new 31, 3) := by decide +kernel
theorem d_Yf_init_65 : decode b_Yf_init 65 = .ok (.dup, 1) := by decide +kernel
theorem d_Yf_init_66 : decode b_Yf_init 66 = .ok (.invokespecial 33, 3) := by decide +kernel
theorem d_Yf_init_69 : decode b_Yf_init 69 = .ok (.putfield 34, 3) := by decide +kernel
theorem d_Yf_init_72 : decode b_Yf_init 72 = .ok (.aload_n 0, 1) := by decide +kernel
theorem d_Yf_init_73 : decode b_Yf_init 73 = .ok (.new 31, 3) := by decide +kernel
theorem d_Yf_init_76 : decode b_Yf_init 76 = .ok (.dup, 1) := by decide +kernel
theorem d_Yf_init_77 : decode b_Yf_init 77 = .ok (.invokespecial 33, 3) := by decide +kernel
theorem d_Yf_init_80 : decode b_Yf_init 80 = .ok (.putfield 38, 3) := by decide +kernel
theorem d_Yf_init_83 : decode b_Yf_init 83 = .ok (.aload_n 0, 1) := by decide +kernel
theorem d_Yf_init_84 : decode b_Yf_init 84 = .ok (.new 31, 3) := by decide +kernel
theorem d_Yf_init_87 : decode b_Yf_init 87 = .ok (.dup, 1) := by decide +kernel
theorem d_Yf_init_88 : decode b_Yf_init 88 = .ok (.invokespecial 33, 3) := by decide +kernel
theorem d_Yf_init_91 : decode b_Yf_init 91 = .ok (.putfield 41, 3) := by decide +kernel
theorem d_Yf_init_94 : decode b_Yf_init 94 = .ok (.return_, 1) := by decide +kernel
theorem d_Yf_row_0 : decode b_Yf_row 0 = .ok (.aload_n 0, 1) := by decide +kernel
theorem d_Yf_row_1 : decode b_Yf_row 1 = .ok (.invokevirtual 44, 3) := by decide +kernel
theorem d_Yf_row_4 : decode b_Yf_row 4 = .ok (.astore_n 3, 1) := by decide +kernel
theorem d_Yf_row_5 : decode b_Yf_row 5 = .ok (.iload_n 2, 1) := by decide +kernel
theorem d_Yf_row_6 : decode b_Yf_row 6 = .ok (.iconst 1, 1) := by decide +kernel
theorem d_Yf_row_7 : decode b_Yf_row 7 = .ok (.if_icmp .lt 9, 3) := by decide +kernel
theorem d_Yf_row_10 : decode b_Yf_row 10 = .ok (.iload_n 2, 1) := by decide +kernel
theorem d_Yf_row_11 : decode b_Yf_row 11 = .ok (.bipush 48, 2) := by decide +kernel
theorem d_Yf_row_13 : decode b_Yf_row 13 = .ok (.if_icmp .le 13, 3) := by decide +kernel
theorem d_Yf_row_16 : decode b_Yf_row 16 = .ok (.new 48, 3) := by decide +kernel
theorem d_Yf_row_19 : decode b_Yf_row 19 = .ok (.dup, 1) := by decide +kernel
theorem d_Yf_row_20 : decode b_Yf_row 20 = .ok (.ldc 50, 2) := by decide +kernel
theorem d_Yf_row_22 : decode b_Yf_row 22 = .ok (.invokespecial 52, 3) := by decide +kernel
theorem d_Yf_row_25 : decode b_Yf_row 25 = .ok (.athrow, 1) := by decide +kernel
theorem d_Yf_row_26 : decode b_Yf_row 26 = .ok (.iload_n 1, 1) := by decide +kernel
theorem d_Yf_row_27 : decode b_Yf_row 27 = .ok (.sipush (-9999), 3) := by decide +kernel
theorem d_Yf_row_30 : decode b_Yf_row 30 = .ok (.if_icmp .lt 14, 3) := by decide +kernel
theorem d_Yf_row_33 : decode b_Yf_row 33 = .ok (.iload_n 1, 1) := by decide +kernel
theorem d_Yf_row_34 : decode b_Yf_row 34 = .ok (.sipush 9999, 3) := by decide +kernel
theorem d_Yf_row_37 : decode b_Yf_row 37 = .ok (.iload_n 2, 1) := by decide +kernel
theorem d_Yf_row_38 : decode b_Yf_row 38 = .ok (.iconst 1, 1) := by decide +kernel
theorem d_Yf_row_39 : decode b_Yf_row 39 = .ok (.isub, 1) := by decide +kernel
theorem d_Yf_row_40 : decode b_Yf_row 40 = .ok (.isub, 1) := by decide +kernel
theorem d_Yf_row_41 : decode b_Yf_row 41 = .ok (.if_icmp .le 13, 3) := by decide +kernel
theorem d_Yf_row_44 : decode b_Yf_row 44 = .ok (.new 48, 3) := by decide +kernel
theorem d_Yf_row_47 : decode b_Yf_row 47 = .ok (.dup, 1) := by decide +kernel
theorem d_Yf_row_48 : decode b_Yf_row 48 = .ok (.ldc 55, 2) := by decide +kernel
theorem d_Yf_row_50 : decode b_Yf_row 50 = .ok (.invokespecial 52, 3) := by decide +kernel
theorem d_Yf_row_53 : decode b_Yf_row 53 = .ok (.athrow, 1) := by decide +kernel
theorem d_Yf_row_54 : decode b_Yf_row 54 = .ok (.aload_n 3, 1) := by decide +kernel
theorem d_Yf_row_55 : decode b_Yf_row 55 = .ok (.iload_n 1, 1) := by decide +kernel
theorem d_Yf_row_56 : decode b_Yf_row 56 = .ok (.iload_n 2, 1) := by decide +kernel
theorem d_Yf_row_57 : decode b_Yf_row 57 = .ok (.invokevirtual 57, 3) := by decide +kernel
theorem d_Yf_row_60 : decode b_Yf_row 60 = .ok (.aload_n 0, 1) := by decide +kernel
theorem d_Yf_row_61 : decode b_Yf_row 61 = .ok (.invokevirtual 61, 3) := by decide +kernel
theorem d_Yf_row_64 : decode b_Yf_row 64 = .ok (.ireturn, 1) := by decide +kernel
theorem d_Yf_weight_0 : decode b_Yf_weight 0 = .ok (.aload_n 0, 1) := by decide +kernel
theorem d_Yf_weight_1 : decode b_Yf_weight 1 = .ok (.iload_n 1, 1) := by decide +kernel
theorem d_Yf_weight_2 : decode b_Yf_weight 2 = .ok (.iload_n 2, 1) := by decide +kernel
theorem d_Yf_weight_3 : decode b_Yf_weight 3 = .ok (.invokevirtual 65, 3) := by decide +kernel
theorem d_Yf_weight_6 : decode b_Yf_weight 6 = .ok (.astore 5, 2) := by decide +kernel
theorem d_Yf_weight_8 : decode b_Yf_weight 8 = .ok (.lload_n 3, 1) := by decide +kernel
theorem d_Yf_weight_9 : decode b_Yf_weight 9 = .ok (.lconst 0, 1) := by decide +kernel
theorem d_Yf_weight_10 : decode b_Yf_weight 10 = .ok (.lcmp, 1) := by decide +kernel
theorem d_Yf_weight_11 : decode b_Yf_weight 11 = .ok (.ifCond .ge 13, 3) := by decide +kernel
theorem d_Yf_weight_14 : decode b_Yf_weight 14 = .ok (.new 48, 3) := by decide +kernel
theorem d_Yf_weight_17 : decode b_Yf_weight 17 = .ok (.dup, 1) := by decide +kernel
theorem d_Yf_weight_18 : decode b_Yf_weight 18 = .ok (.ldc 69, 2) := by decide +kernel
theorem d_Yf_weight_20 : decode b_Yf_weight 20 = .ok (.invokespecial 52, 3) := by decide +kernel
theorem d_Yf_weight_23 : decode b_Yf_weight 23 = .ok (.athrow, 1) := by decide +kernel
theorem d_Yf_weight_24 : decode b_Yf_weight 24 = .ok (.aload 5, 2) := by decide +kernel
theorem d_Yf_weight_26 : decode b_Yf_weight 26 = .ok (.iload_n 2, 1) := by decide +kernel
theorem d_Yf_weight_27 : decode b_Yf_weight 27 = .ok (.aload_n 0, 1) := by decide +kernel
theorem d_Yf_weight_28 : decode b_Yf_weight 28 = .ok (.getfield 34, 3) := by decide +kernel
theorem d_Yf_weight_31 : decode b_Yf_weight 31 = .ok (.invokevirtual 71, 3) := by decide +kernel
theorem d_Yf_weight_34 : decode b_Yf_weight 34 = .ok (.aload_n 0, 1) := by decide +kernel
theorem d_Yf_weight_35 : decode b_Yf_weight 35 = .ok (.getfield 38, 3) := by decide +kernel
theorem d_Yf_weight_38 : decode b_Yf_weight 38 = .ok (.lload_n 3, 1) := by decide +kernel
theorem d_Yf_weight_39 : decode b_Yf_weight 39 = .ok (.invokevirtual 75, 3) := by decide +kernel
theorem d_Yf_weight_42 : decode b_Yf_weight 42 = .ok (.aload 5, 2) := by decide +kernel
theorem d_Yf_weight_44 : decode b_Yf_weight 44 = .ok (.iload_n 2, 1) := by decide +kernel
theorem d_Yf_weight_45 : decode b_Yf_weight 45 = .ok (.aload_n 0, 1) := by decide +kernel
theorem d_Yf_weight_46 : decode b_Yf_weight 46 = .ok (.getfield 38, 3) := by decide +kernel
theorem d_Yf_weight_49 : decode b_Yf_weight 49 = .ok (.invokevirtual 79, 3) := by decide +kernel
theorem d_Yf_weight_52 : decode b_Yf_weight 52 = .ok (.aload_n 0, 1) := by decide +kernel
theorem d_Yf_weight_53 : decode b_Yf_weight 53 = .ok (.getfield 34, 3) := by decide +kernel
theorem d_Yf_weight_56 : decode b_Yf_weight 56 = .ok (.aload_n 0, 1) := by decide +kernel
theorem d_Yf_weight_57 : decode b_Yf_weight 57 = .ok (.getfield 38, 3) := by decide +kernel
theorem d_Yf_weight_60 : decode b_Yf_weight 60 = .ok (.invokevirtual 82, 3) := by decide +kernel
theorem d_Yf_weight_63 : decode b_Yf_weight 63 = .ok (.ifCond .eq 7, 3) := by decide +kernel
theorem d_Yf_weight_66 : decode b_Yf_weight 66 = .ok (.iconst 1, 1) := by decide +kernel
theorem d_Yf_weight_67 : decode b_Yf_weight 67 = .ok (.goto 4, 3) := by decide +kernel
theorem d_Yf_weight_70 : decode b_Yf_weight 70 = .ok (.iconst 0, 1) := by decide +kernel
theorem d_Yf_weight_71 : decode b_Yf_weight 71 = .ok (.ireturn, 1) := by decide +kernel
theorem d_Yf_add_0 : decode b_Yf_add 0 = .ok (.aload_n 0, 1) := by decide +kernel
theorem d_Yf_add_1 : decode b_Yf_add 1 = .ok (.iload_n 1, 1) := by decide +kernel
theorem d_Yf_add_2 : decode b_Yf_add 2 = .ok (.invokevirtual 86, 3) := by decide +kernel
theorem d_Yf_add_5 : decode b_Yf_add 5 = .ok (.astore_n 3, 1) := by decide +kernel
theorem d_Yf_add_6 : decode b_Yf_add 6 = .ok (.aload_n 0, 1) := by decide +kernel
theorem d_Yf_add_7 : decode b_Yf_add 7 = .ok (.iload_n 2, 1) := by decide +kernel
theorem d_Yf_add_8 : decode b_Yf_add 8 = .ok (.invokevirtual 86, 3) := by decide +kernel
theorem d_Yf_add_11 : decode b_Yf_add 11 = .ok (.astore 4, 2) := by decide +kernel
theorem d_Yf_add_13 : decode b_Yf_add 13 = .ok (.aload_n 0, 1) := by decide +kernel
theorem d_Yf_add_14 : decode b_Yf_add 14 = .ok (.invokevirtual 44, 3) := by decide +kernel
theorem d_Yf_add_17 : decode b_Yf_add 17 = .ok (.astore 5, 2) := by decide +kernel
theorem d_Yf_add_19 : decode b_Yf_add 19 = .ok (.aload_n 3, 1) := by decide +kernel
theorem d_Yf_add_20 : decode b_Yf_add 20 = .ok (.getfield 90, 3) := by decide +kernel
theorem d_Yf_add_23 : decode b_Yf_add 23 = .ok (.aload 4, 2) := by decide +kernel
theorem d_Yf_add_25 : decode b_Yf_add 25 = .ok (.getfield 90, 3) := by decide +kernel
theorem d_Yf_add_28 : decode b_Yf_add 28 = .ok (.invokestatic 93, 3) := by decide +kernel
theorem d_Yf_add_31 : decode b_Yf_add 31 = .ok (.istore 6, 2) := by decide +kernel
theorem d_Yf_add_33 : decode b_Yf_add 33 = .ok (.aload_n 3, 1) := by decide +kernel
theorem d_Yf_add_34 : decode b_Yf_add 34 = .ok (.invokevirtual 99, 3) := by decide +kernel
theorem d_Yf_add_37 : decode b_Yf_add 37 = .ok (.aload 4, 2) := by decide +kernel
theorem d_Yf_add_39 : decode b_Yf_add 39 = .ok (.invokevirtual 99, 3) := by decide +kernel
theorem d_Yf_add_42 : decode b_Yf_add 42 = .ok (.invokestatic 102, 3) := by decide +kernel
theorem d_Yf_add_45 : decode b_Yf_add 45 = .ok (.istore 7, 2) := by decide +kernel
theorem d_Yf_add_47 : decode b_Yf_add 47 = .ok (.iload 7, 2) := by decide +kernel
theorem d_Yf_add_49 : decode b_Yf_add 49 = .ok (.iload 6, 2) := by decide +kernel
theorem d_Yf_add_51 : decode b_Yf_add 51 = .ok (.isub, 1) := by decide +kernel
theorem d_Yf_add_52 : decode b_Yf_add 52 = .ok (.bipush 48, 2) := by decide +kernel
theorem d_Yf_add_54 : decode b_Yf_add 54 = .ok (.if_icmp .lt 13, 3) := by decide +kernel
theorem d_Yf_add_57 : decode b_Yf_add 57 = .ok (.new 48, 3) := by decide +kernel
theorem d_Yf_add_60 : decode b_Yf_add 60 = .ok (.dup, 1) := by decide +kernel
theorem d_Yf_add_61 : decode b_Yf_add 61 = .ok (.ldc 105, 2) := by decide +kernel
theorem d_Yf_add_63 : decode b_Yf_add 63 = .ok (.invokespecial 52, 3) := by decide +kernel
theorem d_Yf_add_66 : decode b_Yf_add 66 = .ok (.athrow, 1) := by decide +kernel
theorem d_Yf_add_67 : decode b_Yf_add 67 = .ok (.aload 5, 2) := by decide +kernel
theorem d_Yf_add_69 : decode b_Yf_add 69 = .ok (.iload 6, 2) := by decide +kernel
theorem d_Yf_add_71 : decode b_Yf_add 71 = .ok (.iload 7, 2) := by decide +kernel
theorem d_Yf_add_73 : decode b_Yf_add 73 = .ok (.iload 6, 2) := by decide +kernel
theorem d_Yf_add_75 : decode b_Yf_add 75 = .ok (.isub, 1) := by decide +kernel
theorem d_Yf_add_76 : decode b_Yf_add 76 = .ok (.iconst 1, 1) := by decide +kernel
theorem d_Yf_add_77 : decode b_Yf_add 77 = .ok (.iadd, 1) := by decide +kernel
theorem d_Yf_add_78 : decode b_Yf_add 78 = .ok (.invokevirtual 57, 3) := by decide +kernel
theorem d_Yf_add_81 : decode b_Yf_add 81 = .ok (.iload 6, 2) := by decide +kernel
theorem d_Yf_add_83 : decode b_Yf_add 83 = .ok (.istore 8, 2) := by decide +kernel
theorem d_Yf_add_85 : decode b_Yf_add 85 = .ok (.iload 8, 2) := by decide +kernel
theorem d_Yf_add_87 : decode b_Yf_add 87 = .ok (.iload 7, 2) := by decide +kernel
theorem d_Yf_add_89 : decode b_Yf_add 89 = .ok (.if_icmp .gt 52, 3) := by decide +kernel
theorem d_Yf_add_92 : decode b_Yf_add 92 = .ok (.aload_n 3, 1) := by decide +kernel
theorem d_Yf_add_93 : decode b_Yf_add 93 = .ok (.iload 8, 2) := by decide +kernel
theorem d_Yf_add_95 : decode b_Yf_add 95 = .ok (.aload_n 0, 1) := by decide +kernel
theorem d_Yf_add_96 : decode b_Yf_add 96 = .ok (.getfield 34, 3) := by decide +kernel
theorem d_Yf_add_99 : decode b_Yf_add 99 = .ok (.invokevirtual 71, 3) := by decide +kernel
theorem d_Yf_add_102 : decode b_Yf_add 102 = .ok (.aload 4, 2) := by decide +kernel
theorem d_Yf_add_104 : decode b_Yf_add 104 = .ok (.iload 8, 2) := by decide +kernel
theorem d_Yf_add_106 : decode b_Yf_add 106 = .ok (.aload_n 0, 1) := by decide +kernel
theorem d_Yf_add_107 : decode b_Yf_add 107 = .ok (.getfield 38, 3) := by decide +kernel
theorem d_Yf_add_110 : decode b_Yf_add 110 = .ok (.invokevirtual 71, 3) := by decide +kernel
theorem d_Yf_add_113 : decode b_Yf_add 113 = .ok (.aload_n 0, 1) := by decide +kernel
theorem d_Yf_add_114 : decode b_Yf_add 114 = .ok (.getfield 34, 3) := by decide +kernel
theorem d_Yf_add_117 : decode b_Yf_add 117 = .ok (.aload_n 0, 1) := by decide +kernel
theorem d_Yf_add_118 : decode b_Yf_add 118 = .ok (.getfield 38, 3) := by decide +kernel
theorem d_Yf_add_121 : decode b_Yf_add 121 = .ok (.invokevirtual 107, 3) := by decide +kernel
theorem d_Yf_add_124 : decode b_Yf_add 124 = .ok (.aload 5, 2) := by decide +kernel
theorem d_Yf_add_126 : decode b_Yf_add 126 = .ok (.iload 8, 2) := by decide +kernel
theorem d_Yf_add_128 : decode b_Yf_add 128 = .ok (.aload_n 0, 1) := by decide +kernel
theorem d_Yf_add_129 : decode b_Yf_add 129 = .ok (.getfield 34, 3) := by decide +kernel
theorem d_Yf_add_132 : decode b_Yf_add 132 = .ok (.invokestatic 111, 3) := by decide +kernel
theorem d_Yf_add_135 : decode b_Yf_add 135 = .ok (.iinc 8 1, 3) := by decide +kernel
theorem d_Yf_add_138 : decode b_Yf_add 138 = .ok (.goto (-53), 3) := by decide +kernel
theorem d_Yf_add_141 : decode b_Yf_add 141 = .ok (.aload_n 0, 1) := by decide +kernel
theorem d_Yf_add_142 : decode b_Yf_add 142 = .ok (.invokevirtual 61, 3) := by decide +kernel
theorem d_Yf_add_145 : decode b_Yf_add 145 = .ok (.ireturn, 1) := by decide +kernel
theorem d_Yf_times_0 : decode b_Yf_times 0 = .ok (.aload_n 0, 1) := by decide +kernel
theorem d_Yf_times_1 : decode b_Yf_times 1 = .ok (.iload_n 1, 1) := by decide +kernel
theorem d_Yf_times_2 : decode b_Yf_times 2 = .ok (.invokevirtual 86, 3) := by decide +kernel
theorem d_Yf_times_5 : decode b_Yf_times 5 = .ok (.astore 4, 2) := by decide +kernel
theorem d_Yf_times_7 : decode b_Yf_times 7 = .ok (.aload_n 0, 1) := by decide +kernel
theorem d_Yf_times_8 : decode b_Yf_times 8 = .ok (.iload_n 2, 1) := by decide +kernel
theorem d_Yf_times_9 : decode b_Yf_times 9 = .ok (.invokevirtual 86, 3) := by decide +kernel
theorem d_Yf_times_12 : decode b_Yf_times 12 = .ok (.astore 5, 2) := by decide +kernel
theorem d_Yf_times_14 : decode b_Yf_times 14 = .ok (.aload_n 0, 1) := by decide +kernel
theorem d_Yf_times_15 : decode b_Yf_times 15 = .ok (.invokevirtual 44, 3) := by decide +kernel
theorem d_Yf_times_18 : decode b_Yf_times 18 = .ok (.astore 6, 2) := by decide +kernel
theorem d_Yf_times_20 : decode b_Yf_times 20 = .ok (.iload_n 3, 1) := by decide +kernel
theorem d_Yf_times_21 : decode b_Yf_times 21 = .ok (.iconst 1, 1) := by decide +kernel
theorem d_Yf_times_22 : decode b_Yf_times 22 = .ok (.if_icmp .lt 9, 3) := by decide +kernel
theorem d_Yf_times_25 : decode b_Yf_times 25 = .ok (.iload_n 3, 1) := by decide +kernel
theorem d_Yf_times_26 : decode b_Yf_times 26 = .ok (.ldc 115, 2) := by decide +kernel
theorem d_Yf_times_28 : decode b_Yf_times 28 = .ok (.if_icmp .le 13, 3) := by decide +kernel
theorem d_Yf_times_31 : decode b_Yf_times 31 = .ok (.new 48, 3) := by decide +kernel
theorem d_Yf_times_34 : decode b_Yf_times 34 = .ok (.dup, 1) := by decide +kernel
theorem d_Yf_times_35 : decode b_Yf_times 35 = .ok (.ldc 116, 2) := by decide +kernel
theorem d_Yf_times_37 : decode b_Yf_times 37 = .ok (.invokespecial 52, 3) := by decide +kernel
theorem d_Yf_times_40 : decode b_Yf_times 40 = .ok (.athrow, 1) := by decide +kernel
theorem d_Yf_times_41 : decode b_Yf_times 41 = .ok (.aload 4, 2) := by decide +kernel
theorem d_Yf_times_43 : decode b_Yf_times 43 = .ok (.getfield 90, 3) := by decide +kernel
theorem d_Yf_times_46 : decode b_Yf_times 46 = .ok (.aload 5, 2) := by decide +kernel
theorem d_Yf_times_48 : decode b_Yf_times 48 = .ok (.getfield 90, 3) := by decide +kernel
theorem d_Yf_times_51 : decode b_Yf_times 51 = .ok (.invokestatic 102, 3) := by decide +kernel
theorem d_Yf_times_54 : decode b_Yf_times 54 = .ok (.istore 7, 2) := by decide +kernel
theorem d_Yf_times_56 : decode b_Yf_times 56 = .ok (.aload 4, 2) := by decide +kernel
theorem d_Yf_times_58 : decode b_Yf_times 58 = .ok (.invokevirtual 99, 3) := by decide +kernel
theorem d_Yf_times_61 : decode b_Yf_times 61 = .ok (.aload 5, 2) := by decide +kernel
theorem d_Yf_times_63 : decode b_Yf_times 63 = .ok (.invokevirtual 99, 3) := by decide +kernel
theorem d_Yf_times_66 : decode b_Yf_times 66 = .ok (.invokestatic 93, 3) := by decide +kernel
theorem d_Yf_times_69 : decode b_Yf_times 69 = .ok (.istore 8, 2) := by decide +kernel
theorem d_Yf_times_71 : decode b_Yf_times 71 = .ok (.iload 7, 2) := by decide +kernel
theorem d_Yf_times_73 : decode b_Yf_times 73 = .ok (.iload 8, 2) := by decide +kernel
theorem d_Yf_times_75 : decode b_Yf_times 75 = .ok (.if_icmp .le 13, 3) := by decide +kernel
theorem d_Yf_times_78 : decode b_Yf_times 78 = .ok (.new 48, 3) := by decide +kernel
theorem d_Yf_times_81 : decode b_Yf_times 81 = .ok (.dup, 1) := by decide +kernel
theorem d_Yf_times_82 : decode b_Yf_times 82 = .ok (.ldc 118, 2) := by decide +kernel
theorem d_Yf_times_84 : decode b_Yf_times 84 = .ok (.invokespecial 52, 3) := by decide +kernel
theorem d_Yf_times_87 : decode b_Yf_times 87 = .ok (.athrow, 1) := by decide +kernel
theorem d_Yf_times_88 : decode b_Yf_times 88 = .ok (.aload 6, 2) := by decide +kernel
theorem d_Yf_times_90 : decode b_Yf_times 90 = .ok (.iload 7, 2) := by decide +kernel
theorem d_Yf_times_92 : decode b_Yf_times 92 = .ok (.iload 8, 2) := by decide +kernel
theorem d_Yf_times_94 : decode b_Yf_times 94 = .ok (.iload 7, 2) := by decide +kernel
theorem d_Yf_times_96 : decode b_Yf_times 96 = .ok (.isub, 1) := by decide +kernel
theorem d_Yf_times_97 : decode b_Yf_times 97 = .ok (.iconst 1, 1) := by decide +kernel
theorem d_Yf_times_98 : decode b_Yf_times 98 = .ok (.iadd, 1) := by decide +kernel
theorem d_Yf_times_99 : decode b_Yf_times 99 = .ok (.invokevirtual 57, 3) := by decide +kernel
theorem d_Yf_times_102 : decode b_Yf_times 102 = .ok (.lconst 0, 1) := by decide +kernel
theorem d_Yf_times_103 : decode b_Yf_times 103 = .ok (.lstore 9, 2) := by decide +kernel
theorem d_Yf_times_105 : decode b_Yf_times 105 = .ok (.iload 7, 2) := by decide +kernel
theorem d_Yf_times_107 : decode b_Yf_times 107 = .ok (.istore 11, 2) := by decide +kernel
theorem d_Yf_times_109 : decode b_Yf_times 109 = .ok (.iload 11, 2) := by decide +kernel
theorem d_Yf_times_111 : decode b_Yf_times 111 = .ok (.iload 8, 2) := by decide +kernel
theorem d_Yf_times_113 : decode b_Yf_times 113 = .ok (.if_icmp .gt 70, 3) := by decide +kernel
theorem d_Yf_times_116 : decode b_Yf_times 116 = .ok (.aload 4, 2) := by decide +kernel
theorem d_Yf_times_118 : decode b_Yf_times 118 = .ok (.iload 11, 2) := by decide +kernel
theorem d_Yf_times_120 : decode b_Yf_times 120 = .ok (.aload_n 0, 1) := by decide +kernel
theorem d_Yf_times_121 : decode b_Yf_times 121 = .ok (.getfield 34, 3) := by decide +kernel
theorem d_Yf_times_124 : decode b_Yf_times 124 = .ok (.invokevirtual 71, 3) := by decide +kernel
theorem d_Yf_times_127 : decode b_Yf_times 127 = .ok (.aload 5, 2) := by decide +kernel
theorem d_Yf_times_129 : decode b_Yf_times 129 = .ok (.iload 11, 2) := by decide +kernel
theorem d_Yf_times_131 : decode b_Yf_times 131 = .ok (.aload_n 0, 1) := by decide +kernel
theorem d_Yf_times_132 : decode b_Yf_times 132 = .ok (.getfield 38, 3) := by decide +kernel
theorem d_Yf_times_135 : decode b_Yf_times 135 = .ok (.invokevirtual 71, 3) := by decide +kernel
theorem d_Yf_times_138 : decode b_Yf_times 138 = .ok (.aload_n 0, 1) := by decide +kernel
theorem d_Yf_times_139 : decode b_Yf_times 139 = .ok (.getfield 41, 3) := by decide +kernel
theorem d_Yf_times_142 : decode b_Yf_times 142 = .ok (.aload_n 0, 1) := by decide +kernel
theorem d_Yf_times_143 : decode b_Yf_times 143 = .ok (.getfield 34, 3) := by decide +kernel
theorem d_Yf_times_146 : decode b_Yf_times 146 = .ok (.aload_n 0, 1) := by decide +kernel
theorem d_Yf_times_147 : decode b_Yf_times 147 = .ok (.getfield 38, 3) := by decide +kernel
theorem d_Yf_times_150 : decode b_Yf_times 150 = .ok (.invokevirtual 120, 3) := by decide +kernel
theorem d_Yf_times_153 : decode b_Yf_times 153 = .ok (.lload 9, 2) := by decide +kernel
theorem d_Yf_times_155 : decode b_Yf_times 155 = .ok (.aload_n 0, 1) := by decide +kernel
theorem d_Yf_times_156 : decode b_Yf_times 156 = .ok (.getfield 41, 3) := by decide +kernel
theorem d_Yf_times_159 : decode b_Yf_times 159 = .ok (.iload_n 3, 1) := by decide +kernel
theorem d_Yf_times_160 : decode b_Yf_times 160 = .ok (.invokevirtual 124, 3) := by decide +kernel
theorem d_Yf_times_163 : decode b_Yf_times 163 = .ok (.ladd, 1) := by decide +kernel
theorem d_Yf_times_164 : decode b_Yf_times 164 = .ok (.lstore 9, 2) := by decide +kernel
theorem d_Yf_times_166 : decode b_Yf_times 166 = .ok (.aload 6, 2) := by decide +kernel
theorem d_Yf_times_168 : decode b_Yf_times 168 = .ok (.iload 11, 2) := by decide +kernel
theorem d_Yf_times_170 : decode b_Yf_times 170 = .ok (.aload_n 0, 1) := by decide +kernel
theorem d_Yf_times_171 : decode b_Yf_times 171 = .ok (.getfield 41, 3) := by decide +kernel
theorem d_Yf_times_174 : decode b_Yf_times 174 = .ok (.invokestatic 111, 3) := by decide +kernel
theorem d_Yf_times_177 : decode b_Yf_times 177 = .ok (.iinc 11 1, 3) := by decide +kernel
theorem d_Yf_times_180 : decode b_Yf_times 180 = .ok (.goto (-71), 3) := by decide +kernel
theorem d_Yf_times_183 : decode b_Yf_times 183 = .ok (.aload_n 0, 1) := by decide +kernel
theorem d_Yf_times_184 : decode b_Yf_times 184 = .ok (.lload 9, 2) := by decide +kernel
theorem d_Yf_times_186 : decode b_Yf_times 186 = .ok (.putfield 20, 3) := by decide +kernel
theorem d_Yf_times_189 : decode b_Yf_times 189 = .ok (.aload_n 0, 1) := by decide +kernel
theorem d_Yf_times_190 : decode b_Yf_times 190 = .ok (.invokevirtual 61, 3) := by decide +kernel
theorem d_Yf_times_193 : decode b_Yf_times 193 = .ok (.ireturn, 1) := by decide +kernel
theorem d_Yf_rest_0 : decode b_Yf_rest 0 = .ok (.aload_n 0, 1) := by decide +kernel
theorem d_Yf_rest_1 : decode b_Yf_rest 1 = .ok (.getfield 20, 3) := by decide +kernel
theorem d_Yf_rest_4 : decode b_Yf_rest 4 = .ok (.lreturn, 1) := by decide +kernel
theorem d_Yf_least_0 : decode b_Yf_least 0 = .ok (.aload_n 0, 1) := by decide +kernel
theorem d_Yf_least_1 : decode b_Yf_least 1 = .ok (.iload_n 1, 1) := by decide +kernel
theorem d_Yf_least_2 : decode b_Yf_least 2 = .ok (.invokevirtual 86, 3) := by decide +kernel
theorem d_Yf_least_5 : decode b_Yf_least 5 = .ok (.astore 4, 2) := by decide +kernel
theorem d_Yf_least_7 : decode b_Yf_least 7 = .ok (.iload_n 3, 1) := by decide +kernel
theorem d_Yf_least_8 : decode b_Yf_least 8 = .ok (.iconst 1, 1) := by decide +kernel
theorem d_Yf_least_9 : decode b_Yf_least 9 = .ok (.if_icmp .lt 9, 3) := by decide +kernel
theorem d_Yf_least_12 : decode b_Yf_least 12 = .ok (.iload_n 3, 1) := by decide +kernel
theorem d_Yf_least_13 : decode b_Yf_least 13 = .ok (.ldc 128, 2) := by decide +kernel
theorem d_Yf_least_15 : decode b_Yf_least 15 = .ok (.if_icmp .le 13, 3) := by decide +kernel
theorem d_Yf_least_18 : decode b_Yf_least 18 = .ok (.new 48, 3) := by decide +kernel
theorem d_Yf_least_21 : decode b_Yf_least 21 = .ok (.dup, 1) := by decide +kernel
theorem d_Yf_least_22 : decode b_Yf_least 22 = .ok (.ldc 129, 2) := by decide +kernel
theorem d_Yf_least_24 : decode b_Yf_least 24 = .ok (.invokespecial 52, 3) := by decide +kernel
theorem d_Yf_least_27 : decode b_Yf_least 27 = .ok (.athrow, 1) := by decide +kernel
theorem d_Yf_least_28 : decode b_Yf_least 28 = .ok (.iload_n 2, 1) := by decide +kernel
theorem d_Yf_least_29 : decode b_Yf_least 29 = .ok (.ifCond .lt 8, 3) := by decide +kernel
theorem d_Yf_least_32 : decode b_Yf_least 32 = .ok (.iload_n 2, 1) := by decide +kernel
theorem d_Yf_least_33 : decode b_Yf_least 33 = .ok (.iload_n 3, 1) := by decide +kernel
theorem d_Yf_least_34 : decode b_Yf_least 34 = .ok (.if_icmp .le 13, 3) := by decide +kernel
theorem d_Yf_least_37 : decode b_Yf_least 37 = .ok (.new 48, 3) := by decide +kernel
theorem d_Yf_least_40 : decode b_Yf_least 40 = .ok (.dup, 1) := by decide +kernel
theorem d_Yf_least_41 : decode b_Yf_least 41 = .ok (.ldc 131, 2) := by decide +kernel
theorem d_Yf_least_43 : decode b_Yf_least 43 = .ok (.invokespecial 52, 3) := by decide +kernel
theorem d_Yf_least_46 : decode b_Yf_least 46 = .ok (.athrow, 1) := by decide +kernel
theorem d_Yf_least_47 : decode b_Yf_least 47 = .ok (.aload 4, 2) := by decide +kernel
theorem d_Yf_least_49 : decode b_Yf_least 49 = .ok (.aload_n 0, 1) := by decide +kernel
theorem d_Yf_least_50 : decode b_Yf_least 50 = .ok (.getfield 34, 3) := by decide +kernel
theorem d_Yf_least_53 : decode b_Yf_least 53 = .ok (.aload_n 0, 1) := by decide +kernel
theorem d_Yf_least_54 : decode b_Yf_least 54 = .ok (.getfield 38, 3) := by decide +kernel
theorem d_Yf_least_57 : decode b_Yf_least 57 = .ok (.invokestatic 133, 3) := by decide +kernel
theorem d_Yf_least_60 : decode b_Yf_least 60 = .ok (.aload_n 0, 1) := by decide +kernel
theorem d_Yf_least_61 : decode b_Yf_least 61 = .ok (.getfield 34, 3) := by decide +kernel
theorem d_Yf_least_64 : decode b_Yf_least 64 = .ok (.invokevirtual 137, 3) := by decide +kernel
theorem d_Yf_least_67 : decode b_Yf_least 67 = .ok (.ifCond .eq 13, 3) := by decide +kernel
theorem d_Yf_least_70 : decode b_Yf_least 70 = .ok (.new 141, 3) := by decide +kernel
theorem d_Yf_least_73 : decode b_Yf_least 73 = .ok (.dup, 1) := by decide +kernel
theorem d_Yf_least_74 : decode b_Yf_least 74 = .ok (.ldc 143, 2) := by decide +kernel
theorem d_Yf_least_76 : decode b_Yf_least 76 = .ok (.invokespecial 145, 3) := by decide +kernel
theorem d_Yf_least_79 : decode b_Yf_least 79 = .ok (.athrow, 1) := by decide +kernel
theorem d_Yf_least_80 : decode b_Yf_least 80 = .ok (.aload_n 0, 1) := by decide +kernel
theorem d_Yf_least_81 : decode b_Yf_least 81 = .ok (.getfield 41, 3) := by decide +kernel
theorem d_Yf_least_84 : decode b_Yf_least 84 = .ok (.aload_n 0, 1) := by decide +kernel
theorem d_Yf_least_85 : decode b_Yf_least 85 = .ok (.getfield 34, 3) := by decide +kernel
theorem d_Yf_least_88 : decode b_Yf_least 88 = .ok (.iload_n 2, 1) := by decide +kernel
theorem d_Yf_least_89 : decode b_Yf_least 89 = .ok (.i2l, 1) := by decide +kernel
theorem d_Yf_least_90 : decode b_Yf_least 90 = .ok (.invokevirtual 146, 3) := by decide +kernel
theorem d_Yf_least_93 : decode b_Yf_least 93 = .ok (.aload_n 0, 1) := by decide +kernel
theorem d_Yf_least_94 : decode b_Yf_least 94 = .ok (.aload 4, 2) := by decide +kernel
theorem d_Yf_least_96 : decode b_Yf_least 96 = .ok (.iload_n 3, 1) := by decide +kernel
theorem d_Yf_least_97 : decode b_Yf_least 97 = .ok (.invokevirtual 150, 3) := by decide +kernel
theorem d_Yf_least_100 : decode b_Yf_least 100 = .ok (.aload_n 0, 1) := by decide +kernel
theorem d_Yf_least_101 : decode b_Yf_least 101 = .ok (.getfield 27, 3) := by decide +kernel
theorem d_Yf_least_104 : decode b_Yf_least 104 = .ok (.aload 4, 2) := by decide +kernel
theorem d_Yf_least_106 : decode b_Yf_least 106 = .ok (.invokevirtual 154, 3) := by decide +kernel
theorem d_Yf_least_109 : decode b_Yf_least 109 = .ok (.aload_n 0, 1) := by decide +kernel
theorem d_Yf_least_110 : decode b_Yf_least 110 = .ok (.getfield 27, 3) := by decide +kernel
theorem d_Yf_least_113 : decode b_Yf_least 113 = .ok (.getfield 158, 3) := by decide +kernel
theorem d_Yf_least_116 : decode b_Yf_least 116 = .ok (.ireturn, 1) := by decide +kernel
theorem d_Yf_span_0 : decode b_Yf_span 0 = .ok (.iload_n 1, 1) := by decide +kernel
theorem d_Yf_span_1 : decode b_Yf_span 1 = .ok (.ifCond .lt 14, 3) := by decide +kernel
theorem d_Yf_span_4 : decode b_Yf_span 4 = .ok (.iload_n 1, 1) := by decide +kernel
theorem d_Yf_span_5 : decode b_Yf_span 5 = .ok (.aload_n 0, 1) := by decide +kernel
theorem d_Yf_span_6 : decode b_Yf_span 6 = .ok (.getfield 27, 3) := by decide +kernel
theorem d_Yf_span_9 : decode b_Yf_span 9 = .ok (.getfield 158, 3) := by decide +kernel
theorem d_Yf_span_12 : decode b_Yf_span 12 = .ok (.if_icmp .lt 13, 3) := by decide +kernel
theorem d_Yf_span_15 : decode b_Yf_span 15 = .ok (.new 161, 3) := by decide +kernel
theorem d_Yf_span_18 : decode b_Yf_span 18 = .ok (.dup, 1) := by decide +kernel
theorem d_Yf_span_19 : decode b_Yf_span 19 = .ok (.ldc 163, 2) := by decide +kernel
theorem d_Yf_span_21 : decode b_Yf_span 21 = .ok (.invokespecial 165, 3) := by decide +kernel
theorem d_Yf_span_24 : decode b_Yf_span 24 = .ok (.athrow, 1) := by decide +kernel
theorem d_Yf_span_25 : decode b_Yf_span 25 = .ok (.iload_n 2, 1) := by decide +kernel
theorem d_Yf_span_26 : decode b_Yf_span 26 = .ok (.ifCond .eq 18, 3) := by decide +kernel
theorem d_Yf_span_29 : decode b_Yf_span 29 = .ok (.iload_n 2, 1) := by decide +kernel
theorem d_Yf_span_30 : decode b_Yf_span 30 = .ok (.iconst 1, 1) := by decide +kernel
theorem d_Yf_span_31 : decode b_Yf_span 31 = .ok (.if_icmp .eq 13, 3) := by decide +kernel
theorem d_Yf_span_34 : decode b_Yf_span 34 = .ok (.new 161, 3) := by decide +kernel
theorem d_Yf_span_37 : decode b_Yf_span 37 = .ok (.dup, 1) := by decide +kernel
theorem d_Yf_span_38 : decode b_Yf_span 38 = .ok (.ldc 166, 2) := by decide +kernel
theorem d_Yf_span_40 : decode b_Yf_span 40 = .ok (.invokespecial 165, 3) := by decide +kernel
theorem d_Yf_span_43 : decode b_Yf_span 43 = .ok (.athrow, 1) := by decide +kernel
theorem d_Yf_span_44 : decode b_Yf_span 44 = .ok (.iload_n 2, 1) := by decide +kernel
theorem d_Yf_span_45 : decode b_Yf_span 45 = .ok (.ifCond .ne 15, 3) := by decide +kernel
theorem d_Yf_span_48 : decode b_Yf_span 48 = .ok (.aload_n 0, 1) := by decide +kernel
theorem d_Yf_span_49 : decode b_Yf_span 49 = .ok (.getfield 27, 3) := by decide +kernel
theorem d_Yf_span_52 : decode b_Yf_span 52 = .ok (.getfield 168, 3) := by decide +kernel
theorem d_Yf_span_55 : decode b_Yf_span 55 = .ok (.iload_n 1, 1) := by decide +kernel
theorem d_Yf_span_56 : decode b_Yf_span 56 = .ok (.iaload, 1) := by decide +kernel
theorem d_Yf_span_57 : decode b_Yf_span 57 = .ok (.goto 12, 3) := by decide +kernel
theorem d_Yf_span_60 : decode b_Yf_span 60 = .ok (.aload_n 0, 1) := by decide +kernel
theorem d_Yf_span_61 : decode b_Yf_span 61 = .ok (.getfield 27, 3) := by decide +kernel
theorem d_Yf_span_64 : decode b_Yf_span 64 = .ok (.getfield 172, 3) := by decide +kernel
theorem d_Yf_span_67 : decode b_Yf_span 67 = .ok (.iload_n 1, 1) := by decide +kernel
theorem d_Yf_span_68 : decode b_Yf_span 68 = .ok (.iaload, 1) := by decide +kernel
theorem d_Yf_span_69 : decode b_Yf_span 69 = .ok (.ireturn, 1) := by decide +kernel
theorem d_Yf_digit_0 : decode b_Yf_digit 0 = .ok (.aload_n 0, 1) := by decide +kernel
theorem d_Yf_digit_1 : decode b_Yf_digit 1 = .ok (.iload_n 1, 1) := by decide +kernel
theorem d_Yf_digit_2 : decode b_Yf_digit 2 = .ok (.iload_n 2, 1) := by decide +kernel
theorem d_Yf_digit_3 : decode b_Yf_digit 3 = .ok (.invokevirtual 65, 3) := by decide +kernel
theorem d_Yf_digit_6 : decode b_Yf_digit 6 = .ok (.astore 4, 2) := by decide +kernel
theorem d_Yf_digit_8 : decode b_Yf_digit 8 = .ok (.iload_n 3, 1) := by decide +kernel
theorem d_Yf_digit_9 : decode b_Yf_digit 9 = .ok (.bipush 36, 2) := by decide +kernel
theorem d_Yf_digit_11 : decode b_Yf_digit 11 = .ok (.invokestatic 175, 3) := by decide +kernel
theorem d_Yf_digit_14 : decode b_Yf_digit 14 = .ok (.aload 4, 2) := by decide +kernel
theorem d_Yf_digit_16 : decode b_Yf_digit 16 = .ok (.iload_n 2, 1) := by decide +kernel
theorem d_Yf_digit_17 : decode b_Yf_digit 17 = .ok (.aload_n 0, 1) := by decide +kernel
theorem d_Yf_digit_18 : decode b_Yf_digit 18 = .ok (.getfield 34, 3) := by decide +kernel
theorem d_Yf_digit_21 : decode b_Yf_digit 21 = .ok (.invokevirtual 71, 3) := by decide +kernel
theorem d_Yf_digit_24 : decode b_Yf_digit 24 = .ok (.aload_n 0, 1) := by decide +kernel
theorem d_Yf_digit_25 : decode b_Yf_digit 25 = .ok (.getfield 34, 3) := by decide +kernel
theorem d_Yf_digit_28 : decode b_Yf_digit 28 = .ok (.iload_n 3, 1) := by decide +kernel
end
section
theorem d_Yf_digit_29 : decode b_Yf_digit 29 = .ok (.invokevirtual 178, 3) := by decide +kernel
theorem d_Yf_digit_32 : decode b_Yf_digit 32 = .ok (.ireturn, 1) := by decide +kernel
theorem d_Yf_total_0 : decode b_Yf_total 0 = .ok (.aload_n 0, 1) := by decide +kernel
theorem d_Yf_total_1 : decode b_Yf_total 1 = .ok (.iload_n 1, 1) := by decide +kernel
theorem d_Yf_total_2 : decode b_Yf_total 2 = .ok (.invokevirtual 86, 3) := by decide +kernel
theorem d_Yf_total_5 : decode b_Yf_total 5 = .ok (.astore_n 3, 1) := by decide +kernel
theorem d_Yf_total_6 : decode b_Yf_total 6 = .ok (.iload_n 2, 1) := by decide +kernel
theorem d_Yf_total_7 : decode b_Yf_total 7 = .ok (.bipush 38, 2) := by decide +kernel
theorem d_Yf_total_9 : decode b_Yf_total 9 = .ok (.invokestatic 175, 3) := by decide +kernel
theorem d_Yf_total_12 : decode b_Yf_total 12 = .ok (.aload_n 3, 1) := by decide +kernel
theorem d_Yf_total_13 : decode b_Yf_total 13 = .ok (.aload_n 0, 1) := by decide +kernel
theorem d_Yf_total_14 : decode b_Yf_total 14 = .ok (.getfield 34, 3) := by decide +kernel
theorem d_Yf_total_17 : decode b_Yf_total 17 = .ok (.aload_n 0, 1) := by decide +kernel
theorem d_Yf_total_18 : decode b_Yf_total 18 = .ok (.getfield 38, 3) := by decide +kernel
theorem d_Yf_total_21 : decode b_Yf_total 21 = .ok (.invokestatic 133, 3) := by decide +kernel
theorem d_Yf_total_24 : decode b_Yf_total 24 = .ok (.aload_n 0, 1) := by decide +kernel
theorem d_Yf_total_25 : decode b_Yf_total 25 = .ok (.getfield 34, 3) := by decide +kernel
theorem d_Yf_total_28 : decode b_Yf_total 28 = .ok (.iload_n 2, 1) := by decide +kernel
theorem d_Yf_total_29 : decode b_Yf_total 29 = .ok (.invokevirtual 178, 3) := by decide +kernel
theorem d_Yf_total_32 : decode b_Yf_total 32 = .ok (.ireturn, 1) := by decide +kernel
theorem d_Yf_compare_0 : decode b_Yf_compare 0 = .ok (.aload_n 0, 1) := by decide +kernel
theorem d_Yf_compare_1 : decode b_Yf_compare 1 = .ok (.iload_n 1, 1) := by decide +kernel
theorem d_Yf_compare_2 : decode b_Yf_compare 2 = .ok (.iload_n 2, 1) := by decide +kernel
theorem d_Yf_compare_3 : decode b_Yf_compare 3 = .ok (.invokevirtual 65, 3) := by decide +kernel
theorem d_Yf_compare_6 : decode b_Yf_compare 6 = .ok (.iload_n 2, 1) := by decide +kernel
theorem d_Yf_compare_7 : decode b_Yf_compare 7 = .ok (.aload_n 0, 1) := by decide +kernel
theorem d_Yf_compare_8 : decode b_Yf_compare 8 = .ok (.getfield 34, 3) := by decide +kernel
theorem d_Yf_compare_11 : decode b_Yf_compare 11 = .ok (.invokevirtual 71, 3) := by decide +kernel
theorem d_Yf_compare_14 : decode b_Yf_compare 14 = .ok (.aload_n 0, 1) := by decide +kernel
theorem d_Yf_compare_15 : decode b_Yf_compare 15 = .ok (.iload_n 3, 1) := by decide +kernel
theorem d_Yf_compare_16 : decode b_Yf_compare 16 = .ok (.iload 4, 2) := by decide +kernel
theorem d_Yf_compare_18 : decode b_Yf_compare 18 = .ok (.invokevirtual 65, 3) := by decide +kernel
theorem d_Yf_compare_21 : decode b_Yf_compare 21 = .ok (.iload 4, 2) := by decide +kernel
theorem d_Yf_compare_23 : decode b_Yf_compare 23 = .ok (.aload_n 0, 1) := by decide +kernel
theorem d_Yf_compare_24 : decode b_Yf_compare 24 = .ok (.getfield 38, 3) := by decide +kernel
theorem d_Yf_compare_27 : decode b_Yf_compare 27 = .ok (.invokevirtual 71, 3) := by decide +kernel
theorem d_Yf_compare_30 : decode b_Yf_compare 30 = .ok (.aload_n 0, 1) := by decide +kernel
theorem d_Yf_compare_31 : decode b_Yf_compare 31 = .ok (.getfield 34, 3) := by decide +kernel
theorem d_Yf_compare_34 : decode b_Yf_compare 34 = .ok (.aload_n 0, 1) := by decide +kernel
theorem d_Yf_compare_35 : decode b_Yf_compare 35 = .ok (.getfield 38, 3) := by decide +kernel
theorem d_Yf_compare_38 : decode b_Yf_compare 38 = .ok (.invokevirtual 82, 3) := by decide +kernel
theorem d_Yf_compare_41 : decode b_Yf_compare 41 = .ok (.ireturn, 1) := by decide +kernel
theorem d_Yf_about_0 : decode b_Yf_about 0 = .ok (.aload_n 0, 1) := by decide +kernel
theorem d_Yf_about_1 : decode b_Yf_about 1 = .ok (.iload_n 1, 1) := by decide +kernel
theorem d_Yf_about_2 : decode b_Yf_about 2 = .ok (.invokevirtual 86, 3) := by decide +kernel
theorem d_Yf_about_5 : decode b_Yf_about 5 = .ok (.astore_n 3, 1) := by decide +kernel
theorem d_Yf_about_6 : decode b_Yf_about 6 = .ok (.iload_n 2, 1) := by decide +kernel
theorem d_Yf_about_7 : decode b_Yf_about 7 = .ok (.tableswitch 41 0 2 #[25, 30, 35], 25) := by decide +kernel
theorem d_Yf_about_32 : decode b_Yf_about 32 = .ok (.aload_n 3, 1) := by decide +kernel
theorem d_Yf_about_33 : decode b_Yf_about 33 = .ok (.getfield 90, 3) := by decide +kernel
theorem d_Yf_about_36 : decode b_Yf_about 36 = .ok (.ireturn, 1) := by decide +kernel
theorem d_Yf_about_37 : decode b_Yf_about 37 = .ok (.aload_n 3, 1) := by decide +kernel
theorem d_Yf_about_38 : decode b_Yf_about 38 = .ok (.invokevirtual 99, 3) := by decide +kernel
theorem d_Yf_about_41 : decode b_Yf_about 41 = .ok (.ireturn, 1) := by decide +kernel
theorem d_Yf_about_42 : decode b_Yf_about 42 = .ok (.aload_n 0, 1) := by decide +kernel
theorem d_Yf_about_43 : decode b_Yf_about 43 = .ok (.aload_n 3, 1) := by decide +kernel
theorem d_Yf_about_44 : decode b_Yf_about 44 = .ok (.invokevirtual 182, 3) := by decide +kernel
theorem d_Yf_about_47 : decode b_Yf_about 47 = .ok (.ireturn, 1) := by decide +kernel
theorem d_Yf_about_48 : decode b_Yf_about 48 = .ok (.new 48, 3) := by decide +kernel
theorem d_Yf_about_51 : decode b_Yf_about 51 = .ok (.dup, 1) := by decide +kernel
theorem d_Yf_about_52 : decode b_Yf_about 52 = .ok (.ldc 186, 2) := by decide +kernel
theorem d_Yf_about_54 : decode b_Yf_about 54 = .ok (.invokespecial 52, 3) := by decide +kernel
theorem d_Yf_about_57 : decode b_Yf_about 57 = .ok (.athrow, 1) := by decide +kernel
theorem d_Yf_over_0 : decode b_Yf_over 0 = .ok (.lload_n 3, 1) := by decide +kernel
theorem d_Yf_over_1 : decode b_Yf_over 1 = .ok (.lconst 0, 1) := by decide +kernel
theorem d_Yf_over_2 : decode b_Yf_over 2 = .ok (.lcmp, 1) := by decide +kernel
theorem d_Yf_over_3 : decode b_Yf_over 3 = .ok (.ifCond .ne 13, 3) := by decide +kernel
theorem d_Yf_over_6 : decode b_Yf_over 6 = .ok (.new 141, 3) := by decide +kernel
theorem d_Yf_over_9 : decode b_Yf_over 9 = .ok (.dup, 1) := by decide +kernel
theorem d_Yf_over_10 : decode b_Yf_over 10 = .ok (.ldc 188, 2) := by decide +kernel
theorem d_Yf_over_12 : decode b_Yf_over 12 = .ok (.invokespecial 145, 3) := by decide +kernel
theorem d_Yf_over_15 : decode b_Yf_over 15 = .ok (.athrow, 1) := by decide +kernel
theorem d_Yf_over_16 : decode b_Yf_over 16 = .ok (.lload_n 1, 1) := by decide +kernel
theorem d_Yf_over_17 : decode b_Yf_over 17 = .ok (.lload_n 3, 1) := by decide +kernel
theorem d_Yf_over_18 : decode b_Yf_over 18 = .ok (.ldiv, 1) := by decide +kernel
theorem d_Yf_over_19 : decode b_Yf_over 19 = .ok (.lreturn, 1) := by decide +kernel
theorem d_Yf_written_0 : decode b_Yf_written 0 = .ok (.iload_n 1, 1) := by decide +kernel
theorem d_Yf_written_1 : decode b_Yf_written 1 = .ok (.ifCond .le 8, 3) := by decide +kernel
theorem d_Yf_written_4 : decode b_Yf_written 4 = .ok (.iload_n 1, 1) := by decide +kernel
theorem d_Yf_written_5 : decode b_Yf_written 5 = .ok (.i2l, 1) := by decide +kernel
theorem d_Yf_written_6 : decode b_Yf_written 6 = .ok (.goto 7, 3) := by decide +kernel
theorem d_Yf_written_9 : decode b_Yf_written 9 = .ok (.iload_n 1, 1) := by decide +kernel
theorem d_Yf_written_10 : decode b_Yf_written 10 = .ok (.i2l, 1) := by decide +kernel
theorem d_Yf_written_11 : decode b_Yf_written 11 = .ok (.lconst 1, 1) := by decide +kernel
theorem d_Yf_written_12 : decode b_Yf_written 12 = .ok (.lsub, 1) := by decide +kernel
theorem d_Yf_written_13 : decode b_Yf_written 13 = .ok (.lreturn, 1) := by decide +kernel
theorem d_Yf_day_0 : decode b_Yf_day 0 = .ok (.iload_n 1, 1) := by decide +kernel
theorem d_Yf_day_1 : decode b_Yf_day 1 = .ok (.invokestatic 190, 3) := by decide +kernel
theorem d_Yf_day_4 : decode b_Yf_day 4 = .ok (.iload_n 2, 1) := by decide +kernel
theorem d_Yf_day_5 : decode b_Yf_day 5 = .ok (.sipush (-9999), 3) := by decide +kernel
theorem d_Yf_day_8 : decode b_Yf_day 8 = .ok (.if_icmp .lt 10, 3) := by decide +kernel
theorem d_Yf_day_11 : decode b_Yf_day 11 = .ok (.iload_n 2, 1) := by decide +kernel
theorem d_Yf_day_12 : decode b_Yf_day 12 = .ok (.sipush 9999, 3) := by decide +kernel
theorem d_Yf_day_15 : decode b_Yf_day 15 = .ok (.if_icmp .le 13, 3) := by decide +kernel
theorem d_Yf_day_18 : decode b_Yf_day 18 = .ok (.new 48, 3) := by decide +kernel
theorem d_Yf_day_21 : decode b_Yf_day 21 = .ok (.dup, 1) := by decide +kernel
theorem d_Yf_day_22 : decode b_Yf_day 22 = .ok (.ldc 55, 2) := by decide +kernel
theorem d_Yf_day_24 : decode b_Yf_day 24 = .ok (.invokespecial 52, 3) := by decide +kernel
theorem d_Yf_day_27 : decode b_Yf_day 27 = .ok (.athrow, 1) := by decide +kernel
theorem d_Yf_day_28 : decode b_Yf_day 28 = .ok (.iload_n 3, 1) := by decide +kernel
theorem d_Yf_day_29 : decode b_Yf_day 29 = .ok (.iconst 1, 1) := by decide +kernel
theorem d_Yf_day_30 : decode b_Yf_day 30 = .ok (.if_icmp .lt 11, 3) := by decide +kernel
theorem d_Yf_day_33 : decode b_Yf_day 33 = .ok (.iload_n 3, 1) := by decide +kernel
theorem d_Yf_day_34 : decode b_Yf_day 34 = .ok (.iload_n 1, 1) := by decide +kernel
theorem d_Yf_day_35 : decode b_Yf_day 35 = .ok (.invokestatic 194, 3) := by decide +kernel
theorem d_Yf_day_38 : decode b_Yf_day 38 = .ok (.if_icmp .le 13, 3) := by decide +kernel
theorem d_Yf_day_41 : decode b_Yf_day 41 = .ok (.new 48, 3) := by decide +kernel
theorem d_Yf_day_44 : decode b_Yf_day 44 = .ok (.dup, 1) := by decide +kernel
theorem d_Yf_day_45 : decode b_Yf_day 45 = .ok (.ldc 199, 2) := by decide +kernel
theorem d_Yf_day_47 : decode b_Yf_day 47 = .ok (.invokespecial 52, 3) := by decide +kernel
theorem d_Yf_day_50 : decode b_Yf_day 50 = .ok (.athrow, 1) := by decide +kernel
theorem d_Yf_day_51 : decode b_Yf_day 51 = .ok (.iload 4, 2) := by decide +kernel
theorem d_Yf_day_53 : decode b_Yf_day 53 = .ok (.iconst 1, 1) := by decide +kernel
theorem d_Yf_day_54 : decode b_Yf_day 54 = .ok (.if_icmp .lt 14, 3) := by decide +kernel
theorem d_Yf_day_57 : decode b_Yf_day 57 = .ok (.iload 4, 2) := by decide +kernel
theorem d_Yf_day_59 : decode b_Yf_day 59 = .ok (.iload_n 1, 1) := by decide +kernel
theorem d_Yf_day_60 : decode b_Yf_day 60 = .ok (.iload_n 2, 1) := by decide +kernel
theorem d_Yf_day_61 : decode b_Yf_day 61 = .ok (.iload_n 3, 1) := by decide +kernel
theorem d_Yf_day_62 : decode b_Yf_day 62 = .ok (.invokestatic 201, 3) := by decide +kernel
theorem d_Yf_day_65 : decode b_Yf_day 65 = .ok (.if_icmp .le 13, 3) := by decide +kernel
theorem d_Yf_day_68 : decode b_Yf_day 68 = .ok (.new 48, 3) := by decide +kernel
theorem d_Yf_day_71 : decode b_Yf_day 71 = .ok (.dup, 1) := by decide +kernel
theorem d_Yf_day_72 : decode b_Yf_day 72 = .ok (.ldc 205, 2) := by decide +kernel
theorem d_Yf_day_74 : decode b_Yf_day 74 = .ok (.invokespecial 52, 3) := by decide +kernel
theorem d_Yf_day_77 : decode b_Yf_day 77 = .ok (.athrow, 1) := by decide +kernel
theorem d_Yf_day_78 : decode b_Yf_day 78 = .ok (.iload_n 1, 1) := by decide +kernel
theorem d_Yf_day_79 : decode b_Yf_day 79 = .ok (.iload_n 2, 1) := by decide +kernel
theorem d_Yf_day_80 : decode b_Yf_day 80 = .ok (.invokestatic 207, 3) := by decide +kernel
theorem d_Yf_day_83 : decode b_Yf_day 83 = .ok (.iload_n 1, 1) := by decide +kernel
theorem d_Yf_day_84 : decode b_Yf_day 84 = .ok (.iload_n 2, 1) := by decide +kernel
theorem d_Yf_day_85 : decode b_Yf_day 85 = .ok (.iload_n 3, 1) := by decide +kernel
theorem d_Yf_day_86 : decode b_Yf_day 86 = .ok (.invokestatic 210, 3) := by decide +kernel
theorem d_Yf_day_89 : decode b_Yf_day 89 = .ok (.iadd, 1) := by decide +kernel
theorem d_Yf_day_90 : decode b_Yf_day 90 = .ok (.iload 4, 2) := by decide +kernel
theorem d_Yf_day_92 : decode b_Yf_day 92 = .ok (.iconst 1, 1) := by decide +kernel
theorem d_Yf_day_93 : decode b_Yf_day 93 = .ok (.isub, 1) := by decide +kernel
theorem d_Yf_day_94 : decode b_Yf_day 94 = .ok (.iadd, 1) := by decide +kernel
theorem d_Yf_day_95 : decode b_Yf_day 95 = .ok (.ireturn, 1) := by decide +kernel
theorem d_Yf_date_0 : decode b_Yf_date 0 = .ok (.iload_n 1, 1) := by decide +kernel
theorem d_Yf_date_1 : decode b_Yf_date 1 = .ok (.invokestatic 190, 3) := by decide +kernel
theorem d_Yf_date_4 : decode b_Yf_date 4 = .ok (.iload_n 3, 1) := by decide +kernel
theorem d_Yf_date_5 : decode b_Yf_date 5 = .ok (.ifCond .lt 8, 3) := by decide +kernel
theorem d_Yf_date_8 : decode b_Yf_date 8 = .ok (.iload_n 3, 1) := by decide +kernel
theorem d_Yf_date_9 : decode b_Yf_date 9 = .ok (.iconst 2, 1) := by decide +kernel
theorem d_Yf_date_10 : decode b_Yf_date 10 = .ok (.if_icmp .le 13, 3) := by decide +kernel
theorem d_Yf_date_13 : decode b_Yf_date 13 = .ok (.new 48, 3) := by decide +kernel
theorem d_Yf_date_16 : decode b_Yf_date 16 = .ok (.dup, 1) := by decide +kernel
theorem d_Yf_date_17 : decode b_Yf_date 17 = .ok (.ldc 213, 2) := by decide +kernel
theorem d_Yf_date_19 : decode b_Yf_date 19 = .ok (.invokespecial 52, 3) := by decide +kernel
theorem d_Yf_date_22 : decode b_Yf_date 22 = .ok (.athrow, 1) := by decide +kernel
theorem d_Yf_date_23 : decode b_Yf_date 23 = .ok (.iload_n 2, 1) := by decide +kernel
theorem d_Yf_date_24 : decode b_Yf_date 24 = .ok (.ldc 215, 2) := by decide +kernel
theorem d_Yf_date_26 : decode b_Yf_date 26 = .ok (.if_icmp .lt 9, 3) := by decide +kernel
theorem d_Yf_date_29 : decode b_Yf_date 29 = .ok (.iload_n 2, 1) := by decide +kernel
theorem d_Yf_date_30 : decode b_Yf_date 30 = .ok (.ldc 216, 2) := by decide +kernel
theorem d_Yf_date_32 : decode b_Yf_date 32 = .ok (.if_icmp .le 13, 3) := by decide +kernel
theorem d_Yf_date_35 : decode b_Yf_date 35 = .ok (.new 48, 3) := by decide +kernel
theorem d_Yf_date_38 : decode b_Yf_date 38 = .ok (.dup, 1) := by decide +kernel
theorem d_Yf_date_39 : decode b_Yf_date 39 = .ok (.ldc 217, 2) := by decide +kernel
theorem d_Yf_date_41 : decode b_Yf_date 41 = .ok (.invokespecial 52, 3) := by decide +kernel
theorem d_Yf_date_44 : decode b_Yf_date 44 = .ok (.athrow, 1) := by decide +kernel
theorem d_Yf_date_45 : decode b_Yf_date 45 = .ok (.iload_n 1, 1) := by decide +kernel
theorem d_Yf_date_46 : decode b_Yf_date 46 = .ok (.iload_n 2, 1) := by decide +kernel
theorem d_Yf_date_47 : decode b_Yf_date 47 = .ok (.invokestatic 219, 3) := by decide +kernel
theorem d_Yf_date_50 : decode b_Yf_date 50 = .ok (.istore 4, 2) := by decide +kernel
theorem d_Yf_date_52 : decode b_Yf_date 52 = .ok (.iload_n 3, 1) := by decide +kernel
theorem d_Yf_date_53 : decode b_Yf_date 53 = .ok (.ifCond .ne 6, 3) := by decide +kernel
theorem d_Yf_date_56 : decode b_Yf_date 56 = .ok (.iload 4, 2) := by decide +kernel
theorem d_Yf_date_58 : decode b_Yf_date 58 = .ok (.ireturn, 1) := by decide +kernel
theorem d_Yf_date_59 : decode b_Yf_date 59 = .ok (.iload_n 1, 1) := by decide +kernel
theorem d_Yf_date_60 : decode b_Yf_date 60 = .ok (.iload 4, 2) := by decide +kernel
theorem d_Yf_date_62 : decode b_Yf_date 62 = .ok (.iload_n 2, 1) := by decide +kernel
theorem d_Yf_date_63 : decode b_Yf_date 63 = .ok (.invokestatic 222, 3) := by decide +kernel
theorem d_Yf_date_66 : decode b_Yf_date 66 = .ok (.istore 5, 2) := by decide +kernel
theorem d_Yf_date_68 : decode b_Yf_date 68 = .ok (.iload_n 3, 1) := by decide +kernel
theorem d_Yf_date_69 : decode b_Yf_date 69 = .ok (.iconst 1, 1) := by decide +kernel
theorem d_Yf_date_70 : decode b_Yf_date 70 = .ok (.if_icmp .ne 6, 3) := by decide +kernel
theorem d_Yf_date_73 : decode b_Yf_date 73 = .ok (.iload 5, 2) := by decide +kernel
theorem d_Yf_date_75 : decode b_Yf_date 75 = .ok (.ireturn, 1) := by decide +kernel
theorem d_Yf_date_76 : decode b_Yf_date 76 = .ok (.iload_n 2, 1) := by decide +kernel
theorem d_Yf_date_77 : decode b_Yf_date 77 = .ok (.iload_n 1, 1) := by decide +kernel
theorem d_Yf_date_78 : decode b_Yf_date 78 = .ok (.iload 4, 2) := by decide +kernel
theorem d_Yf_date_80 : decode b_Yf_date 80 = .ok (.invokestatic 207, 3) := by decide +kernel
theorem d_Yf_date_83 : decode b_Yf_date 83 = .ok (.isub, 1) := by decide +kernel
theorem d_Yf_date_84 : decode b_Yf_date 84 = .ok (.iload_n 1, 1) := by decide +kernel
theorem d_Yf_date_85 : decode b_Yf_date 85 = .ok (.iload 4, 2) := by decide +kernel
theorem d_Yf_date_87 : decode b_Yf_date 87 = .ok (.iload 5, 2) := by decide +kernel
theorem d_Yf_date_89 : decode b_Yf_date 89 = .ok (.invokestatic 210, 3) := by decide +kernel
theorem d_Yf_date_92 : decode b_Yf_date 92 = .ok (.isub, 1) := by decide +kernel
theorem d_Yf_date_93 : decode b_Yf_date 93 = .ok (.iconst 1, 1) := by decide +kernel
theorem d_Yf_date_94 : decode b_Yf_date 94 = .ok (.iadd, 1) := by decide +kernel
theorem d_Yf_date_95 : decode b_Yf_date 95 = .ok (.ireturn, 1) := by decide +kernel
theorem d_Yf_clear_0 : decode b_Yf_clear 0 = .ok (.aload_n 0, 1) := by decide +kernel
theorem d_Yf_clear_1 : decode b_Yf_clear 1 = .ok (.getfield 16, 3) := by decide +kernel
theorem d_Yf_clear_4 : decode b_Yf_clear 4 = .ok (.istore_n 1, 1) := by decide +kernel
theorem d_Yf_clear_5 : decode b_Yf_clear 5 = .ok (.aload_n 0, 1) := by decide +kernel
theorem d_Yf_clear_6 : decode b_Yf_clear 6 = .ok (.iconst 0, 1) := by decide +kernel
theorem d_Yf_clear_7 : decode b_Yf_clear 7 = .ok (.putfield 16, 3) := by decide +kernel
theorem d_Yf_clear_10 : decode b_Yf_clear 10 = .ok (.aload_n 0, 1) := by decide +kernel
theorem d_Yf_clear_11 : decode b_Yf_clear 11 = .ok (.lconst 0, 1) := by decide +kernel
theorem d_Yf_clear_12 : decode b_Yf_clear 12 = .ok (.putfield 20, 3) := by decide +kernel
theorem d_Yf_clear_15 : decode b_Yf_clear 15 = .ok (.aload_n 0, 1) := by decide +kernel
theorem d_Yf_clear_16 : decode b_Yf_clear 16 = .ok (.getfield 27, 3) := by decide +kernel
theorem d_Yf_clear_19 : decode b_Yf_clear 19 = .ok (.iconst 0, 1) := by decide +kernel
theorem d_Yf_clear_20 : decode b_Yf_clear 20 = .ok (.putfield 158, 3) := by decide +kernel
theorem d_Yf_clear_23 : decode b_Yf_clear 23 = .ok (.iload_n 1, 1) := by decide +kernel
theorem d_Yf_clear_24 : decode b_Yf_clear 24 = .ok (.ireturn, 1) := by decide +kernel
theorem d_Yf_knownRow_0 : decode b_Yf_knownRow 0 = .ok (.iload_n 1, 1) := by decide +kernel
theorem d_Yf_knownRow_1 : decode b_Yf_knownRow 1 = .ok (.ifCond .lt 11, 3) := by decide +kernel
theorem d_Yf_knownRow_4 : decode b_Yf_knownRow 4 = .ok (.iload_n 1, 1) := by decide +kernel
theorem d_Yf_knownRow_5 : decode b_Yf_knownRow 5 = .ok (.aload_n 0, 1) := by decide +kernel
theorem d_Yf_knownRow_6 : decode b_Yf_knownRow 6 = .ok (.getfield 16, 3) := by decide +kernel
theorem d_Yf_knownRow_9 : decode b_Yf_knownRow 9 = .ok (.if_icmp .lt 13, 3) := by decide +kernel
theorem d_Yf_knownRow_12 : decode b_Yf_knownRow 12 = .ok (.new 161, 3) := by decide +kernel
theorem d_Yf_knownRow_15 : decode b_Yf_knownRow 15 = .ok (.dup, 1) := by decide +kernel
theorem d_Yf_knownRow_16 : decode b_Yf_knownRow 16 = .ok (.ldc 225, 2) := by decide +kernel
theorem d_Yf_knownRow_18 : decode b_Yf_knownRow 18 = .ok (.invokespecial 165, 3) := by decide +kernel
theorem d_Yf_knownRow_21 : decode b_Yf_knownRow 21 = .ok (.athrow, 1) := by decide +kernel
theorem d_Yf_knownRow_22 : decode b_Yf_knownRow 22 = .ok (.aload_n 0, 1) := by decide +kernel
theorem d_Yf_knownRow_23 : decode b_Yf_knownRow 23 = .ok (.getfield 11, 3) := by decide +kernel
theorem d_Yf_knownRow_26 : decode b_Yf_knownRow 26 = .ok (.iload_n 1, 1) := by decide +kernel
theorem d_Yf_knownRow_27 : decode b_Yf_knownRow 27 = .ok (.aaload, 1) := by decide +kernel
theorem d_Yf_knownRow_28 : decode b_Yf_knownRow 28 = .ok (.areturn, 1) := by decide +kernel
theorem d_Yf_knownRowWith_0 : decode b_Yf_knownRowWith 0 = .ok (.aload_n 0, 1) := by decide +kernel
theorem d_Yf_knownRowWith_1 : decode b_Yf_knownRowWith 1 = .ok (.iload_n 1, 1) := by decide +kernel
theorem d_Yf_knownRowWith_2 : decode b_Yf_knownRowWith 2 = .ok (.invokevirtual 86, 3) := by decide +kernel
theorem d_Yf_knownRowWith_5 : decode b_Yf_knownRowWith 5 = .ok (.astore_n 3, 1) := by decide +kernel
theorem d_Yf_knownRowWith_6 : decode b_Yf_knownRowWith 6 = .ok (.aload_n 3, 1) := by decide +kernel
theorem d_Yf_knownRowWith_7 : decode b_Yf_knownRowWith 7 = .ok (.iload_n 2, 1) := by decide +kernel
theorem d_Yf_knownRowWith_8 : decode b_Yf_knownRowWith 8 = .ok (.invokevirtual 227, 3) := by decide +kernel
theorem d_Yf_knownRowWith_11 : decode b_Yf_knownRowWith 11 = .ok (.ifCond .ne 13, 3) := by decide +kernel
theorem d_Yf_knownRowWith_14 : decode b_Yf_knownRowWith 14 = .ok (.new 161, 3) := by decide +kernel
theorem d_Yf_knownRowWith_17 : decode b_Yf_knownRowWith 17 = .ok (.dup, 1) := by decide +kernel
theorem d_Yf_knownRowWith_18 : decode b_Yf_knownRowWith 18 = .ok (.ldc 231, 2) := by decide +kernel
theorem d_Yf_knownRowWith_20 : decode b_Yf_knownRowWith 20 = .ok (.invokespecial 165, 3) := by decide +kernel
theorem d_Yf_knownRowWith_23 : decode b_Yf_knownRowWith 23 = .ok (.athrow, 1) := by decide +kernel
theorem d_Yf_knownRowWith_24 : decode b_Yf_knownRowWith 24 = .ok (.aload_n 3, 1) := by decide +kernel
theorem d_Yf_knownRowWith_25 : decode b_Yf_knownRowWith 25 = .ok (.areturn, 1) := by decide +kernel
theorem d_Yf_freeRow_0 : decode b_Yf_freeRow 0 = .ok (.aload_n 0, 1) := by decide +kernel
theorem d_Yf_freeRow_1 : decode b_Yf_freeRow 1 = .ok (.getfield 16, 3) := by decide +kernel
theorem d_Yf_freeRow_4 : decode b_Yf_freeRow 4 = .ok (.bipush 8, 2) := by decide +kernel
theorem d_Yf_freeRow_6 : decode b_Yf_freeRow 6 = .ok (.if_icmp .lt 13, 3) := by decide +kernel
theorem d_Yf_freeRow_9 : decode b_Yf_freeRow 9 = .ok (.new 233, 3) := by decide +kernel
theorem d_Yf_freeRow_12 : decode b_Yf_freeRow 12 = .ok (.dup, 1) := by decide +kernel
theorem d_Yf_freeRow_13 : decode b_Yf_freeRow 13 = .ok (.ldc 235, 2) := by decide +kernel
theorem d_Yf_freeRow_15 : decode b_Yf_freeRow 15 = .ok (.invokespecial 237, 3) := by decide +kernel
theorem d_Yf_freeRow_18 : decode b_Yf_freeRow 18 = .ok (.athrow, 1) := by decide +kernel
theorem d_Yf_freeRow_19 : decode b_Yf_freeRow 19 = .ok (.aload_n 0, 1) := by decide +kernel
theorem d_Yf_freeRow_20 : decode b_Yf_freeRow 20 = .ok (.getfield 11, 3) := by decide +kernel
theorem d_Yf_freeRow_23 : decode b_Yf_freeRow 23 = .ok (.aload_n 0, 1) := by decide +kernel
theorem d_Yf_freeRow_24 : decode b_Yf_freeRow 24 = .ok (.getfield 16, 3) := by decide +kernel
theorem d_Yf_freeRow_27 : decode b_Yf_freeRow 27 = .ok (.aaload, 1) := by decide +kernel
theorem d_Yf_freeRow_28 : decode b_Yf_freeRow 28 = .ok (.areturn, 1) := by decide +kernel
theorem d_Yf_keepFreeRow_0 : decode b_Yf_keepFreeRow 0 = .ok (.aload_n 0, 1) := by decide +kernel
theorem d_Yf_keepFreeRow_1 : decode b_Yf_keepFreeRow 1 = .ok (.getfield 16, 3) := by decide +kernel
theorem d_Yf_keepFreeRow_4 : decode b_Yf_keepFreeRow 4 = .ok (.istore_n 1, 1) := by decide +kernel
theorem d_Yf_keepFreeRow_5 : decode b_Yf_keepFreeRow 5 = .ok (.aload_n 0, 1) := by decide +kernel
theorem d_Yf_keepFreeRow_6 : decode b_Yf_keepFreeRow 6 = .ok (.dup, 1) := by decide +kernel
theorem d_Yf_keepFreeRow_7 : decode b_Yf_keepFreeRow 7 = .ok (.getfield 16, 3) := by decide +kernel
theorem d_Yf_keepFreeRow_10 : decode b_Yf_keepFreeRow 10 = .ok (.iconst 1, 1) := by decide +kernel
theorem d_Yf_keepFreeRow_11 : decode b_Yf_keepFreeRow 11 = .ok (.iadd, 1) := by decide +kernel
theorem d_Yf_keepFreeRow_12 : decode b_Yf_keepFreeRow 12 = .ok (.putfield 16, 3) := by decide +kernel
theorem d_Yf_keepFreeRow_15 : decode b_Yf_keepFreeRow 15 = .ok (.iload_n 1, 1) := by decide +kernel
theorem d_Yf_keepFreeRow_16 : decode b_Yf_keepFreeRow 16 = .ok (.ireturn, 1) := by decide +kernel
theorem d_Yf_requireDigit_0 : decode b_Yf_requireDigit 0 = .ok (.iload_n 0, 1) := by decide +kernel
theorem d_Yf_requireDigit_1 : decode b_Yf_requireDigit 1 = .ok (.ifCond .lt 8, 3) := by decide +kernel
theorem d_Yf_requireDigit_4 : decode b_Yf_requireDigit 4 = .ok (.iload_n 0, 1) := by decide +kernel
theorem d_Yf_requireDigit_5 : decode b_Yf_requireDigit 5 = .ok (.iload_n 1, 1) := by decide +kernel
theorem d_Yf_requireDigit_6 : decode b_Yf_requireDigit 6 = .ok (.if_icmp .lt 13, 3) := by decide +kernel
theorem d_Yf_requireDigit_9 : decode b_Yf_requireDigit 9 = .ok (.new 161, 3) := by decide +kernel
theorem d_Yf_requireDigit_12 : decode b_Yf_requireDigit 12 = .ok (.dup, 1) := by decide +kernel
theorem d_Yf_requireDigit_13 : decode b_Yf_requireDigit 13 = .ok (.ldc 238, 2) := by decide +kernel
theorem d_Yf_requireDigit_15 : decode b_Yf_requireDigit 15 = .ok (.invokespecial 165, 3) := by decide +kernel
theorem d_Yf_requireDigit_18 : decode b_Yf_requireDigit 18 = .ok (.athrow, 1) := by decide +kernel
theorem d_Yf_requireDigit_19 : decode b_Yf_requireDigit 19 = .ok (.return_, 1) := by decide +kernel
theorem d_Yf_requireCalendar_0 : decode b_Yf_requireCalendar 0 = .ok (.iload_n 0, 1) := by decide +kernel
theorem d_Yf_requireCalendar_1 : decode b_Yf_requireCalendar 1 = .ok (.ifCond .lt 8, 3) := by decide +kernel
theorem d_Yf_requireCalendar_4 : decode b_Yf_requireCalendar 4 = .ok (.iload_n 0, 1) := by decide +kernel
theorem d_Yf_requireCalendar_5 : decode b_Yf_requireCalendar 5 = .ok (.iconst 4, 1) := by decide +kernel
theorem d_Yf_requireCalendar_6 : decode b_Yf_requireCalendar 6 = .ok (.if_icmp .lt 13, 3) := by decide +kernel
theorem d_Yf_requireCalendar_9 : decode b_Yf_requireCalendar 9 = .ok (.new 161, 3) := by decide +kernel
theorem d_Yf_requireCalendar_12 : decode b_Yf_requireCalendar 12 = .ok (.dup, 1) := by decide +kernel
theorem d_Yf_requireCalendar_13 : decode b_Yf_requireCalendar 13 = .ok (.ldc 240, 2) := by decide +kernel
theorem d_Yf_requireCalendar_15 : decode b_Yf_requireCalendar 15 = .ok (.invokespecial 165, 3) := by decide +kernel
theorem d_Yf_requireCalendar_18 : decode b_Yf_requireCalendar 18 = .ok (.athrow, 1) := by decide +kernel
theorem d_Yf_requireCalendar_19 : decode b_Yf_requireCalendar 19 = .ok (.return_, 1) := by decide +kernel
theorem d_Yf_storeWeight_0 : decode b_Yf_storeWeight 0 = .ok (.aload_n 2, 1) := by decide +kernel
theorem d_Yf_storeWeight_1 : decode b_Yf_storeWeight 1 = .ok (.invokevirtual 242, 3) := by decide +kernel
theorem d_Yf_storeWeight_4 : decode b_Yf_storeWeight 4 = .ok (.ifCond .ne 13, 3) := by decide +kernel
theorem d_Yf_storeWeight_7 : decode b_Yf_storeWeight 7 = .ok (.new 141, 3) := by decide +kernel
theorem d_Yf_storeWeight_10 : decode b_Yf_storeWeight 10 = .ok (.dup, 1) := by decide +kernel
theorem d_Yf_storeWeight_11 : decode b_Yf_storeWeight 11 = .ok (.ldc 245, 2) := by decide +kernel
theorem d_Yf_storeWeight_13 : decode b_Yf_storeWeight 13 = .ok (.invokespecial 145, 3) := by decide +kernel
theorem d_Yf_storeWeight_16 : decode b_Yf_storeWeight 16 = .ok (.athrow, 1) := by decide +kernel
theorem d_Yf_storeWeight_17 : decode b_Yf_storeWeight 17 = .ok (.aload_n 0, 1) := by decide +kernel
theorem d_Yf_storeWeight_18 : decode b_Yf_storeWeight 18 = .ok (.iload_n 1, 1) := by decide +kernel
theorem d_Yf_storeWeight_19 : decode b_Yf_storeWeight 19 = .ok (.aload_n 2, 1) := by decide +kernel
theorem d_Yf_storeWeight_20 : decode b_Yf_storeWeight 20 = .ok (.invokevirtual 79, 3) := by decide +kernel
theorem d_Yf_storeWeight_23 : decode b_Yf_storeWeight 23 = .ok (.return_, 1) := by decide +kernel
theorem d_Yf_gather_0 : decode b_Yf_gather 0 = .ok (.aload_n 1, 1) := by decide +kernel
theorem d_Yf_gather_1 : decode b_Yf_gather 1 = .ok (.lconst 0, 1) := by decide +kernel
theorem d_Yf_gather_2 : decode b_Yf_gather 2 = .ok (.invokevirtual 75, 3) := by decide +kernel
theorem d_Yf_gather_5 : decode b_Yf_gather 5 = .ok (.aload_n 0, 1) := by decide +kernel
theorem d_Yf_gather_6 : decode b_Yf_gather 6 = .ok (.getfield 90, 3) := by decide +kernel
theorem d_Yf_gather_9 : decode b_Yf_gather 9 = .ok (.istore_n 3, 1) := by decide +kernel
theorem d_Yf_gather_10 : decode b_Yf_gather 10 = .ok (.iload_n 3, 1) := by decide +kernel
theorem d_Yf_gather_11 : decode b_Yf_gather 11 = .ok (.aload_n 0, 1) := by decide +kernel
theorem d_Yf_gather_12 : decode b_Yf_gather 12 = .ok (.invokevirtual 99, 3) := by decide +kernel
theorem d_Yf_gather_15 : decode b_Yf_gather 15 = .ok (.if_icmp .gt 20, 3) := by decide +kernel
theorem d_Yf_gather_18 : decode b_Yf_gather 18 = .ok (.aload_n 0, 1) := by decide +kernel
theorem d_Yf_gather_19 : decode b_Yf_gather 19 = .ok (.iload_n 3, 1) := by decide +kernel
theorem d_Yf_gather_20 : decode b_Yf_gather 20 = .ok (.aload_n 2, 1) := by decide +kernel
theorem d_Yf_gather_21 : decode b_Yf_gather 21 = .ok (.invokevirtual 71, 3) := by decide +kernel
theorem d_Yf_gather_24 : decode b_Yf_gather 24 = .ok (.aload_n 1, 1) := by decide +kernel
theorem d_Yf_gather_25 : decode b_Yf_gather 25 = .ok (.aload_n 2, 1) := by decide +kernel
theorem d_Yf_gather_26 : decode b_Yf_gather 26 = .ok (.invokevirtual 107, 3) := by decide +kernel
theorem d_Yf_gather_29 : decode b_Yf_gather 29 = .ok (.iinc 3 1, 3) := by decide +kernel
theorem d_Yf_gather_32 : decode b_Yf_gather 32 = .ok (.goto (-22), 3) := by decide +kernel
theorem d_Yf_gather_35 : decode b_Yf_gather 35 = .ok (.return_, 1) := by decide +kernel
theorem d_Yf_countWeighted_0 : decode b_Yf_countWeighted 0 = .ok (.iconst 0, 1) := by decide +kernel
theorem d_Yf_countWeighted_1 : decode b_Yf_countWeighted 1 = .ok (.istore_n 2, 1) := by decide +kernel
theorem d_Yf_countWeighted_2 : decode b_Yf_countWeighted 2 = .ok (.aload_n 1, 1) := by decide +kernel
theorem d_Yf_countWeighted_3 : decode b_Yf_countWeighted 3 = .ok (.getfield 90, 3) := by decide +kernel
theorem d_Yf_countWeighted_6 : decode b_Yf_countWeighted 6 = .ok (.istore_n 3, 1) := by decide +kernel
theorem d_Yf_countWeighted_7 : decode b_Yf_countWeighted 7 = .ok (.iload_n 3, 1) := by decide +kernel
theorem d_Yf_countWeighted_8 : decode b_Yf_countWeighted 8 = .ok (.aload_n 1, 1) := by decide +kernel
theorem d_Yf_countWeighted_9 : decode b_Yf_countWeighted 9 = .ok (.invokevirtual 99, 3) := by decide +kernel
theorem d_Yf_countWeighted_12 : decode b_Yf_countWeighted 12 = .ok (.if_icmp .gt 31, 3) := by decide +kernel
theorem d_Yf_countWeighted_15 : decode b_Yf_countWeighted 15 = .ok (.aload_n 1, 1) := by decide +kernel
theorem d_Yf_countWeighted_16 : decode b_Yf_countWeighted 16 = .ok (.iload_n 3, 1) := by decide +kernel
theorem d_Yf_countWeighted_17 : decode b_Yf_countWeighted 17 = .ok (.aload_n 0, 1) := by decide +kernel
theorem d_Yf_countWeighted_18 : decode b_Yf_countWeighted 18 = .ok (.getfield 34, 3) := by decide +kernel
theorem d_Yf_countWeighted_21 : decode b_Yf_countWeighted 21 = .ok (.invokevirtual 71, 3) := by decide +kernel
theorem d_Yf_countWeighted_24 : decode b_Yf_countWeighted 24 = .ok (.aload_n 0, 1) := by decide +kernel
theorem d_Yf_countWeighted_25 : decode b_Yf_countWeighted 25 = .ok (.getfield 34, 3) := by decide +kernel
theorem d_Yf_countWeighted_28 : decode b_Yf_countWeighted 28 = .ok (.invokevirtual 137, 3) := by decide +kernel
theorem d_Yf_countWeighted_31 : decode b_Yf_countWeighted 31 = .ok (.ifCond .ne 6, 3) := by decide +kernel
theorem d_Yf_countWeighted_34 : decode b_Yf_countWeighted 34 = .ok (.iinc 2 1, 3) := by decide +kernel
theorem d_Yf_countWeighted_37 : decode b_Yf_countWeighted 37 = .ok (.iinc 3 1, 3) := by decide +kernel
theorem d_Yf_countWeighted_40 : decode b_Yf_countWeighted 40 = .ok (.goto (-33), 3) := by decide +kernel
theorem d_Yf_countWeighted_43 : decode b_Yf_countWeighted 43 = .ok (.iload_n 2, 1) := by decide +kernel
theorem d_Yf_countWeighted_44 : decode b_Yf_countWeighted 44 = .ok (.ireturn, 1) := by decide +kernel
theorem d_Yf_takeUntilEnough_0 : decode b_Yf_takeUntilEnough 0 = .ok (.aload_n 0, 1) := by decide +kernel
theorem d_Yf_takeUntilEnough_1 : decode b_Yf_takeUntilEnough 1 = .ok (.getfield 27, 3) := by decide +kernel
theorem d_Yf_takeUntilEnough_4 : decode b_Yf_takeUntilEnough 4 = .ok (.aload_n 1, 1) := by decide +kernel
theorem d_Yf_takeUntilEnough_5 : decode b_Yf_takeUntilEnough 5 = .ok (.invokevirtual 247, 3) := by decide +kernel
theorem d_Yf_takeUntilEnough_8 : decode b_Yf_takeUntilEnough 8 = .ok (.aload_n 0, 1) := by decide +kernel
theorem d_Yf_takeUntilEnough_9 : decode b_Yf_takeUntilEnough 9 = .ok (.getfield 38, 3) := by decide +kernel
theorem d_Yf_takeUntilEnough_12 : decode b_Yf_takeUntilEnough 12 = .ok (.lconst 0, 1) := by decide +kernel
theorem d_Yf_takeUntilEnough_13 : decode b_Yf_takeUntilEnough 13 = .ok (.invokevirtual 75, 3) := by decide +kernel
theorem d_Yf_takeUntilEnough_16 : decode b_Yf_takeUntilEnough 16 = .ok (.aload_n 0, 1) := by decide +kernel
theorem d_Yf_takeUntilEnough_17 : decode b_Yf_takeUntilEnough 17 = .ok (.getfield 34, 3) := by decide +kernel
theorem d_Yf_takeUntilEnough_20 : decode b_Yf_takeUntilEnough 20 = .ok (.lconst 0, 1) := by decide +kernel
theorem d_Yf_takeUntilEnough_21 : decode b_Yf_takeUntilEnough 21 = .ok (.invokevirtual 75, 3) := by decide +kernel
theorem d_Yf_takeUntilEnough_24 : decode b_Yf_takeUntilEnough 24 = .ok (.iconst 0, 1) := by decide +kernel
theorem d_Yf_takeUntilEnough_25 : decode b_Yf_takeUntilEnough 25 = .ok (.istore_n 3, 1) := by decide +kernel
theorem d_Yf_takeUntilEnough_26 : decode b_Yf_takeUntilEnough 26 = .ok (.iload_n 3, 1) := by decide +kernel
theorem d_Yf_takeUntilEnough_27 : decode b_Yf_takeUntilEnough 27 = .ok (.aload_n 1, 1) := by decide +kernel
theorem d_Yf_takeUntilEnough_28 : decode b_Yf_takeUntilEnough 28 = .ok (.getfield 250, 3) := by decide +kernel
theorem d_Yf_takeUntilEnough_31 : decode b_Yf_takeUntilEnough 31 = .ok (.if_icmp .ge 64, 3) := by decide +kernel
theorem d_Yf_takeUntilEnough_34 : decode b_Yf_takeUntilEnough 34 = .ok (.aload_n 0, 1) := by decide +kernel
theorem d_Yf_takeUntilEnough_35 : decode b_Yf_takeUntilEnough 35 = .ok (.getfield 34, 3) := by decide +kernel
theorem d_Yf_takeUntilEnough_38 : decode b_Yf_takeUntilEnough 38 = .ok (.aload_n 0, 1) := by decide +kernel
theorem d_Yf_takeUntilEnough_39 : decode b_Yf_takeUntilEnough 39 = .ok (.getfield 41, 3) := by decide +kernel
theorem d_Yf_takeUntilEnough_42 : decode b_Yf_takeUntilEnough 42 = .ok (.invokevirtual 82, 3) := by decide +kernel
theorem d_Yf_takeUntilEnough_45 : decode b_Yf_takeUntilEnough 45 = .ok (.ifCond .ge 50, 3) := by decide +kernel
theorem d_Yf_takeUntilEnough_48 : decode b_Yf_takeUntilEnough 48 = .ok (.aload_n 1, 1) := by decide +kernel
theorem d_Yf_takeUntilEnough_49 : decode b_Yf_takeUntilEnough 49 = .ok (.aload_n 0, 1) := by decide +kernel
theorem d_Yf_takeUntilEnough_50 : decode b_Yf_takeUntilEnough 50 = .ok (.getfield 27, 3) := by decide +kernel
theorem d_Yf_takeUntilEnough_53 : decode b_Yf_takeUntilEnough 53 = .ok (.aload_n 1, 1) := by decide +kernel
theorem d_Yf_takeUntilEnough_54 : decode b_Yf_takeUntilEnough 54 = .ok (.iload_n 3, 1) := by decide +kernel
theorem d_Yf_takeUntilEnough_55 : decode b_Yf_takeUntilEnough 55 = .ok (.invokevirtual 253, 3) := by decide +kernel
theorem d_Yf_takeUntilEnough_58 : decode b_Yf_takeUntilEnough 58 = .ok (.aload_n 0, 1) := by decide +kernel
theorem d_Yf_takeUntilEnough_59 : decode b_Yf_takeUntilEnough 59 = .ok (.getfield 34, 3) := by decide +kernel
theorem d_Yf_takeUntilEnough_62 : decode b_Yf_takeUntilEnough 62 = .ok (.invokevirtual 71, 3) := by decide +kernel
theorem d_Yf_takeUntilEnough_65 : decode b_Yf_takeUntilEnough 65 = .ok (.aload_n 0, 1) := by decide +kernel
theorem d_Yf_takeUntilEnough_66 : decode b_Yf_takeUntilEnough 66 = .ok (.getfield 38, 3) := by decide +kernel
theorem d_Yf_takeUntilEnough_69 : decode b_Yf_takeUntilEnough 69 = .ok (.aload_n 0, 1) := by decide +kernel
theorem d_Yf_takeUntilEnough_70 : decode b_Yf_takeUntilEnough 70 = .ok (.getfield 34, 3) := by decide +kernel
theorem d_Yf_takeUntilEnough_73 : decode b_Yf_takeUntilEnough 73 = .ok (.invokevirtual 107, 3) := by decide +kernel
theorem d_Yf_takeUntilEnough_76 : decode b_Yf_takeUntilEnough 76 = .ok (.aload_n 0, 1) := by decide +kernel
theorem d_Yf_takeUntilEnough_77 : decode b_Yf_takeUntilEnough 77 = .ok (.getfield 34, 3) := by decide +kernel
theorem d_Yf_takeUntilEnough_80 : decode b_Yf_takeUntilEnough 80 = .ok (.aload_n 0, 1) := by decide +kernel
theorem d_Yf_takeUntilEnough_81 : decode b_Yf_takeUntilEnough 81 = .ok (.getfield 38, 3) := by decide +kernel
theorem d_Yf_takeUntilEnough_84 : decode b_Yf_takeUntilEnough 84 = .ok (.iload_n 2, 1) := by decide +kernel
theorem d_Yf_takeUntilEnough_85 : decode b_Yf_takeUntilEnough 85 = .ok (.i2l, 1) := by decide +kernel
theorem d_Yf_takeUntilEnough_86 : decode b_Yf_takeUntilEnough 86 = .ok (.invokevirtual 146, 3) := by decide +kernel
theorem d_Yf_takeUntilEnough_89 : decode b_Yf_takeUntilEnough 89 = .ok (.iinc 3 1, 3) := by decide +kernel
theorem d_Yf_takeUntilEnough_92 : decode b_Yf_takeUntilEnough 92 = .ok (.goto (-66), 3) := by decide +kernel
theorem d_Yf_takeUntilEnough_95 : decode b_Yf_takeUntilEnough 95 = .ok (.return_, 1) := by decide +kernel
end
section
/-! WHAT STANDS THROUGHOUT THE RUN, beside the words yW: words that are kept in another way, texts, static tables -/
abbrev yD : Type := va_G × (Nat → ClassId) × (Nat → Nat)
def yT (d : yD) : List (ClassId × FieldType) := [(d.2.1 0, .int), (d.2.1 1, .long), (d.2.1 2, .boolean), (d.2.1 3, .object "YearFractions$Row")]
def yL (l : Launch) : Prop := l.stackTraces = false
def yNk : Cond → Bool
  | .fieldLinkNest .. | .methodLinkNest .. | .castable .. | .declares _ => true
  | _ => false
def yNs : List Cond := lw_tbl.filter yNk
theorem yNs_of {w : Cond} (i : Nat) (h : lw_tbl[i]? = some w) (hg : yNk w = true) : w ∈ yNs := List.mem_filter.mpr ⟨List.mem_of_getElem? h, hg⟩
theorem yNs_on {w : Cond} (h : w ∈ yNs) : w.onTables = true := by
  have h1 := (List.mem_filter.mp h).2
  cases w <;> first | rfl | (simp [yNk] at h1)
theorem yNs_warm {w : Cond} (h : w ∈ yNs) {s U : State} (hW : s.WarmedH U.vm) (hw : va_Nw w s) : va_Nw w U := by
  have h1 := (List.mem_filter.mp h).2
  cases w with
  | fieldLinkNest => exact va_Nw.warmF hW hw
  | methodLinkNest => exact va_Nw.warmM hW hw
  | castable => exact va_Nw.warmC hW hw
  | declares => exact va_Nw.warmD hW hw
  | _ => simp [yNk] at h1
def yStr : List (String × Nat × String) := [("YearFractions", 235, "there are eight rows"), ("YearFractions", 50, "a row has 1 to 48 years"), ("YearFractions", 55, "years are -9999 to 9999"), ("YearFractions", 225, "no such row"), ("YearFractions", 231, "the year is not in the row"), ("YearFractions", 69, "a weight is not below 0"), ("YearFractions", 105, "the sum would have more than 48 years"), ("YearFractions", 245, "a weight would be too great"), ("YearFractions", 116, "the unit is 1 to 1000000000"), ("YearFractions", 118, "the rows have no year together"), ("YearFractions", 129, "below is 1 to 1000000"), ("YearFractions", 131, "above is 0 to below"), ("YearFractions", 143, "all weights of the row are 0"), ("YearFractions", 163, "no such span"), ("YearFractions", 166, "a span's end is 0 or 1"), ("YearFractions", 238, "no such digit"), ("YearFractions", 186, "a row is asked for 0, 1 or 2"), ("YearFractions", 188, "nothing is divided by 0"), ("YearFractions", 240, "no such calendar"), ("YearFractions", 199, "no such month"), ("YearFractions", 205, "no such day"), ("YearFractions", 213, "a day is asked for 0, 1 or 2"), ("YearFractions", 217, "days are -4000000 to 4000000")]
def yTab : List (String × List Int) := [("MONTH_DAYS", [31, 28, 31, 30, 31, 30, 31, 31, 30, 31, 30, 31]), ("LUNAR_LEAPS", [2, 5, 7, 10, 13, 16, 18, 21, 24, 26, 29]), ("FIRST_DAY", [0, -2, 227014, -272788]), ("CYCLE_YEARS", [400, 4, 30, 1]), ("CYCLE_DAYS", [146097, 1461, 10631, 365])]
def yEx : List String := ["java/lang/IndexOutOfBoundsException", "java/lang/IllegalStateException", "java/lang/IllegalArgumentException", "java/lang/ArithmeticException"]
def yGt (d : yD) (b : Nat) (U : State) : Prop := ∀ (i : Nat) (q : String × List Int), yTab[i]? = some q → va_Z "YearFractions$Calendars" q.1 "[I" (.ref (d.2.2 i)) (fun q => b ≤ q) U U.heap ∧ va_T .int (d.2.2 i) q.2.length (fun j => vi (q.2.getD j 0)) (fun q => b ≤ q) U U.heap
def yG (d : yD) (b : Nat) (U : State) : Prop :=
  (∀ w ∈ yNs, va_Nw w U) ∧ (∀ q ∈ yStr, ∃ a, vk_R q.1 q.2.1 q.2.2 a U) ∧ yGt d b U ∧
  vx_Zq Bundle.tN "UNASSIGNED_STACK" Bundle.steD (fun q => b ≤ q) U U.heap ∧ vx_Zq Bundle.tN "SUPPRESSED_SENTINEL" Bundle.listD (fun q => b ≤ q) U U.heap ∧
  va_AO "YearFractions$Row" U ∧ ∀ E ∈ yEx, ∀ N ∈ yEx, E ≠ N → va_Nc E N U
theorem yNc_moved {C T : String} {u U : State} (hvm : u.vm.Alike U.vm) (h : va_Nc C T u) : va_Nc C T U := by
  obtain ⟨c, t, h1, h2, h3⟩ := h
  exact ⟨c, t, by rw [hvm.findClass]; exact h1, by rw [hvm.findClass]; exact h2, by rw [hvm.assignable]; exact h3⟩
theorem yG_to {d : yD} {b : Nat} {s U : State} (hW : s.WarmedH U.vm) (hq : ∀ q : Nat, q < s.heap.size → ¬ b ≤ q → U.heap[q]? = s.heap[q]?) (h : yG d b s) : yG d b U := by
  obtain ⟨h1, h2, h3, h4, h5, h6, h7⟩ := h
  refine ⟨fun w hw => yNs_warm hw hW (h1 w hw), fun q hq1 => ?_, fun i q hi => ⟨va_Z.moved hW.alike ((h3 i q hi).1.kept hq), va_T.moved hW.alike ((h3 i q hi).2.kept hq)⟩, vx_Zq.moved hW.alike (h4.kept hq), vx_Zq.moved hW.alike (h5.kept hq), va_AO.moved hW.alike h6, fun E hE N hN hne => yNc_moved hW.alike (h7 E hE N hN hne)⟩
  obtain ⟨a, ha⟩ := h2 q hq1
  exact ⟨a, ha.warm hW⟩
end
section
theorem lm_0 {w : Cond} (i : Nat) (h : (k2_sels lw_privs)[i]? = some w) : w ∈ lw_tbl := List.mem_append_left _ (List.mem_of_getElem? h)
theorem lm_1 {w : Cond} (i : Nat) (h : tables_1_1[i]? = some w) : w ∈ lw_tbl := List.mem_append_right _ (List.mem_append_left _ (List.mem_of_getElem? h))
theorem lm_2 {w : Cond} (i : Nat) (h : tables_1_2[i]? = some w) : w ∈ lw_tbl := List.mem_append_right _ (List.mem_append_right _ (List.mem_append_left _ (List.mem_of_getElem? h)))
theorem lm_3 {w : Cond} (i : Nat) (h : tables_1_3[i]? = some w) : w ∈ lw_tbl := List.mem_append_right _ (List.mem_append_right _ (List.mem_append_right _ (List.mem_append_left _ (List.mem_of_getElem? h))))
theorem lm_4 {w : Cond} (i : Nat) (h : tables_1_4[i]? = some w) : w ∈ lw_tbl := List.mem_append_right _ (List.mem_append_right _ (List.mem_append_right _ (List.mem_append_right _ (List.mem_of_getElem? h))))
theorem yW_m {w : Cond} (h : w ∈ lw_tbl) (hg : goodWord w = true) : w ∈ yW := List.mem_filter.mpr ⟨h, hg⟩
theorem yNs_m {w : Cond} (h : w ∈ lw_tbl) (hg : yNk w = true) : w ∈ yNs := List.mem_filter.mpr ⟨h, hg⟩
theorem yAll {w : Cond} {ws : List Cond} (h : w ∈ yW) (t : ∀ x ∈ ws, x ∈ yW) : ∀ x ∈ w :: ws, x ∈ yW := fun x hx => (List.mem_cons.mp hx).elim (fun e => by rw [e]; exact h) (t x)
theorem yNil : ∀ x ∈ ([] : List Cond), x ∈ yW := fun _ hx => absurd hx List.not_mem_nil
theorem wc_Yf_init : Cond.code y_Yf_init prog_1_method_1_code 2 none ∈ yW := (yW_m (lm_1 19 rfl) rfl)
theorem wc_Yf_row : Cond.code y_Yf_row prog_1_method_2_code 4 (some .int) ∈ yW := (yW_m (lm_1 125 rfl) rfl)
theorem wc_Yf_weight : Cond.code y_Yf_weight prog_1_method_3_code 6 (some .boolean) ∈ yW := (yW_m (lm_1 231 rfl) rfl)
theorem wc_Yf_add : Cond.code y_Yf_add prog_1_method_4_code 9 (some .int) ∈ yW := (yW_m (lm_2 52 rfl) rfl)
theorem wc_Yf_times : Cond.code y_Yf_times prog_1_method_5_code 12 (some .int) ∈ yW := (yW_m (lm_2 94 rfl) rfl)
theorem wc_Yf_rest : Cond.code y_Yf_rest prog_1_method_6_code 1 (some .long) ∈ yW := (yW_m (lm_1 108 rfl) rfl)
theorem wc_Yf_least : Cond.code y_Yf_least prog_1_method_7_code 5 (some .int) ∈ yW := (yW_m (lm_2 113 rfl) rfl)
theorem wc_Yf_span : Cond.code y_Yf_span prog_1_method_8_code 3 (some .int) ∈ yW := (yW_m (lm_2 155 rfl) rfl)
theorem wc_Yf_digit : Cond.code y_Yf_digit prog_1_method_9_code 5 (some .int) ∈ yW := (yW_m (lm_2 164 rfl) rfl)
theorem wc_Yf_total : Cond.code y_Yf_total prog_1_method_10_code 4 (some .int) ∈ yW := (yW_m (lm_2 180 rfl) rfl)
theorem wc_Yf_compare : Cond.code y_Yf_compare prog_1_method_11_code 5 (some .int) ∈ yW := (yW_m (lm_2 187 rfl) rfl)
theorem wc_Yf_about : Cond.code y_Yf_about prog_1_method_12_code 4 (some .int) ∈ yW := (yW_m (lm_2 194 rfl) rfl)
theorem wc_Yf_over : Cond.code y_Yf_over prog_1_method_13_code 5 (some .long) ∈ yW := (yW_m (lm_2 206 rfl) rfl)
theorem wc_Yf_written : Cond.code y_Yf_written prog_1_method_14_code 2 (some .long) ∈ yW := (yW_m (lm_1 112 rfl) rfl)
theorem wc_Yf_day : Cond.code y_Yf_day prog_1_method_15_code 5 (some .int) ∈ yW := (yW_m (lm_2 214 rfl) rfl)
theorem wc_Yf_date : Cond.code y_Yf_date prog_1_method_16_code 6 (some .int) ∈ yW := (yW_m (lm_3 21 rfl) rfl)
theorem wc_Yf_clear : Cond.code y_Yf_clear prog_1_method_17_code 2 (some .int) ∈ yW := (yW_m (lm_1 116 rfl) rfl)
theorem wc_Yf_knownRow : Cond.code y_Yf_knownRow prog_1_method_18_code 2 (some (.object "YearFractions$Row")) ∈ yW := (yW_m (lm_1 239 rfl) rfl)
theorem wc_Yf_knownRowWith : Cond.code y_Yf_knownRowWith prog_1_method_19_code 4 (some (.object "YearFractions$Row")) ∈ yW := (yW_m (lm_1 235 rfl) rfl)
theorem wc_Yf_freeRow : Cond.code y_Yf_freeRow prog_1_method_20_code 1 (some (.object "YearFractions$Row")) ∈ yW := (yW_m (lm_1 129 rfl) rfl)
theorem wc_Yf_keepFreeRow : Cond.code y_Yf_keepFreeRow prog_1_method_21_code 2 (some .int) ∈ yW := (yW_m (lm_1 223 rfl) rfl)
theorem wc_Yf_requireDigit : Cond.code y_Yf_requireDigit prog_1_method_22_code 2 none ∈ yW := (yW_m (lm_2 167 rfl) rfl)
theorem wc_Yf_requireCalendar : Cond.code y_Yf_requireCalendar prog_1_method_23_code 1 none ∈ yW := (yW_m (lm_2 217 rfl) rfl)
theorem wc_Yf_storeWeight : Cond.code y_Yf_storeWeight prog_1_method_24_code 3 none ∈ yW := (yW_m (lm_2 67 rfl) rfl)
theorem wc_Yf_gather : Cond.code y_Yf_gather prog_1_method_25_code 4 none ∈ yW := (yW_m (lm_2 119 rfl) rfl)
theorem wc_Yf_countWeighted : Cond.code y_Yf_countWeighted prog_1_method_26_code 4 (some .int) ∈ yW := (yW_m (lm_2 198 rfl) rfl)
theorem wc_Yf_takeUntilEnough : Cond.code y_Yf_takeUntilEnough prog_1_method_27_code 4 none ∈ yW := (yW_m (lm_2 132 rfl) rfl)
theorem wc_Mod_init : Cond.code y_Mod_init prog_7_method_1_code 1 none ∈ yW := (yW_m (lm_3 45 rfl) rfl)
theorem wc_Mod_thrown : Cond.code y_Mod_thrown prog_7_method_2_code 1 (some .int) ∈ yW := (yW_m (lm_3 87 rfl) rfl)
theorem wc_Mod_goes : Cond.code y_Mod_goes prog_7_method_3_code 5 (some .boolean) ∈ yW := (yW_m (lm_3 98 rfl) rfl)
theorem wc_Mod_within : Cond.code y_Mod_within prog_7_method_4_code 3 (some .boolean) ∈ yW := (yW_m (lm_3 94 rfl) rfl)
theorem wc_Mod_isRow : Cond.code y_Mod_isRow prog_7_method_5_code 2 (some .boolean) ∈ yW := (yW_m (lm_3 114 rfl) rfl)
theorem wc_Mod_has : Cond.code y_Mod_has prog_7_method_6_code 3 (some .boolean) ∈ yW := (yW_m (lm_3 110 rfl) rfl)
theorem wc_Mod_at : Cond.code y_Mod_at prog_7_method_7_code 3 (some .int) ∈ yW := (yW_m (lm_3 119 rfl) rfl)
theorem wc_Mod_open : Cond.code y_Mod_open prog_7_method_8_code 4 none ∈ yW := (yW_m (lm_3 102 rfl) rfl)
theorem wc_Mod_row : Cond.code y_Mod_row prog_7_method_9_code 4 (some .int) ∈ yW := (yW_m (lm_3 91 rfl) rfl)
theorem wc_Mod_weight : Cond.code y_Mod_weight prog_7_method_10_code 10 (some .boolean) ∈ yW := (yW_m (lm_3 106 rfl) rfl)
theorem wc_Mod_blank : Cond.code y_Mod_blank prog_7_method_11_code 2 none ∈ yW := (yW_m (lm_3 127 rfl) rfl)
theorem wc_Mod_plus : Cond.code y_Mod_plus prog_7_method_12_code 6 none ∈ yW := (yW_m (lm_3 131 rfl) rfl)
theorem wc_Mod_keep : Cond.code y_Mod_keep prog_7_method_13_code 5 (some .boolean) ∈ yW := (yW_m (lm_3 135 rfl) rfl)
theorem wc_Mod_add : Cond.code y_Mod_add prog_7_method_14_code 8 (some .int) ∈ yW := (yW_m (lm_3 123 rfl) rfl)
theorem wc_Mod_multiply : Cond.code y_Mod_multiply prog_7_method_15_code 7 none ∈ yW := (yW_m (lm_3 144 rfl) rfl)
theorem wc_Mod_divide : Cond.code y_Mod_divide prog_7_method_16_code 5 (some .long) ∈ yW := (yW_m (lm_3 148 rfl) rfl)
theorem wc_Mod_times : Cond.code y_Mod_times prog_7_method_17_code 11 (some .int) ∈ yW := (yW_m (lm_3 139 rfl) rfl)
theorem wc_Mod_rest : Cond.code y_Mod_rest prog_7_method_18_code 1 (some .long) ∈ yW := (yW_m (lm_3 152 rfl) rfl)
theorem wc_Mod_compared : Cond.code y_Mod_compared prog_7_method_19_code 4 (some .int) ∈ yW := (yW_m (lm_3 177 rfl) rfl)
theorem wc_Mod_sumUp : Cond.code y_Mod_sumUp prog_7_method_20_code 4 none ∈ yW := (yW_m (lm_3 169 rfl) rfl)
theorem wc_Mod_grow : Cond.code y_Mod_grow prog_7_method_21_code 7 none ∈ yW := (yW_m (lm_3 173 rfl) rfl)
theorem wc_Mod_enough : Cond.code y_Mod_enough prog_7_method_22_code 5 (some .boolean) ∈ yW := (yW_m (lm_3 165 rfl) rfl)
theorem wc_Mod_isNothing : Cond.code y_Mod_isNothing prog_7_method_23_code 4 (some .boolean) ∈ yW := (yW_m (lm_3 161 rfl) rfl)
theorem wc_Mod_least : Cond.code y_Mod_least prog_7_method_24_code 7 (some .int) ∈ yW := (yW_m (lm_3 156 rfl) rfl)
theorem wc_Mod_span : Cond.code y_Mod_span prog_7_method_25_code 3 (some .int) ∈ yW := (yW_m (lm_3 181 rfl) rfl)
theorem wc_Mod_digit : Cond.code y_Mod_digit prog_7_method_26_code 4 (some .int) ∈ yW := (yW_m (lm_3 185 rfl) rfl)
theorem wc_Mod_total : Cond.code y_Mod_total prog_7_method_27_code 3 (some .int) ∈ yW := (yW_m (lm_3 189 rfl) rfl)
theorem wc_Mod_compare : Cond.code y_Mod_compare prog_7_method_28_code 5 (some .int) ∈ yW := (yW_m (lm_3 193 rfl) rfl)
theorem wc_Mod_about : Cond.code y_Mod_about prog_7_method_29_code 7 (some .int) ∈ yW := (yW_m (lm_3 197 rfl) rfl)
theorem wc_Mod_over : Cond.code y_Mod_over prog_7_method_30_code 5 (some .long) ∈ yW := (yW_m (lm_3 201 rfl) rfl)
theorem wc_Mod_written : Cond.code y_Mod_written prog_7_method_31_code 2 (some .long) ∈ yW := (yW_m (lm_3 205 rfl) rfl)
theorem wc_Mod_rest_2 : Cond.code y_Mod_rest_2 prog_7_method_32_code 3 (some .int) ∈ yW := (yW_m (lm_3 221 rfl) rfl)
theorem wc_Mod_isLeap : Cond.code y_Mod_isLeap prog_7_method_33_code 3 (some .boolean) ∈ yW := (yW_m (lm_3 218 rfl) rfl)
theorem wc_Mod_yearDays : Cond.code y_Mod_yearDays prog_7_method_34_code 2 (some .int) ∈ yW := (yW_m (lm_3 239 rfl) rfl)
theorem wc_Mod_months : Cond.code y_Mod_months prog_7_method_35_code 1 (some .int) ∈ yW := (yW_m (lm_3 212 rfl) rfl)
theorem wc_Mod_monthDays : Cond.code y_Mod_monthDays prog_7_method_36_code 3 (some .int) ∈ yW := (yW_m (lm_3 215 rfl) rfl)
theorem wc_Mod_cycle : Cond.code y_Mod_cycle prog_7_method_37_code 1 (some .int) ∈ yW := (yW_m (lm_3 233 rfl) rfl)
theorem wc_Mod_cycleDays : Cond.code y_Mod_cycleDays prog_7_method_38_code 3 (some .int) ∈ yW := (yW_m (lm_3 236 rfl) rfl)
theorem wc_Mod_origin : Cond.code y_Mod_origin prog_7_method_39_code 1 (some .int) ∈ yW := (yW_m (lm_3 224 rfl) rfl)
theorem wc_Mod_behind : Cond.code y_Mod_behind prog_7_method_40_code 6 (some .int) ∈ yW := (yW_m (lm_3 230 rfl) rfl)
theorem wc_Mod_firstOf : Cond.code y_Mod_firstOf prog_7_method_41_code 2 (some .int) ∈ yW := (yW_m (lm_3 227 rfl) rfl)
theorem wc_Mod_day : Cond.code y_Mod_day prog_7_method_42_code 9 (some .int) ∈ yW := (yW_m (lm_3 209 rfl) rfl)
theorem wc_Mod_date : Cond.code y_Mod_date prog_7_method_43_code 8 (some .int) ∈ yW := (yW_m (lm_4 3 rfl) rfl)
theorem wc_Mod_clear : Cond.code y_Mod_clear prog_7_method_44_code 2 (some .int) ∈ yW := (yW_m (lm_4 9 rfl) rfl)
theorem wc_Cal_months : Cond.code y_Cal_months prog_2_method_2_code 1 (some .int) ∈ yW := (yW_m (lm_2 221 rfl) rfl)
theorem wc_Cal_isLeap : Cond.code y_Cal_isLeap prog_2_method_3_code 2 (some .boolean) ∈ yW := (yW_m (lm_2 228 rfl) rfl)
theorem wc_Cal_isLunarLeap : Cond.code y_Cal_isLunarLeap prog_2_method_4_code 5 (some .boolean) ∈ yW := (yW_m (lm_2 234 rfl) rfl)
theorem wc_Cal_lunarLeapsTo : Cond.code y_Cal_lunarLeapsTo prog_2_method_5_code 6 (some .int) ∈ yW := (yW_m (lm_3 10 rfl) rfl)
theorem wc_Cal_monthDays : Cond.code y_Cal_monthDays prog_2_method_6_code 3 (some .int) ∈ yW := (yW_m (lm_2 225 rfl) rfl)
theorem wc_Cal_daysAhead : Cond.code y_Cal_daysAhead prog_2_method_7_code 5 (some .int) ∈ yW := (yW_m (lm_3 13 rfl) rfl)
theorem wc_Cal_newYear : Cond.code y_Cal_newYear prog_2_method_8_code 4 (some .int) ∈ yW := (yW_m (lm_3 2 rfl) rfl)
theorem wc_Cal_yearOf : Cond.code y_Cal_yearOf prog_2_method_9_code 5 (some .int) ∈ yW := (yW_m (lm_3 28 rfl) rfl)
theorem wc_Cal_monthOf : Cond.code y_Cal_monthOf prog_2_method_10_code 5 (some .int) ∈ yW := (yW_m (lm_3 39 rfl) rfl)
theorem wc_Set_init : Cond.code y_Set_init prog_3_method_1_code 1 none ∈ yW := (yW_m (lm_1 49 rfl) rfl)
theorem wc_Set_rank : Cond.code y_Set_rank prog_3_method_2_code 4 none ∈ yW := (yW_m (lm_2 136 rfl) rfl)
theorem wc_Set_take : Cond.code y_Set_take prog_3_method_3_code 4 (some .int) ∈ yW := (yW_m (lm_2 144 rfl) rfl)
theorem wc_Set_findSpans : Cond.code y_Set_findSpans prog_3_method_4_code 4 none ∈ yW := (yW_m (lm_2 148 rfl) rfl)
theorem wc_Row_init : Cond.code y_Row_init prog_4_method_1_code 1 none ∈ yW := (yW_m (lm_1 28 rfl) rfl)
theorem wc_Row_open : Cond.code y_Row_open prog_4_method_2_code 4 none ∈ yW := (yW_m (lm_1 219 rfl) rfl)
theorem wc_Row_last : Cond.code y_Row_last prog_4_method_3_code 1 (some .int) ∈ yW := (yW_m (lm_2 23 rfl) rfl)
theorem wc_Row_has : Cond.code y_Row_has prog_4_method_4_code 2 (some .boolean) ∈ yW := (yW_m (lm_2 19 rfl) rfl)
theorem wc_Row_read : Cond.code y_Row_read prog_4_method_5_code 5 none ∈ yW := (yW_m (lm_2 29 rfl) rfl)
theorem wc_Row_write : Cond.code y_Row_write prog_4_method_6_code 5 none ∈ yW := (yW_m (lm_2 40 rfl) rfl)
theorem wc_Row_isLess : Cond.code y_Row_isLess prog_4_method_7_code 8 (some .boolean) ∈ yW := (yW_m (lm_2 140 rfl) rfl)
theorem wc_Who_init : Cond.code y_Who_init prog_5_method_1_code 1 none ∈ yW := (yW_m (lm_1 76 rfl) rfl)
theorem wc_Who_become : Cond.code y_Who_become prog_5_method_2_code 6 none ∈ yW := (yW_m (lm_2 33 rfl) rfl)
theorem wc_Who_increase : Cond.code y_Who_increase prog_5_method_3_code 7 none ∈ yW := (yW_m (lm_2 64 rfl) rfl)
theorem wc_Who_becomeScaled : Cond.code y_Who_becomeScaled prog_5_method_4_code 9 none ∈ yW := (yW_m (lm_2 128 rfl) rfl)
theorem wc_Who_becomeProduct : Cond.code y_Who_becomeProduct prog_5_method_5_code 9 none ∈ yW := (yW_m (lm_2 101 rfl) rfl)
theorem wc_Who_divide : Cond.code y_Who_divide prog_5_method_6_code 7 (some .long) ∈ yW := (yW_m (lm_2 106 rfl) rfl)
theorem wc_Who_order : Cond.code y_Who_order prog_5_method_7_code 3 (some .int) ∈ yW := (yW_m (lm_2 44 rfl) rfl)
theorem wc_Who_isZero : Cond.code y_Who_isZero prog_5_method_8_code 2 (some .boolean) ∈ yW := (yW_m (lm_2 123 rfl) rfl)
theorem wc_Who_isWeight : Cond.code y_Who_isWeight prog_5_method_9_code 2 (some .boolean) ∈ yW := (yW_m (lm_2 71 rfl) rfl)
theorem wc_Who_digitAt : Cond.code y_Who_digitAt prog_5_method_10_code 5 (some .int) ∈ yW := (yW_m (lm_2 172 rfl) rfl)
theorem wc_Law_row : Cond.codeWith y_Law_row method_3_code 5 (some .int) [(0, 10, 13, 13), (0, 10, 17, 15)] ∈ yW := (yW_m (lm_1 119 rfl) rfl)
theorem wc_Law_weight : Cond.codeWith y_Law_weight method_4_code 7 (some .int) [(0, 19, 22, 21), (0, 19, 26, 15)] ∈ yW := (yW_m (lm_1 226 rfl) rfl)
theorem wc_Law_add : Cond.codeWith y_Law_add method_5_code 5 (some .int) [(0, 10, 13, 21), (0, 10, 17, 13), (0, 10, 21, 15), (0, 10, 25, 26)] ∈ yW := (yW_m (lm_2 47 rfl) rfl)
theorem wc_Law_times : Cond.codeWith y_Law_times method_6_code 6 (some .int) [(0, 12, 15, 21), (0, 12, 19, 13), (0, 12, 23, 15), (0, 12, 27, 26)] ∈ yW := (yW_m (lm_2 90 rfl) rfl)
theorem wc_Law_least : Cond.codeWith y_Law_least method_7_code 6 (some .int) [(0, 12, 15, 21), (0, 12, 19, 15), (0, 12, 23, 26)] ∈ yW := (yW_m (lm_2 109 rfl) rfl)
theorem wc_Law_span : Cond.codeWith y_Law_span method_8_code 5 (some .int) [(0, 10, 13, 21)] ∈ yW := (yW_m (lm_2 151 rfl) rfl)
theorem wc_Law_digit : Cond.codeWith y_Law_digit method_9_code 6 (some .int) [(0, 12, 15, 21)] ∈ yW := (yW_m (lm_2 160 rfl) rfl)
theorem wc_Law_total : Cond.codeWith y_Law_total method_10_code 5 (some .int) [(0, 10, 13, 21)] ∈ yW := (yW_m (lm_2 176 rfl) rfl)
theorem wc_Law_compare : Cond.codeWith y_Law_compare method_11_code 7 (some .int) [(0, 14, 17, 21)] ∈ yW := (yW_m (lm_2 183 rfl) rfl)
theorem wc_Law_about : Cond.codeWith y_Law_about method_12_code 5 (some .int) [(0, 10, 13, 21), (0, 10, 17, 15)] ∈ yW := (yW_m (lm_2 190 rfl) rfl)
theorem wc_Law_over : Cond.codeWith y_Law_over method_13_code 7 (some .int) [(0, 10, 13, 26)] ∈ yW := (yW_m (lm_2 202 rfl) rfl)
theorem wc_Law_day : Cond.codeWith y_Law_day method_14_code 7 (some .int) [(0, 14, 17, 21), (0, 14, 21, 15)] ∈ yW := (yW_m (lm_2 210 rfl) rfl)
theorem wc_Law_date : Cond.codeWith y_Law_date method_15_code 6 (some .int) [(0, 12, 15, 21), (0, 12, 19, 15)] ∈ yW := (yW_m (lm_3 17 rfl) rfl)
abbrev b_Jmin : ByteArray := prog_13_method_69_code
def y_Jmin : MethodName := ⟨"java/lang/Math", "min", "(II)I"⟩
theorem wc_Jmin : Cond.code y_Jmin prog_13_method_69_code 2 (some .int) ∈ yW := (yW_m (lm_2 55 rfl) rfl)
abbrev b_Jmax : ByteArray := prog_13_method_65_code
def y_Jmax : MethodName := ⟨"java/lang/Math", "max", "(II)I"⟩
theorem wc_Jmax : Cond.code y_Jmax prog_13_method_65_code 2 (some .int) ∈ yW := (yW_m (lm_2 59 rfl) rfl)
abbrev b_JfloorMod : ByteArray := prog_13_method_50_code
def y_JfloorMod : MethodName := ⟨"java/lang/Math", "floorMod", "(II)I"⟩
theorem wc_JfloorMod : Cond.code y_JfloorMod prog_13_method_50_code 3 (some .int) ∈ yW := (yW_m (lm_2 231 rfl) rfl)
abbrev b_JfloorDiv : ByteArray := prog_13_method_47_code
def y_JfloorDiv : MethodName := ⟨"java/lang/Math", "floorDiv", "(II)I"⟩
theorem wc_JfloorDiv : Cond.code y_JfloorDiv prog_13_method_47_code 3 (some .int) ∈ yW := (yW_m (lm_3 7 rfl) rfl)
abbrev b_JfloorDivL : ByteArray := prog_13_method_49_code
def y_JfloorDivL : MethodName := ⟨"java/lang/Math", "floorDiv", "(JJ)J"⟩
theorem wc_JfloorDivL : Cond.code y_JfloorDivL prog_13_method_49_code 6 (some .long) ∈ yW := (yW_m (lm_3 35 rfl) rfl)
theorem wc_Obj : Cond.code objectInit ⟨#[0xb1]⟩ 1 none ∈ yW := (yW_m (lm_1 22 rfl) rfl)
theorem np_Yf_init : y_Yf_init.cls ≠ "java/lang/invoke/MethodHandle" ∧ y_Yf_init.cls ≠ "java/lang/invoke/VarHandle" ∧ (parseMethodDescriptor y_Yf_init.desc).map (fun d => d.parameters.length) = some 0 := by decide +kernel
theorem np_Yf_row : y_Yf_row.cls ≠ "java/lang/invoke/MethodHandle" ∧ y_Yf_row.cls ≠ "java/lang/invoke/VarHandle" ∧ (parseMethodDescriptor y_Yf_row.desc).map (fun d => d.parameters.length) = some 2 := by decide +kernel
theorem np_Yf_weight : y_Yf_weight.cls ≠ "java/lang/invoke/MethodHandle" ∧ y_Yf_weight.cls ≠ "java/lang/invoke/VarHandle" ∧ (parseMethodDescriptor y_Yf_weight.desc).map (fun d => d.parameters.length) = some 3 := by decide +kernel
theorem np_Yf_add : y_Yf_add.cls ≠ "java/lang/invoke/MethodHandle" ∧ y_Yf_add.cls ≠ "java/lang/invoke/VarHandle" ∧ (parseMethodDescriptor y_Yf_add.desc).map (fun d => d.parameters.length) = some 2 := by decide +kernel
theorem np_Yf_times : y_Yf_times.cls ≠ "java/lang/invoke/MethodHandle" ∧ y_Yf_times.cls ≠ "java/lang/invoke/VarHandle" ∧ (parseMethodDescriptor y_Yf_times.desc).map (fun d => d.parameters.length) = some 3 := by decide +kernel
theorem np_Yf_rest : y_Yf_rest.cls ≠ "java/lang/invoke/MethodHandle" ∧ y_Yf_rest.cls ≠ "java/lang/invoke/VarHandle" ∧ (parseMethodDescriptor y_Yf_rest.desc).map (fun d => d.parameters.length) = some 0 := by decide +kernel
theorem np_Yf_least : y_Yf_least.cls ≠ "java/lang/invoke/MethodHandle" ∧ y_Yf_least.cls ≠ "java/lang/invoke/VarHandle" ∧ (parseMethodDescriptor y_Yf_least.desc).map (fun d => d.parameters.length) = some 3 := by decide +kernel
theorem np_Yf_span : y_Yf_span.cls ≠ "java/lang/invoke/MethodHandle" ∧ y_Yf_span.cls ≠ "java/lang/invoke/VarHandle" ∧ (parseMethodDescriptor y_Yf_span.desc).map (fun d => d.parameters.length) = some 2 := by decide +kernel
theorem np_Yf_digit : y_Yf_digit.cls ≠ "java/lang/invoke/MethodHandle" ∧ y_Yf_digit.cls ≠ "java/lang/invoke/VarHandle" ∧ (parseMethodDescriptor y_Yf_digit.desc).map (fun d => d.parameters.length) = some 3 := by decide +kernel
theorem np_Yf_total : y_Yf_total.cls ≠ "java/lang/invoke/MethodHandle" ∧ y_Yf_total.cls ≠ "java/lang/invoke/VarHandle" ∧ (parseMethodDescriptor y_Yf_total.desc).map (fun d => d.parameters.length) = some 2 := by decide +kernel
theorem np_Yf_compare : y_Yf_compare.cls ≠ "java/lang/invoke/MethodHandle" ∧ y_Yf_compare.cls ≠ "java/lang/invoke/VarHandle" ∧ (parseMethodDescriptor y_Yf_compare.desc).map (fun d => d.parameters.length) = some 4 := by decide +kernel
theorem np_Yf_about : y_Yf_about.cls ≠ "java/lang/invoke/MethodHandle" ∧ y_Yf_about.cls ≠ "java/lang/invoke/VarHandle" ∧ (parseMethodDescriptor y_Yf_about.desc).map (fun d => d.parameters.length) = some 2 := by decide +kernel
theorem np_Yf_over : y_Yf_over.cls ≠ "java/lang/invoke/MethodHandle" ∧ y_Yf_over.cls ≠ "java/lang/invoke/VarHandle" ∧ (parseMethodDescriptor y_Yf_over.desc).map (fun d => d.parameters.length) = some 2 := by decide +kernel
theorem np_Yf_written : y_Yf_written.cls ≠ "java/lang/invoke/MethodHandle" ∧ y_Yf_written.cls ≠ "java/lang/invoke/VarHandle" ∧ (parseMethodDescriptor y_Yf_written.desc).map (fun d => d.parameters.length) = some 1 := by decide +kernel
theorem np_Yf_day : y_Yf_day.cls ≠ "java/lang/invoke/MethodHandle" ∧ y_Yf_day.cls ≠ "java/lang/invoke/VarHandle" ∧ (parseMethodDescriptor y_Yf_day.desc).map (fun d => d.parameters.length) = some 4 := by decide +kernel
theorem np_Yf_date : y_Yf_date.cls ≠ "java/lang/invoke/MethodHandle" ∧ y_Yf_date.cls ≠ "java/lang/invoke/VarHandle" ∧ (parseMethodDescriptor y_Yf_date.desc).map (fun d => d.parameters.length) = some 3 := by decide +kernel
theorem np_Yf_clear : y_Yf_clear.cls ≠ "java/lang/invoke/MethodHandle" ∧ y_Yf_clear.cls ≠ "java/lang/invoke/VarHandle" ∧ (parseMethodDescriptor y_Yf_clear.desc).map (fun d => d.parameters.length) = some 0 := by decide +kernel
theorem np_Yf_knownRow : y_Yf_knownRow.cls ≠ "java/lang/invoke/MethodHandle" ∧ y_Yf_knownRow.cls ≠ "java/lang/invoke/VarHandle" ∧ (parseMethodDescriptor y_Yf_knownRow.desc).map (fun d => d.parameters.length) = some 1 := by decide +kernel
theorem np_Yf_knownRowWith : y_Yf_knownRowWith.cls ≠ "java/lang/invoke/MethodHandle" ∧ y_Yf_knownRowWith.cls ≠ "java/lang/invoke/VarHandle" ∧ (parseMethodDescriptor y_Yf_knownRowWith.desc).map (fun d => d.parameters.length) = some 2 := by decide +kernel
theorem np_Yf_freeRow : y_Yf_freeRow.cls ≠ "java/lang/invoke/MethodHandle" ∧ y_Yf_freeRow.cls ≠ "java/lang/invoke/VarHandle" ∧ (parseMethodDescriptor y_Yf_freeRow.desc).map (fun d => d.parameters.length) = some 0 := by decide +kernel
theorem np_Yf_keepFreeRow : y_Yf_keepFreeRow.cls ≠ "java/lang/invoke/MethodHandle" ∧ y_Yf_keepFreeRow.cls ≠ "java/lang/invoke/VarHandle" ∧ (parseMethodDescriptor y_Yf_keepFreeRow.desc).map (fun d => d.parameters.length) = some 0 := by decide +kernel
theorem np_Yf_requireDigit : y_Yf_requireDigit.cls ≠ "java/lang/invoke/MethodHandle" ∧ y_Yf_requireDigit.cls ≠ "java/lang/invoke/VarHandle" ∧ (parseMethodDescriptor y_Yf_requireDigit.desc).map (fun d => d.parameters.length) = some 2 := by decide +kernel
theorem np_Yf_requireCalendar : y_Yf_requireCalendar.cls ≠ "java/lang/invoke/MethodHandle" ∧ y_Yf_requireCalendar.cls ≠ "java/lang/invoke/VarHandle" ∧ (parseMethodDescriptor y_Yf_requireCalendar.desc).map (fun d => d.parameters.length) = some 1 := by decide +kernel
theorem np_Yf_storeWeight : y_Yf_storeWeight.cls ≠ "java/lang/invoke/MethodHandle" ∧ y_Yf_storeWeight.cls ≠ "java/lang/invoke/VarHandle" ∧ (parseMethodDescriptor y_Yf_storeWeight.desc).map (fun d => d.parameters.length) = some 3 := by decide +kernel
theorem np_Yf_gather : y_Yf_gather.cls ≠ "java/lang/invoke/MethodHandle" ∧ y_Yf_gather.cls ≠ "java/lang/invoke/VarHandle" ∧ (parseMethodDescriptor y_Yf_gather.desc).map (fun d => d.parameters.length) = some 3 := by decide +kernel
theorem np_Yf_countWeighted : y_Yf_countWeighted.cls ≠ "java/lang/invoke/MethodHandle" ∧ y_Yf_countWeighted.cls ≠ "java/lang/invoke/VarHandle" ∧ (parseMethodDescriptor y_Yf_countWeighted.desc).map (fun d => d.parameters.length) = some 1 := by decide +kernel
theorem np_Yf_takeUntilEnough : y_Yf_takeUntilEnough.cls ≠ "java/lang/invoke/MethodHandle" ∧ y_Yf_takeUntilEnough.cls ≠ "java/lang/invoke/VarHandle" ∧ (parseMethodDescriptor y_Yf_takeUntilEnough.desc).map (fun d => d.parameters.length) = some 2 := by decide +kernel
theorem np_Mod_init : y_Mod_init.cls ≠ "java/lang/invoke/MethodHandle" ∧ y_Mod_init.cls ≠ "java/lang/invoke/VarHandle" ∧ (parseMethodDescriptor y_Mod_init.desc).map (fun d => d.parameters.length) = some 0 := by decide +kernel
theorem np_Mod_thrown : y_Mod_thrown.cls ≠ "java/lang/invoke/MethodHandle" ∧ y_Mod_thrown.cls ≠ "java/lang/invoke/VarHandle" ∧ (parseMethodDescriptor y_Mod_thrown.desc).map (fun d => d.parameters.length) = some 0 := by decide +kernel
theorem np_Mod_goes : y_Mod_goes.cls ≠ "java/lang/invoke/MethodHandle" ∧ y_Mod_goes.cls ≠ "java/lang/invoke/VarHandle" ∧ (parseMethodDescriptor y_Mod_goes.desc).map (fun d => d.parameters.length) = some 4 := by decide +kernel
theorem np_Mod_within : y_Mod_within.cls ≠ "java/lang/invoke/MethodHandle" ∧ y_Mod_within.cls ≠ "java/lang/invoke/VarHandle" ∧ (parseMethodDescriptor y_Mod_within.desc).map (fun d => d.parameters.length) = some 3 := by decide +kernel
theorem np_Mod_isRow : y_Mod_isRow.cls ≠ "java/lang/invoke/MethodHandle" ∧ y_Mod_isRow.cls ≠ "java/lang/invoke/VarHandle" ∧ (parseMethodDescriptor y_Mod_isRow.desc).map (fun d => d.parameters.length) = some 1 := by decide +kernel
theorem np_Mod_has : y_Mod_has.cls ≠ "java/lang/invoke/MethodHandle" ∧ y_Mod_has.cls ≠ "java/lang/invoke/VarHandle" ∧ (parseMethodDescriptor y_Mod_has.desc).map (fun d => d.parameters.length) = some 2 := by decide +kernel
theorem np_Mod_at : y_Mod_at.cls ≠ "java/lang/invoke/MethodHandle" ∧ y_Mod_at.cls ≠ "java/lang/invoke/VarHandle" ∧ (parseMethodDescriptor y_Mod_at.desc).map (fun d => d.parameters.length) = some 2 := by decide +kernel
theorem np_Mod_open : y_Mod_open.cls ≠ "java/lang/invoke/MethodHandle" ∧ y_Mod_open.cls ≠ "java/lang/invoke/VarHandle" ∧ (parseMethodDescriptor y_Mod_open.desc).map (fun d => d.parameters.length) = some 2 := by decide +kernel
theorem np_Mod_row : y_Mod_row.cls ≠ "java/lang/invoke/MethodHandle" ∧ y_Mod_row.cls ≠ "java/lang/invoke/VarHandle" ∧ (parseMethodDescriptor y_Mod_row.desc).map (fun d => d.parameters.length) = some 2 := by decide +kernel
theorem np_Mod_weight : y_Mod_weight.cls ≠ "java/lang/invoke/MethodHandle" ∧ y_Mod_weight.cls ≠ "java/lang/invoke/VarHandle" ∧ (parseMethodDescriptor y_Mod_weight.desc).map (fun d => d.parameters.length) = some 3 := by decide +kernel
theorem np_Mod_blank : y_Mod_blank.cls ≠ "java/lang/invoke/MethodHandle" ∧ y_Mod_blank.cls ≠ "java/lang/invoke/VarHandle" ∧ (parseMethodDescriptor y_Mod_blank.desc).map (fun d => d.parameters.length) = some 0 := by decide +kernel
theorem np_Mod_plus : y_Mod_plus.cls ≠ "java/lang/invoke/MethodHandle" ∧ y_Mod_plus.cls ≠ "java/lang/invoke/VarHandle" ∧ (parseMethodDescriptor y_Mod_plus.desc).map (fun d => d.parameters.length) = some 2 := by decide +kernel
theorem np_Mod_keep : y_Mod_keep.cls ≠ "java/lang/invoke/MethodHandle" ∧ y_Mod_keep.cls ≠ "java/lang/invoke/VarHandle" ∧ (parseMethodDescriptor y_Mod_keep.desc).map (fun d => d.parameters.length) = some 2 := by decide +kernel
theorem np_Mod_add : y_Mod_add.cls ≠ "java/lang/invoke/MethodHandle" ∧ y_Mod_add.cls ≠ "java/lang/invoke/VarHandle" ∧ (parseMethodDescriptor y_Mod_add.desc).map (fun d => d.parameters.length) = some 2 := by decide +kernel
theorem np_Mod_multiply : y_Mod_multiply.cls ≠ "java/lang/invoke/MethodHandle" ∧ y_Mod_multiply.cls ≠ "java/lang/invoke/VarHandle" ∧ (parseMethodDescriptor y_Mod_multiply.desc).map (fun d => d.parameters.length) = some 2 := by decide +kernel
theorem np_Mod_divide : y_Mod_divide.cls ≠ "java/lang/invoke/MethodHandle" ∧ y_Mod_divide.cls ≠ "java/lang/invoke/VarHandle" ∧ (parseMethodDescriptor y_Mod_divide.desc).map (fun d => d.parameters.length) = some 1 := by decide +kernel
theorem np_Mod_times : y_Mod_times.cls ≠ "java/lang/invoke/MethodHandle" ∧ y_Mod_times.cls ≠ "java/lang/invoke/VarHandle" ∧ (parseMethodDescriptor y_Mod_times.desc).map (fun d => d.parameters.length) = some 3 := by decide +kernel
theorem np_Mod_rest : y_Mod_rest.cls ≠ "java/lang/invoke/MethodHandle" ∧ y_Mod_rest.cls ≠ "java/lang/invoke/VarHandle" ∧ (parseMethodDescriptor y_Mod_rest.desc).map (fun d => d.parameters.length) = some 0 := by decide +kernel
theorem np_Mod_compared : y_Mod_compared.cls ≠ "java/lang/invoke/MethodHandle" ∧ y_Mod_compared.cls ≠ "java/lang/invoke/VarHandle" ∧ (parseMethodDescriptor y_Mod_compared.desc).map (fun d => d.parameters.length) = some 2 := by decide +kernel
theorem np_Mod_sumUp : y_Mod_sumUp.cls ≠ "java/lang/invoke/MethodHandle" ∧ y_Mod_sumUp.cls ≠ "java/lang/invoke/VarHandle" ∧ (parseMethodDescriptor y_Mod_sumUp.desc).map (fun d => d.parameters.length) = some 2 := by decide +kernel
theorem np_Mod_grow : y_Mod_grow.cls ≠ "java/lang/invoke/MethodHandle" ∧ y_Mod_grow.cls ≠ "java/lang/invoke/VarHandle" ∧ (parseMethodDescriptor y_Mod_grow.desc).map (fun d => d.parameters.length) = some 1 := by decide +kernel
theorem np_Mod_enough : y_Mod_enough.cls ≠ "java/lang/invoke/MethodHandle" ∧ y_Mod_enough.cls ≠ "java/lang/invoke/VarHandle" ∧ (parseMethodDescriptor y_Mod_enough.desc).map (fun d => d.parameters.length) = some 3 := by decide +kernel
theorem np_Mod_isNothing : y_Mod_isNothing.cls ≠ "java/lang/invoke/MethodHandle" ∧ y_Mod_isNothing.cls ≠ "java/lang/invoke/VarHandle" ∧ (parseMethodDescriptor y_Mod_isNothing.desc).map (fun d => d.parameters.length) = some 1 := by decide +kernel
theorem np_Mod_least : y_Mod_least.cls ≠ "java/lang/invoke/MethodHandle" ∧ y_Mod_least.cls ≠ "java/lang/invoke/VarHandle" ∧ (parseMethodDescriptor y_Mod_least.desc).map (fun d => d.parameters.length) = some 3 := by decide +kernel
theorem np_Mod_span : y_Mod_span.cls ≠ "java/lang/invoke/MethodHandle" ∧ y_Mod_span.cls ≠ "java/lang/invoke/VarHandle" ∧ (parseMethodDescriptor y_Mod_span.desc).map (fun d => d.parameters.length) = some 2 := by decide +kernel
theorem np_Mod_digit : y_Mod_digit.cls ≠ "java/lang/invoke/MethodHandle" ∧ y_Mod_digit.cls ≠ "java/lang/invoke/VarHandle" ∧ (parseMethodDescriptor y_Mod_digit.desc).map (fun d => d.parameters.length) = some 3 := by decide +kernel
theorem np_Mod_total : y_Mod_total.cls ≠ "java/lang/invoke/MethodHandle" ∧ y_Mod_total.cls ≠ "java/lang/invoke/VarHandle" ∧ (parseMethodDescriptor y_Mod_total.desc).map (fun d => d.parameters.length) = some 2 := by decide +kernel
theorem np_Mod_compare : y_Mod_compare.cls ≠ "java/lang/invoke/MethodHandle" ∧ y_Mod_compare.cls ≠ "java/lang/invoke/VarHandle" ∧ (parseMethodDescriptor y_Mod_compare.desc).map (fun d => d.parameters.length) = some 4 := by decide +kernel
theorem np_Mod_about : y_Mod_about.cls ≠ "java/lang/invoke/MethodHandle" ∧ y_Mod_about.cls ≠ "java/lang/invoke/VarHandle" ∧ (parseMethodDescriptor y_Mod_about.desc).map (fun d => d.parameters.length) = some 2 := by decide +kernel
theorem np_Mod_over : y_Mod_over.cls ≠ "java/lang/invoke/MethodHandle" ∧ y_Mod_over.cls ≠ "java/lang/invoke/VarHandle" ∧ (parseMethodDescriptor y_Mod_over.desc).map (fun d => d.parameters.length) = some 2 := by decide +kernel
theorem np_Mod_written : y_Mod_written.cls ≠ "java/lang/invoke/MethodHandle" ∧ y_Mod_written.cls ≠ "java/lang/invoke/VarHandle" ∧ (parseMethodDescriptor y_Mod_written.desc).map (fun d => d.parameters.length) = some 1 := by decide +kernel
theorem np_Mod_rest_2 : y_Mod_rest_2.cls ≠ "java/lang/invoke/MethodHandle" ∧ y_Mod_rest_2.cls ≠ "java/lang/invoke/VarHandle" ∧ (parseMethodDescriptor y_Mod_rest_2.desc).map (fun d => d.parameters.length) = some 2 := by decide +kernel
theorem np_Mod_isLeap : y_Mod_isLeap.cls ≠ "java/lang/invoke/MethodHandle" ∧ y_Mod_isLeap.cls ≠ "java/lang/invoke/VarHandle" ∧ (parseMethodDescriptor y_Mod_isLeap.desc).map (fun d => d.parameters.length) = some 2 := by decide +kernel
theorem np_Mod_yearDays : y_Mod_yearDays.cls ≠ "java/lang/invoke/MethodHandle" ∧ y_Mod_yearDays.cls ≠ "java/lang/invoke/VarHandle" ∧ (parseMethodDescriptor y_Mod_yearDays.desc).map (fun d => d.parameters.length) = some 2 := by decide +kernel
theorem np_Mod_months : y_Mod_months.cls ≠ "java/lang/invoke/MethodHandle" ∧ y_Mod_months.cls ≠ "java/lang/invoke/VarHandle" ∧ (parseMethodDescriptor y_Mod_months.desc).map (fun d => d.parameters.length) = some 1 := by decide +kernel
theorem np_Mod_monthDays : y_Mod_monthDays.cls ≠ "java/lang/invoke/MethodHandle" ∧ y_Mod_monthDays.cls ≠ "java/lang/invoke/VarHandle" ∧ (parseMethodDescriptor y_Mod_monthDays.desc).map (fun d => d.parameters.length) = some 3 := by decide +kernel
theorem np_Mod_cycle : y_Mod_cycle.cls ≠ "java/lang/invoke/MethodHandle" ∧ y_Mod_cycle.cls ≠ "java/lang/invoke/VarHandle" ∧ (parseMethodDescriptor y_Mod_cycle.desc).map (fun d => d.parameters.length) = some 1 := by decide +kernel
theorem np_Mod_cycleDays : y_Mod_cycleDays.cls ≠ "java/lang/invoke/MethodHandle" ∧ y_Mod_cycleDays.cls ≠ "java/lang/invoke/VarHandle" ∧ (parseMethodDescriptor y_Mod_cycleDays.desc).map (fun d => d.parameters.length) = some 1 := by decide +kernel
theorem np_Mod_origin : y_Mod_origin.cls ≠ "java/lang/invoke/MethodHandle" ∧ y_Mod_origin.cls ≠ "java/lang/invoke/VarHandle" ∧ (parseMethodDescriptor y_Mod_origin.desc).map (fun d => d.parameters.length) = some 1 := by decide +kernel
theorem np_Mod_behind : y_Mod_behind.cls ≠ "java/lang/invoke/MethodHandle" ∧ y_Mod_behind.cls ≠ "java/lang/invoke/VarHandle" ∧ (parseMethodDescriptor y_Mod_behind.desc).map (fun d => d.parameters.length) = some 2 := by decide +kernel
theorem np_Mod_firstOf : y_Mod_firstOf.cls ≠ "java/lang/invoke/MethodHandle" ∧ y_Mod_firstOf.cls ≠ "java/lang/invoke/VarHandle" ∧ (parseMethodDescriptor y_Mod_firstOf.desc).map (fun d => d.parameters.length) = some 2 := by decide +kernel
theorem np_Mod_day : y_Mod_day.cls ≠ "java/lang/invoke/MethodHandle" ∧ y_Mod_day.cls ≠ "java/lang/invoke/VarHandle" ∧ (parseMethodDescriptor y_Mod_day.desc).map (fun d => d.parameters.length) = some 4 := by decide +kernel
theorem np_Mod_date : y_Mod_date.cls ≠ "java/lang/invoke/MethodHandle" ∧ y_Mod_date.cls ≠ "java/lang/invoke/VarHandle" ∧ (parseMethodDescriptor y_Mod_date.desc).map (fun d => d.parameters.length) = some 3 := by decide +kernel
theorem np_Mod_clear : y_Mod_clear.cls ≠ "java/lang/invoke/MethodHandle" ∧ y_Mod_clear.cls ≠ "java/lang/invoke/VarHandle" ∧ (parseMethodDescriptor y_Mod_clear.desc).map (fun d => d.parameters.length) = some 0 := by decide +kernel
theorem np_Cal_months : y_Cal_months.cls ≠ "java/lang/invoke/MethodHandle" ∧ y_Cal_months.cls ≠ "java/lang/invoke/VarHandle" ∧ (parseMethodDescriptor y_Cal_months.desc).map (fun d => d.parameters.length) = some 1 := by decide +kernel
theorem np_Cal_isLeap : y_Cal_isLeap.cls ≠ "java/lang/invoke/MethodHandle" ∧ y_Cal_isLeap.cls ≠ "java/lang/invoke/VarHandle" ∧ (parseMethodDescriptor y_Cal_isLeap.desc).map (fun d => d.parameters.length) = some 2 := by decide +kernel
theorem np_Cal_isLunarLeap : y_Cal_isLunarLeap.cls ≠ "java/lang/invoke/MethodHandle" ∧ y_Cal_isLunarLeap.cls ≠ "java/lang/invoke/VarHandle" ∧ (parseMethodDescriptor y_Cal_isLunarLeap.desc).map (fun d => d.parameters.length) = some 1 := by decide +kernel
theorem np_Cal_lunarLeapsTo : y_Cal_lunarLeapsTo.cls ≠ "java/lang/invoke/MethodHandle" ∧ y_Cal_lunarLeapsTo.cls ≠ "java/lang/invoke/VarHandle" ∧ (parseMethodDescriptor y_Cal_lunarLeapsTo.desc).map (fun d => d.parameters.length) = some 1 := by decide +kernel
theorem np_Cal_monthDays : y_Cal_monthDays.cls ≠ "java/lang/invoke/MethodHandle" ∧ y_Cal_monthDays.cls ≠ "java/lang/invoke/VarHandle" ∧ (parseMethodDescriptor y_Cal_monthDays.desc).map (fun d => d.parameters.length) = some 3 := by decide +kernel
theorem np_Cal_daysAhead : y_Cal_daysAhead.cls ≠ "java/lang/invoke/MethodHandle" ∧ y_Cal_daysAhead.cls ≠ "java/lang/invoke/VarHandle" ∧ (parseMethodDescriptor y_Cal_daysAhead.desc).map (fun d => d.parameters.length) = some 3 := by decide +kernel
theorem np_Cal_newYear : y_Cal_newYear.cls ≠ "java/lang/invoke/MethodHandle" ∧ y_Cal_newYear.cls ≠ "java/lang/invoke/VarHandle" ∧ (parseMethodDescriptor y_Cal_newYear.desc).map (fun d => d.parameters.length) = some 2 := by decide +kernel
theorem np_Cal_yearOf : y_Cal_yearOf.cls ≠ "java/lang/invoke/MethodHandle" ∧ y_Cal_yearOf.cls ≠ "java/lang/invoke/VarHandle" ∧ (parseMethodDescriptor y_Cal_yearOf.desc).map (fun d => d.parameters.length) = some 2 := by decide +kernel
theorem np_Cal_monthOf : y_Cal_monthOf.cls ≠ "java/lang/invoke/MethodHandle" ∧ y_Cal_monthOf.cls ≠ "java/lang/invoke/VarHandle" ∧ (parseMethodDescriptor y_Cal_monthOf.desc).map (fun d => d.parameters.length) = some 3 := by decide +kernel
theorem np_Set_init : y_Set_init.cls ≠ "java/lang/invoke/MethodHandle" ∧ y_Set_init.cls ≠ "java/lang/invoke/VarHandle" ∧ (parseMethodDescriptor y_Set_init.desc).map (fun d => d.parameters.length) = some 0 := by decide +kernel
theorem np_Set_rank : y_Set_rank.cls ≠ "java/lang/invoke/MethodHandle" ∧ y_Set_rank.cls ≠ "java/lang/invoke/VarHandle" ∧ (parseMethodDescriptor y_Set_rank.desc).map (fun d => d.parameters.length) = some 1 := by decide +kernel
theorem np_Set_take : y_Set_take.cls ≠ "java/lang/invoke/MethodHandle" ∧ y_Set_take.cls ≠ "java/lang/invoke/VarHandle" ∧ (parseMethodDescriptor y_Set_take.desc).map (fun d => d.parameters.length) = some 2 := by decide +kernel
theorem np_Set_findSpans : y_Set_findSpans.cls ≠ "java/lang/invoke/MethodHandle" ∧ y_Set_findSpans.cls ≠ "java/lang/invoke/VarHandle" ∧ (parseMethodDescriptor y_Set_findSpans.desc).map (fun d => d.parameters.length) = some 1 := by decide +kernel
theorem np_Row_init : y_Row_init.cls ≠ "java/lang/invoke/MethodHandle" ∧ y_Row_init.cls ≠ "java/lang/invoke/VarHandle" ∧ (parseMethodDescriptor y_Row_init.desc).map (fun d => d.parameters.length) = some 0 := by decide +kernel
theorem np_Row_open : y_Row_open.cls ≠ "java/lang/invoke/MethodHandle" ∧ y_Row_open.cls ≠ "java/lang/invoke/VarHandle" ∧ (parseMethodDescriptor y_Row_open.desc).map (fun d => d.parameters.length) = some 2 := by decide +kernel
theorem np_Row_last : y_Row_last.cls ≠ "java/lang/invoke/MethodHandle" ∧ y_Row_last.cls ≠ "java/lang/invoke/VarHandle" ∧ (parseMethodDescriptor y_Row_last.desc).map (fun d => d.parameters.length) = some 0 := by decide +kernel
theorem np_Row_has : y_Row_has.cls ≠ "java/lang/invoke/MethodHandle" ∧ y_Row_has.cls ≠ "java/lang/invoke/VarHandle" ∧ (parseMethodDescriptor y_Row_has.desc).map (fun d => d.parameters.length) = some 1 := by decide +kernel
theorem np_Row_read : y_Row_read.cls ≠ "java/lang/invoke/MethodHandle" ∧ y_Row_read.cls ≠ "java/lang/invoke/VarHandle" ∧ (parseMethodDescriptor y_Row_read.desc).map (fun d => d.parameters.length) = some 2 := by decide +kernel
theorem np_Row_write : y_Row_write.cls ≠ "java/lang/invoke/MethodHandle" ∧ y_Row_write.cls ≠ "java/lang/invoke/VarHandle" ∧ (parseMethodDescriptor y_Row_write.desc).map (fun d => d.parameters.length) = some 2 := by decide +kernel
theorem np_Row_isLess : y_Row_isLess.cls ≠ "java/lang/invoke/MethodHandle" ∧ y_Row_isLess.cls ≠ "java/lang/invoke/VarHandle" ∧ (parseMethodDescriptor y_Row_isLess.desc).map (fun d => d.parameters.length) = some 2 := by decide +kernel
theorem np_Who_init : y_Who_init.cls ≠ "java/lang/invoke/MethodHandle" ∧ y_Who_init.cls ≠ "java/lang/invoke/VarHandle" ∧ (parseMethodDescriptor y_Who_init.desc).map (fun d => d.parameters.length) = some 0 := by decide +kernel
theorem np_Who_become : y_Who_become.cls ≠ "java/lang/invoke/MethodHandle" ∧ y_Who_become.cls ≠ "java/lang/invoke/VarHandle" ∧ (parseMethodDescriptor y_Who_become.desc).map (fun d => d.parameters.length) = some 1 := by decide +kernel
theorem np_Who_increase : y_Who_increase.cls ≠ "java/lang/invoke/MethodHandle" ∧ y_Who_increase.cls ≠ "java/lang/invoke/VarHandle" ∧ (parseMethodDescriptor y_Who_increase.desc).map (fun d => d.parameters.length) = some 1 := by decide +kernel
theorem np_Who_becomeScaled : y_Who_becomeScaled.cls ≠ "java/lang/invoke/MethodHandle" ∧ y_Who_becomeScaled.cls ≠ "java/lang/invoke/VarHandle" ∧ (parseMethodDescriptor y_Who_becomeScaled.desc).map (fun d => d.parameters.length) = some 2 := by decide +kernel
theorem np_Who_becomeProduct : y_Who_becomeProduct.cls ≠ "java/lang/invoke/MethodHandle" ∧ y_Who_becomeProduct.cls ≠ "java/lang/invoke/VarHandle" ∧ (parseMethodDescriptor y_Who_becomeProduct.desc).map (fun d => d.parameters.length) = some 2 := by decide +kernel
theorem np_Who_divide : y_Who_divide.cls ≠ "java/lang/invoke/MethodHandle" ∧ y_Who_divide.cls ≠ "java/lang/invoke/VarHandle" ∧ (parseMethodDescriptor y_Who_divide.desc).map (fun d => d.parameters.length) = some 1 := by decide +kernel
theorem np_Who_order : y_Who_order.cls ≠ "java/lang/invoke/MethodHandle" ∧ y_Who_order.cls ≠ "java/lang/invoke/VarHandle" ∧ (parseMethodDescriptor y_Who_order.desc).map (fun d => d.parameters.length) = some 1 := by decide +kernel
theorem np_Who_isZero : y_Who_isZero.cls ≠ "java/lang/invoke/MethodHandle" ∧ y_Who_isZero.cls ≠ "java/lang/invoke/VarHandle" ∧ (parseMethodDescriptor y_Who_isZero.desc).map (fun d => d.parameters.length) = some 0 := by decide +kernel
theorem np_Who_isWeight : y_Who_isWeight.cls ≠ "java/lang/invoke/MethodHandle" ∧ y_Who_isWeight.cls ≠ "java/lang/invoke/VarHandle" ∧ (parseMethodDescriptor y_Who_isWeight.desc).map (fun d => d.parameters.length) = some 0 := by decide +kernel
theorem np_Who_digitAt : y_Who_digitAt.cls ≠ "java/lang/invoke/MethodHandle" ∧ y_Who_digitAt.cls ≠ "java/lang/invoke/VarHandle" ∧ (parseMethodDescriptor y_Who_digitAt.desc).map (fun d => d.parameters.length) = some 1 := by decide +kernel
theorem np_Law_row : y_Law_row.cls ≠ "java/lang/invoke/MethodHandle" ∧ y_Law_row.cls ≠ "java/lang/invoke/VarHandle" ∧ (parseMethodDescriptor y_Law_row.desc).map (fun d => d.parameters.length) = some 4 := by decide +kernel
theorem np_Law_weight : y_Law_weight.cls ≠ "java/lang/invoke/MethodHandle" ∧ y_Law_weight.cls ≠ "java/lang/invoke/VarHandle" ∧ (parseMethodDescriptor y_Law_weight.desc).map (fun d => d.parameters.length) = some 5 := by decide +kernel
theorem np_Law_add : y_Law_add.cls ≠ "java/lang/invoke/MethodHandle" ∧ y_Law_add.cls ≠ "java/lang/invoke/VarHandle" ∧ (parseMethodDescriptor y_Law_add.desc).map (fun d => d.parameters.length) = some 4 := by decide +kernel
theorem np_Law_times : y_Law_times.cls ≠ "java/lang/invoke/MethodHandle" ∧ y_Law_times.cls ≠ "java/lang/invoke/VarHandle" ∧ (parseMethodDescriptor y_Law_times.desc).map (fun d => d.parameters.length) = some 5 := by decide +kernel
theorem np_Law_least : y_Law_least.cls ≠ "java/lang/invoke/MethodHandle" ∧ y_Law_least.cls ≠ "java/lang/invoke/VarHandle" ∧ (parseMethodDescriptor y_Law_least.desc).map (fun d => d.parameters.length) = some 5 := by decide +kernel
theorem np_Law_span : y_Law_span.cls ≠ "java/lang/invoke/MethodHandle" ∧ y_Law_span.cls ≠ "java/lang/invoke/VarHandle" ∧ (parseMethodDescriptor y_Law_span.desc).map (fun d => d.parameters.length) = some 4 := by decide +kernel
theorem np_Law_digit : y_Law_digit.cls ≠ "java/lang/invoke/MethodHandle" ∧ y_Law_digit.cls ≠ "java/lang/invoke/VarHandle" ∧ (parseMethodDescriptor y_Law_digit.desc).map (fun d => d.parameters.length) = some 5 := by decide +kernel
theorem np_Law_total : y_Law_total.cls ≠ "java/lang/invoke/MethodHandle" ∧ y_Law_total.cls ≠ "java/lang/invoke/VarHandle" ∧ (parseMethodDescriptor y_Law_total.desc).map (fun d => d.parameters.length) = some 4 := by decide +kernel
theorem np_Law_compare : y_Law_compare.cls ≠ "java/lang/invoke/MethodHandle" ∧ y_Law_compare.cls ≠ "java/lang/invoke/VarHandle" ∧ (parseMethodDescriptor y_Law_compare.desc).map (fun d => d.parameters.length) = some 6 := by decide +kernel
theorem np_Law_about : y_Law_about.cls ≠ "java/lang/invoke/MethodHandle" ∧ y_Law_about.cls ≠ "java/lang/invoke/VarHandle" ∧ (parseMethodDescriptor y_Law_about.desc).map (fun d => d.parameters.length) = some 4 := by decide +kernel
theorem np_Law_over : y_Law_over.cls ≠ "java/lang/invoke/MethodHandle" ∧ y_Law_over.cls ≠ "java/lang/invoke/VarHandle" ∧ (parseMethodDescriptor y_Law_over.desc).map (fun d => d.parameters.length) = some 4 := by decide +kernel
theorem np_Law_day : y_Law_day.cls ≠ "java/lang/invoke/MethodHandle" ∧ y_Law_day.cls ≠ "java/lang/invoke/VarHandle" ∧ (parseMethodDescriptor y_Law_day.desc).map (fun d => d.parameters.length) = some 6 := by decide +kernel
theorem np_Law_date : y_Law_date.cls ≠ "java/lang/invoke/MethodHandle" ∧ y_Law_date.cls ≠ "java/lang/invoke/VarHandle" ∧ (parseMethodDescriptor y_Law_date.desc).map (fun d => d.parameters.length) = some 5 := by decide +kernel
theorem np_Jmin : y_Jmin.cls ≠ "java/lang/invoke/MethodHandle" ∧ y_Jmin.cls ≠ "java/lang/invoke/VarHandle" ∧ (parseMethodDescriptor y_Jmin.desc).map (fun d => d.parameters.length) = some 2 := by decide +kernel
theorem np_Jmax : y_Jmax.cls ≠ "java/lang/invoke/MethodHandle" ∧ y_Jmax.cls ≠ "java/lang/invoke/VarHandle" ∧ (parseMethodDescriptor y_Jmax.desc).map (fun d => d.parameters.length) = some 2 := by decide +kernel
theorem np_JfloorMod : y_JfloorMod.cls ≠ "java/lang/invoke/MethodHandle" ∧ y_JfloorMod.cls ≠ "java/lang/invoke/VarHandle" ∧ (parseMethodDescriptor y_JfloorMod.desc).map (fun d => d.parameters.length) = some 2 := by decide +kernel
theorem np_JfloorDiv : y_JfloorDiv.cls ≠ "java/lang/invoke/MethodHandle" ∧ y_JfloorDiv.cls ≠ "java/lang/invoke/VarHandle" ∧ (parseMethodDescriptor y_JfloorDiv.desc).map (fun d => d.parameters.length) = some 2 := by decide +kernel
theorem np_JfloorDivL : y_JfloorDivL.cls ≠ "java/lang/invoke/MethodHandle" ∧ y_JfloorDivL.cls ≠ "java/lang/invoke/VarHandle" ∧ (parseMethodDescriptor y_JfloorDivL.desc).map (fun d => d.parameters.length) = some 2 := by decide +kernel
theorem wa_I : Cond.arrayClass .int ∈ yW := (yW_m (lm_1 70 rfl) rfl)
theorem wa_J : Cond.arrayClass .long ∈ yW := (yW_m (lm_1 44 rfl) rfl)
theorem wa_Z : Cond.arrayClass .boolean ∈ yW := (yW_m (lm_1 71 rfl) rfl)
end
section
theorem w_Cal_isLeap_30 : ∀ w ∈ [Cond.methodLink "YearFractions$Calendars" 9 ⟨"java/lang/Math", "floorMod", "(II)I"⟩, Cond.static ⟨"java/lang/Math", "floorMod", "(II)I"⟩, Cond.initialized "java/lang/Math"], w ∈ yW := (yAll (yW_m (lm_2 229 rfl) rfl) (yAll (yW_m (lm_2 230 rfl) rfl) (yAll (yW_m (lm_1 12 rfl) rfl) yNil)))
theorem w_Cal_isLeap_39 : ∀ w ∈ [Cond.methodLink "YearFractions$Calendars" 9 ⟨"java/lang/Math", "floorMod", "(II)I"⟩, Cond.static ⟨"java/lang/Math", "floorMod", "(II)I"⟩, Cond.initialized "java/lang/Math"], w ∈ yW := (yAll (yW_m (lm_2 229 rfl) rfl) (yAll (yW_m (lm_2 230 rfl) rfl) (yAll (yW_m (lm_1 12 rfl) rfl) yNil)))
theorem w_Cal_isLeap_49 : ∀ w ∈ [Cond.methodLink "YearFractions$Calendars" 9 ⟨"java/lang/Math", "floorMod", "(II)I"⟩, Cond.static ⟨"java/lang/Math", "floorMod", "(II)I"⟩, Cond.initialized "java/lang/Math"], w ∈ yW := (yAll (yW_m (lm_2 229 rfl) rfl) (yAll (yW_m (lm_2 230 rfl) rfl) (yAll (yW_m (lm_1 12 rfl) rfl) yNil)))
theorem w_Cal_isLeap_63 : ∀ w ∈ [Cond.methodLink "YearFractions$Calendars" 9 ⟨"java/lang/Math", "floorMod", "(II)I"⟩, Cond.static ⟨"java/lang/Math", "floorMod", "(II)I"⟩, Cond.initialized "java/lang/Math"], w ∈ yW := (yAll (yW_m (lm_2 229 rfl) rfl) (yAll (yW_m (lm_2 230 rfl) rfl) (yAll (yW_m (lm_1 12 rfl) rfl) yNil)))
theorem w_Cal_isLeap_78 : ∀ w ∈ [Cond.methodLink "YearFractions$Calendars" 9 ⟨"java/lang/Math", "floorMod", "(II)I"⟩, Cond.static ⟨"java/lang/Math", "floorMod", "(II)I"⟩, Cond.initialized "java/lang/Math"], w ∈ yW := (yAll (yW_m (lm_2 229 rfl) rfl) (yAll (yW_m (lm_2 230 rfl) rfl) (yAll (yW_m (lm_1 12 rfl) rfl) yNil)))
theorem w_Cal_isLeap_81 : ∀ w ∈ [Cond.methodLink "YearFractions$Calendars" 15 ⟨"YearFractions$Calendars", "isLunarLeap", "(I)Z"⟩, Cond.static ⟨"YearFractions$Calendars", "isLunarLeap", "(I)Z"⟩, Cond.initialized "YearFractions$Calendars"], w ∈ yW := (yAll (yW_m (lm_2 232 rfl) rfl) (yAll (yW_m (lm_2 233 rfl) rfl) (yAll (yW_m (lm_1 14 rfl) rfl) yNil)))
theorem w_Cal_isLunarLeap_0 : Cond.fieldLink "YearFractions$Calendars" 19 "YearFractions$Calendars" "LUNAR_LEAPS" "[I" ∈ yW := (yW_m (lm_2 235 rfl) rfl)
theorem w_Cal_lunarLeapsTo_2 : Cond.fieldLink "YearFractions$Calendars" 19 "YearFractions$Calendars" "LUNAR_LEAPS" "[I" ∈ yW := (yW_m (lm_2 235 rfl) rfl)
theorem w_Cal_monthDays_43 : ∀ w ∈ [Cond.methodLink "YearFractions$Calendars" 23 ⟨"YearFractions$Calendars", "isLeap", "(II)Z"⟩, Cond.static ⟨"YearFractions$Calendars", "isLeap", "(II)Z"⟩, Cond.initialized "YearFractions$Calendars"], w ∈ yW := (yAll (yW_m (lm_2 226 rfl) rfl) (yAll (yW_m (lm_2 227 rfl) rfl) (yAll (yW_m (lm_1 14 rfl) rfl) yNil)))
theorem w_Cal_monthDays_77 : ∀ w ∈ [Cond.methodLink "YearFractions$Calendars" 23 ⟨"YearFractions$Calendars", "isLeap", "(II)Z"⟩, Cond.static ⟨"YearFractions$Calendars", "isLeap", "(II)Z"⟩, Cond.initialized "YearFractions$Calendars"], w ∈ yW := (yAll (yW_m (lm_2 226 rfl) rfl) (yAll (yW_m (lm_2 227 rfl) rfl) (yAll (yW_m (lm_1 14 rfl) rfl) yNil)))
theorem w_Cal_monthDays_88 : Cond.fieldLink "YearFractions$Calendars" 27 "YearFractions$Calendars" "MONTH_DAYS" "[I" ∈ yW := (yW_m (lm_2 237 rfl) rfl)
theorem w_Cal_daysAhead_16 : ∀ w ∈ [Cond.methodLink "YearFractions$Calendars" 30 ⟨"YearFractions$Calendars", "monthDays", "(III)I"⟩, Cond.static ⟨"YearFractions$Calendars", "monthDays", "(III)I"⟩, Cond.initialized "YearFractions$Calendars"], w ∈ yW := (yAll (yW_m (lm_3 14 rfl) rfl) (yAll (yW_m (lm_2 224 rfl) rfl) (yAll (yW_m (lm_1 14 rfl) rfl) yNil)))
theorem w_Cal_newYear_4 : Cond.fieldLink "YearFractions$Calendars" 34 "YearFractions$Calendars" "FIRST_DAY" "[I" ∈ yW := (yW_m (lm_3 3 rfl) rfl)
theorem w_Cal_newYear_45 : ∀ w ∈ [Cond.methodLink "YearFractions$Calendars" 37 ⟨"java/lang/Math", "floorDiv", "(II)I"⟩, Cond.static ⟨"java/lang/Math", "floorDiv", "(II)I"⟩, Cond.initialized "java/lang/Math"], w ∈ yW := (yAll (yW_m (lm_3 5 rfl) rfl) (yAll (yW_m (lm_3 6 rfl) rfl) (yAll (yW_m (lm_1 12 rfl) rfl) yNil)))
theorem w_Cal_newYear_52 : ∀ w ∈ [Cond.methodLink "YearFractions$Calendars" 37 ⟨"java/lang/Math", "floorDiv", "(II)I"⟩, Cond.static ⟨"java/lang/Math", "floorDiv", "(II)I"⟩, Cond.initialized "java/lang/Math"], w ∈ yW := (yAll (yW_m (lm_3 5 rfl) rfl) (yAll (yW_m (lm_3 6 rfl) rfl) (yAll (yW_m (lm_1 12 rfl) rfl) yNil)))
theorem w_Cal_newYear_60 : ∀ w ∈ [Cond.methodLink "YearFractions$Calendars" 37 ⟨"java/lang/Math", "floorDiv", "(II)I"⟩, Cond.static ⟨"java/lang/Math", "floorDiv", "(II)I"⟩, Cond.initialized "java/lang/Math"], w ∈ yW := (yAll (yW_m (lm_3 5 rfl) rfl) (yAll (yW_m (lm_3 6 rfl) rfl) (yAll (yW_m (lm_1 12 rfl) rfl) yNil)))
theorem w_Cal_newYear_74 : ∀ w ∈ [Cond.methodLink "YearFractions$Calendars" 37 ⟨"java/lang/Math", "floorDiv", "(II)I"⟩, Cond.static ⟨"java/lang/Math", "floorDiv", "(II)I"⟩, Cond.initialized "java/lang/Math"], w ∈ yW := (yAll (yW_m (lm_3 5 rfl) rfl) (yAll (yW_m (lm_3 6 rfl) rfl) (yAll (yW_m (lm_1 12 rfl) rfl) yNil)))
theorem w_Cal_newYear_86 : Cond.fieldLink "YearFractions$Calendars" 19 "YearFractions$Calendars" "LUNAR_LEAPS" "[I" ∈ yW := (yW_m (lm_2 235 rfl) rfl)
theorem w_Cal_newYear_93 : ∀ w ∈ [Cond.methodLink "YearFractions$Calendars" 37 ⟨"java/lang/Math", "floorDiv", "(II)I"⟩, Cond.static ⟨"java/lang/Math", "floorDiv", "(II)I"⟩, Cond.initialized "java/lang/Math"], w ∈ yW := (yAll (yW_m (lm_3 5 rfl) rfl) (yAll (yW_m (lm_3 6 rfl) rfl) (yAll (yW_m (lm_1 12 rfl) rfl) yNil)))
theorem w_Cal_newYear_101 : ∀ w ∈ [Cond.methodLink "YearFractions$Calendars" 9 ⟨"java/lang/Math", "floorMod", "(II)I"⟩, Cond.static ⟨"java/lang/Math", "floorMod", "(II)I"⟩, Cond.initialized "java/lang/Math"], w ∈ yW := (yAll (yW_m (lm_2 229 rfl) rfl) (yAll (yW_m (lm_2 230 rfl) rfl) (yAll (yW_m (lm_1 12 rfl) rfl) yNil)))
theorem w_Cal_newYear_104 : ∀ w ∈ [Cond.methodLink "YearFractions$Calendars" 40 ⟨"YearFractions$Calendars", "lunarLeapsTo", "(I)I"⟩, Cond.static ⟨"YearFractions$Calendars", "lunarLeapsTo", "(I)I"⟩, Cond.initialized "YearFractions$Calendars"], w ∈ yW := (yAll (yW_m (lm_3 8 rfl) rfl) (yAll (yW_m (lm_3 9 rfl) rfl) (yAll (yW_m (lm_1 14 rfl) rfl) yNil)))
theorem w_Cal_yearOf_1 : Cond.fieldLink "YearFractions$Calendars" 34 "YearFractions$Calendars" "FIRST_DAY" "[I" ∈ yW := (yW_m (lm_3 3 rfl) rfl)
theorem w_Cal_yearOf_10 : Cond.fieldLink "YearFractions$Calendars" 44 "YearFractions$Calendars" "CYCLE_YEARS" "[I" ∈ yW := (yW_m (lm_3 29 rfl) rfl)
theorem w_Cal_yearOf_17 : Cond.fieldLink "YearFractions$Calendars" 47 "YearFractions$Calendars" "CYCLE_DAYS" "[I" ∈ yW := (yW_m (lm_3 31 rfl) rfl)
theorem w_Cal_yearOf_23 : ∀ w ∈ [Cond.methodLink "YearFractions$Calendars" 50 ⟨"java/lang/Math", "floorDiv", "(JJ)J"⟩, Cond.static ⟨"java/lang/Math", "floorDiv", "(JJ)J"⟩, Cond.initialized "java/lang/Math"], w ∈ yW := (yAll (yW_m (lm_3 33 rfl) rfl) (yAll (yW_m (lm_3 34 rfl) rfl) (yAll (yW_m (lm_1 12 rfl) rfl) yNil)))
theorem w_Cal_yearOf_36 : ∀ w ∈ [Cond.methodLink "YearFractions$Calendars" 53 ⟨"YearFractions$Calendars", "newYear", "(II)I"⟩, Cond.static ⟨"YearFractions$Calendars", "newYear", "(II)I"⟩, Cond.initialized "YearFractions$Calendars"], w ∈ yW := (yAll (yW_m (lm_3 36 rfl) rfl) (yAll (yW_m (lm_3 1 rfl) rfl) (yAll (yW_m (lm_1 14 rfl) rfl) yNil)))
theorem w_Cal_monthOf_3 : ∀ w ∈ [Cond.methodLink "YearFractions$Calendars" 53 ⟨"YearFractions$Calendars", "newYear", "(II)I"⟩, Cond.static ⟨"YearFractions$Calendars", "newYear", "(II)I"⟩, Cond.initialized "YearFractions$Calendars"], w ∈ yW := (yAll (yW_m (lm_3 36 rfl) rfl) (yAll (yW_m (lm_3 1 rfl) rfl) (yAll (yW_m (lm_1 14 rfl) rfl) yNil)))
theorem w_Cal_monthOf_14 : ∀ w ∈ [Cond.methodLink "YearFractions$Calendars" 56 ⟨"YearFractions$Calendars", "months", "(I)I"⟩, Cond.static ⟨"YearFractions$Calendars", "months", "(I)I"⟩, Cond.initialized "YearFractions$Calendars"], w ∈ yW := (yAll (yW_m (lm_3 40 rfl) rfl) (yAll (yW_m (lm_2 220 rfl) rfl) (yAll (yW_m (lm_1 14 rfl) rfl) yNil)))
theorem w_Cal_monthOf_25 : ∀ w ∈ [Cond.methodLink "YearFractions$Calendars" 30 ⟨"YearFractions$Calendars", "monthDays", "(III)I"⟩, Cond.static ⟨"YearFractions$Calendars", "monthDays", "(III)I"⟩, Cond.initialized "YearFractions$Calendars"], w ∈ yW := (yAll (yW_m (lm_3 14 rfl) rfl) (yAll (yW_m (lm_2 224 rfl) rfl) (yAll (yW_m (lm_1 14 rfl) rfl) yNil)))
theorem w_Cal_monthOf_36 : ∀ w ∈ [Cond.methodLink "YearFractions$Calendars" 30 ⟨"YearFractions$Calendars", "monthDays", "(III)I"⟩, Cond.static ⟨"YearFractions$Calendars", "monthDays", "(III)I"⟩, Cond.initialized "YearFractions$Calendars"], w ∈ yW := (yAll (yW_m (lm_3 14 rfl) rfl) (yAll (yW_m (lm_2 224 rfl) rfl) (yAll (yW_m (lm_1 14 rfl) rfl) yNil)))
end
section
theorem w_Law_row_5 : ∀ w ∈ [Cond.methodLink "YearFractionsLaw" 7 ⟨"YearFractions", "row", "(II)I"⟩, Cond.instanceMethod ⟨"YearFractions", "row", "(II)I"⟩, Cond.selects "YearFractions" ⟨"YearFractions", "row", "(II)I"⟩ ⟨"YearFractions", "row", "(II)I"⟩, Cond.initialized "YearFractions"], w ∈ yW := (yAll (yW_m (lm_1 122 rfl) rfl) (yAll (yW_m (lm_1 123 rfl) rfl) (yAll (yW_m (lm_1 124 rfl) rfl) (yAll (yW_m (lm_1 1 rfl) rfl) yNil))))
theorem w_Law_weight_7 : ∀ w ∈ [Cond.methodLink "YearFractionsLaw" 17 ⟨"YearFractions", "weight", "(IIJ)Z"⟩, Cond.instanceMethod ⟨"YearFractions", "weight", "(IIJ)Z"⟩, Cond.selects "YearFractions" ⟨"YearFractions", "weight", "(IIJ)Z"⟩ ⟨"YearFractions", "weight", "(IIJ)Z"⟩, Cond.initialized "YearFractions"], w ∈ yW := (yAll (yW_m (lm_1 228 rfl) rfl) (yAll (yW_m (lm_1 229 rfl) rfl) (yAll (yW_m (lm_1 230 rfl) rfl) (yAll (yW_m (lm_1 1 rfl) rfl) yNil))))
theorem w_Law_add_5 : ∀ w ∈ [Cond.methodLink "YearFractionsLaw" 23 ⟨"YearFractions", "add", "(II)I"⟩, Cond.instanceMethod ⟨"YearFractions", "add", "(II)I"⟩, Cond.selects "YearFractions" ⟨"YearFractions", "add", "(II)I"⟩ ⟨"YearFractions", "add", "(II)I"⟩, Cond.initialized "YearFractions"], w ∈ yW := (yAll (yW_m (lm_2 49 rfl) rfl) (yAll (yW_m (lm_2 50 rfl) rfl) (yAll (yW_m (lm_2 51 rfl) rfl) (yAll (yW_m (lm_1 1 rfl) rfl) yNil))))
theorem w_Law_times_7 : ∀ w ∈ [Cond.methodLink "YearFractionsLaw" 28 ⟨"YearFractions", "times", "(III)I"⟩, Cond.instanceMethod ⟨"YearFractions", "times", "(III)I"⟩, Cond.selects "YearFractions" ⟨"YearFractions", "times", "(III)I"⟩ ⟨"YearFractions", "times", "(III)I"⟩, Cond.initialized "YearFractions"], w ∈ yW := (yAll (yW_m (lm_2 91 rfl) rfl) (yAll (yW_m (lm_2 92 rfl) rfl) (yAll (yW_m (lm_2 93 rfl) rfl) (yAll (yW_m (lm_1 1 rfl) rfl) yNil))))
theorem w_Law_least_7 : ∀ w ∈ [Cond.methodLink "YearFractionsLaw" 32 ⟨"YearFractions", "least", "(III)I"⟩, Cond.instanceMethod ⟨"YearFractions", "least", "(III)I"⟩, Cond.selects "YearFractions" ⟨"YearFractions", "least", "(III)I"⟩ ⟨"YearFractions", "least", "(III)I"⟩, Cond.initialized "YearFractions"], w ∈ yW := (yAll (yW_m (lm_2 110 rfl) rfl) (yAll (yW_m (lm_2 111 rfl) rfl) (yAll (yW_m (lm_2 112 rfl) rfl) (yAll (yW_m (lm_1 1 rfl) rfl) yNil))))
theorem w_Law_span_5 : ∀ w ∈ [Cond.methodLink "YearFractionsLaw" 35 ⟨"YearFractions", "span", "(II)I"⟩, Cond.instanceMethod ⟨"YearFractions", "span", "(II)I"⟩, Cond.selects "YearFractions" ⟨"YearFractions", "span", "(II)I"⟩ ⟨"YearFractions", "span", "(II)I"⟩, Cond.initialized "YearFractions"], w ∈ yW := (yAll (yW_m (lm_2 152 rfl) rfl) (yAll (yW_m (lm_2 153 rfl) rfl) (yAll (yW_m (lm_2 154 rfl) rfl) (yAll (yW_m (lm_1 1 rfl) rfl) yNil))))
theorem w_Law_digit_7 : ∀ w ∈ [Cond.methodLink "YearFractionsLaw" 38 ⟨"YearFractions", "digit", "(III)I"⟩, Cond.instanceMethod ⟨"YearFractions", "digit", "(III)I"⟩, Cond.selects "YearFractions" ⟨"YearFractions", "digit", "(III)I"⟩ ⟨"YearFractions", "digit", "(III)I"⟩, Cond.initialized "YearFractions"], w ∈ yW := (yAll (yW_m (lm_2 161 rfl) rfl) (yAll (yW_m (lm_2 162 rfl) rfl) (yAll (yW_m (lm_2 163 rfl) rfl) (yAll (yW_m (lm_1 1 rfl) rfl) yNil))))
theorem w_Law_total_5 : ∀ w ∈ [Cond.methodLink "YearFractionsLaw" 41 ⟨"YearFractions", "total", "(II)I"⟩, Cond.instanceMethod ⟨"YearFractions", "total", "(II)I"⟩, Cond.selects "YearFractions" ⟨"YearFractions", "total", "(II)I"⟩ ⟨"YearFractions", "total", "(II)I"⟩, Cond.initialized "YearFractions"], w ∈ yW := (yAll (yW_m (lm_2 177 rfl) rfl) (yAll (yW_m (lm_2 178 rfl) rfl) (yAll (yW_m (lm_2 179 rfl) rfl) (yAll (yW_m (lm_1 1 rfl) rfl) yNil))))
theorem w_Law_compare_9 : ∀ w ∈ [Cond.methodLink "YearFractionsLaw" 44 ⟨"YearFractions", "compare", "(IIII)I"⟩, Cond.instanceMethod ⟨"YearFractions", "compare", "(IIII)I"⟩, Cond.selects "YearFractions" ⟨"YearFractions", "compare", "(IIII)I"⟩ ⟨"YearFractions", "compare", "(IIII)I"⟩, Cond.initialized "YearFractions"], w ∈ yW := (yAll (yW_m (lm_2 184 rfl) rfl) (yAll (yW_m (lm_2 185 rfl) rfl) (yAll (yW_m (lm_2 186 rfl) rfl) (yAll (yW_m (lm_1 1 rfl) rfl) yNil))))
theorem w_Law_about_5 : ∀ w ∈ [Cond.methodLink "YearFractionsLaw" 48 ⟨"YearFractions", "about", "(II)I"⟩, Cond.instanceMethod ⟨"YearFractions", "about", "(II)I"⟩, Cond.selects "YearFractions" ⟨"YearFractions", "about", "(II)I"⟩ ⟨"YearFractions", "about", "(II)I"⟩, Cond.initialized "YearFractions"], w ∈ yW := (yAll (yW_m (lm_2 191 rfl) rfl) (yAll (yW_m (lm_2 192 rfl) rfl) (yAll (yW_m (lm_2 193 rfl) rfl) (yAll (yW_m (lm_1 1 rfl) rfl) yNil))))
theorem w_Law_over_6 : ∀ w ∈ [Cond.methodLink "YearFractionsLaw" 51 ⟨"YearFractions", "over", "(JJ)J"⟩, Cond.instanceMethod ⟨"YearFractions", "over", "(JJ)J"⟩, Cond.selects "YearFractions" ⟨"YearFractions", "over", "(JJ)J"⟩ ⟨"YearFractions", "over", "(JJ)J"⟩, Cond.initialized "YearFractions"], w ∈ yW := (yAll (yW_m (lm_2 203 rfl) rfl) (yAll (yW_m (lm_2 204 rfl) rfl) (yAll (yW_m (lm_2 205 rfl) rfl) (yAll (yW_m (lm_1 1 rfl) rfl) yNil))))
theorem w_Law_day_9 : ∀ w ∈ [Cond.methodLink "YearFractionsLaw" 55 ⟨"YearFractions", "day", "(IIII)I"⟩, Cond.instanceMethod ⟨"YearFractions", "day", "(IIII)I"⟩, Cond.selects "YearFractions" ⟨"YearFractions", "day", "(IIII)I"⟩ ⟨"YearFractions", "day", "(IIII)I"⟩, Cond.initialized "YearFractions"], w ∈ yW := (yAll (yW_m (lm_2 211 rfl) rfl) (yAll (yW_m (lm_2 212 rfl) rfl) (yAll (yW_m (lm_2 213 rfl) rfl) (yAll (yW_m (lm_1 1 rfl) rfl) yNil))))
theorem w_Law_date_7 : ∀ w ∈ [Cond.methodLink "YearFractionsLaw" 58 ⟨"YearFractions", "date", "(III)I"⟩, Cond.instanceMethod ⟨"YearFractions", "date", "(III)I"⟩, Cond.selects "YearFractions" ⟨"YearFractions", "date", "(III)I"⟩ ⟨"YearFractions", "date", "(III)I"⟩, Cond.initialized "YearFractions"], w ∈ yW := (yAll (yW_m (lm_3 18 rfl) rfl) (yAll (yW_m (lm_3 19 rfl) rfl) (yAll (yW_m (lm_3 20 rfl) rfl) (yAll (yW_m (lm_1 1 rfl) rfl) yNil))))
theorem w_Law_law_0 : ∀ w ∈ [Cond.classLink "YearFractionsLaw" 8 "YearFractions", Cond.instantiable "YearFractions" 7, Cond.initialized "YearFractions"], w ∈ yW := (yAll (yW_m (lm_1 15 rfl) rfl) (yAll (yW_m (lm_1 16 rfl) rfl) (yAll (yW_m (lm_1 1 rfl) rfl) yNil)))
theorem w_Law_law_4 : ∀ w ∈ [Cond.methodLink "YearFractionsLaw" 61 ⟨"YearFractions", "<init>", "()V"⟩, Cond.instanceMethod ⟨"YearFractions", "<init>", "()V"⟩, Cond.initialized "YearFractions"], w ∈ yW := (yAll (yW_m (lm_1 17 rfl) rfl) (yAll (yW_m (lm_1 18 rfl) rfl) (yAll (yW_m (lm_1 1 rfl) rfl) yNil)))
theorem w_Law_law_8 : ∀ w ∈ [Cond.classLink "YearFractionsLaw" 62 "YearFractionsModel", Cond.instantiable "YearFractionsModel" 12, Cond.initialized "YearFractionsModel"], w ∈ yW := (yAll (yW_m (lm_3 41 rfl) rfl) (yAll (yW_m (lm_3 42 rfl) rfl) (yAll (yW_m (lm_1 5 rfl) rfl) yNil)))
theorem w_Law_law_12 : ∀ w ∈ [Cond.methodLink "YearFractionsLaw" 64 ⟨"YearFractionsModel", "<init>", "()V"⟩, Cond.instanceMethod ⟨"YearFractionsModel", "<init>", "()V"⟩, Cond.initialized "YearFractionsModel"], w ∈ yW := (yAll (yW_m (lm_3 43 rfl) rfl) (yAll (yW_m (lm_3 44 rfl) rfl) (yAll (yW_m (lm_1 5 rfl) rfl) yNil)))
theorem w_Law_law_130 : ∀ w ∈ [Cond.methodLink "YearFractionsLaw" 65 ⟨"YearFractionsLaw", "row", "(LYearFractions;II[J)I"⟩, Cond.static ⟨"YearFractionsLaw", "row", "(LYearFractions;II[J)I"⟩, Cond.initialized "YearFractionsLaw"], w ∈ yW := (yAll (yW_m (lm_1 117 rfl) rfl) (yAll (yW_m (lm_1 118 rfl) rfl) (yAll (yW_m (lm_1 0 rfl) rfl) yNil)))
theorem w_Law_law_148 : ∀ w ∈ [Cond.methodLink "YearFractionsLaw" 70 ⟨"YearFractionsModel", "row", "(II)I"⟩, Cond.instanceMethod ⟨"YearFractionsModel", "row", "(II)I"⟩, Cond.selects "YearFractionsModel" ⟨"YearFractionsModel", "row", "(II)I"⟩ ⟨"YearFractionsModel", "row", "(II)I"⟩, Cond.initialized "YearFractionsModel"], w ∈ yW := (yAll (yW_m (lm_3 88 rfl) rfl) (yAll (yW_m (lm_3 89 rfl) rfl) (yAll (yW_m (lm_3 90 rfl) rfl) (yAll (yW_m (lm_1 5 rfl) rfl) yNil))))
theorem w_Law_law_154 : ∀ w ∈ [Cond.methodLink "YearFractionsLaw" 71 ⟨"YearFractionsModel", "thrown", "()I"⟩, Cond.instanceMethod ⟨"YearFractionsModel", "thrown", "()I"⟩, Cond.selects "YearFractionsModel" ⟨"YearFractionsModel", "thrown", "()I"⟩ ⟨"YearFractionsModel", "thrown", "()I"⟩, Cond.initialized "YearFractionsModel"], w ∈ yW := (yAll (yW_m (lm_3 84 rfl) rfl) (yAll (yW_m (lm_3 85 rfl) rfl) (yAll (yW_m (lm_3 86 rfl) rfl) (yAll (yW_m (lm_1 5 rfl) rfl) yNil))))
theorem w_Law_law_214 : Cond.constantLong "YearFractionsLaw" 75 4294967295 ∈ yW := (yW_m (lm_4 10 rfl) rfl)
theorem w_Law_law_220 : ∀ w ∈ [Cond.methodLink "YearFractionsLaw" 77 ⟨"YearFractionsLaw", "weight", "(LYearFractions;IIJ[J)I"⟩, Cond.static ⟨"YearFractionsLaw", "weight", "(LYearFractions;IIJ[J)I"⟩, Cond.initialized "YearFractionsLaw"], w ∈ yW := (yAll (yW_m (lm_1 224 rfl) rfl) (yAll (yW_m (lm_1 225 rfl) rfl) (yAll (yW_m (lm_1 0 rfl) rfl) yNil)))
theorem w_Law_law_255 : Cond.constantLong "YearFractionsLaw" 75 4294967295 ∈ yW := (yW_m (lm_4 10 rfl) rfl)
theorem w_Law_law_260 : ∀ w ∈ [Cond.methodLink "YearFractionsLaw" 80 ⟨"YearFractionsModel", "weight", "(IIJ)Z"⟩, Cond.instanceMethod ⟨"YearFractionsModel", "weight", "(IIJ)Z"⟩, Cond.selects "YearFractionsModel" ⟨"YearFractionsModel", "weight", "(IIJ)Z"⟩ ⟨"YearFractionsModel", "weight", "(IIJ)Z"⟩, Cond.initialized "YearFractionsModel"], w ∈ yW := (yAll (yW_m (lm_3 103 rfl) rfl) (yAll (yW_m (lm_3 104 rfl) rfl) (yAll (yW_m (lm_3 105 rfl) rfl) (yAll (yW_m (lm_1 5 rfl) rfl) yNil))))
theorem w_Law_law_266 : ∀ w ∈ [Cond.methodLink "YearFractionsLaw" 71 ⟨"YearFractionsModel", "thrown", "()I"⟩, Cond.instanceMethod ⟨"YearFractionsModel", "thrown", "()I"⟩, Cond.selects "YearFractionsModel" ⟨"YearFractionsModel", "thrown", "()I"⟩ ⟨"YearFractionsModel", "thrown", "()I"⟩, Cond.initialized "YearFractionsModel"], w ∈ yW := (yAll (yW_m (lm_3 84 rfl) rfl) (yAll (yW_m (lm_3 85 rfl) rfl) (yAll (yW_m (lm_3 86 rfl) rfl) (yAll (yW_m (lm_1 5 rfl) rfl) yNil))))
theorem w_Law_law_317 : ∀ w ∈ [Cond.methodLink "YearFractionsLaw" 81 ⟨"YearFractionsLaw", "add", "(LYearFractions;II[J)I"⟩, Cond.static ⟨"YearFractionsLaw", "add", "(LYearFractions;II[J)I"⟩, Cond.initialized "YearFractionsLaw"], w ∈ yW := (yAll (yW_m (lm_2 45 rfl) rfl) (yAll (yW_m (lm_2 46 rfl) rfl) (yAll (yW_m (lm_1 0 rfl) rfl) yNil)))
theorem w_Law_law_335 : ∀ w ∈ [Cond.methodLink "YearFractionsLaw" 83 ⟨"YearFractionsModel", "add", "(II)I"⟩, Cond.instanceMethod ⟨"YearFractionsModel", "add", "(II)I"⟩, Cond.selects "YearFractionsModel" ⟨"YearFractionsModel", "add", "(II)I"⟩ ⟨"YearFractionsModel", "add", "(II)I"⟩, Cond.initialized "YearFractionsModel"], w ∈ yW := (yAll (yW_m (lm_3 120 rfl) rfl) (yAll (yW_m (lm_3 121 rfl) rfl) (yAll (yW_m (lm_3 122 rfl) rfl) (yAll (yW_m (lm_1 5 rfl) rfl) yNil))))
theorem w_Law_law_341 : ∀ w ∈ [Cond.methodLink "YearFractionsLaw" 71 ⟨"YearFractionsModel", "thrown", "()I"⟩, Cond.instanceMethod ⟨"YearFractionsModel", "thrown", "()I"⟩, Cond.selects "YearFractionsModel" ⟨"YearFractionsModel", "thrown", "()I"⟩ ⟨"YearFractionsModel", "thrown", "()I"⟩, Cond.initialized "YearFractionsModel"], w ∈ yW := (yAll (yW_m (lm_3 84 rfl) rfl) (yAll (yW_m (lm_3 85 rfl) rfl) (yAll (yW_m (lm_3 86 rfl) rfl) (yAll (yW_m (lm_1 5 rfl) rfl) yNil))))
theorem w_Law_law_391 : ∀ w ∈ [Cond.methodLink "YearFractionsLaw" 84 ⟨"YearFractionsLaw", "times", "(LYearFractions;III[J)I"⟩, Cond.static ⟨"YearFractionsLaw", "times", "(LYearFractions;III[J)I"⟩, Cond.initialized "YearFractionsLaw"], w ∈ yW := (yAll (yW_m (lm_2 88 rfl) rfl) (yAll (yW_m (lm_2 89 rfl) rfl) (yAll (yW_m (lm_1 0 rfl) rfl) yNil)))
theorem w_Law_law_415 : ∀ w ∈ [Cond.methodLink "YearFractionsLaw" 87 ⟨"YearFractionsModel", "times", "(III)I"⟩, Cond.instanceMethod ⟨"YearFractionsModel", "times", "(III)I"⟩, Cond.selects "YearFractionsModel" ⟨"YearFractionsModel", "times", "(III)I"⟩ ⟨"YearFractionsModel", "times", "(III)I"⟩, Cond.initialized "YearFractionsModel"], w ∈ yW := (yAll (yW_m (lm_3 136 rfl) rfl) (yAll (yW_m (lm_3 137 rfl) rfl) (yAll (yW_m (lm_3 138 rfl) rfl) (yAll (yW_m (lm_1 5 rfl) rfl) yNil))))
theorem w_Law_law_421 : ∀ w ∈ [Cond.methodLink "YearFractionsLaw" 71 ⟨"YearFractionsModel", "thrown", "()I"⟩, Cond.instanceMethod ⟨"YearFractionsModel", "thrown", "()I"⟩, Cond.selects "YearFractionsModel" ⟨"YearFractionsModel", "thrown", "()I"⟩ ⟨"YearFractionsModel", "thrown", "()I"⟩, Cond.initialized "YearFractionsModel"], w ∈ yW := (yAll (yW_m (lm_3 84 rfl) rfl) (yAll (yW_m (lm_3 85 rfl) rfl) (yAll (yW_m (lm_3 86 rfl) rfl) (yAll (yW_m (lm_1 5 rfl) rfl) yNil))))
theorem w_Law_law_452 : ∀ w ∈ [Cond.methodLink "YearFractionsLaw" 88 ⟨"YearFractions", "rest", "()J"⟩, Cond.instanceMethod ⟨"YearFractions", "rest", "()J"⟩, Cond.selects "YearFractions" ⟨"YearFractions", "rest", "()J"⟩ ⟨"YearFractions", "rest", "()J"⟩, Cond.initialized "YearFractions"], w ∈ yW := (yAll (yW_m (lm_1 105 rfl) rfl) (yAll (yW_m (lm_1 106 rfl) rfl) (yAll (yW_m (lm_1 107 rfl) rfl) (yAll (yW_m (lm_1 1 rfl) rfl) yNil))))
theorem w_Law_law_456 : ∀ w ∈ [Cond.methodLink "YearFractionsLaw" 92 ⟨"YearFractionsModel", "rest", "()J"⟩, Cond.instanceMethod ⟨"YearFractionsModel", "rest", "()J"⟩, Cond.selects "YearFractionsModel" ⟨"YearFractionsModel", "rest", "()J"⟩ ⟨"YearFractionsModel", "rest", "()J"⟩, Cond.initialized "YearFractionsModel"], w ∈ yW := (yAll (yW_m (lm_3 149 rfl) rfl) (yAll (yW_m (lm_3 150 rfl) rfl) (yAll (yW_m (lm_3 151 rfl) rfl) (yAll (yW_m (lm_1 5 rfl) rfl) yNil))))
theorem w_Law_law_485 : ∀ w ∈ [Cond.methodLink "YearFractionsLaw" 93 ⟨"YearFractionsLaw", "least", "(LYearFractions;III[J)I"⟩, Cond.static ⟨"YearFractionsLaw", "least", "(LYearFractions;III[J)I"⟩, Cond.initialized "YearFractionsLaw"], w ∈ yW := (yAll (yW_m (lm_2 107 rfl) rfl) (yAll (yW_m (lm_2 108 rfl) rfl) (yAll (yW_m (lm_1 0 rfl) rfl) yNil)))
theorem w_Law_law_509 : ∀ w ∈ [Cond.methodLink "YearFractionsLaw" 95 ⟨"YearFractionsModel", "least", "(III)I"⟩, Cond.instanceMethod ⟨"YearFractionsModel", "least", "(III)I"⟩, Cond.selects "YearFractionsModel" ⟨"YearFractionsModel", "least", "(III)I"⟩ ⟨"YearFractionsModel", "least", "(III)I"⟩, Cond.initialized "YearFractionsModel"], w ∈ yW := (yAll (yW_m (lm_3 153 rfl) rfl) (yAll (yW_m (lm_3 154 rfl) rfl) (yAll (yW_m (lm_3 155 rfl) rfl) (yAll (yW_m (lm_1 5 rfl) rfl) yNil))))
theorem w_Law_law_515 : ∀ w ∈ [Cond.methodLink "YearFractionsLaw" 71 ⟨"YearFractionsModel", "thrown", "()I"⟩, Cond.instanceMethod ⟨"YearFractionsModel", "thrown", "()I"⟩, Cond.selects "YearFractionsModel" ⟨"YearFractionsModel", "thrown", "()I"⟩ ⟨"YearFractionsModel", "thrown", "()I"⟩, Cond.initialized "YearFractionsModel"], w ∈ yW := (yAll (yW_m (lm_3 84 rfl) rfl) (yAll (yW_m (lm_3 85 rfl) rfl) (yAll (yW_m (lm_3 86 rfl) rfl) (yAll (yW_m (lm_1 5 rfl) rfl) yNil))))
theorem w_Law_law_559 : ∀ w ∈ [Cond.methodLink "YearFractionsLaw" 96 ⟨"YearFractionsLaw", "span", "(LYearFractions;II[J)I"⟩, Cond.static ⟨"YearFractionsLaw", "span", "(LYearFractions;II[J)I"⟩, Cond.initialized "YearFractionsLaw"], w ∈ yW := (yAll (yW_m (lm_2 149 rfl) rfl) (yAll (yW_m (lm_2 150 rfl) rfl) (yAll (yW_m (lm_1 0 rfl) rfl) yNil)))
theorem w_Law_law_577 : ∀ w ∈ [Cond.methodLink "YearFractionsLaw" 98 ⟨"YearFractionsModel", "span", "(II)I"⟩, Cond.instanceMethod ⟨"YearFractionsModel", "span", "(II)I"⟩, Cond.selects "YearFractionsModel" ⟨"YearFractionsModel", "span", "(II)I"⟩ ⟨"YearFractionsModel", "span", "(II)I"⟩, Cond.initialized "YearFractionsModel"], w ∈ yW := (yAll (yW_m (lm_3 178 rfl) rfl) (yAll (yW_m (lm_3 179 rfl) rfl) (yAll (yW_m (lm_3 180 rfl) rfl) (yAll (yW_m (lm_1 5 rfl) rfl) yNil))))
theorem w_Law_law_583 : ∀ w ∈ [Cond.methodLink "YearFractionsLaw" 71 ⟨"YearFractionsModel", "thrown", "()I"⟩, Cond.instanceMethod ⟨"YearFractionsModel", "thrown", "()I"⟩, Cond.selects "YearFractionsModel" ⟨"YearFractionsModel", "thrown", "()I"⟩ ⟨"YearFractionsModel", "thrown", "()I"⟩, Cond.initialized "YearFractionsModel"], w ∈ yW := (yAll (yW_m (lm_3 84 rfl) rfl) (yAll (yW_m (lm_3 85 rfl) rfl) (yAll (yW_m (lm_3 86 rfl) rfl) (yAll (yW_m (lm_1 5 rfl) rfl) yNil))))
theorem w_Law_law_633 : ∀ w ∈ [Cond.methodLink "YearFractionsLaw" 99 ⟨"YearFractionsLaw", "digit", "(LYearFractions;III[J)I"⟩, Cond.static ⟨"YearFractionsLaw", "digit", "(LYearFractions;III[J)I"⟩, Cond.initialized "YearFractionsLaw"], w ∈ yW := (yAll (yW_m (lm_2 158 rfl) rfl) (yAll (yW_m (lm_2 159 rfl) rfl) (yAll (yW_m (lm_1 0 rfl) rfl) yNil)))
theorem w_Law_law_657 : ∀ w ∈ [Cond.methodLink "YearFractionsLaw" 101 ⟨"YearFractionsModel", "digit", "(III)I"⟩, Cond.instanceMethod ⟨"YearFractionsModel", "digit", "(III)I"⟩, Cond.selects "YearFractionsModel" ⟨"YearFractionsModel", "digit", "(III)I"⟩ ⟨"YearFractionsModel", "digit", "(III)I"⟩, Cond.initialized "YearFractionsModel"], w ∈ yW := (yAll (yW_m (lm_3 182 rfl) rfl) (yAll (yW_m (lm_3 183 rfl) rfl) (yAll (yW_m (lm_3 184 rfl) rfl) (yAll (yW_m (lm_1 5 rfl) rfl) yNil))))
theorem w_Law_law_663 : ∀ w ∈ [Cond.methodLink "YearFractionsLaw" 71 ⟨"YearFractionsModel", "thrown", "()I"⟩, Cond.instanceMethod ⟨"YearFractionsModel", "thrown", "()I"⟩, Cond.selects "YearFractionsModel" ⟨"YearFractionsModel", "thrown", "()I"⟩ ⟨"YearFractionsModel", "thrown", "()I"⟩, Cond.initialized "YearFractionsModel"], w ∈ yW := (yAll (yW_m (lm_3 84 rfl) rfl) (yAll (yW_m (lm_3 85 rfl) rfl) (yAll (yW_m (lm_3 86 rfl) rfl) (yAll (yW_m (lm_1 5 rfl) rfl) yNil))))
theorem w_Law_law_707 : ∀ w ∈ [Cond.methodLink "YearFractionsLaw" 102 ⟨"YearFractionsLaw", "total", "(LYearFractions;II[J)I"⟩, Cond.static ⟨"YearFractionsLaw", "total", "(LYearFractions;II[J)I"⟩, Cond.initialized "YearFractionsLaw"], w ∈ yW := (yAll (yW_m (lm_2 174 rfl) rfl) (yAll (yW_m (lm_2 175 rfl) rfl) (yAll (yW_m (lm_1 0 rfl) rfl) yNil)))
theorem w_Law_law_725 : ∀ w ∈ [Cond.methodLink "YearFractionsLaw" 104 ⟨"YearFractionsModel", "total", "(II)I"⟩, Cond.instanceMethod ⟨"YearFractionsModel", "total", "(II)I"⟩, Cond.selects "YearFractionsModel" ⟨"YearFractionsModel", "total", "(II)I"⟩ ⟨"YearFractionsModel", "total", "(II)I"⟩, Cond.initialized "YearFractionsModel"], w ∈ yW := (yAll (yW_m (lm_3 186 rfl) rfl) (yAll (yW_m (lm_3 187 rfl) rfl) (yAll (yW_m (lm_3 188 rfl) rfl) (yAll (yW_m (lm_1 5 rfl) rfl) yNil))))
theorem w_Law_law_731 : ∀ w ∈ [Cond.methodLink "YearFractionsLaw" 71 ⟨"YearFractionsModel", "thrown", "()I"⟩, Cond.instanceMethod ⟨"YearFractionsModel", "thrown", "()I"⟩, Cond.selects "YearFractionsModel" ⟨"YearFractionsModel", "thrown", "()I"⟩ ⟨"YearFractionsModel", "thrown", "()I"⟩, Cond.initialized "YearFractionsModel"], w ∈ yW := (yAll (yW_m (lm_3 84 rfl) rfl) (yAll (yW_m (lm_3 85 rfl) rfl) (yAll (yW_m (lm_3 86 rfl) rfl) (yAll (yW_m (lm_1 5 rfl) rfl) yNil))))
theorem w_Law_law_787 : ∀ w ∈ [Cond.methodLink "YearFractionsLaw" 105 ⟨"YearFractionsLaw", "compare", "(LYearFractions;IIII[J)I"⟩, Cond.static ⟨"YearFractionsLaw", "compare", "(LYearFractions;IIII[J)I"⟩, Cond.initialized "YearFractionsLaw"], w ∈ yW := (yAll (yW_m (lm_2 181 rfl) rfl) (yAll (yW_m (lm_2 182 rfl) rfl) (yAll (yW_m (lm_1 0 rfl) rfl) yNil)))
theorem w_Law_law_817 : ∀ w ∈ [Cond.methodLink "YearFractionsLaw" 108 ⟨"YearFractionsModel", "compare", "(IIII)I"⟩, Cond.instanceMethod ⟨"YearFractionsModel", "compare", "(IIII)I"⟩, Cond.selects "YearFractionsModel" ⟨"YearFractionsModel", "compare", "(IIII)I"⟩ ⟨"YearFractionsModel", "compare", "(IIII)I"⟩, Cond.initialized "YearFractionsModel"], w ∈ yW := (yAll (yW_m (lm_3 190 rfl) rfl) (yAll (yW_m (lm_3 191 rfl) rfl) (yAll (yW_m (lm_3 192 rfl) rfl) (yAll (yW_m (lm_1 5 rfl) rfl) yNil))))
theorem w_Law_law_823 : ∀ w ∈ [Cond.methodLink "YearFractionsLaw" 71 ⟨"YearFractionsModel", "thrown", "()I"⟩, Cond.instanceMethod ⟨"YearFractionsModel", "thrown", "()I"⟩, Cond.selects "YearFractionsModel" ⟨"YearFractionsModel", "thrown", "()I"⟩ ⟨"YearFractionsModel", "thrown", "()I"⟩, Cond.initialized "YearFractionsModel"], w ∈ yW := (yAll (yW_m (lm_3 84 rfl) rfl) (yAll (yW_m (lm_3 85 rfl) rfl) (yAll (yW_m (lm_3 86 rfl) rfl) (yAll (yW_m (lm_1 5 rfl) rfl) yNil))))
theorem w_Law_law_867 : ∀ w ∈ [Cond.methodLink "YearFractionsLaw" 109 ⟨"YearFractionsLaw", "about", "(LYearFractions;II[J)I"⟩, Cond.static ⟨"YearFractionsLaw", "about", "(LYearFractions;II[J)I"⟩, Cond.initialized "YearFractionsLaw"], w ∈ yW := (yAll (yW_m (lm_2 188 rfl) rfl) (yAll (yW_m (lm_2 189 rfl) rfl) (yAll (yW_m (lm_1 0 rfl) rfl) yNil)))
theorem w_Law_law_885 : ∀ w ∈ [Cond.methodLink "YearFractionsLaw" 111 ⟨"YearFractionsModel", "about", "(II)I"⟩, Cond.instanceMethod ⟨"YearFractionsModel", "about", "(II)I"⟩, Cond.selects "YearFractionsModel" ⟨"YearFractionsModel", "about", "(II)I"⟩ ⟨"YearFractionsModel", "about", "(II)I"⟩, Cond.initialized "YearFractionsModel"], w ∈ yW := (yAll (yW_m (lm_3 194 rfl) rfl) (yAll (yW_m (lm_3 195 rfl) rfl) (yAll (yW_m (lm_3 196 rfl) rfl) (yAll (yW_m (lm_1 5 rfl) rfl) yNil))))
theorem w_Law_law_891 : ∀ w ∈ [Cond.methodLink "YearFractionsLaw" 71 ⟨"YearFractionsModel", "thrown", "()I"⟩, Cond.instanceMethod ⟨"YearFractionsModel", "thrown", "()I"⟩, Cond.selects "YearFractionsModel" ⟨"YearFractionsModel", "thrown", "()I"⟩ ⟨"YearFractionsModel", "thrown", "()I"⟩, Cond.initialized "YearFractionsModel"], w ∈ yW := (yAll (yW_m (lm_3 84 rfl) rfl) (yAll (yW_m (lm_3 85 rfl) rfl) (yAll (yW_m (lm_3 86 rfl) rfl) (yAll (yW_m (lm_1 5 rfl) rfl) yNil))))
theorem w_Law_law_939 : Cond.constantLong "YearFractionsLaw" 75 4294967295 ∈ yW := (yW_m (lm_4 10 rfl) rfl)
theorem w_Law_law_961 : Cond.constantLong "YearFractionsLaw" 75 4294967295 ∈ yW := (yW_m (lm_4 10 rfl) rfl)
theorem w_Law_law_967 : ∀ w ∈ [Cond.methodLink "YearFractionsLaw" 112 ⟨"YearFractionsLaw", "over", "(LYearFractions;JJ[J)I"⟩, Cond.static ⟨"YearFractionsLaw", "over", "(LYearFractions;JJ[J)I"⟩, Cond.initialized "YearFractionsLaw"], w ∈ yW := (yAll (yW_m (lm_2 200 rfl) rfl) (yAll (yW_m (lm_2 201 rfl) rfl) (yAll (yW_m (lm_1 0 rfl) rfl) yNil)))
theorem w_Law_law_990 : Cond.constantLong "YearFractionsLaw" 75 4294967295 ∈ yW := (yW_m (lm_4 10 rfl) rfl)
theorem w_Law_law_1012 : Cond.constantLong "YearFractionsLaw" 75 4294967295 ∈ yW := (yW_m (lm_4 10 rfl) rfl)
theorem w_Law_law_1017 : ∀ w ∈ [Cond.methodLink "YearFractionsLaw" 115 ⟨"YearFractionsModel", "over", "(JJ)J"⟩, Cond.instanceMethod ⟨"YearFractionsModel", "over", "(JJ)J"⟩, Cond.selects "YearFractionsModel" ⟨"YearFractionsModel", "over", "(JJ)J"⟩ ⟨"YearFractionsModel", "over", "(JJ)J"⟩, Cond.initialized "YearFractionsModel"], w ∈ yW := (yAll (yW_m (lm_3 198 rfl) rfl) (yAll (yW_m (lm_3 199 rfl) rfl) (yAll (yW_m (lm_3 200 rfl) rfl) (yAll (yW_m (lm_1 5 rfl) rfl) yNil))))
theorem w_Law_law_1023 : ∀ w ∈ [Cond.methodLink "YearFractionsLaw" 71 ⟨"YearFractionsModel", "thrown", "()I"⟩, Cond.instanceMethod ⟨"YearFractionsModel", "thrown", "()I"⟩, Cond.selects "YearFractionsModel" ⟨"YearFractionsModel", "thrown", "()I"⟩ ⟨"YearFractionsModel", "thrown", "()I"⟩, Cond.initialized "YearFractionsModel"], w ∈ yW := (yAll (yW_m (lm_3 84 rfl) rfl) (yAll (yW_m (lm_3 85 rfl) rfl) (yAll (yW_m (lm_3 86 rfl) rfl) (yAll (yW_m (lm_1 5 rfl) rfl) yNil))))
theorem w_Law_law_1059 : ∀ w ∈ [Cond.methodLink "YearFractionsLaw" 116 ⟨"YearFractions", "written", "(I)J"⟩, Cond.instanceMethod ⟨"YearFractions", "written", "(I)J"⟩, Cond.selects "YearFractions" ⟨"YearFractions", "written", "(I)J"⟩ ⟨"YearFractions", "written", "(I)J"⟩, Cond.initialized "YearFractions"], w ∈ yW := (yAll (yW_m (lm_1 109 rfl) rfl) (yAll (yW_m (lm_1 110 rfl) rfl) (yAll (yW_m (lm_1 111 rfl) rfl) (yAll (yW_m (lm_1 1 rfl) rfl) yNil))))
theorem w_Law_law_1069 : ∀ w ∈ [Cond.methodLink "YearFractionsLaw" 120 ⟨"YearFractionsModel", "written", "(I)J"⟩, Cond.instanceMethod ⟨"YearFractionsModel", "written", "(I)J"⟩, Cond.selects "YearFractionsModel" ⟨"YearFractionsModel", "written", "(I)J"⟩ ⟨"YearFractionsModel", "written", "(I)J"⟩, Cond.initialized "YearFractionsModel"], w ∈ yW := (yAll (yW_m (lm_3 202 rfl) rfl) (yAll (yW_m (lm_3 203 rfl) rfl) (yAll (yW_m (lm_3 204 rfl) rfl) (yAll (yW_m (lm_1 5 rfl) rfl) yNil))))
theorem w_Law_law_1104 : ∀ w ∈ [Cond.methodLink "YearFractionsLaw" 121 ⟨"YearFractionsLaw", "day", "(LYearFractions;IIII[J)I"⟩, Cond.static ⟨"YearFractionsLaw", "day", "(LYearFractions;IIII[J)I"⟩, Cond.initialized "YearFractionsLaw"], w ∈ yW := (yAll (yW_m (lm_2 208 rfl) rfl) (yAll (yW_m (lm_2 209 rfl) rfl) (yAll (yW_m (lm_1 0 rfl) rfl) yNil)))
theorem w_Law_law_1134 : ∀ w ∈ [Cond.methodLink "YearFractionsLaw" 123 ⟨"YearFractionsModel", "day", "(IIII)I"⟩, Cond.instanceMethod ⟨"YearFractionsModel", "day", "(IIII)I"⟩, Cond.selects "YearFractionsModel" ⟨"YearFractionsModel", "day", "(IIII)I"⟩ ⟨"YearFractionsModel", "day", "(IIII)I"⟩, Cond.initialized "YearFractionsModel"], w ∈ yW := (yAll (yW_m (lm_3 206 rfl) rfl) (yAll (yW_m (lm_3 207 rfl) rfl) (yAll (yW_m (lm_3 208 rfl) rfl) (yAll (yW_m (lm_1 5 rfl) rfl) yNil))))
theorem w_Law_law_1140 : ∀ w ∈ [Cond.methodLink "YearFractionsLaw" 71 ⟨"YearFractionsModel", "thrown", "()I"⟩, Cond.instanceMethod ⟨"YearFractionsModel", "thrown", "()I"⟩, Cond.selects "YearFractionsModel" ⟨"YearFractionsModel", "thrown", "()I"⟩ ⟨"YearFractionsModel", "thrown", "()I"⟩, Cond.initialized "YearFractionsModel"], w ∈ yW := (yAll (yW_m (lm_3 84 rfl) rfl) (yAll (yW_m (lm_3 85 rfl) rfl) (yAll (yW_m (lm_3 86 rfl) rfl) (yAll (yW_m (lm_1 5 rfl) rfl) yNil))))
theorem w_Law_law_1190 : ∀ w ∈ [Cond.methodLink "YearFractionsLaw" 124 ⟨"YearFractionsLaw", "date", "(LYearFractions;III[J)I"⟩, Cond.static ⟨"YearFractionsLaw", "date", "(LYearFractions;III[J)I"⟩, Cond.initialized "YearFractionsLaw"], w ∈ yW := (yAll (yW_m (lm_3 15 rfl) rfl) (yAll (yW_m (lm_3 16 rfl) rfl) (yAll (yW_m (lm_1 0 rfl) rfl) yNil)))
theorem w_Law_law_1214 : ∀ w ∈ [Cond.methodLink "YearFractionsLaw" 126 ⟨"YearFractionsModel", "date", "(III)I"⟩, Cond.instanceMethod ⟨"YearFractionsModel", "date", "(III)I"⟩, Cond.selects "YearFractionsModel" ⟨"YearFractionsModel", "date", "(III)I"⟩ ⟨"YearFractionsModel", "date", "(III)I"⟩, Cond.initialized "YearFractionsModel"], w ∈ yW := (yAll (yW_m (lm_4 0 rfl) rfl) (yAll (yW_m (lm_4 1 rfl) rfl) (yAll (yW_m (lm_4 2 rfl) rfl) (yAll (yW_m (lm_1 5 rfl) rfl) yNil))))
theorem w_Law_law_1220 : ∀ w ∈ [Cond.methodLink "YearFractionsLaw" 71 ⟨"YearFractionsModel", "thrown", "()I"⟩, Cond.instanceMethod ⟨"YearFractionsModel", "thrown", "()I"⟩, Cond.selects "YearFractionsModel" ⟨"YearFractionsModel", "thrown", "()I"⟩ ⟨"YearFractionsModel", "thrown", "()I"⟩, Cond.initialized "YearFractionsModel"], w ∈ yW := (yAll (yW_m (lm_3 84 rfl) rfl) (yAll (yW_m (lm_3 85 rfl) rfl) (yAll (yW_m (lm_3 86 rfl) rfl) (yAll (yW_m (lm_1 5 rfl) rfl) yNil))))
theorem w_Law_law_1251 : ∀ w ∈ [Cond.methodLink "YearFractionsLaw" 127 ⟨"YearFractions", "clear", "()I"⟩, Cond.instanceMethod ⟨"YearFractions", "clear", "()I"⟩, Cond.selects "YearFractions" ⟨"YearFractions", "clear", "()I"⟩ ⟨"YearFractions", "clear", "()I"⟩, Cond.initialized "YearFractions"], w ∈ yW := (yAll (yW_m (lm_1 113 rfl) rfl) (yAll (yW_m (lm_1 114 rfl) rfl) (yAll (yW_m (lm_1 115 rfl) rfl) (yAll (yW_m (lm_1 1 rfl) rfl) yNil))))
theorem w_Law_law_1255 : ∀ w ∈ [Cond.methodLink "YearFractionsLaw" 130 ⟨"YearFractionsModel", "clear", "()I"⟩, Cond.instanceMethod ⟨"YearFractionsModel", "clear", "()I"⟩, Cond.selects "YearFractionsModel" ⟨"YearFractionsModel", "clear", "()I"⟩ ⟨"YearFractionsModel", "clear", "()I"⟩, Cond.initialized "YearFractionsModel"], w ∈ yW := (yAll (yW_m (lm_4 6 rfl) rfl) (yAll (yW_m (lm_4 7 rfl) rfl) (yAll (yW_m (lm_4 8 rfl) rfl) (yAll (yW_m (lm_1 5 rfl) rfl) yNil))))
end
section
theorem w_Mod_init_1 : ∀ w ∈ [Cond.methodLink "YearFractionsModel" 1 ⟨"java/lang/Object", "<init>", "()V"⟩, Cond.instanceMethod ⟨"java/lang/Object", "<init>", "()V"⟩], w ∈ yW := (yAll (yW_m (lm_3 46 rfl) rfl) (yAll (yW_m (lm_1 21 rfl) rfl) yNil))
theorem w_Mod_init_9 : Cond.fieldLink "YearFractionsModel" 7 "YearFractionsModel" "firsts" "[I" ∈ yW := (yW_m (lm_3 49 rfl) rfl)
theorem w_Mod_init_17 : Cond.fieldLink "YearFractionsModel" 13 "YearFractionsModel" "sizes" "[I" ∈ yW := (yW_m (lm_3 50 rfl) rfl)
theorem w_Mod_init_26 : Cond.fieldLink "YearFractionsModel" 16 "YearFractionsModel" "digits" "[I" ∈ yW := (yW_m (lm_3 51 rfl) rfl)
theorem w_Mod_init_34 : Cond.fieldLink "YearFractionsModel" 19 "YearFractionsModel" "starts" "[I" ∈ yW := (yW_m (lm_3 54 rfl) rfl)
theorem w_Mod_init_42 : Cond.fieldLink "YearFractionsModel" 22 "YearFractionsModel" "ends" "[I" ∈ yW := (yW_m (lm_3 55 rfl) rfl)
theorem w_Mod_init_50 : Cond.fieldLink "YearFractionsModel" 25 "YearFractionsModel" "wide" "[I" ∈ yW := (yW_m (lm_3 56 rfl) rfl)
theorem w_Mod_init_58 : Cond.fieldLink "YearFractionsModel" 28 "YearFractionsModel" "other" "[I" ∈ yW := (yW_m (lm_3 57 rfl) rfl)
theorem w_Mod_init_66 : Cond.fieldLink "YearFractionsModel" 31 "YearFractionsModel" "chosen" "[Z" ∈ yW := (yW_m (lm_3 58 rfl) rfl)
theorem w_Mod_thrown_1 : Cond.fieldLink "YearFractionsModel" 35 "YearFractionsModel" "thrown" "I" ∈ yW := (yW_m (lm_3 47 rfl) rfl)
theorem w_Mod_goes_35 : Cond.fieldLink "YearFractionsModel" 35 "YearFractionsModel" "thrown" "I" ∈ yW := (yW_m (lm_3 47 rfl) rfl)
theorem w_Mod_goes_39 : Cond.fieldLink "YearFractionsModel" 35 "YearFractionsModel" "thrown" "I" ∈ yW := (yW_m (lm_3 47 rfl) rfl)
theorem w_Mod_isRow_6 : Cond.fieldLink "YearFractionsModel" 39 "YearFractionsModel" "rows" "I" ∈ yW := (yW_m (lm_3 48 rfl) rfl)
theorem w_Mod_has_2 : ∀ w ∈ [Cond.methodLink "YearFractionsModel" 42 ⟨"YearFractionsModel", "isRow", "(I)Z"⟩, Cond.instanceMethod ⟨"YearFractionsModel", "isRow", "(I)Z"⟩, Cond.selects "YearFractionsModel" ⟨"YearFractionsModel", "isRow", "(I)Z"⟩ ⟨"YearFractionsModel", "isRow", "(I)Z"⟩, Cond.initialized "YearFractionsModel"], w ∈ yW := (yAll (yW_m (lm_3 111 rfl) rfl) (yAll (yW_m (lm_3 113 rfl) rfl) (yAll (yW_m (lm_0 10 rfl) rfl) (yAll (yW_m (lm_1 5 rfl) rfl) yNil))))
theorem w_Mod_has_10 : Cond.fieldLink "YearFractionsModel" 7 "YearFractionsModel" "firsts" "[I" ∈ yW := (yW_m (lm_3 49 rfl) rfl)
theorem w_Mod_has_20 : Cond.fieldLink "YearFractionsModel" 7 "YearFractionsModel" "firsts" "[I" ∈ yW := (yW_m (lm_3 49 rfl) rfl)
theorem w_Mod_has_26 : Cond.fieldLink "YearFractionsModel" 13 "YearFractionsModel" "sizes" "[I" ∈ yW := (yW_m (lm_3 50 rfl) rfl)
theorem w_Mod_at_9 : Cond.fieldLink "YearFractionsModel" 7 "YearFractionsModel" "firsts" "[I" ∈ yW := (yW_m (lm_3 49 rfl) rfl)
theorem w_Mod_open_1 : Cond.fieldLink "YearFractionsModel" 7 "YearFractionsModel" "firsts" "[I" ∈ yW := (yW_m (lm_3 49 rfl) rfl)
theorem w_Mod_open_5 : Cond.fieldLink "YearFractionsModel" 39 "YearFractionsModel" "rows" "I" ∈ yW := (yW_m (lm_3 48 rfl) rfl)
theorem w_Mod_open_11 : Cond.fieldLink "YearFractionsModel" 13 "YearFractionsModel" "sizes" "[I" ∈ yW := (yW_m (lm_3 50 rfl) rfl)
theorem w_Mod_open_15 : Cond.fieldLink "YearFractionsModel" 39 "YearFractionsModel" "rows" "I" ∈ yW := (yW_m (lm_3 48 rfl) rfl)
theorem w_Mod_open_30 : Cond.fieldLink "YearFractionsModel" 16 "YearFractionsModel" "digits" "[I" ∈ yW := (yW_m (lm_3 51 rfl) rfl)
theorem w_Mod_open_37 : Cond.fieldLink "YearFractionsModel" 39 "YearFractionsModel" "rows" "I" ∈ yW := (yW_m (lm_3 48 rfl) rfl)
theorem w_Mod_open_53 : Cond.fieldLink "YearFractionsModel" 39 "YearFractionsModel" "rows" "I" ∈ yW := (yW_m (lm_3 48 rfl) rfl)
theorem w_Mod_open_58 : Cond.fieldLink "YearFractionsModel" 39 "YearFractionsModel" "rows" "I" ∈ yW := (yW_m (lm_3 48 rfl) rfl)
theorem w_Mod_row_4 : ∀ w ∈ [Cond.methodLink "YearFractionsModel" 46 ⟨"YearFractionsModel", "within", "(III)Z"⟩, Cond.static ⟨"YearFractionsModel", "within", "(III)Z"⟩, Cond.initialized "YearFractionsModel"], w ∈ yW := (yAll (yW_m (lm_3 92 rfl) rfl) (yAll (yW_m (lm_3 93 rfl) rfl) (yAll (yW_m (lm_1 5 rfl) rfl) yNil)))
theorem w_Mod_row_17 : ∀ w ∈ [Cond.methodLink "YearFractionsModel" 46 ⟨"YearFractionsModel", "within", "(III)Z"⟩, Cond.static ⟨"YearFractionsModel", "within", "(III)Z"⟩, Cond.initialized "YearFractionsModel"], w ∈ yW := (yAll (yW_m (lm_3 92 rfl) rfl) (yAll (yW_m (lm_3 93 rfl) rfl) (yAll (yW_m (lm_1 5 rfl) rfl) yNil)))
theorem w_Mod_row_42 : Cond.fieldLink "YearFractionsModel" 39 "YearFractionsModel" "rows" "I" ∈ yW := (yW_m (lm_3 48 rfl) rfl)
theorem w_Mod_row_58 : ∀ w ∈ [Cond.methodLink "YearFractionsModel" 50 ⟨"YearFractionsModel", "goes", "(ZZZZ)Z"⟩, Cond.instanceMethod ⟨"YearFractionsModel", "goes", "(ZZZZ)Z"⟩, Cond.selects "YearFractionsModel" ⟨"YearFractionsModel", "goes", "(ZZZZ)Z"⟩ ⟨"YearFractionsModel", "goes", "(ZZZZ)Z"⟩, Cond.initialized "YearFractionsModel"], w ∈ yW := (yAll (yW_m (lm_3 95 rfl) rfl) (yAll (yW_m (lm_3 97 rfl) rfl) (yAll (yW_m (lm_0 7 rfl) rfl) (yAll (yW_m (lm_1 5 rfl) rfl) yNil))))
theorem w_Mod_row_69 : ∀ w ∈ [Cond.methodLink "YearFractionsModel" 54 ⟨"YearFractionsModel", "open", "(II)V"⟩, Cond.instanceMethod ⟨"YearFractionsModel", "open", "(II)V"⟩, Cond.selects "YearFractionsModel" ⟨"YearFractionsModel", "open", "(II)V"⟩ ⟨"YearFractionsModel", "open", "(II)V"⟩, Cond.initialized "YearFractionsModel"], w ∈ yW := (yAll (yW_m (lm_3 99 rfl) rfl) (yAll (yW_m (lm_3 101 rfl) rfl) (yAll (yW_m (lm_0 8 rfl) rfl) (yAll (yW_m (lm_1 5 rfl) rfl) yNil))))
theorem w_Mod_row_73 : Cond.fieldLink "YearFractionsModel" 39 "YearFractionsModel" "rows" "I" ∈ yW := (yW_m (lm_3 48 rfl) rfl)
theorem w_Mod_weight_4 : ∀ w ∈ [Cond.methodLink "YearFractionsModel" 58 ⟨"YearFractionsModel", "has", "(II)Z"⟩, Cond.instanceMethod ⟨"YearFractionsModel", "has", "(II)Z"⟩, Cond.selects "YearFractionsModel" ⟨"YearFractionsModel", "has", "(II)Z"⟩ ⟨"YearFractionsModel", "has", "(II)Z"⟩, Cond.initialized "YearFractionsModel"], w ∈ yW := (yAll (yW_m (lm_3 107 rfl) rfl) (yAll (yW_m (lm_3 109 rfl) rfl) (yAll (yW_m (lm_0 9 rfl) rfl) (yAll (yW_m (lm_1 5 rfl) rfl) yNil))))
theorem w_Mod_weight_20 : ∀ w ∈ [Cond.methodLink "YearFractionsModel" 50 ⟨"YearFractionsModel", "goes", "(ZZZZ)Z"⟩, Cond.instanceMethod ⟨"YearFractionsModel", "goes", "(ZZZZ)Z"⟩, Cond.selects "YearFractionsModel" ⟨"YearFractionsModel", "goes", "(ZZZZ)Z"⟩ ⟨"YearFractionsModel", "goes", "(ZZZZ)Z"⟩, Cond.initialized "YearFractionsModel"], w ∈ yW := (yAll (yW_m (lm_3 95 rfl) rfl) (yAll (yW_m (lm_3 97 rfl) rfl) (yAll (yW_m (lm_0 7 rfl) rfl) (yAll (yW_m (lm_1 5 rfl) rfl) yNil))))
theorem w_Mod_weight_46 : Cond.constantLong "YearFractionsModel" 62 10 ∈ yW := (yW_m (lm_3 115 rfl) rfl)
theorem w_Mod_weight_55 : Cond.constantLong "YearFractionsModel" 62 10 ∈ yW := (yW_m (lm_3 115 rfl) rfl)
theorem w_Mod_weight_67 : Cond.fieldLink "YearFractionsModel" 16 "YearFractionsModel" "digits" "[I" ∈ yW := (yW_m (lm_3 51 rfl) rfl)
theorem w_Mod_weight_73 : ∀ w ∈ [Cond.methodLink "YearFractionsModel" 64 ⟨"YearFractionsModel", "at", "(II)I"⟩, Cond.instanceMethod ⟨"YearFractionsModel", "at", "(II)I"⟩, Cond.selects "YearFractionsModel" ⟨"YearFractionsModel", "at", "(II)I"⟩ ⟨"YearFractionsModel", "at", "(II)I"⟩, Cond.initialized "YearFractionsModel"], w ∈ yW := (yAll (yW_m (lm_3 116 rfl) rfl) (yAll (yW_m (lm_3 118 rfl) rfl) (yAll (yW_m (lm_0 11 rfl) rfl) (yAll (yW_m (lm_1 5 rfl) rfl) yNil))))
theorem w_Mod_weight_93 : Cond.fieldLink "YearFractionsModel" 16 "YearFractionsModel" "digits" "[I" ∈ yW := (yW_m (lm_3 51 rfl) rfl)
theorem w_Mod_weight_99 : ∀ w ∈ [Cond.methodLink "YearFractionsModel" 64 ⟨"YearFractionsModel", "at", "(II)I"⟩, Cond.instanceMethod ⟨"YearFractionsModel", "at", "(II)I"⟩, Cond.selects "YearFractionsModel" ⟨"YearFractionsModel", "at", "(II)I"⟩ ⟨"YearFractionsModel", "at", "(II)I"⟩, Cond.initialized "YearFractionsModel"], w ∈ yW := (yAll (yW_m (lm_3 116 rfl) rfl) (yAll (yW_m (lm_3 118 rfl) rfl) (yAll (yW_m (lm_0 11 rfl) rfl) (yAll (yW_m (lm_1 5 rfl) rfl) yNil))))
theorem w_Mod_blank_9 : Cond.fieldLink "YearFractionsModel" 25 "YearFractionsModel" "wide" "[I" ∈ yW := (yW_m (lm_3 56 rfl) rfl)
theorem w_Mod_plus_3 : ∀ w ∈ [Cond.methodLink "YearFractionsModel" 58 ⟨"YearFractionsModel", "has", "(II)Z"⟩, Cond.instanceMethod ⟨"YearFractionsModel", "has", "(II)Z"⟩, Cond.selects "YearFractionsModel" ⟨"YearFractionsModel", "has", "(II)Z"⟩ ⟨"YearFractionsModel", "has", "(II)Z"⟩, Cond.initialized "YearFractionsModel"], w ∈ yW := (yAll (yW_m (lm_3 107 rfl) rfl) (yAll (yW_m (lm_3 109 rfl) rfl) (yAll (yW_m (lm_0 9 rfl) rfl) (yAll (yW_m (lm_1 5 rfl) rfl) yNil))))
theorem w_Mod_plus_23 : Cond.fieldLink "YearFractionsModel" 25 "YearFractionsModel" "wide" "[I" ∈ yW := (yW_m (lm_3 56 rfl) rfl)
theorem w_Mod_plus_39 : Cond.fieldLink "YearFractionsModel" 16 "YearFractionsModel" "digits" "[I" ∈ yW := (yW_m (lm_3 51 rfl) rfl)
theorem w_Mod_plus_45 : ∀ w ∈ [Cond.methodLink "YearFractionsModel" 64 ⟨"YearFractionsModel", "at", "(II)I"⟩, Cond.instanceMethod ⟨"YearFractionsModel", "at", "(II)I"⟩, Cond.selects "YearFractionsModel" ⟨"YearFractionsModel", "at", "(II)I"⟩ ⟨"YearFractionsModel", "at", "(II)I"⟩, Cond.initialized "YearFractionsModel"], w ∈ yW := (yAll (yW_m (lm_3 116 rfl) rfl) (yAll (yW_m (lm_3 118 rfl) rfl) (yAll (yW_m (lm_0 11 rfl) rfl) (yAll (yW_m (lm_1 5 rfl) rfl) yNil))))
theorem w_Mod_plus_60 : Cond.fieldLink "YearFractionsModel" 25 "YearFractionsModel" "wide" "[I" ∈ yW := (yW_m (lm_3 56 rfl) rfl)
theorem w_Mod_keep_24 : Cond.fieldLink "YearFractionsModel" 25 "YearFractionsModel" "wide" "[I" ∈ yW := (yW_m (lm_3 56 rfl) rfl)
theorem w_Mod_keep_47 : Cond.fieldLink "YearFractionsModel" 16 "YearFractionsModel" "digits" "[I" ∈ yW := (yW_m (lm_3 51 rfl) rfl)
theorem w_Mod_keep_53 : ∀ w ∈ [Cond.methodLink "YearFractionsModel" 64 ⟨"YearFractionsModel", "at", "(II)I"⟩, Cond.instanceMethod ⟨"YearFractionsModel", "at", "(II)I"⟩, Cond.selects "YearFractionsModel" ⟨"YearFractionsModel", "at", "(II)I"⟩ ⟨"YearFractionsModel", "at", "(II)I"⟩, Cond.initialized "YearFractionsModel"], w ∈ yW := (yAll (yW_m (lm_3 116 rfl) rfl) (yAll (yW_m (lm_3 118 rfl) rfl) (yAll (yW_m (lm_0 11 rfl) rfl) (yAll (yW_m (lm_1 5 rfl) rfl) yNil))))
theorem w_Mod_keep_60 : Cond.fieldLink "YearFractionsModel" 25 "YearFractionsModel" "wide" "[I" ∈ yW := (yW_m (lm_3 56 rfl) rfl)
theorem w_Mod_add_2 : ∀ w ∈ [Cond.methodLink "YearFractionsModel" 42 ⟨"YearFractionsModel", "isRow", "(I)Z"⟩, Cond.instanceMethod ⟨"YearFractionsModel", "isRow", "(I)Z"⟩, Cond.selects "YearFractionsModel" ⟨"YearFractionsModel", "isRow", "(I)Z"⟩ ⟨"YearFractionsModel", "isRow", "(I)Z"⟩, Cond.initialized "YearFractionsModel"], w ∈ yW := (yAll (yW_m (lm_3 111 rfl) rfl) (yAll (yW_m (lm_3 113 rfl) rfl) (yAll (yW_m (lm_0 10 rfl) rfl) (yAll (yW_m (lm_1 5 rfl) rfl) yNil))))
theorem w_Mod_add_10 : ∀ w ∈ [Cond.methodLink "YearFractionsModel" 42 ⟨"YearFractionsModel", "isRow", "(I)Z"⟩, Cond.instanceMethod ⟨"YearFractionsModel", "isRow", "(I)Z"⟩, Cond.selects "YearFractionsModel" ⟨"YearFractionsModel", "isRow", "(I)Z"⟩ ⟨"YearFractionsModel", "isRow", "(I)Z"⟩, Cond.initialized "YearFractionsModel"], w ∈ yW := (yAll (yW_m (lm_3 111 rfl) rfl) (yAll (yW_m (lm_3 113 rfl) rfl) (yAll (yW_m (lm_0 10 rfl) rfl) (yAll (yW_m (lm_1 5 rfl) rfl) yNil))))
theorem w_Mod_add_33 : Cond.fieldLink "YearFractionsModel" 7 "YearFractionsModel" "firsts" "[I" ∈ yW := (yW_m (lm_3 49 rfl) rfl)
theorem w_Mod_add_39 : Cond.fieldLink "YearFractionsModel" 7 "YearFractionsModel" "firsts" "[I" ∈ yW := (yW_m (lm_3 49 rfl) rfl)
theorem w_Mod_add_48 : Cond.fieldLink "YearFractionsModel" 7 "YearFractionsModel" "firsts" "[I" ∈ yW := (yW_m (lm_3 49 rfl) rfl)
theorem w_Mod_add_57 : Cond.fieldLink "YearFractionsModel" 7 "YearFractionsModel" "firsts" "[I" ∈ yW := (yW_m (lm_3 49 rfl) rfl)
theorem w_Mod_add_65 : Cond.fieldLink "YearFractionsModel" 7 "YearFractionsModel" "firsts" "[I" ∈ yW := (yW_m (lm_3 49 rfl) rfl)
theorem w_Mod_add_71 : Cond.fieldLink "YearFractionsModel" 13 "YearFractionsModel" "sizes" "[I" ∈ yW := (yW_m (lm_3 50 rfl) rfl)
theorem w_Mod_add_82 : Cond.fieldLink "YearFractionsModel" 7 "YearFractionsModel" "firsts" "[I" ∈ yW := (yW_m (lm_3 49 rfl) rfl)
theorem w_Mod_add_88 : Cond.fieldLink "YearFractionsModel" 13 "YearFractionsModel" "sizes" "[I" ∈ yW := (yW_m (lm_3 50 rfl) rfl)
theorem w_Mod_add_117 : Cond.fieldLink "YearFractionsModel" 39 "YearFractionsModel" "rows" "I" ∈ yW := (yW_m (lm_3 48 rfl) rfl)
theorem w_Mod_add_146 : ∀ w ∈ [Cond.methodLink "YearFractionsModel" 50 ⟨"YearFractionsModel", "goes", "(ZZZZ)Z"⟩, Cond.instanceMethod ⟨"YearFractionsModel", "goes", "(ZZZZ)Z"⟩, Cond.selects "YearFractionsModel" ⟨"YearFractionsModel", "goes", "(ZZZZ)Z"⟩ ⟨"YearFractionsModel", "goes", "(ZZZZ)Z"⟩, Cond.initialized "YearFractionsModel"], w ∈ yW := (yAll (yW_m (lm_3 95 rfl) rfl) (yAll (yW_m (lm_3 97 rfl) rfl) (yAll (yW_m (lm_0 7 rfl) rfl) (yAll (yW_m (lm_1 5 rfl) rfl) yNil))))
theorem w_Mod_add_164 : ∀ w ∈ [Cond.methodLink "YearFractionsModel" 54 ⟨"YearFractionsModel", "open", "(II)V"⟩, Cond.instanceMethod ⟨"YearFractionsModel", "open", "(II)V"⟩, Cond.selects "YearFractionsModel" ⟨"YearFractionsModel", "open", "(II)V"⟩ ⟨"YearFractionsModel", "open", "(II)V"⟩, Cond.initialized "YearFractionsModel"], w ∈ yW := (yAll (yW_m (lm_3 99 rfl) rfl) (yAll (yW_m (lm_3 101 rfl) rfl) (yAll (yW_m (lm_0 8 rfl) rfl) (yAll (yW_m (lm_1 5 rfl) rfl) yNil))))
theorem w_Mod_add_182 : ∀ w ∈ [Cond.methodLink "YearFractionsModel" 68 ⟨"YearFractionsModel", "blank", "()V"⟩, Cond.instanceMethod ⟨"YearFractionsModel", "blank", "()V"⟩, Cond.selects "YearFractionsModel" ⟨"YearFractionsModel", "blank", "()V"⟩ ⟨"YearFractionsModel", "blank", "()V"⟩, Cond.initialized "YearFractionsModel"], w ∈ yW := (yAll (yW_m (lm_3 124 rfl) rfl) (yAll (yW_m (lm_3 126 rfl) rfl) (yAll (yW_m (lm_0 12 rfl) rfl) (yAll (yW_m (lm_1 5 rfl) rfl) yNil))))
theorem w_Mod_add_189 : ∀ w ∈ [Cond.methodLink "YearFractionsModel" 71 ⟨"YearFractionsModel", "plus", "(II)V"⟩, Cond.instanceMethod ⟨"YearFractionsModel", "plus", "(II)V"⟩, Cond.selects "YearFractionsModel" ⟨"YearFractionsModel", "plus", "(II)V"⟩ ⟨"YearFractionsModel", "plus", "(II)V"⟩, Cond.initialized "YearFractionsModel"], w ∈ yW := (yAll (yW_m (lm_3 128 rfl) rfl) (yAll (yW_m (lm_3 130 rfl) rfl) (yAll (yW_m (lm_0 13 rfl) rfl) (yAll (yW_m (lm_1 5 rfl) rfl) yNil))))
theorem w_Mod_add_196 : ∀ w ∈ [Cond.methodLink "YearFractionsModel" 71 ⟨"YearFractionsModel", "plus", "(II)V"⟩, Cond.instanceMethod ⟨"YearFractionsModel", "plus", "(II)V"⟩, Cond.selects "YearFractionsModel" ⟨"YearFractionsModel", "plus", "(II)V"⟩ ⟨"YearFractionsModel", "plus", "(II)V"⟩, Cond.initialized "YearFractionsModel"], w ∈ yW := (yAll (yW_m (lm_3 128 rfl) rfl) (yAll (yW_m (lm_3 130 rfl) rfl) (yAll (yW_m (lm_0 13 rfl) rfl) (yAll (yW_m (lm_1 5 rfl) rfl) yNil))))
theorem w_Mod_add_201 : Cond.fieldLink "YearFractionsModel" 39 "YearFractionsModel" "rows" "I" ∈ yW := (yW_m (lm_3 48 rfl) rfl)
theorem w_Mod_add_208 : ∀ w ∈ [Cond.methodLink "YearFractionsModel" 74 ⟨"YearFractionsModel", "keep", "(II)Z"⟩, Cond.instanceMethod ⟨"YearFractionsModel", "keep", "(II)Z"⟩, Cond.selects "YearFractionsModel" ⟨"YearFractionsModel", "keep", "(II)Z"⟩ ⟨"YearFractionsModel", "keep", "(II)Z"⟩, Cond.initialized "YearFractionsModel"], w ∈ yW := (yAll (yW_m (lm_3 132 rfl) rfl) (yAll (yW_m (lm_3 134 rfl) rfl) (yAll (yW_m (lm_0 14 rfl) rfl) (yAll (yW_m (lm_1 5 rfl) rfl) yNil))))
theorem w_Mod_add_239 : Cond.fieldLink "YearFractionsModel" 39 "YearFractionsModel" "rows" "I" ∈ yW := (yW_m (lm_3 48 rfl) rfl)
theorem w_Mod_add_246 : Cond.fieldLink "YearFractionsModel" 39 "YearFractionsModel" "rows" "I" ∈ yW := (yW_m (lm_3 48 rfl) rfl)
theorem w_Mod_add_251 : Cond.fieldLink "YearFractionsModel" 39 "YearFractionsModel" "rows" "I" ∈ yW := (yW_m (lm_3 48 rfl) rfl)
theorem w_Mod_add_260 : ∀ w ∈ [Cond.methodLink "YearFractionsModel" 50 ⟨"YearFractionsModel", "goes", "(ZZZZ)Z"⟩, Cond.instanceMethod ⟨"YearFractionsModel", "goes", "(ZZZZ)Z"⟩, Cond.selects "YearFractionsModel" ⟨"YearFractionsModel", "goes", "(ZZZZ)Z"⟩ ⟨"YearFractionsModel", "goes", "(ZZZZ)Z"⟩, Cond.initialized "YearFractionsModel"], w ∈ yW := (yAll (yW_m (lm_3 95 rfl) rfl) (yAll (yW_m (lm_3 97 rfl) rfl) (yAll (yW_m (lm_0 7 rfl) rfl) (yAll (yW_m (lm_1 5 rfl) rfl) yNil))))
theorem w_Mod_add_267 : Cond.fieldLink "YearFractionsModel" 39 "YearFractionsModel" "rows" "I" ∈ yW := (yW_m (lm_3 48 rfl) rfl)
theorem w_Mod_multiply_1 : ∀ w ∈ [Cond.methodLink "YearFractionsModel" 68 ⟨"YearFractionsModel", "blank", "()V"⟩, Cond.instanceMethod ⟨"YearFractionsModel", "blank", "()V"⟩, Cond.selects "YearFractionsModel" ⟨"YearFractionsModel", "blank", "()V"⟩ ⟨"YearFractionsModel", "blank", "()V"⟩, Cond.initialized "YearFractionsModel"], w ∈ yW := (yAll (yW_m (lm_3 124 rfl) rfl) (yAll (yW_m (lm_3 126 rfl) rfl) (yAll (yW_m (lm_0 12 rfl) rfl) (yAll (yW_m (lm_1 5 rfl) rfl) yNil))))
theorem w_Mod_multiply_28 : Cond.fieldLink "YearFractionsModel" 25 "YearFractionsModel" "wide" "[I" ∈ yW := (yW_m (lm_3 56 rfl) rfl)
theorem w_Mod_multiply_47 : Cond.fieldLink "YearFractionsModel" 16 "YearFractionsModel" "digits" "[I" ∈ yW := (yW_m (lm_3 51 rfl) rfl)
theorem w_Mod_multiply_55 : Cond.fieldLink "YearFractionsModel" 16 "YearFractionsModel" "digits" "[I" ∈ yW := (yW_m (lm_3 51 rfl) rfl)
theorem w_Mod_multiply_72 : Cond.fieldLink "YearFractionsModel" 25 "YearFractionsModel" "wide" "[I" ∈ yW := (yW_m (lm_3 56 rfl) rfl)
theorem w_Mod_divide_12 : Cond.constantLong "YearFractionsModel" 62 10 ∈ yW := (yW_m (lm_3 115 rfl) rfl)
theorem w_Mod_divide_17 : Cond.fieldLink "YearFractionsModel" 25 "YearFractionsModel" "wide" "[I" ∈ yW := (yW_m (lm_3 56 rfl) rfl)
theorem w_Mod_divide_27 : Cond.fieldLink "YearFractionsModel" 25 "YearFractionsModel" "wide" "[I" ∈ yW := (yW_m (lm_3 56 rfl) rfl)
theorem w_Mod_times_2 : ∀ w ∈ [Cond.methodLink "YearFractionsModel" 42 ⟨"YearFractionsModel", "isRow", "(I)Z"⟩, Cond.instanceMethod ⟨"YearFractionsModel", "isRow", "(I)Z"⟩, Cond.selects "YearFractionsModel" ⟨"YearFractionsModel", "isRow", "(I)Z"⟩ ⟨"YearFractionsModel", "isRow", "(I)Z"⟩, Cond.initialized "YearFractionsModel"], w ∈ yW := (yAll (yW_m (lm_3 111 rfl) rfl) (yAll (yW_m (lm_3 113 rfl) rfl) (yAll (yW_m (lm_0 10 rfl) rfl) (yAll (yW_m (lm_1 5 rfl) rfl) yNil))))
theorem w_Mod_times_10 : ∀ w ∈ [Cond.methodLink "YearFractionsModel" 42 ⟨"YearFractionsModel", "isRow", "(I)Z"⟩, Cond.instanceMethod ⟨"YearFractionsModel", "isRow", "(I)Z"⟩, Cond.selects "YearFractionsModel" ⟨"YearFractionsModel", "isRow", "(I)Z"⟩ ⟨"YearFractionsModel", "isRow", "(I)Z"⟩, Cond.initialized "YearFractionsModel"], w ∈ yW := (yAll (yW_m (lm_3 111 rfl) rfl) (yAll (yW_m (lm_3 113 rfl) rfl) (yAll (yW_m (lm_0 10 rfl) rfl) (yAll (yW_m (lm_1 5 rfl) rfl) yNil))))
theorem w_Mod_times_35 : Cond.fieldLink "YearFractionsModel" 7 "YearFractionsModel" "firsts" "[I" ∈ yW := (yW_m (lm_3 49 rfl) rfl)
theorem w_Mod_times_41 : Cond.fieldLink "YearFractionsModel" 7 "YearFractionsModel" "firsts" "[I" ∈ yW := (yW_m (lm_3 49 rfl) rfl)
theorem w_Mod_times_50 : Cond.fieldLink "YearFractionsModel" 7 "YearFractionsModel" "firsts" "[I" ∈ yW := (yW_m (lm_3 49 rfl) rfl)
theorem w_Mod_times_59 : Cond.fieldLink "YearFractionsModel" 7 "YearFractionsModel" "firsts" "[I" ∈ yW := (yW_m (lm_3 49 rfl) rfl)
theorem w_Mod_times_67 : Cond.fieldLink "YearFractionsModel" 7 "YearFractionsModel" "firsts" "[I" ∈ yW := (yW_m (lm_3 49 rfl) rfl)
theorem w_Mod_times_73 : Cond.fieldLink "YearFractionsModel" 13 "YearFractionsModel" "sizes" "[I" ∈ yW := (yW_m (lm_3 50 rfl) rfl)
theorem w_Mod_times_84 : Cond.fieldLink "YearFractionsModel" 7 "YearFractionsModel" "firsts" "[I" ∈ yW := (yW_m (lm_3 49 rfl) rfl)
theorem w_Mod_times_90 : Cond.fieldLink "YearFractionsModel" 13 "YearFractionsModel" "sizes" "[I" ∈ yW := (yW_m (lm_3 50 rfl) rfl)
theorem w_Mod_times_120 : Cond.fieldLink "YearFractionsModel" 39 "YearFractionsModel" "rows" "I" ∈ yW := (yW_m (lm_3 48 rfl) rfl)
theorem w_Mod_times_135 : Cond.constant "YearFractionsModel" 77 1000000000 ∈ yW := (yW_m (lm_3 140 rfl) rfl)
theorem w_Mod_times_137 : ∀ w ∈ [Cond.methodLink "YearFractionsModel" 46 ⟨"YearFractionsModel", "within", "(III)Z"⟩, Cond.static ⟨"YearFractionsModel", "within", "(III)Z"⟩, Cond.initialized "YearFractionsModel"], w ∈ yW := (yAll (yW_m (lm_3 92 rfl) rfl) (yAll (yW_m (lm_3 93 rfl) rfl) (yAll (yW_m (lm_1 5 rfl) rfl) yNil)))
theorem w_Mod_times_156 : ∀ w ∈ [Cond.methodLink "YearFractionsModel" 50 ⟨"YearFractionsModel", "goes", "(ZZZZ)Z"⟩, Cond.instanceMethod ⟨"YearFractionsModel", "goes", "(ZZZZ)Z"⟩, Cond.selects "YearFractionsModel" ⟨"YearFractionsModel", "goes", "(ZZZZ)Z"⟩ ⟨"YearFractionsModel", "goes", "(ZZZZ)Z"⟩, Cond.initialized "YearFractionsModel"], w ∈ yW := (yAll (yW_m (lm_3 95 rfl) rfl) (yAll (yW_m (lm_3 97 rfl) rfl) (yAll (yW_m (lm_0 7 rfl) rfl) (yAll (yW_m (lm_1 5 rfl) rfl) yNil))))
theorem w_Mod_times_174 : ∀ w ∈ [Cond.methodLink "YearFractionsModel" 54 ⟨"YearFractionsModel", "open", "(II)V"⟩, Cond.instanceMethod ⟨"YearFractionsModel", "open", "(II)V"⟩, Cond.selects "YearFractionsModel" ⟨"YearFractionsModel", "open", "(II)V"⟩ ⟨"YearFractionsModel", "open", "(II)V"⟩, Cond.initialized "YearFractionsModel"], w ∈ yW := (yAll (yW_m (lm_3 99 rfl) rfl) (yAll (yW_m (lm_3 101 rfl) rfl) (yAll (yW_m (lm_0 8 rfl) rfl) (yAll (yW_m (lm_1 5 rfl) rfl) yNil))))
theorem w_Mod_times_199 : ∀ w ∈ [Cond.methodLink "YearFractionsModel" 64 ⟨"YearFractionsModel", "at", "(II)I"⟩, Cond.instanceMethod ⟨"YearFractionsModel", "at", "(II)I"⟩, Cond.selects "YearFractionsModel" ⟨"YearFractionsModel", "at", "(II)I"⟩ ⟨"YearFractionsModel", "at", "(II)I"⟩, Cond.initialized "YearFractionsModel"], w ∈ yW := (yAll (yW_m (lm_3 116 rfl) rfl) (yAll (yW_m (lm_3 118 rfl) rfl) (yAll (yW_m (lm_0 11 rfl) rfl) (yAll (yW_m (lm_1 5 rfl) rfl) yNil))))
theorem w_Mod_times_206 : ∀ w ∈ [Cond.methodLink "YearFractionsModel" 64 ⟨"YearFractionsModel", "at", "(II)I"⟩, Cond.instanceMethod ⟨"YearFractionsModel", "at", "(II)I"⟩, Cond.selects "YearFractionsModel" ⟨"YearFractionsModel", "at", "(II)I"⟩ ⟨"YearFractionsModel", "at", "(II)I"⟩, Cond.initialized "YearFractionsModel"], w ∈ yW := (yAll (yW_m (lm_3 116 rfl) rfl) (yAll (yW_m (lm_3 118 rfl) rfl) (yAll (yW_m (lm_0 11 rfl) rfl) (yAll (yW_m (lm_1 5 rfl) rfl) yNil))))
theorem w_Mod_times_209 : ∀ w ∈ [Cond.methodLink "YearFractionsModel" 78 ⟨"YearFractionsModel", "multiply", "(II)V"⟩, Cond.instanceMethod ⟨"YearFractionsModel", "multiply", "(II)V"⟩, Cond.selects "YearFractionsModel" ⟨"YearFractionsModel", "multiply", "(II)V"⟩ ⟨"YearFractionsModel", "multiply", "(II)V"⟩, Cond.initialized "YearFractionsModel"], w ∈ yW := (yAll (yW_m (lm_3 141 rfl) rfl) (yAll (yW_m (lm_3 143 rfl) rfl) (yAll (yW_m (lm_0 15 rfl) rfl) (yAll (yW_m (lm_1 5 rfl) rfl) yNil))))
theorem w_Mod_times_216 : ∀ w ∈ [Cond.methodLink "YearFractionsModel" 81 ⟨"YearFractionsModel", "divide", "(I)J"⟩, Cond.instanceMethod ⟨"YearFractionsModel", "divide", "(I)J"⟩, Cond.selects "YearFractionsModel" ⟨"YearFractionsModel", "divide", "(I)J"⟩ ⟨"YearFractionsModel", "divide", "(I)J"⟩, Cond.initialized "YearFractionsModel"], w ∈ yW := (yAll (yW_m (lm_3 145 rfl) rfl) (yAll (yW_m (lm_3 147 rfl) rfl) (yAll (yW_m (lm_0 16 rfl) rfl) (yAll (yW_m (lm_1 5 rfl) rfl) yNil))))
theorem w_Mod_times_224 : Cond.fieldLink "YearFractionsModel" 39 "YearFractionsModel" "rows" "I" ∈ yW := (yW_m (lm_3 48 rfl) rfl)
theorem w_Mod_times_231 : ∀ w ∈ [Cond.methodLink "YearFractionsModel" 74 ⟨"YearFractionsModel", "keep", "(II)Z"⟩, Cond.instanceMethod ⟨"YearFractionsModel", "keep", "(II)Z"⟩, Cond.selects "YearFractionsModel" ⟨"YearFractionsModel", "keep", "(II)Z"⟩ ⟨"YearFractionsModel", "keep", "(II)Z"⟩, Cond.initialized "YearFractionsModel"], w ∈ yW := (yAll (yW_m (lm_3 132 rfl) rfl) (yAll (yW_m (lm_3 134 rfl) rfl) (yAll (yW_m (lm_0 14 rfl) rfl) (yAll (yW_m (lm_1 5 rfl) rfl) yNil))))
theorem w_Mod_times_262 : Cond.fieldLink "YearFractionsModel" 39 "YearFractionsModel" "rows" "I" ∈ yW := (yW_m (lm_3 48 rfl) rfl)
theorem w_Mod_times_269 : Cond.fieldLink "YearFractionsModel" 39 "YearFractionsModel" "rows" "I" ∈ yW := (yW_m (lm_3 48 rfl) rfl)
theorem w_Mod_times_274 : Cond.fieldLink "YearFractionsModel" 39 "YearFractionsModel" "rows" "I" ∈ yW := (yW_m (lm_3 48 rfl) rfl)
theorem w_Mod_times_289 : Cond.fieldLink "YearFractionsModel" 85 "YearFractionsModel" "rests" "J" ∈ yW := (yW_m (lm_3 52 rfl) rfl)
theorem w_Mod_times_292 : Cond.fieldLink "YearFractionsModel" 85 "YearFractionsModel" "rests" "J" ∈ yW := (yW_m (lm_3 52 rfl) rfl)
theorem w_Mod_times_301 : ∀ w ∈ [Cond.methodLink "YearFractionsModel" 50 ⟨"YearFractionsModel", "goes", "(ZZZZ)Z"⟩, Cond.instanceMethod ⟨"YearFractionsModel", "goes", "(ZZZZ)Z"⟩, Cond.selects "YearFractionsModel" ⟨"YearFractionsModel", "goes", "(ZZZZ)Z"⟩ ⟨"YearFractionsModel", "goes", "(ZZZZ)Z"⟩, Cond.initialized "YearFractionsModel"], w ∈ yW := (yAll (yW_m (lm_3 95 rfl) rfl) (yAll (yW_m (lm_3 97 rfl) rfl) (yAll (yW_m (lm_0 7 rfl) rfl) (yAll (yW_m (lm_1 5 rfl) rfl) yNil))))
theorem w_Mod_times_308 : Cond.fieldLink "YearFractionsModel" 39 "YearFractionsModel" "rows" "I" ∈ yW := (yW_m (lm_3 48 rfl) rfl)
theorem w_Mod_rest_2 : Cond.fieldLink "YearFractionsModel" 35 "YearFractionsModel" "thrown" "I" ∈ yW := (yW_m (lm_3 47 rfl) rfl)
theorem w_Mod_rest_6 : Cond.fieldLink "YearFractionsModel" 85 "YearFractionsModel" "rests" "J" ∈ yW := (yW_m (lm_3 52 rfl) rfl)
theorem w_Mod_compared_8 : Cond.fieldLink "YearFractionsModel" 16 "YearFractionsModel" "digits" "[I" ∈ yW := (yW_m (lm_3 51 rfl) rfl)
theorem w_Mod_compared_16 : Cond.fieldLink "YearFractionsModel" 16 "YearFractionsModel" "digits" "[I" ∈ yW := (yW_m (lm_3 51 rfl) rfl)
theorem w_Mod_compared_27 : Cond.fieldLink "YearFractionsModel" 16 "YearFractionsModel" "digits" "[I" ∈ yW := (yW_m (lm_3 51 rfl) rfl)
theorem w_Mod_compared_35 : Cond.fieldLink "YearFractionsModel" 16 "YearFractionsModel" "digits" "[I" ∈ yW := (yW_m (lm_3 51 rfl) rfl)
theorem w_Mod_sumUp_1 : ∀ w ∈ [Cond.methodLink "YearFractionsModel" 68 ⟨"YearFractionsModel", "blank", "()V"⟩, Cond.instanceMethod ⟨"YearFractionsModel", "blank", "()V"⟩, Cond.selects "YearFractionsModel" ⟨"YearFractionsModel", "blank", "()V"⟩ ⟨"YearFractionsModel", "blank", "()V"⟩, Cond.initialized "YearFractionsModel"], w ∈ yW := (yAll (yW_m (lm_3 124 rfl) rfl) (yAll (yW_m (lm_3 126 rfl) rfl) (yAll (yW_m (lm_0 12 rfl) rfl) (yAll (yW_m (lm_1 5 rfl) rfl) yNil))))
theorem w_Mod_sumUp_8 : Cond.fieldLink "YearFractionsModel" 13 "YearFractionsModel" "sizes" "[I" ∈ yW := (yW_m (lm_3 50 rfl) rfl)
theorem w_Mod_sumUp_21 : Cond.fieldLink "YearFractionsModel" 31 "YearFractionsModel" "chosen" "[Z" ∈ yW := (yW_m (lm_3 58 rfl) rfl)
theorem w_Mod_sumUp_32 : Cond.fieldLink "YearFractionsModel" 7 "YearFractionsModel" "firsts" "[I" ∈ yW := (yW_m (lm_3 49 rfl) rfl)
theorem w_Mod_sumUp_39 : ∀ w ∈ [Cond.methodLink "YearFractionsModel" 71 ⟨"YearFractionsModel", "plus", "(II)V"⟩, Cond.instanceMethod ⟨"YearFractionsModel", "plus", "(II)V"⟩, Cond.selects "YearFractionsModel" ⟨"YearFractionsModel", "plus", "(II)V"⟩ ⟨"YearFractionsModel", "plus", "(II)V"⟩, Cond.initialized "YearFractionsModel"], w ∈ yW := (yAll (yW_m (lm_3 128 rfl) rfl) (yAll (yW_m (lm_3 130 rfl) rfl) (yAll (yW_m (lm_0 13 rfl) rfl) (yAll (yW_m (lm_1 5 rfl) rfl) yNil))))
theorem w_Mod_grow_13 : Cond.fieldLink "YearFractionsModel" 25 "YearFractionsModel" "wide" "[I" ∈ yW := (yW_m (lm_3 56 rfl) rfl)
theorem w_Mod_grow_28 : Cond.fieldLink "YearFractionsModel" 25 "YearFractionsModel" "wide" "[I" ∈ yW := (yW_m (lm_3 56 rfl) rfl)
theorem w_Mod_grow_35 : Cond.constantLong "YearFractionsModel" 62 10 ∈ yW := (yW_m (lm_3 115 rfl) rfl)
theorem w_Mod_grow_43 : Cond.constantLong "YearFractionsModel" 62 10 ∈ yW := (yW_m (lm_3 115 rfl) rfl)
theorem w_Mod_enough_3 : ∀ w ∈ [Cond.methodLink "YearFractionsModel" 89 ⟨"YearFractionsModel", "sumUp", "(IZ)V"⟩, Cond.instanceMethod ⟨"YearFractionsModel", "sumUp", "(IZ)V"⟩, Cond.selects "YearFractionsModel" ⟨"YearFractionsModel", "sumUp", "(IZ)V"⟩ ⟨"YearFractionsModel", "sumUp", "(IZ)V"⟩, Cond.initialized "YearFractionsModel"], w ∈ yW := (yAll (yW_m (lm_3 166 rfl) rfl) (yAll (yW_m (lm_3 168 rfl) rfl) (yAll (yW_m (lm_0 19 rfl) rfl) (yAll (yW_m (lm_1 5 rfl) rfl) yNil))))
theorem w_Mod_enough_8 : ∀ w ∈ [Cond.methodLink "YearFractionsModel" 93 ⟨"YearFractionsModel", "grow", "(I)V"⟩, Cond.instanceMethod ⟨"YearFractionsModel", "grow", "(I)V"⟩, Cond.selects "YearFractionsModel" ⟨"YearFractionsModel", "grow", "(I)V"⟩ ⟨"YearFractionsModel", "grow", "(I)V"⟩, Cond.initialized "YearFractionsModel"], w ∈ yW := (yAll (yW_m (lm_3 170 rfl) rfl) (yAll (yW_m (lm_3 172 rfl) rfl) (yAll (yW_m (lm_0 20 rfl) rfl) (yAll (yW_m (lm_1 5 rfl) rfl) yNil))))
theorem w_Mod_enough_22 : Cond.fieldLink "YearFractionsModel" 28 "YearFractionsModel" "other" "[I" ∈ yW := (yW_m (lm_3 57 rfl) rfl)
theorem w_Mod_enough_28 : Cond.fieldLink "YearFractionsModel" 25 "YearFractionsModel" "wide" "[I" ∈ yW := (yW_m (lm_3 56 rfl) rfl)
theorem w_Mod_enough_44 : ∀ w ∈ [Cond.methodLink "YearFractionsModel" 89 ⟨"YearFractionsModel", "sumUp", "(IZ)V"⟩, Cond.instanceMethod ⟨"YearFractionsModel", "sumUp", "(IZ)V"⟩, Cond.selects "YearFractionsModel" ⟨"YearFractionsModel", "sumUp", "(IZ)V"⟩ ⟨"YearFractionsModel", "sumUp", "(IZ)V"⟩, Cond.initialized "YearFractionsModel"], w ∈ yW := (yAll (yW_m (lm_3 166 rfl) rfl) (yAll (yW_m (lm_3 168 rfl) rfl) (yAll (yW_m (lm_0 19 rfl) rfl) (yAll (yW_m (lm_1 5 rfl) rfl) yNil))))
theorem w_Mod_enough_49 : ∀ w ∈ [Cond.methodLink "YearFractionsModel" 93 ⟨"YearFractionsModel", "grow", "(I)V"⟩, Cond.instanceMethod ⟨"YearFractionsModel", "grow", "(I)V"⟩, Cond.selects "YearFractionsModel" ⟨"YearFractionsModel", "grow", "(I)V"⟩ ⟨"YearFractionsModel", "grow", "(I)V"⟩, Cond.initialized "YearFractionsModel"], w ∈ yW := (yAll (yW_m (lm_3 170 rfl) rfl) (yAll (yW_m (lm_3 172 rfl) rfl) (yAll (yW_m (lm_0 20 rfl) rfl) (yAll (yW_m (lm_1 5 rfl) rfl) yNil))))
theorem w_Mod_enough_62 : Cond.fieldLink "YearFractionsModel" 25 "YearFractionsModel" "wide" "[I" ∈ yW := (yW_m (lm_3 56 rfl) rfl)
theorem w_Mod_enough_69 : Cond.fieldLink "YearFractionsModel" 28 "YearFractionsModel" "other" "[I" ∈ yW := (yW_m (lm_3 57 rfl) rfl)
theorem w_Mod_enough_79 : Cond.fieldLink "YearFractionsModel" 25 "YearFractionsModel" "wide" "[I" ∈ yW := (yW_m (lm_3 56 rfl) rfl)
theorem w_Mod_enough_86 : Cond.fieldLink "YearFractionsModel" 28 "YearFractionsModel" "other" "[I" ∈ yW := (yW_m (lm_3 57 rfl) rfl)
theorem w_Mod_isNothing_8 : Cond.fieldLink "YearFractionsModel" 13 "YearFractionsModel" "sizes" "[I" ∈ yW := (yW_m (lm_3 50 rfl) rfl)
theorem w_Mod_isNothing_22 : Cond.fieldLink "YearFractionsModel" 16 "YearFractionsModel" "digits" "[I" ∈ yW := (yW_m (lm_3 51 rfl) rfl)
theorem w_Mod_least_3 : ∀ w ∈ [Cond.methodLink "YearFractionsModel" 42 ⟨"YearFractionsModel", "isRow", "(I)Z"⟩, Cond.instanceMethod ⟨"YearFractionsModel", "isRow", "(I)Z"⟩, Cond.selects "YearFractionsModel" ⟨"YearFractionsModel", "isRow", "(I)Z"⟩ ⟨"YearFractionsModel", "isRow", "(I)Z"⟩, Cond.initialized "YearFractionsModel"], w ∈ yW := (yAll (yW_m (lm_3 111 rfl) rfl) (yAll (yW_m (lm_3 113 rfl) rfl) (yAll (yW_m (lm_0 10 rfl) rfl) (yAll (yW_m (lm_1 5 rfl) rfl) yNil))))
theorem w_Mod_least_8 : Cond.constant "YearFractionsModel" 97 1000000 ∈ yW := (yW_m (lm_3 157 rfl) rfl)
theorem w_Mod_least_10 : ∀ w ∈ [Cond.methodLink "YearFractionsModel" 46 ⟨"YearFractionsModel", "within", "(III)Z"⟩, Cond.static ⟨"YearFractionsModel", "within", "(III)Z"⟩, Cond.initialized "YearFractionsModel"], w ∈ yW := (yAll (yW_m (lm_3 92 rfl) rfl) (yAll (yW_m (lm_3 93 rfl) rfl) (yAll (yW_m (lm_1 5 rfl) rfl) yNil)))
theorem w_Mod_least_32 : ∀ w ∈ [Cond.methodLink "YearFractionsModel" 42 ⟨"YearFractionsModel", "isRow", "(I)Z"⟩, Cond.instanceMethod ⟨"YearFractionsModel", "isRow", "(I)Z"⟩, Cond.selects "YearFractionsModel" ⟨"YearFractionsModel", "isRow", "(I)Z"⟩ ⟨"YearFractionsModel", "isRow", "(I)Z"⟩, Cond.initialized "YearFractionsModel"], w ∈ yW := (yAll (yW_m (lm_3 111 rfl) rfl) (yAll (yW_m (lm_3 113 rfl) rfl) (yAll (yW_m (lm_0 10 rfl) rfl) (yAll (yW_m (lm_1 5 rfl) rfl) yNil))))
theorem w_Mod_least_40 : ∀ w ∈ [Cond.methodLink "YearFractionsModel" 98 ⟨"YearFractionsModel", "isNothing", "(I)Z"⟩, Cond.instanceMethod ⟨"YearFractionsModel", "isNothing", "(I)Z"⟩, Cond.selects "YearFractionsModel" ⟨"YearFractionsModel", "isNothing", "(I)Z"⟩ ⟨"YearFractionsModel", "isNothing", "(I)Z"⟩, Cond.initialized "YearFractionsModel"], w ∈ yW := (yAll (yW_m (lm_3 158 rfl) rfl) (yAll (yW_m (lm_3 160 rfl) rfl) (yAll (yW_m (lm_0 17 rfl) rfl) (yAll (yW_m (lm_1 5 rfl) rfl) yNil))))
theorem w_Mod_least_52 : ∀ w ∈ [Cond.methodLink "YearFractionsModel" 50 ⟨"YearFractionsModel", "goes", "(ZZZZ)Z"⟩, Cond.instanceMethod ⟨"YearFractionsModel", "goes", "(ZZZZ)Z"⟩, Cond.selects "YearFractionsModel" ⟨"YearFractionsModel", "goes", "(ZZZZ)Z"⟩ ⟨"YearFractionsModel", "goes", "(ZZZZ)Z"⟩, Cond.initialized "YearFractionsModel"], w ∈ yW := (yAll (yW_m (lm_3 95 rfl) rfl) (yAll (yW_m (lm_3 97 rfl) rfl) (yAll (yW_m (lm_0 7 rfl) rfl) (yAll (yW_m (lm_1 5 rfl) rfl) yNil))))
theorem w_Mod_least_71 : Cond.fieldLink "YearFractionsModel" 31 "YearFractionsModel" "chosen" "[Z" ∈ yW := (yW_m (lm_3 58 rfl) rfl)
theorem w_Mod_least_88 : ∀ w ∈ [Cond.methodLink "YearFractionsModel" 101 ⟨"YearFractionsModel", "enough", "(III)Z"⟩, Cond.instanceMethod ⟨"YearFractionsModel", "enough", "(III)Z"⟩, Cond.selects "YearFractionsModel" ⟨"YearFractionsModel", "enough", "(III)Z"⟩ ⟨"YearFractionsModel", "enough", "(III)Z"⟩, Cond.initialized "YearFractionsModel"], w ∈ yW := (yAll (yW_m (lm_3 162 rfl) rfl) (yAll (yW_m (lm_3 164 rfl) rfl) (yAll (yW_m (lm_0 18 rfl) rfl) (yAll (yW_m (lm_1 5 rfl) rfl) yNil))))
theorem w_Mod_least_103 : Cond.fieldLink "YearFractionsModel" 13 "YearFractionsModel" "sizes" "[I" ∈ yW := (yW_m (lm_3 50 rfl) rfl)
theorem w_Mod_least_112 : Cond.fieldLink "YearFractionsModel" 31 "YearFractionsModel" "chosen" "[Z" ∈ yW := (yW_m (lm_3 58 rfl) rfl)
theorem w_Mod_least_148 : ∀ w ∈ [Cond.methodLink "YearFractionsModel" 104 ⟨"YearFractionsModel", "compared", "(II)I"⟩, Cond.instanceMethod ⟨"YearFractionsModel", "compared", "(II)I"⟩, Cond.selects "YearFractionsModel" ⟨"YearFractionsModel", "compared", "(II)I"⟩ ⟨"YearFractionsModel", "compared", "(II)I"⟩, Cond.initialized "YearFractionsModel"], w ∈ yW := (yAll (yW_m (lm_3 174 rfl) rfl) (yAll (yW_m (lm_3 176 rfl) rfl) (yAll (yW_m (lm_0 21 rfl) rfl) (yAll (yW_m (lm_1 5 rfl) rfl) yNil))))
theorem w_Mod_least_182 : Cond.fieldLink "YearFractionsModel" 31 "YearFractionsModel" "chosen" "[Z" ∈ yW := (yW_m (lm_3 58 rfl) rfl)
theorem w_Mod_least_194 : Cond.fieldLink "YearFractionsModel" 107 "YearFractionsModel" "spans" "I" ∈ yW := (yW_m (lm_3 53 rfl) rfl)
theorem w_Mod_least_203 : Cond.fieldLink "YearFractionsModel" 13 "YearFractionsModel" "sizes" "[I" ∈ yW := (yW_m (lm_3 50 rfl) rfl)
theorem w_Mod_least_212 : Cond.fieldLink "YearFractionsModel" 31 "YearFractionsModel" "chosen" "[Z" ∈ yW := (yW_m (lm_3 58 rfl) rfl)
theorem w_Mod_least_227 : Cond.fieldLink "YearFractionsModel" 31 "YearFractionsModel" "chosen" "[Z" ∈ yW := (yW_m (lm_3 58 rfl) rfl)
theorem w_Mod_least_239 : Cond.fieldLink "YearFractionsModel" 19 "YearFractionsModel" "starts" "[I" ∈ yW := (yW_m (lm_3 54 rfl) rfl)
theorem w_Mod_least_243 : Cond.fieldLink "YearFractionsModel" 107 "YearFractionsModel" "spans" "I" ∈ yW := (yW_m (lm_3 53 rfl) rfl)
theorem w_Mod_least_247 : Cond.fieldLink "YearFractionsModel" 7 "YearFractionsModel" "firsts" "[I" ∈ yW := (yW_m (lm_3 49 rfl) rfl)
theorem w_Mod_least_258 : Cond.fieldLink "YearFractionsModel" 107 "YearFractionsModel" "spans" "I" ∈ yW := (yW_m (lm_3 53 rfl) rfl)
theorem w_Mod_least_263 : Cond.fieldLink "YearFractionsModel" 107 "YearFractionsModel" "spans" "I" ∈ yW := (yW_m (lm_3 53 rfl) rfl)
theorem w_Mod_least_267 : Cond.fieldLink "YearFractionsModel" 31 "YearFractionsModel" "chosen" "[Z" ∈ yW := (yW_m (lm_3 58 rfl) rfl)
theorem w_Mod_least_277 : Cond.fieldLink "YearFractionsModel" 22 "YearFractionsModel" "ends" "[I" ∈ yW := (yW_m (lm_3 55 rfl) rfl)
theorem w_Mod_least_281 : Cond.fieldLink "YearFractionsModel" 107 "YearFractionsModel" "spans" "I" ∈ yW := (yW_m (lm_3 53 rfl) rfl)
theorem w_Mod_least_287 : Cond.fieldLink "YearFractionsModel" 7 "YearFractionsModel" "firsts" "[I" ∈ yW := (yW_m (lm_3 49 rfl) rfl)
theorem w_Mod_least_303 : Cond.fieldLink "YearFractionsModel" 107 "YearFractionsModel" "spans" "I" ∈ yW := (yW_m (lm_3 53 rfl) rfl)
theorem w_Mod_span_7 : Cond.fieldLink "YearFractionsModel" 107 "YearFractionsModel" "spans" "I" ∈ yW := (yW_m (lm_3 53 rfl) rfl)
theorem w_Mod_span_30 : ∀ w ∈ [Cond.methodLink "YearFractionsModel" 50 ⟨"YearFractionsModel", "goes", "(ZZZZ)Z"⟩, Cond.instanceMethod ⟨"YearFractionsModel", "goes", "(ZZZZ)Z"⟩, Cond.selects "YearFractionsModel" ⟨"YearFractionsModel", "goes", "(ZZZZ)Z"⟩ ⟨"YearFractionsModel", "goes", "(ZZZZ)Z"⟩, Cond.initialized "YearFractionsModel"], w ∈ yW := (yAll (yW_m (lm_3 95 rfl) rfl) (yAll (yW_m (lm_3 97 rfl) rfl) (yAll (yW_m (lm_0 7 rfl) rfl) (yAll (yW_m (lm_1 5 rfl) rfl) yNil))))
theorem w_Mod_span_43 : Cond.fieldLink "YearFractionsModel" 19 "YearFractionsModel" "starts" "[I" ∈ yW := (yW_m (lm_3 54 rfl) rfl)
theorem w_Mod_span_52 : Cond.fieldLink "YearFractionsModel" 22 "YearFractionsModel" "ends" "[I" ∈ yW := (yW_m (lm_3 55 rfl) rfl)
theorem w_Mod_digit_4 : ∀ w ∈ [Cond.methodLink "YearFractionsModel" 58 ⟨"YearFractionsModel", "has", "(II)Z"⟩, Cond.instanceMethod ⟨"YearFractionsModel", "has", "(II)Z"⟩, Cond.selects "YearFractionsModel" ⟨"YearFractionsModel", "has", "(II)Z"⟩ ⟨"YearFractionsModel", "has", "(II)Z"⟩, Cond.initialized "YearFractionsModel"], w ∈ yW := (yAll (yW_m (lm_3 107 rfl) rfl) (yAll (yW_m (lm_3 109 rfl) rfl) (yAll (yW_m (lm_0 9 rfl) rfl) (yAll (yW_m (lm_1 5 rfl) rfl) yNil))))
theorem w_Mod_digit_14 : ∀ w ∈ [Cond.methodLink "YearFractionsModel" 46 ⟨"YearFractionsModel", "within", "(III)Z"⟩, Cond.static ⟨"YearFractionsModel", "within", "(III)Z"⟩, Cond.initialized "YearFractionsModel"], w ∈ yW := (yAll (yW_m (lm_3 92 rfl) rfl) (yAll (yW_m (lm_3 93 rfl) rfl) (yAll (yW_m (lm_1 5 rfl) rfl) yNil)))
theorem w_Mod_digit_28 : ∀ w ∈ [Cond.methodLink "YearFractionsModel" 50 ⟨"YearFractionsModel", "goes", "(ZZZZ)Z"⟩, Cond.instanceMethod ⟨"YearFractionsModel", "goes", "(ZZZZ)Z"⟩, Cond.selects "YearFractionsModel" ⟨"YearFractionsModel", "goes", "(ZZZZ)Z"⟩ ⟨"YearFractionsModel", "goes", "(ZZZZ)Z"⟩, Cond.initialized "YearFractionsModel"], w ∈ yW := (yAll (yW_m (lm_3 95 rfl) rfl) (yAll (yW_m (lm_3 97 rfl) rfl) (yAll (yW_m (lm_0 7 rfl) rfl) (yAll (yW_m (lm_1 5 rfl) rfl) yNil))))
theorem w_Mod_digit_35 : Cond.fieldLink "YearFractionsModel" 16 "YearFractionsModel" "digits" "[I" ∈ yW := (yW_m (lm_3 51 rfl) rfl)
theorem w_Mod_digit_41 : ∀ w ∈ [Cond.methodLink "YearFractionsModel" 64 ⟨"YearFractionsModel", "at", "(II)I"⟩, Cond.instanceMethod ⟨"YearFractionsModel", "at", "(II)I"⟩, Cond.selects "YearFractionsModel" ⟨"YearFractionsModel", "at", "(II)I"⟩ ⟨"YearFractionsModel", "at", "(II)I"⟩, Cond.initialized "YearFractionsModel"], w ∈ yW := (yAll (yW_m (lm_3 116 rfl) rfl) (yAll (yW_m (lm_3 118 rfl) rfl) (yAll (yW_m (lm_0 11 rfl) rfl) (yAll (yW_m (lm_1 5 rfl) rfl) yNil))))
theorem w_Mod_total_3 : ∀ w ∈ [Cond.methodLink "YearFractionsModel" 42 ⟨"YearFractionsModel", "isRow", "(I)Z"⟩, Cond.instanceMethod ⟨"YearFractionsModel", "isRow", "(I)Z"⟩, Cond.selects "YearFractionsModel" ⟨"YearFractionsModel", "isRow", "(I)Z"⟩ ⟨"YearFractionsModel", "isRow", "(I)Z"⟩, Cond.initialized "YearFractionsModel"], w ∈ yW := (yAll (yW_m (lm_3 111 rfl) rfl) (yAll (yW_m (lm_3 113 rfl) rfl) (yAll (yW_m (lm_0 10 rfl) rfl) (yAll (yW_m (lm_1 5 rfl) rfl) yNil))))
theorem w_Mod_total_13 : ∀ w ∈ [Cond.methodLink "YearFractionsModel" 46 ⟨"YearFractionsModel", "within", "(III)Z"⟩, Cond.static ⟨"YearFractionsModel", "within", "(III)Z"⟩, Cond.initialized "YearFractionsModel"], w ∈ yW := (yAll (yW_m (lm_3 92 rfl) rfl) (yAll (yW_m (lm_3 93 rfl) rfl) (yAll (yW_m (lm_1 5 rfl) rfl) yNil)))
theorem w_Mod_total_27 : ∀ w ∈ [Cond.methodLink "YearFractionsModel" 50 ⟨"YearFractionsModel", "goes", "(ZZZZ)Z"⟩, Cond.instanceMethod ⟨"YearFractionsModel", "goes", "(ZZZZ)Z"⟩, Cond.selects "YearFractionsModel" ⟨"YearFractionsModel", "goes", "(ZZZZ)Z"⟩ ⟨"YearFractionsModel", "goes", "(ZZZZ)Z"⟩, Cond.initialized "YearFractionsModel"], w ∈ yW := (yAll (yW_m (lm_3 95 rfl) rfl) (yAll (yW_m (lm_3 97 rfl) rfl) (yAll (yW_m (lm_0 7 rfl) rfl) (yAll (yW_m (lm_1 5 rfl) rfl) yNil))))
theorem w_Mod_total_38 : ∀ w ∈ [Cond.methodLink "YearFractionsModel" 89 ⟨"YearFractionsModel", "sumUp", "(IZ)V"⟩, Cond.instanceMethod ⟨"YearFractionsModel", "sumUp", "(IZ)V"⟩, Cond.selects "YearFractionsModel" ⟨"YearFractionsModel", "sumUp", "(IZ)V"⟩ ⟨"YearFractionsModel", "sumUp", "(IZ)V"⟩, Cond.initialized "YearFractionsModel"], w ∈ yW := (yAll (yW_m (lm_3 166 rfl) rfl) (yAll (yW_m (lm_3 168 rfl) rfl) (yAll (yW_m (lm_0 19 rfl) rfl) (yAll (yW_m (lm_1 5 rfl) rfl) yNil))))
theorem w_Mod_total_42 : Cond.fieldLink "YearFractionsModel" 25 "YearFractionsModel" "wide" "[I" ∈ yW := (yW_m (lm_3 56 rfl) rfl)
theorem w_Mod_compare_4 : ∀ w ∈ [Cond.methodLink "YearFractionsModel" 58 ⟨"YearFractionsModel", "has", "(II)Z"⟩, Cond.instanceMethod ⟨"YearFractionsModel", "has", "(II)Z"⟩, Cond.selects "YearFractionsModel" ⟨"YearFractionsModel", "has", "(II)Z"⟩ ⟨"YearFractionsModel", "has", "(II)Z"⟩, Cond.initialized "YearFractionsModel"], w ∈ yW := (yAll (yW_m (lm_3 107 rfl) rfl) (yAll (yW_m (lm_3 109 rfl) rfl) (yAll (yW_m (lm_0 9 rfl) rfl) (yAll (yW_m (lm_1 5 rfl) rfl) yNil))))
theorem w_Mod_compare_14 : ∀ w ∈ [Cond.methodLink "YearFractionsModel" 58 ⟨"YearFractionsModel", "has", "(II)Z"⟩, Cond.instanceMethod ⟨"YearFractionsModel", "has", "(II)Z"⟩, Cond.selects "YearFractionsModel" ⟨"YearFractionsModel", "has", "(II)Z"⟩ ⟨"YearFractionsModel", "has", "(II)Z"⟩, Cond.initialized "YearFractionsModel"], w ∈ yW := (yAll (yW_m (lm_3 107 rfl) rfl) (yAll (yW_m (lm_3 109 rfl) rfl) (yAll (yW_m (lm_0 9 rfl) rfl) (yAll (yW_m (lm_1 5 rfl) rfl) yNil))))
theorem w_Mod_compare_28 : ∀ w ∈ [Cond.methodLink "YearFractionsModel" 50 ⟨"YearFractionsModel", "goes", "(ZZZZ)Z"⟩, Cond.instanceMethod ⟨"YearFractionsModel", "goes", "(ZZZZ)Z"⟩, Cond.selects "YearFractionsModel" ⟨"YearFractionsModel", "goes", "(ZZZZ)Z"⟩ ⟨"YearFractionsModel", "goes", "(ZZZZ)Z"⟩, Cond.initialized "YearFractionsModel"], w ∈ yW := (yAll (yW_m (lm_3 95 rfl) rfl) (yAll (yW_m (lm_3 97 rfl) rfl) (yAll (yW_m (lm_0 7 rfl) rfl) (yAll (yW_m (lm_1 5 rfl) rfl) yNil))))
theorem w_Mod_compare_38 : ∀ w ∈ [Cond.methodLink "YearFractionsModel" 64 ⟨"YearFractionsModel", "at", "(II)I"⟩, Cond.instanceMethod ⟨"YearFractionsModel", "at", "(II)I"⟩, Cond.selects "YearFractionsModel" ⟨"YearFractionsModel", "at", "(II)I"⟩ ⟨"YearFractionsModel", "at", "(II)I"⟩, Cond.initialized "YearFractionsModel"], w ∈ yW := (yAll (yW_m (lm_3 116 rfl) rfl) (yAll (yW_m (lm_3 118 rfl) rfl) (yAll (yW_m (lm_0 11 rfl) rfl) (yAll (yW_m (lm_1 5 rfl) rfl) yNil))))
theorem w_Mod_compare_45 : ∀ w ∈ [Cond.methodLink "YearFractionsModel" 64 ⟨"YearFractionsModel", "at", "(II)I"⟩, Cond.instanceMethod ⟨"YearFractionsModel", "at", "(II)I"⟩, Cond.selects "YearFractionsModel" ⟨"YearFractionsModel", "at", "(II)I"⟩ ⟨"YearFractionsModel", "at", "(II)I"⟩, Cond.initialized "YearFractionsModel"], w ∈ yW := (yAll (yW_m (lm_3 116 rfl) rfl) (yAll (yW_m (lm_3 118 rfl) rfl) (yAll (yW_m (lm_0 11 rfl) rfl) (yAll (yW_m (lm_1 5 rfl) rfl) yNil))))
theorem w_Mod_compare_48 : ∀ w ∈ [Cond.methodLink "YearFractionsModel" 104 ⟨"YearFractionsModel", "compared", "(II)I"⟩, Cond.instanceMethod ⟨"YearFractionsModel", "compared", "(II)I"⟩, Cond.selects "YearFractionsModel" ⟨"YearFractionsModel", "compared", "(II)I"⟩ ⟨"YearFractionsModel", "compared", "(II)I"⟩, Cond.initialized "YearFractionsModel"], w ∈ yW := (yAll (yW_m (lm_3 174 rfl) rfl) (yAll (yW_m (lm_3 176 rfl) rfl) (yAll (yW_m (lm_0 21 rfl) rfl) (yAll (yW_m (lm_1 5 rfl) rfl) yNil))))
theorem w_Mod_about_3 : ∀ w ∈ [Cond.methodLink "YearFractionsModel" 42 ⟨"YearFractionsModel", "isRow", "(I)Z"⟩, Cond.instanceMethod ⟨"YearFractionsModel", "isRow", "(I)Z"⟩, Cond.selects "YearFractionsModel" ⟨"YearFractionsModel", "isRow", "(I)Z"⟩ ⟨"YearFractionsModel", "isRow", "(I)Z"⟩, Cond.initialized "YearFractionsModel"], w ∈ yW := (yAll (yW_m (lm_3 111 rfl) rfl) (yAll (yW_m (lm_3 113 rfl) rfl) (yAll (yW_m (lm_0 10 rfl) rfl) (yAll (yW_m (lm_1 5 rfl) rfl) yNil))))
theorem w_Mod_about_9 : ∀ w ∈ [Cond.methodLink "YearFractionsModel" 46 ⟨"YearFractionsModel", "within", "(III)Z"⟩, Cond.static ⟨"YearFractionsModel", "within", "(III)Z"⟩, Cond.initialized "YearFractionsModel"], w ∈ yW := (yAll (yW_m (lm_3 92 rfl) rfl) (yAll (yW_m (lm_3 93 rfl) rfl) (yAll (yW_m (lm_1 5 rfl) rfl) yNil)))
theorem w_Mod_about_14 : ∀ w ∈ [Cond.methodLink "YearFractionsModel" 50 ⟨"YearFractionsModel", "goes", "(ZZZZ)Z"⟩, Cond.instanceMethod ⟨"YearFractionsModel", "goes", "(ZZZZ)Z"⟩, Cond.selects "YearFractionsModel" ⟨"YearFractionsModel", "goes", "(ZZZZ)Z"⟩ ⟨"YearFractionsModel", "goes", "(ZZZZ)Z"⟩, Cond.initialized "YearFractionsModel"], w ∈ yW := (yAll (yW_m (lm_3 95 rfl) rfl) (yAll (yW_m (lm_3 97 rfl) rfl) (yAll (yW_m (lm_0 7 rfl) rfl) (yAll (yW_m (lm_1 5 rfl) rfl) yNil))))
theorem w_Mod_about_30 : Cond.fieldLink "YearFractionsModel" 13 "YearFractionsModel" "sizes" "[I" ∈ yW := (yW_m (lm_3 50 rfl) rfl)
theorem w_Mod_about_57 : Cond.fieldLink "YearFractionsModel" 16 "YearFractionsModel" "digits" "[I" ∈ yW := (yW_m (lm_3 51 rfl) rfl)
theorem w_Mod_about_114 : Cond.fieldLink "YearFractionsModel" 7 "YearFractionsModel" "firsts" "[I" ∈ yW := (yW_m (lm_3 49 rfl) rfl)
theorem w_Mod_about_128 : Cond.fieldLink "YearFractionsModel" 7 "YearFractionsModel" "firsts" "[I" ∈ yW := (yW_m (lm_3 49 rfl) rfl)
theorem w_Mod_about_134 : Cond.fieldLink "YearFractionsModel" 13 "YearFractionsModel" "sizes" "[I" ∈ yW := (yW_m (lm_3 50 rfl) rfl)
theorem w_Mod_over_15 : ∀ w ∈ [Cond.methodLink "YearFractionsModel" 50 ⟨"YearFractionsModel", "goes", "(ZZZZ)Z"⟩, Cond.instanceMethod ⟨"YearFractionsModel", "goes", "(ZZZZ)Z"⟩, Cond.selects "YearFractionsModel" ⟨"YearFractionsModel", "goes", "(ZZZZ)Z"⟩ ⟨"YearFractionsModel", "goes", "(ZZZZ)Z"⟩, Cond.initialized "YearFractionsModel"], w ∈ yW := (yAll (yW_m (lm_3 95 rfl) rfl) (yAll (yW_m (lm_3 97 rfl) rfl) (yAll (yW_m (lm_0 7 rfl) rfl) (yAll (yW_m (lm_1 5 rfl) rfl) yNil))))
theorem w_Mod_written_2 : Cond.fieldLink "YearFractionsModel" 35 "YearFractionsModel" "thrown" "I" ∈ yW := (yW_m (lm_3 47 rfl) rfl)
theorem w_Mod_isLeap_7 : ∀ w ∈ [Cond.methodLink "YearFractionsModel" 110 ⟨"YearFractionsModel", "rest", "(II)I"⟩, Cond.static ⟨"YearFractionsModel", "rest", "(II)I"⟩, Cond.initialized "YearFractionsModel"], w ∈ yW := (yAll (yW_m (lm_3 219 rfl) rfl) (yAll (yW_m (lm_3 220 rfl) rfl) (yAll (yW_m (lm_1 5 rfl) rfl) yNil)))
theorem w_Mod_isLeap_21 : ∀ w ∈ [Cond.methodLink "YearFractionsModel" 110 ⟨"YearFractionsModel", "rest", "(II)I"⟩, Cond.static ⟨"YearFractionsModel", "rest", "(II)I"⟩, Cond.initialized "YearFractionsModel"], w ∈ yW := (yAll (yW_m (lm_3 219 rfl) rfl) (yAll (yW_m (lm_3 220 rfl) rfl) (yAll (yW_m (lm_1 5 rfl) rfl) yNil)))
theorem w_Mod_isLeap_31 : ∀ w ∈ [Cond.methodLink "YearFractionsModel" 110 ⟨"YearFractionsModel", "rest", "(II)I"⟩, Cond.static ⟨"YearFractionsModel", "rest", "(II)I"⟩, Cond.initialized "YearFractionsModel"], w ∈ yW := (yAll (yW_m (lm_3 219 rfl) rfl) (yAll (yW_m (lm_3 220 rfl) rfl) (yAll (yW_m (lm_1 5 rfl) rfl) yNil)))
theorem w_Mod_isLeap_46 : ∀ w ∈ [Cond.methodLink "YearFractionsModel" 110 ⟨"YearFractionsModel", "rest", "(II)I"⟩, Cond.static ⟨"YearFractionsModel", "rest", "(II)I"⟩, Cond.initialized "YearFractionsModel"], w ∈ yW := (yAll (yW_m (lm_3 219 rfl) rfl) (yAll (yW_m (lm_3 220 rfl) rfl) (yAll (yW_m (lm_1 5 rfl) rfl) yNil)))
theorem w_Mod_yearDays_16 : ∀ w ∈ [Cond.methodLink "YearFractionsModel" 113 ⟨"YearFractionsModel", "isLeap", "(II)Z"⟩, Cond.static ⟨"YearFractionsModel", "isLeap", "(II)Z"⟩, Cond.initialized "YearFractionsModel"], w ∈ yW := (yAll (yW_m (lm_3 216 rfl) rfl) (yAll (yW_m (lm_3 217 rfl) rfl) (yAll (yW_m (lm_1 5 rfl) rfl) yNil)))
theorem w_Mod_monthDays_31 : ∀ w ∈ [Cond.methodLink "YearFractionsModel" 113 ⟨"YearFractionsModel", "isLeap", "(II)Z"⟩, Cond.static ⟨"YearFractionsModel", "isLeap", "(II)Z"⟩, Cond.initialized "YearFractionsModel"], w ∈ yW := (yAll (yW_m (lm_3 216 rfl) rfl) (yAll (yW_m (lm_3 217 rfl) rfl) (yAll (yW_m (lm_1 5 rfl) rfl) yNil)))
theorem w_Mod_monthDays_64 : ∀ w ∈ [Cond.methodLink "YearFractionsModel" 113 ⟨"YearFractionsModel", "isLeap", "(II)Z"⟩, Cond.static ⟨"YearFractionsModel", "isLeap", "(II)Z"⟩, Cond.initialized "YearFractionsModel"], w ∈ yW := (yAll (yW_m (lm_3 216 rfl) rfl) (yAll (yW_m (lm_3 217 rfl) rfl) (yAll (yW_m (lm_1 5 rfl) rfl) yNil)))
theorem w_Mod_cycleDays_6 : ∀ w ∈ [Cond.methodLink "YearFractionsModel" 116 ⟨"YearFractionsModel", "cycle", "(I)I"⟩, Cond.static ⟨"YearFractionsModel", "cycle", "(I)I"⟩, Cond.initialized "YearFractionsModel"], w ∈ yW := (yAll (yW_m (lm_3 231 rfl) rfl) (yAll (yW_m (lm_3 232 rfl) rfl) (yAll (yW_m (lm_1 5 rfl) rfl) yNil)))
theorem w_Mod_cycleDays_15 : ∀ w ∈ [Cond.methodLink "YearFractionsModel" 120 ⟨"YearFractionsModel", "yearDays", "(II)I"⟩, Cond.static ⟨"YearFractionsModel", "yearDays", "(II)I"⟩, Cond.initialized "YearFractionsModel"], w ∈ yW := (yAll (yW_m (lm_3 237 rfl) rfl) (yAll (yW_m (lm_3 238 rfl) rfl) (yAll (yW_m (lm_1 5 rfl) rfl) yNil)))
theorem w_Mod_origin_23 : ∀ w ∈ [Cond.methodLink "YearFractionsModel" 123 ⟨"YearFractionsModel", "firstOf", "(II)I"⟩, Cond.static ⟨"YearFractionsModel", "firstOf", "(II)I"⟩, Cond.initialized "YearFractionsModel"], w ∈ yW := (yAll (yW_m (lm_3 225 rfl) rfl) (yAll (yW_m (lm_3 226 rfl) rfl) (yAll (yW_m (lm_1 5 rfl) rfl) yNil)))
theorem w_Mod_origin_37 : ∀ w ∈ [Cond.methodLink "YearFractionsModel" 123 ⟨"YearFractionsModel", "firstOf", "(II)I"⟩, Cond.static ⟨"YearFractionsModel", "firstOf", "(II)I"⟩, Cond.initialized "YearFractionsModel"], w ∈ yW := (yAll (yW_m (lm_3 225 rfl) rfl) (yAll (yW_m (lm_3 226 rfl) rfl) (yAll (yW_m (lm_1 5 rfl) rfl) yNil)))
theorem w_Mod_behind_11 : ∀ w ∈ [Cond.methodLink "YearFractionsModel" 116 ⟨"YearFractionsModel", "cycle", "(I)I"⟩, Cond.static ⟨"YearFractionsModel", "cycle", "(I)I"⟩, Cond.initialized "YearFractionsModel"], w ∈ yW := (yAll (yW_m (lm_3 231 rfl) rfl) (yAll (yW_m (lm_3 232 rfl) rfl) (yAll (yW_m (lm_1 5 rfl) rfl) yNil)))
theorem w_Mod_behind_24 : ∀ w ∈ [Cond.methodLink "YearFractionsModel" 116 ⟨"YearFractionsModel", "cycle", "(I)I"⟩, Cond.static ⟨"YearFractionsModel", "cycle", "(I)I"⟩, Cond.initialized "YearFractionsModel"], w ∈ yW := (yAll (yW_m (lm_3 231 rfl) rfl) (yAll (yW_m (lm_3 232 rfl) rfl) (yAll (yW_m (lm_1 5 rfl) rfl) yNil)))
theorem w_Mod_behind_32 : ∀ w ∈ [Cond.methodLink "YearFractionsModel" 116 ⟨"YearFractionsModel", "cycle", "(I)I"⟩, Cond.static ⟨"YearFractionsModel", "cycle", "(I)I"⟩, Cond.initialized "YearFractionsModel"], w ∈ yW := (yAll (yW_m (lm_3 231 rfl) rfl) (yAll (yW_m (lm_3 232 rfl) rfl) (yAll (yW_m (lm_1 5 rfl) rfl) yNil)))
theorem w_Mod_behind_45 : ∀ w ∈ [Cond.methodLink "YearFractionsModel" 126 ⟨"YearFractionsModel", "cycleDays", "(I)I"⟩, Cond.static ⟨"YearFractionsModel", "cycleDays", "(I)I"⟩, Cond.initialized "YearFractionsModel"], w ∈ yW := (yAll (yW_m (lm_3 234 rfl) rfl) (yAll (yW_m (lm_3 235 rfl) rfl) (yAll (yW_m (lm_1 5 rfl) rfl) yNil)))
theorem w_Mod_behind_65 : ∀ w ∈ [Cond.methodLink "YearFractionsModel" 120 ⟨"YearFractionsModel", "yearDays", "(II)I"⟩, Cond.static ⟨"YearFractionsModel", "yearDays", "(II)I"⟩, Cond.initialized "YearFractionsModel"], w ∈ yW := (yAll (yW_m (lm_3 237 rfl) rfl) (yAll (yW_m (lm_3 238 rfl) rfl) (yAll (yW_m (lm_1 5 rfl) rfl) yNil)))
theorem w_Mod_firstOf_7 : ∀ w ∈ [Cond.methodLink "YearFractionsModel" 129 ⟨"YearFractionsModel", "behind", "(II)I"⟩, Cond.static ⟨"YearFractionsModel", "behind", "(II)I"⟩, Cond.initialized "YearFractionsModel"], w ∈ yW := (yAll (yW_m (lm_3 228 rfl) rfl) (yAll (yW_m (lm_3 229 rfl) rfl) (yAll (yW_m (lm_1 5 rfl) rfl) yNil)))
theorem w_Mod_firstOf_17 : ∀ w ∈ [Cond.methodLink "YearFractionsModel" 129 ⟨"YearFractionsModel", "behind", "(II)I"⟩, Cond.static ⟨"YearFractionsModel", "behind", "(II)I"⟩, Cond.initialized "YearFractionsModel"], w ∈ yW := (yAll (yW_m (lm_3 228 rfl) rfl) (yAll (yW_m (lm_3 229 rfl) rfl) (yAll (yW_m (lm_1 5 rfl) rfl) yNil)))
theorem w_Mod_day_3 : ∀ w ∈ [Cond.methodLink "YearFractionsModel" 46 ⟨"YearFractionsModel", "within", "(III)Z"⟩, Cond.static ⟨"YearFractionsModel", "within", "(III)Z"⟩, Cond.initialized "YearFractionsModel"], w ∈ yW := (yAll (yW_m (lm_3 92 rfl) rfl) (yAll (yW_m (lm_3 93 rfl) rfl) (yAll (yW_m (lm_1 5 rfl) rfl) yNil)))
theorem w_Mod_day_20 : ∀ w ∈ [Cond.methodLink "YearFractionsModel" 46 ⟨"YearFractionsModel", "within", "(III)Z"⟩, Cond.static ⟨"YearFractionsModel", "within", "(III)Z"⟩, Cond.initialized "YearFractionsModel"], w ∈ yW := (yAll (yW_m (lm_3 92 rfl) rfl) (yAll (yW_m (lm_3 93 rfl) rfl) (yAll (yW_m (lm_1 5 rfl) rfl) yNil)))
theorem w_Mod_day_33 : ∀ w ∈ [Cond.methodLink "YearFractionsModel" 132 ⟨"YearFractionsModel", "months", "(I)I"⟩, Cond.static ⟨"YearFractionsModel", "months", "(I)I"⟩, Cond.initialized "YearFractionsModel"], w ∈ yW := (yAll (yW_m (lm_3 210 rfl) rfl) (yAll (yW_m (lm_3 211 rfl) rfl) (yAll (yW_m (lm_1 5 rfl) rfl) yNil)))
theorem w_Mod_day_50 : ∀ w ∈ [Cond.methodLink "YearFractionsModel" 135 ⟨"YearFractionsModel", "monthDays", "(III)I"⟩, Cond.static ⟨"YearFractionsModel", "monthDays", "(III)I"⟩, Cond.initialized "YearFractionsModel"], w ∈ yW := (yAll (yW_m (lm_3 213 rfl) rfl) (yAll (yW_m (lm_3 214 rfl) rfl) (yAll (yW_m (lm_1 5 rfl) rfl) yNil)))
theorem w_Mod_day_70 : ∀ w ∈ [Cond.methodLink "YearFractionsModel" 50 ⟨"YearFractionsModel", "goes", "(ZZZZ)Z"⟩, Cond.instanceMethod ⟨"YearFractionsModel", "goes", "(ZZZZ)Z"⟩, Cond.selects "YearFractionsModel" ⟨"YearFractionsModel", "goes", "(ZZZZ)Z"⟩ ⟨"YearFractionsModel", "goes", "(ZZZZ)Z"⟩, Cond.initialized "YearFractionsModel"], w ∈ yW := (yAll (yW_m (lm_3 95 rfl) rfl) (yAll (yW_m (lm_3 97 rfl) rfl) (yAll (yW_m (lm_0 7 rfl) rfl) (yAll (yW_m (lm_1 5 rfl) rfl) yNil))))
theorem w_Mod_day_79 : ∀ w ∈ [Cond.methodLink "YearFractionsModel" 139 ⟨"YearFractionsModel", "origin", "(I)I"⟩, Cond.static ⟨"YearFractionsModel", "origin", "(I)I"⟩, Cond.initialized "YearFractionsModel"], w ∈ yW := (yAll (yW_m (lm_3 222 rfl) rfl) (yAll (yW_m (lm_3 223 rfl) rfl) (yAll (yW_m (lm_1 5 rfl) rfl) yNil)))
theorem w_Mod_day_84 : ∀ w ∈ [Cond.methodLink "YearFractionsModel" 129 ⟨"YearFractionsModel", "behind", "(II)I"⟩, Cond.static ⟨"YearFractionsModel", "behind", "(II)I"⟩, Cond.initialized "YearFractionsModel"], w ∈ yW := (yAll (yW_m (lm_3 228 rfl) rfl) (yAll (yW_m (lm_3 229 rfl) rfl) (yAll (yW_m (lm_1 5 rfl) rfl) yNil)))
theorem w_Mod_day_110 : ∀ w ∈ [Cond.methodLink "YearFractionsModel" 135 ⟨"YearFractionsModel", "monthDays", "(III)I"⟩, Cond.static ⟨"YearFractionsModel", "monthDays", "(III)I"⟩, Cond.initialized "YearFractionsModel"], w ∈ yW := (yAll (yW_m (lm_3 213 rfl) rfl) (yAll (yW_m (lm_3 214 rfl) rfl) (yAll (yW_m (lm_1 5 rfl) rfl) yNil)))
theorem w_Mod_date_4 : ∀ w ∈ [Cond.methodLink "YearFractionsModel" 46 ⟨"YearFractionsModel", "within", "(III)Z"⟩, Cond.static ⟨"YearFractionsModel", "within", "(III)Z"⟩, Cond.initialized "YearFractionsModel"], w ∈ yW := (yAll (yW_m (lm_3 92 rfl) rfl) (yAll (yW_m (lm_3 93 rfl) rfl) (yAll (yW_m (lm_1 5 rfl) rfl) yNil)))
theorem w_Mod_date_10 : ∀ w ∈ [Cond.methodLink "YearFractionsModel" 46 ⟨"YearFractionsModel", "within", "(III)Z"⟩, Cond.static ⟨"YearFractionsModel", "within", "(III)Z"⟩, Cond.initialized "YearFractionsModel"], w ∈ yW := (yAll (yW_m (lm_3 92 rfl) rfl) (yAll (yW_m (lm_3 93 rfl) rfl) (yAll (yW_m (lm_1 5 rfl) rfl) yNil)))
theorem w_Mod_date_17 : Cond.constant "YearFractionsModel" 142 (-4000000) ∈ yW := (yW_m (lm_4 4 rfl) rfl)
theorem w_Mod_date_19 : Cond.constant "YearFractionsModel" 143 4000000 ∈ yW := (yW_m (lm_4 5 rfl) rfl)
theorem w_Mod_date_21 : ∀ w ∈ [Cond.methodLink "YearFractionsModel" 46 ⟨"YearFractionsModel", "within", "(III)Z"⟩, Cond.static ⟨"YearFractionsModel", "within", "(III)Z"⟩, Cond.initialized "YearFractionsModel"], w ∈ yW := (yAll (yW_m (lm_3 92 rfl) rfl) (yAll (yW_m (lm_3 93 rfl) rfl) (yAll (yW_m (lm_1 5 rfl) rfl) yNil)))
theorem w_Mod_date_34 : ∀ w ∈ [Cond.methodLink "YearFractionsModel" 50 ⟨"YearFractionsModel", "goes", "(ZZZZ)Z"⟩, Cond.instanceMethod ⟨"YearFractionsModel", "goes", "(ZZZZ)Z"⟩, Cond.selects "YearFractionsModel" ⟨"YearFractionsModel", "goes", "(ZZZZ)Z"⟩ ⟨"YearFractionsModel", "goes", "(ZZZZ)Z"⟩, Cond.initialized "YearFractionsModel"], w ∈ yW := (yAll (yW_m (lm_3 95 rfl) rfl) (yAll (yW_m (lm_3 97 rfl) rfl) (yAll (yW_m (lm_0 7 rfl) rfl) (yAll (yW_m (lm_1 5 rfl) rfl) yNil))))
theorem w_Mod_date_44 : ∀ w ∈ [Cond.methodLink "YearFractionsModel" 139 ⟨"YearFractionsModel", "origin", "(I)I"⟩, Cond.static ⟨"YearFractionsModel", "origin", "(I)I"⟩, Cond.initialized "YearFractionsModel"], w ∈ yW := (yAll (yW_m (lm_3 222 rfl) rfl) (yAll (yW_m (lm_3 223 rfl) rfl) (yAll (yW_m (lm_1 5 rfl) rfl) yNil)))
theorem w_Mod_date_54 : ∀ w ∈ [Cond.methodLink "YearFractionsModel" 126 ⟨"YearFractionsModel", "cycleDays", "(I)I"⟩, Cond.static ⟨"YearFractionsModel", "cycleDays", "(I)I"⟩, Cond.initialized "YearFractionsModel"], w ∈ yW := (yAll (yW_m (lm_3 234 rfl) rfl) (yAll (yW_m (lm_3 235 rfl) rfl) (yAll (yW_m (lm_1 5 rfl) rfl) yNil)))
theorem w_Mod_date_74 : ∀ w ∈ [Cond.methodLink "YearFractionsModel" 116 ⟨"YearFractionsModel", "cycle", "(I)I"⟩, Cond.static ⟨"YearFractionsModel", "cycle", "(I)I"⟩, Cond.initialized "YearFractionsModel"], w ∈ yW := (yAll (yW_m (lm_3 231 rfl) rfl) (yAll (yW_m (lm_3 232 rfl) rfl) (yAll (yW_m (lm_1 5 rfl) rfl) yNil)))
theorem w_Mod_date_100 : ∀ w ∈ [Cond.methodLink "YearFractionsModel" 116 ⟨"YearFractionsModel", "cycle", "(I)I"⟩, Cond.static ⟨"YearFractionsModel", "cycle", "(I)I"⟩, Cond.initialized "YearFractionsModel"], w ∈ yW := (yAll (yW_m (lm_3 231 rfl) rfl) (yAll (yW_m (lm_3 232 rfl) rfl) (yAll (yW_m (lm_1 5 rfl) rfl) yNil)))
theorem w_Mod_date_114 : ∀ w ∈ [Cond.methodLink "YearFractionsModel" 120 ⟨"YearFractionsModel", "yearDays", "(II)I"⟩, Cond.static ⟨"YearFractionsModel", "yearDays", "(II)I"⟩, Cond.initialized "YearFractionsModel"], w ∈ yW := (yAll (yW_m (lm_3 237 rfl) rfl) (yAll (yW_m (lm_3 238 rfl) rfl) (yAll (yW_m (lm_1 5 rfl) rfl) yNil)))
theorem w_Mod_date_125 : ∀ w ∈ [Cond.methodLink "YearFractionsModel" 120 ⟨"YearFractionsModel", "yearDays", "(II)I"⟩, Cond.static ⟨"YearFractionsModel", "yearDays", "(II)I"⟩, Cond.initialized "YearFractionsModel"], w ∈ yW := (yAll (yW_m (lm_3 237 rfl) rfl) (yAll (yW_m (lm_3 238 rfl) rfl) (yAll (yW_m (lm_1 5 rfl) rfl) yNil)))
theorem w_Mod_date_147 : ∀ w ∈ [Cond.methodLink "YearFractionsModel" 135 ⟨"YearFractionsModel", "monthDays", "(III)I"⟩, Cond.static ⟨"YearFractionsModel", "monthDays", "(III)I"⟩, Cond.initialized "YearFractionsModel"], w ∈ yW := (yAll (yW_m (lm_3 213 rfl) rfl) (yAll (yW_m (lm_3 214 rfl) rfl) (yAll (yW_m (lm_1 5 rfl) rfl) yNil)))
theorem w_Mod_date_160 : ∀ w ∈ [Cond.methodLink "YearFractionsModel" 135 ⟨"YearFractionsModel", "monthDays", "(III)I"⟩, Cond.static ⟨"YearFractionsModel", "monthDays", "(III)I"⟩, Cond.initialized "YearFractionsModel"], w ∈ yW := (yAll (yW_m (lm_3 213 rfl) rfl) (yAll (yW_m (lm_3 214 rfl) rfl) (yAll (yW_m (lm_1 5 rfl) rfl) yNil)))
theorem w_Mod_clear_2 : Cond.fieldLink "YearFractionsModel" 35 "YearFractionsModel" "thrown" "I" ∈ yW := (yW_m (lm_3 47 rfl) rfl)
theorem w_Mod_clear_6 : Cond.fieldLink "YearFractionsModel" 39 "YearFractionsModel" "rows" "I" ∈ yW := (yW_m (lm_3 48 rfl) rfl)
theorem w_Mod_clear_12 : Cond.fieldLink "YearFractionsModel" 39 "YearFractionsModel" "rows" "I" ∈ yW := (yW_m (lm_3 48 rfl) rfl)
theorem w_Mod_clear_17 : Cond.fieldLink "YearFractionsModel" 107 "YearFractionsModel" "spans" "I" ∈ yW := (yW_m (lm_3 53 rfl) rfl)
theorem w_Mod_clear_22 : Cond.fieldLink "YearFractionsModel" 85 "YearFractionsModel" "rests" "J" ∈ yW := (yW_m (lm_3 52 rfl) rfl)
end
section
theorem w_Row_init_1 : ∀ w ∈ [Cond.methodLink "YearFractions$Row" 3 ⟨"java/lang/Object", "<init>", "()V"⟩, Cond.instanceMethod ⟨"java/lang/Object", "<init>", "()V"⟩], w ∈ yW := (yAll (yW_m (lm_1 29 rfl) rfl) (yAll (yW_m (lm_1 21 rfl) rfl) yNil))
theorem w_Row_init_10 : Cond.fieldLink "YearFractions$Row" 11 "YearFractions$Row" "parts" "[J" ∈ yW := (yW_m (lm_1 36 rfl) rfl)
theorem w_Row_open_2 : Cond.fieldLink "YearFractions$Row" 17 "YearFractions$Row" "first" "I" ∈ yW := (yW_m (lm_1 30 rfl) rfl)
theorem w_Row_open_7 : Cond.fieldLink "YearFractions$Row" 21 "YearFractions$Row" "many" "I" ∈ yW := (yW_m (lm_1 34 rfl) rfl)
theorem w_Row_open_14 : Cond.fieldLink "YearFractions$Row" 11 "YearFractions$Row" "parts" "[J" ∈ yW := (yW_m (lm_1 36 rfl) rfl)
theorem w_Row_open_22 : Cond.fieldLink "YearFractions$Row" 11 "YearFractions$Row" "parts" "[J" ∈ yW := (yW_m (lm_1 36 rfl) rfl)
theorem w_Row_last_1 : Cond.fieldLink "YearFractions$Row" 17 "YearFractions$Row" "first" "I" ∈ yW := (yW_m (lm_1 30 rfl) rfl)
theorem w_Row_last_5 : Cond.fieldLink "YearFractions$Row" 21 "YearFractions$Row" "many" "I" ∈ yW := (yW_m (lm_1 34 rfl) rfl)
theorem w_Row_has_2 : Cond.fieldLink "YearFractions$Row" 17 "YearFractions$Row" "first" "I" ∈ yW := (yW_m (lm_1 30 rfl) rfl)
theorem w_Row_has_10 : ∀ w ∈ [Cond.methodLink "YearFractions$Row" 24 ⟨"YearFractions$Row", "last", "()I"⟩, Cond.instanceMethod ⟨"YearFractions$Row", "last", "()I"⟩, Cond.selects "YearFractions$Row" ⟨"YearFractions$Row", "last", "()I"⟩ ⟨"YearFractions$Row", "last", "()I"⟩, Cond.initialized "YearFractions$Row"], w ∈ yW := (yAll (yW_m (lm_2 20 rfl) rfl) (yAll (yW_m (lm_2 21 rfl) rfl) (yAll (yW_m (lm_2 22 rfl) rfl) (yAll (yW_m (lm_1 2 rfl) rfl) yNil))))
theorem w_Row_read_2 : ∀ w ∈ [Cond.methodLink "YearFractions$Row" 28 ⟨"YearFractions$Whole", "become", "(J)V"⟩, Cond.instanceMethod ⟨"YearFractions$Whole", "become", "(J)V"⟩, Cond.selects "YearFractions$Whole" ⟨"YearFractions$Whole", "become", "(J)V"⟩ ⟨"YearFractions$Whole", "become", "(J)V"⟩, Cond.initialized "YearFractions$Whole"], w ∈ yW := (yAll (yW_m (lm_2 30 rfl) rfl) (yAll (yW_m (lm_2 31 rfl) rfl) (yAll (yW_m (lm_2 32 rfl) rfl) (yAll (yW_m (lm_1 4 rfl) rfl) yNil))))
theorem w_Row_read_7 : ∀ w ∈ [Cond.methodLink "YearFractions$Row" 32 ⟨"YearFractions$Row", "has", "(I)Z"⟩, Cond.instanceMethod ⟨"YearFractions$Row", "has", "(I)Z"⟩, Cond.selects "YearFractions$Row" ⟨"YearFractions$Row", "has", "(I)Z"⟩ ⟨"YearFractions$Row", "has", "(I)Z"⟩, Cond.initialized "YearFractions$Row"], w ∈ yW := (yAll (yW_m (lm_2 35 rfl) rfl) (yAll (yW_m (lm_2 17 rfl) rfl) (yAll (yW_m (lm_2 18 rfl) rfl) (yAll (yW_m (lm_1 2 rfl) rfl) yNil))))
theorem w_Row_read_15 : Cond.fieldLink "YearFractions$Row" 17 "YearFractions$Row" "first" "I" ∈ yW := (yW_m (lm_1 30 rfl) rfl)
theorem w_Row_read_32 : Cond.fieldLinkNest "YearFractions$Row" 36 "YearFractions$Whole" "parts" "[J" "YearFractions" ∈ yNs := yNs_m (lm_1 79 rfl) rfl
theorem w_Row_read_38 : Cond.fieldLink "YearFractions$Row" 11 "YearFractions$Row" "parts" "[J" ∈ yW := (yW_m (lm_1 36 rfl) rfl)
theorem w_Row_write_2 : ∀ w ∈ [Cond.methodLink "YearFractions$Row" 32 ⟨"YearFractions$Row", "has", "(I)Z"⟩, Cond.instanceMethod ⟨"YearFractions$Row", "has", "(I)Z"⟩, Cond.selects "YearFractions$Row" ⟨"YearFractions$Row", "has", "(I)Z"⟩ ⟨"YearFractions$Row", "has", "(I)Z"⟩, Cond.initialized "YearFractions$Row"], w ∈ yW := (yAll (yW_m (lm_2 35 rfl) rfl) (yAll (yW_m (lm_2 17 rfl) rfl) (yAll (yW_m (lm_2 18 rfl) rfl) (yAll (yW_m (lm_1 2 rfl) rfl) yNil))))
theorem w_Row_write_10 : Cond.fieldLink "YearFractions$Row" 17 "YearFractions$Row" "first" "I" ∈ yW := (yW_m (lm_1 30 rfl) rfl)
theorem w_Row_write_27 : Cond.fieldLink "YearFractions$Row" 11 "YearFractions$Row" "parts" "[J" ∈ yW := (yW_m (lm_1 36 rfl) rfl)
theorem w_Row_write_35 : Cond.fieldLinkNest "YearFractions$Row" 36 "YearFractions$Whole" "parts" "[J" "YearFractions" ∈ yNs := yNs_m (lm_1 79 rfl) rfl
theorem w_Row_isLess_7 : Cond.fieldLink "YearFractions$Row" 11 "YearFractions$Row" "parts" "[J" ∈ yW := (yW_m (lm_1 36 rfl) rfl)
theorem w_Row_isLess_19 : Cond.fieldLink "YearFractions$Row" 11 "YearFractions$Row" "parts" "[J" ∈ yW := (yW_m (lm_1 36 rfl) rfl)
end
section
theorem w_Set_init_1 : ∀ w ∈ [Cond.methodLink "YearFractions$LeastSet" 3 ⟨"java/lang/Object", "<init>", "()V"⟩, Cond.instanceMethod ⟨"java/lang/Object", "<init>", "()V"⟩], w ∈ yW := (yAll (yW_m (lm_1 50 rfl) rfl) (yAll (yW_m (lm_1 21 rfl) rfl) yNil))
theorem w_Set_init_9 : Cond.fieldLink "YearFractions$LeastSet" 9 "YearFractions$LeastSet" "ranked" "[I" ∈ yW := (yW_m (lm_1 51 rfl) rfl)
theorem w_Set_init_17 : Cond.fieldLink "YearFractions$LeastSet" 15 "YearFractions$LeastSet" "taken" "[Z" ∈ yW := (yW_m (lm_1 52 rfl) rfl)
theorem w_Set_init_25 : Cond.fieldLink "YearFractions$LeastSet" 19 "YearFractions$LeastSet" "firsts" "[I" ∈ yW := (yW_m (lm_1 55 rfl) rfl)
theorem w_Set_init_33 : Cond.fieldLink "YearFractions$LeastSet" 22 "YearFractions$LeastSet" "lasts" "[I" ∈ yW := (yW_m (lm_1 57 rfl) rfl)
theorem w_Set_rank_4 : Cond.fieldLinkNest "YearFractions$LeastSet" 25 "YearFractions$Row" "many" "I" "YearFractions" ∈ yNs := yNs_m (lm_1 33 rfl) rfl
theorem w_Set_rank_11 : Cond.fieldLink "YearFractions$LeastSet" 15 "YearFractions$LeastSet" "taken" "[Z" ∈ yW := (yW_m (lm_1 52 rfl) rfl)
theorem w_Set_rank_25 : Cond.fieldLink "YearFractions$LeastSet" 9 "YearFractions$LeastSet" "ranked" "[I" ∈ yW := (yW_m (lm_1 51 rfl) rfl)
theorem w_Set_rank_33 : ∀ w ∈ [Cond.methodLink "YearFractions$LeastSet" 31 ⟨"YearFractions$Row", "isLess", "(II)Z"⟩, Cond.instanceMethod ⟨"YearFractions$Row", "isLess", "(II)Z"⟩, Cond.selects "YearFractions$Row" ⟨"YearFractions$Row", "isLess", "(II)Z"⟩ ⟨"YearFractions$Row", "isLess", "(II)Z"⟩, Cond.initialized "YearFractions$Row"], w ∈ yW := (yAll (yW_m (lm_2 137 rfl) rfl) (yAll (yW_m (lm_2 138 rfl) rfl) (yAll (yW_m (lm_2 139 rfl) rfl) (yAll (yW_m (lm_1 2 rfl) rfl) yNil))))
theorem w_Set_rank_40 : Cond.fieldLink "YearFractions$LeastSet" 9 "YearFractions$LeastSet" "ranked" "[I" ∈ yW := (yW_m (lm_1 51 rfl) rfl)
theorem w_Set_rank_45 : Cond.fieldLink "YearFractions$LeastSet" 9 "YearFractions$LeastSet" "ranked" "[I" ∈ yW := (yW_m (lm_1 51 rfl) rfl)
theorem w_Set_rank_60 : Cond.fieldLink "YearFractions$LeastSet" 9 "YearFractions$LeastSet" "ranked" "[I" ∈ yW := (yW_m (lm_1 51 rfl) rfl)
theorem w_Set_take_1 : Cond.fieldLink "YearFractions$LeastSet" 9 "YearFractions$LeastSet" "ranked" "[I" ∈ yW := (yW_m (lm_1 51 rfl) rfl)
theorem w_Set_take_8 : Cond.fieldLink "YearFractions$LeastSet" 15 "YearFractions$LeastSet" "taken" "[Z" ∈ yW := (yW_m (lm_1 52 rfl) rfl)
theorem w_Set_take_15 : Cond.fieldLinkNest "YearFractions$LeastSet" 35 "YearFractions$Row" "first" "I" "YearFractions" ∈ yNs := yNs_m (lm_1 31 rfl) rfl
theorem w_Set_findSpans_2 : Cond.fieldLink "YearFractions$LeastSet" 38 "YearFractions$LeastSet" "spans" "I" ∈ yW := (yW_m (lm_1 53 rfl) rfl)
theorem w_Set_findSpans_11 : Cond.fieldLinkNest "YearFractions$LeastSet" 25 "YearFractions$Row" "many" "I" "YearFractions" ∈ yNs := yNs_m (lm_1 33 rfl) rfl
theorem w_Set_findSpans_18 : Cond.fieldLink "YearFractions$LeastSet" 15 "YearFractions$LeastSet" "taken" "[Z" ∈ yW := (yW_m (lm_1 52 rfl) rfl)
theorem w_Set_findSpans_31 : Cond.fieldLink "YearFractions$LeastSet" 19 "YearFractions$LeastSet" "firsts" "[I" ∈ yW := (yW_m (lm_1 55 rfl) rfl)
theorem w_Set_findSpans_35 : Cond.fieldLink "YearFractions$LeastSet" 38 "YearFractions$LeastSet" "spans" "I" ∈ yW := (yW_m (lm_1 53 rfl) rfl)
theorem w_Set_findSpans_39 : Cond.fieldLinkNest "YearFractions$LeastSet" 35 "YearFractions$Row" "first" "I" "YearFractions" ∈ yNs := yNs_m (lm_1 31 rfl) rfl
theorem w_Set_findSpans_47 : Cond.fieldLink "YearFractions$LeastSet" 38 "YearFractions$LeastSet" "spans" "I" ∈ yW := (yW_m (lm_1 53 rfl) rfl)
theorem w_Set_findSpans_52 : Cond.fieldLink "YearFractions$LeastSet" 38 "YearFractions$LeastSet" "spans" "I" ∈ yW := (yW_m (lm_1 53 rfl) rfl)
theorem w_Set_findSpans_56 : Cond.fieldLink "YearFractions$LeastSet" 22 "YearFractions$LeastSet" "lasts" "[I" ∈ yW := (yW_m (lm_1 57 rfl) rfl)
theorem w_Set_findSpans_60 : Cond.fieldLink "YearFractions$LeastSet" 38 "YearFractions$LeastSet" "spans" "I" ∈ yW := (yW_m (lm_1 53 rfl) rfl)
theorem w_Set_findSpans_66 : Cond.fieldLinkNest "YearFractions$LeastSet" 35 "YearFractions$Row" "first" "I" "YearFractions" ∈ yNs := yNs_m (lm_1 31 rfl) rfl
theorem w_Set_findSpans_73 : Cond.fieldLink "YearFractions$LeastSet" 15 "YearFractions$LeastSet" "taken" "[Z" ∈ yW := (yW_m (lm_1 52 rfl) rfl)
end
section
theorem w_Who_init_1 : ∀ w ∈ [Cond.methodLink "YearFractions$Whole" 1 ⟨"java/lang/Object", "<init>", "()V"⟩, Cond.instanceMethod ⟨"java/lang/Object", "<init>", "()V"⟩], w ∈ yW := (yAll (yW_m (lm_1 77 rfl) rfl) (yAll (yW_m (lm_1 21 rfl) rfl) yNil))
theorem w_Who_init_9 : Cond.fieldLink "YearFractions$Whole" 9 "YearFractions$Whole" "parts" "[J" ∈ yW := (yW_m (lm_1 78 rfl) rfl)
theorem w_Who_become_13 : Cond.fieldLink "YearFractions$Whole" 9 "YearFractions$Whole" "parts" "[J" ∈ yW := (yW_m (lm_1 78 rfl) rfl)
theorem w_Who_become_19 : Cond.constantLong "YearFractions$Whole" 13 1000000000 ∈ yW := (yW_m (lm_2 34 rfl) rfl)
theorem w_Who_become_25 : Cond.constantLong "YearFractions$Whole" 13 1000000000 ∈ yW := (yW_m (lm_2 34 rfl) rfl)
theorem w_Who_increase_13 : Cond.fieldLink "YearFractions$Whole" 9 "YearFractions$Whole" "parts" "[J" ∈ yW := (yW_m (lm_1 78 rfl) rfl)
theorem w_Who_increase_20 : Cond.fieldLink "YearFractions$Whole" 9 "YearFractions$Whole" "parts" "[J" ∈ yW := (yW_m (lm_1 78 rfl) rfl)
theorem w_Who_increase_32 : Cond.fieldLink "YearFractions$Whole" 9 "YearFractions$Whole" "parts" "[J" ∈ yW := (yW_m (lm_1 78 rfl) rfl)
theorem w_Who_increase_39 : Cond.constantLong "YearFractions$Whole" 13 1000000000 ∈ yW := (yW_m (lm_2 34 rfl) rfl)
theorem w_Who_increase_46 : Cond.constantLong "YearFractions$Whole" 13 1000000000 ∈ yW := (yW_m (lm_2 34 rfl) rfl)
theorem w_Who_becomeScaled_14 : Cond.fieldLink "YearFractions$Whole" 9 "YearFractions$Whole" "parts" "[J" ∈ yW := (yW_m (lm_1 78 rfl) rfl)
theorem w_Who_becomeScaled_28 : Cond.fieldLink "YearFractions$Whole" 9 "YearFractions$Whole" "parts" "[J" ∈ yW := (yW_m (lm_1 78 rfl) rfl)
theorem w_Who_becomeScaled_35 : Cond.constantLong "YearFractions$Whole" 13 1000000000 ∈ yW := (yW_m (lm_2 34 rfl) rfl)
theorem w_Who_becomeScaled_42 : Cond.constantLong "YearFractions$Whole" 13 1000000000 ∈ yW := (yW_m (lm_2 34 rfl) rfl)
theorem w_Who_becomeProduct_2 : ∀ w ∈ [Cond.methodLink "YearFractions$Whole" 15 ⟨"YearFractions$Whole", "become", "(J)V"⟩, Cond.instanceMethod ⟨"YearFractions$Whole", "become", "(J)V"⟩, Cond.selects "YearFractions$Whole" ⟨"YearFractions$Whole", "become", "(J)V"⟩ ⟨"YearFractions$Whole", "become", "(J)V"⟩, Cond.initialized "YearFractions$Whole"], w ∈ yW := (yAll (yW_m (lm_2 102 rfl) rfl) (yAll (yW_m (lm_2 31 rfl) rfl) (yAll (yW_m (lm_2 32 rfl) rfl) (yAll (yW_m (lm_1 4 rfl) rfl) yNil))))
theorem w_Who_becomeProduct_25 : Cond.fieldLink "YearFractions$Whole" 9 "YearFractions$Whole" "parts" "[J" ∈ yW := (yW_m (lm_1 78 rfl) rfl)
theorem w_Who_becomeProduct_31 : Cond.fieldLink "YearFractions$Whole" 9 "YearFractions$Whole" "parts" "[J" ∈ yW := (yW_m (lm_1 78 rfl) rfl)
theorem w_Who_becomeProduct_39 : Cond.fieldLink "YearFractions$Whole" 9 "YearFractions$Whole" "parts" "[J" ∈ yW := (yW_m (lm_1 78 rfl) rfl)
theorem w_Who_becomeProduct_54 : Cond.fieldLink "YearFractions$Whole" 9 "YearFractions$Whole" "parts" "[J" ∈ yW := (yW_m (lm_1 78 rfl) rfl)
theorem w_Who_becomeProduct_63 : Cond.constantLong "YearFractions$Whole" 13 1000000000 ∈ yW := (yW_m (lm_2 34 rfl) rfl)
theorem w_Who_becomeProduct_70 : Cond.constantLong "YearFractions$Whole" 13 1000000000 ∈ yW := (yW_m (lm_2 34 rfl) rfl)
theorem w_Who_becomeProduct_83 : Cond.fieldLink "YearFractions$Whole" 9 "YearFractions$Whole" "parts" "[J" ∈ yW := (yW_m (lm_1 78 rfl) rfl)
theorem w_Who_divide_12 : Cond.constantLong "YearFractions$Whole" 13 1000000000 ∈ yW := (yW_m (lm_2 34 rfl) rfl)
theorem w_Who_divide_17 : Cond.fieldLink "YearFractions$Whole" 9 "YearFractions$Whole" "parts" "[J" ∈ yW := (yW_m (lm_1 78 rfl) rfl)
theorem w_Who_divide_27 : Cond.fieldLink "YearFractions$Whole" 9 "YearFractions$Whole" "parts" "[J" ∈ yW := (yW_m (lm_1 78 rfl) rfl)
theorem w_Who_order_8 : Cond.fieldLink "YearFractions$Whole" 9 "YearFractions$Whole" "parts" "[J" ∈ yW := (yW_m (lm_1 78 rfl) rfl)
theorem w_Who_order_14 : Cond.fieldLink "YearFractions$Whole" 9 "YearFractions$Whole" "parts" "[J" ∈ yW := (yW_m (lm_1 78 rfl) rfl)
theorem w_Who_order_24 : Cond.fieldLink "YearFractions$Whole" 9 "YearFractions$Whole" "parts" "[J" ∈ yW := (yW_m (lm_1 78 rfl) rfl)
theorem w_Who_order_30 : Cond.fieldLink "YearFractions$Whole" 9 "YearFractions$Whole" "parts" "[J" ∈ yW := (yW_m (lm_1 78 rfl) rfl)
theorem w_Who_isZero_9 : Cond.fieldLink "YearFractions$Whole" 9 "YearFractions$Whole" "parts" "[J" ∈ yW := (yW_m (lm_1 78 rfl) rfl)
theorem w_Who_isWeight_9 : Cond.fieldLink "YearFractions$Whole" 9 "YearFractions$Whole" "parts" "[J" ∈ yW := (yW_m (lm_1 78 rfl) rfl)
theorem w_Who_digitAt_1 : Cond.fieldLink "YearFractions$Whole" 9 "YearFractions$Whole" "parts" "[J" ∈ yW := (yW_m (lm_1 78 rfl) rfl)
theorem w_Who_digitAt_22 : Cond.constantLong "YearFractions$Whole" 19 10 ∈ yW := (yW_m (lm_2 173 rfl) rfl)
theorem w_Who_digitAt_34 : Cond.constantLong "YearFractions$Whole" 19 10 ∈ yW := (yW_m (lm_2 173 rfl) rfl)
end
section
theorem w_Yf_init_1 : ∀ w ∈ [Cond.methodLink "YearFractions" 1 ⟨"java/lang/Object", "<init>", "()V"⟩, Cond.instanceMethod ⟨"java/lang/Object", "<init>", "()V"⟩], w ∈ yW := (yAll (yW_m (lm_1 20 rfl) rfl) (yAll (yW_m (lm_1 21 rfl) rfl) yNil))
theorem w_Yf_init_7 : Cond.classLink "YearFractions" 9 "YearFractions$Row" ∈ yW := (yW_m (lm_1 23 rfl) rfl)
theorem w_Yf_init_10 : Cond.fieldLink "YearFractions" 11 "YearFractions" "rows" "[LYearFractions$Row;" ∈ yW := (yW_m (lm_1 83 rfl) rfl)
theorem w_Yf_init_22 : Cond.fieldLink "YearFractions" 11 "YearFractions" "rows" "[LYearFractions$Row;" ∈ yW := (yW_m (lm_1 83 rfl) rfl)
theorem w_Yf_init_26 : ∀ w ∈ [Cond.classLink "YearFractions" 9 "YearFractions$Row", Cond.instantiable "YearFractions$Row" 3, Cond.initialized "YearFractions$Row"], w ∈ yW := (yAll (yW_m (lm_1 23 rfl) rfl) (yAll (yW_m (lm_1 25 rfl) rfl) (yAll (yW_m (lm_1 2 rfl) rfl) yNil)))
theorem wn_Yf_init_30 : Cond.methodLinkNest "YearFractions" 15 ⟨"YearFractions$Row", "<init>", "()V"⟩ "YearFractions" ∈ yNs := yNs_m (lm_1 26 rfl) rfl
theorem w_Yf_init_30 : ∀ w ∈ [Cond.instanceMethod ⟨"YearFractions$Row", "<init>", "()V"⟩, Cond.initialized "YearFractions$Row"], w ∈ yW := (yAll (yW_m (lm_1 27 rfl) rfl) (yAll (yW_m (lm_1 2 rfl) rfl) yNil))
theorem w_Yf_init_42 : Cond.fieldLink "YearFractions" 16 "YearFractions" "rowCount" "I" ∈ yW := (yW_m (lm_1 84 rfl) rfl)
theorem w_Yf_init_47 : Cond.fieldLink "YearFractions" 20 "YearFractions" "rests" "J" ∈ yW := (yW_m (lm_1 85 rfl) rfl)
theorem w_Yf_init_51 : ∀ w ∈ [Cond.classLink "YearFractions" 24 "YearFractions$LeastSet", Cond.instantiable "YearFractions$LeastSet" 5, Cond.initialized "YearFractions$LeastSet"], w ∈ yW := (yAll (yW_m (lm_1 45 rfl) rfl) (yAll (yW_m (lm_1 46 rfl) rfl) (yAll (yW_m (lm_1 3 rfl) rfl) yNil)))
theorem wn_Yf_init_55 : Cond.methodLinkNest "YearFractions" 26 ⟨"YearFractions$LeastSet", "<init>", "()V"⟩ "YearFractions" ∈ yNs := yNs_m (lm_1 47 rfl) rfl
theorem w_Yf_init_55 : ∀ w ∈ [Cond.instanceMethod ⟨"YearFractions$LeastSet", "<init>", "()V"⟩, Cond.initialized "YearFractions$LeastSet"], w ∈ yW := (yAll (yW_m (lm_1 48 rfl) rfl) (yAll (yW_m (lm_1 3 rfl) rfl) yNil))
theorem w_Yf_init_58 : Cond.fieldLink "YearFractions" 27 "YearFractions" "latestSet" "LYearFractions$LeastSet;" ∈ yW := (yW_m (lm_1 86 rfl) rfl)
theorem w_Yf_init_62 : ∀ w ∈ [Cond.classLink "YearFractions" 31 "YearFractions$Whole", Cond.instantiable "YearFractions$Whole" 1, Cond.initialized "YearFractions$Whole"], w ∈ yW := (yAll (yW_m (lm_1 72 rfl) rfl) (yAll (yW_m (lm_1 73 rfl) rfl) (yAll (yW_m (lm_1 4 rfl) rfl) yNil)))
theorem wn_Yf_init_66 : Cond.methodLinkNest "YearFractions" 33 ⟨"YearFractions$Whole", "<init>", "()V"⟩ "YearFractions" ∈ yNs := yNs_m (lm_1 74 rfl) rfl
theorem w_Yf_init_66 : ∀ w ∈ [Cond.instanceMethod ⟨"YearFractions$Whole", "<init>", "()V"⟩, Cond.initialized "YearFractions$Whole"], w ∈ yW := (yAll (yW_m (lm_1 75 rfl) rfl) (yAll (yW_m (lm_1 4 rfl) rfl) yNil))
theorem w_Yf_init_69 : Cond.fieldLink "YearFractions" 34 "YearFractions" "left" "LYearFractions$Whole;" ∈ yW := (yW_m (lm_1 87 rfl) rfl)
theorem w_Yf_init_73 : ∀ w ∈ [Cond.classLink "YearFractions" 31 "YearFractions$Whole", Cond.instantiable "YearFractions$Whole" 1, Cond.initialized "YearFractions$Whole"], w ∈ yW := (yAll (yW_m (lm_1 72 rfl) rfl) (yAll (yW_m (lm_1 73 rfl) rfl) (yAll (yW_m (lm_1 4 rfl) rfl) yNil)))
theorem wn_Yf_init_77 : Cond.methodLinkNest "YearFractions" 33 ⟨"YearFractions$Whole", "<init>", "()V"⟩ "YearFractions" ∈ yNs := yNs_m (lm_1 74 rfl) rfl
theorem w_Yf_init_77 : ∀ w ∈ [Cond.instanceMethod ⟨"YearFractions$Whole", "<init>", "()V"⟩, Cond.initialized "YearFractions$Whole"], w ∈ yW := (yAll (yW_m (lm_1 75 rfl) rfl) (yAll (yW_m (lm_1 4 rfl) rfl) yNil))
theorem w_Yf_init_80 : Cond.fieldLink "YearFractions" 38 "YearFractions" "right" "LYearFractions$Whole;" ∈ yW := (yW_m (lm_1 88 rfl) rfl)
theorem w_Yf_init_84 : ∀ w ∈ [Cond.classLink "YearFractions" 31 "YearFractions$Whole", Cond.instantiable "YearFractions$Whole" 1, Cond.initialized "YearFractions$Whole"], w ∈ yW := (yAll (yW_m (lm_1 72 rfl) rfl) (yAll (yW_m (lm_1 73 rfl) rfl) (yAll (yW_m (lm_1 4 rfl) rfl) yNil)))
theorem wn_Yf_init_88 : Cond.methodLinkNest "YearFractions" 33 ⟨"YearFractions$Whole", "<init>", "()V"⟩ "YearFractions" ∈ yNs := yNs_m (lm_1 74 rfl) rfl
theorem w_Yf_init_88 : ∀ w ∈ [Cond.instanceMethod ⟨"YearFractions$Whole", "<init>", "()V"⟩, Cond.initialized "YearFractions$Whole"], w ∈ yW := (yAll (yW_m (lm_1 75 rfl) rfl) (yAll (yW_m (lm_1 4 rfl) rfl) yNil))
theorem w_Yf_init_91 : Cond.fieldLink "YearFractions" 41 "YearFractions" "result" "LYearFractions$Whole;" ∈ yW := (yW_m (lm_1 89 rfl) rfl)
theorem w_Yf_row_1 : ∀ w ∈ [Cond.methodLink "YearFractions" 44 ⟨"YearFractions", "freeRow", "()LYearFractions$Row;"⟩, Cond.instanceMethod ⟨"YearFractions", "freeRow", "()LYearFractions$Row;"⟩, Cond.selects "YearFractions" ⟨"YearFractions", "freeRow", "()LYearFractions$Row;"⟩ ⟨"YearFractions", "freeRow", "()LYearFractions$Row;"⟩, Cond.initialized "YearFractions"], w ∈ yW := (yAll (yW_m (lm_1 126 rfl) rfl) (yAll (yW_m (lm_1 128 rfl) rfl) (yAll (yW_m (lm_0 0 rfl) rfl) (yAll (yW_m (lm_1 1 rfl) rfl) yNil))))
theorem w_Yf_row_16 : Cond.classLink "YearFractions" 48 "java/lang/IllegalArgumentException" ∈ yW := (yW_m (lm_1 199 rfl) rfl)
theorem w_Yf_row_44 : Cond.classLink "YearFractions" 48 "java/lang/IllegalArgumentException" ∈ yW := (yW_m (lm_1 199 rfl) rfl)
theorem w_Yf_row_57 : ∀ w ∈ [Cond.methodLink "YearFractions" 57 ⟨"YearFractions$Row", "open", "(II)V"⟩, Cond.instanceMethod ⟨"YearFractions$Row", "open", "(II)V"⟩, Cond.selects "YearFractions$Row" ⟨"YearFractions$Row", "open", "(II)V"⟩ ⟨"YearFractions$Row", "open", "(II)V"⟩, Cond.initialized "YearFractions$Row"], w ∈ yW := (yAll (yW_m (lm_1 216 rfl) rfl) (yAll (yW_m (lm_1 217 rfl) rfl) (yAll (yW_m (lm_1 218 rfl) rfl) (yAll (yW_m (lm_1 2 rfl) rfl) yNil))))
theorem w_Yf_row_61 : ∀ w ∈ [Cond.methodLink "YearFractions" 61 ⟨"YearFractions", "keepFreeRow", "()I"⟩, Cond.instanceMethod ⟨"YearFractions", "keepFreeRow", "()I"⟩, Cond.selects "YearFractions" ⟨"YearFractions", "keepFreeRow", "()I"⟩ ⟨"YearFractions", "keepFreeRow", "()I"⟩, Cond.initialized "YearFractions"], w ∈ yW := (yAll (yW_m (lm_1 220 rfl) rfl) (yAll (yW_m (lm_1 222 rfl) rfl) (yAll (yW_m (lm_0 2 rfl) rfl) (yAll (yW_m (lm_1 1 rfl) rfl) yNil))))
theorem w_Yf_weight_3 : ∀ w ∈ [Cond.methodLink "YearFractions" 65 ⟨"YearFractions", "knownRowWith", "(II)LYearFractions$Row;"⟩, Cond.instanceMethod ⟨"YearFractions", "knownRowWith", "(II)LYearFractions$Row;"⟩, Cond.selects "YearFractions" ⟨"YearFractions", "knownRowWith", "(II)LYearFractions$Row;"⟩ ⟨"YearFractions", "knownRowWith", "(II)LYearFractions$Row;"⟩, Cond.initialized "YearFractions"], w ∈ yW := (yAll (yW_m (lm_1 232 rfl) rfl) (yAll (yW_m (lm_1 234 rfl) rfl) (yAll (yW_m (lm_0 3 rfl) rfl) (yAll (yW_m (lm_1 1 rfl) rfl) yNil))))
theorem w_Yf_weight_14 : Cond.classLink "YearFractions" 48 "java/lang/IllegalArgumentException" ∈ yW := (yW_m (lm_1 199 rfl) rfl)
theorem w_Yf_weight_28 : Cond.fieldLink "YearFractions" 34 "YearFractions" "left" "LYearFractions$Whole;" ∈ yW := (yW_m (lm_1 87 rfl) rfl)
theorem w_Yf_weight_31 : ∀ w ∈ [Cond.methodLink "YearFractions" 71 ⟨"YearFractions$Row", "read", "(ILYearFractions$Whole;)V"⟩, Cond.instanceMethod ⟨"YearFractions$Row", "read", "(ILYearFractions$Whole;)V"⟩, Cond.selects "YearFractions$Row" ⟨"YearFractions$Row", "read", "(ILYearFractions$Whole;)V"⟩ ⟨"YearFractions$Row", "read", "(ILYearFractions$Whole;)V"⟩, Cond.initialized "YearFractions$Row"], w ∈ yW := (yAll (yW_m (lm_2 26 rfl) rfl) (yAll (yW_m (lm_2 27 rfl) rfl) (yAll (yW_m (lm_2 28 rfl) rfl) (yAll (yW_m (lm_1 2 rfl) rfl) yNil))))
theorem w_Yf_weight_35 : Cond.fieldLink "YearFractions" 38 "YearFractions" "right" "LYearFractions$Whole;" ∈ yW := (yW_m (lm_1 88 rfl) rfl)
theorem w_Yf_weight_39 : ∀ w ∈ [Cond.methodLink "YearFractions" 75 ⟨"YearFractions$Whole", "become", "(J)V"⟩, Cond.instanceMethod ⟨"YearFractions$Whole", "become", "(J)V"⟩, Cond.selects "YearFractions$Whole" ⟨"YearFractions$Whole", "become", "(J)V"⟩ ⟨"YearFractions$Whole", "become", "(J)V"⟩, Cond.initialized "YearFractions$Whole"], w ∈ yW := (yAll (yW_m (lm_2 36 rfl) rfl) (yAll (yW_m (lm_2 31 rfl) rfl) (yAll (yW_m (lm_2 32 rfl) rfl) (yAll (yW_m (lm_1 4 rfl) rfl) yNil))))
theorem w_Yf_weight_46 : Cond.fieldLink "YearFractions" 38 "YearFractions" "right" "LYearFractions$Whole;" ∈ yW := (yW_m (lm_1 88 rfl) rfl)
theorem w_Yf_weight_49 : ∀ w ∈ [Cond.methodLink "YearFractions" 79 ⟨"YearFractions$Row", "write", "(ILYearFractions$Whole;)V"⟩, Cond.instanceMethod ⟨"YearFractions$Row", "write", "(ILYearFractions$Whole;)V"⟩, Cond.selects "YearFractions$Row" ⟨"YearFractions$Row", "write", "(ILYearFractions$Whole;)V"⟩ ⟨"YearFractions$Row", "write", "(ILYearFractions$Whole;)V"⟩, Cond.initialized "YearFractions$Row"], w ∈ yW := (yAll (yW_m (lm_2 37 rfl) rfl) (yAll (yW_m (lm_2 38 rfl) rfl) (yAll (yW_m (lm_2 39 rfl) rfl) (yAll (yW_m (lm_1 2 rfl) rfl) yNil))))
theorem w_Yf_weight_53 : Cond.fieldLink "YearFractions" 34 "YearFractions" "left" "LYearFractions$Whole;" ∈ yW := (yW_m (lm_1 87 rfl) rfl)
theorem w_Yf_weight_57 : Cond.fieldLink "YearFractions" 38 "YearFractions" "right" "LYearFractions$Whole;" ∈ yW := (yW_m (lm_1 88 rfl) rfl)
theorem w_Yf_weight_60 : ∀ w ∈ [Cond.methodLink "YearFractions" 82 ⟨"YearFractions$Whole", "order", "(LYearFractions$Whole;)I"⟩, Cond.instanceMethod ⟨"YearFractions$Whole", "order", "(LYearFractions$Whole;)I"⟩, Cond.selects "YearFractions$Whole" ⟨"YearFractions$Whole", "order", "(LYearFractions$Whole;)I"⟩ ⟨"YearFractions$Whole", "order", "(LYearFractions$Whole;)I"⟩, Cond.initialized "YearFractions$Whole"], w ∈ yW := (yAll (yW_m (lm_2 41 rfl) rfl) (yAll (yW_m (lm_2 42 rfl) rfl) (yAll (yW_m (lm_2 43 rfl) rfl) (yAll (yW_m (lm_1 4 rfl) rfl) yNil))))
theorem w_Yf_add_2 : ∀ w ∈ [Cond.methodLink "YearFractions" 86 ⟨"YearFractions", "knownRow", "(I)LYearFractions$Row;"⟩, Cond.instanceMethod ⟨"YearFractions", "knownRow", "(I)LYearFractions$Row;"⟩, Cond.selects "YearFractions" ⟨"YearFractions", "knownRow", "(I)LYearFractions$Row;"⟩ ⟨"YearFractions", "knownRow", "(I)LYearFractions$Row;"⟩, Cond.initialized "YearFractions"], w ∈ yW := (yAll (yW_m (lm_1 236 rfl) rfl) (yAll (yW_m (lm_1 238 rfl) rfl) (yAll (yW_m (lm_0 4 rfl) rfl) (yAll (yW_m (lm_1 1 rfl) rfl) yNil))))
theorem w_Yf_add_8 : ∀ w ∈ [Cond.methodLink "YearFractions" 86 ⟨"YearFractions", "knownRow", "(I)LYearFractions$Row;"⟩, Cond.instanceMethod ⟨"YearFractions", "knownRow", "(I)LYearFractions$Row;"⟩, Cond.selects "YearFractions" ⟨"YearFractions", "knownRow", "(I)LYearFractions$Row;"⟩ ⟨"YearFractions", "knownRow", "(I)LYearFractions$Row;"⟩, Cond.initialized "YearFractions"], w ∈ yW := (yAll (yW_m (lm_1 236 rfl) rfl) (yAll (yW_m (lm_1 238 rfl) rfl) (yAll (yW_m (lm_0 4 rfl) rfl) (yAll (yW_m (lm_1 1 rfl) rfl) yNil))))
theorem w_Yf_add_14 : ∀ w ∈ [Cond.methodLink "YearFractions" 44 ⟨"YearFractions", "freeRow", "()LYearFractions$Row;"⟩, Cond.instanceMethod ⟨"YearFractions", "freeRow", "()LYearFractions$Row;"⟩, Cond.selects "YearFractions" ⟨"YearFractions", "freeRow", "()LYearFractions$Row;"⟩ ⟨"YearFractions", "freeRow", "()LYearFractions$Row;"⟩, Cond.initialized "YearFractions"], w ∈ yW := (yAll (yW_m (lm_1 126 rfl) rfl) (yAll (yW_m (lm_1 128 rfl) rfl) (yAll (yW_m (lm_0 0 rfl) rfl) (yAll (yW_m (lm_1 1 rfl) rfl) yNil))))
theorem w_Yf_add_20 : Cond.fieldLinkNest "YearFractions" 90 "YearFractions$Row" "first" "I" "YearFractions" ∈ yNs := yNs_m (lm_1 32 rfl) rfl
theorem w_Yf_add_25 : Cond.fieldLinkNest "YearFractions" 90 "YearFractions$Row" "first" "I" "YearFractions" ∈ yNs := yNs_m (lm_1 32 rfl) rfl
theorem w_Yf_add_28 : ∀ w ∈ [Cond.methodLink "YearFractions" 93 ⟨"java/lang/Math", "min", "(II)I"⟩, Cond.static ⟨"java/lang/Math", "min", "(II)I"⟩, Cond.initialized "java/lang/Math"], w ∈ yW := (yAll (yW_m (lm_2 53 rfl) rfl) (yAll (yW_m (lm_2 54 rfl) rfl) (yAll (yW_m (lm_1 12 rfl) rfl) yNil)))
theorem w_Yf_add_34 : ∀ w ∈ [Cond.methodLink "YearFractions" 99 ⟨"YearFractions$Row", "last", "()I"⟩, Cond.instanceMethod ⟨"YearFractions$Row", "last", "()I"⟩, Cond.selects "YearFractions$Row" ⟨"YearFractions$Row", "last", "()I"⟩ ⟨"YearFractions$Row", "last", "()I"⟩, Cond.initialized "YearFractions$Row"], w ∈ yW := (yAll (yW_m (lm_2 56 rfl) rfl) (yAll (yW_m (lm_2 21 rfl) rfl) (yAll (yW_m (lm_2 22 rfl) rfl) (yAll (yW_m (lm_1 2 rfl) rfl) yNil))))
theorem w_Yf_add_39 : ∀ w ∈ [Cond.methodLink "YearFractions" 99 ⟨"YearFractions$Row", "last", "()I"⟩, Cond.instanceMethod ⟨"YearFractions$Row", "last", "()I"⟩, Cond.selects "YearFractions$Row" ⟨"YearFractions$Row", "last", "()I"⟩ ⟨"YearFractions$Row", "last", "()I"⟩, Cond.initialized "YearFractions$Row"], w ∈ yW := (yAll (yW_m (lm_2 56 rfl) rfl) (yAll (yW_m (lm_2 21 rfl) rfl) (yAll (yW_m (lm_2 22 rfl) rfl) (yAll (yW_m (lm_1 2 rfl) rfl) yNil))))
theorem w_Yf_add_42 : ∀ w ∈ [Cond.methodLink "YearFractions" 102 ⟨"java/lang/Math", "max", "(II)I"⟩, Cond.static ⟨"java/lang/Math", "max", "(II)I"⟩, Cond.initialized "java/lang/Math"], w ∈ yW := (yAll (yW_m (lm_2 57 rfl) rfl) (yAll (yW_m (lm_2 58 rfl) rfl) (yAll (yW_m (lm_1 12 rfl) rfl) yNil)))
theorem w_Yf_add_57 : Cond.classLink "YearFractions" 48 "java/lang/IllegalArgumentException" ∈ yW := (yW_m (lm_1 199 rfl) rfl)
theorem w_Yf_add_78 : ∀ w ∈ [Cond.methodLink "YearFractions" 57 ⟨"YearFractions$Row", "open", "(II)V"⟩, Cond.instanceMethod ⟨"YearFractions$Row", "open", "(II)V"⟩, Cond.selects "YearFractions$Row" ⟨"YearFractions$Row", "open", "(II)V"⟩ ⟨"YearFractions$Row", "open", "(II)V"⟩, Cond.initialized "YearFractions$Row"], w ∈ yW := (yAll (yW_m (lm_1 216 rfl) rfl) (yAll (yW_m (lm_1 217 rfl) rfl) (yAll (yW_m (lm_1 218 rfl) rfl) (yAll (yW_m (lm_1 2 rfl) rfl) yNil))))
theorem w_Yf_add_96 : Cond.fieldLink "YearFractions" 34 "YearFractions" "left" "LYearFractions$Whole;" ∈ yW := (yW_m (lm_1 87 rfl) rfl)
theorem w_Yf_add_99 : ∀ w ∈ [Cond.methodLink "YearFractions" 71 ⟨"YearFractions$Row", "read", "(ILYearFractions$Whole;)V"⟩, Cond.instanceMethod ⟨"YearFractions$Row", "read", "(ILYearFractions$Whole;)V"⟩, Cond.selects "YearFractions$Row" ⟨"YearFractions$Row", "read", "(ILYearFractions$Whole;)V"⟩ ⟨"YearFractions$Row", "read", "(ILYearFractions$Whole;)V"⟩, Cond.initialized "YearFractions$Row"], w ∈ yW := (yAll (yW_m (lm_2 26 rfl) rfl) (yAll (yW_m (lm_2 27 rfl) rfl) (yAll (yW_m (lm_2 28 rfl) rfl) (yAll (yW_m (lm_1 2 rfl) rfl) yNil))))
theorem w_Yf_add_107 : Cond.fieldLink "YearFractions" 38 "YearFractions" "right" "LYearFractions$Whole;" ∈ yW := (yW_m (lm_1 88 rfl) rfl)
theorem w_Yf_add_110 : ∀ w ∈ [Cond.methodLink "YearFractions" 71 ⟨"YearFractions$Row", "read", "(ILYearFractions$Whole;)V"⟩, Cond.instanceMethod ⟨"YearFractions$Row", "read", "(ILYearFractions$Whole;)V"⟩, Cond.selects "YearFractions$Row" ⟨"YearFractions$Row", "read", "(ILYearFractions$Whole;)V"⟩ ⟨"YearFractions$Row", "read", "(ILYearFractions$Whole;)V"⟩, Cond.initialized "YearFractions$Row"], w ∈ yW := (yAll (yW_m (lm_2 26 rfl) rfl) (yAll (yW_m (lm_2 27 rfl) rfl) (yAll (yW_m (lm_2 28 rfl) rfl) (yAll (yW_m (lm_1 2 rfl) rfl) yNil))))
theorem w_Yf_add_114 : Cond.fieldLink "YearFractions" 34 "YearFractions" "left" "LYearFractions$Whole;" ∈ yW := (yW_m (lm_1 87 rfl) rfl)
theorem w_Yf_add_118 : Cond.fieldLink "YearFractions" 38 "YearFractions" "right" "LYearFractions$Whole;" ∈ yW := (yW_m (lm_1 88 rfl) rfl)
theorem w_Yf_add_121 : ∀ w ∈ [Cond.methodLink "YearFractions" 107 ⟨"YearFractions$Whole", "increase", "(LYearFractions$Whole;)V"⟩, Cond.instanceMethod ⟨"YearFractions$Whole", "increase", "(LYearFractions$Whole;)V"⟩, Cond.selects "YearFractions$Whole" ⟨"YearFractions$Whole", "increase", "(LYearFractions$Whole;)V"⟩ ⟨"YearFractions$Whole", "increase", "(LYearFractions$Whole;)V"⟩, Cond.initialized "YearFractions$Whole"], w ∈ yW := (yAll (yW_m (lm_2 61 rfl) rfl) (yAll (yW_m (lm_2 62 rfl) rfl) (yAll (yW_m (lm_2 63 rfl) rfl) (yAll (yW_m (lm_1 4 rfl) rfl) yNil))))
theorem w_Yf_add_129 : Cond.fieldLink "YearFractions" 34 "YearFractions" "left" "LYearFractions$Whole;" ∈ yW := (yW_m (lm_1 87 rfl) rfl)
theorem w_Yf_add_132 : ∀ w ∈ [Cond.methodLink "YearFractions" 111 ⟨"YearFractions", "storeWeight", "(LYearFractions$Row;ILYearFractions$Whole;)V"⟩, Cond.static ⟨"YearFractions", "storeWeight", "(LYearFractions$Row;ILYearFractions$Whole;)V"⟩, Cond.initialized "YearFractions"], w ∈ yW := (yAll (yW_m (lm_2 65 rfl) rfl) (yAll (yW_m (lm_2 66 rfl) rfl) (yAll (yW_m (lm_1 1 rfl) rfl) yNil)))
theorem w_Yf_add_142 : ∀ w ∈ [Cond.methodLink "YearFractions" 61 ⟨"YearFractions", "keepFreeRow", "()I"⟩, Cond.instanceMethod ⟨"YearFractions", "keepFreeRow", "()I"⟩, Cond.selects "YearFractions" ⟨"YearFractions", "keepFreeRow", "()I"⟩ ⟨"YearFractions", "keepFreeRow", "()I"⟩, Cond.initialized "YearFractions"], w ∈ yW := (yAll (yW_m (lm_1 220 rfl) rfl) (yAll (yW_m (lm_1 222 rfl) rfl) (yAll (yW_m (lm_0 2 rfl) rfl) (yAll (yW_m (lm_1 1 rfl) rfl) yNil))))
theorem w_Yf_times_2 : ∀ w ∈ [Cond.methodLink "YearFractions" 86 ⟨"YearFractions", "knownRow", "(I)LYearFractions$Row;"⟩, Cond.instanceMethod ⟨"YearFractions", "knownRow", "(I)LYearFractions$Row;"⟩, Cond.selects "YearFractions" ⟨"YearFractions", "knownRow", "(I)LYearFractions$Row;"⟩ ⟨"YearFractions", "knownRow", "(I)LYearFractions$Row;"⟩, Cond.initialized "YearFractions"], w ∈ yW := (yAll (yW_m (lm_1 236 rfl) rfl) (yAll (yW_m (lm_1 238 rfl) rfl) (yAll (yW_m (lm_0 4 rfl) rfl) (yAll (yW_m (lm_1 1 rfl) rfl) yNil))))
theorem w_Yf_times_9 : ∀ w ∈ [Cond.methodLink "YearFractions" 86 ⟨"YearFractions", "knownRow", "(I)LYearFractions$Row;"⟩, Cond.instanceMethod ⟨"YearFractions", "knownRow", "(I)LYearFractions$Row;"⟩, Cond.selects "YearFractions" ⟨"YearFractions", "knownRow", "(I)LYearFractions$Row;"⟩ ⟨"YearFractions", "knownRow", "(I)LYearFractions$Row;"⟩, Cond.initialized "YearFractions"], w ∈ yW := (yAll (yW_m (lm_1 236 rfl) rfl) (yAll (yW_m (lm_1 238 rfl) rfl) (yAll (yW_m (lm_0 4 rfl) rfl) (yAll (yW_m (lm_1 1 rfl) rfl) yNil))))
theorem w_Yf_times_15 : ∀ w ∈ [Cond.methodLink "YearFractions" 44 ⟨"YearFractions", "freeRow", "()LYearFractions$Row;"⟩, Cond.instanceMethod ⟨"YearFractions", "freeRow", "()LYearFractions$Row;"⟩, Cond.selects "YearFractions" ⟨"YearFractions", "freeRow", "()LYearFractions$Row;"⟩ ⟨"YearFractions", "freeRow", "()LYearFractions$Row;"⟩, Cond.initialized "YearFractions"], w ∈ yW := (yAll (yW_m (lm_1 126 rfl) rfl) (yAll (yW_m (lm_1 128 rfl) rfl) (yAll (yW_m (lm_0 0 rfl) rfl) (yAll (yW_m (lm_1 1 rfl) rfl) yNil))))
theorem w_Yf_times_26 : Cond.constant "YearFractions" 115 1000000000 ∈ yW := (yW_m (lm_2 95 rfl) rfl)
theorem w_Yf_times_31 : Cond.classLink "YearFractions" 48 "java/lang/IllegalArgumentException" ∈ yW := (yW_m (lm_1 199 rfl) rfl)
theorem w_Yf_times_43 : Cond.fieldLinkNest "YearFractions" 90 "YearFractions$Row" "first" "I" "YearFractions" ∈ yNs := yNs_m (lm_1 32 rfl) rfl
theorem w_Yf_times_48 : Cond.fieldLinkNest "YearFractions" 90 "YearFractions$Row" "first" "I" "YearFractions" ∈ yNs := yNs_m (lm_1 32 rfl) rfl
theorem w_Yf_times_51 : ∀ w ∈ [Cond.methodLink "YearFractions" 102 ⟨"java/lang/Math", "max", "(II)I"⟩, Cond.static ⟨"java/lang/Math", "max", "(II)I"⟩, Cond.initialized "java/lang/Math"], w ∈ yW := (yAll (yW_m (lm_2 57 rfl) rfl) (yAll (yW_m (lm_2 58 rfl) rfl) (yAll (yW_m (lm_1 12 rfl) rfl) yNil)))
theorem w_Yf_times_58 : ∀ w ∈ [Cond.methodLink "YearFractions" 99 ⟨"YearFractions$Row", "last", "()I"⟩, Cond.instanceMethod ⟨"YearFractions$Row", "last", "()I"⟩, Cond.selects "YearFractions$Row" ⟨"YearFractions$Row", "last", "()I"⟩ ⟨"YearFractions$Row", "last", "()I"⟩, Cond.initialized "YearFractions$Row"], w ∈ yW := (yAll (yW_m (lm_2 56 rfl) rfl) (yAll (yW_m (lm_2 21 rfl) rfl) (yAll (yW_m (lm_2 22 rfl) rfl) (yAll (yW_m (lm_1 2 rfl) rfl) yNil))))
theorem w_Yf_times_63 : ∀ w ∈ [Cond.methodLink "YearFractions" 99 ⟨"YearFractions$Row", "last", "()I"⟩, Cond.instanceMethod ⟨"YearFractions$Row", "last", "()I"⟩, Cond.selects "YearFractions$Row" ⟨"YearFractions$Row", "last", "()I"⟩ ⟨"YearFractions$Row", "last", "()I"⟩, Cond.initialized "YearFractions$Row"], w ∈ yW := (yAll (yW_m (lm_2 56 rfl) rfl) (yAll (yW_m (lm_2 21 rfl) rfl) (yAll (yW_m (lm_2 22 rfl) rfl) (yAll (yW_m (lm_1 2 rfl) rfl) yNil))))
theorem w_Yf_times_66 : ∀ w ∈ [Cond.methodLink "YearFractions" 93 ⟨"java/lang/Math", "min", "(II)I"⟩, Cond.static ⟨"java/lang/Math", "min", "(II)I"⟩, Cond.initialized "java/lang/Math"], w ∈ yW := (yAll (yW_m (lm_2 53 rfl) rfl) (yAll (yW_m (lm_2 54 rfl) rfl) (yAll (yW_m (lm_1 12 rfl) rfl) yNil)))
theorem w_Yf_times_78 : Cond.classLink "YearFractions" 48 "java/lang/IllegalArgumentException" ∈ yW := (yW_m (lm_1 199 rfl) rfl)
theorem w_Yf_times_99 : ∀ w ∈ [Cond.methodLink "YearFractions" 57 ⟨"YearFractions$Row", "open", "(II)V"⟩, Cond.instanceMethod ⟨"YearFractions$Row", "open", "(II)V"⟩, Cond.selects "YearFractions$Row" ⟨"YearFractions$Row", "open", "(II)V"⟩ ⟨"YearFractions$Row", "open", "(II)V"⟩, Cond.initialized "YearFractions$Row"], w ∈ yW := (yAll (yW_m (lm_1 216 rfl) rfl) (yAll (yW_m (lm_1 217 rfl) rfl) (yAll (yW_m (lm_1 218 rfl) rfl) (yAll (yW_m (lm_1 2 rfl) rfl) yNil))))
theorem w_Yf_times_121 : Cond.fieldLink "YearFractions" 34 "YearFractions" "left" "LYearFractions$Whole;" ∈ yW := (yW_m (lm_1 87 rfl) rfl)
theorem w_Yf_times_124 : ∀ w ∈ [Cond.methodLink "YearFractions" 71 ⟨"YearFractions$Row", "read", "(ILYearFractions$Whole;)V"⟩, Cond.instanceMethod ⟨"YearFractions$Row", "read", "(ILYearFractions$Whole;)V"⟩, Cond.selects "YearFractions$Row" ⟨"YearFractions$Row", "read", "(ILYearFractions$Whole;)V"⟩ ⟨"YearFractions$Row", "read", "(ILYearFractions$Whole;)V"⟩, Cond.initialized "YearFractions$Row"], w ∈ yW := (yAll (yW_m (lm_2 26 rfl) rfl) (yAll (yW_m (lm_2 27 rfl) rfl) (yAll (yW_m (lm_2 28 rfl) rfl) (yAll (yW_m (lm_1 2 rfl) rfl) yNil))))
theorem w_Yf_times_132 : Cond.fieldLink "YearFractions" 38 "YearFractions" "right" "LYearFractions$Whole;" ∈ yW := (yW_m (lm_1 88 rfl) rfl)
theorem w_Yf_times_135 : ∀ w ∈ [Cond.methodLink "YearFractions" 71 ⟨"YearFractions$Row", "read", "(ILYearFractions$Whole;)V"⟩, Cond.instanceMethod ⟨"YearFractions$Row", "read", "(ILYearFractions$Whole;)V"⟩, Cond.selects "YearFractions$Row" ⟨"YearFractions$Row", "read", "(ILYearFractions$Whole;)V"⟩ ⟨"YearFractions$Row", "read", "(ILYearFractions$Whole;)V"⟩, Cond.initialized "YearFractions$Row"], w ∈ yW := (yAll (yW_m (lm_2 26 rfl) rfl) (yAll (yW_m (lm_2 27 rfl) rfl) (yAll (yW_m (lm_2 28 rfl) rfl) (yAll (yW_m (lm_1 2 rfl) rfl) yNil))))
theorem w_Yf_times_139 : Cond.fieldLink "YearFractions" 41 "YearFractions" "result" "LYearFractions$Whole;" ∈ yW := (yW_m (lm_1 89 rfl) rfl)
theorem w_Yf_times_143 : Cond.fieldLink "YearFractions" 34 "YearFractions" "left" "LYearFractions$Whole;" ∈ yW := (yW_m (lm_1 87 rfl) rfl)
theorem w_Yf_times_147 : Cond.fieldLink "YearFractions" 38 "YearFractions" "right" "LYearFractions$Whole;" ∈ yW := (yW_m (lm_1 88 rfl) rfl)
theorem w_Yf_times_150 : ∀ w ∈ [Cond.methodLink "YearFractions" 120 ⟨"YearFractions$Whole", "becomeProduct", "(LYearFractions$Whole;LYearFractions$Whole;)V"⟩, Cond.instanceMethod ⟨"YearFractions$Whole", "becomeProduct", "(LYearFractions$Whole;LYearFractions$Whole;)V"⟩, Cond.selects "YearFractions$Whole" ⟨"YearFractions$Whole", "becomeProduct", "(LYearFractions$Whole;LYearFractions$Whole;)V"⟩ ⟨"YearFractions$Whole", "becomeProduct", "(LYearFractions$Whole;LYearFractions$Whole;)V"⟩, Cond.initialized "YearFractions$Whole"], w ∈ yW := (yAll (yW_m (lm_2 98 rfl) rfl) (yAll (yW_m (lm_2 99 rfl) rfl) (yAll (yW_m (lm_2 100 rfl) rfl) (yAll (yW_m (lm_1 4 rfl) rfl) yNil))))
theorem w_Yf_times_156 : Cond.fieldLink "YearFractions" 41 "YearFractions" "result" "LYearFractions$Whole;" ∈ yW := (yW_m (lm_1 89 rfl) rfl)
theorem w_Yf_times_160 : ∀ w ∈ [Cond.methodLink "YearFractions" 124 ⟨"YearFractions$Whole", "divide", "(I)J"⟩, Cond.instanceMethod ⟨"YearFractions$Whole", "divide", "(I)J"⟩, Cond.selects "YearFractions$Whole" ⟨"YearFractions$Whole", "divide", "(I)J"⟩ ⟨"YearFractions$Whole", "divide", "(I)J"⟩, Cond.initialized "YearFractions$Whole"], w ∈ yW := (yAll (yW_m (lm_2 103 rfl) rfl) (yAll (yW_m (lm_2 104 rfl) rfl) (yAll (yW_m (lm_2 105 rfl) rfl) (yAll (yW_m (lm_1 4 rfl) rfl) yNil))))
theorem w_Yf_times_171 : Cond.fieldLink "YearFractions" 41 "YearFractions" "result" "LYearFractions$Whole;" ∈ yW := (yW_m (lm_1 89 rfl) rfl)
theorem w_Yf_times_174 : ∀ w ∈ [Cond.methodLink "YearFractions" 111 ⟨"YearFractions", "storeWeight", "(LYearFractions$Row;ILYearFractions$Whole;)V"⟩, Cond.static ⟨"YearFractions", "storeWeight", "(LYearFractions$Row;ILYearFractions$Whole;)V"⟩, Cond.initialized "YearFractions"], w ∈ yW := (yAll (yW_m (lm_2 65 rfl) rfl) (yAll (yW_m (lm_2 66 rfl) rfl) (yAll (yW_m (lm_1 1 rfl) rfl) yNil)))
theorem w_Yf_times_186 : Cond.fieldLink "YearFractions" 20 "YearFractions" "rests" "J" ∈ yW := (yW_m (lm_1 85 rfl) rfl)
theorem w_Yf_times_190 : ∀ w ∈ [Cond.methodLink "YearFractions" 61 ⟨"YearFractions", "keepFreeRow", "()I"⟩, Cond.instanceMethod ⟨"YearFractions", "keepFreeRow", "()I"⟩, Cond.selects "YearFractions" ⟨"YearFractions", "keepFreeRow", "()I"⟩ ⟨"YearFractions", "keepFreeRow", "()I"⟩, Cond.initialized "YearFractions"], w ∈ yW := (yAll (yW_m (lm_1 220 rfl) rfl) (yAll (yW_m (lm_1 222 rfl) rfl) (yAll (yW_m (lm_0 2 rfl) rfl) (yAll (yW_m (lm_1 1 rfl) rfl) yNil))))
theorem w_Yf_rest_1 : Cond.fieldLink "YearFractions" 20 "YearFractions" "rests" "J" ∈ yW := (yW_m (lm_1 85 rfl) rfl)
theorem w_Yf_least_2 : ∀ w ∈ [Cond.methodLink "YearFractions" 86 ⟨"YearFractions", "knownRow", "(I)LYearFractions$Row;"⟩, Cond.instanceMethod ⟨"YearFractions", "knownRow", "(I)LYearFractions$Row;"⟩, Cond.selects "YearFractions" ⟨"YearFractions", "knownRow", "(I)LYearFractions$Row;"⟩ ⟨"YearFractions", "knownRow", "(I)LYearFractions$Row;"⟩, Cond.initialized "YearFractions"], w ∈ yW := (yAll (yW_m (lm_1 236 rfl) rfl) (yAll (yW_m (lm_1 238 rfl) rfl) (yAll (yW_m (lm_0 4 rfl) rfl) (yAll (yW_m (lm_1 1 rfl) rfl) yNil))))
theorem w_Yf_least_13 : Cond.constant "YearFractions" 128 1000000 ∈ yW := (yW_m (lm_2 114 rfl) rfl)
theorem w_Yf_least_18 : Cond.classLink "YearFractions" 48 "java/lang/IllegalArgumentException" ∈ yW := (yW_m (lm_1 199 rfl) rfl)
theorem w_Yf_least_37 : Cond.classLink "YearFractions" 48 "java/lang/IllegalArgumentException" ∈ yW := (yW_m (lm_1 199 rfl) rfl)
theorem w_Yf_least_50 : Cond.fieldLink "YearFractions" 34 "YearFractions" "left" "LYearFractions$Whole;" ∈ yW := (yW_m (lm_1 87 rfl) rfl)
theorem w_Yf_least_54 : Cond.fieldLink "YearFractions" 38 "YearFractions" "right" "LYearFractions$Whole;" ∈ yW := (yW_m (lm_1 88 rfl) rfl)
theorem w_Yf_least_57 : ∀ w ∈ [Cond.methodLink "YearFractions" 133 ⟨"YearFractions", "gather", "(LYearFractions$Row;LYearFractions$Whole;LYearFractions$Whole;)V"⟩, Cond.static ⟨"YearFractions", "gather", "(LYearFractions$Row;LYearFractions$Whole;LYearFractions$Whole;)V"⟩, Cond.initialized "YearFractions"], w ∈ yW := (yAll (yW_m (lm_2 117 rfl) rfl) (yAll (yW_m (lm_2 118 rfl) rfl) (yAll (yW_m (lm_1 1 rfl) rfl) yNil)))
theorem w_Yf_least_61 : Cond.fieldLink "YearFractions" 34 "YearFractions" "left" "LYearFractions$Whole;" ∈ yW := (yW_m (lm_1 87 rfl) rfl)
theorem w_Yf_least_64 : ∀ w ∈ [Cond.methodLink "YearFractions" 137 ⟨"YearFractions$Whole", "isZero", "()Z"⟩, Cond.instanceMethod ⟨"YearFractions$Whole", "isZero", "()Z"⟩, Cond.selects "YearFractions$Whole" ⟨"YearFractions$Whole", "isZero", "()Z"⟩ ⟨"YearFractions$Whole", "isZero", "()Z"⟩, Cond.initialized "YearFractions$Whole"], w ∈ yW := (yAll (yW_m (lm_2 120 rfl) rfl) (yAll (yW_m (lm_2 121 rfl) rfl) (yAll (yW_m (lm_2 122 rfl) rfl) (yAll (yW_m (lm_1 4 rfl) rfl) yNil))))
theorem w_Yf_least_70 : Cond.classLink "YearFractions" 141 "java/lang/ArithmeticException" ∈ yW := (yW_m (lm_2 72 rfl) rfl)
theorem w_Yf_least_81 : Cond.fieldLink "YearFractions" 41 "YearFractions" "result" "LYearFractions$Whole;" ∈ yW := (yW_m (lm_1 89 rfl) rfl)
theorem w_Yf_least_85 : Cond.fieldLink "YearFractions" 34 "YearFractions" "left" "LYearFractions$Whole;" ∈ yW := (yW_m (lm_1 87 rfl) rfl)
theorem w_Yf_least_90 : ∀ w ∈ [Cond.methodLink "YearFractions" 146 ⟨"YearFractions$Whole", "becomeScaled", "(LYearFractions$Whole;J)V"⟩, Cond.instanceMethod ⟨"YearFractions$Whole", "becomeScaled", "(LYearFractions$Whole;J)V"⟩, Cond.selects "YearFractions$Whole" ⟨"YearFractions$Whole", "becomeScaled", "(LYearFractions$Whole;J)V"⟩ ⟨"YearFractions$Whole", "becomeScaled", "(LYearFractions$Whole;J)V"⟩, Cond.initialized "YearFractions$Whole"], w ∈ yW := (yAll (yW_m (lm_2 125 rfl) rfl) (yAll (yW_m (lm_2 126 rfl) rfl) (yAll (yW_m (lm_2 127 rfl) rfl) (yAll (yW_m (lm_1 4 rfl) rfl) yNil))))
theorem w_Yf_least_97 : ∀ w ∈ [Cond.methodLink "YearFractions" 150 ⟨"YearFractions", "takeUntilEnough", "(LYearFractions$Row;I)V"⟩, Cond.instanceMethod ⟨"YearFractions", "takeUntilEnough", "(LYearFractions$Row;I)V"⟩, Cond.selects "YearFractions" ⟨"YearFractions", "takeUntilEnough", "(LYearFractions$Row;I)V"⟩ ⟨"YearFractions", "takeUntilEnough", "(LYearFractions$Row;I)V"⟩, Cond.initialized "YearFractions"], w ∈ yW := (yAll (yW_m (lm_2 129 rfl) rfl) (yAll (yW_m (lm_2 131 rfl) rfl) (yAll (yW_m (lm_0 5 rfl) rfl) (yAll (yW_m (lm_1 1 rfl) rfl) yNil))))
theorem w_Yf_least_101 : Cond.fieldLink "YearFractions" 27 "YearFractions" "latestSet" "LYearFractions$LeastSet;" ∈ yW := (yW_m (lm_1 86 rfl) rfl)
theorem w_Yf_least_106 : ∀ w ∈ [Cond.methodLink "YearFractions" 154 ⟨"YearFractions$LeastSet", "findSpans", "(LYearFractions$Row;)V"⟩, Cond.instanceMethod ⟨"YearFractions$LeastSet", "findSpans", "(LYearFractions$Row;)V"⟩, Cond.selects "YearFractions$LeastSet" ⟨"YearFractions$LeastSet", "findSpans", "(LYearFractions$Row;)V"⟩ ⟨"YearFractions$LeastSet", "findSpans", "(LYearFractions$Row;)V"⟩, Cond.initialized "YearFractions$LeastSet"], w ∈ yW := (yAll (yW_m (lm_2 145 rfl) rfl) (yAll (yW_m (lm_2 146 rfl) rfl) (yAll (yW_m (lm_2 147 rfl) rfl) (yAll (yW_m (lm_1 3 rfl) rfl) yNil))))
theorem w_Yf_least_110 : Cond.fieldLink "YearFractions" 27 "YearFractions" "latestSet" "LYearFractions$LeastSet;" ∈ yW := (yW_m (lm_1 86 rfl) rfl)
theorem w_Yf_least_113 : Cond.fieldLinkNest "YearFractions" 158 "YearFractions$LeastSet" "spans" "I" "YearFractions" ∈ yNs := yNs_m (lm_1 54 rfl) rfl
theorem w_Yf_span_6 : Cond.fieldLink "YearFractions" 27 "YearFractions" "latestSet" "LYearFractions$LeastSet;" ∈ yW := (yW_m (lm_1 86 rfl) rfl)
theorem w_Yf_span_9 : Cond.fieldLinkNest "YearFractions" 158 "YearFractions$LeastSet" "spans" "I" "YearFractions" ∈ yNs := yNs_m (lm_1 54 rfl) rfl
theorem w_Yf_span_15 : Cond.classLink "YearFractions" 161 "java/lang/IndexOutOfBoundsException" ∈ yW := (yW_m (lm_2 0 rfl) rfl)
theorem w_Yf_span_34 : Cond.classLink "YearFractions" 161 "java/lang/IndexOutOfBoundsException" ∈ yW := (yW_m (lm_2 0 rfl) rfl)
theorem w_Yf_span_49 : Cond.fieldLink "YearFractions" 27 "YearFractions" "latestSet" "LYearFractions$LeastSet;" ∈ yW := (yW_m (lm_1 86 rfl) rfl)
theorem w_Yf_span_52 : Cond.fieldLinkNest "YearFractions" 168 "YearFractions$LeastSet" "firsts" "[I" "YearFractions" ∈ yNs := yNs_m (lm_1 56 rfl) rfl
theorem w_Yf_span_61 : Cond.fieldLink "YearFractions" 27 "YearFractions" "latestSet" "LYearFractions$LeastSet;" ∈ yW := (yW_m (lm_1 86 rfl) rfl)
theorem w_Yf_span_64 : Cond.fieldLinkNest "YearFractions" 172 "YearFractions$LeastSet" "lasts" "[I" "YearFractions" ∈ yNs := yNs_m (lm_1 58 rfl) rfl
theorem w_Yf_digit_3 : ∀ w ∈ [Cond.methodLink "YearFractions" 65 ⟨"YearFractions", "knownRowWith", "(II)LYearFractions$Row;"⟩, Cond.instanceMethod ⟨"YearFractions", "knownRowWith", "(II)LYearFractions$Row;"⟩, Cond.selects "YearFractions" ⟨"YearFractions", "knownRowWith", "(II)LYearFractions$Row;"⟩ ⟨"YearFractions", "knownRowWith", "(II)LYearFractions$Row;"⟩, Cond.initialized "YearFractions"], w ∈ yW := (yAll (yW_m (lm_1 232 rfl) rfl) (yAll (yW_m (lm_1 234 rfl) rfl) (yAll (yW_m (lm_0 3 rfl) rfl) (yAll (yW_m (lm_1 1 rfl) rfl) yNil))))
theorem w_Yf_digit_11 : ∀ w ∈ [Cond.methodLink "YearFractions" 175 ⟨"YearFractions", "requireDigit", "(II)V"⟩, Cond.static ⟨"YearFractions", "requireDigit", "(II)V"⟩, Cond.initialized "YearFractions"], w ∈ yW := (yAll (yW_m (lm_2 165 rfl) rfl) (yAll (yW_m (lm_2 166 rfl) rfl) (yAll (yW_m (lm_1 1 rfl) rfl) yNil)))
theorem w_Yf_digit_18 : Cond.fieldLink "YearFractions" 34 "YearFractions" "left" "LYearFractions$Whole;" ∈ yW := (yW_m (lm_1 87 rfl) rfl)
theorem w_Yf_digit_21 : ∀ w ∈ [Cond.methodLink "YearFractions" 71 ⟨"YearFractions$Row", "read", "(ILYearFractions$Whole;)V"⟩, Cond.instanceMethod ⟨"YearFractions$Row", "read", "(ILYearFractions$Whole;)V"⟩, Cond.selects "YearFractions$Row" ⟨"YearFractions$Row", "read", "(ILYearFractions$Whole;)V"⟩ ⟨"YearFractions$Row", "read", "(ILYearFractions$Whole;)V"⟩, Cond.initialized "YearFractions$Row"], w ∈ yW := (yAll (yW_m (lm_2 26 rfl) rfl) (yAll (yW_m (lm_2 27 rfl) rfl) (yAll (yW_m (lm_2 28 rfl) rfl) (yAll (yW_m (lm_1 2 rfl) rfl) yNil))))
theorem w_Yf_digit_25 : Cond.fieldLink "YearFractions" 34 "YearFractions" "left" "LYearFractions$Whole;" ∈ yW := (yW_m (lm_1 87 rfl) rfl)
theorem w_Yf_digit_29 : ∀ w ∈ [Cond.methodLink "YearFractions" 178 ⟨"YearFractions$Whole", "digitAt", "(I)I"⟩, Cond.instanceMethod ⟨"YearFractions$Whole", "digitAt", "(I)I"⟩, Cond.selects "YearFractions$Whole" ⟨"YearFractions$Whole", "digitAt", "(I)I"⟩ ⟨"YearFractions$Whole", "digitAt", "(I)I"⟩, Cond.initialized "YearFractions$Whole"], w ∈ yW := (yAll (yW_m (lm_2 169 rfl) rfl) (yAll (yW_m (lm_2 170 rfl) rfl) (yAll (yW_m (lm_2 171 rfl) rfl) (yAll (yW_m (lm_1 4 rfl) rfl) yNil))))
theorem w_Yf_total_2 : ∀ w ∈ [Cond.methodLink "YearFractions" 86 ⟨"YearFractions", "knownRow", "(I)LYearFractions$Row;"⟩, Cond.instanceMethod ⟨"YearFractions", "knownRow", "(I)LYearFractions$Row;"⟩, Cond.selects "YearFractions" ⟨"YearFractions", "knownRow", "(I)LYearFractions$Row;"⟩ ⟨"YearFractions", "knownRow", "(I)LYearFractions$Row;"⟩, Cond.initialized "YearFractions"], w ∈ yW := (yAll (yW_m (lm_1 236 rfl) rfl) (yAll (yW_m (lm_1 238 rfl) rfl) (yAll (yW_m (lm_0 4 rfl) rfl) (yAll (yW_m (lm_1 1 rfl) rfl) yNil))))
theorem w_Yf_total_9 : ∀ w ∈ [Cond.methodLink "YearFractions" 175 ⟨"YearFractions", "requireDigit", "(II)V"⟩, Cond.static ⟨"YearFractions", "requireDigit", "(II)V"⟩, Cond.initialized "YearFractions"], w ∈ yW := (yAll (yW_m (lm_2 165 rfl) rfl) (yAll (yW_m (lm_2 166 rfl) rfl) (yAll (yW_m (lm_1 1 rfl) rfl) yNil)))
theorem w_Yf_total_14 : Cond.fieldLink "YearFractions" 34 "YearFractions" "left" "LYearFractions$Whole;" ∈ yW := (yW_m (lm_1 87 rfl) rfl)
theorem w_Yf_total_18 : Cond.fieldLink "YearFractions" 38 "YearFractions" "right" "LYearFractions$Whole;" ∈ yW := (yW_m (lm_1 88 rfl) rfl)
theorem w_Yf_total_21 : ∀ w ∈ [Cond.methodLink "YearFractions" 133 ⟨"YearFractions", "gather", "(LYearFractions$Row;LYearFractions$Whole;LYearFractions$Whole;)V"⟩, Cond.static ⟨"YearFractions", "gather", "(LYearFractions$Row;LYearFractions$Whole;LYearFractions$Whole;)V"⟩, Cond.initialized "YearFractions"], w ∈ yW := (yAll (yW_m (lm_2 117 rfl) rfl) (yAll (yW_m (lm_2 118 rfl) rfl) (yAll (yW_m (lm_1 1 rfl) rfl) yNil)))
theorem w_Yf_total_25 : Cond.fieldLink "YearFractions" 34 "YearFractions" "left" "LYearFractions$Whole;" ∈ yW := (yW_m (lm_1 87 rfl) rfl)
theorem w_Yf_total_29 : ∀ w ∈ [Cond.methodLink "YearFractions" 178 ⟨"YearFractions$Whole", "digitAt", "(I)I"⟩, Cond.instanceMethod ⟨"YearFractions$Whole", "digitAt", "(I)I"⟩, Cond.selects "YearFractions$Whole" ⟨"YearFractions$Whole", "digitAt", "(I)I"⟩ ⟨"YearFractions$Whole", "digitAt", "(I)I"⟩, Cond.initialized "YearFractions$Whole"], w ∈ yW := (yAll (yW_m (lm_2 169 rfl) rfl) (yAll (yW_m (lm_2 170 rfl) rfl) (yAll (yW_m (lm_2 171 rfl) rfl) (yAll (yW_m (lm_1 4 rfl) rfl) yNil))))
theorem w_Yf_compare_3 : ∀ w ∈ [Cond.methodLink "YearFractions" 65 ⟨"YearFractions", "knownRowWith", "(II)LYearFractions$Row;"⟩, Cond.instanceMethod ⟨"YearFractions", "knownRowWith", "(II)LYearFractions$Row;"⟩, Cond.selects "YearFractions" ⟨"YearFractions", "knownRowWith", "(II)LYearFractions$Row;"⟩ ⟨"YearFractions", "knownRowWith", "(II)LYearFractions$Row;"⟩, Cond.initialized "YearFractions"], w ∈ yW := (yAll (yW_m (lm_1 232 rfl) rfl) (yAll (yW_m (lm_1 234 rfl) rfl) (yAll (yW_m (lm_0 3 rfl) rfl) (yAll (yW_m (lm_1 1 rfl) rfl) yNil))))
theorem w_Yf_compare_8 : Cond.fieldLink "YearFractions" 34 "YearFractions" "left" "LYearFractions$Whole;" ∈ yW := (yW_m (lm_1 87 rfl) rfl)
theorem w_Yf_compare_11 : ∀ w ∈ [Cond.methodLink "YearFractions" 71 ⟨"YearFractions$Row", "read", "(ILYearFractions$Whole;)V"⟩, Cond.instanceMethod ⟨"YearFractions$Row", "read", "(ILYearFractions$Whole;)V"⟩, Cond.selects "YearFractions$Row" ⟨"YearFractions$Row", "read", "(ILYearFractions$Whole;)V"⟩ ⟨"YearFractions$Row", "read", "(ILYearFractions$Whole;)V"⟩, Cond.initialized "YearFractions$Row"], w ∈ yW := (yAll (yW_m (lm_2 26 rfl) rfl) (yAll (yW_m (lm_2 27 rfl) rfl) (yAll (yW_m (lm_2 28 rfl) rfl) (yAll (yW_m (lm_1 2 rfl) rfl) yNil))))
theorem w_Yf_compare_18 : ∀ w ∈ [Cond.methodLink "YearFractions" 65 ⟨"YearFractions", "knownRowWith", "(II)LYearFractions$Row;"⟩, Cond.instanceMethod ⟨"YearFractions", "knownRowWith", "(II)LYearFractions$Row;"⟩, Cond.selects "YearFractions" ⟨"YearFractions", "knownRowWith", "(II)LYearFractions$Row;"⟩ ⟨"YearFractions", "knownRowWith", "(II)LYearFractions$Row;"⟩, Cond.initialized "YearFractions"], w ∈ yW := (yAll (yW_m (lm_1 232 rfl) rfl) (yAll (yW_m (lm_1 234 rfl) rfl) (yAll (yW_m (lm_0 3 rfl) rfl) (yAll (yW_m (lm_1 1 rfl) rfl) yNil))))
theorem w_Yf_compare_24 : Cond.fieldLink "YearFractions" 38 "YearFractions" "right" "LYearFractions$Whole;" ∈ yW := (yW_m (lm_1 88 rfl) rfl)
theorem w_Yf_compare_27 : ∀ w ∈ [Cond.methodLink "YearFractions" 71 ⟨"YearFractions$Row", "read", "(ILYearFractions$Whole;)V"⟩, Cond.instanceMethod ⟨"YearFractions$Row", "read", "(ILYearFractions$Whole;)V"⟩, Cond.selects "YearFractions$Row" ⟨"YearFractions$Row", "read", "(ILYearFractions$Whole;)V"⟩ ⟨"YearFractions$Row", "read", "(ILYearFractions$Whole;)V"⟩, Cond.initialized "YearFractions$Row"], w ∈ yW := (yAll (yW_m (lm_2 26 rfl) rfl) (yAll (yW_m (lm_2 27 rfl) rfl) (yAll (yW_m (lm_2 28 rfl) rfl) (yAll (yW_m (lm_1 2 rfl) rfl) yNil))))
theorem w_Yf_compare_31 : Cond.fieldLink "YearFractions" 34 "YearFractions" "left" "LYearFractions$Whole;" ∈ yW := (yW_m (lm_1 87 rfl) rfl)
theorem w_Yf_compare_35 : Cond.fieldLink "YearFractions" 38 "YearFractions" "right" "LYearFractions$Whole;" ∈ yW := (yW_m (lm_1 88 rfl) rfl)
theorem w_Yf_compare_38 : ∀ w ∈ [Cond.methodLink "YearFractions" 82 ⟨"YearFractions$Whole", "order", "(LYearFractions$Whole;)I"⟩, Cond.instanceMethod ⟨"YearFractions$Whole", "order", "(LYearFractions$Whole;)I"⟩, Cond.selects "YearFractions$Whole" ⟨"YearFractions$Whole", "order", "(LYearFractions$Whole;)I"⟩ ⟨"YearFractions$Whole", "order", "(LYearFractions$Whole;)I"⟩, Cond.initialized "YearFractions$Whole"], w ∈ yW := (yAll (yW_m (lm_2 41 rfl) rfl) (yAll (yW_m (lm_2 42 rfl) rfl) (yAll (yW_m (lm_2 43 rfl) rfl) (yAll (yW_m (lm_1 4 rfl) rfl) yNil))))
theorem w_Yf_about_2 : ∀ w ∈ [Cond.methodLink "YearFractions" 86 ⟨"YearFractions", "knownRow", "(I)LYearFractions$Row;"⟩, Cond.instanceMethod ⟨"YearFractions", "knownRow", "(I)LYearFractions$Row;"⟩, Cond.selects "YearFractions" ⟨"YearFractions", "knownRow", "(I)LYearFractions$Row;"⟩ ⟨"YearFractions", "knownRow", "(I)LYearFractions$Row;"⟩, Cond.initialized "YearFractions"], w ∈ yW := (yAll (yW_m (lm_1 236 rfl) rfl) (yAll (yW_m (lm_1 238 rfl) rfl) (yAll (yW_m (lm_0 4 rfl) rfl) (yAll (yW_m (lm_1 1 rfl) rfl) yNil))))
theorem w_Yf_about_33 : Cond.fieldLinkNest "YearFractions" 90 "YearFractions$Row" "first" "I" "YearFractions" ∈ yNs := yNs_m (lm_1 32 rfl) rfl
theorem w_Yf_about_38 : ∀ w ∈ [Cond.methodLink "YearFractions" 99 ⟨"YearFractions$Row", "last", "()I"⟩, Cond.instanceMethod ⟨"YearFractions$Row", "last", "()I"⟩, Cond.selects "YearFractions$Row" ⟨"YearFractions$Row", "last", "()I"⟩ ⟨"YearFractions$Row", "last", "()I"⟩, Cond.initialized "YearFractions$Row"], w ∈ yW := (yAll (yW_m (lm_2 56 rfl) rfl) (yAll (yW_m (lm_2 21 rfl) rfl) (yAll (yW_m (lm_2 22 rfl) rfl) (yAll (yW_m (lm_1 2 rfl) rfl) yNil))))
theorem w_Yf_about_44 : ∀ w ∈ [Cond.methodLink "YearFractions" 182 ⟨"YearFractions", "countWeighted", "(LYearFractions$Row;)I"⟩, Cond.instanceMethod ⟨"YearFractions", "countWeighted", "(LYearFractions$Row;)I"⟩, Cond.selects "YearFractions" ⟨"YearFractions", "countWeighted", "(LYearFractions$Row;)I"⟩ ⟨"YearFractions", "countWeighted", "(LYearFractions$Row;)I"⟩, Cond.initialized "YearFractions"], w ∈ yW := (yAll (yW_m (lm_2 195 rfl) rfl) (yAll (yW_m (lm_2 197 rfl) rfl) (yAll (yW_m (lm_0 6 rfl) rfl) (yAll (yW_m (lm_1 1 rfl) rfl) yNil))))
theorem w_Yf_about_48 : Cond.classLink "YearFractions" 48 "java/lang/IllegalArgumentException" ∈ yW := (yW_m (lm_1 199 rfl) rfl)
theorem w_Yf_over_6 : Cond.classLink "YearFractions" 141 "java/lang/ArithmeticException" ∈ yW := (yW_m (lm_2 72 rfl) rfl)
theorem w_Yf_day_1 : ∀ w ∈ [Cond.methodLink "YearFractions" 190 ⟨"YearFractions", "requireCalendar", "(I)V"⟩, Cond.static ⟨"YearFractions", "requireCalendar", "(I)V"⟩, Cond.initialized "YearFractions"], w ∈ yW := (yAll (yW_m (lm_2 215 rfl) rfl) (yAll (yW_m (lm_2 216 rfl) rfl) (yAll (yW_m (lm_1 1 rfl) rfl) yNil)))
theorem w_Yf_day_18 : Cond.classLink "YearFractions" 48 "java/lang/IllegalArgumentException" ∈ yW := (yW_m (lm_1 199 rfl) rfl)
theorem w_Yf_day_35 : ∀ w ∈ [Cond.methodLink "YearFractions" 194 ⟨"YearFractions$Calendars", "months", "(I)I"⟩, Cond.static ⟨"YearFractions$Calendars", "months", "(I)I"⟩, Cond.initialized "YearFractions$Calendars"], w ∈ yW := (yAll (yW_m (lm_2 219 rfl) rfl) (yAll (yW_m (lm_2 220 rfl) rfl) (yAll (yW_m (lm_1 14 rfl) rfl) yNil)))
theorem w_Yf_day_41 : Cond.classLink "YearFractions" 48 "java/lang/IllegalArgumentException" ∈ yW := (yW_m (lm_1 199 rfl) rfl)
theorem w_Yf_day_62 : ∀ w ∈ [Cond.methodLink "YearFractions" 201 ⟨"YearFractions$Calendars", "monthDays", "(III)I"⟩, Cond.static ⟨"YearFractions$Calendars", "monthDays", "(III)I"⟩, Cond.initialized "YearFractions$Calendars"], w ∈ yW := (yAll (yW_m (lm_2 223 rfl) rfl) (yAll (yW_m (lm_2 224 rfl) rfl) (yAll (yW_m (lm_1 14 rfl) rfl) yNil)))
theorem w_Yf_day_68 : Cond.classLink "YearFractions" 48 "java/lang/IllegalArgumentException" ∈ yW := (yW_m (lm_1 199 rfl) rfl)
theorem w_Yf_day_80 : ∀ w ∈ [Cond.methodLink "YearFractions" 207 ⟨"YearFractions$Calendars", "newYear", "(II)I"⟩, Cond.static ⟨"YearFractions$Calendars", "newYear", "(II)I"⟩, Cond.initialized "YearFractions$Calendars"], w ∈ yW := (yAll (yW_m (lm_3 0 rfl) rfl) (yAll (yW_m (lm_3 1 rfl) rfl) (yAll (yW_m (lm_1 14 rfl) rfl) yNil)))
theorem w_Yf_day_86 : ∀ w ∈ [Cond.methodLink "YearFractions" 210 ⟨"YearFractions$Calendars", "daysAhead", "(III)I"⟩, Cond.static ⟨"YearFractions$Calendars", "daysAhead", "(III)I"⟩, Cond.initialized "YearFractions$Calendars"], w ∈ yW := (yAll (yW_m (lm_3 11 rfl) rfl) (yAll (yW_m (lm_3 12 rfl) rfl) (yAll (yW_m (lm_1 14 rfl) rfl) yNil)))
theorem w_Yf_date_1 : ∀ w ∈ [Cond.methodLink "YearFractions" 190 ⟨"YearFractions", "requireCalendar", "(I)V"⟩, Cond.static ⟨"YearFractions", "requireCalendar", "(I)V"⟩, Cond.initialized "YearFractions"], w ∈ yW := (yAll (yW_m (lm_2 215 rfl) rfl) (yAll (yW_m (lm_2 216 rfl) rfl) (yAll (yW_m (lm_1 1 rfl) rfl) yNil)))
theorem w_Yf_date_13 : Cond.classLink "YearFractions" 48 "java/lang/IllegalArgumentException" ∈ yW := (yW_m (lm_1 199 rfl) rfl)
theorem w_Yf_date_24 : Cond.constant "YearFractions" 215 (-4000000) ∈ yW := (yW_m (lm_3 23 rfl) rfl)
theorem w_Yf_date_30 : Cond.constant "YearFractions" 216 4000000 ∈ yW := (yW_m (lm_3 24 rfl) rfl)
theorem w_Yf_date_35 : Cond.classLink "YearFractions" 48 "java/lang/IllegalArgumentException" ∈ yW := (yW_m (lm_1 199 rfl) rfl)
theorem w_Yf_date_47 : ∀ w ∈ [Cond.methodLink "YearFractions" 219 ⟨"YearFractions$Calendars", "yearOf", "(II)I"⟩, Cond.static ⟨"YearFractions$Calendars", "yearOf", "(II)I"⟩, Cond.initialized "YearFractions$Calendars"], w ∈ yW := (yAll (yW_m (lm_3 26 rfl) rfl) (yAll (yW_m (lm_3 27 rfl) rfl) (yAll (yW_m (lm_1 14 rfl) rfl) yNil)))
theorem w_Yf_date_63 : ∀ w ∈ [Cond.methodLink "YearFractions" 222 ⟨"YearFractions$Calendars", "monthOf", "(III)I"⟩, Cond.static ⟨"YearFractions$Calendars", "monthOf", "(III)I"⟩, Cond.initialized "YearFractions$Calendars"], w ∈ yW := (yAll (yW_m (lm_3 37 rfl) rfl) (yAll (yW_m (lm_3 38 rfl) rfl) (yAll (yW_m (lm_1 14 rfl) rfl) yNil)))
theorem w_Yf_date_80 : ∀ w ∈ [Cond.methodLink "YearFractions" 207 ⟨"YearFractions$Calendars", "newYear", "(II)I"⟩, Cond.static ⟨"YearFractions$Calendars", "newYear", "(II)I"⟩, Cond.initialized "YearFractions$Calendars"], w ∈ yW := (yAll (yW_m (lm_3 0 rfl) rfl) (yAll (yW_m (lm_3 1 rfl) rfl) (yAll (yW_m (lm_1 14 rfl) rfl) yNil)))
theorem w_Yf_date_89 : ∀ w ∈ [Cond.methodLink "YearFractions" 210 ⟨"YearFractions$Calendars", "daysAhead", "(III)I"⟩, Cond.static ⟨"YearFractions$Calendars", "daysAhead", "(III)I"⟩, Cond.initialized "YearFractions$Calendars"], w ∈ yW := (yAll (yW_m (lm_3 11 rfl) rfl) (yAll (yW_m (lm_3 12 rfl) rfl) (yAll (yW_m (lm_1 14 rfl) rfl) yNil)))
theorem w_Yf_clear_1 : Cond.fieldLink "YearFractions" 16 "YearFractions" "rowCount" "I" ∈ yW := (yW_m (lm_1 84 rfl) rfl)
theorem w_Yf_clear_7 : Cond.fieldLink "YearFractions" 16 "YearFractions" "rowCount" "I" ∈ yW := (yW_m (lm_1 84 rfl) rfl)
theorem w_Yf_clear_12 : Cond.fieldLink "YearFractions" 20 "YearFractions" "rests" "J" ∈ yW := (yW_m (lm_1 85 rfl) rfl)
theorem w_Yf_clear_16 : Cond.fieldLink "YearFractions" 27 "YearFractions" "latestSet" "LYearFractions$LeastSet;" ∈ yW := (yW_m (lm_1 86 rfl) rfl)
theorem w_Yf_clear_20 : Cond.fieldLinkNest "YearFractions" 158 "YearFractions$LeastSet" "spans" "I" "YearFractions" ∈ yNs := yNs_m (lm_1 54 rfl) rfl
theorem w_Yf_knownRow_6 : Cond.fieldLink "YearFractions" 16 "YearFractions" "rowCount" "I" ∈ yW := (yW_m (lm_1 84 rfl) rfl)
theorem w_Yf_knownRow_12 : Cond.classLink "YearFractions" 161 "java/lang/IndexOutOfBoundsException" ∈ yW := (yW_m (lm_2 0 rfl) rfl)
theorem w_Yf_knownRow_23 : Cond.fieldLink "YearFractions" 11 "YearFractions" "rows" "[LYearFractions$Row;" ∈ yW := (yW_m (lm_1 83 rfl) rfl)
theorem w_Yf_knownRowWith_2 : ∀ w ∈ [Cond.methodLink "YearFractions" 86 ⟨"YearFractions", "knownRow", "(I)LYearFractions$Row;"⟩, Cond.instanceMethod ⟨"YearFractions", "knownRow", "(I)LYearFractions$Row;"⟩, Cond.selects "YearFractions" ⟨"YearFractions", "knownRow", "(I)LYearFractions$Row;"⟩ ⟨"YearFractions", "knownRow", "(I)LYearFractions$Row;"⟩, Cond.initialized "YearFractions"], w ∈ yW := (yAll (yW_m (lm_1 236 rfl) rfl) (yAll (yW_m (lm_1 238 rfl) rfl) (yAll (yW_m (lm_0 4 rfl) rfl) (yAll (yW_m (lm_1 1 rfl) rfl) yNil))))
theorem w_Yf_knownRowWith_8 : ∀ w ∈ [Cond.methodLink "YearFractions" 227 ⟨"YearFractions$Row", "has", "(I)Z"⟩, Cond.instanceMethod ⟨"YearFractions$Row", "has", "(I)Z"⟩, Cond.selects "YearFractions$Row" ⟨"YearFractions$Row", "has", "(I)Z"⟩ ⟨"YearFractions$Row", "has", "(I)Z"⟩, Cond.initialized "YearFractions$Row"], w ∈ yW := (yAll (yW_m (lm_2 16 rfl) rfl) (yAll (yW_m (lm_2 17 rfl) rfl) (yAll (yW_m (lm_2 18 rfl) rfl) (yAll (yW_m (lm_1 2 rfl) rfl) yNil))))
theorem w_Yf_knownRowWith_14 : Cond.classLink "YearFractions" 161 "java/lang/IndexOutOfBoundsException" ∈ yW := (yW_m (lm_2 0 rfl) rfl)
theorem w_Yf_freeRow_1 : Cond.fieldLink "YearFractions" 16 "YearFractions" "rowCount" "I" ∈ yW := (yW_m (lm_1 84 rfl) rfl)
theorem w_Yf_freeRow_9 : Cond.classLink "YearFractions" 233 "java/lang/IllegalStateException" ∈ yW := (yW_m (lm_1 130 rfl) rfl)
theorem w_Yf_freeRow_20 : Cond.fieldLink "YearFractions" 11 "YearFractions" "rows" "[LYearFractions$Row;" ∈ yW := (yW_m (lm_1 83 rfl) rfl)
theorem w_Yf_freeRow_24 : Cond.fieldLink "YearFractions" 16 "YearFractions" "rowCount" "I" ∈ yW := (yW_m (lm_1 84 rfl) rfl)
theorem w_Yf_keepFreeRow_1 : Cond.fieldLink "YearFractions" 16 "YearFractions" "rowCount" "I" ∈ yW := (yW_m (lm_1 84 rfl) rfl)
theorem w_Yf_keepFreeRow_7 : Cond.fieldLink "YearFractions" 16 "YearFractions" "rowCount" "I" ∈ yW := (yW_m (lm_1 84 rfl) rfl)
theorem w_Yf_keepFreeRow_12 : Cond.fieldLink "YearFractions" 16 "YearFractions" "rowCount" "I" ∈ yW := (yW_m (lm_1 84 rfl) rfl)
theorem w_Yf_requireDigit_9 : Cond.classLink "YearFractions" 161 "java/lang/IndexOutOfBoundsException" ∈ yW := (yW_m (lm_2 0 rfl) rfl)
theorem w_Yf_requireCalendar_9 : Cond.classLink "YearFractions" 161 "java/lang/IndexOutOfBoundsException" ∈ yW := (yW_m (lm_2 0 rfl) rfl)
theorem w_Yf_storeWeight_1 : ∀ w ∈ [Cond.methodLink "YearFractions" 242 ⟨"YearFractions$Whole", "isWeight", "()Z"⟩, Cond.instanceMethod ⟨"YearFractions$Whole", "isWeight", "()Z"⟩, Cond.selects "YearFractions$Whole" ⟨"YearFractions$Whole", "isWeight", "()Z"⟩ ⟨"YearFractions$Whole", "isWeight", "()Z"⟩, Cond.initialized "YearFractions$Whole"], w ∈ yW := (yAll (yW_m (lm_2 68 rfl) rfl) (yAll (yW_m (lm_2 69 rfl) rfl) (yAll (yW_m (lm_2 70 rfl) rfl) (yAll (yW_m (lm_1 4 rfl) rfl) yNil))))
theorem w_Yf_storeWeight_7 : Cond.classLink "YearFractions" 141 "java/lang/ArithmeticException" ∈ yW := (yW_m (lm_2 72 rfl) rfl)
theorem w_Yf_storeWeight_20 : ∀ w ∈ [Cond.methodLink "YearFractions" 79 ⟨"YearFractions$Row", "write", "(ILYearFractions$Whole;)V"⟩, Cond.instanceMethod ⟨"YearFractions$Row", "write", "(ILYearFractions$Whole;)V"⟩, Cond.selects "YearFractions$Row" ⟨"YearFractions$Row", "write", "(ILYearFractions$Whole;)V"⟩ ⟨"YearFractions$Row", "write", "(ILYearFractions$Whole;)V"⟩, Cond.initialized "YearFractions$Row"], w ∈ yW := (yAll (yW_m (lm_2 37 rfl) rfl) (yAll (yW_m (lm_2 38 rfl) rfl) (yAll (yW_m (lm_2 39 rfl) rfl) (yAll (yW_m (lm_1 2 rfl) rfl) yNil))))
theorem w_Yf_gather_2 : ∀ w ∈ [Cond.methodLink "YearFractions" 75 ⟨"YearFractions$Whole", "become", "(J)V"⟩, Cond.instanceMethod ⟨"YearFractions$Whole", "become", "(J)V"⟩, Cond.selects "YearFractions$Whole" ⟨"YearFractions$Whole", "become", "(J)V"⟩ ⟨"YearFractions$Whole", "become", "(J)V"⟩, Cond.initialized "YearFractions$Whole"], w ∈ yW := (yAll (yW_m (lm_2 36 rfl) rfl) (yAll (yW_m (lm_2 31 rfl) rfl) (yAll (yW_m (lm_2 32 rfl) rfl) (yAll (yW_m (lm_1 4 rfl) rfl) yNil))))
theorem w_Yf_gather_6 : Cond.fieldLinkNest "YearFractions" 90 "YearFractions$Row" "first" "I" "YearFractions" ∈ yNs := yNs_m (lm_1 32 rfl) rfl
theorem w_Yf_gather_12 : ∀ w ∈ [Cond.methodLink "YearFractions" 99 ⟨"YearFractions$Row", "last", "()I"⟩, Cond.instanceMethod ⟨"YearFractions$Row", "last", "()I"⟩, Cond.selects "YearFractions$Row" ⟨"YearFractions$Row", "last", "()I"⟩ ⟨"YearFractions$Row", "last", "()I"⟩, Cond.initialized "YearFractions$Row"], w ∈ yW := (yAll (yW_m (lm_2 56 rfl) rfl) (yAll (yW_m (lm_2 21 rfl) rfl) (yAll (yW_m (lm_2 22 rfl) rfl) (yAll (yW_m (lm_1 2 rfl) rfl) yNil))))
theorem w_Yf_gather_21 : ∀ w ∈ [Cond.methodLink "YearFractions" 71 ⟨"YearFractions$Row", "read", "(ILYearFractions$Whole;)V"⟩, Cond.instanceMethod ⟨"YearFractions$Row", "read", "(ILYearFractions$Whole;)V"⟩, Cond.selects "YearFractions$Row" ⟨"YearFractions$Row", "read", "(ILYearFractions$Whole;)V"⟩ ⟨"YearFractions$Row", "read", "(ILYearFractions$Whole;)V"⟩, Cond.initialized "YearFractions$Row"], w ∈ yW := (yAll (yW_m (lm_2 26 rfl) rfl) (yAll (yW_m (lm_2 27 rfl) rfl) (yAll (yW_m (lm_2 28 rfl) rfl) (yAll (yW_m (lm_1 2 rfl) rfl) yNil))))
theorem w_Yf_gather_26 : ∀ w ∈ [Cond.methodLink "YearFractions" 107 ⟨"YearFractions$Whole", "increase", "(LYearFractions$Whole;)V"⟩, Cond.instanceMethod ⟨"YearFractions$Whole", "increase", "(LYearFractions$Whole;)V"⟩, Cond.selects "YearFractions$Whole" ⟨"YearFractions$Whole", "increase", "(LYearFractions$Whole;)V"⟩ ⟨"YearFractions$Whole", "increase", "(LYearFractions$Whole;)V"⟩, Cond.initialized "YearFractions$Whole"], w ∈ yW := (yAll (yW_m (lm_2 61 rfl) rfl) (yAll (yW_m (lm_2 62 rfl) rfl) (yAll (yW_m (lm_2 63 rfl) rfl) (yAll (yW_m (lm_1 4 rfl) rfl) yNil))))
theorem w_Yf_countWeighted_3 : Cond.fieldLinkNest "YearFractions" 90 "YearFractions$Row" "first" "I" "YearFractions" ∈ yNs := yNs_m (lm_1 32 rfl) rfl
theorem w_Yf_countWeighted_9 : ∀ w ∈ [Cond.methodLink "YearFractions" 99 ⟨"YearFractions$Row", "last", "()I"⟩, Cond.instanceMethod ⟨"YearFractions$Row", "last", "()I"⟩, Cond.selects "YearFractions$Row" ⟨"YearFractions$Row", "last", "()I"⟩ ⟨"YearFractions$Row", "last", "()I"⟩, Cond.initialized "YearFractions$Row"], w ∈ yW := (yAll (yW_m (lm_2 56 rfl) rfl) (yAll (yW_m (lm_2 21 rfl) rfl) (yAll (yW_m (lm_2 22 rfl) rfl) (yAll (yW_m (lm_1 2 rfl) rfl) yNil))))
theorem w_Yf_countWeighted_18 : Cond.fieldLink "YearFractions" 34 "YearFractions" "left" "LYearFractions$Whole;" ∈ yW := (yW_m (lm_1 87 rfl) rfl)
theorem w_Yf_countWeighted_21 : ∀ w ∈ [Cond.methodLink "YearFractions" 71 ⟨"YearFractions$Row", "read", "(ILYearFractions$Whole;)V"⟩, Cond.instanceMethod ⟨"YearFractions$Row", "read", "(ILYearFractions$Whole;)V"⟩, Cond.selects "YearFractions$Row" ⟨"YearFractions$Row", "read", "(ILYearFractions$Whole;)V"⟩ ⟨"YearFractions$Row", "read", "(ILYearFractions$Whole;)V"⟩, Cond.initialized "YearFractions$Row"], w ∈ yW := (yAll (yW_m (lm_2 26 rfl) rfl) (yAll (yW_m (lm_2 27 rfl) rfl) (yAll (yW_m (lm_2 28 rfl) rfl) (yAll (yW_m (lm_1 2 rfl) rfl) yNil))))
theorem w_Yf_countWeighted_25 : Cond.fieldLink "YearFractions" 34 "YearFractions" "left" "LYearFractions$Whole;" ∈ yW := (yW_m (lm_1 87 rfl) rfl)
theorem w_Yf_countWeighted_28 : ∀ w ∈ [Cond.methodLink "YearFractions" 137 ⟨"YearFractions$Whole", "isZero", "()Z"⟩, Cond.instanceMethod ⟨"YearFractions$Whole", "isZero", "()Z"⟩, Cond.selects "YearFractions$Whole" ⟨"YearFractions$Whole", "isZero", "()Z"⟩ ⟨"YearFractions$Whole", "isZero", "()Z"⟩, Cond.initialized "YearFractions$Whole"], w ∈ yW := (yAll (yW_m (lm_2 120 rfl) rfl) (yAll (yW_m (lm_2 121 rfl) rfl) (yAll (yW_m (lm_2 122 rfl) rfl) (yAll (yW_m (lm_1 4 rfl) rfl) yNil))))
theorem w_Yf_takeUntilEnough_1 : Cond.fieldLink "YearFractions" 27 "YearFractions" "latestSet" "LYearFractions$LeastSet;" ∈ yW := (yW_m (lm_1 86 rfl) rfl)
theorem w_Yf_takeUntilEnough_5 : ∀ w ∈ [Cond.methodLink "YearFractions" 247 ⟨"YearFractions$LeastSet", "rank", "(LYearFractions$Row;)V"⟩, Cond.instanceMethod ⟨"YearFractions$LeastSet", "rank", "(LYearFractions$Row;)V"⟩, Cond.selects "YearFractions$LeastSet" ⟨"YearFractions$LeastSet", "rank", "(LYearFractions$Row;)V"⟩ ⟨"YearFractions$LeastSet", "rank", "(LYearFractions$Row;)V"⟩, Cond.initialized "YearFractions$LeastSet"], w ∈ yW := (yAll (yW_m (lm_2 133 rfl) rfl) (yAll (yW_m (lm_2 134 rfl) rfl) (yAll (yW_m (lm_2 135 rfl) rfl) (yAll (yW_m (lm_1 3 rfl) rfl) yNil))))
theorem w_Yf_takeUntilEnough_9 : Cond.fieldLink "YearFractions" 38 "YearFractions" "right" "LYearFractions$Whole;" ∈ yW := (yW_m (lm_1 88 rfl) rfl)
theorem w_Yf_takeUntilEnough_13 : ∀ w ∈ [Cond.methodLink "YearFractions" 75 ⟨"YearFractions$Whole", "become", "(J)V"⟩, Cond.instanceMethod ⟨"YearFractions$Whole", "become", "(J)V"⟩, Cond.selects "YearFractions$Whole" ⟨"YearFractions$Whole", "become", "(J)V"⟩ ⟨"YearFractions$Whole", "become", "(J)V"⟩, Cond.initialized "YearFractions$Whole"], w ∈ yW := (yAll (yW_m (lm_2 36 rfl) rfl) (yAll (yW_m (lm_2 31 rfl) rfl) (yAll (yW_m (lm_2 32 rfl) rfl) (yAll (yW_m (lm_1 4 rfl) rfl) yNil))))
theorem w_Yf_takeUntilEnough_17 : Cond.fieldLink "YearFractions" 34 "YearFractions" "left" "LYearFractions$Whole;" ∈ yW := (yW_m (lm_1 87 rfl) rfl)
theorem w_Yf_takeUntilEnough_21 : ∀ w ∈ [Cond.methodLink "YearFractions" 75 ⟨"YearFractions$Whole", "become", "(J)V"⟩, Cond.instanceMethod ⟨"YearFractions$Whole", "become", "(J)V"⟩, Cond.selects "YearFractions$Whole" ⟨"YearFractions$Whole", "become", "(J)V"⟩ ⟨"YearFractions$Whole", "become", "(J)V"⟩, Cond.initialized "YearFractions$Whole"], w ∈ yW := (yAll (yW_m (lm_2 36 rfl) rfl) (yAll (yW_m (lm_2 31 rfl) rfl) (yAll (yW_m (lm_2 32 rfl) rfl) (yAll (yW_m (lm_1 4 rfl) rfl) yNil))))
theorem w_Yf_takeUntilEnough_28 : Cond.fieldLinkNest "YearFractions" 250 "YearFractions$Row" "many" "I" "YearFractions" ∈ yNs := yNs_m (lm_1 35 rfl) rfl
theorem w_Yf_takeUntilEnough_35 : Cond.fieldLink "YearFractions" 34 "YearFractions" "left" "LYearFractions$Whole;" ∈ yW := (yW_m (lm_1 87 rfl) rfl)
theorem w_Yf_takeUntilEnough_39 : Cond.fieldLink "YearFractions" 41 "YearFractions" "result" "LYearFractions$Whole;" ∈ yW := (yW_m (lm_1 89 rfl) rfl)
theorem w_Yf_takeUntilEnough_42 : ∀ w ∈ [Cond.methodLink "YearFractions" 82 ⟨"YearFractions$Whole", "order", "(LYearFractions$Whole;)I"⟩, Cond.instanceMethod ⟨"YearFractions$Whole", "order", "(LYearFractions$Whole;)I"⟩, Cond.selects "YearFractions$Whole" ⟨"YearFractions$Whole", "order", "(LYearFractions$Whole;)I"⟩ ⟨"YearFractions$Whole", "order", "(LYearFractions$Whole;)I"⟩, Cond.initialized "YearFractions$Whole"], w ∈ yW := (yAll (yW_m (lm_2 41 rfl) rfl) (yAll (yW_m (lm_2 42 rfl) rfl) (yAll (yW_m (lm_2 43 rfl) rfl) (yAll (yW_m (lm_1 4 rfl) rfl) yNil))))
theorem w_Yf_takeUntilEnough_50 : Cond.fieldLink "YearFractions" 27 "YearFractions" "latestSet" "LYearFractions$LeastSet;" ∈ yW := (yW_m (lm_1 86 rfl) rfl)
theorem w_Yf_takeUntilEnough_55 : ∀ w ∈ [Cond.methodLink "YearFractions" 253 ⟨"YearFractions$LeastSet", "take", "(LYearFractions$Row;I)I"⟩, Cond.instanceMethod ⟨"YearFractions$LeastSet", "take", "(LYearFractions$Row;I)I"⟩, Cond.selects "YearFractions$LeastSet" ⟨"YearFractions$LeastSet", "take", "(LYearFractions$Row;I)I"⟩ ⟨"YearFractions$LeastSet", "take", "(LYearFractions$Row;I)I"⟩, Cond.initialized "YearFractions$LeastSet"], w ∈ yW := (yAll (yW_m (lm_2 141 rfl) rfl) (yAll (yW_m (lm_2 142 rfl) rfl) (yAll (yW_m (lm_2 143 rfl) rfl) (yAll (yW_m (lm_1 3 rfl) rfl) yNil))))
theorem w_Yf_takeUntilEnough_59 : Cond.fieldLink "YearFractions" 34 "YearFractions" "left" "LYearFractions$Whole;" ∈ yW := (yW_m (lm_1 87 rfl) rfl)
theorem w_Yf_takeUntilEnough_62 : ∀ w ∈ [Cond.methodLink "YearFractions" 71 ⟨"YearFractions$Row", "read", "(ILYearFractions$Whole;)V"⟩, Cond.instanceMethod ⟨"YearFractions$Row", "read", "(ILYearFractions$Whole;)V"⟩, Cond.selects "YearFractions$Row" ⟨"YearFractions$Row", "read", "(ILYearFractions$Whole;)V"⟩ ⟨"YearFractions$Row", "read", "(ILYearFractions$Whole;)V"⟩, Cond.initialized "YearFractions$Row"], w ∈ yW := (yAll (yW_m (lm_2 26 rfl) rfl) (yAll (yW_m (lm_2 27 rfl) rfl) (yAll (yW_m (lm_2 28 rfl) rfl) (yAll (yW_m (lm_1 2 rfl) rfl) yNil))))
theorem w_Yf_takeUntilEnough_66 : Cond.fieldLink "YearFractions" 38 "YearFractions" "right" "LYearFractions$Whole;" ∈ yW := (yW_m (lm_1 88 rfl) rfl)
theorem w_Yf_takeUntilEnough_70 : Cond.fieldLink "YearFractions" 34 "YearFractions" "left" "LYearFractions$Whole;" ∈ yW := (yW_m (lm_1 87 rfl) rfl)
theorem w_Yf_takeUntilEnough_73 : ∀ w ∈ [Cond.methodLink "YearFractions" 107 ⟨"YearFractions$Whole", "increase", "(LYearFractions$Whole;)V"⟩, Cond.instanceMethod ⟨"YearFractions$Whole", "increase", "(LYearFractions$Whole;)V"⟩, Cond.selects "YearFractions$Whole" ⟨"YearFractions$Whole", "increase", "(LYearFractions$Whole;)V"⟩ ⟨"YearFractions$Whole", "increase", "(LYearFractions$Whole;)V"⟩, Cond.initialized "YearFractions$Whole"], w ∈ yW := (yAll (yW_m (lm_2 61 rfl) rfl) (yAll (yW_m (lm_2 62 rfl) rfl) (yAll (yW_m (lm_2 63 rfl) rfl) (yAll (yW_m (lm_1 4 rfl) rfl) yNil))))
theorem w_Yf_takeUntilEnough_77 : Cond.fieldLink "YearFractions" 34 "YearFractions" "left" "LYearFractions$Whole;" ∈ yW := (yW_m (lm_1 87 rfl) rfl)
theorem w_Yf_takeUntilEnough_81 : Cond.fieldLink "YearFractions" 38 "YearFractions" "right" "LYearFractions$Whole;" ∈ yW := (yW_m (lm_1 88 rfl) rfl)
theorem w_Yf_takeUntilEnough_86 : ∀ w ∈ [Cond.methodLink "YearFractions" 146 ⟨"YearFractions$Whole", "becomeScaled", "(LYearFractions$Whole;J)V"⟩, Cond.instanceMethod ⟨"YearFractions$Whole", "becomeScaled", "(LYearFractions$Whole;J)V"⟩, Cond.selects "YearFractions$Whole" ⟨"YearFractions$Whole", "becomeScaled", "(LYearFractions$Whole;J)V"⟩ ⟨"YearFractions$Whole", "becomeScaled", "(LYearFractions$Whole;J)V"⟩, Cond.initialized "YearFractions$Whole"], w ∈ yW := (yAll (yW_m (lm_2 125 rfl) rfl) (yAll (yW_m (lm_2 126 rfl) rfl) (yAll (yW_m (lm_2 127 rfl) rfl) (yAll (yW_m (lm_1 4 rfl) rfl) yNil))))
end
section
/-! THE WORLD: cells from b on, by their places; h k = none: nothing is known of the cell b + k -/
abbrev yH : Type := Nat → Option va_E
def yP (D : va_G) (b : Nat) (h : yH) (H : Heap) : Prop := ∀ (k : Nat) (e : va_E), h k = some e → va_at D vwCl (b + k, e) H
def hs (h : yH) (k : Nat) (e : va_E) : yH := fun j => if j = k then some e else h j
theorem hs_eq (h : yH) (k : Nat) (e : va_E) : hs h k e k = some e := by simp [hs]
theorem hs_ne (h : yH) {k j : Nat} (e : va_E) (hn : j ≠ k) : hs h k e j = h j := by simp [hs, hn]
def oI (d : yD) (n : Nat) (F : Nat → Int) : va_E := .inl (d.2.1 0, n, .inl (fun i => iI (F i)))
def oJ (d : yD) (n : Nat) (F : Nat → Int) : va_E := .inl (d.2.1 1, n, .inr (.inl (fun i => jI (F i))))
def oZ (d : yD) (n : Nat) (F : Nat → Int) : va_E := .inl (d.2.1 2, n, .inl (fun i => iI (F i)))
def oA (d : yD) (t n : Nat) (g : Nat → Option Nat) : va_E := .inl (d.2.1 t, n, .inr (.inr (.inr (.inr g))))
abbrev oO (ci : Nat) (fs : List Value) : va_E := .inr (ci, fs)
def fu {α : Type} (f : Nat → α) (k : Nat) (x : α) : Nat → α := fun j => if j = k then x else f j
theorem fu_eq {α : Type} (f : Nat → α) (k : Nat) (x : α) : fu f k x k = x := by simp [fu]
theorem fu_ne {α : Type} (f : Nat → α) {k j : Nat} (x : α) (h : j ≠ k) : fu f k x j = f j := by simp [fu, h]
/-- what a method finds -/
def yPre (d : yD) (b n : Nat) (h : yH) (U : State) : Prop := U.heap.size = b + n ∧ yP d.1 b h U.heap ∧ va_K d.1 vwCl (yT d) U ∧ yG d b U
def yThr (C : String) (a : Nat) (t : State) : Prop := ∃ cell : Cell, t.heap[a]? = some cell ∧ cell.vm.isStatics = false ∧ t.vm.findClass C = some cell.cls
def yOut (post : Option Value → Nat → yH → Prop) (thr : String → Nat → yH → Prop) (n : Nat) (h : yH) (t : State) : Outcome → Prop
  | .returned v => post v n h
  | .threw a => ∃ C, thr C n h ∧ yThr C a t
def yQc (d : yD) (b : Nat) (post : Option Value → Nat → yH → Prop) (thr : String → Nat → yH → Prop) : Array Value → State → Outcome → State → Prop := fun _ st o t =>
  ∃ (n : Nat) (h : yH), yPre d b n h t ∧ va_F (fun q => b ≤ q) st t ∧ yOut post thr n h t o
abbrev yRm (fr lo mc ms : Nat) : Room := { frames := fr, cells := mc, slots := ms, locals := lo }
/-- A CONTRACT -/
def yM (l : Launch) (y : MethodName) (cc : ByteArray) (maxL : Nat) (ret : Option FieldType) (fr lo mc ms : Nat) (d : yD) (b n : Nat) (h : yH) (As : List Value) (post : Option Value → Nat → yH → Prop) (thr : String → Nat → yH → Prop) : Prop :=
  MX l y (.code y cc maxL ret :: yW) (yRm fr lo mc ms) (va_Pc As (yPre d b n h)) (yQc d b post thr) mc ms (fun q => b ≤ q)
abbrev noT : String → Nat → yH → Prop := fun _ _ _ => False
def yEnd (below : List Frame) (s : State) (args : Array Value) (d : yD) (b : Nat) (post : Option Value → Nat → yH → Prop) (thr : String → Nat → yH → Prop) (mc ms : Nat) : State → Prop := fun t =>
  ∃ o, t.status = .running ∧ Ended t below o ∧ yQc d b post thr args s o t ∧ ∃ L, FEX s t L mc ms ∧ ∀ q ∈ L, b ≤ q.base
/-- what stands throughout a method -/
def yC (p : Program) (l : Launch) (s : State) (m : MethodId) (args : Array Value) (meth : Method) (c : Code) (y : MethodName) (cc : ByteArray) (nL : Nat) (ret : Option FieldType) (tb : List ClassFile.ExceptionTableEntry) (d : yD) (b : Nat) : Prop :=
  p.tables.exec = Jvm.exec ∧ c.code = cc ∧ c.maxLocals = nL ∧ meth.sig.returnType = ret ∧ s.vm.findClass y.cls = some m.cls ∧ (∀ w ∈ yW, w.before args s = true) ∧ meth.locks = false ∧ va_K d.1 vwCl (yT d) s ∧ yG d b s ∧ b ≤ s.heap.size ∧ meth.name = y.name ∧ c.exceptionTable.toList = tb ∧ yL l
def V (p : Program) (l : Launch) (e : Env) (R : Room) (s : State) (m : MethodId) (args : Array Value) (below : List Frame) (meth : Method) (c : Code) (nL : Nat) (d : yD) (b : Nat) (Q : State → Prop) (cells slots n : Nat) (h : yH) (pc : Nat) (lv : List (Nat × Value)) (st : List Value) : Prop :=
  ∀ (H : Heap) (locs : List Loc) (ls : Array Slot), H.size = b + n → yP d.1 b h H → va_S (fun q => b ≤ q) s.heap H locs → lv_has ls nL lv → W p l e R s m args below meth c H locs cells slots Q (F0 m pc ls st)
section YV
variable {p : Program} {l : Launch} {e : Env} {R : Room} {s : State} {m : MethodId} {args : Array Value} {below : List Frame} {meth : Method} {c : Code} {nL : Nat} {d : yD} {b : Nat} {Q : State → Prop} {cells slots n : Nat} {h : yH} {pc : Nat} {lv : List (Nat × Value)} {st : List Value}
variable {y : MethodName} {cc : ByteArray} {ret : Option FieldType} {tb : List ClassFile.ExceptionTableEntry}
theorem V_loc {lv' : List (Nat × Value)} (hl : lsub lv' lv) (k : V p l e R s m args below meth c nL d b Q cells slots n h pc lv' st) : V p l e R s m args below meth c nL d b Q cells slots n h pc lv st :=
  fun H locs ls h1 h2 h4 h5 => k H locs ls h1 h2 h4 (lsub_has h5 hl)
theorem V_heap {h' : yH} (hh : ∀ k e, h' k = some e → h k = some e) (k : V p l e R s m args below meth c nL d b Q cells slots n h' pc lv st) : V p l e R s m args below meth c nL d b Q cells slots n h pc lv st :=
  fun H locs ls h1 h2 h4 h5 => k H locs ls h1 (fun j e0 he => h2 j e0 (hh j e0 he)) h4 h5
theorem V_pc {pc' : Nat} (hp : pc = pc') (k : V p l e R s m args below meth c nL d b Q cells slots n h pc' lv st) : V p l e R s m args below meth c nL d b Q cells slots n h pc lv st := hp ▸ k
theorem V_widen {k0 n0 : Nat} (h1 : cells ≤ k0) (h2 : slots ≤ n0) (k : V p l e R s m args below meth c nL d b Q k0 n0 n h pc lv st) : V p l e R s m args below meth c nL d b Q cells slots n h pc lv st :=
  fun H locs ls a1 a2 a4 a5 => W.widen (k := k0) (n := n0) h1 h2 (k H locs ls a1 a2 a4 a5)
-- constants
theorem V_iconst (C : yC p l s m args meth c y cc nL ret tb d b) {k : Int} {z : Int} (hdg : decode cc pc = .ok (.iconst k, 1)) (hz : k = z) (kk : V p l e R s m args below meth c nL d b Q cells slots n h (pc + 1) lv (vi z :: st)) : V p l e R s m args below meth c nL d b Q cells slots n h pc lv st := by
  subst hz
  exact fun H locs ls a1 a2 a4 a5 => lv_iconst (v := iI k) C.1 C.2.1 hdg rfl (kk H locs ls a1 a2 a4 a5)
theorem V_bipush (C : yC p l s m args meth c y cc nL ret tb d b) {k : Int} {z : Int} (hdg : decode cc pc = .ok (.bipush k, 2)) (hz : (Int8.ofInt k).toInt32 = iI z) (kk : V p l e R s m args below meth c nL d b Q cells slots n h (pc + 2) lv (vi z :: st)) : V p l e R s m args below meth c nL d b Q cells slots n h pc lv st :=
  fun H locs ls a1 a2 a4 a5 => lv_bipush C.1 C.2.1 hdg hz (kk H locs ls a1 a2 a4 a5)
theorem V_sipush (C : yC p l s m args meth c y cc nL ret tb d b) {k : Int} {z : Int} (hdg : decode cc pc = .ok (.sipush k, 3)) (hz : (Int16.ofInt k).toInt32 = iI z) (kk : V p l e R s m args below meth c nL d b Q cells slots n h (pc + 3) lv (vi z :: st)) : V p l e R s m args below meth c nL d b Q cells slots n h pc lv st :=
  fun H locs ls a1 a2 a4 a5 => lv_sipush C.1 C.2.1 hdg hz (kk H locs ls a1 a2 a4 a5)
theorem V_lconst (C : yC p l s m args meth c y cc nL ret tb d b) {k : Fin 2} {z : Int} (hdg : decode cc pc = .ok (.lconst k, 1)) (hz : Int64.ofNat (k : Nat) = jI z) (kk : V p l e R s m args below meth c nL d b Q cells slots n h (pc + 1) lv (vj z :: st)) : V p l e R s m args below meth c nL d b Q cells slots n h pc lv st :=
  fun H locs ls a1 a2 a4 a5 => lv_lconst C.1 C.2.1 hdg hz (kk H locs ls a1 a2 a4 a5)
-- locals
theorem V_iload_n (C : yC p l s m args meth c y cc nL ret tb d b) {k : Fin 4} {i : Nat} {x : Int} (hdg : decode cc pc = .ok (.iload_n k, 1)) (hi : (k : Nat) = i) (hl : lk lv i = some (vi x)) (kk : V p l e R s m args below meth c nL d b Q cells slots n h (pc + 1) lv (vi x :: st)) : V p l e R s m args below meth c nL d b Q cells slots n h pc lv st :=
  fun H locs ls a1 a2 a4 a5 => lv_iload_n C.1 C.2.1 hdg hi (lk_has a5 hl) (kk H locs ls a1 a2 a4 a5)
theorem V_iload (C : yC p l s m args meth c y cc nL ret tb d b) {i : Nat} {x : Int} (hdg : decode cc pc = .ok (.iload i, 2)) (hl : lk lv i = some (vi x)) (kk : V p l e R s m args below meth c nL d b Q cells slots n h (pc + 2) lv (vi x :: st)) : V p l e R s m args below meth c nL d b Q cells slots n h pc lv st :=
  fun H locs ls a1 a2 a4 a5 => lv_iload C.1 C.2.1 hdg (lk_has a5 hl) (kk H locs ls a1 a2 a4 a5)
theorem V_lload_n (C : yC p l s m args meth c y cc nL ret tb d b) {k : Fin 4} {i : Nat} {x : Int} (hdg : decode cc pc = .ok (.lload_n k, 1)) (hi : (k : Nat) = i) (hl : lk lv i = some (vj x)) (kk : V p l e R s m args below meth c nL d b Q cells slots n h (pc + 1) lv (vj x :: st)) : V p l e R s m args below meth c nL d b Q cells slots n h pc lv st :=
  fun H locs ls a1 a2 a4 a5 => lv_lload_n C.1 C.2.1 hdg hi (lk_has a5 hl) (kk H locs ls a1 a2 a4 a5)
theorem V_lload (C : yC p l s m args meth c y cc nL ret tb d b) {i : Nat} {x : Int} (hdg : decode cc pc = .ok (.lload i, 2)) (hl : lk lv i = some (vj x)) (kk : V p l e R s m args below meth c nL d b Q cells slots n h (pc + 2) lv (vj x :: st)) : V p l e R s m args below meth c nL d b Q cells slots n h pc lv st :=
  fun H locs ls a1 a2 a4 a5 => lv_lload C.1 C.2.1 hdg (lk_has a5 hl) (kk H locs ls a1 a2 a4 a5)
theorem V_aload_n (C : yC p l s m args meth c y cc nL ret tb d b) {k : Fin 4} {i : Nat} {x : Nat} (hdg : decode cc pc = .ok (.aload_n k, 1)) (hi : (k : Nat) = i) (hl : lk lv i = some (.ref x)) (kk : V p l e R s m args below meth c nL d b Q cells slots n h (pc + 1) lv (.ref x :: st)) : V p l e R s m args below meth c nL d b Q cells slots n h pc lv st :=
  fun H locs ls a1 a2 a4 a5 => lv_aload_n C.1 C.2.1 hdg hi (lk_has a5 hl) (kk H locs ls a1 a2 a4 a5)
theorem V_aload (C : yC p l s m args meth c y cc nL ret tb d b) {i : Nat} {x : Nat} (hdg : decode cc pc = .ok (.aload i, 2)) (hl : lk lv i = some (.ref x)) (kk : V p l e R s m args below meth c nL d b Q cells slots n h (pc + 2) lv (.ref x :: st)) : V p l e R s m args below meth c nL d b Q cells slots n h pc lv st :=
  fun H locs ls a1 a2 a4 a5 => lv_aload C.1 C.2.1 hdg (lk_has a5 hl) (kk H locs ls a1 a2 a4 a5)
def ls1 (lv : List (Nat × Value)) (i : Nat) (v : Value) : List (Nat × Value) := (i, v) :: lv.filter (fun q => !(q.1 == i) && !(q.1 + 1 == i && q.2.category == 2))
def ls2 (lv : List (Nat × Value)) (i : Nat) (v : Value) : List (Nat × Value) := (i, v) :: lv.filter (fun q => !(q.1 == i) && (!(q.1 == i + 1) && !(q.1 + 1 == i && q.2.category == 2)))
theorem V_istore_n (C : yC p l s m args meth c y cc nL ret tb d b) {k : Fin 4} {i : Nat} {x : Int} {lv' : List (Nat × Value)} (hdg : decode cc pc = .ok (.istore_n k, 1)) (hi : (k : Nat) = i) (hn : i < nL) (hl : ls1 lv i (vi x) = lv') (kk : V p l e R s m args below meth c nL d b Q cells slots n h (pc + 1) lv' st) : V p l e R s m args below meth c nL d b Q cells slots n h pc lv (vi x :: st) :=
  fun H locs ls a1 a2 a4 a5 => lv_istore_n C.1 C.2.1 hdg hi a5 hn hl (fun ls' a6 => kk H locs ls' a1 a2 a4 a6)
theorem V_istore (C : yC p l s m args meth c y cc nL ret tb d b) {i : Nat} {x : Int} {lv' : List (Nat × Value)} (hdg : decode cc pc = .ok (.istore i, 2)) (hn : i < nL) (hl : ls1 lv i (vi x) = lv') (kk : V p l e R s m args below meth c nL d b Q cells slots n h (pc + 2) lv' st) : V p l e R s m args below meth c nL d b Q cells slots n h pc lv (vi x :: st) :=
  fun H locs ls a1 a2 a4 a5 => lv_istore C.1 C.2.1 hdg a5 hn hl (fun ls' a6 => kk H locs ls' a1 a2 a4 a6)
theorem V_astore_n (C : yC p l s m args meth c y cc nL ret tb d b) {k : Fin 4} {i : Nat} {x : Nat} {lv' : List (Nat × Value)} (hdg : decode cc pc = .ok (.astore_n k, 1)) (hi : (k : Nat) = i) (hn : i < nL) (hl : ls1 lv i (.ref x) = lv') (kk : V p l e R s m args below meth c nL d b Q cells slots n h (pc + 1) lv' st) : V p l e R s m args below meth c nL d b Q cells slots n h pc lv (.ref x :: st) :=
  fun H locs ls a1 a2 a4 a5 => lv_astore_n C.1 C.2.1 hdg hi a5 hn hl (fun ls' a6 => kk H locs ls' a1 a2 a4 a6)
theorem V_astore (C : yC p l s m args meth c y cc nL ret tb d b) {i : Nat} {x : Nat} {lv' : List (Nat × Value)} (hdg : decode cc pc = .ok (.astore i, 2)) (hn : i < nL) (hl : ls1 lv i (.ref x) = lv') (kk : V p l e R s m args below meth c nL d b Q cells slots n h (pc + 2) lv' st) : V p l e R s m args below meth c nL d b Q cells slots n h pc lv (.ref x :: st) :=
  fun H locs ls a1 a2 a4 a5 => lv_astore C.1 C.2.1 hdg a5 hn hl (fun ls' a6 => kk H locs ls' a1 a2 a4 a6)
theorem V_lstore_n (C : yC p l s m args meth c y cc nL ret tb d b) {k : Fin 4} {i : Nat} {x : Int} {lv' : List (Nat × Value)} (hdg : decode cc pc = .ok (.lstore_n k, 1)) (hi : (k : Nat) = i) (hn : i + 1 < nL) (hl : ls2 lv i (vj x) = lv') (kk : V p l e R s m args below meth c nL d b Q cells slots n h (pc + 1) lv' st) : V p l e R s m args below meth c nL d b Q cells slots n h pc lv (vj x :: st) :=
  fun H locs ls a1 a2 a4 a5 => lv_lstore_n C.1 C.2.1 hdg hi a5 hn hl (fun ls' a6 => kk H locs ls' a1 a2 a4 a6)
theorem V_lstore (C : yC p l s m args meth c y cc nL ret tb d b) {i : Nat} {x : Int} {lv' : List (Nat × Value)} (hdg : decode cc pc = .ok (.lstore i, 2)) (hn : i + 1 < nL) (hl : ls2 lv i (vj x) = lv') (kk : V p l e R s m args below meth c nL d b Q cells slots n h (pc + 2) lv' st) : V p l e R s m args below meth c nL d b Q cells slots n h pc lv (vj x :: st) :=
  fun H locs ls a1 a2 a4 a5 => lv_lstore C.1 C.2.1 hdg a5 hn hl (fun ls' a6 => kk H locs ls' a1 a2 a4 a6)
theorem V_iinc (C : yC p l s m args meth c y cc nL ret tb d b) {i : Nat} {k x z : Int} {lv' : List (Nat × Value)} (hdg : decode cc pc = .ok (.iinc i k, 3)) (hx : lk lv i = some (vi x)) (hz : x + k = z) (hn : i < nL) (hl : ls1 lv i (vi z) = lv') (kk : V p l e R s m args below meth c nL d b Q cells slots n h (pc + 3) lv' st) : V p l e R s m args below meth c nL d b Q cells slots n h pc lv st := by
  intro H locs ls a1 a2 a4 a5
  obtain ⟨j, hj⟩ := List.getElem?_of_mem (lk_mem hx)
  exact lv_iinc (v := iI z) C.1 C.2.1 hdg a5 (k := j) hj (by rw [← hz]; exact iI_add x k) hn hl (fun ls' a6 => kk H locs ls' a1 a2 a4 a6)
-- the operand stack
theorem V_dup (C : yC p l s m args meth c y cc nL ret tb d b) {v : Value} (hdg : decode cc pc = .ok (.dup, 1)) (hv : v.category = 1) (kk : V p l e R s m args below meth c nL d b Q cells slots n h (pc + 1) lv (v :: v :: st)) : V p l e R s m args below meth c nL d b Q cells slots n h pc lv (v :: st) :=
  fun H locs ls a1 a2 a4 a5 => lv_dup C.1 C.2.1 hdg hv (kk H locs ls a1 a2 a4 a5)
theorem V_dup2_11 (C : yC p l s m args meth c y cc nL ret tb d b) {v w : Value} (hdg : decode cc pc = .ok (.dup2, 1)) (hv : v.category = 1) (hw : w.category = 1) (kk : V p l e R s m args below meth c nL d b Q cells slots n h (pc + 1) lv (v :: w :: v :: w :: st)) : V p l e R s m args below meth c nL d b Q cells slots n h pc lv (v :: w :: st) :=
  fun H locs ls a1 a2 a4 a5 => lv_dup2_11 C.1 C.2.1 hdg hv hw (kk H locs ls a1 a2 a4 a5)
theorem V_dup_x1 (C : yC p l s m args meth c y cc nL ret tb d b) {v w : Value} (hdg : decode cc pc = .ok (.dup_x1, 1)) (hv : v.category = 1) (hw : w.category = 1) (kk : V p l e R s m args below meth c nL d b Q cells slots n h (pc + 1) lv (v :: w :: v :: st)) : V p l e R s m args below meth c nL d b Q cells slots n h pc lv (v :: w :: st) :=
  fun H locs ls a1 a2 a4 a5 => lv_dup_x1 C.1 C.2.1 hdg hv hw (kk H locs ls a1 a2 a4 a5)
theorem V_pop (C : yC p l s m args meth c y cc nL ret tb d b) {v : Value} (hdg : decode cc pc = .ok (.pop, 1)) (hv : v.category = 1) (kk : V p l e R s m args below meth c nL d b Q cells slots n h (pc + 1) lv st) : V p l e R s m args below meth c nL d b Q cells slots n h pc lv (v :: st) :=
  fun H locs ls a1 a2 a4 a5 => lv_pop C.1 C.2.1 hdg hv (kk H locs ls a1 a2 a4 a5)
-- arithmetic
theorem V_iadd (C : yC p l s m args meth c y cc nL ret tb d b) {x z : Int} (hdg : decode cc pc = .ok (.iadd, 1)) (kk : V p l e R s m args below meth c nL d b Q cells slots n h (pc + 1) lv (vi (x + z) :: st)) : V p l e R s m args below meth c nL d b Q cells slots n h pc lv (vi z :: vi x :: st) :=
  fun H locs ls a1 a2 a4 a5 => lv_iadd C.1 C.2.1 hdg (by rw [iI_add]; exact kk H locs ls a1 a2 a4 a5)
theorem V_isub (C : yC p l s m args meth c y cc nL ret tb d b) {x z : Int} (hdg : decode cc pc = .ok (.isub, 1)) (kk : V p l e R s m args below meth c nL d b Q cells slots n h (pc + 1) lv (vi (x - z) :: st)) : V p l e R s m args below meth c nL d b Q cells slots n h pc lv (vi z :: vi x :: st) :=
  fun H locs ls a1 a2 a4 a5 => lv_isub C.1 C.2.1 hdg (by rw [iI_sub]; exact kk H locs ls a1 a2 a4 a5)
theorem V_imul (C : yC p l s m args meth c y cc nL ret tb d b) {x z : Int} (hdg : decode cc pc = .ok (.imul, 1)) (kk : V p l e R s m args below meth c nL d b Q cells slots n h (pc + 1) lv (vi (x * z) :: st)) : V p l e R s m args below meth c nL d b Q cells slots n h pc lv (vi z :: vi x :: st) :=
  fun H locs ls a1 a2 a4 a5 => lv_imul C.1 C.2.1 hdg (by rw [iI_mul]; exact kk H locs ls a1 a2 a4 a5)
theorem V_ineg (C : yC p l s m args meth c y cc nL ret tb d b) {x : Int} (hdg : decode cc pc = .ok (.ineg, 1)) (kk : V p l e R s m args below meth c nL d b Q cells slots n h (pc + 1) lv (vi (-x) :: st)) : V p l e R s m args below meth c nL d b Q cells slots n h pc lv (vi x :: st) :=
  fun H locs ls a1 a2 a4 a5 => lv_ineg C.1 C.2.1 hdg (by rw [iI_neg]; exact kk H locs ls a1 a2 a4 a5)
theorem V_idiv (C : yC p l s m args meth c y cc nL ret tb d b) {x z : Int} (hdg : decode cc pc = .ok (.idiv, 1)) (hx : inI x) (hz : inI z) (h0 : z ≠ 0) (kk : V p l e R s m args below meth c nL d b Q cells slots n h (pc + 1) lv (vi (x.tdiv z) :: st)) : V p l e R s m args below meth c nL d b Q cells slots n h pc lv (vi z :: vi x :: st) :=
  fun H locs ls a1 a2 a4 a5 => lv_idiv C.1 C.2.1 hdg (fun q => h0 ((iI_eq hz inI_0).mp q)) (by rw [iI_div hx hz]; exact kk H locs ls a1 a2 a4 a5)
theorem V_irem (C : yC p l s m args meth c y cc nL ret tb d b) {x z : Int} (hdg : decode cc pc = .ok (.irem, 1)) (hx : inI x) (hz : inI z) (h0 : z ≠ 0) (kk : V p l e R s m args below meth c nL d b Q cells slots n h (pc + 1) lv (vi (x.tmod z) :: st)) : V p l e R s m args below meth c nL d b Q cells slots n h pc lv (vi z :: vi x :: st) :=
  fun H locs ls a1 a2 a4 a5 => lv_irem C.1 C.2.1 hdg (fun q => h0 ((iI_eq hz inI_0).mp q)) (by rw [iI_rem hx hz]; exact kk H locs ls a1 a2 a4 a5)
theorem V_ladd (C : yC p l s m args meth c y cc nL ret tb d b) {x z : Int} (hdg : decode cc pc = .ok (.ladd, 1)) (kk : V p l e R s m args below meth c nL d b Q cells slots n h (pc + 1) lv (vj (x + z) :: st)) : V p l e R s m args below meth c nL d b Q cells slots n h pc lv (vj z :: vj x :: st) :=
  fun H locs ls a1 a2 a4 a5 => lv_ladd C.1 C.2.1 hdg (by rw [jI_add]; exact kk H locs ls a1 a2 a4 a5)
theorem V_lsub (C : yC p l s m args meth c y cc nL ret tb d b) {x z : Int} (hdg : decode cc pc = .ok (.lsub, 1)) (kk : V p l e R s m args below meth c nL d b Q cells slots n h (pc + 1) lv (vj (x - z) :: st)) : V p l e R s m args below meth c nL d b Q cells slots n h pc lv (vj z :: vj x :: st) :=
  fun H locs ls a1 a2 a4 a5 => lv_lsub C.1 C.2.1 hdg (by rw [jI_sub]; exact kk H locs ls a1 a2 a4 a5)
theorem V_lmul (C : yC p l s m args meth c y cc nL ret tb d b) {x z : Int} (hdg : decode cc pc = .ok (.lmul, 1)) (kk : V p l e R s m args below meth c nL d b Q cells slots n h (pc + 1) lv (vj (x * z) :: st)) : V p l e R s m args below meth c nL d b Q cells slots n h pc lv (vj z :: vj x :: st) :=
  fun H locs ls a1 a2 a4 a5 => lv_lmul C.1 C.2.1 hdg (by rw [jI_mul]; exact kk H locs ls a1 a2 a4 a5)
theorem V_lneg (C : yC p l s m args meth c y cc nL ret tb d b) {x : Int} (hdg : decode cc pc = .ok (.lneg, 1)) (kk : V p l e R s m args below meth c nL d b Q cells slots n h (pc + 1) lv (vj (-x) :: st)) : V p l e R s m args below meth c nL d b Q cells slots n h pc lv (vj x :: st) :=
  fun H locs ls a1 a2 a4 a5 => lv_lneg C.1 C.2.1 hdg (by rw [jI_neg]; exact kk H locs ls a1 a2 a4 a5)
theorem V_ldiv (C : yC p l s m args meth c y cc nL ret tb d b) {x z : Int} (hdg : decode cc pc = .ok (.ldiv, 1)) (hx : inJ x) (hz : inJ z) (h0 : z ≠ 0) (kk : V p l e R s m args below meth c nL d b Q cells slots n h (pc + 1) lv (vj (x.tdiv z) :: st)) : V p l e R s m args below meth c nL d b Q cells slots n h pc lv (vj z :: vj x :: st) :=
  fun H locs ls a1 a2 a4 a5 => lv_ldiv C.1 C.2.1 hdg (fun q => h0 ((jI_eq hz inJ_0).mp q)) (by rw [jI_div hx hz]; exact kk H locs ls a1 a2 a4 a5)
theorem V_lrem (C : yC p l s m args meth c y cc nL ret tb d b) {x z : Int} (hdg : decode cc pc = .ok (.lrem, 1)) (hx : inJ x) (hz : inJ z) (h0 : z ≠ 0) (kk : V p l e R s m args below meth c nL d b Q cells slots n h (pc + 1) lv (vj (x.tmod z) :: st)) : V p l e R s m args below meth c nL d b Q cells slots n h pc lv (vj z :: vj x :: st) :=
  fun H locs ls a1 a2 a4 a5 => lv_lrem C.1 C.2.1 hdg (fun q => h0 ((jI_eq hz inJ_0).mp q)) (by rw [jI_rem hx hz]; exact kk H locs ls a1 a2 a4 a5)
theorem V_i2l (C : yC p l s m args meth c y cc nL ret tb d b) {x : Int} (hdg : decode cc pc = .ok (.i2l, 1)) (hx : inI x) (kk : V p l e R s m args below meth c nL d b Q cells slots n h (pc + 1) lv (vj x :: st)) : V p l e R s m args below meth c nL d b Q cells slots n h pc lv (vi x :: st) :=
  fun H locs ls a1 a2 a4 a5 => lv_i2l C.1 C.2.1 hdg (iI_l hx) (kk H locs ls a1 a2 a4 a5)
theorem V_l2i (C : yC p l s m args meth c y cc nL ret tb d b) {x : Int} (hdg : decode cc pc = .ok (.l2i, 1)) (kk : V p l e R s m args below meth c nL d b Q cells slots n h (pc + 1) lv (vi x :: st)) : V p l e R s m args below meth c nL d b Q cells slots n h pc lv (vj x :: st) :=
  fun H locs ls a1 a2 a4 a5 => lv_l2i C.1 C.2.1 hdg (jI_i x) (kk H locs ls a1 a2 a4 a5)
theorem V_icmp_eq (C : yC p l s m args meth c y cc nL ret tb d b) {x z : Int} {off : Int} {tgt : Nat} (hdg : decode cc pc = .ok (.if_icmp .eq off, 3)) (ht : (pc : Int) + off = (tgt : Int)) (hx : inI x) (hz : inI z) (kt : x = z → V p l e R s m args below meth c nL d b Q cells slots n h tgt lv st) (kf : ¬ x = z → V p l e R s m args below meth c nL d b Q cells slots n h (pc + 3) lv st) : V p l e R s m args below meth c nL d b Q cells slots n h pc lv (vi z :: vi x :: st) :=
  fun H locs ls a1 a2 a4 a5 => lv_icmp_eq C.1 C.2.1 hdg ht (fun q => kt ((iI_eq hx hz).mp q) H locs ls a1 a2 a4 a5) (fun q => kf (fun r => q ((iI_eq hx hz).mpr r)) H locs ls a1 a2 a4 a5)
theorem V_if_eq (C : yC p l s m args meth c y cc nL ret tb d b) {x : Int} {off : Int} {tgt : Nat} (hdg : decode cc pc = .ok (.ifCond .eq off, 3)) (ht : (pc : Int) + off = (tgt : Int)) (hx : inI x) (kt : x = 0 → V p l e R s m args below meth c nL d b Q cells slots n h tgt lv st) (kf : ¬ x = 0 → V p l e R s m args below meth c nL d b Q cells slots n h (pc + 3) lv st) : V p l e R s m args below meth c nL d b Q cells slots n h pc lv (vi x :: st) :=
  fun H locs ls a1 a2 a4 a5 => lv_if_eq C.1 C.2.1 hdg ht (fun q => kt ((iI_eq hx inI_0).mp q) H locs ls a1 a2 a4 a5) (fun q => kf (fun r => q ((iI_eq hx inI_0).mpr r)) H locs ls a1 a2 a4 a5)
theorem V_icmp_ne (C : yC p l s m args meth c y cc nL ret tb d b) {x z : Int} {off : Int} {tgt : Nat} (hdg : decode cc pc = .ok (.if_icmp .ne off, 3)) (ht : (pc : Int) + off = (tgt : Int)) (hx : inI x) (hz : inI z) (kt : ¬ x = z → V p l e R s m args below meth c nL d b Q cells slots n h tgt lv st) (kf : x = z → V p l e R s m args below meth c nL d b Q cells slots n h (pc + 3) lv st) : V p l e R s m args below meth c nL d b Q cells slots n h pc lv (vi z :: vi x :: st) :=
  fun H locs ls a1 a2 a4 a5 => lv_icmp_ne C.1 C.2.1 hdg ht (fun q => kt (fun r => q ((iI_eq hx hz).mpr r)) H locs ls a1 a2 a4 a5) (fun q => kf ((iI_eq hx hz).mp q) H locs ls a1 a2 a4 a5)
theorem V_if_ne (C : yC p l s m args meth c y cc nL ret tb d b) {x : Int} {off : Int} {tgt : Nat} (hdg : decode cc pc = .ok (.ifCond .ne off, 3)) (ht : (pc : Int) + off = (tgt : Int)) (hx : inI x) (kt : ¬ x = 0 → V p l e R s m args below meth c nL d b Q cells slots n h tgt lv st) (kf : x = 0 → V p l e R s m args below meth c nL d b Q cells slots n h (pc + 3) lv st) : V p l e R s m args below meth c nL d b Q cells slots n h pc lv (vi x :: st) :=
  fun H locs ls a1 a2 a4 a5 => lv_if_ne C.1 C.2.1 hdg ht (fun q => kt (fun r => q ((iI_eq hx inI_0).mpr r)) H locs ls a1 a2 a4 a5) (fun q => kf ((iI_eq hx inI_0).mp q) H locs ls a1 a2 a4 a5)
theorem V_icmp_lt (C : yC p l s m args meth c y cc nL ret tb d b) {x z : Int} {off : Int} {tgt : Nat} (hdg : decode cc pc = .ok (.if_icmp .lt off, 3)) (ht : (pc : Int) + off = (tgt : Int)) (hx : inI x) (hz : inI z) (kt : x < z → V p l e R s m args below meth c nL d b Q cells slots n h tgt lv st) (kf : ¬ x < z → V p l e R s m args below meth c nL d b Q cells slots n h (pc + 3) lv st) : V p l e R s m args below meth c nL d b Q cells slots n h pc lv (vi z :: vi x :: st) :=
  fun H locs ls a1 a2 a4 a5 => lv_icmp_lt C.1 C.2.1 hdg ht (fun q => kt ((iI_lt hx hz).mp q) H locs ls a1 a2 a4 a5) (fun q => kf (fun r => q ((iI_lt hx hz).mpr r)) H locs ls a1 a2 a4 a5)
theorem V_if_lt (C : yC p l s m args meth c y cc nL ret tb d b) {x : Int} {off : Int} {tgt : Nat} (hdg : decode cc pc = .ok (.ifCond .lt off, 3)) (ht : (pc : Int) + off = (tgt : Int)) (hx : inI x) (kt : x < 0 → V p l e R s m args below meth c nL d b Q cells slots n h tgt lv st) (kf : ¬ x < 0 → V p l e R s m args below meth c nL d b Q cells slots n h (pc + 3) lv st) : V p l e R s m args below meth c nL d b Q cells slots n h pc lv (vi x :: st) :=
  fun H locs ls a1 a2 a4 a5 => lv_if_lt C.1 C.2.1 hdg ht (fun q => kt ((iI_lt hx inI_0).mp q) H locs ls a1 a2 a4 a5) (fun q => kf (fun r => q ((iI_lt hx inI_0).mpr r)) H locs ls a1 a2 a4 a5)
theorem V_icmp_ge (C : yC p l s m args meth c y cc nL ret tb d b) {x z : Int} {off : Int} {tgt : Nat} (hdg : decode cc pc = .ok (.if_icmp .ge off, 3)) (ht : (pc : Int) + off = (tgt : Int)) (hx : inI x) (hz : inI z) (kt : z ≤ x → V p l e R s m args below meth c nL d b Q cells slots n h tgt lv st) (kf : ¬ z ≤ x → V p l e R s m args below meth c nL d b Q cells slots n h (pc + 3) lv st) : V p l e R s m args below meth c nL d b Q cells slots n h pc lv (vi z :: vi x :: st) :=
  fun H locs ls a1 a2 a4 a5 => lv_icmp_ge C.1 C.2.1 hdg ht (fun q => kt ((iI_le hz hx).mp q) H locs ls a1 a2 a4 a5) (fun q => kf (fun r => q ((iI_le hz hx).mpr r)) H locs ls a1 a2 a4 a5)
theorem V_if_ge (C : yC p l s m args meth c y cc nL ret tb d b) {x : Int} {off : Int} {tgt : Nat} (hdg : decode cc pc = .ok (.ifCond .ge off, 3)) (ht : (pc : Int) + off = (tgt : Int)) (hx : inI x) (kt : 0 ≤ x → V p l e R s m args below meth c nL d b Q cells slots n h tgt lv st) (kf : ¬ 0 ≤ x → V p l e R s m args below meth c nL d b Q cells slots n h (pc + 3) lv st) : V p l e R s m args below meth c nL d b Q cells slots n h pc lv (vi x :: st) :=
  fun H locs ls a1 a2 a4 a5 => lv_if_ge C.1 C.2.1 hdg ht (fun q => kt ((iI_le inI_0 hx).mp q) H locs ls a1 a2 a4 a5) (fun q => kf (fun r => q ((iI_le inI_0 hx).mpr r)) H locs ls a1 a2 a4 a5)
theorem V_icmp_gt (C : yC p l s m args meth c y cc nL ret tb d b) {x z : Int} {off : Int} {tgt : Nat} (hdg : decode cc pc = .ok (.if_icmp .gt off, 3)) (ht : (pc : Int) + off = (tgt : Int)) (hx : inI x) (hz : inI z) (kt : z < x → V p l e R s m args below meth c nL d b Q cells slots n h tgt lv st) (kf : ¬ z < x → V p l e R s m args below meth c nL d b Q cells slots n h (pc + 3) lv st) : V p l e R s m args below meth c nL d b Q cells slots n h pc lv (vi z :: vi x :: st) :=
  fun H locs ls a1 a2 a4 a5 => lv_icmp_gt C.1 C.2.1 hdg ht (fun q => kt ((iI_lt hz hx).mp q) H locs ls a1 a2 a4 a5) (fun q => kf (fun r => q ((iI_lt hz hx).mpr r)) H locs ls a1 a2 a4 a5)
theorem V_if_gt (C : yC p l s m args meth c y cc nL ret tb d b) {x : Int} {off : Int} {tgt : Nat} (hdg : decode cc pc = .ok (.ifCond .gt off, 3)) (ht : (pc : Int) + off = (tgt : Int)) (hx : inI x) (kt : 0 < x → V p l e R s m args below meth c nL d b Q cells slots n h tgt lv st) (kf : ¬ 0 < x → V p l e R s m args below meth c nL d b Q cells slots n h (pc + 3) lv st) : V p l e R s m args below meth c nL d b Q cells slots n h pc lv (vi x :: st) :=
  fun H locs ls a1 a2 a4 a5 => lv_if_gt C.1 C.2.1 hdg ht (fun q => kt ((iI_lt inI_0 hx).mp q) H locs ls a1 a2 a4 a5) (fun q => kf (fun r => q ((iI_lt inI_0 hx).mpr r)) H locs ls a1 a2 a4 a5)
theorem V_icmp_le (C : yC p l s m args meth c y cc nL ret tb d b) {x z : Int} {off : Int} {tgt : Nat} (hdg : decode cc pc = .ok (.if_icmp .le off, 3)) (ht : (pc : Int) + off = (tgt : Int)) (hx : inI x) (hz : inI z) (kt : x ≤ z → V p l e R s m args below meth c nL d b Q cells slots n h tgt lv st) (kf : ¬ x ≤ z → V p l e R s m args below meth c nL d b Q cells slots n h (pc + 3) lv st) : V p l e R s m args below meth c nL d b Q cells slots n h pc lv (vi z :: vi x :: st) :=
  fun H locs ls a1 a2 a4 a5 => lv_icmp_le C.1 C.2.1 hdg ht (fun q => kt ((iI_le hx hz).mp q) H locs ls a1 a2 a4 a5) (fun q => kf (fun r => q ((iI_le hx hz).mpr r)) H locs ls a1 a2 a4 a5)
theorem V_if_le (C : yC p l s m args meth c y cc nL ret tb d b) {x : Int} {off : Int} {tgt : Nat} (hdg : decode cc pc = .ok (.ifCond .le off, 3)) (ht : (pc : Int) + off = (tgt : Int)) (hx : inI x) (kt : x ≤ 0 → V p l e R s m args below meth c nL d b Q cells slots n h tgt lv st) (kf : ¬ x ≤ 0 → V p l e R s m args below meth c nL d b Q cells slots n h (pc + 3) lv st) : V p l e R s m args below meth c nL d b Q cells slots n h pc lv (vi x :: st) :=
  fun H locs ls a1 a2 a4 a5 => lv_if_le C.1 C.2.1 hdg ht (fun q => kt ((iI_le hx inI_0).mp q) H locs ls a1 a2 a4 a5) (fun q => kf (fun r => q ((iI_le hx inI_0).mpr r)) H locs ls a1 a2 a4 a5)
theorem V_goto (C : yC p l s m args meth c y cc nL ret tb d b) {off : Int} {tgt : Nat} (hdg : decode cc pc = .ok (.goto off, 3)) (ht : (pc : Int) + off = (tgt : Int)) (kk : V p l e R s m args below meth c nL d b Q cells slots n h tgt lv st) : V p l e R s m args below meth c nL d b Q cells slots n h pc lv st :=
  fun H locs ls a1 a2 a4 a5 => lv_goto C.1 C.2.1 hdg ht (kk H locs ls a1 a2 a4 a5)
-- of numbers that are not below 0
theorem V_ldivP (C : yC p l s m args meth c y cc nL ret tb d b) {x z : Int} (hdg : decode cc pc = .ok (.ldiv, 1)) (h0 : 0 ≤ x) (hx : x ≤ 9223372036854775807) (hz0 : 0 < z) (hz : z ≤ 9223372036854775807) (kk : V p l e R s m args below meth c nL d b Q cells slots n h (pc + 1) lv (vj (x / z) :: st)) : V p l e R s m args below meth c nL d b Q cells slots n h pc lv (vj z :: vj x :: st) :=
  V_ldiv C hdg ⟨by omega, hx⟩ ⟨by omega, hz⟩ (by omega) (by rw [Int.tdiv_eq_ediv_of_nonneg h0]; exact kk)
theorem V_lremP (C : yC p l s m args meth c y cc nL ret tb d b) {x z : Int} (hdg : decode cc pc = .ok (.lrem, 1)) (h0 : 0 ≤ x) (hx : x ≤ 9223372036854775807) (hz0 : 0 < z) (hz : z ≤ 9223372036854775807) (kk : V p l e R s m args below meth c nL d b Q cells slots n h (pc + 1) lv (vj (x % z) :: st)) : V p l e R s m args below meth c nL d b Q cells slots n h pc lv (vj z :: vj x :: st) :=
  V_lrem C hdg ⟨by omega, hx⟩ ⟨by omega, hz⟩ (by omega) (by rw [Int.tmod_eq_emod_of_nonneg h0]; exact kk)
theorem V_idivP (C : yC p l s m args meth c y cc nL ret tb d b) {x z : Int} (hdg : decode cc pc = .ok (.idiv, 1)) (h0 : 0 ≤ x) (hx : x ≤ 2147483647) (hz0 : 0 < z) (hz : z ≤ 2147483647) (kk : V p l e R s m args below meth c nL d b Q cells slots n h (pc + 1) lv (vi (x / z) :: st)) : V p l e R s m args below meth c nL d b Q cells slots n h pc lv (vi z :: vi x :: st) :=
  V_idiv C hdg ⟨by omega, hx⟩ ⟨by omega, hz⟩ (by omega) (by rw [Int.tdiv_eq_ediv_of_nonneg h0]; exact kk)
theorem V_iremP (C : yC p l s m args meth c y cc nL ret tb d b) {x z : Int} (hdg : decode cc pc = .ok (.irem, 1)) (h0 : 0 ≤ x) (hx : x ≤ 2147483647) (hz0 : 0 < z) (hz : z ≤ 2147483647) (kk : V p l e R s m args below meth c nL d b Q cells slots n h (pc + 1) lv (vi (x % z) :: st)) : V p l e R s m args below meth c nL d b Q cells slots n h pc lv (vi z :: vi x :: st) :=
  V_irem C hdg ⟨by omega, hx⟩ ⟨by omega, hz⟩ (by omega) (by rw [Int.tmod_eq_emod_of_nonneg h0]; exact kk)
-- heaps
theorem yP_set {D : va_G} {H H1 : Heap} {k : Nat} {e0 : va_E} (hP : yP D b h H) (he : va_at D vwCl (b + k, e0) H1) (oq : ∀ q : Nat, q ≠ b + k → H1[q]? = H[q]?) : yP D b (hs h k e0) H1 := by
  intro j e1 hj
  by_cases hjk : j = k
  · subst hjk
    rw [hs_eq] at hj
    cases hj
    exact he
  · rw [hs_ne h e0 hjk] at hj
    exact (hP j e1 hj).kept (oq (b + j) (by omega))
theorem yP_push {D : va_G} {H H1 : Heap} {e0 : va_E} (hP : yP D b h H) (z : H.size = b + n) (he : va_at D vwCl (b + n, e0) H1) (oq : ∀ q : Nat, q < b + n → H1[q]? = H[q]?) : yP D b (hs h n e0) H1 := by
  intro j e1 hj
  by_cases hjk : j = n
  · subst hjk
    rw [hs_eq] at hj
    cases hj
    exact he
  · rw [hs_ne h e0 hjk] at hj
    have hl : b + j < H.size := (hP j e1 hj).lt
    exact (hP j e1 hj).kept (oq (b + j) (by omega))
theorem yS_push {H0 H H1 : Heap} {locs : List Loc} {a : Nat} (hS : va_S (fun q => b ≤ q) H0 H locs) (z : H.size = a) (z1 : H1.size = a + 1) (oq : ∀ q : Nat, q < a → H1[q]? = H[q]?) : va_S (fun q => b ≤ q) H0 H1 locs :=
  ⟨Nat.le_trans hS.1 (by omega), fun x h1 h2 => (oq x (by have := hS.1; omega)).trans (hS.2.1 x h1 h2), hS.2.2⟩
-- arrays: reading
theorem V_iaload (C : yC p l s m args meth c y cc nL ret tb d b) {k N : Nat} {F : Nat → Int} {i : Int} (ha : h k = some (oI d N F)) (h0 : 0 ≤ i) (h1 : i < N) (hN : N < 2 ^ 31) (hdg : decode cc pc = .ok (.iaload, 1)) (kk : V p l e R s m args below meth c nL d b Q cells slots n h (pc + 1) lv (vi (F i.toNat) :: st)) : V p l e R s m args below meth c nL d b Q cells slots n h pc lv (vi i :: .ref (b + k) :: st) := by
  intro H locs ls a1 a2 a4 a5
  have hcl : (iI i).toNatClampNeg = i.toNat := iI_cl ⟨by omega, by omega⟩
  have hP : va_P d.1 vwCl [(b + k, oI d N F)] H := fun j q hj => by
    match j, hj with
    | 0, hj => cases hj; exact a2 k _ ha
  refine va_iald (tys := yT d) (n := N) (f := fun i => iI (F i)) C.1 C.2.1 C.2.2.2.2.2.2.2.1 hP 0 0 rfl rfl (iI_in h0 h1 hN) hdg ?_
  rw [hcl]
  exact kk H locs ls a1 a2 a4 a5
theorem V_laload (C : yC p l s m args meth c y cc nL ret tb d b) {k N : Nat} {F : Nat → Int} {i : Int} (ha : h k = some (oJ d N F)) (h0 : 0 ≤ i) (h1 : i < N) (hN : N < 2 ^ 31) (hdg : decode cc pc = .ok (.laload, 1)) (kk : V p l e R s m args below meth c nL d b Q cells slots n h (pc + 1) lv (vj (F i.toNat) :: st)) : V p l e R s m args below meth c nL d b Q cells slots n h pc lv (vi i :: .ref (b + k) :: st) := by
  intro H locs ls a1 a2 a4 a5
  have hcl : (iI i).toNatClampNeg = i.toNat := iI_cl ⟨by omega, by omega⟩
  have hP : va_P d.1 vwCl [(b + k, oJ d N F)] H := fun j q hj => by
    match j, hj with
    | 0, hj => cases hj; exact a2 k _ ha
  refine va_lald (tys := yT d) (n := N) (f := fun i => jI (F i)) C.1 C.2.1 C.2.2.2.2.2.2.2.1 hP 0 1 rfl rfl (iI_in h0 h1 hN) hdg ?_
  rw [hcl]
  exact kk H locs ls a1 a2 a4 a5
theorem V_zaload (C : yC p l s m args meth c y cc nL ret tb d b) {k N : Nat} {F : Nat → Int} {i : Int} (ha : h k = some (oZ d N F)) (h0 : 0 ≤ i) (h1 : i < N) (hN : N < 2 ^ 31) (hdg : decode cc pc = .ok (.baload, 1)) (kk : V p l e R s m args below meth c nL d b Q cells slots n h (pc + 1) lv (vi (F i.toNat) :: st)) : V p l e R s m args below meth c nL d b Q cells slots n h pc lv (vi i :: .ref (b + k) :: st) := by
  intro H locs ls a1 a2 a4 a5
  have hcl : (iI i).toNatClampNeg = i.toNat := iI_cl ⟨by omega, by omega⟩
  have hP : va_P d.1 vwCl [(b + k, oZ d N F)] H := fun j q hj => by
    match j, hj with
    | 0, hj => cases hj; exact a2 k _ ha
  refine va_zald (tys := yT d) (n := N) (f := fun i => iI (F i)) C.1 C.2.1 C.2.2.2.2.2.2.2.1 hP 0 2 rfl rfl (iI_in h0 h1 hN) hdg ?_
  rw [hcl]
  exact kk H locs ls a1 a2 a4 a5
theorem V_aaload (C : yC p l s m args meth c y cc nL ret tb d b) {k N t : Nat} {g : Nat → Option Nat} {i : Int} {Cn : String} {a : Nat} (ha : h k = some (oA d t N g)) (ht : (yT d)[t]? = some (d.2.1 t, .object Cn)) (h0 : 0 ≤ i) (h1 : i < N) (hN : N < 2 ^ 31) (hg : g i.toNat = some a) (hdg : decode cc pc = .ok (.aaload, 1)) (kk : V p l e R s m args below meth c nL d b Q cells slots n h (pc + 1) lv (.ref a :: st)) : V p l e R s m args below meth c nL d b Q cells slots n h pc lv (vi i :: .ref (b + k) :: st) := by
  intro H locs ls a1 a2 a4 a5
  have hcl : (iI i).toNatClampNeg = i.toNat := iI_cl ⟨by omega, by omega⟩
  have hP : va_P d.1 vwCl [(b + k, oA d t N g)] H := fun j q hj => by
    match j, hj with
    | 0, hj => cases hj; exact a2 k _ ha
  refine va_aldq (tys := yT d) (n := N) (f := g) C.1 C.2.1 C.2.2.2.2.2.2.2.1 hP 0 t rfl ht (iI_in h0 h1 hN) hdg ?_
  rw [hcl, hg]
  exact kk H locs ls a1 a2 a4 a5
theorem V_alen (C : yC p l s m args meth c y cc nL ret tb d b) {k t : Nat} {x : vp_A} {ty : FieldType} {z : Int} (ha : h k = some (.inl (d.2.1 t, x))) (ht : (yT d)[t]? = some (d.2.1 t, ty)) (hz : (x.1 : Int) = z) (hdg : decode cc pc = .ok (.arraylength, 1)) (kk : V p l e R s m args below meth c nL d b Q cells slots n h (pc + 1) lv (vi z :: st)) : V p l e R s m args below meth c nL d b Q cells slots n h pc lv (.ref (b + k) :: st) := by
  intro H locs ls a1 a2 a4 a5
  have hP : va_P d.1 vwCl [(b + k, .inl (d.2.1 t, x))] H := fun j q hj => by
    match j, hj with
    | 0, hj => cases hj; exact a2 k _ ha
  refine va_alen (tys := yT d) (v := iI z) C.1 C.2.1 C.2.2.2.2.2.2.2.1 hP 0 t rfl ht (by rw [iI_nat, hz]) hdg ?_
  exact kk H locs ls a1 a2 a4 a5
-- arrays: writing
theorem V_iastore (C : yC p l s m args meth c y cc nL ret tb d b) {k N : Nat} {F : Nat → Int} {i x : Int} (ha : h k = some (oI d N F)) (h0 : 0 ≤ i) (h1 : i < N) (hN : N < 2 ^ 31) (hdg : decode cc pc = .ok (.iastore, 1)) (kk : V p l e R s m args below meth c nL d b Q cells slots n (hs h k (oI d N (fu F i.toNat x))) (pc + 1) lv st) : V p l e R s m args below meth c nL d b Q cells slots n h pc lv (vi x :: vi i :: .ref (b + k) :: st) := by
  intro H locs ls a1 a2 a4 a5
  have hcl : (iI i).toNatClampNeg = i.toNat := iI_cl ⟨by omega, by omega⟩
  have hc : H[b + k]? = some (arrV (d.2.1 0) N (fun j => .int (iI (F j)))) := a2 k _ ha
  refine W.iast C.1 C.2.1 hc ((C.2.2.2.2.2.2.2.1.2 0 _ rfl).1 N (fun j => .int (iI (F j)))) (fun q => by cases q) (by rw [arrV_size]; exact iI_in h0 h1 hN) rfl rfl hdg fun H1 e1 z oq => ?_
  refine kk H1 _ ls (z.trans a1) (yP_set a2 ?_ oq) (a4.put z oq (Nat.le_add_right b k)) a5
  show H1[b + k]? = some (arrV (d.2.1 0) N (fun j => .int (iI (fu F i.toNat x j))))
  rw [e1, arrV_store, hcl]
  congr 2
  funext q
  by_cases hq : q = i.toNat
  · subst hq
    simp [updV, fu]
  · simp [updV, fu, hq]
theorem V_lastore (C : yC p l s m args meth c y cc nL ret tb d b) {k N : Nat} {F : Nat → Int} {i x : Int} (ha : h k = some (oJ d N F)) (h0 : 0 ≤ i) (h1 : i < N) (hN : N < 2 ^ 31) (hdg : decode cc pc = .ok (.lastore, 1)) (kk : V p l e R s m args below meth c nL d b Q cells slots n (hs h k (oJ d N (fu F i.toNat x))) (pc + 1) lv st) : V p l e R s m args below meth c nL d b Q cells slots n h pc lv (vj x :: vi i :: .ref (b + k) :: st) := by
  intro H locs ls a1 a2 a4 a5
  have hcl : (iI i).toNatClampNeg = i.toNat := iI_cl ⟨by omega, by omega⟩
  have hc : H[b + k]? = some (arrV (d.2.1 1) N (fun j => .long (jI (F j)))) := a2 k _ ha
  refine W.last C.1 C.2.1 hc ((C.2.2.2.2.2.2.2.1.2 1 _ rfl).1 N (fun j => .long (jI (F j)))) (fun q => by cases q) (by rw [arrV_size]; exact iI_in h0 h1 hN) rfl rfl hdg fun H1 e1 z oq => ?_
  refine kk H1 _ ls (z.trans a1) (yP_set a2 ?_ oq) (a4.put z oq (Nat.le_add_right b k)) a5
  show H1[b + k]? = some (arrV (d.2.1 1) N (fun j => .long (jI (fu F i.toNat x j))))
  rw [e1, arrV_store, hcl]
  congr 2
  funext q
  by_cases hq : q = i.toNat
  · subst hq
    simp [updV, fu]
  · simp [updV, fu, hq]
theorem V_zastore (C : yC p l s m args meth c y cc nL ret tb d b) {k N : Nat} {F : Nat → Int} {i x : Int} (ha : h k = some (oZ d N F)) (hx : x = 0 ∨ x = 1) (h0 : 0 ≤ i) (h1 : i < N) (hN : N < 2 ^ 31) (hdg : decode cc pc = .ok (.bastore, 1)) (kk : V p l e R s m args below meth c nL d b Q cells slots n (hs h k (oZ d N (fu F i.toNat x))) (pc + 1) lv st) : V p l e R s m args below meth c nL d b Q cells slots n h pc lv (vi x :: vi i :: .ref (b + k) :: st) := by
  intro H locs ls a1 a2 a4 a5
  have hcl : (iI i).toNatClampNeg = i.toNat := iI_cl ⟨by omega, by omega⟩
  have hnar : narrow .boolean (.int (iI x)) = .int (iI x) := by rcases hx with rfl | rfl <;> rfl
  have hc : H[b + k]? = some (arrV (d.2.1 2) N (fun j => .int (iI (F j)))) := a2 k _ ha
  refine W.zast C.1 C.2.1 hc ((C.2.2.2.2.2.2.2.1.2 2 _ rfl).1 N (fun j => .int (iI (F j)))) (fun q => by cases q) (by rw [arrV_size]; exact iI_in h0 h1 hN) rfl rfl hdg fun H1 e1 z oq => ?_
  refine kk H1 _ ls (z.trans a1) (yP_set a2 ?_ oq) (a4.put z oq (Nat.le_add_right b k)) a5
  show H1[b + k]? = some (arrV (d.2.1 2) N (fun j => .int (iI (fu F i.toNat x j))))
  rw [e1, arrV_store, hcl, hnar]
  congr 2
  funext q
  by_cases hq : q = i.toNat
  · subst hq
    simp [updV, fu]
  · simp [updV, fu, hq]
theorem V_aastore (C : yC p l s m args meth c y cc nL ret tb d b) {k N t ci a : Nat} {r : vw_C} {fs : List Value} {g : Nat → Option Nat} {i : Int} (ha : h k = some (oA d t N g)) (ht : (yT d)[t]? = some (d.2.1 t, .object r.1)) (hv : h a = some (.inr (ci, fs))) (hci : vwCl[ci]? = some r) (h0 : 0 ≤ i) (h1 : i < N) (hN : N < 2 ^ 31) (hdg : decode cc pc = .ok (.aastore, 1)) (kk : V p l e R s m args below meth c nL d b Q cells slots n (hs h k (oA d t N (fu g i.toNat (some (b + a))))) (pc + 1) lv st) : V p l e R s m args below meth c nL d b Q cells slots n h pc lv (.ref (b + a) :: vi i :: .ref (b + k) :: st) := by
  intro H locs ls a1 a2 a4 a5
  have hcl : (iI i).toNatClampNeg = i.toNat := iI_cl ⟨by omega, by omega⟩
  have hin := iI_in h0 h1 hN
  have hlt : (iI i).toNatClampNeg < N := Nat.not_le.mp fun q => hin (Or.inr q)
  have hi0 : ¬ iI i < 0 := fun q => hin (Or.inl q)
  have hc : H[b + k]? = some (arrV (d.2.1 t) N (fun j => va_rf (g j))) := a2 k _ ha
  obtain ⟨r', hr', cellV, g1, g2, g3, -⟩ := a2 a _ hv
  have hK := C.2.2.2.2.2.2.2.1
  have hcls := (hK.1 ci r hci).2
  obtain ⟨kA, comp, k1, k2, k3, -⟩ := (hK.2 t _ ht).2
  have hcomp : comp = d.1.1 ci := Option.some.inj (k3.symm.trans hcls.1)
  subst hcomp
  obtain ⟨kC, hkC, -⟩ := hcls.2
  refine W.aast C.1 C.2.1 hc (fun q h => by cases h) (fun h => by cases h) k1 k2 rfl hkC ⟨hi0, by rw [arrV_size]; exact hlt⟩ g1 (fun q h => by rw [g3] at h; cases h) (by rw [g2]; exact hkC) (by rw [g2]; exact va_assign hcls) rfl rfl hdg fun H1 e1 z oq => ?_
  refine kk H1 _ ls (z.trans a1) (yP_set a2 ?_ oq) (a4.put z oq (Nat.le_add_right b k)) a5
  show H1[b + k]? = some (arrV (d.2.1 t) N (fun j => va_rf (fu g i.toNat (some (b + a)) j)))
  rw [e1, arrV_store, hcl]
  congr 2
  funext q
  by_cases hq : q = i.toNat
  · subst hq
    simp [updV, fu, va_rf]
  · simp [updV, fu, hq]
-- fields
theorem V_get (C : yC p l s m args meth c y cc nL ret tb d b) (ci kf : Nat) {k index N : Nat} {fs : List Value} {Cn ref : String} {T : u_T} {v : Value} (he : h k = some (.inr (ci, fs))) (hc : vwCl[ci]? = some (Cn, T, N)) (hin : ∀ w ∈ u_ws Cn T N, w ∈ yW) (hk : kf < N) (hlink : Cond.fieldLink y.cls index ref (T kf).2.1 (T kf).2.2.1 ∈ yW) (hsame : (T kf).1 = ref) (hv : fs[kf]? = some v) (hdg : decode cc pc = .ok (.getfield index, 3)) (kk : V p l e R s m args below meth c nL d b Q cells slots n h (pc + 3) lv (v :: st)) : V p l e R s m args below meth c nL d b Q cells slots n h pc lv (.ref (b + k) :: st) := by
  intro H locs ls a1 a2 a4 a5
  have hP : va_P d.1 vwCl [(b + k, .inr (ci, fs))] H := fun j q hj => by
    match j, hj with
    | 0, hj => cases hj; exact a2 k _ he
  exact va_get (D := d.1) (v := v) C.1 C.2.1 C.2.2.2.2.2.1 hin C.2.2.2.2.1 C.2.2.2.2.2.2.2.1 hP 0 rfl hc kf hk (C.2.2.2.2.2.1 _ hlink) (fun x hx => by rw [← hsame]; exact hx) hv hdg (kk H locs ls a1 a2 a4 a5)
theorem V_getN (C : yC p l s m args meth c y cc nL ret tb d b) (ci kf : Nat) {k index N : Nat} {fs : List Value} {Cn ref host : String} {T : u_T} {v : Value} (he : h k = some (.inr (ci, fs))) (hc : vwCl[ci]? = some (Cn, T, N)) (hin : ∀ w ∈ u_ws Cn T N, w ∈ yW) (hk : kf < N) (hlink : Cond.fieldLinkNest y.cls index ref (T kf).2.1 (T kf).2.2.1 host ∈ yNs) (hsame : (T kf).1 = ref) (hv : fs[kf]? = some v) (hdg : decode cc pc = .ok (.getfield index, 3)) (kk : V p l e R s m args below meth c nL d b Q cells slots n h (pc + 3) lv (v :: st)) : V p l e R s m args below meth c nL d b Q cells slots n h pc lv (.ref (b + k) :: st) := by
  intro H locs ls a1 a2 a4 a5
  have hP : va_P d.1 vwCl [(b + k, .inr (ci, fs))] H := fun j q hj => by
    match j, hj with
    | 0, hj => cases hj; exact a2 k _ he
  exact va_getN (D := d.1) (v := v) C.1 C.2.1 C.2.2.2.2.2.1 hin C.2.2.2.2.1 C.2.2.2.2.2.2.2.1 hP 0 rfl hc kf hk (va_Nw.use (yNs_on hlink) (C.2.2.2.2.2.2.2.2.1.1 _ hlink)) (fun x hx => by rw [← hsame]; exact hx) hv hdg (kk H locs ls a1 a2 a4 a5)
theorem V_put (C : yC p l s m args meth c y cc nL ret tb d b) (ci kf : Nat) {k index N : Nat} {fs : List Value} {Cn ref : String} {T : u_T} {ty : FieldType} {v : Value} (he : h k = some (.inr (ci, fs))) (hc : vwCl[ci]? = some (Cn, T, N)) (hin : ∀ w ∈ u_ws Cn T N, w ∈ yW) (ty0 : Nat → FieldType) (hty : ∀ k, k < N → parseFieldDescriptor (T k).2.2.1 = some (ty0 k)) (hnm : ∀ a, a < N → ∀ b, b < N → a ≠ b → (T a).2.1 ≠ (T b).2.1) (hk : kf < N) (hlink : Cond.fieldLink y.cls index ref (T kf).2.1 (T kf).2.2.1 ∈ yW) (hsame : (T kf).1 = ref) (hfin : (T kf).2.2.2 = false) (hd : parseFieldDescriptor (T kf).2.2.1 = some ty) (hn : narrow ty v = v) (hfit : fits ty v = true) (hl : kf < fs.length) (hdg : decode cc pc = .ok (.putfield index, 3)) (kk : V p l e R s m args below meth c nL d b Q cells slots n (hs h k (.inr (ci, fs.set kf v))) (pc + 3) lv st) : V p l e R s m args below meth c nL d b Q cells slots n h pc lv (v :: .ref (b + k) :: st) := by
  intro H locs ls a1 a2 a4 a5
  have hK := C.2.2.2.2.2.2.2.1
  have hts := C.2.2.2.2.2.1
  have hap := va_apart (own := y.cls) hts hin ty0 hty hnm hK hc
  obtain ⟨r, h1, cell, q1, q2, q3, q4⟩ := a2 k _ he
  have hr : r = (Cn, T, N) := Option.some.inj (h1.symm.trans hc)
  subst hr
  obtain ⟨hS, hfc, kC, hkC, hkind⟩ := hK.1 ci _ hc
  obtain ⟨cf, kf', fi, f, hi, hsl⟩ := hS kf hk
  have hlay := hts _ (hin _ (u_in_lay hk))
  unfold u_lay at hlay
  rw [if_neg (by rw [hfin]; decide)] at hlay
  have hst := (u_facts hfc hkC (u_lays hts hin hk) hi).1
  have h6 := u_store hfc hkC hkind hlay hi hd hn hfit
  refine W.putK C.1 C.2.1 (f := f) ⟨C.2.2.2.2.1, hts _ hlink, ⟨_, _, _, by rw [← hsame]; exact hi⟩, hst⟩ (by rw [q2]; exact h6) q1 q3 (by rw [hsl]; exact k2_hasslot (q4 kf hk)) rfl rfl hdg fun H1 e1 e2 e3 => ?_
  rw [hsl] at e1 ⊢
  exact kk H1 _ ls (e2.trans a1) (yP_set a2 ⟨_, hc, t_OB.to (V := updV (vp_V fs) kf v) ⟨_, e1, q2, q3, t_set q4 hap hk v⟩ (fun j _ => vp_updV_set hl v j)⟩ e3) (a4.put e2 e3 (Nat.le_add_right b k)) a5
theorem V_putN (C : yC p l s m args meth c y cc nL ret tb d b) (ci kf : Nat) {k index N : Nat} {fs : List Value} {Cn ref host : String} {T : u_T} {ty : FieldType} {v : Value} (he : h k = some (.inr (ci, fs))) (hc : vwCl[ci]? = some (Cn, T, N)) (hin : ∀ w ∈ u_ws Cn T N, w ∈ yW) (ty0 : Nat → FieldType) (hty : ∀ k, k < N → parseFieldDescriptor (T k).2.2.1 = some (ty0 k)) (hnm : ∀ a, a < N → ∀ b, b < N → a ≠ b → (T a).2.1 ≠ (T b).2.1) (hk : kf < N) (hlink : Cond.fieldLinkNest y.cls index ref (T kf).2.1 (T kf).2.2.1 host ∈ yNs) (hsame : (T kf).1 = ref) (hfin : (T kf).2.2.2 = false) (hd : parseFieldDescriptor (T kf).2.2.1 = some ty) (hn : narrow ty v = v) (hfit : fits ty v = true) (hl : kf < fs.length) (hdg : decode cc pc = .ok (.putfield index, 3)) (kk : V p l e R s m args below meth c nL d b Q cells slots n (hs h k (.inr (ci, fs.set kf v))) (pc + 3) lv st) : V p l e R s m args below meth c nL d b Q cells slots n h pc lv (v :: .ref (b + k) :: st) := by
  intro H locs ls a1 a2 a4 a5
  have hK := C.2.2.2.2.2.2.2.1
  have hts := C.2.2.2.2.2.1
  have hap := va_apart (own := y.cls) hts hin ty0 hty hnm hK hc
  obtain ⟨r, h1, cell, q1, q2, q3, q4⟩ := a2 k _ he
  have hr : r = (Cn, T, N) := Option.some.inj (h1.symm.trans hc)
  subst hr
  obtain ⟨hS, hfc, kC, hkC, hkind⟩ := hK.1 ci _ hc
  obtain ⟨cf, kf', fi, f, hi, hsl⟩ := hS kf hk
  have hlay := hts _ (hin _ (u_in_lay hk))
  unfold u_lay at hlay
  rw [if_neg (by rw [hfin]; decide)] at hlay
  have hst := (u_facts hfc hkC (u_lays hts hin hk) hi).1
  have h6 := u_store hfc hkC hkind hlay hi hd hn hfit
  refine va_WputK C.1 C.2.1 (f := f) C.2.2.2.2.1 (va_Nw.use (yNs_on hlink) (C.2.2.2.2.2.2.2.2.1.1 _ hlink)) (by rw [← hsame]; exact hi) hst (by rw [q2]; exact h6) q1 q3 (by rw [hsl]; exact k2_hasslot (q4 kf hk)) rfl rfl hdg fun H1 e1 e2 e3 => ?_
  rw [hsl] at e1 ⊢
  exact kk H1 _ ls (e2.trans a1) (yP_set a2 ⟨_, hc, t_OB.to (V := updV (vp_V fs) kf v) ⟨_, e1, q2, q3, t_set q4 hap hk v⟩ (fun j _ => vp_updV_set hl v j)⟩ e3) (a4.put e2 e3 (Nat.le_add_right b k)) a5
theorem V_putF (C : yC p l s m args meth c y cc nL ret tb d b) (ci kf : Nat) {k index N : Nat} {fs : List Value} {Cn ref : String} {T : u_T} {ty : FieldType} {v : Value} (he : h k = some (.inr (ci, fs))) (hc : vwCl[ci]? = some (Cn, T, N)) (hin : ∀ w ∈ u_ws Cn T N, w ∈ yW) (ty0 : Nat → FieldType) (hty : ∀ k, k < N → parseFieldDescriptor (T k).2.2.1 = some (ty0 k)) (hnm : ∀ a, a < N → ∀ b, b < N → a ≠ b → (T a).2.1 ≠ (T b).2.1) (hk : kf < N) (hlink : Cond.fieldLink y.cls index ref (T kf).2.1 (T kf).2.2.1 ∈ yW) (hsame : (T kf).1 = ref) (hfin : (T kf).2.2.2 = true) (hname : y.name = "<init>") (hdecl : (T kf).1 = y.cls) (hd : parseFieldDescriptor (T kf).2.2.1 = some ty) (hn : narrow ty v = v) (hfit : fits ty v = true) (hl : kf < fs.length) (hdg : decode cc pc = .ok (.putfield index, 3)) (kk : V p l e R s m args below meth c nL d b Q cells slots n (hs h k (.inr (ci, fs.set kf v))) (pc + 3) lv st) : V p l e R s m args below meth c nL d b Q cells slots n h pc lv (v :: .ref (b + k) :: st) := by
  intro H locs ls a1 a2 a4 a5
  have hK := C.2.2.2.2.2.2.2.1
  have hts := C.2.2.2.2.2.1
  have hown := C.2.2.2.2.1
  have hap := va_apart (own := y.cls) hts hin ty0 hty hnm hK hc
  obtain ⟨r, h1, cell, q1, q2, q3, q4⟩ := a2 k _ he
  have hr : r = (Cn, T, N) := Option.some.inj (h1.symm.trans hc)
  subst hr
  obtain ⟨hS, hfc, kC, hkC, hkind⟩ := hK.1 ci _ hc
  obtain ⟨cf, kf', fi, f, hi, hsl⟩ := hS kf hk
  have hlay := hts _ (hin _ (u_in_lay hk))
  unfold u_lay at hlay
  rw [if_pos hfin] at hlay
  have hst := (u_facts hfc hkC (u_lays hts hin hk) hi).1
  have hcf : m.cls = cf := by
    obtain ⟨_, _, c', _, _, _, -, -, hf', -, -, -, hown2, -⟩ := Cond.laysFinal_spec hlay
    have e1 : c' = cf := by have := hi.symm.trans hf'; simp at this; exact this.1.symm
    rw [hdecl] at hown2
    rw [← e1]; exact Option.some.inj (hown.symm.trans hown2)
  have h6 := u_fits hfc hkC hkind (Or.inr hlay) hi hd hn hfit
  refine W.putFinK C.1 C.2.1 hown (hts _ hlink) (by rw [← hsame]; exact hi) hst hcf (C.2.2.2.2.2.2.2.2.2.2.1.trans hname) (by rw [q2]; exact h6) q1 q3 (by rw [hsl]; exact k2_hasslot (q4 kf hk)) rfl rfl hdg fun H1 e1 e2 e3 => ?_
  rw [hsl] at e1 ⊢
  exact kk H1 _ ls (e2.trans a1) (yP_set a2 ⟨_, hc, t_OB.to (V := updV (vp_V fs) kf v) ⟨_, e1, q2, q3, t_set q4 hap hk v⟩ (fun j _ => vp_updV_set hl v j)⟩ e3) (a4.put e2 e3 (Nat.le_add_right b k)) a5
-- making
theorem V_new (C : yC p l s m args meth c y cc nL ret tb d b) (ci : Nat) {index N : Nat} {fs : List Value} {Cn : String} {T : u_T} (hc : vwCl[ci]? = some (Cn, T, N)) (hin : ∀ w ∈ u_ws Cn T N, w ∈ yW) (ty0 : Nat → FieldType) (hty : ∀ k, k < N → parseFieldDescriptor (T k).2.2.1 = some (ty0 k)) (hw : ∀ w ∈ [Cond.classLink y.cls index Cn, .instantiable Cn N, .initialized Cn], w ∈ yW) (hfs : ∀ j, j < N → defaultValue (ty0 j) = vp_V fs j) (hcells : cells + 1 ≤ R.cells) (hslots : slots + N ≤ R.slots) (hdg : decode cc pc = .ok (.new index, 3)) (kk : V p l e R s m args below meth c nL d b Q (cells + 1) (slots + N) (n + 1) (hs h n (.inr (ci, fs))) (pc + 3) lv (.ref (b + n) :: st)) : V p l e R s m args below meth c nL d b Q cells slots n h pc lv st := by
  intro H locs ls a1 a2 a4 a5
  have hts := C.2.2.2.2.2.1
  have hKn := C.2.2.2.2.2.2.2.1.1 ci _ hc
  refine W.newcK C.1 C.2.1 C.2.2.2.2.1 (hts _ (hw (.classLink y.cls index Cn) (by simp))) (hts _ (hw (.instantiable Cn N) (by simp))) (hts _ (hw (.initialized Cn) (by simp))) rfl hdg hcells hslots hKn.2.1 a1 fun H1 kC hkC e1 z1 o1 => ?_
  exact kk H1 locs ls z1 (yP_push a2 a1 ⟨_, hc, (u_born ty0 hts hin hKn hkC e1 hty).to hfs⟩ o1) (yS_push a4 a1 z1 o1) a5
theorem V_newI (C : yC p l s m args meth c y cc nL ret tb d b) {z : Int} {N : Nat} (hz : z = N) (hN : N ≤ 100000) (hw : Cond.arrayClass .int ∈ yW) (hcells : cells + 1 ≤ R.cells) (hslots : slots + N ≤ R.slots) (hdg : decode cc pc = .ok (.newarray .int, 2)) (kk : V p l e R s m args below meth c nL d b Q (cells + 1) (slots + N) (n + 1) (hs h n (oI d N (fun _ => 0))) (pc + 2) lv (.ref (b + n) :: st)) : V p l e R s m args below meth c nL d b Q cells slots n h pc lv (vi z :: st) := by
  intro H locs ls a1 a2 a4 a5
  subst hz
  have hin : inI (N : Int) := ⟨by omega, by omega⟩
  refine va_newaK (atype := .int) (N := N) C.1 C.2.1 (C.2.2.2.2.2.1 _ hw) rfl hdg rfl (by rw [show (0 : Int32) = iI 0 from rfl, iI_lt hin inI_0]; omega) (by rw [iI_cl hin]; omega) (by show N * 4 ≤ _; omega) hcells hslots a1 fun H1 cA e1 z1 o1 hAr hNm => ?_
  have hc : cA = d.2.1 0 := Option.some.inj (hNm.symm.trans (C.2.2.2.2.2.2.2.1.2 0 _ rfl).2)
  subst hc
  exact kk H1 locs ls z1 (yP_push a2 a1 e1 o1) (yS_push a4 a1 z1 o1) a5
theorem V_newJ (C : yC p l s m args meth c y cc nL ret tb d b) {z : Int} {N : Nat} (hz : z = N) (hN : N ≤ 100000) (hw : Cond.arrayClass .long ∈ yW) (hcells : cells + 1 ≤ R.cells) (hslots : slots + N ≤ R.slots) (hdg : decode cc pc = .ok (.newarray .long, 2)) (kk : V p l e R s m args below meth c nL d b Q (cells + 1) (slots + N) (n + 1) (hs h n (oJ d N (fun _ => 0))) (pc + 2) lv (.ref (b + n) :: st)) : V p l e R s m args below meth c nL d b Q cells slots n h pc lv (vi z :: st) := by
  intro H locs ls a1 a2 a4 a5
  subst hz
  have hin : inI (N : Int) := ⟨by omega, by omega⟩
  refine va_newaK (atype := .long) (N := N) C.1 C.2.1 (C.2.2.2.2.2.1 _ hw) rfl hdg rfl (by rw [show (0 : Int32) = iI 0 from rfl, iI_lt hin inI_0]; omega) (by rw [iI_cl hin]; omega) (by show N * 8 ≤ _; omega) hcells hslots a1 fun H1 cA e1 z1 o1 hAr hNm => ?_
  have hc : cA = d.2.1 1 := Option.some.inj (hNm.symm.trans (C.2.2.2.2.2.2.2.1.2 1 _ rfl).2)
  subst hc
  exact kk H1 locs ls z1 (yP_push a2 a1 e1 o1) (yS_push a4 a1 z1 o1) a5
theorem V_newZ (C : yC p l s m args meth c y cc nL ret tb d b) {z : Int} {N : Nat} (hz : z = N) (hN : N ≤ 100000) (hw : Cond.arrayClass .boolean ∈ yW) (hcells : cells + 1 ≤ R.cells) (hslots : slots + N ≤ R.slots) (hdg : decode cc pc = .ok (.newarray .boolean, 2)) (kk : V p l e R s m args below meth c nL d b Q (cells + 1) (slots + N) (n + 1) (hs h n (oZ d N (fun _ => 0))) (pc + 2) lv (.ref (b + n) :: st)) : V p l e R s m args below meth c nL d b Q cells slots n h pc lv (vi z :: st) := by
  intro H locs ls a1 a2 a4 a5
  subst hz
  have hin : inI (N : Int) := ⟨by omega, by omega⟩
  refine va_newaK (atype := .boolean) (N := N) C.1 C.2.1 (C.2.2.2.2.2.1 _ hw) rfl hdg rfl (by rw [show (0 : Int32) = iI 0 from rfl, iI_lt hin inI_0]; omega) (by rw [iI_cl hin]; omega) (by show N * 1 ≤ _; omega) hcells hslots a1 fun H1 cA e1 z1 o1 hAr hNm => ?_
  have hc : cA = d.2.1 2 := Option.some.inj (hNm.symm.trans (C.2.2.2.2.2.2.2.1.2 2 _ rfl).2)
  subst hc
  exact kk H1 locs ls z1 (yP_push a2 a1 e1 o1) (yS_push a4 a1 z1 o1) a5
theorem V_newA (C : yC p l s m args meth c y cc nL ret tb d b) {z : Int} {N t index : Nat} {Cn : String} (hz : z = N) (hN : N ≤ 100000) (ht : (yT d)[t]? = some (d.2.1 t, .object Cn)) (hw : Cond.classLink y.cls index Cn ∈ yW) (hC : Cn = "YearFractions$Row") (hcells : cells + 1 ≤ R.cells) (hslots : slots + N ≤ R.slots) (hdg : decode cc pc = .ok (.anewarray index, 3)) (kk : V p l e R s m args below meth c nL d b Q (cells + 1) (slots + N) (n + 1) (hs h n (oA d t N (fun _ => none))) (pc + 3) lv (.ref (b + n) :: st)) : V p l e R s m args below meth c nL d b Q cells slots n h pc lv (vi z :: st) := by
  intro H locs ls a1 a2 a4 a5
  subst hz
  have hts := C.2.2.2.2.2.1
  have hin : inI (N : Int) := ⟨by omega, by omega⟩
  have hcl : (iI (N : Int)).toNatClampNeg = N := by rw [iI_cl hin]; omega
  refine W.anew C.1 C.2.1 C.2.2.2.2.1 (hts _ hw) (va_AO.use (by rw [hC]; exact C.2.2.2.2.2.2.2.2.1.2.2.2.2.2.1)) rfl hdg rfl (by rw [show (0 : Int32) = iI 0 from rfl, iI_lt hin inI_0]; omega) (by rw [hcl]; omega) hcells (by rw [hcl]; exact hslots) fun cA kA comp f1 f2 f3 f4 => ?_
  rw [hcl]
  generalize hH1 : H.push ({ cls := cA, slots := Array.replicate N .null, vm := .none } : Cell) = H1
  have z1 : H1.size = b + n + 1 := by rw [← hH1, Array.size_push, a1]
  have e1 : H1[b + n]? = some (arrV cA N (fun _ => .null)) := by rw [← hH1, ← a1, Array.getElem?_push_size, ← arrV_new]
  have o1 : ∀ q : Nat, q < b + n → H1[q]? = H[q]? := fun q hq => by rw [← hH1, Array.getElem?_push, if_neg (by omega)]
  obtain ⟨kA', comp', k1, k2, k3, k4⟩ := (C.2.2.2.2.2.2.2.1.2 t _ ht).2
  have hc : cA = d.2.1 t := Option.some.inj (f1.symm.trans k4)
  subst hc
  rw [a1]
  exact kk H1 locs ls z1 (yP_push a2 a1 e1 o1) (yS_push a4 a1 z1 o1) a5
-- Object's own maker
theorem V_objInit (C : yC p l s m args meth c y cc nL ret tb d b) {idx a : Nat} (hw : ∀ w ∈ [Cond.methodLink y.cls idx objectInit, .instanceMethod objectInit], w ∈ yW) (hcode : Cond.code objectInit ⟨#[0xb1]⟩ 1 none ∈ yW) (hst : (st.map fun v => v.category).sum + 12 ≤ R.locals) (hfr : 1 ≤ R.frames) (hdg : decode cc pc = .ok (.invokespecial idx, 3)) (kk : V p l e R s m args below meth c nL d b Q cells slots n h (pc + 3) lv st) : V p l e R s m args below meth c nL d b Q cells slots n h pc lv (.ref a :: st) := by
  intro H locs ls a1 a2 a4 a5
  have hts := C.2.2.2.2.2.1
  refine W.objInit C.1 C.2.1 C.2.2.2.2.1 (hts _ (hw (.methodLink y.cls idx objectInit) (by simp))) (hts _ (hw (.instanceMethod objectInit) (by simp))) (hts _ hcode) rfl (by rw [C.2.2.1]; exact a5.1) rfl hdg hfr (by show 2 * 0 + _ + 12 ≤ _; omega) ?_
  exact kk H locs ls a1 a2 a4 a5
-- constants of the pool
theorem V_ldc (C : yC p l s m args meth c y cc nL ret tb d b) {index : Nat} {v : Int32} {z : Int} (hw : Cond.constant y.cls index v ∈ yW) (hz : v = iI z) (hdg : decode cc pc = .ok (.ldc index, 2)) (kk : V p l e R s m args below meth c nL d b Q cells slots n h (pc + 2) lv (vi z :: st)) : V p l e R s m args below meth c nL d b Q cells slots n h pc lv st := by
  subst hz
  exact fun H locs ls a1 a2 a4 a5 => lv_ldc C.1 C.2.1 C.2.2.2.2.1 (C.2.2.2.2.2.1 _ hw) hdg (kk H locs ls a1 a2 a4 a5)
theorem V_ldc2 (C : yC p l s m args meth c y cc nL ret tb d b) {index : Nat} {v : Int64} {z : Int} (hw : Cond.constantLong y.cls index v ∈ yW) (hz : v = jI z) (hdg : decode cc pc = .ok (.ldc2_w index, 3)) (kk : V p l e R s m args below meth c nL d b Q cells slots n h (pc + 3) lv (vj z :: st)) : V p l e R s m args below meth c nL d b Q cells slots n h pc lv st := by
  subst hz
  exact fun H locs ls a1 a2 a4 a5 => lv_ldc2 C.1 C.2.1 C.2.2.2.2.1 (C.2.2.2.2.2.1 _ hw) hdg (kk H locs ls a1 a2 a4 a5)
-- longs compared
def cz (x z : Int) : Int := if z < x then 1 else if x = z then 0 else -1
theorem cz_in (x z : Int) : inI (cz x z) := by unfold cz; split <;> first | (constructor <;> omega) | (split <;> constructor <;> omega)
theorem V_lcmp (C : yC p l s m args meth c y cc nL ret tb d b) {x z : Int} (hdg : decode cc pc = .ok (.lcmp, 1)) (hx : inJ x) (hz : inJ z) (kk : V p l e R s m args below meth c nL d b Q cells slots n h (pc + 1) lv (vi (cz x z) :: st)) : V p l e R s m args below meth c nL d b Q cells slots n h pc lv (vj z :: vj x :: st) := by
  intro H locs ls a1 a2 a4 a5
  have e1 : lg_cmp (jI x) (jI z) = iI (cz x z) := by
    unfold lg_cmp cz
    by_cases h1 : z < x
    · rw [if_pos ((jI_lt hz hx).mpr h1), if_pos h1]; rfl
    · rw [if_neg (fun q => h1 ((jI_lt hz hx).mp q)), if_neg h1]
      by_cases h2 : x = z
      · rw [if_pos ((jI_eq hx hz).mpr h2), if_pos h2]; rfl
      · rw [if_neg (fun q => h2 ((jI_eq hx hz).mp q)), if_neg h2]; rfl
  refine W.lcmp C.1 C.2.1 hdg ?_
  rw [e1]
  exact kk H locs ls a1 a2 a4 a5
theorem cz_lt {x z : Int} : cz x z < 0 ↔ x < z := by unfold cz; split <;> (try split) <;> omega
theorem cz_gt {x z : Int} : 0 < cz x z ↔ z < x := by unfold cz; split <;> (try split) <;> omega
theorem cz_le {x z : Int} : cz x z ≤ 0 ↔ x ≤ z := by unfold cz; split <;> (try split) <;> omega
theorem cz_ge {x z : Int} : 0 ≤ cz x z ↔ z ≤ x := by unfold cz; split <;> (try split) <;> omega
theorem cz_eq {x z : Int} : cz x z = 0 ↔ x = z := by unfold cz; split <;> (try split) <;> omega
-- the ends
theorem W_mono {H : Heap} {locs : List Loc} {Q' : State → Prop} {g : JFrame} (hq : ∀ t, Q' t → Q t) (k : W p l e R s m args below meth c H locs cells slots Q' g) : W p l e R s m args below meth c H locs cells slots Q g := by
  intro T hT X
  obtain ⟨t, h1, h2⟩ := k T hT X
  exact ⟨t, h1, hq t h2⟩
theorem yG_now {H : Heap} {locs : List Loc} {U : State} (hG : yG d b s) (hS : va_S (fun q => b ≤ q) s.heap H locs) (hH : U.heap = H) (hW : s.WarmedH U.vm) : yG d b U :=
  yG_to hW (fun q h1 h2 => by rw [hH]; exact hS.2.1 q h1 h2) hG
theorem yPre_now (C : yC p l s m args meth c y cc nL ret tb d b) {H : Heap} {locs : List Loc} {U : State} (a1 : H.size = b + n) (a2 : yP d.1 b h H) (a4 : va_S (fun q => b ≤ q) s.heap H locs) (hH : U.heap = H) (hW : s.WarmedH U.vm) : yPre d b n h U :=
  ⟨by rw [hH]; exact a1, by rw [hH]; exact a2, va_K.moved hW.alike C.2.2.2.2.2.2.2.1, yG_now C.2.2.2.2.2.2.2.2.1 a4 hH hW⟩
variable {post : Option Value → Nat → yH → Prop} {thr : String → Nat → yH → Prop} {mc ms : Nat}
theorem yEnd_of {H : Heap} {locs : List Loc} {g : JFrame} {v : Option Value} (C : yC p l s m args meth c y cc nL ret tb d b) (a1 : H.size = b + n) (a2 : yP d.1 b h H) (a4 : va_S (fun q => b ≤ q) s.heap H locs) (hp : post v n h)
    (k : (∀ t : State, t.heap = H → s.WarmedH t.vm → yQc d b post thr args s (.returned v) t) → W p l e R s m args below meth c H locs mc ms (MQ below (yQc d b post thr) args s mc ms (fun q => b ≤ q)) g) : W p l e R s m args below meth c H locs mc ms (yEnd below s args d b post thr mc ms) g := by
  refine W_mono (fun t ht => ?_) (k (fun t hH hW => ⟨n, h, yPre_now C a1 a2 a4 hH hW, a4.F hH, hp⟩))
  obtain ⟨o, h1, h2, h3, L, h4, h5⟩ := ht
  exact ⟨o, h1, h2, h3, L, h4.2, h5⟩
theorem V_ireturn (C : yC p l s m args meth c y cc nL (some .int) tb d b) {v : Int} (hdg : decode cc pc = .ok (.ireturn, 1)) (h1 : cells ≤ mc) (h2 : slots ≤ ms) (hp : post (some (vi v)) n h) : V p l e R s m args below meth c nL d b (yEnd below s args d b post thr mc ms) cells slots n h pc lv [vi v] :=
  fun H locs ls a1 a2 a4 a5 => W.widen h1 h2 (yEnd_of C a1 a2 a4 hp (fun hq => W.iret C.1 C.2.1 C.2.2.2.1 hq a4.2.2 hdg C.2.2.2.2.2.2.1))
theorem V_zreturn (C : yC p l s m args meth c y cc nL (some .boolean) tb d b) {v : Int} (hdg : decode cc pc = .ok (.ireturn, 1)) (hv : v = 0 ∨ v = 1) (h1 : cells ≤ mc) (h2 : slots ≤ ms) (hp : post (some (vi v)) n h) : V p l e R s m args below meth c nL d b (yEnd below s args d b post thr mc ms) cells slots n h pc lv [vi v] :=
  fun H locs ls a1 a2 a4 a5 => W.widen h1 h2 (yEnd_of C a1 a2 a4 hp (fun hq => W.zret C.1 C.2.1 C.2.2.2.1 (by rcases hv with rfl | rfl <;> rfl) hq a4.2.2 hdg C.2.2.2.2.2.2.1))
theorem V_lreturn (C : yC p l s m args meth c y cc nL (some .long) tb d b) {v : Int} (hdg : decode cc pc = .ok (.lreturn, 1)) (h1 : cells ≤ mc) (h2 : slots ≤ ms) (hp : post (some (vj v)) n h) : V p l e R s m args below meth c nL d b (yEnd below s args d b post thr mc ms) cells slots n h pc lv [vj v] :=
  fun H locs ls a1 a2 a4 a5 => W.widen h1 h2 (yEnd_of C a1 a2 a4 hp (fun hq => W.lret C.1 C.2.1 C.2.2.2.1 hq a4.2.2 hdg C.2.2.2.2.2.2.1))
theorem V_return (C : yC p l s m args meth c y cc nL none tb d b) (hdg : decode cc pc = .ok (.return_, 1)) (h1 : cells ≤ mc) (h2 : slots ≤ ms) (hp : post none n h) : V p l e R s m args below meth c nL d b (yEnd below s args d b post thr mc ms) cells slots n h pc lv [] :=
  fun H locs ls a1 a2 a4 a5 => W.widen h1 h2 (yEnd_of C a1 a2 a4 hp (fun hq => W.vret C.1 C.2.1 C.2.2.2.1 hq a4.2.2 hdg C.2.2.2.2.2.2.1))
theorem V_areturn {Cn : String} (C : yC p l s m args meth c y cc nL (some (.object Cn)) tb d b) {a : Nat} (hdg : decode cc pc = .ok (.areturn, 1)) (h1 : cells ≤ mc) (h2 : slots ≤ ms) (hp : post (some (.ref a)) n h) : V p l e R s m args below meth c nL d b (yEnd below s args d b post thr mc ms) cells slots n h pc lv [.ref a] :=
  fun H locs ls a1 a2 a4 a5 => W.widen h1 h2 (yEnd_of C a1 a2 a4 hp (fun hq => W.aret C.1 C.2.1 C.2.2.2.1 (Or.inl ⟨Cn, rfl⟩) (Or.inr ⟨a, rfl⟩) hq a4.2.2 hdg C.2.2.2.2.2.2.1))
-- a throw under way
def WT (p : Program) (l : Launch) (e : Env) (R : Room) (s : State) (m : MethodId) (args : Array Value) (below : List Frame) (meth : Method) (c : Code) (H : Heap) (locs : List Loc) (cells slots : Nat) (Q : State → Prop) (g : JFrame) (a : Nat) : Prop :=
  ∀ T : State, T.heap = H → Stand p l e R s m args below meth c T locs cells slots → ∃ t, Steps p.tables e below ((T.setTop g).pushFrame (.throwing a)) t ∧ Q t
def VT (p : Program) (l : Launch) (e : Env) (R : Room) (s : State) (m : MethodId) (args : Array Value) (below : List Frame) (meth : Method) (c : Code) (nL : Nat) (d : yD) (b : Nat) (Q : State → Prop) (cells slots n : Nat) (h : yH) (pc : Nat) (lv : List (Nat × Value)) (Cx : String) : Prop :=
  ∀ (H : Heap) (locs : List Loc) (ls : Array Slot) (st : List Value) (a : Nat), H.size = b + n → yP d.1 b h H → va_S (fun q => b ≤ q) s.heap H locs → lv_has ls nL lv → (∃ cell : Cell, H[a]? = some cell ∧ cell.vm.isStatics = false ∧ s.vm.findClass Cx = some cell.cls) → WT p l e R s m args below meth c H locs cells slots Q (F0 m pc ls st) a
theorem VT_leave (C : yC p l s m args meth c y cc nL ret tb d b) {Cx : String} (hout : ∀ x ∈ tb, covers x pc = false) (h1 : cells ≤ mc) (h2 : slots ≤ ms) (hp : thr Cx n h) : VT p l e R s m args below meth c nL d b (yEnd below s args d b post thr mc ms) cells slots n h pc lv Cx := by
  intro H locs ls st a a1 a2 a4 a5 ⟨ce, g1, g2, g3⟩ T hT X
  obtain ⟨st1, hrun, hend, hW, hsame⟩ := X.leaveThrown a (g := F0 m pc ls st) rfl rfl rfl (by rw [C.2.2.2.2.2.2.2.2.2.2.2.1]; exact hout) C.2.2.2.2.2.2.1
  have hH : (T.setFrames (.throwing a :: below)).heap = H := hT
  refine ⟨_, st1, .threw a, hrun, hend, ⟨n, h, yPre_now C a1 a2 a4 hH hW, a4.F hH, Cx, hp, ce, by rw [hH]; exact g1, g2, ?_⟩, locs, ⟨hW, hsame.mono h1 h2⟩, a4.2.2⟩
  rw [hW.alike.findClass]
  exact g3
-- calls
def yGd (w : Cond) : Prop := (w.onTables && w.keeps) = true ∨ ∃ ty, w = .arrayClass ty
theorem yWords {ws0 : Cond} (C : yC p l s m args meth c y cc nL ret tb d b) (h0 : ws0 ∈ yW) : ∀ w ∈ ws0 :: yW, ∀ (a' : Array Value) (U : State), s.WarmedH U.vm → w.before a' U = true := by
  intro w hw a' U hW
  have hw' : w ∈ yW := by
    rcases List.mem_cons.mp hw with e1 | e1
    · rw [e1]; exact h0
    · exact e1
  exact word_at hW (yW_good hw') (C.2.2.2.2.2.1 w hw')
theorem yBlind {As : List Value} : FrameBlind (va_Pc As (yPre d b n h)) := by
  intro a U g mk ⟨q0, q1, q2, q4, q5⟩
  exact ⟨q0, q1, q2, va_K.moved (u := U) (U := U.calling g mk a) (Vm.Alike.refl U.vm) q4, yG_to (s := U) (U := U.calling g mk a) (State.WarmedH.refl U) (fun _ _ _ => rfl) q5⟩
theorem yBackX (C : yC p l s m args meth c y cc nL ret tb d b) {yy : MethodName} {bytes : ByteArray} {maxL fr lo mc0 ms0 : Nat} {ret0 : Option FieldType} {n0 : Nat} {h0 : yH} {As : List Value} {post0 : Option Value → Nat → yH → Prop} {thr0 : String → Nat → yH → Prop}
    (hM : yM l yy bytes maxL ret0 fr lo mc0 ms0 d b n0 h0 As post0 thr0) (hcode : Cond.code yy bytes maxL ret0 ∈ yW) (hini : Cond.initialized yy.cls ∈ yW) (hfr : fr + 1 ≤ R.frames) (hlo : 8 + (maxL + 11) + lo ≤ R.locals) :
    BackX l R p e below s args yy 3 8 (PreOf R mc0 ms0 (va_Pc As (yPre d b n0 h0))) (PostX (yQc d b post0 thr0) mc0 ms0 (fun q => b ≤ q)) :=
  backX_of (bytes := bytes) (maxL := maxL) (ret := ret0) hM yBlind rfl rfl hfr hlo (yWords C hcode) List.mem_cons_self (fun a' U hW => word_at hW (yW_good hini) (C.2.2.2.2.2.1 _ hini))
theorem yCall_go (C : yC p l s m args meth c y cc nL ret tb d b) {H : Heap} {locs : List Loc} {ls : Array Slot} {stk : List Value} {mc0 ms0 : Nat} {post0 : Option Value → Nat → yH → Prop} {thr0 : String → Nat → yH → Prop} {av : Array Value}
    (a4 : va_S (fun q => b ≤ q) s.heap H locs) (a5 : lv_has ls nL lv) {T : State} (hT : T.heap = H) {o : Outcome} {vm₁ : Vm} {B : Pt} (X' : Stand p l e R s m args below meth c B.U B.locs B.cells B.slots)
    (hpost : PostX (yQc d b post0 thr0) mc0 ms0 (fun q => b ≤ q) ⟨T.setVm vm₁, locs, cells, slots⟩ av o B) (hgo : yGo p e below (T.setTop (F0 m pc ls stk)) B.U (F0 m pc ls st) 3 o)
    (kR : ∀ v n' h', post0 v n' h' → V p l e R s m args below meth c nL d b Q (cells + mc0) (slots + ms0) n' h' (pc + 3) lv (v.toList ++ st))
    (kT : ∀ Cx n' h', thr0 Cx n' h' → VT p l e R s m args below meth c nL d b Q (cells + mc0) (slots + ms0) n' h' pc lv Cx) :
    ∃ t, Steps p.tables e below (T.setTop (F0 m pc ls stk)) t ∧ Q t := by
  obtain ⟨U', l2, c2, s2⟩ := B
  obtain ⟨g', mk, t, L, e1, e2, ⟨n', h', ⟨q1, q2, q4, q5⟩, hF, ho⟩, h1, hL, h2, h3⟩ := hpost
  dsimp only [Pt.U, Pt.locs, Pt.cells, Pt.slots] at X' e1 e2 h1 h2 h3 hgo
  subst h1; subst h2; subst h3
  have hF1 : H.size ≤ t.heap.size := by have := hF.1; rw [show ((T.setVm vm₁).calling g' mk av).heap = H from hT] at this; exact this
  have hF2 : ∀ q : Nat, q < H.size → ¬ b ≤ q → t.heap[q]? = H[q]? := by
    intro q g1 g2
    have := hF.2 q (by rw [show ((T.setVm vm₁).calling g' mk av).heap = H from hT]; exact g1) g2
    rw [show ((T.setVm vm₁).calling g' mk av).heap = H from hT] at this
    exact this
  have b4 : va_S (fun q => b ≤ q) s.heap U'.heap (locs ++ L) := by
    rw [e1]
    refine ⟨Nat.le_trans a4.1 hF1, fun q g1 g2 => (hF2 q (by have := a4.1; omega) g2).trans (a4.2.1 q g1 g2), fun q hq => ?_⟩
    rcases List.mem_append.mp hq with z | z
    · exact a4.2.2 q z
    · exact hL q z
  cases o with
  | returned v =>
    obtain ⟨tt, g1, g2⟩ := kR v n' h' ho U'.heap (locs ++ L) ls (by rw [e1]; exact q1) (by rw [e1]; exact q2) b4 a5 U' rfl X'
    exact ⟨tt, Steps.trans hgo g1, g2⟩
  | threw x =>
    obtain ⟨Cx, hx, cell, g1, g2, g3⟩ := ho
    obtain ⟨tt, k1, k2⟩ := kT Cx n' h' hx U'.heap (locs ++ L) ls st x (by rw [e1]; exact q1) (by rw [e1]; exact q2) b4 a5 ⟨cell, by rw [e1]; exact g1, g2, by
      have hw := X'.warmed.alike.findClass (name := Cx)
      rw [e2] at hw
      rw [← hw]
      exact g3⟩ U' rfl X'
    exact ⟨tt, Steps.trans hgo k1, k2⟩
theorem V_callV (C : yC p l s m args meth c y cc nL ret tb d b) {yy : MethodName} {bytes : ByteArray} {maxL fr lo mc0 ms0 index k ci : Nat} {ret0 : Option FieldType} {As stk fs : List Value} {post0 : Option Value → Nat → yH → Prop} {thr0 : String → Nat → yH → Prop} {Cn : String} {Tn : u_T} {Nn : Nat}
    (hM : yM l yy bytes maxL ret0 fr lo mc0 ms0 d b n h (.ref (b + k) :: As) post0 thr0) (hcm : Cond.code yy bytes maxL ret0 ∈ yW) (hw : ∀ w ∈ [Cond.methodLink y.cls index yy, .instanceMethod yy, .selects Cn yy yy, .initialized yy.cls], w ∈ yW)
    (hy : yy.cls ≠ "java/lang/invoke/MethodHandle" ∧ yy.cls ≠ "java/lang/invoke/VarHandle" ∧ (parseMethodDescriptor yy.desc).map (fun d => d.parameters.length) = some As.length)
    (hR : fr + 1 ≤ R.frames ∧ 8 + (maxL + 11) + lo ≤ R.locals ∧ cells + mc0 ≤ R.cells ∧ slots + ms0 ≤ R.slots) (he : h k = some (.inr (ci, fs))) (hci : vwCl[ci]? = some (Cn, Tn, Nn))
    (hs : stk = As.reverse ++ .ref (b + k) :: st) (hst : (st.map fun v => v.category).sum ≤ 8) (hdg : decode cc pc = .ok (.invokevirtual index, 3))
    (kR : ∀ v n' h', post0 v n' h' → V p l e R s m args below meth c nL d b Q (cells + mc0) (slots + ms0) n' h' (pc + 3) lv (v.toList ++ st))
    (kT : ∀ Cx n' h', thr0 Cx n' h' → VT p l e R s m args below meth c nL d b Q (cells + mc0) (slots + ms0) n' h' pc lv Cx) : V p l e R s m args below meth c nL d b Q cells slots n h pc lv stk := by
  intro H locs ls a1 a2 a4 a5 T hT X
  have hts := C.2.2.2.2.2.1
  obtain ⟨q', h1, cell, g1, g2, g3, -⟩ := a2 k _ he
  have hlen : ∀ sig, parseMethodDescriptor yy.desc = some sig → As.length = sig.parameters.length := fun sig hsig => by
    have h9 := hy.2.2
    rw [hsig] at h9
    exact (Option.some.inj h9).symm
  obtain ⟨o, vm₁, B, hW₁, X', hpost, hgo⟩ := callVX (g := F0 m pc ls stk) (argsL := As) (rest := st) X C.1 C.2.2.2.2.1 (hts _ (hw (.methodLink y.cls index yy) (by simp))) (hts _ (hw (.instanceMethod yy) (by simp))) (hts _ (hw (.selects Cn yy yy) (by simp))) (hts _ hcm) ⟨hy.1, hy.2.1⟩
    (yBackX C hM hcm (hw (.initialized yy.cls) (by simp)) hR.1 hR.2.1) (b := b + k) (cellB := cell) (by rw [hT]; exact g1) (by rw [g3]; rfl) (by rw [g2]; exact (C.2.2.2.2.2.2.2.1.1 ci _ hci).2.1) rfl (by rw [C.2.2.1]; exact a5.1) hlen hs (by show 2 * 0 + _ ≤ 8; omega) (by rw [C.2.1]; exact hdg)
    (fun vm₁ hW₁ => ⟨hR.2.2.1, hR.2.2.2, rfl, yPre_now C a1 a2 a4 (U := T.setVm vm₁) hT hW₁⟩)
  exact yCall_go C a4 a5 hT X' hpost hgo kR kT
theorem V_callS (C : yC p l s m args meth c y cc nL ret tb d b) {yy : MethodName} {bytes : ByteArray} {maxL fr lo mc0 ms0 index : Nat} {ret0 : Option FieldType} {As stk : List Value} {post0 : Option Value → Nat → yH → Prop} {thr0 : String → Nat → yH → Prop}
    (hM : yM l yy bytes maxL ret0 fr lo mc0 ms0 d b n h As post0 thr0) (hcm : Cond.code yy bytes maxL ret0 ∈ yW) (hw : ∀ w ∈ [Cond.methodLink y.cls index yy, .static yy, .initialized yy.cls], w ∈ yW)
    (hy : yy.cls ≠ "java/lang/invoke/MethodHandle" ∧ yy.cls ≠ "java/lang/invoke/VarHandle" ∧ (parseMethodDescriptor yy.desc).map (fun d => d.parameters.length) = some As.length)
    (hR : fr + 1 ≤ R.frames ∧ 8 + (maxL + 11) + lo ≤ R.locals ∧ cells + mc0 ≤ R.cells ∧ slots + ms0 ≤ R.slots)
    (hs : stk = As.reverse ++ st) (hst : (st.map fun v => v.category).sum ≤ 8) (hdg : decode cc pc = .ok (.invokestatic index, 3))
    (kR : ∀ v n' h', post0 v n' h' → V p l e R s m args below meth c nL d b Q (cells + mc0) (slots + ms0) n' h' (pc + 3) lv (v.toList ++ st))
    (kT : ∀ Cx n' h', thr0 Cx n' h' → VT p l e R s m args below meth c nL d b Q (cells + mc0) (slots + ms0) n' h' pc lv Cx) : V p l e R s m args below meth c nL d b Q cells slots n h pc lv stk := by
  intro H locs ls a1 a2 a4 a5 T hT X
  have hts := C.2.2.2.2.2.1
  have hlen : ∀ sig, parseMethodDescriptor yy.desc = some sig → As.length = sig.parameters.length := fun sig hsig => by
    have h9 := hy.2.2
    rw [hsig] at h9
    exact (Option.some.inj h9).symm
  obtain ⟨o, vm₁, B, hW₁, X', hpost, hgo⟩ := callSX (g := F0 m pc ls stk) (argsL := As) (rest := st) X C.1 C.2.2.2.2.1 (hts _ (hw (.methodLink y.cls index yy) (by simp))) (hts _ (hw (.static yy) (by simp))) (hts _ (hw (.initialized yy.cls) (by simp))) (hts _ hcm) ⟨hy.1, hy.2.1⟩
    (yBackX C hM hcm (hw (.initialized yy.cls) (by simp)) hR.1 hR.2.1) rfl (by rw [C.2.2.1]; exact a5.1) hlen hs (by show 2 * 0 + _ ≤ 8; omega) (by rw [C.2.1]; exact hdg)
    (fun vm₁ hW₁ => ⟨hR.2.2.1, hR.2.2.2, rfl, yPre_now C a1 a2 a4 (U := T.setVm vm₁) hT hW₁⟩)
  exact yCall_go C a4 a5 hT X' hpost hgo kR kT
theorem V_callI (C : yC p l s m args meth c y cc nL ret tb d b) {yy : MethodName} {bytes : ByteArray} {maxL fr lo mc0 ms0 index a : Nat} {As stk : List Value} {post0 : Option Value → Nat → yH → Prop} {thr0 : String → Nat → yH → Prop}
    (hM : yM l yy bytes maxL none fr lo mc0 ms0 d b n h (.ref a :: As) post0 thr0) (hcm : Cond.code yy bytes maxL none ∈ yW) (hw : ∀ w ∈ [Cond.methodLink y.cls index yy, .instanceMethod yy, .initialized yy.cls], w ∈ yW)
    (hy : yy.cls ≠ "java/lang/invoke/MethodHandle" ∧ yy.cls ≠ "java/lang/invoke/VarHandle" ∧ (parseMethodDescriptor yy.desc).map (fun d => d.parameters.length) = some As.length) (hname : yy.name = "<init>")
    (hR : fr + 1 ≤ R.frames ∧ 8 + (maxL + 11) + lo ≤ R.locals ∧ cells + mc0 ≤ R.cells ∧ slots + ms0 ≤ R.slots)
    (hs : stk = As.reverse ++ .ref a :: st) (hst : (st.map fun v => v.category).sum ≤ 8) (hdg : decode cc pc = .ok (.invokespecial index, 3))
    (kR : ∀ v n' h', post0 v n' h' → V p l e R s m args below meth c nL d b Q (cells + mc0) (slots + ms0) n' h' (pc + 3) lv (v.toList ++ st))
    (kT : ∀ Cx n' h', thr0 Cx n' h' → VT p l e R s m args below meth c nL d b Q (cells + mc0) (slots + ms0) n' h' pc lv Cx) : V p l e R s m args below meth c nL d b Q cells slots n h pc lv stk := by
  intro H locs ls a1 a2 a4 a5 T hT X
  have hts := C.2.2.2.2.2.1
  have hlen : ∀ sig, parseMethodDescriptor yy.desc = some sig → As.length = sig.parameters.length := fun sig hsig => by
    have h9 := hy.2.2
    rw [hsig] at h9
    exact (Option.some.inj h9).symm
  obtain ⟨o, vm₁, B, hW₁, X', hpost, hgo⟩ := callIX (g := F0 m pc ls stk) (argsL := As) (rest := st) X C.1 C.2.2.2.2.1 hname (hts _ (hw (.methodLink y.cls index yy) (by simp))) (hts _ (hw (.instanceMethod yy) (by simp))) (hts _ hcm) ⟨hy.1, hy.2.1⟩
    (yBackX C hM hcm (hw (.initialized yy.cls) (by simp)) hR.1 hR.2.1) rfl (by rw [C.2.2.1]; exact a5.1) (a := a) hlen hs (by show 2 * 0 + _ ≤ 8; omega) (by rw [C.2.1]; exact hdg)
    (fun vm₁ hW₁ => ⟨hR.2.2.1, hR.2.2.2, rfl, yPre_now C a1 a2 a4 (U := T.setVm vm₁) hT hW₁⟩)
  exact yCall_go C a4 a5 hT X' hpost hgo kR kT
theorem V_callIN (C : yC p l s m args meth c y cc nL ret tb d b) {yy : MethodName} {bytes : ByteArray} {maxL fr lo mc0 ms0 index a : Nat} {host : String} {As stk : List Value} {post0 : Option Value → Nat → yH → Prop} {thr0 : String → Nat → yH → Prop}
    (hM : yM l yy bytes maxL none fr lo mc0 ms0 d b n h (.ref a :: As) post0 thr0) (hcm : Cond.code yy bytes maxL none ∈ yW) (hlink : Cond.methodLinkNest y.cls index yy host ∈ yNs) (hw : ∀ w ∈ [Cond.instanceMethod yy, .initialized yy.cls], w ∈ yW)
    (hy : yy.cls ≠ "java/lang/invoke/MethodHandle" ∧ yy.cls ≠ "java/lang/invoke/VarHandle" ∧ (parseMethodDescriptor yy.desc).map (fun d => d.parameters.length) = some As.length) (hname : yy.name = "<init>")
    (hR : fr + 1 ≤ R.frames ∧ 8 + (maxL + 11) + lo ≤ R.locals ∧ cells + mc0 ≤ R.cells ∧ slots + ms0 ≤ R.slots)
    (hs : stk = As.reverse ++ .ref a :: st) (hst : (st.map fun v => v.category).sum ≤ 8) (hdg : decode cc pc = .ok (.invokespecial index, 3))
    (kR : ∀ v n' h', post0 v n' h' → V p l e R s m args below meth c nL d b Q (cells + mc0) (slots + ms0) n' h' (pc + 3) lv (v.toList ++ st))
    (kT : ∀ Cx n' h', thr0 Cx n' h' → VT p l e R s m args below meth c nL d b Q (cells + mc0) (slots + ms0) n' h' pc lv Cx) : V p l e R s m args below meth c nL d b Q cells slots n h pc lv stk := by
  intro H locs ls a1 a2 a4 a5 T hT X
  have hts := C.2.2.2.2.2.1
  have hlen : ∀ sig, parseMethodDescriptor yy.desc = some sig → As.length = sig.parameters.length := fun sig hsig => by
    have h9 := hy.2.2
    rw [hsig] at h9
    exact (Option.some.inj h9).symm
  obtain ⟨o, vm₁, B, hW₁, X', hpost, hgo⟩ := callINX (g := F0 m pc ls stk) (argsL := As) (rest := st) X C.1 C.2.2.2.2.1 hname (va_Nw.use (yNs_on hlink) (C.2.2.2.2.2.2.2.2.1.1 _ hlink)) (hts _ (hw (.instanceMethod yy) (by simp))) (hts _ hcm) ⟨hy.1, hy.2.1⟩
    (yBackX C hM hcm (hw (.initialized yy.cls) (by simp)) hR.1 hR.2.1) rfl (by rw [C.2.2.1]; exact a5.1) (a := a) hlen hs (by show 2 * 0 + _ ≤ 8; omega) (by rw [C.2.1]; exact hdg)
    (fun vm₁ hW₁ => ⟨hR.2.2.1, hR.2.2.2, rfl, yPre_now C a1 a2 a4 (U := T.setVm vm₁) hT hW₁⟩)
  exact yCall_go C a4 a5 hT X' hpost hgo kR kT
end YV
/-- A CONTRACT OUT OF THE WALK OF ITS BODY -/
theorem yM_of {l : Launch} (hl : yL l) {y : MethodName} {cc : ByteArray} {maxL fr lo mc ms : Nat} {ret : Option FieldType} {d : yD} {b n : Nat} {h : yH} {As : List Value} {post : Option Value → Nat → yH → Prop} {thr : String → Nat → yH → Prop}
    (hy : plainName y.cls = true) (hA : (lg_sl As).length ≤ maxL)
    (body : ∀ (p : Program) (e : Env) (s : State) (m : MethodId) (args : Array Value) (below : List Frame) (meth : Method) (c : Code), yC p l s m args meth c y cc maxL ret [] d b → V p l e (yRm fr lo mc ms) s m args below meth c maxL d b (yEnd below s args d b post thr mc ms) 0 0 n h 0 (lv_args 0 As) []) :
    yM l y cc maxL ret fr lo mc ms d b n h As post thr := by
  unfold yM MX
  refine MetFree.of_bodyS (code := cc) (maxLocals := maxL) (ret := ret) hy ?_ ?_
  · intro args s m hh hn
    obtain ⟨meth, c, h1, h2, h3, h4, h5, h6, -, -⟩ := Cond.code_spec hn (atoms_spec (ws := .code y cc maxL ret :: yW) hh _ List.mem_cons_self)
    exact ⟨meth, c, h1, h2, h3, h4, h5, h6⟩
  · intro p e s m args below meth c s₁ B hml hP _
    have hh0 : s₁.heap = s.heap := by rw [B.state]; rfl
    obtain ⟨rfl, q1, q2, q4, q5⟩ := hP
    have hts := atoms_spec (ws := .code y cc maxL ret :: yW) B.pre
    have hex : c.exceptionTable.toList = [] := by
      have h9 := B.noHandlers (hts _ List.mem_cons_self)
      have h8 : c.exceptionTable.size = 0 := by simpa [Array.isEmpty] using h9
      exact List.eq_nil_of_length_eq_zero (by simpa using h8)
    have C : yC p l s m As.toArray meth c y cc maxL ret [] d b := ⟨B.exec, B.bytes, hml, B.returns, findClass_of_methodNamed B.named, fun w hw => hts w (List.mem_cons_of_mem _ hw), B.notSynchronized, q4, q5, by omega, (name_of_methodNamed B.named B.method).1, hex, hl⟩
    have K := body p e s m As.toArray below meth c C s.heap [] _ q1 q2 va_S.rf (lv_entry As hA)
    rw [← lg_entry_eq] at K
    obtain ⟨t, g1, o, g2, g3, g4⟩ := K s₁ hh0 (Stand.of_body B)
    exact ⟨t, o, g1, g2, g3, g4.1, g4.2⟩
end
section
section YX
variable {p : Program} {l : Launch} {e : Env} {R : Room} {s : State} {m : MethodId} {args : Array Value} {below : List Frame} {meth : Method} {c : Code} {nL : Nat} {d : yD} {b : Nat} {Q : State → Prop} {cells slots n : Nat} {h : yH} {pc : Nat} {lv : List (Nat × Value)} {st : List Value}
variable {y : MethodName} {cc : ByteArray} {ret : Option FieldType} {tb : List ClassFile.ExceptionTableEntry} {post : Option Value → Nat → yH → Prop} {thr : String → Nat → yH → Prop} {mc ms : Nat}
/-- a new exception with a text, thrown out of the method -/
theorem V_throwS (C : yC p l s m args meth c y cc nL ret tb d b) {ik is ic : Nat} {cls text : String} (hstr : (y.cls, is, text) ∈ yStr) (hk : Cond.classLink y.cls ik cls ∈ yW) (hini : Cond.initialized cls ∈ yW)
    (hat : ∀ w ∈ vx_atS y.cls ic cls ["java/lang/RuntimeException", "java/lang/Exception"], w ∈ yW ∨ w ∈ yNs) (hgood : ∀ w ∈ Cond.classLink y.cls ik cls :: Cond.initialized cls :: vx_atS y.cls ic cls ["java/lang/RuntimeException", "java/lang/Exception"], vx_ot w = true) (hcls : Bundle.fit cls = true)
    (d0 : decode cc pc = .ok (.new ik, 3)) (d3 : decode cc (pc + 3) = .ok (.dup, 1)) (d4 : decode cc (pc + 4) = .ok (.ldc is, 2)) (d6 : decode cc (pc + 6) = .ok (.invokespecial ic, 3)) (d9 : decode cc (pc + 9) = .ok (.athrow, 1))
    (hout : ∀ x ∈ tb, covers x (pc + 9) = false) (hR : 5 < R.frames ∧ (st.map fun v => v.category).sum + 82 ≤ R.locals ∧ cells + 1 ≤ R.cells ∧ slots + 6 ≤ R.slots) (h1 : cells + 1 ≤ mc) (h2 : slots + 6 ≤ ms) (hp : ∀ n', n ≤ n' → thr cls n' h) :
    V p l e R s m args below meth c nL d b (yEnd below s args d b post thr mc ms) cells slots n h pc lv st := by
  intro H locs ls a1 a2 a4 a5
  have hG := C.2.2.2.2.2.2.2.2.1
  have hts := C.2.2.2.2.2.1
  obtain ⟨sa, hsa⟩ := hG.2.1 _ hstr
  refine W_mono (Q' := vx_MQ below (fun _ _ _ _ => False) (fun E _ t => E = cls ∧ s.vm.Alike t.vm ∧ H.size ≤ t.heap.size ∧ ∀ q : Nat, q < H.size → t.heap[q]? = H[q]?) args s mc ms (fun q => b ≤ q)) (fun t ht => ?_)
    (vx_throwS (names := ["java/lang/RuntimeException", "java/lang/Exception"]) (A := fun q => b ≤ q) C.1 C.2.1 C.2.2.2.2.2.2.2.2.2.2.2.2 C.2.2.2.2.1 hcls (by decide +kernel) (hts _ hk) (hts _ hini) hsa (fun w hw => ?_) hgood hG.2.2.2.1 hG.2.2.2.2.1 a4 (by rw [C.2.2.1]; exact a5.1) d0 d3 d4 d6 d9 (by rw [C.2.2.2.2.2.2.2.2.2.2.2.1]; exact hout) hR.1 hR.2.1 hR.2.2.1 hR.2.2.2 C.2.2.2.2.2.2.1 (fun t x1 x2 x3 => ⟨rfl, x1, x2, x3⟩) a4.2.2 h1 h2)
  · obtain ⟨o, k1, k2, k3⟩ := ht
    rcases k3 with ⟨hf, _⟩ | ⟨q, rfl, E, ce, L, ⟨rfl, x1, x2, x3⟩, g1, g2, g3, g4, g5, g6⟩
    · exact hf.elim
    · have hb : b + n ≤ t.heap.size := by rw [← a1]; exact x2
      refine ⟨.threw q, k1, k2, ⟨t.heap.size - b, h, ⟨by omega, fun j e0 he => ?_, va_K.moved g4.alike C.2.2.2.2.2.2.2.1, yG_to g4 (fun q h3 h4 => (x3 q (by have := a4.1; omega)).trans (a4.2.1 q h3 h4)) hG⟩, ⟨Nat.le_trans a4.1 x2, fun q h3 h4 => (x3 q (by have := a4.1; omega)).trans (a4.2.1 q h3 h4)⟩, E, hp _ (by omega), ce, g1, by rw [g2]; rfl, by rw [x1.findClass]; exact g3⟩, L, ⟨g4, g5⟩, g6⟩
      exact (a2 j e0 he).kept (x3 (b + j) (a2 j e0 he).lt)
  · rcases hat w hw with h3 | h3
    · exact hts _ h3
    · exact va_Nw.use (yNs_on h3) (hG.1 _ h3)
/-- a static table -/
theorem V_getT (C : yC p l s m args meth c y cc nL ret tb d b) {index i : Nat} {q : String × List Int} (hq : yTab[i]? = some q) (hlink : Cond.fieldLink y.cls index "YearFractions$Calendars" q.1 "[I" ∈ yW) (hdg : decode cc pc = .ok (.getstatic index, 3)) (kk : V p l e R s m args below meth c nL d b Q cells slots n h (pc + 3) lv (.ref (d.2.2 i) :: st)) : V p l e R s m args below meth c nL d b Q cells slots n h pc lv st :=
  fun H locs ls a1 a2 a4 a5 => va_gets C.1 C.2.1 (C.2.2.2.2.2.2.2.2.1.2.2.1 i q hq).1 a4 C.2.2.2.2.1 (C.2.2.2.2.2.1 _ hlink) (fun x hx => hx) hdg (kk H locs ls a1 a2 a4 a5)
theorem V_ldT (C : yC p l s m args meth c y cc nL ret tb d b) {i : Nat} {q : String × List Int} {z : Int} (hq : yTab[i]? = some q) (h0 : 0 ≤ z) (h1 : z < q.2.length) (hN : q.2.length < 2 ^ 31) (hdg : decode cc pc = .ok (.iaload, 1)) (kk : V p l e R s m args below meth c nL d b Q cells slots n h (pc + 1) lv (vi (q.2.getD z.toNat 0) :: st)) : V p l e R s m args below meth c nL d b Q cells slots n h pc lv (vi z :: .ref (d.2.2 i) :: st) :=
  fun H locs ls a1 a2 a4 a5 => va_ti (v := vi (q.2.getD z.toNat 0)) C.1 C.2.1 (C.2.2.2.2.2.2.2.2.1.2.2.1 i q hq).2 a4 (iI_in h0 h1 hN) (by rw [iI_cl ⟨by omega, by omega⟩]) hdg (kk H locs ls a1 a2 a4 a5)
theorem V_lenT (C : yC p l s m args meth c y cc nL ret tb d b) {i : Nat} {q : String × List Int} {z : Int} (hq : yTab[i]? = some q) (hz : (q.2.length : Int) = z) (hdg : decode cc pc = .ok (.arraylength, 1)) (kk : V p l e R s m args below meth c nL d b Q cells slots n h (pc + 1) lv (vi z :: st)) : V p l e R s m args below meth c nL d b Q cells slots n h pc lv (.ref (d.2.2 i) :: st) :=
  fun H locs ls a1 a2 a4 a5 => va_tlen C.1 C.2.1 (C.2.2.2.2.2.2.2.2.1.2.2.1 i q hq).2 a4 (by rw [iI_nat, hz]) hdg (kk H locs ls a1 a2 a4 a5)
end YX
end
section
/-! Whole: a number of eight parts; object k of class number 2, its array at a -/
theorem hs_self {h : yH} {a : Nat} {x : va_E} (ha : h a = some x) : hs h a x = h := by
  funext j
  by_cases hj : j = a
  · subst hj; rw [hs_eq, ha]
  · rw [hs_ne _ _ hj]
theorem hs_hs (h : yH) (a : Nat) (x z : va_E) : hs (hs h a x) a z = hs h a z := by
  funext j
  by_cases hj : j = a
  · subst hj; rw [hs_eq, hs_eq]
  · rw [hs_ne _ _ hj, hs_ne _ _ hj, hs_ne _ _ hj]
theorem hs_at {h : yH} {k a : Nat} {x : va_E} {i : Nat} {fs : List Value} {cA : ClassId} {w : vp_A} (hk : h k = some (.inr (i, fs))) (ha : h a = some (.inl (cA, w))) : hs h a x k = some (.inr (i, fs)) := by
  rw [hs_ne _ _ (fun q => by rw [q, ha] at hk; cases hk)]
  exact hk
section Who
variable {p : Program} {l : Launch} {e : Env} {R : Room} {s : State} {m : MethodId} {args : Array Value} {below : List Frame} {meth : Method} {c : Code} {d : yD} {b : Nat} {Q : State → Prop} {cells slots n : Nat} {h : yH}
theorem V_heq {nL pc : Nat} {lv : List (Nat × Value)} {st : List Value} {h' : yH} (q : h' = h) (k : V p l e R s m args below meth c nL d b Q cells slots n h' pc lv st) : V p l e R s m args below meth c nL d b Q cells slots n h pc lv st := q ▸ k
set_option maxHeartbeats 4000000 in
theorem Who_become_loop (C : yC p l s m args meth c y_Who_become b_Who_become 6 none [] d b) {k a : Nat} {F : Nat → Int} {v : Int} (hk : h k = some (oO 2 [.ref (b + a)])) (ha : h a = some (oJ d 8 F)) (hv0 : 0 ≤ v) (hv1 : v ≤ 9223372036854775807)
    (kk : ∀ (G : Nat → Int) (lv : List (Nat × Value)), (∀ t, t < 8 → G t = bcD v t) → V p l e R s m args below meth c 6 d b Q cells slots n (hs h a (oJ d 8 G)) 36 lv []) :
    ∀ (j i : Nat) (G : Nat → Int), i + j = 8 → (∀ t, t < i → G t = bcD v t) → V p l e R s m args below meth c 6 d b Q cells slots n (hs h a (oJ d 8 G)) 5 [(0, .ref (b + k)), (3, vj (bcQ v i)), (5, vi i)] [] := by
  intro j
  induction j with
  | zero =>
    intro i G hi hG
    refine V_iload C d_Who_become_5 rfl ?_
    refine V_bipush (z := 8) C d_Who_become_7 rfl ?_
    refine V_icmp_ge (tgt := 36) C d_Who_become_9 (by decide) (by unfold inI; omega) (by unfold inI; omega) (fun q9 => ?_) (fun q9 => ?_)
    · exact kk G _ (fun t ht => hG t (by omega))
    · exact absurd q9 (by omega)
  | succ j ih =>
    intro i G hi hG
    have hq := bcQ_in hv0 i
    refine V_iload C d_Who_become_5 rfl ?_
    refine V_bipush (z := 8) C d_Who_become_7 rfl ?_
    refine V_icmp_ge (tgt := 36) C d_Who_become_9 (by decide) (by unfold inI; omega) (by unfold inI; omega) (fun q9 => ?_) (fun q9 => ?_)
    · exact absurd q9 (by omega)
    · have hk1 : hs h a (oJ d 8 G) k = some (oO 2 [.ref (b + a)]) := hs_at hk ha
      refine V_aload_n C d_Who_become_12 rfl rfl ?_
      refine V_get C 2 0 hk1 rfl in_Who (by decide) w_Who_become_13 rfl rfl d_Who_become_13 ?_
      refine V_iload C d_Who_become_16 rfl ?_
      refine V_lload_n C d_Who_become_18 rfl rfl ?_
      refine V_ldc2 (z := 1000000000) C w_Who_become_19 rfl d_Who_become_19 ?_
      refine V_lremP C d_Who_become_22 (by omega) (by omega) (by omega) (by omega) ?_
      refine V_lastore C (hs_eq _ _ _) (by omega) (by omega) (by decide) d_Who_become_23 ?_
      refine V_lload_n C d_Who_become_24 rfl rfl ?_
      refine V_ldc2 (z := 1000000000) C w_Who_become_25 rfl d_Who_become_25 ?_
      refine V_ldivP C d_Who_become_28 (by omega) (by omega) (by omega) (by omega) ?_
      refine V_lstore_n C d_Who_become_29 rfl (by decide) rfl ?_
      refine V_iinc C d_Who_become_30 rfl rfl (by decide) rfl ?_
      refine V_goto (tgt := 5) C d_Who_become_33 (by decide) ?_
      rw [hs_hs]
      refine V_loc (lv' := [(0, .ref (b + k)), (3, vj (bcQ v (i + 1))), (5, vi ((i + 1 : Nat) : Int))]) ⟨rfl, rfl, rfl, trivial⟩ ?_
      refine ih (i + 1) _ (by omega) (fun t ht => ?_)
      by_cases e1 : t = (i : Int).toNat
      · rw [e1, fu_eq]; rfl
      · rw [fu_ne _ _ e1]; exact hG t (by omega)
set_option maxHeartbeats 4000000 in
/-- become(v): the number is v -/
theorem c_Who_become (hl : yL l) {k a : Nat} {F : Nat → Int} {v : Int} (hk : h k = some (oO 2 [.ref (b + a)])) (ha : h a = some (oJ d 8 F)) (hv0 : 0 ≤ v) (hv1 : v ≤ 9223372036854775807) :
    yM l y_Who_become b_Who_become 6 none 0 0 0 0 d b n h [.ref (b + k), vj v] (fun r n' h' => r = none ∧ n' = n ∧ ∃ G, dig G 8 ∧ vl G 8 = v ∧ h' = hs h a (oJ d 8 G)) noT := by
  refine yM_of hl (by decide +kernel) (Nat.le_of_ble_eq_true rfl) (fun p e s m args below meth c C => ?_)
  refine V_lload_n C d_Who_become_0 rfl rfl ?_
  refine V_lstore_n C d_Who_become_1 rfl (by decide) rfl ?_
  refine V_iconst C d_Who_become_2 rfl ?_
  refine V_istore C d_Who_become_3 (by decide) rfl ?_
  refine V_heq (hs_self ha) ?_
  refine V_loc (lv' := [(0, .ref (b + k)), (3, vj (bcQ v 0)), (5, vi ((0 : Nat) : Int))]) ⟨rfl, rfl, rfl, trivial⟩ ?_
  refine Who_become_loop C hk ha hv0 hv1 (fun G lv hG => ?_) 8 0 F (by omega) (fun t ht => absurd ht (by omega))
  exact V_return C d_Who_become_36 (Nat.le_refl _) (Nat.le_refl _) ⟨rfl, rfl, G, fun t ht => by rw [hG t ht]; exact bc_dig v 8 t ht, by rw [vl_congr hG]; exact bc_all hv0 (by omega), rfl⟩
end Who
end
section
section Who2
variable {p : Program} {l : Launch} {e : Env} {R : Room} {s : State} {m : MethodId} {args : Array Value} {below : List Frame} {meth : Method} {c : Code} {d : yD} {b : Nat} {Q : State → Prop} {cells slots n : Nat} {h : yH}
set_option maxHeartbeats 4000000 in
/-- Whole(): eight parts of 0 -/
theorem c_Who_init (hl : yL l) {k : Nat} (hk : h k = some (oO 2 [.null])) :
    yM l y_Who_init b_Who_init 1 none 1 12 1 8 d b n h [.ref (b + k)] (fun r n' h' => r = none ∧ n' = n + 1 ∧ h' = hs (hs h n (oJ d 8 (fun _ => 0))) k (oO 2 [.ref (b + n)])) noT := by
  by_cases hkn : k = n
  · intro p e ha hc hh s m args below hf happ hP
    obtain ⟨rfl, q1, q2, q4, q5⟩ := hP
    have := (q2 k _ hk).lt
    dsimp only at this
    omega
  refine yM_of hl (by decide +kernel) (Nat.le_of_ble_eq_true rfl) (fun p e s m args below meth c C => ?_)
  have hk1 : hs h n (oJ d 8 (fun _ => 0)) k = some (oO 2 [.null]) := by rw [hs_ne _ _ hkn]; exact hk
  refine V_aload_n C d_Who_init_0 rfl rfl ?_
  refine V_objInit C w_Who_init_1 wc_Obj (by decide) (by decide) d_Who_init_1 ?_
  refine V_aload_n C d_Who_init_4 rfl rfl ?_
  refine V_bipush (z := 8) C d_Who_init_5 rfl ?_
  refine V_newJ C (N := 8) rfl (by decide) wa_J (by decide) (by decide) d_Who_init_7 ?_
  refine V_putF (ty := (.array .long)) C 2 0 hk1 rfl in_Who t_Who tok_Who nm_Who (by decide) w_Who_init_9 rfl rfl rfl rfl (by decide +kernel) rfl rfl (Nat.le_of_ble_eq_true rfl) d_Who_init_9 ?_
  exact V_return C d_Who_init_12 (Nat.le_refl _) (Nat.le_refl _) ⟨rfl, rfl, rfl⟩
set_option maxHeartbeats 4000000 in
theorem Who_increase_loop (C : yC p l s m args meth c y_Who_increase b_Who_increase 7 none [] d b) {k a k2 a2 : Nat} {F F2 : Nat → Int} (hk : h k = some (oO 2 [.ref (b + a)])) (ha : h a = some (oJ d 8 F)) (hk2 : h k2 = some (oO 2 [.ref (b + a2)])) (ha2 : h a2 = some (oJ d 8 F2)) (hne : a2 ≠ a) (hF : dig F 8) (hF2 : dig F2 8)
    (kk : ∀ (G : Nat → Int) (lv : List (Nat × Value)), (∀ t, t < 8 → G t = adD F F2 t) → V p l e R s m args below meth c 7 d b Q cells slots n (hs h a (oJ d 8 G)) 57 lv []) :
    ∀ (j i : Nat) (G : Nat → Int), i + j = 8 → (∀ t, t < i → G t = adD F F2 t) → (∀ t, i ≤ t → G t = F t) → V p l e R s m args below meth c 7 d b Q cells slots n (hs h a (oJ d 8 G)) 5 [(0, .ref (b + k)), (1, .ref (b + k2)), (2, vj (adC F F2 i)), (4, vi i)] [] := by
  intro j
  induction j with
  | zero =>
    intro i G hi hG hG2
    refine V_iload C d_Who_increase_5 rfl ?_
    refine V_bipush (z := 8) C d_Who_increase_7 rfl ?_
    refine V_icmp_ge (tgt := 57) C d_Who_increase_9 (by decide) (by unfold inI; omega) (by unfold inI; omega) (fun q9 => ?_) (fun q9 => ?_)
    · exact kk G _ (fun t ht => hG t (by omega))
    · exact absurd q9 (by omega)
  | succ j ih =>
    intro i G hi hG hG2
    have hc := adC_in hF hF2 i (by omega)
    have f1 := hF i (by omega)
    have f2 := hF2 i (by omega)
    have t1 : (i : Int).toNat = i := Int.toNat_natCast i
    refine V_iload C d_Who_increase_5 rfl ?_
    refine V_bipush (z := 8) C d_Who_increase_7 rfl ?_
    refine V_icmp_ge (tgt := 57) C d_Who_increase_9 (by decide) (by unfold inI; omega) (by unfold inI; omega) (fun q9 => ?_) (fun q9 => ?_)
    · exact absurd q9 (by omega)
    · have hk1 : hs h a (oJ d 8 G) k = some (oO 2 [.ref (b + a)]) := hs_at hk ha
      have hk3 : hs h a (oJ d 8 G) k2 = some (oO 2 [.ref (b + a2)]) := hs_at hk2 ha
      have ha3 : hs h a (oJ d 8 G) a2 = some (oJ d 8 F2) := by rw [hs_ne _ _ hne]; exact ha2
      refine V_aload_n C d_Who_increase_12 rfl rfl ?_
      refine V_get C 2 0 hk1 rfl in_Who (by decide) w_Who_increase_13 rfl rfl d_Who_increase_13 ?_
      refine V_iload C d_Who_increase_16 rfl ?_
      refine V_laload C (hs_eq _ _ _) (by omega) (by omega) (by decide) d_Who_increase_18 ?_
      rw [t1, hG2 i (Nat.le_refl i)]
      refine V_aload_n C d_Who_increase_19 rfl rfl ?_
      refine V_get C 2 0 hk3 rfl in_Who (by decide) w_Who_increase_20 rfl rfl d_Who_increase_20 ?_
      refine V_iload C d_Who_increase_23 rfl ?_
      refine V_laload C ha3 (by omega) (by omega) (by decide) d_Who_increase_25 ?_
      rw [t1]
      refine V_ladd C d_Who_increase_26 ?_
      refine V_lload_n C d_Who_increase_27 rfl rfl ?_
      refine V_ladd C d_Who_increase_28 ?_
      refine V_lstore C d_Who_increase_29 (by decide) rfl ?_
      refine V_aload_n C d_Who_increase_31 rfl rfl ?_
      refine V_get C 2 0 hk1 rfl in_Who (by decide) w_Who_increase_32 rfl rfl d_Who_increase_32 ?_
      refine V_iload C d_Who_increase_35 rfl ?_
      refine V_lload C d_Who_increase_37 rfl ?_
      refine V_ldc2 (z := 1000000000) C w_Who_increase_39 rfl d_Who_increase_39 ?_
      refine V_lremP C d_Who_increase_42 (by omega) (by omega) (by omega) (by omega) ?_
      refine V_lastore C (hs_eq _ _ _) (by omega) (by omega) (by decide) d_Who_increase_43 ?_
      refine V_lload C d_Who_increase_44 rfl ?_
      refine V_ldc2 (z := 1000000000) C w_Who_increase_46 rfl d_Who_increase_46 ?_
      refine V_ldivP C d_Who_increase_49 (by omega) (by omega) (by omega) (by omega) ?_
      refine V_lstore_n C d_Who_increase_50 rfl (by decide) rfl ?_
      refine V_iinc C d_Who_increase_51 rfl rfl (by decide) rfl ?_
      refine V_goto (tgt := 5) C d_Who_increase_54 (by decide) ?_
      rw [hs_hs, t1]
      refine V_loc (lv' := [(0, .ref (b + k)), (1, .ref (b + k2)), (2, vj (adC F F2 (i + 1))), (4, vi ((i + 1 : Nat) : Int))]) ⟨rfl, rfl, rfl, rfl, trivial⟩ ?_
      refine ih (i + 1) _ (by omega) (fun t ht => ?_) (fun t ht => ?_)
      · by_cases e1 : t = i
        · rw [e1, fu_eq]; rfl
        · rw [fu_ne _ _ e1]; exact hG t (by omega)
      · rw [fu_ne _ _ (by omega)]; exact hG2 t (by omega)
set_option maxHeartbeats 4000000 in
/-- increase: the number grows by the other's -/
theorem c_Who_increase (hl : yL l) {k a k2 a2 : Nat} {F F2 : Nat → Int} (hk : h k = some (oO 2 [.ref (b + a)])) (ha : h a = some (oJ d 8 F)) (hk2 : h k2 = some (oO 2 [.ref (b + a2)])) (ha2 : h a2 = some (oJ d 8 F2)) (hne : a2 ≠ a) (hF : dig F 8) (hF2 : dig F2 8) (hsm : vl F 8 + vl F2 8 < 1000000000 ^ 8) :
    yM l y_Who_increase b_Who_increase 7 none 0 0 0 0 d b n h [.ref (b + k), .ref (b + k2)] (fun r n' h' => r = none ∧ n' = n ∧ ∃ G, dig G 8 ∧ vl G 8 = vl F 8 + vl F2 8 ∧ h' = hs h a (oJ d 8 G)) noT := by
  refine yM_of hl (by decide +kernel) (Nat.le_of_ble_eq_true rfl) (fun p e s m args below meth c C => ?_)
  refine V_lconst (z := 0) C d_Who_increase_0 rfl ?_
  refine V_lstore_n C d_Who_increase_1 rfl (by decide) rfl ?_
  refine V_iconst C d_Who_increase_2 rfl ?_
  refine V_istore C d_Who_increase_3 (by decide) rfl ?_
  refine V_heq (hs_self ha) ?_
  refine V_loc (lv' := [(0, .ref (b + k)), (1, .ref (b + k2)), (2, vj (adC F F2 0)), (4, vi ((0 : Nat) : Int))]) ⟨rfl, rfl, rfl, rfl, trivial⟩ ?_
  refine Who_increase_loop C hk ha hk2 ha2 hne hF hF2 (fun G lv hG => ?_) 8 0 F (by omega) (fun t ht => absurd ht (by omega)) (fun t ht => rfl)
  exact V_return C d_Who_increase_57 (Nat.le_refl _) (Nat.le_refl _) ⟨rfl, rfl, G, fun t ht => by rw [hG t ht]; exact ad_dig F F2 8 t ht, by rw [vl_congr hG]; exact ad_all hF hF2 hsm, rfl⟩
set_option maxHeartbeats 4000000 in
theorem Who_scaled_loop (C : yC p l s m args meth c y_Who_becomeScaled b_Who_becomeScaled 9 none [] d b) {k a k2 a2 : Nat} {F F2 : Nat → Int} {f : Int} (hk : h k = some (oO 2 [.ref (b + a)])) (ha : h a = some (oJ d 8 F)) (hk2 : h k2 = some (oO 2 [.ref (b + a2)])) (ha2 : h a2 = some (oJ d 8 F2)) (hne : a2 ≠ a) (hF2 : dig F2 8) (hf0 : 0 ≤ f) (hf1 : f ≤ 1000000000)
    (kk : ∀ (G : Nat → Int) (lv : List (Nat × Value)), (∀ t, t < 8 → G t = scD F2 f t) → V p l e R s m args below meth c 9 d b Q cells slots n (hs h a (oJ d 8 G)) 54 lv []) :
    ∀ (j i : Nat) (G : Nat → Int), i + j = 8 → (∀ t, t < i → G t = scD F2 f t) → V p l e R s m args below meth c 9 d b Q cells slots n (hs h a (oJ d 8 G)) 6 [(0, .ref (b + k)), (1, .ref (b + k2)), (2, vj f), (4, vj (scC F2 f i)), (6, vi i)] [] := by
  intro j
  induction j with
  | zero =>
    intro i G hi hG
    refine V_iload C d_Who_becomeScaled_6 rfl ?_
    refine V_bipush (z := 8) C d_Who_becomeScaled_8 rfl ?_
    refine V_icmp_ge (tgt := 54) C d_Who_becomeScaled_10 (by decide) (by unfold inI; omega) (by unfold inI; omega) (fun q10 => ?_) (fun q10 => ?_)
    · exact kk G _ (fun t ht => hG t (by omega))
    · exact absurd q10 (by omega)
  | succ j ih =>
    intro i G hi hG
    have hc := scC_in hF2 hf0 i (by omega)
    have f2 := hF2 i (by omega)
    have g1 : 0 ≤ F2 i * f := Int.mul_nonneg f2.1 hf0
    have g2 : F2 i * f ≤ 999999999 * f := Int.mul_le_mul_of_nonneg_right (by omega) hf0
    have t1 : (i : Int).toNat = i := Int.toNat_natCast i
    refine V_iload C d_Who_becomeScaled_6 rfl ?_
    refine V_bipush (z := 8) C d_Who_becomeScaled_8 rfl ?_
    refine V_icmp_ge (tgt := 54) C d_Who_becomeScaled_10 (by decide) (by unfold inI; omega) (by unfold inI; omega) (fun q10 => ?_) (fun q10 => ?_)
    · exact absurd q10 (by omega)
    · have hk1 : hs h a (oJ d 8 G) k = some (oO 2 [.ref (b + a)]) := hs_at hk ha
      have hk3 : hs h a (oJ d 8 G) k2 = some (oO 2 [.ref (b + a2)]) := hs_at hk2 ha
      have ha3 : hs h a (oJ d 8 G) a2 = some (oJ d 8 F2) := by rw [hs_ne _ _ hne]; exact ha2
      refine V_aload_n C d_Who_becomeScaled_13 rfl rfl ?_
      refine V_get C 2 0 hk3 rfl in_Who (by decide) w_Who_becomeScaled_14 rfl rfl d_Who_becomeScaled_14 ?_
      refine V_iload C d_Who_becomeScaled_17 rfl ?_
      refine V_laload C ha3 (by omega) (by omega) (by decide) d_Who_becomeScaled_19 ?_
      rw [t1]
      refine V_lload_n C d_Who_becomeScaled_20 rfl rfl ?_
      refine V_lmul C d_Who_becomeScaled_21 ?_
      refine V_lload C d_Who_becomeScaled_22 rfl ?_
      refine V_ladd C d_Who_becomeScaled_24 ?_
      refine V_lstore C d_Who_becomeScaled_25 (by decide) rfl ?_
      refine V_aload_n C d_Who_becomeScaled_27 rfl rfl ?_
      refine V_get C 2 0 hk1 rfl in_Who (by decide) w_Who_becomeScaled_28 rfl rfl d_Who_becomeScaled_28 ?_
      refine V_iload C d_Who_becomeScaled_31 rfl ?_
      refine V_lload C d_Who_becomeScaled_33 rfl ?_
      refine V_ldc2 (z := 1000000000) C w_Who_becomeScaled_35 rfl d_Who_becomeScaled_35 ?_
      refine V_lremP C d_Who_becomeScaled_38 (by omega) (by omega) (by omega) (by omega) ?_
      refine V_lastore C (hs_eq _ _ _) (by omega) (by omega) (by decide) d_Who_becomeScaled_39 ?_
      refine V_lload C d_Who_becomeScaled_40 rfl ?_
      refine V_ldc2 (z := 1000000000) C w_Who_becomeScaled_42 rfl d_Who_becomeScaled_42 ?_
      refine V_ldivP C d_Who_becomeScaled_45 (by omega) (by omega) (by omega) (by omega) ?_
      refine V_lstore C d_Who_becomeScaled_46 (by decide) rfl ?_
      refine V_iinc C d_Who_becomeScaled_48 rfl rfl (by decide) rfl ?_
      refine V_goto (tgt := 6) C d_Who_becomeScaled_51 (by decide) ?_
      rw [hs_hs, t1]
      refine V_loc (lv' := [(0, .ref (b + k)), (1, .ref (b + k2)), (2, vj f), (4, vj (scC F2 f (i + 1))), (6, vi ((i + 1 : Nat) : Int))]) ⟨rfl, rfl, rfl, rfl, rfl, trivial⟩ ?_
      refine ih (i + 1) _ (by omega) (fun t ht => ?_)
      by_cases e1 : t = i
      · rw [e1, fu_eq]; rfl
      · rw [fu_ne _ _ e1]; exact hG t (by omega)
set_option maxHeartbeats 4000000 in
/-- becomeScaled: the number is the other's times a factor -/
theorem c_Who_becomeScaled (hl : yL l) {k a k2 a2 : Nat} {F F2 : Nat → Int} {f : Int} (hk : h k = some (oO 2 [.ref (b + a)])) (ha : h a = some (oJ d 8 F)) (hk2 : h k2 = some (oO 2 [.ref (b + a2)])) (ha2 : h a2 = some (oJ d 8 F2)) (hne : a2 ≠ a) (hF2 : dig F2 8) (hf0 : 0 ≤ f) (hf1 : f ≤ 1000000000) (hsm : vl F2 8 * f < 1000000000 ^ 8) :
    yM l y_Who_becomeScaled b_Who_becomeScaled 9 none 0 0 0 0 d b n h [.ref (b + k), .ref (b + k2), vj f] (fun r n' h' => r = none ∧ n' = n ∧ ∃ G, dig G 8 ∧ vl G 8 = vl F2 8 * f ∧ h' = hs h a (oJ d 8 G)) noT := by
  refine yM_of hl (by decide +kernel) (Nat.le_of_ble_eq_true rfl) (fun p e s m args below meth c C => ?_)
  refine V_lconst (z := 0) C d_Who_becomeScaled_0 rfl ?_
  refine V_lstore C d_Who_becomeScaled_1 (by decide) rfl ?_
  refine V_iconst C d_Who_becomeScaled_3 rfl ?_
  refine V_istore C d_Who_becomeScaled_4 (by decide) rfl ?_
  refine V_heq (hs_self ha) ?_
  refine V_loc (lv' := [(0, .ref (b + k)), (1, .ref (b + k2)), (2, vj f), (4, vj (scC F2 f 0)), (6, vi ((0 : Nat) : Int))]) ⟨rfl, rfl, rfl, rfl, rfl, trivial⟩ ?_
  refine Who_scaled_loop C hk ha hk2 ha2 hne hF2 hf0 hf1 (fun G lv hG => ?_) 8 0 F (by omega) (fun t ht => absurd ht (by omega))
  exact V_return C d_Who_becomeScaled_54 (Nat.le_refl _) (Nat.le_refl _) ⟨rfl, rfl, G, fun t ht => by rw [hG t ht]; exact sc_dig F2 f 8 t ht, by rw [vl_congr hG]; exact sc_all hF2 hf0 hsm, rfl⟩
set_option maxHeartbeats 4000000 in
theorem Who_divide_loop (C : yC p l s m args meth c y_Who_divide b_Who_divide 7 (some .long) [] d b) {k a : Nat} {F : Nat → Int} {u : Int} (hk : h k = some (oO 2 [.ref (b + a)])) (ha : h a = some (oJ d 8 F)) (hF : dig F 8) (hu0 : 0 < u) (hu1 : u ≤ 1000000000)
    (kk : ∀ (G : Nat → Int) (lv : List (Nat × Value)), (∀ t, t < 8 → G t = dvQ F u t) → lk lv 2 = some (vj (dvR F u 8)) → V p l e R s m args below meth c 7 d b Q cells slots n (hs h a (oJ d 8 G)) 50 lv []) :
    ∀ (j : Nat) (G : Nat → Int), j ≤ 8 → (∀ t, j ≤ t → t < 8 → G t = dvQ F u t) → (∀ t, t < j → G t = F t) → V p l e R s m args below meth c 7 d b Q cells slots n (hs h a (oJ d 8 G)) 6 [(0, .ref (b + k)), (1, vi u), (2, vj (dvR F u (8 - j))), (4, vi ((j : Int) - 1))] [] := by
  intro j
  induction j with
  | zero =>
    intro G hj hG hG2
    refine V_iload C d_Who_divide_6 rfl ?_
    refine V_if_lt (tgt := 50) C d_Who_divide_8 (by decide) (by unfold inI; omega) (fun q8 => ?_) (fun q8 => ?_)
    · exact kk G _ (fun t ht => hG t (by omega) ht) rfl
    · exact absurd q8 (by omega)
  | succ j ih =>
    intro G hj hG hG2
    have hc := dvR_in (q := F) hu0 (7 - j)
    have f1 := hF j (by omega)
    have g1 : dvR F u (8 - (j + 1)) = dvR F u (7 - j) := by rw [show 8 - (j + 1) = 7 - j by omega]
    have g2 : ((j + 1 : Nat) : Int) - 1 = j := by omega
    have t1 : (j : Int).toNat = j := Int.toNat_natCast j
    rw [g1, g2]
    refine V_iload C d_Who_divide_6 rfl ?_
    refine V_if_lt (tgt := 50) C d_Who_divide_8 (by decide) (by unfold inI; omega) (fun q8 => ?_) (fun q8 => ?_)
    · exact absurd q8 (by omega)
    · have hk1 : hs h a (oJ d 8 G) k = some (oO 2 [.ref (b + a)]) := hs_at hk ha
      refine V_lload_n C d_Who_divide_11 rfl rfl ?_
      refine V_ldc2 (z := 1000000000) C w_Who_divide_12 rfl d_Who_divide_12 ?_
      refine V_lmul C d_Who_divide_15 ?_
      refine V_aload_n C d_Who_divide_16 rfl rfl ?_
      refine V_get C 2 0 hk1 rfl in_Who (by decide) w_Who_divide_17 rfl rfl d_Who_divide_17 ?_
      refine V_iload C d_Who_divide_20 rfl ?_
      refine V_laload C (hs_eq _ _ _) (by omega) (by omega) (by decide) d_Who_divide_22 ?_
      rw [t1, hG2 j (Nat.lt_succ_self j)]
      refine V_ladd C d_Who_divide_23 ?_
      refine V_lstore C d_Who_divide_24 (by decide) rfl ?_
      refine V_aload_n C d_Who_divide_26 rfl rfl ?_
      refine V_get C 2 0 hk1 rfl in_Who (by decide) w_Who_divide_27 rfl rfl d_Who_divide_27 ?_
      refine V_iload C d_Who_divide_30 rfl ?_
      refine V_lload C d_Who_divide_32 rfl ?_
      refine V_iload_n C d_Who_divide_34 rfl rfl ?_
      refine V_i2l C d_Who_divide_35 (by unfold inI; omega) ?_
      refine V_ldivP C d_Who_divide_36 (by omega) (by omega) (by omega) (by omega) ?_
      refine V_lastore C (hs_eq _ _ _) (by omega) (by omega) (by decide) d_Who_divide_37 ?_
      refine V_lload C d_Who_divide_38 rfl ?_
      refine V_iload_n C d_Who_divide_40 rfl rfl ?_
      refine V_i2l C d_Who_divide_41 (by unfold inI; omega) ?_
      refine V_lremP C d_Who_divide_42 (by omega) (by omega) (by omega) (by omega) ?_
      refine V_lstore_n C d_Who_divide_43 rfl (by decide) rfl ?_
      refine V_iinc C d_Who_divide_44 rfl rfl (by decide) rfl ?_
      refine V_goto (tgt := 6) C d_Who_divide_47 (by decide) ?_
      rw [hs_hs, t1]
      refine V_loc (lv' := [(0, .ref (b + k)), (1, vi u), (2, vj (dvR F u (8 - j))), (4, vi ((j : Int) - 1))]) ⟨rfl, rfl, ?_, rfl, trivial⟩ ?_
      · rw [show 8 - j = (7 - j) + 1 by omega]
        show _ = some (vj ((dvR F u (7 - j) * 1000000000 + F (7 - (7 - j))) % u))
        rw [show 7 - (7 - j) = j by omega]
        rfl
      · refine ih _ (by omega) (fun t h1 h2 => ?_) (fun t h1 => ?_)
        · by_cases e1 : t = j
          · rw [e1, fu_eq]; rfl
          · rw [fu_ne _ _ e1]; exact hG t (by omega) h2
        · rw [fu_ne _ _ (by omega)]; exact hG2 t (by omega)
set_option maxHeartbeats 4000000 in
/-- divide: the quotient stays, the rest is the answer -/
theorem c_Who_divide (hl : yL l) {k a : Nat} {F : Nat → Int} {u : Int} (hk : h k = some (oO 2 [.ref (b + a)])) (ha : h a = some (oJ d 8 F)) (hF : dig F 8) (hu0 : 0 < u) (hu1 : u ≤ 1000000000) :
    yM l y_Who_divide b_Who_divide 7 (some .long) 0 0 0 0 d b n h [.ref (b + k), vi u] (fun r n' h' => n' = n ∧ r = some (vj (vl F 8 % u)) ∧ ∃ G, dig G 8 ∧ vl G 8 = vl F 8 / u ∧ h' = hs h a (oJ d 8 G)) noT := by
  refine yM_of hl (by decide +kernel) (Nat.le_of_ble_eq_true rfl) (fun p e s m args below meth c C => ?_)
  have hv := dv_val (q := F) (u := u) 8 (Nat.le_refl 8)
  rw [hk8_vl, hk8_vl] at hv
  have hr := dvR_in (q := F) hu0 8
  have e1 : vl F 8 % u = dvR F u 8 := by
    rw [← hv, Int.add_comm, Int.add_mul_emod_self_right, Int.emod_eq_of_lt hr.1 hr.2]
  have e2 : vl F 8 / u = vl (dvQ F u) 8 := by
    rw [← hv, Int.add_comm, Int.add_mul_ediv_right _ _ (by omega), Int.ediv_eq_zero_of_lt hr.1 hr.2, Int.zero_add]
  refine V_lconst (z := 0) C d_Who_divide_0 rfl ?_
  refine V_lstore_n C d_Who_divide_1 rfl (by decide) rfl ?_
  refine V_bipush (z := 7) C d_Who_divide_2 rfl ?_
  refine V_istore C d_Who_divide_4 (by decide) rfl ?_
  refine V_heq (hs_self ha) ?_
  refine V_loc (lv' := [(0, .ref (b + k)), (1, vi u), (2, vj (dvR F u (8 - 8))), (4, vi (((8 : Nat) : Int) - 1))]) ⟨rfl, rfl, rfl, rfl, trivial⟩ ?_
  refine Who_divide_loop C hk ha hF hu0 hu1 (fun G lv hG hlv => ?_) 8 F (Nat.le_refl 8) (fun t h1 h2 => absurd h1 (by omega)) (fun t ht => rfl)
  refine V_lload_n C d_Who_divide_50 rfl hlv ?_
  exact V_lreturn C d_Who_divide_51 (Nat.le_refl _) (Nat.le_refl _) ⟨rfl, by rw [e1], G, fun t ht => by rw [hG t ht]; exact dv_dig hu0 hF t ht, by rw [vl_congr hG, e2], rfl⟩
end Who2
end
section
theorem cz_1 {x z : Int} (h : z < x) : cz x z = 1 := by unfold cz; rw [if_pos h]
theorem cz_0 {x : Int} : cz x x = 0 := by unfold cz; rw [if_neg (by omega), if_pos rfl]
theorem cz_m {x z : Int} (h : x < z) : cz x z = -1 := by unfold cz; rw [if_neg (by omega), if_neg (by omega)]
/-- a number divided by ten again and again -/
def dq (x : Int) : Nat → Int
  | 0 => x
  | m + 1 => dq x m / 10
theorem dq_pow (x : Int) : ∀ m, dq x m = x / 10 ^ m
  | 0 => by show x = x / 1; rw [Int.ediv_one]
  | m + 1 => by
    show dq x m / 10 = _
    rw [dq_pow x m, Int.pow_succ, Int.ediv_ediv_of_nonneg (by exact Int.le_of_lt (Int.pow_pos (by omega)))]
theorem dq_in {x : Int} (h : 0 ≤ x) : ∀ m, 0 ≤ dq x m ∧ dq x m ≤ x
  | 0 => ⟨h, Int.le_refl _⟩
  | m + 1 => by
    have ih := dq_in h m
    show 0 ≤ dq x m / 10 ∧ dq x m / 10 ≤ x
    omega
/-- digit p of a number -/
def dgv (x : Int) (p : Nat) : Int := x / 10 ^ p % 10
theorem dg_low (x z : Int) : ∀ r, r < 9 → (x + 1000000000 * z) / 10 ^ r % 10 = x / 10 ^ r % 10 := by
  intro r hr
  rcases (show r = 0 ∨ r = 1 ∨ r = 2 ∨ r = 3 ∨ r = 4 ∨ r = 5 ∨ r = 6 ∨ r = 7 ∨ r = 8 by omega) with e | e | e | e | e | e | e | e | e <;> subst e <;> simp only [Int.reducePow] <;> omega
theorem vl_first (g : Nat → Int) (n : Nat) : vl g (1 + n) = g 0 + 1000000000 * vl (fun j => g (1 + j)) n := by
  rw [vl_add g 1 n]
  show (0 : Int) + g 0 * 1 + 1000000000 ^ 1 * vl (fun j => g (1 + j)) n = _
  rw [Int.pow_one]
  omega
theorem dg_vl {F : Nat → Int} (hF : dig F 8) {p : Nat} (hp : p < 72) : dgv (vl F 8) p = dq (F (p / 9)) (p % 9) % 10 := by
  have hq : p / 9 < 8 := by omega
  have e0 : vl F 8 = vl F (p / 9) + 1000000000 ^ (p / 9) * (F (p / 9) + 1000000000 * vl (fun j => F (p / 9 + (1 + j))) (7 - p / 9)) := by
    have h1 := vl_add F (p / 9) (1 + (7 - p / 9))
    rw [vl_first, show p / 9 + (1 + (7 - p / 9)) = 8 by omega] at h1
    exact h1
  have hb := vl_bound (dig_le hF (show p / 9 ≤ 8 by omega))
  have hp' : (10 : Int) ^ p = 1000000000 ^ (p / 9) * 10 ^ (p % 9) := by
    rw [show (1000000000 : Int) = 10 ^ 9 from rfl, ← Int.pow_mul, ← Int.pow_add, Nat.div_add_mod]
  unfold dgv
  rw [dq_pow, hp', ← Int.ediv_ediv_of_nonneg (Int.le_of_lt (Bpos _)), e0, Int.add_mul_ediv_left _ _ (Int.ne_of_gt (Bpos _)), Int.ediv_eq_zero_of_lt hb.1 hb.2, Int.zero_add]
  exact dg_low _ _ _ (Nat.mod_lt _ (by omega))
section Who3
variable {p : Program} {l : Launch} {e : Env} {R : Room} {s : State} {m : MethodId} {args : Array Value} {below : List Frame} {meth : Method} {c : Code} {d : yD} {b : Nat} {Q : State → Prop} {cells slots n : Nat} {h : yH}
theorem V_loc2 {nL pc : Nat} {st : List Value} {lv lv' : List (Nat × Value)} (k : V p l e R s m args below meth c nL d b Q cells slots n h pc lv' st) (hl : lsub lv' lv) : V p l e R s m args below meth c nL d b Q cells slots n h pc lv st := V_loc hl k
set_option maxHeartbeats 4000000 in
theorem Who_order_loop (C : yC p l s m args meth c y_Who_order b_Who_order 3 (some .int) [] d b) {post : Option Value → Nat → yH → Prop} {k a k2 a2 : Nat} {F F2 : Nat → Int} (hk : h k = some (oO 2 [.ref (b + a)])) (ha : h a = some (oJ d 8 F)) (hk2 : h k2 = some (oO 2 [.ref (b + a2)])) (ha2 : h a2 = some (oJ d 8 F2)) (hF : dig F 8) (hF2 : dig F2 8)
    (hp : post (some (vi (cz (vl F 8) (vl F2 8)))) n h) :
    ∀ (j : Nat), j ≤ 8 → (∀ t, j ≤ t → t < 8 → F t = F2 t) → V p l e R s m args below meth c 3 d b (yEnd below s args d b post noT 0 0) 0 0 n h 3 [(0, .ref (b + k)), (1, .ref (b + k2)), (2, vi ((j : Int) - 1))] [] := by
  intro j
  induction j with
  | zero =>
    intro hj hG
    refine V_iload_n C d_Who_order_3 rfl rfl ?_
    refine V_if_lt (tgt := 51) C d_Who_order_4 (by decide) (by unfold inI; omega) (fun q4 => ?_) (fun q4 => ?_)
    · have e1 : cz (vl F 8) (vl F2 8) = 0 := by rw [vl_congr (fun t ht => hG t (by omega) ht), cz_0]
      rw [e1] at hp
      refine V_iconst C d_Who_order_51 rfl ?_
      exact V_ireturn C d_Who_order_52 (Nat.le_refl _) (Nat.le_refl _) hp
    · exact absurd q4 (by omega)
  | succ j ih =>
    intro hj hG
    have f1 := hF j (by omega)
    have f2 := hF2 j (by omega)
    have g2 : ((j + 1 : Nat) : Int) - 1 = j := by omega
    have t1 : (j : Int).toNat = j := Int.toNat_natCast j
    rw [g2]
    refine V_iload_n C d_Who_order_3 rfl rfl ?_
    refine V_if_lt (tgt := 51) C d_Who_order_4 (by decide) (by unfold inI; omega) (fun q4 => ?_) (fun q4 => ?_)
    · exact absurd q4 (by omega)
    · refine V_aload_n C d_Who_order_7 rfl rfl ?_
      refine V_get C 2 0 hk rfl in_Who (by decide) w_Who_order_8 rfl rfl d_Who_order_8 ?_
      refine V_iload_n C d_Who_order_11 rfl rfl ?_
      refine V_laload C ha (by omega) (by omega) (by decide) d_Who_order_12 ?_
      refine V_aload_n C d_Who_order_13 rfl rfl ?_
      refine V_get C 2 0 hk2 rfl in_Who (by decide) w_Who_order_14 rfl rfl d_Who_order_14 ?_
      refine V_iload_n C d_Who_order_17 rfl rfl ?_
      refine V_laload C ha2 (by omega) (by omega) (by decide) d_Who_order_18 ?_
      rw [t1]
      refine V_lcmp C d_Who_order_19 (by unfold inJ; omega) (by unfold inJ; omega) ?_
      refine V_if_eq (tgt := 45) C d_Who_order_20 (by decide) (cz_in _ _) (fun q20 => ?_) (fun q20 => ?_)
      · refine V_iinc C d_Who_order_45 rfl rfl (by decide) rfl ?_
        refine V_goto (tgt := 3) C d_Who_order_48 (by decide) ?_
        exact V_loc2 (ih (by omega) (fun t h1 h2 => by
          by_cases e1 : t = j
          · rw [e1]; exact cz_eq.mp q20
          · exact hG t (by omega) h2)) ⟨rfl, rfl, rfl, trivial⟩
      · have hne : ¬ F j = F2 j := fun q => q20 (cz_eq.mpr q)
        refine V_aload_n C d_Who_order_23 rfl rfl ?_
        refine V_get C 2 0 hk rfl in_Who (by decide) w_Who_order_24 rfl rfl d_Who_order_24 ?_
        refine V_iload_n C d_Who_order_27 rfl rfl ?_
        refine V_laload C ha (by omega) (by omega) (by decide) d_Who_order_28 ?_
        refine V_aload_n C d_Who_order_29 rfl rfl ?_
        refine V_get C 2 0 hk2 rfl in_Who (by decide) w_Who_order_30 rfl rfl d_Who_order_30 ?_
        refine V_iload_n C d_Who_order_33 rfl rfl ?_
        refine V_laload C ha2 (by omega) (by omega) (by decide) d_Who_order_34 ?_
        rw [t1]
        refine V_lcmp C d_Who_order_35 (by unfold inJ; omega) (by unfold inJ; omega) ?_
        refine V_if_ge (tgt := 43) C d_Who_order_36 (by decide) (cz_in _ _) (fun q36 => ?_) (fun q36 => ?_)
        · have e1 : cz (vl F 8) (vl F2 8) = 1 := cz_1 (vl_lt j (by omega) hF2 hF (by have := cz_ge.mp q36; omega) (fun t h1 h2 => (hG t (by omega) h2).symm))
          rw [e1] at hp
          refine V_iconst C d_Who_order_43 rfl ?_
          exact V_ireturn C d_Who_order_44 (Nat.le_refl _) (Nat.le_refl _) hp
        · have e1 : cz (vl F 8) (vl F2 8) = -1 := cz_m (vl_lt j (by omega) hF hF2 (by have : ¬ F2 j ≤ F j := fun q => q36 (cz_ge.mpr q); omega) (fun t h1 h2 => hG t (by omega) h2))
          rw [e1] at hp
          refine V_iconst C d_Who_order_39 rfl ?_
          refine V_goto (tgt := 44) C d_Who_order_40 (by decide) ?_
          exact V_ireturn C d_Who_order_44 (Nat.le_refl _) (Nat.le_refl _) hp
set_option maxHeartbeats 4000000 in
/-- order -/
theorem c_Who_order (hl : yL l) {k a k2 a2 : Nat} {F F2 : Nat → Int} (hk : h k = some (oO 2 [.ref (b + a)])) (ha : h a = some (oJ d 8 F)) (hk2 : h k2 = some (oO 2 [.ref (b + a2)])) (ha2 : h a2 = some (oJ d 8 F2)) (hF : dig F 8) (hF2 : dig F2 8) :
    yM l y_Who_order b_Who_order 3 (some .int) 0 0 0 0 d b n h [.ref (b + k), .ref (b + k2)] (fun r n' h' => n' = n ∧ h' = h ∧ r = some (vi (cz (vl F 8) (vl F2 8)))) noT := by
  refine yM_of hl (by decide +kernel) (Nat.le_of_ble_eq_true rfl) (fun p e s m args below meth c C => ?_)
  refine V_bipush (z := 7) C d_Who_order_0 rfl ?_
  refine V_istore_n C d_Who_order_2 rfl (by decide) rfl ?_
  refine V_loc (lv' := [(0, .ref (b + k)), (1, .ref (b + k2)), (2, vi (((8 : Nat) : Int) - 1))]) ⟨rfl, rfl, rfl, trivial⟩ ?_
  exact Who_order_loop C hk ha hk2 ha2 hF hF2 ⟨rfl, rfl, rfl⟩ 8 (Nat.le_refl 8) (fun t h1 h2 => absurd h1 (by omega))
set_option maxHeartbeats 4000000 in
theorem Who_isZero_loop (C : yC p l s m args meth c y_Who_isZero b_Who_isZero 2 (some .boolean) [] d b) {post : Option Value → Nat → yH → Prop} {k a : Nat} {F : Nat → Int} (hk : h k = some (oO 2 [.ref (b + a)])) (ha : h a = some (oJ d 8 F)) (hF : dig F 8)
    (hp : post (some (vi (if vl F 8 = 0 then 1 else 0))) n h) :
    ∀ (j i : Nat), i + j = 8 → (∀ t, t < i → F t = 0) → V p l e R s m args below meth c 2 d b (yEnd below s args d b post noT 0 0) 0 0 n h 2 [(0, .ref (b + k)), (1, vi i)] [] := by
  intro j
  induction j with
  | zero =>
    intro i hi hG
    refine V_iload_n C d_Who_isZero_2 rfl rfl ?_
    refine V_bipush (z := 8) C d_Who_isZero_3 rfl ?_
    refine V_icmp_ge (tgt := 27) C d_Who_isZero_5 (by decide) (by unfold inI; omega) (by unfold inI; omega) (fun q5 => ?_) (fun q5 => ?_)
    · rw [if_pos (vl_zero (fun t ht => hG t (by omega)))] at hp
      refine V_iconst C d_Who_isZero_27 rfl ?_
      exact V_zreturn C d_Who_isZero_28 (by omega) (Nat.le_refl _) (Nat.le_refl _) hp
    · exact absurd q5 (by omega)
  | succ j ih =>
    intro i hi hG
    have f1 := hF i (by omega)
    have t1 : (i : Int).toNat = i := Int.toNat_natCast i
    refine V_iload_n C d_Who_isZero_2 rfl rfl ?_
    refine V_bipush (z := 8) C d_Who_isZero_3 rfl ?_
    refine V_icmp_ge (tgt := 27) C d_Who_isZero_5 (by decide) (by unfold inI; omega) (by unfold inI; omega) (fun q5 => ?_) (fun q5 => ?_)
    · exact absurd q5 (by omega)
    · refine V_aload_n C d_Who_isZero_8 rfl rfl ?_
      refine V_get C 2 0 hk rfl in_Who (by decide) w_Who_isZero_9 rfl rfl d_Who_isZero_9 ?_
      refine V_iload_n C d_Who_isZero_12 rfl rfl ?_
      refine V_laload C ha (by omega) (by omega) (by decide) d_Who_isZero_13 ?_
      rw [t1]
      refine V_lconst (z := 0) C d_Who_isZero_14 rfl ?_
      refine V_lcmp C d_Who_isZero_15 (by unfold inJ; omega) (by unfold inJ; omega) ?_
      refine V_if_eq (tgt := 21) C d_Who_isZero_16 (by decide) (cz_in _ _) (fun q16 => ?_) (fun q16 => ?_)
      · refine V_iinc C d_Who_isZero_21 rfl rfl (by decide) rfl ?_
        refine V_goto (tgt := 2) C d_Who_isZero_24 (by decide) ?_
        exact V_loc2 (ih (i + 1) (by omega) (fun t ht => by
          by_cases e1 : t = i
          · rw [e1]; exact cz_eq.mp q16
          · exact hG t (by omega))) ⟨rfl, rfl, trivial⟩
      · have hne : ¬ F i = 0 := fun q => q16 (cz_eq.mpr q)
        have hz : dig (fun _ => (0 : Int)) 8 := fun t ht => ⟨Int.le_refl 0, by show (0 : Int) < 1000000000; omega⟩
        rw [if_neg (fun q => hne (vl_inj hF hz (by rw [q, vl_zero (fun t ht => rfl)]) i (by omega)))] at hp
        refine V_iconst C d_Who_isZero_19 rfl ?_
        exact V_zreturn C d_Who_isZero_20 (by omega) (Nat.le_refl _) (Nat.le_refl _) hp
set_option maxHeartbeats 4000000 in
theorem c_Who_isZero (hl : yL l) {k a : Nat} {F : Nat → Int} (hk : h k = some (oO 2 [.ref (b + a)])) (ha : h a = some (oJ d 8 F)) (hF : dig F 8) :
    yM l y_Who_isZero b_Who_isZero 2 (some .boolean) 0 0 0 0 d b n h [.ref (b + k)] (fun r n' h' => n' = n ∧ h' = h ∧ r = some (vi (if vl F 8 = 0 then 1 else 0))) noT := by
  refine yM_of hl (by decide +kernel) (Nat.le_of_ble_eq_true rfl) (fun p e s m args below meth c C => ?_)
  refine V_iconst C d_Who_isZero_0 rfl ?_
  refine V_istore_n C d_Who_isZero_1 rfl (by decide) rfl ?_
  refine V_loc (lv' := [(0, .ref (b + k)), (1, vi ((0 : Nat) : Int))]) ⟨rfl, rfl, trivial⟩ ?_
  exact Who_isZero_loop C hk ha hF ⟨rfl, rfl, rfl⟩ 8 0 (by omega) (fun t ht => absurd ht (by omega))
theorem dig0 (n : Nat) : dig (fun _ => (0 : Int)) n := fun t ht => ⟨Int.le_refl 0, by show (0 : Int) < 1000000000; omega⟩
theorem vl_high {F : Nat → Int} (hF : dig F 8) (hG : ∀ t, 4 ≤ t → t < 8 → F t = 0) : vl F 8 = vl F 4 := by
  rw [vl_add F 4 4, vl_zero (f := fun j => F (4 + j)) (fun t ht => hG (4 + t) (by omega) (by omega)), Int.mul_zero, Int.add_zero]
theorem vl_low {F : Nat → Int} (hF : dig F 8) (h : vl F 8 < 1000000000 ^ 4) : ∀ t, 4 ≤ t → t < 8 → F t = 0 := by
  have h1 := vl_add F 4 4
  have b1 := vl_bound (dig_le hF (show 4 ≤ 8 by omega))
  have hd : dig (fun j => F (4 + j)) 4 := fun t ht => hF (4 + t) (by omega)
  have b2 := vl_bound hd
  have hz : vl (fun j => F (4 + j)) 4 = 0 := by
    have hp := Bpos 4
    have h2 : vl F (4 + 4) = vl F 8 := rfl
    rw [h2] at h1
    rw [h1] at h
    generalize (1000000000 : Int) ^ 4 = P at *
    rcases (show vl (fun j => F (4 + j)) 4 = 0 ∨ 1 ≤ vl (fun j => F (4 + j)) 4 by omega) with z | z
    · exact z
    · have h3 : P * 1 ≤ P * vl (fun j => F (4 + j)) 4 := Int.mul_le_mul_of_nonneg_left z (by omega)
      omega
  intro t h3 h4
  have h5 : F (4 + (t - 4)) = 0 := vl_inj hd (dig0 4) (by rw [hz, vl_zero (f := fun _ => (0 : Int)) (fun t ht => rfl)]) (t - 4) (by omega)
  rw [show 4 + (t - 4) = t by omega] at h5
  exact h5
set_option maxHeartbeats 4000000 in
theorem Who_isWeight_loop (C : yC p l s m args meth c y_Who_isWeight b_Who_isWeight 2 (some .boolean) [] d b) {post : Option Value → Nat → yH → Prop} {k a : Nat} {F : Nat → Int} (hk : h k = some (oO 2 [.ref (b + a)])) (ha : h a = some (oJ d 8 F)) (hF : dig F 8)
    (hp : post (some (vi (if vl F 8 < 1000000000 ^ 4 then 1 else 0))) n h) :
    ∀ (j i : Nat), i + j = 8 → 4 ≤ i → (∀ t, 4 ≤ t → t < i → F t = 0) → V p l e R s m args below meth c 2 d b (yEnd below s args d b post noT 0 0) 0 0 n h 2 [(0, .ref (b + k)), (1, vi i)] [] := by
  intro j
  induction j with
  | zero =>
    intro i hi h4 hG
    refine V_iload_n C d_Who_isWeight_2 rfl rfl ?_
    refine V_bipush (z := 8) C d_Who_isWeight_3 rfl ?_
    refine V_icmp_ge (tgt := 27) C d_Who_isWeight_5 (by decide) (by unfold inI; omega) (by unfold inI; omega) (fun q5 => ?_) (fun q5 => ?_)
    · have b1 := vl_bound (dig_le hF (show 4 ≤ 8 by omega))
      rw [if_pos (by rw [vl_high hF (fun t h1 h2 => hG t h1 (by omega))]; exact b1.2)] at hp
      refine V_iconst C d_Who_isWeight_27 rfl ?_
      exact V_zreturn C d_Who_isWeight_28 (by omega) (Nat.le_refl _) (Nat.le_refl _) hp
    · exact absurd q5 (by omega)
  | succ j ih =>
    intro i hi h4 hG
    have f1 := hF i (by omega)
    have t1 : (i : Int).toNat = i := Int.toNat_natCast i
    refine V_iload_n C d_Who_isWeight_2 rfl rfl ?_
    refine V_bipush (z := 8) C d_Who_isWeight_3 rfl ?_
    refine V_icmp_ge (tgt := 27) C d_Who_isWeight_5 (by decide) (by unfold inI; omega) (by unfold inI; omega) (fun q5 => ?_) (fun q5 => ?_)
    · exact absurd q5 (by omega)
    · refine V_aload_n C d_Who_isWeight_8 rfl rfl ?_
      refine V_get C 2 0 hk rfl in_Who (by decide) w_Who_isWeight_9 rfl rfl d_Who_isWeight_9 ?_
      refine V_iload_n C d_Who_isWeight_12 rfl rfl ?_
      refine V_laload C ha (by omega) (by omega) (by decide) d_Who_isWeight_13 ?_
      rw [t1]
      refine V_lconst (z := 0) C d_Who_isWeight_14 rfl ?_
      refine V_lcmp C d_Who_isWeight_15 (by unfold inJ; omega) (by unfold inJ; omega) ?_
      refine V_if_eq (tgt := 21) C d_Who_isWeight_16 (by decide) (cz_in _ _) (fun q16 => ?_) (fun q16 => ?_)
      · refine V_iinc C d_Who_isWeight_21 rfl rfl (by decide) rfl ?_
        refine V_goto (tgt := 2) C d_Who_isWeight_24 (by decide) ?_
        exact V_loc2 (ih (i + 1) (by omega) (by omega) (fun t ht h5 => by
          by_cases e1 : t = i
          · rw [e1]; exact cz_eq.mp q16
          · exact hG t ht (by omega))) ⟨rfl, rfl, trivial⟩
      · have hne : ¬ F i = 0 := fun q => q16 (cz_eq.mpr q)
        rw [if_neg (fun q => hne (vl_low hF q i h4 (by omega)))] at hp
        refine V_iconst C d_Who_isWeight_19 rfl ?_
        exact V_zreturn C d_Who_isWeight_20 (by omega) (Nat.le_refl _) (Nat.le_refl _) hp
set_option maxHeartbeats 4000000 in
theorem c_Who_isWeight (hl : yL l) {k a : Nat} {F : Nat → Int} (hk : h k = some (oO 2 [.ref (b + a)])) (ha : h a = some (oJ d 8 F)) (hF : dig F 8) :
    yM l y_Who_isWeight b_Who_isWeight 2 (some .boolean) 0 0 0 0 d b n h [.ref (b + k)] (fun r n' h' => n' = n ∧ h' = h ∧ r = some (vi (if vl F 8 < 1000000000 ^ 4 then 1 else 0))) noT := by
  refine yM_of hl (by decide +kernel) (Nat.le_of_ble_eq_true rfl) (fun p e s m args below meth c C => ?_)
  refine V_iconst C d_Who_isWeight_0 rfl ?_
  refine V_istore_n C d_Who_isWeight_1 rfl (by decide) rfl ?_
  refine V_loc (lv' := [(0, .ref (b + k)), (1, vi ((4 : Nat) : Int))]) ⟨rfl, rfl, trivial⟩ ?_
  exact Who_isWeight_loop C hk ha hF ⟨rfl, rfl, rfl⟩ 4 4 (by omega) (by omega) (fun t h1 h2 => absurd h1 (by omega))
set_option maxHeartbeats 4000000 in
theorem Who_digitAt_loop (C : yC p l s m args meth c y_Who_digitAt b_Who_digitAt 5 (some .int) [] d b) {post : Option Value → Nat → yH → Prop} {x : Int} {M : Nat} (h0 : 0 ≤ x) (h1 : x < 1000000000) (hM : M < 9)
    (hp : post (some (vi (dq x M % 10))) n h) :
    ∀ (j i : Nat), i + j = M → V p l e R s m args below meth c 5 d b (yEnd below s args d b post noT 0 0) 0 0 n h 16 [(2, vj (dq x i)), (4, vi j)] [] := by
  intro j
  induction j with
  | zero =>
    intro i hi
    have hq := dq_in h0 i
    have e1 : i = M := by omega
    subst e1
    refine V_iload C d_Who_digitAt_16 rfl ?_
    refine V_if_le (tgt := 33) C d_Who_digitAt_18 (by decide) (by unfold inI; omega) (fun q18 => ?_) (fun q18 => ?_)
    · refine V_lload_n C d_Who_digitAt_33 rfl rfl ?_
      refine V_ldc2 (z := 10) C w_Who_digitAt_34 rfl d_Who_digitAt_34 ?_
      refine V_lremP C d_Who_digitAt_37 (by omega) (by omega) (by omega) (by omega) ?_
      refine V_l2i C d_Who_digitAt_38 ?_
      exact V_ireturn C d_Who_digitAt_39 (Nat.le_refl _) (Nat.le_refl _) hp
    · exact absurd q18 (by omega)
  | succ j ih =>
    intro i hi
    have hq := dq_in h0 i
    refine V_iload C d_Who_digitAt_16 rfl ?_
    refine V_if_le (tgt := 33) C d_Who_digitAt_18 (by decide) (by unfold inI; omega) (fun q18 => ?_) (fun q18 => ?_)
    · exact absurd q18 (by omega)
    · refine V_lload_n C d_Who_digitAt_21 rfl rfl ?_
      refine V_ldc2 (z := 10) C w_Who_digitAt_22 rfl d_Who_digitAt_22 ?_
      refine V_ldivP C d_Who_digitAt_25 (by omega) (by omega) (by omega) (by omega) ?_
      refine V_lstore_n C d_Who_digitAt_26 rfl (by decide) rfl ?_
      refine V_iinc C d_Who_digitAt_27 rfl rfl (by decide) rfl ?_
      refine V_goto (tgt := 16) C d_Who_digitAt_30 (by decide) ?_
      refine V_loc (lv' := [(2, vj (dq x (i + 1))), (4, vi j)]) ⟨rfl, ?_, trivial⟩ (ih (i + 1) (by omega))
      show some (vi (((j + 1 : Nat) : Int) + -1)) = _
      rw [show ((j + 1 : Nat) : Int) + -1 = j by omega]
set_option maxHeartbeats 4000000 in
/-- digitAt -/
theorem c_Who_digitAt (hl : yL l) {k a : Nat} {F : Nat → Int} {z : Nat} (hk : h k = some (oO 2 [.ref (b + a)])) (ha : h a = some (oJ d 8 F)) (hF : dig F 8) (hz : z < 72) :
    yM l y_Who_digitAt b_Who_digitAt 5 (some .int) 0 0 0 0 d b n h [.ref (b + k), vi z] (fun r n' h' => n' = n ∧ h' = h ∧ r = some (vi (dgv (vl F 8) z))) noT := by
  refine yM_of hl (by decide +kernel) (Nat.le_of_ble_eq_true rfl) (fun p e s m args below meth c C => ?_)
  have e1 : (z : Int) / 9 = ((z / 9 : Nat) : Int) := by omega
  have e2 : (z : Int) % 9 = ((z % 9 : Nat) : Int) := by omega
  have f1 := hF (z / 9) (by omega)
  refine V_aload_n C d_Who_digitAt_0 rfl rfl ?_
  refine V_get C 2 0 hk rfl in_Who (by decide) w_Who_digitAt_1 rfl rfl d_Who_digitAt_1 ?_
  refine V_iload_n C d_Who_digitAt_4 rfl rfl ?_
  refine V_bipush (z := 9) C d_Who_digitAt_5 rfl ?_
  refine V_idivP C d_Who_digitAt_7 (by omega) (by omega) (by omega) (by omega) ?_
  refine V_laload C ha (by omega) (by omega) (by decide) d_Who_digitAt_8 ?_
  rw [e1, Int.toNat_natCast]
  refine V_lstore_n C d_Who_digitAt_9 rfl (by decide) rfl ?_
  refine V_iload_n C d_Who_digitAt_10 rfl rfl ?_
  refine V_bipush (z := 9) C d_Who_digitAt_11 rfl ?_
  refine V_iremP C d_Who_digitAt_13 (by omega) (by omega) (by omega) (by omega) ?_
  refine V_istore C d_Who_digitAt_14 (by decide) rfl ?_
  rw [e2]
  refine V_loc (lv' := [(2, vj (dq (F (z / 9)) 0)), (4, vi ((z % 9 : Nat) : Int))]) ⟨rfl, rfl, trivial⟩ ?_
  exact Who_digitAt_loop C f1.1 f1.2 (M := z % 9) (by omega) ⟨rfl, rfl, by rw [dg_vl hF hz]⟩ (z % 9) 0 (by omega)
end Who3
end
section
/-! a product by parts -/
def prC (x : Int) (g A : Nat → Int) : Nat → Int
  | 0 => 0
  | j + 1 => (x * g j + A j + prC x g A j) / 1000000000
def prD (x : Int) (g A : Nat → Int) (j : Nat) : Int := (x * g j + A j + prC x g A j) % 1000000000
theorem pr_mul {x z : Int} (hx : 0 ≤ x ∧ x < 1000000000) (hz : 0 ≤ z ∧ z < 1000000000) : 0 ≤ x * z ∧ x * z ≤ 999999998000000001 := by
  have h1 : 0 ≤ x * z := Int.mul_nonneg hx.1 hz.1
  have h2 : x * z ≤ 999999999 * z := Int.mul_le_mul_of_nonneg_right (by omega) hz.1
  omega
theorem prC_in {x : Int} {g A : Nat → Int} {n : Nat} (hx : 0 ≤ x ∧ x < 1000000000) (hg : dig g n) (hA : dig A n) : ∀ j, j ≤ n → 0 ≤ prC x g A j ∧ prC x g A j ≤ 999999999
  | 0, _ => by show (0 : Int) ≤ 0 ∧ (0 : Int) ≤ 999999999; omega
  | j + 1, h => by
    have ih := prC_in hx hg hA j (by omega)
    have h1 := pr_mul hx (hg j (by omega))
    have h2 := hA j (by omega)
    show 0 ≤ (x * g j + A j + prC x g A j) / 1000000000 ∧ (x * g j + A j + prC x g A j) / 1000000000 ≤ 999999999
    omega
theorem pr_val (x : Int) (g A : Nat → Int) : ∀ n, vl (prD x g A) n + prC x g A n * 1000000000 ^ n = x * vl g n + vl A n
  | 0 => by show (0 : Int) + 0 * 1 = x * 0 + 0; omega
  | n + 1 => by
    have ih := pr_val x g A n
    have h := dm_B (x * g n + A n + prC x g A n) (1000000000 ^ n)
    show vl (prD x g A) n + ((x * g n + A n + prC x g A n) % 1000000000) * 1000000000 ^ n + ((x * g n + A n + prC x g A n) / 1000000000) * 1000000000 ^ (n + 1) = x * (vl g n + g n * 1000000000 ^ n) + (vl A n + A n * 1000000000 ^ n)
    rw [Int.pow_succ, Int.mul_add, ← Int.mul_assoc x]
    rw [Int.add_mul, Int.add_mul] at h
    omega
/-- the parts behind the row i -/
def prR (x : Int) (g A : Nat → Int) (i : Nat) : Nat → Int := fun k => if k < i then A k else if k < i + 4 then prD x g (fun j => A (i + j)) (k - i) else if k = i + 4 then prC x g (fun j => A (i + j)) 4 else A k
def prA (f g : Nat → Int) : Nat → Nat → Int
  | 0 => fun _ => 0
  | i + 1 => prR (f i) g (prA f g i) i
theorem prA_ok {f g : Nat → Int} (hf : dig f 4) (hg : dig g 4) : ∀ i, i ≤ 4 → dig (prA f g i) 8 ∧ (∀ k, i + 4 ≤ k → prA f g i k = 0) ∧ vl (prA f g i) 8 = vl f i * vl g 4
  | 0, _ => ⟨fun k _ => by show (0 : Int) ≤ 0 ∧ (0 : Int) < 1000000000; omega, fun k _ => rfl, by
      rw [vl_zero (f := prA f g 0) (fun t ht => rfl)]
      show (0 : Int) = 0 * vl g 4
      omega⟩
  | i + 1, h => by
    obtain ⟨h1, h2, h3⟩ := prA_ok hf hg i (by omega)
    have hx := hf i (by omega)
    have hA : dig (fun j => prA f g i (i + j)) 4 := fun j hj => h1 (i + j) (by omega)
    have hc := prC_in hx hg hA 4 (Nat.le_refl 4)
    have hv := pr_val (f i) g (fun j => prA f g i (i + j)) 4
    have hz : ∀ k, i + 1 + 4 ≤ k → prA f g (i + 1) k = 0 := fun k hk => by
      show prR (f i) g (prA f g i) i k = 0
      unfold prR
      rw [if_neg (by omega), if_neg (by omega), if_neg (by omega)]
      exact h2 k (by omega)
    refine ⟨fun k hk => ?_, hz, ?_⟩
    · show 0 ≤ prR (f i) g (prA f g i) i k ∧ prR (f i) g (prA f g i) i k < 1000000000
      unfold prR
      by_cases e1 : k < i
      · rw [if_pos e1]; exact h1 k hk
      · rw [if_neg e1]
        by_cases e2 : k < i + 4
        · rw [if_pos e2]
          unfold prD
          omega
        · rw [if_neg e2]
          by_cases e3 : k = i + 4
          · rw [if_pos e3]; omega
          · rw [if_neg e3]; exact h1 k hk
    · have s1 := vl_add (prA f g (i + 1)) i (5 + (3 - i))
      have s2 := vl_add (fun j => prA f g (i + 1) (i + j)) 5 (3 - i)
      have s3 := vl_add (prA f g i) i (4 + (4 - i))
      have s4 := vl_add (fun j => prA f g i (i + j)) 4 (4 - i)
      rw [show i + (5 + (3 - i)) = 8 by omega] at s1
      rw [show i + (4 + (4 - i)) = 8 by omega] at s3
      rw [vl_zero (f := fun j => prA f g (i + 1) (i + (5 + j))) (fun t ht => hz _ (by omega)), Int.mul_zero, Int.add_zero] at s2
      rw [vl_zero (f := fun j => prA f g i (i + (4 + j))) (fun t ht => h2 _ (by omega)), Int.mul_zero, Int.add_zero] at s4
      have s5 : vl (fun j => prA f g (i + 1) (i + j)) 5 = vl (prD (f i) g (fun j => prA f g i (i + j))) 4 + prC (f i) g (fun j => prA f g i (i + j)) 4 * 1000000000 ^ 4 := by
        show vl (fun j => prA f g (i + 1) (i + j)) 4 + prA f g (i + 1) (i + 4) * 1000000000 ^ 4 = _
        have e4 : prA f g (i + 1) (i + 4) = prC (f i) g (fun j => prA f g i (i + j)) 4 := by
          show prR (f i) g (prA f g i) i (i + 4) = _
          unfold prR
          rw [if_neg (by omega), if_neg (by omega), if_pos rfl]
        rw [e4, vl_congr (g := prD (f i) g (fun j => prA f g i (i + j))) (fun t ht => ?_)]
        show prR (f i) g (prA f g i) i (i + t) = _
        unfold prR
        rw [if_neg (by omega), if_pos (by omega), show i + t - i = t by omega]
      have s6 : vl (prA f g (i + 1)) i = vl (prA f g i) i := vl_congr (fun t ht => by
        show prR (f i) g (prA f g i) i t = _
        unfold prR
        rw [if_pos ht])
      rw [s1, s2, s5, hv, s6]
      rw [s3, s4] at h3
      show vl (prA f g i) i + 1000000000 ^ i * (f i * vl g 4 + vl (fun j => prA f g i (i + j)) 4) = (vl f i + f i * 1000000000 ^ i) * vl g 4
      rw [Int.mul_add, Int.add_mul, ← h3, ← Int.mul_assoc, Int.mul_comm (1000000000 ^ i) (f i)]
      omega
section Prod
variable {p : Program} {l : Launch} {e : Env} {R : Room} {s : State} {m : MethodId} {args : Array Value} {below : List Frame} {meth : Method} {c : Code} {d : yD} {b : Nat} {Q : State → Prop} {cells slots n : Nat} {h : yH}
set_option maxHeartbeats 4000000 in
theorem Who_prod_inner (C : yC p l s m args meth c y_Who_becomeProduct b_Who_becomeProduct 9 none [] d b) {k a k1 a1 k2 a2 : Nat} {F F1 F2 P : Nat → Int} {i : Nat} (hk : h k = some (oO 2 [.ref (b + a)])) (ha : h a = some (oJ d 8 F)) (hk1 : h k1 = some (oO 2 [.ref (b + a1)])) (ha1 : h a1 = some (oJ d 8 F1)) (hne1 : a1 ≠ a) (hk2 : h k2 = some (oO 2 [.ref (b + a2)])) (ha2 : h a2 = some (oJ d 8 F2)) (hne2 : a2 ≠ a) (hF1 : dig F1 4) (hF2 : dig F2 4) (hP : dig P 8) (hi : i < 4)
    (kk : ∀ (G : Nat → Int) (lv : List (Nat × Value)), (∀ t, t < 8 → G t = prR (F1 i) F2 P i t) → lsub [(0, .ref (b + k)), (1, .ref (b + k1)), (2, .ref (b + k2)), (3, vi i)] lv → V p l e R s m args below meth c 9 d b Q cells slots n (hs h a (oJ d 8 G)) 92 lv []) :
    ∀ (r j : Nat) (G : Nat → Int), j + r = 4 → (∀ t, t < 8 → G t = if i ≤ t ∧ t < i + j then prD (F1 i) F2 (fun u => P (i + u)) (t - i) else P t) → V p l e R s m args below meth c 9 d b Q cells slots n (hs h a (oJ d 8 G)) 18 [(0, .ref (b + k)), (1, .ref (b + k1)), (2, .ref (b + k2)), (3, vi i), (4, vj (prC (F1 i) F2 (fun u => P (i + u)) j)), (6, vi j)] [] := by
  have hPi : dig (fun u => P (i + u)) 4 := fun u hu => hP (i + u) (by omega)
  intro r
  induction r with
  | zero =>
    intro j G hj hG
    have hj4 : j = 4 := by omega
    subst hj4
    have hkk : hs h a (oJ d 8 G) k = some (oO 2 [.ref (b + a)]) := hs_at hk ha
    refine V_iload C d_Who_becomeProduct_18 rfl ?_
    refine V_iconst C d_Who_becomeProduct_20 rfl ?_
    refine V_icmp_ge (tgt := 82) C d_Who_becomeProduct_21 (by decide) (by unfold inI; omega) (by unfold inI; omega) (fun q21 => ?_) (fun q21 => ?_)
    · refine V_aload_n C d_Who_becomeProduct_82 rfl rfl ?_
      refine V_get C 2 0 hkk rfl in_Who (by decide) w_Who_becomeProduct_83 rfl rfl d_Who_becomeProduct_83 ?_
      refine V_iload_n C d_Who_becomeProduct_86 rfl rfl ?_
      refine V_iconst C d_Who_becomeProduct_87 rfl ?_
      refine V_iadd C d_Who_becomeProduct_88 ?_
      refine V_lload C d_Who_becomeProduct_89 rfl ?_
      refine V_lastore C (hs_eq _ _ _) (by omega) (by omega) (by decide) d_Who_becomeProduct_91 ?_
      rw [hs_hs, show ((i : Int) + 4).toNat = i + 4 by omega]
      refine kk _ _ (fun t ht => ?_) ⟨rfl, rfl, rfl, rfl, trivial⟩
      unfold prR
      by_cases e1 : t = i + 4
      · rw [e1, fu_eq, if_neg (by omega), if_neg (by omega), if_pos rfl]
      · rw [fu_ne _ _ e1, hG t ht]
        by_cases e2 : t < i
        · rw [if_pos e2, if_neg (by omega)]
        · rw [if_neg e2]
          by_cases e3 : t < i + 4
          · rw [if_pos e3, if_pos (by omega)]
          · rw [if_neg e3, if_neg e1, if_neg (by omega)]
    · exact absurd q21 (by omega)
  | succ r ih =>
    intro j G hj hG
    have hc := prC_in (hF1 i hi) hF2 hPi j (by omega)
    have g1 := pr_mul (hF1 i hi) (hF2 j (by omega))
    have g2 := hP (i + j) (by omega)
    have t1 : (i : Int).toNat = i := Int.toNat_natCast i
    have t2 : (j : Int).toNat = j := Int.toNat_natCast j
    have t3 : ((i : Int) + j).toNat = i + j := by omega
    have hGi : G (i + j) = P (i + j) := by rw [hG (i + j) (by omega), if_neg (by omega)]
    have hkk : hs h a (oJ d 8 G) k = some (oO 2 [.ref (b + a)]) := hs_at hk ha
    have hkk1 : hs h a (oJ d 8 G) k1 = some (oO 2 [.ref (b + a1)]) := hs_at hk1 ha
    have hkk2 : hs h a (oJ d 8 G) k2 = some (oO 2 [.ref (b + a2)]) := hs_at hk2 ha
    have haa1 : hs h a (oJ d 8 G) a1 = some (oJ d 8 F1) := by rw [hs_ne _ _ hne1]; exact ha1
    have haa2 : hs h a (oJ d 8 G) a2 = some (oJ d 8 F2) := by rw [hs_ne _ _ hne2]; exact ha2
    refine V_iload C d_Who_becomeProduct_18 rfl ?_
    refine V_iconst C d_Who_becomeProduct_20 rfl ?_
    refine V_icmp_ge (tgt := 82) C d_Who_becomeProduct_21 (by decide) (by unfold inI; omega) (by unfold inI; omega) (fun q21 => ?_) (fun q21 => ?_)
    · exact absurd q21 (by omega)
    · refine V_aload_n C d_Who_becomeProduct_24 rfl rfl ?_
      refine V_get C 2 0 hkk1 rfl in_Who (by decide) w_Who_becomeProduct_25 rfl rfl d_Who_becomeProduct_25 ?_
      refine V_iload_n C d_Who_becomeProduct_28 rfl rfl ?_
      refine V_laload C haa1 (by omega) (by omega) (by decide) d_Who_becomeProduct_29 ?_
      refine V_aload_n C d_Who_becomeProduct_30 rfl rfl ?_
      refine V_get C 2 0 hkk2 rfl in_Who (by decide) w_Who_becomeProduct_31 rfl rfl d_Who_becomeProduct_31 ?_
      refine V_iload C d_Who_becomeProduct_34 rfl ?_
      refine V_laload C haa2 (by omega) (by omega) (by decide) d_Who_becomeProduct_36 ?_
      refine V_lmul C d_Who_becomeProduct_37 ?_
      rw [t1, t2]
      refine V_aload_n C d_Who_becomeProduct_38 rfl rfl ?_
      refine V_get C 2 0 hkk rfl in_Who (by decide) w_Who_becomeProduct_39 rfl rfl d_Who_becomeProduct_39 ?_
      refine V_iload_n C d_Who_becomeProduct_42 rfl rfl ?_
      refine V_iload C d_Who_becomeProduct_43 rfl ?_
      refine V_iadd C d_Who_becomeProduct_45 ?_
      refine V_laload C (hs_eq _ _ _) (by omega) (by omega) (by decide) d_Who_becomeProduct_46 ?_
      rw [t3, hGi]
      refine V_ladd C d_Who_becomeProduct_47 ?_
      refine V_lload C d_Who_becomeProduct_48 rfl ?_
      refine V_ladd C d_Who_becomeProduct_50 ?_
      refine V_lstore C d_Who_becomeProduct_51 (by decide) rfl ?_
      refine V_aload_n C d_Who_becomeProduct_53 rfl rfl ?_
      refine V_get C 2 0 hkk rfl in_Who (by decide) w_Who_becomeProduct_54 rfl rfl d_Who_becomeProduct_54 ?_
      refine V_iload_n C d_Who_becomeProduct_57 rfl rfl ?_
      refine V_iload C d_Who_becomeProduct_58 rfl ?_
      refine V_iadd C d_Who_becomeProduct_60 ?_
      refine V_lload C d_Who_becomeProduct_61 rfl ?_
      refine V_ldc2 (z := 1000000000) C w_Who_becomeProduct_63 rfl d_Who_becomeProduct_63 ?_
      refine V_lremP C d_Who_becomeProduct_66 (by omega) (by omega) (by omega) (by omega) ?_
      refine V_lastore C (hs_eq _ _ _) (by omega) (by omega) (by decide) d_Who_becomeProduct_67 ?_
      refine V_lload C d_Who_becomeProduct_68 rfl ?_
      refine V_ldc2 (z := 1000000000) C w_Who_becomeProduct_70 rfl d_Who_becomeProduct_70 ?_
      refine V_ldivP C d_Who_becomeProduct_73 (by omega) (by omega) (by omega) (by omega) ?_
      refine V_lstore C d_Who_becomeProduct_74 (by decide) rfl ?_
      refine V_iinc C d_Who_becomeProduct_76 rfl rfl (by decide) rfl ?_
      refine V_goto (tgt := 18) C d_Who_becomeProduct_79 (by decide) ?_
      rw [hs_hs, t3]
      refine V_loc2 (ih (j + 1) _ (by omega) (fun t ht => ?_)) ⟨rfl, rfl, rfl, rfl, rfl, rfl, trivial⟩
      by_cases e1 : t = i + j
      · rw [e1, fu_eq, if_pos (by omega), show i + j - i = j by omega]; rfl
      · rw [fu_ne _ _ e1, hG t ht]
        by_cases e2 : i ≤ t ∧ t < i + j
        · rw [if_pos e2, if_pos (by omega)]
        · rw [if_neg e2, if_neg (by omega)]
set_option maxHeartbeats 4000000 in
theorem Who_prod_outer (C : yC p l s m args meth c y_Who_becomeProduct b_Who_becomeProduct 9 none [] d b) {k a k1 a1 k2 a2 : Nat} {F F1 F2 : Nat → Int} (hk : h k = some (oO 2 [.ref (b + a)])) (ha : h a = some (oJ d 8 F)) (hk1 : h k1 = some (oO 2 [.ref (b + a1)])) (ha1 : h a1 = some (oJ d 8 F1)) (hne1 : a1 ≠ a) (hk2 : h k2 = some (oO 2 [.ref (b + a2)])) (ha2 : h a2 = some (oJ d 8 F2)) (hne2 : a2 ≠ a) (hF1 : dig F1 4) (hF2 : dig F2 4)
    (kk : ∀ (G : Nat → Int) (lv : List (Nat × Value)), (∀ t, t < 8 → G t = prA F1 F2 4 t) → V p l e R s m args below meth c 9 d b Q cells slots n (hs h a (oJ d 8 G)) 98 lv []) :
    ∀ (r i : Nat) (G : Nat → Int), i + r = 4 → (∀ t, t < 8 → G t = prA F1 F2 i t) → V p l e R s m args below meth c 9 d b Q cells slots n (hs h a (oJ d 8 G)) 7 [(0, .ref (b + k)), (1, .ref (b + k1)), (2, .ref (b + k2)), (3, vi i)] [] := by
  intro r
  induction r with
  | zero =>
    intro i G hi hG
    have e1 : i = 4 := by omega
    subst e1
    refine V_iload_n C d_Who_becomeProduct_7 rfl rfl ?_
    refine V_iconst C d_Who_becomeProduct_8 rfl ?_
    refine V_icmp_ge (tgt := 98) C d_Who_becomeProduct_9 (by decide) (by unfold inI; omega) (by unfold inI; omega) (fun q9 => ?_) (fun q9 => ?_)
    · exact kk G _ hG
    · exact absurd q9 (by omega)
  | succ r ih =>
    intro i G hi hG
    obtain ⟨p1, p2, p3⟩ := prA_ok hF1 hF2 i (by omega)
    refine V_iload_n C d_Who_becomeProduct_7 rfl rfl ?_
    refine V_iconst C d_Who_becomeProduct_8 rfl ?_
    refine V_icmp_ge (tgt := 98) C d_Who_becomeProduct_9 (by decide) (by unfold inI; omega) (by unfold inI; omega) (fun q9 => ?_) (fun q9 => ?_)
    · exact absurd q9 (by omega)
    · refine V_lconst (z := 0) C d_Who_becomeProduct_12 rfl ?_
      refine V_lstore C d_Who_becomeProduct_13 (by decide) rfl ?_
      refine V_iconst C d_Who_becomeProduct_15 rfl ?_
      refine V_istore C d_Who_becomeProduct_16 (by decide) rfl ?_
      refine V_loc2 (Who_prod_inner C hk ha hk1 ha1 hne1 hk2 ha2 hne2 hF1 hF2 p1 (i := i) (by omega) (fun G' lv hG' hlv => ?_) 4 0 G (by omega) (fun t ht => by rw [hG t ht, if_neg (by omega)])) ⟨rfl, rfl, rfl, rfl, rfl, rfl, trivial⟩
      refine V_loc hlv ?_
      refine V_iinc C d_Who_becomeProduct_92 rfl rfl (by decide) rfl ?_
      refine V_goto (tgt := 7) C d_Who_becomeProduct_95 (by decide) ?_
      exact V_loc2 (ih (i + 1) G' (by omega) (fun t ht => hG' t ht)) ⟨rfl, rfl, rfl, rfl, trivial⟩
set_option maxHeartbeats 4000000 in
/-- becomeProduct: of two numbers of four parts -/
theorem c_Who_becomeProduct (hl : yL l) {k a k1 a1 k2 a2 : Nat} {F F1 F2 : Nat → Int} (hk : h k = some (oO 2 [.ref (b + a)])) (ha : h a = some (oJ d 8 F)) (hk1 : h k1 = some (oO 2 [.ref (b + a1)])) (ha1 : h a1 = some (oJ d 8 F1)) (hne1 : a1 ≠ a) (hk2 : h k2 = some (oO 2 [.ref (b + a2)])) (ha2 : h a2 = some (oJ d 8 F2)) (hne2 : a2 ≠ a) (hF1 : dig F1 4) (hF2 : dig F2 4) :
    yM l y_Who_becomeProduct b_Who_becomeProduct 9 none 1 30 0 0 d b n h [.ref (b + k), .ref (b + k1), .ref (b + k2)] (fun r n' h' => r = none ∧ n' = n ∧ ∃ G, dig G 8 ∧ vl G 8 = vl F1 4 * vl F2 4 ∧ h' = hs h a (oJ d 8 G)) noT := by
  refine yM_of hl (by decide +kernel) (Nat.le_of_ble_eq_true rfl) (fun p e s m args below meth c C => ?_)
  obtain ⟨p1, p2, p3⟩ := prA_ok hF1 hF2 4 (Nat.le_refl 4)
  refine V_aload_n C d_Who_becomeProduct_0 rfl rfl ?_
  refine V_lconst (z := 0) C d_Who_becomeProduct_1 rfl ?_
  refine V_callV C (c_Who_become (v := 0) hl hk ha (by omega) (by omega)) wc_Who_become w_Who_becomeProduct_2 np_Who_become (by decide) hk rfl rfl (Nat.le_of_ble_eq_true rfl) d_Who_becomeProduct_2 (fun v n1 h1 hp => ?_) (fun Cx n1 h1 hp => hp.elim)
  obtain ⟨rfl, rfl, G, hG, hGv, rfl⟩ := hp
  refine V_iconst C d_Who_becomeProduct_5 rfl ?_
  refine V_istore_n C d_Who_becomeProduct_6 rfl (by decide) rfl ?_
  have hG0 : ∀ t, t < 8 → G t = 0 := vl_inj hG (dig0 8) (by rw [hGv, vl_zero (f := fun _ => (0 : Int)) (fun t ht => rfl)])
  refine V_loc2 (Who_prod_outer C hk ha hk1 ha1 hne1 hk2 ha2 hne2 hF1 hF2 (fun G' lv hG' => ?_) 4 0 G (by omega) (fun t ht => hG0 t ht)) ⟨rfl, rfl, rfl, rfl, trivial⟩
  exact V_return C d_Who_becomeProduct_98 (Nat.le_refl _) (Nat.le_refl _) ⟨rfl, rfl, G', fun t ht => by rw [hG' t ht]; exact p1 t ht, by rw [vl_congr hG', p3], rfl⟩
end Prod
end
section
/-! Row: object k of class number 1 with the first year f, many years m, and the parts of all weights in the array a -/
/-- the weight of place q -/
def wt (P : Nat → Int) (q : Nat) : Int := vl (fun j => P (4 * q + j)) 4
theorem wt_dig {P : Nat → Int} (hP : dig P 192) {q : Nat} (hq : q < 48) : dig (fun j => P (4 * q + j)) 4 := fun j hj => hP (4 * q + j) (by omega)
theorem wt_in {P : Nat → Int} (hP : dig P 192) {q : Nat} (hq : q < 48) : 0 ≤ wt P q ∧ wt P q < 1000000000 ^ 4 := vl_bound (wt_dig hP hq)
theorem wt_congr {P P' : Nat → Int} {q : Nat} (h : ∀ j, j < 4 → P (4 * q + j) = P' (4 * q + j)) : wt P q = wt P' q := vl_congr (fun j hj => h j hj)
/-- a row of years as the class keeps it -/
def rowOk (f m : Int) : Prop := -9999 ≤ f ∧ 1 ≤ m ∧ m ≤ 48 ∧ f + m - 1 ≤ 9999
section RowA
variable {p : Program} {l : Launch} {e : Env} {R : Room} {s : State} {m : MethodId} {args : Array Value} {below : List Frame} {meth : Method} {c : Code} {d : yD} {b : Nat} {Q : State → Prop} {cells slots n : Nat} {h : yH}
set_option maxHeartbeats 4000000 in
theorem c_Row_init (hl : yL l) {k : Nat} {f m : Int} (hk : h k = some (oO 1 [vi f, vi m, .null])) :
    yM l y_Row_init b_Row_init 1 none 1 12 1 192 d b n h [.ref (b + k)] (fun r n' h' => r = none ∧ n' = n + 1 ∧ h' = hs (hs h n (oJ d 192 (fun _ => 0))) k (oO 1 [vi f, vi m, .ref (b + n)])) noT := by
  by_cases hkn : k = n
  · intro p e ha hc hh s m0 args below hf happ hP
    obtain ⟨rfl, q1, q2, q4, q5⟩ := hP
    have := (q2 k _ hk).lt
    dsimp only at this
    omega
  refine yM_of hl (by decide +kernel) (Nat.le_of_ble_eq_true rfl) (fun p e s m0 args below meth c C => ?_)
  have hk1 : hs h n (oJ d 192 (fun _ => 0)) k = some (oO 1 [vi f, vi m, .null]) := by rw [hs_ne _ _ hkn]; exact hk
  refine V_aload_n C d_Row_init_0 rfl rfl ?_
  refine V_objInit C w_Row_init_1 wc_Obj (by decide) (by decide) d_Row_init_1 ?_
  refine V_aload_n C d_Row_init_4 rfl rfl ?_
  refine V_sipush (z := 192) C d_Row_init_5 rfl ?_
  refine V_newJ C (N := 192) rfl (by decide) wa_J (by decide) (by decide) d_Row_init_8 ?_
  refine V_putF (ty := (.array .long)) C 1 2 hk1 rfl in_Row t_Row tok_Row nm_Row (by decide) w_Row_init_10 rfl rfl rfl rfl (by decide +kernel) rfl rfl (Nat.le_of_ble_eq_true rfl) d_Row_init_10 ?_
  exact V_return C d_Row_init_13 (Nat.le_refl _) (Nat.le_refl _) ⟨rfl, rfl, rfl⟩
set_option maxHeartbeats 4000000 in
theorem Row_open_loop (C : yC p l s m args meth c y_Row_open b_Row_open 4 none [] d b) {k a : Nat} {f m0 : Int} {P : Nat → Int} (hk : h k = some (oO 1 [vi f, vi m0, .ref (b + a)])) (ha : h a = some (oJ d 192 P))
    (kk : ∀ (G : Nat → Int) (lv : List (Nat × Value)), (∀ t, t < 192 → G t = 0) → V p l e R s m args below meth c 4 d b Q cells slots n (hs h a (oJ d 192 G)) 34 lv []) :
    ∀ (j i : Nat) (G : Nat → Int), i + j = 192 → (∀ t, t < i → G t = 0) → V p l e R s m args below meth c 4 d b Q cells slots n (hs h a (oJ d 192 G)) 12 [(0, .ref (b + k)), (3, vi i)] [] := by
  intro j
  induction j with
  | zero =>
    intro i G hi hG
    have hk1 : hs h a (oJ d 192 G) k = some (oO 1 [vi f, vi m0, .ref (b + a)]) := hs_at hk ha
    refine V_iload_n C d_Row_open_12 rfl rfl ?_
    refine V_aload_n C d_Row_open_13 rfl rfl ?_
    refine V_get C 1 2 hk1 rfl in_Row (by decide) w_Row_open_14 rfl rfl d_Row_open_14 ?_
    refine V_alen (z := 192) (t := 1) C (hs_eq _ _ _) rfl rfl d_Row_open_17 ?_
    refine V_icmp_ge (tgt := 34) C d_Row_open_18 (by decide) (by unfold inI; omega) (by unfold inI; omega) (fun q18 => ?_) (fun q18 => ?_)
    · exact kk G _ (fun t ht => hG t (by omega))
    · exact absurd q18 (by omega)
  | succ j ih =>
    intro i G hi hG
    have hk1 : hs h a (oJ d 192 G) k = some (oO 1 [vi f, vi m0, .ref (b + a)]) := hs_at hk ha
    refine V_iload_n C d_Row_open_12 rfl rfl ?_
    refine V_aload_n C d_Row_open_13 rfl rfl ?_
    refine V_get C 1 2 hk1 rfl in_Row (by decide) w_Row_open_14 rfl rfl d_Row_open_14 ?_
    refine V_alen (z := 192) (t := 1) C (hs_eq _ _ _) rfl rfl d_Row_open_17 ?_
    refine V_icmp_ge (tgt := 34) C d_Row_open_18 (by decide) (by unfold inI; omega) (by unfold inI; omega) (fun q18 => ?_) (fun q18 => ?_)
    · exact absurd q18 (by omega)
    · refine V_aload_n C d_Row_open_21 rfl rfl ?_
      refine V_get C 1 2 hk1 rfl in_Row (by decide) w_Row_open_22 rfl rfl d_Row_open_22 ?_
      refine V_iload_n C d_Row_open_25 rfl rfl ?_
      refine V_lconst (z := 0) C d_Row_open_26 rfl ?_
      refine V_lastore C (hs_eq _ _ _) (by omega) (by omega) (by decide) d_Row_open_27 ?_
      refine V_iinc C d_Row_open_28 rfl rfl (by decide) rfl ?_
      refine V_goto (tgt := 12) C d_Row_open_31 (by decide) ?_
      rw [hs_hs]
      refine V_loc2 (ih (i + 1) _ (by omega) (fun t ht => ?_)) ⟨rfl, rfl, trivial⟩
      by_cases e1 : t = (i : Int).toNat
      · rw [e1, fu_eq]
      · rw [fu_ne _ _ e1]; exact hG t (by omega)
set_option maxHeartbeats 4000000 in
/-- open(first, many): all weights are 0 -/
theorem c_Row_open (hl : yL l) {k a : Nat} {f m0 f1 m1 : Int} {P : Nat → Int} (hk : h k = some (oO 1 [vi f, vi m0, .ref (b + a)])) (ha : h a = some (oJ d 192 P)) :
    yM l y_Row_open b_Row_open 4 none 0 0 0 0 d b n h [.ref (b + k), vi f1, vi m1] (fun r n' h' => r = none ∧ n' = n ∧ ∃ G, (∀ t, t < 192 → G t = 0) ∧ h' = hs (hs h k (oO 1 [vi f1, vi m1, .ref (b + a)])) a (oJ d 192 G)) noT := by
  refine yM_of hl (by decide +kernel) (Nat.le_of_ble_eq_true rfl) (fun p e s m args below meth c C => ?_)
  have hka : a ≠ k := fun q => by rw [q, hk] at ha; cases ha
  refine V_aload_n C d_Row_open_0 rfl rfl ?_
  refine V_iload_n C d_Row_open_1 rfl rfl ?_
  refine V_put (ty := .int) C 1 0 hk rfl in_Row t_Row tok_Row nm_Row (by decide) w_Row_open_2 rfl rfl (by decide +kernel) rfl rfl (Nat.le_of_ble_eq_true rfl) d_Row_open_2 ?_
  refine V_aload_n C d_Row_open_5 rfl rfl ?_
  refine V_iload_n C d_Row_open_6 rfl rfl ?_
  refine V_put (ty := .int) C 1 1 (hs_eq _ _ _) rfl in_Row t_Row tok_Row nm_Row (by decide) w_Row_open_7 rfl rfl (by decide +kernel) rfl rfl (Nat.le_of_ble_eq_true rfl) d_Row_open_7 ?_
  rw [hs_hs]
  have hk1 : hs h k (oO 1 [vi f1, vi m1, .ref (b + a)]) k = some (oO 1 [vi f1, vi m1, .ref (b + a)]) := hs_eq _ _ _
  have ha1 : hs h k (oO 1 [vi f1, vi m1, .ref (b + a)]) a = some (oJ d 192 P) := by rw [hs_ne _ _ hka]; exact ha
  refine V_iconst C d_Row_open_10 rfl ?_
  refine V_istore_n C d_Row_open_11 rfl (by decide) rfl ?_
  refine V_heq (hs_self ha1) ?_
  refine V_loc2 (Row_open_loop C hk1 ha1 (fun G lv hG => ?_) 192 0 P (by omega) (fun t ht => absurd ht (by omega))) ⟨rfl, rfl, trivial⟩
  exact V_return C d_Row_open_34 (Nat.le_refl _) (Nat.le_refl _) ⟨rfl, rfl, G, hG, rfl⟩
set_option maxHeartbeats 4000000 in
theorem c_Row_last (hl : yL l) {k : Nat} {f m0 : Int} {v : Value} (hk : h k = some (oO 1 [vi f, vi m0, v])) :
    yM l y_Row_last b_Row_last 1 (some .int) 0 0 0 0 d b n h [.ref (b + k)] (fun r n' h' => n' = n ∧ h' = h ∧ r = some (vi (f + m0 - 1))) noT := by
  refine yM_of hl (by decide +kernel) (Nat.le_of_ble_eq_true rfl) (fun p e s m args below meth c C => ?_)
  refine V_aload_n C d_Row_last_0 rfl rfl ?_
  refine V_get C 1 0 hk rfl in_Row (by decide) w_Row_last_1 rfl rfl d_Row_last_1 ?_
  refine V_aload_n C d_Row_last_4 rfl rfl ?_
  refine V_get C 1 1 hk rfl in_Row (by decide) w_Row_last_5 rfl rfl d_Row_last_5 ?_
  refine V_iadd C d_Row_last_8 ?_
  refine V_iconst C d_Row_last_9 rfl ?_
  refine V_isub C d_Row_last_10 ?_
  exact V_ireturn C d_Row_last_11 (Nat.le_refl _) (Nat.le_refl _) ⟨rfl, rfl, rfl⟩
set_option maxHeartbeats 4000000 in
theorem c_Row_has (hl : yL l) {k : Nat} {f m0 z : Int} {v : Value} (hk : h k = some (oO 1 [vi f, vi m0, v])) (hr : rowOk f m0) (hz : inI z) :
    yM l y_Row_has b_Row_has 2 (some .boolean) 1 20 0 0 d b n h [.ref (b + k), vi z] (fun r n' h' => n' = n ∧ h' = h ∧ r = some (vi (if f ≤ z ∧ z ≤ f + m0 - 1 then 1 else 0))) noT := by
  refine yM_of hl (by decide +kernel) (Nat.le_of_ble_eq_true rfl) (fun p e s m args below meth c C => ?_)
  obtain ⟨r1, r2, r3, r4⟩ := hr
  refine V_iload_n C d_Row_has_0 rfl rfl ?_
  refine V_aload_n C d_Row_has_1 rfl rfl ?_
  refine V_get C 1 0 hk rfl in_Row (by decide) w_Row_has_2 rfl rfl d_Row_has_2 ?_
  refine V_icmp_lt (tgt := 20) C d_Row_has_5 (by decide) hz (by unfold inI; omega) (fun q5 => ?_) (fun q5 => ?_)
  · refine V_iconst C d_Row_has_20 rfl ?_
    exact V_zreturn C d_Row_has_21 (by omega) (Nat.le_refl _) (Nat.le_refl _) ⟨rfl, rfl, by rw [if_neg (by omega)]⟩
  · refine V_iload_n C d_Row_has_8 rfl rfl ?_
    refine V_aload_n C d_Row_has_9 rfl rfl ?_
    refine V_callV C (c_Row_last hl hk) wc_Row_last w_Row_has_10 np_Row_last (by decide) hk rfl rfl (Nat.le_of_ble_eq_true rfl) d_Row_has_10 (fun v n1 h1 hp => ?_) (fun Cx n1 h1 hp => hp.elim)
    obtain ⟨rfl, rfl, rfl⟩ := hp
    refine V_icmp_gt (tgt := 20) C d_Row_has_13 (by decide) hz (by unfold inI; omega) (fun q13 => ?_) (fun q13 => ?_)
    · refine V_iconst C d_Row_has_20 rfl ?_
      exact V_zreturn C d_Row_has_21 (by omega) (Nat.le_refl _) (Nat.le_refl _) ⟨rfl, rfl, by rw [if_neg (by omega)]⟩
    · refine V_iconst C d_Row_has_16 rfl ?_
      refine V_goto (tgt := 21) C d_Row_has_17 (by decide) ?_
      exact V_zreturn C d_Row_has_21 (by omega) (Nat.le_refl _) (Nat.le_refl _) ⟨rfl, rfl, by rw [if_pos (by omega)]⟩
set_option maxHeartbeats 4000000 in
theorem Row_read_loop (C : yC p l s m args meth c y_Row_read b_Row_read 5 none [] d b) {k a k2 a2 q : Nat} {f m0 : Int} {P F2 F0 : Nat → Int} (hk : h k = some (oO 1 [vi f, vi m0, .ref (b + a)])) (ha : h a = some (oJ d 192 P)) (hk2 : h k2 = some (oO 2 [.ref (b + a2)])) (ha2 : h a2 = some (oJ d 8 F2)) (hne : a ≠ a2) (hq : q < 48)
    (kk : ∀ (G : Nat → Int) (lv : List (Nat × Value)), (∀ t, t < 4 → G t = P (4 * q + t)) → (∀ t, 4 ≤ t → G t = F0 t) → V p l e R s m args below meth c 5 d b Q cells slots n (hs h a2 (oJ d 8 G)) 53 lv []) :
    ∀ (j i : Nat) (G : Nat → Int), i + j = 4 → (∀ t, t < i → G t = P (4 * q + t)) → (∀ t, 4 ≤ t → G t = F0 t) → V p l e R s m args below meth c 5 d b Q cells slots n (hs h a2 (oJ d 8 G)) 25 [(0, .ref (b + k)), (2, .ref (b + k2)), (3, vi (4 * q)), (4, vi i)] [] := by
  intro j
  induction j with
  | zero =>
    intro i G hi hG hG2
    refine V_iload C d_Row_read_25 rfl ?_
    refine V_iconst C d_Row_read_27 rfl ?_
    refine V_icmp_ge (tgt := 53) C d_Row_read_28 (by decide) (by unfold inI; omega) (by unfold inI; omega) (fun q28 => ?_) (fun q28 => ?_)
    · exact kk G _ (fun t ht => hG t (by omega)) hG2
    · exact absurd q28 (by omega)
  | succ j ih =>
    intro i G hi hG hG2
    have hk1 : hs h a2 (oJ d 8 G) k = some (oO 1 [vi f, vi m0, .ref (b + a)]) := hs_at hk ha2
    have hk3 : hs h a2 (oJ d 8 G) k2 = some (oO 2 [.ref (b + a2)]) := hs_at hk2 ha2
    have ha3 : hs h a2 (oJ d 8 G) a = some (oJ d 192 P) := by rw [hs_ne _ _ hne]; exact ha
    refine V_iload C d_Row_read_25 rfl ?_
    refine V_iconst C d_Row_read_27 rfl ?_
    refine V_icmp_ge (tgt := 53) C d_Row_read_28 (by decide) (by unfold inI; omega) (by unfold inI; omega) (fun q28 => ?_) (fun q28 => ?_)
    · exact absurd q28 (by omega)
    · refine V_aload_n C d_Row_read_31 rfl rfl ?_
      refine V_getN C 2 0 hk3 rfl in_Who (by decide) w_Row_read_32 rfl rfl d_Row_read_32 ?_
      refine V_iload C d_Row_read_35 rfl ?_
      refine V_aload_n C d_Row_read_37 rfl rfl ?_
      refine V_get C 1 2 hk1 rfl in_Row (by decide) w_Row_read_38 rfl rfl d_Row_read_38 ?_
      refine V_iload_n C d_Row_read_41 rfl rfl ?_
      refine V_iload C d_Row_read_42 rfl ?_
      refine V_iadd C d_Row_read_44 ?_
      refine V_laload C ha3 (by omega) (by omega) (by decide) d_Row_read_45 ?_
      rw [show (4 * (q : Int) + i).toNat = 4 * q + i by omega]
      refine V_lastore C (hs_eq _ _ _) (by omega) (by omega) (by decide) d_Row_read_46 ?_
      refine V_iinc C d_Row_read_47 rfl rfl (by decide) rfl ?_
      refine V_goto (tgt := 25) C d_Row_read_50 (by decide) ?_
      rw [hs_hs, Int.toNat_natCast]
      refine V_loc2 (ih (i + 1) _ (by omega) (fun t ht => ?_) (fun t ht => ?_)) ⟨rfl, rfl, rfl, rfl, trivial⟩
      · by_cases e1 : t = i
        · rw [e1, fu_eq]
        · rw [fu_ne _ _ e1]; exact hG t (by omega)
      · rw [fu_ne _ _ (by omega)]; exact hG2 t ht
set_option maxHeartbeats 4000000 in
/-- read: the year's weight, 0 where the row hasn't it -/
theorem c_Row_read (hl : yL l) {k a k2 a2 : Nat} {f m0 z : Int} {P F2 : Nat → Int} (hk : h k = some (oO 1 [vi f, vi m0, .ref (b + a)])) (ha : h a = some (oJ d 192 P)) (hk2 : h k2 = some (oO 2 [.ref (b + a2)])) (ha2 : h a2 = some (oJ d 8 F2)) (hne : a ≠ a2) (hr : rowOk f m0) (hz : inI z) (hP : dig P 192) :
    yM l y_Row_read b_Row_read 5 none 2 60 0 0 d b n h [.ref (b + k), vi z, .ref (b + k2)] (fun r n' h' => r = none ∧ n' = n ∧ ∃ G, dig G 8 ∧ (∀ t, 4 ≤ t → t < 8 → G t = 0) ∧ vl G 8 = (if f ≤ z ∧ z ≤ f + m0 - 1 then wt P (z - f).toNat else 0) ∧ h' = hs h a2 (oJ d 8 G)) noT := by
  refine yM_of hl (by decide +kernel) (Nat.le_of_ble_eq_true rfl) (fun p e s m args below meth c C => ?_)
  obtain ⟨r1, r2, r3, r4⟩ := id hr
  refine V_aload_n C d_Row_read_0 rfl rfl ?_
  refine V_lconst (z := 0) C d_Row_read_1 rfl ?_
  refine V_callV C (c_Who_become (v := 0) hl hk2 ha2 (by omega) (by omega)) wc_Who_become w_Row_read_2 np_Who_become (by decide) hk2 rfl rfl (Nat.le_of_ble_eq_true rfl) d_Row_read_2 (fun v n1 h1 hp => ?_) (fun Cx n1 h1 hp => hp.elim)
  obtain ⟨rfl, rfl, G, hG, hGv, rfl⟩ := hp
  have hG0 : ∀ t, t < 8 → G t = 0 := vl_inj hG (dig0 8) (by rw [hGv, vl_zero (f := fun _ => (0 : Int)) (fun t ht => rfl)])
  have hk1 : hs h a2 (oJ d 8 G) k = some (oO 1 [vi f, vi m0, .ref (b + a)]) := hs_at hk ha2
  have hk3 : hs h a2 (oJ d 8 G) k2 = some (oO 2 [.ref (b + a2)]) := hs_at hk2 ha2
  have ha3 : hs h a2 (oJ d 8 G) a = some (oJ d 192 P) := by rw [hs_ne _ _ hne]; exact ha
  refine V_aload_n C d_Row_read_5 rfl rfl ?_
  refine V_iload_n C d_Row_read_6 rfl rfl ?_
  refine V_callV C (c_Row_has hl hk1 hr hz) wc_Row_has w_Row_read_7 np_Row_has (by decide) hk1 rfl rfl (Nat.le_of_ble_eq_true rfl) d_Row_read_7 (fun v n1 h1 hp => ?_) (fun Cx n1 h1 hp => hp.elim)
  obtain ⟨rfl, rfl, rfl⟩ := hp
  refine V_if_eq (tgt := 53) C d_Row_read_10 (by decide) (by unfold inI; split <;> omega) (fun q10 => ?_) (fun q10 => ?_)
  · have hno : ¬ (f ≤ z ∧ z ≤ f + m0 - 1) := fun q => by rw [if_pos q] at q10; omega
    exact V_return C d_Row_read_53 (Nat.le_refl _) (Nat.le_refl _) ⟨rfl, rfl, G, hG, fun t h1 h2 => hG0 t h2, by rw [if_neg hno, hGv], rfl⟩
  · have hyes : f ≤ z ∧ z ≤ f + m0 - 1 := by
      by_cases q : f ≤ z ∧ z ≤ f + m0 - 1
      · exact q
      · rw [if_neg q] at q10; exact absurd rfl q10
    refine V_iload_n C d_Row_read_13 rfl rfl ?_
    refine V_aload_n C d_Row_read_14 rfl rfl ?_
    refine V_get C 1 0 hk1 rfl in_Row (by decide) w_Row_read_15 rfl rfl d_Row_read_15 ?_
    refine V_isub C d_Row_read_18 ?_
    refine V_iconst C d_Row_read_19 rfl ?_
    refine V_imul C d_Row_read_20 ?_
    refine V_istore_n C d_Row_read_21 rfl (by decide) rfl ?_
    refine V_iconst C d_Row_read_22 rfl ?_
    refine V_istore C d_Row_read_23 (by decide) rfl ?_
    have hq : (z - f) * 4 = 4 * (((z - f).toNat : Nat) : Int) := by omega
    rw [hq]
    refine V_loc2 (Row_read_loop (F0 := G) C hk ha hk2 ha2 hne (q := (z - f).toNat) (by omega) (fun G' lv hG1 hG2 => ?_) 4 0 G (by omega) (fun t ht => absurd ht (by omega)) (fun t ht => rfl)) ⟨rfl, rfl, rfl, rfl, trivial⟩
    have hd : dig G' 8 := fun t ht => by
      by_cases e1 : t < 4
      · rw [hG1 t e1]; exact hP _ (by omega)
      · rw [hG2 t (by omega)]; exact hG t ht
    have hu : ∀ t, 4 ≤ t → t < 8 → G' t = 0 := fun t h1 h2 => by rw [hG2 t h1]; exact hG0 t h2
    exact V_return C d_Row_read_53 (Nat.le_refl _) (Nat.le_refl _) ⟨rfl, rfl, G', hd, hu, by rw [if_pos hyes, vl_high hd hu]; exact vl_congr hG1, rfl⟩
set_option maxHeartbeats 4000000 in
theorem Row_write_loop (C : yC p l s m args meth c y_Row_write b_Row_write 5 none [] d b) {k a k2 a2 q : Nat} {f m0 : Int} {P F2 : Nat → Int} (hk : h k = some (oO 1 [vi f, vi m0, .ref (b + a)])) (ha : h a = some (oJ d 192 P)) (hk2 : h k2 = some (oO 2 [.ref (b + a2)])) (ha2 : h a2 = some (oJ d 8 F2)) (hne : a2 ≠ a) (hq : q < 48)
    (kk : ∀ (G : Nat → Int) (lv : List (Nat × Value)), (∀ t, t < 4 → G (4 * q + t) = F2 t) → (∀ t, t < 4 * q ∨ 4 * q + 4 ≤ t → G t = P t) → V p l e R s m args below meth c 5 d b Q cells slots n (hs h a (oJ d 192 G)) 48 lv []) :
    ∀ (j i : Nat) (G : Nat → Int), i + j = 4 → (∀ t, t < i → G (4 * q + t) = F2 t) → (∀ t, t < 4 * q ∨ 4 * q + 4 ≤ t → G t = P t) → V p l e R s m args below meth c 5 d b Q cells slots n (hs h a (oJ d 192 G)) 20 [(0, .ref (b + k)), (2, .ref (b + k2)), (3, vi (4 * q)), (4, vi i)] [] := by
  intro j
  induction j with
  | zero =>
    intro i G hi hG hG2
    refine V_iload C d_Row_write_20 rfl ?_
    refine V_iconst C d_Row_write_22 rfl ?_
    refine V_icmp_ge (tgt := 48) C d_Row_write_23 (by decide) (by unfold inI; omega) (by unfold inI; omega) (fun q23 => ?_) (fun q23 => ?_)
    · exact kk G _ (fun t ht => hG t (by omega)) hG2
    · exact absurd q23 (by omega)
  | succ j ih =>
    intro i G hi hG hG2
    have hk1 : hs h a (oJ d 192 G) k = some (oO 1 [vi f, vi m0, .ref (b + a)]) := hs_at hk ha
    have hk3 : hs h a (oJ d 192 G) k2 = some (oO 2 [.ref (b + a2)]) := hs_at hk2 ha
    have ha3 : hs h a (oJ d 192 G) a2 = some (oJ d 8 F2) := by rw [hs_ne _ _ hne]; exact ha2
    refine V_iload C d_Row_write_20 rfl ?_
    refine V_iconst C d_Row_write_22 rfl ?_
    refine V_icmp_ge (tgt := 48) C d_Row_write_23 (by decide) (by unfold inI; omega) (by unfold inI; omega) (fun q23 => ?_) (fun q23 => ?_)
    · exact absurd q23 (by omega)
    · refine V_aload_n C d_Row_write_26 rfl rfl ?_
      refine V_get C 1 2 hk1 rfl in_Row (by decide) w_Row_write_27 rfl rfl d_Row_write_27 ?_
      refine V_iload_n C d_Row_write_30 rfl rfl ?_
      refine V_iload C d_Row_write_31 rfl ?_
      refine V_iadd C d_Row_write_33 ?_
      refine V_aload_n C d_Row_write_34 rfl rfl ?_
      refine V_getN C 2 0 hk3 rfl in_Who (by decide) w_Row_write_35 rfl rfl d_Row_write_35 ?_
      refine V_iload C d_Row_write_38 rfl ?_
      refine V_laload C ha3 (by omega) (by omega) (by decide) d_Row_write_40 ?_
      rw [Int.toNat_natCast]
      refine V_lastore C (hs_eq _ _ _) (by omega) (by omega) (by decide) d_Row_write_41 ?_
      refine V_iinc C d_Row_write_42 rfl rfl (by decide) rfl ?_
      refine V_goto (tgt := 20) C d_Row_write_45 (by decide) ?_
      rw [hs_hs, show (4 * (q : Int) + i).toNat = 4 * q + i by omega]
      refine V_loc2 (ih (i + 1) _ (by omega) (fun t ht => ?_) (fun t ht => ?_)) ⟨rfl, rfl, rfl, rfl, trivial⟩
      · by_cases e1 : t = i
        · rw [e1, fu_eq]
        · rw [fu_ne _ _ (by omega)]; exact hG t (by omega)
      · rw [fu_ne _ _ (by omega)]; exact hG2 t ht
set_option maxHeartbeats 4000000 in
/-- write: the year's weight becomes the number's low four parts -/
theorem c_Row_write (hl : yL l) {k a k2 a2 : Nat} {f m0 z : Int} {P F2 : Nat → Int} (hk : h k = some (oO 1 [vi f, vi m0, .ref (b + a)])) (ha : h a = some (oJ d 192 P)) (hk2 : h k2 = some (oO 2 [.ref (b + a2)])) (ha2 : h a2 = some (oJ d 8 F2)) (hne : a2 ≠ a) (hr : rowOk f m0) (hz : f ≤ z ∧ z ≤ f + m0 - 1) (hP : dig P 192) (hF2 : dig F2 8) :
    yM l y_Row_write b_Row_write 5 none 2 60 0 0 d b n h [.ref (b + k), vi z, .ref (b + k2)] (fun r n' h' => r = none ∧ n' = n ∧ ∃ G, dig G 192 ∧ wt G (z - f).toNat = vl F2 4 ∧ (∀ t, t ≠ (z - f).toNat → wt G t = wt P t) ∧ h' = hs h a (oJ d 192 G)) noT := by
  refine yM_of hl (by decide +kernel) (Nat.le_of_ble_eq_true rfl) (fun p e s m args below meth c C => ?_)
  obtain ⟨r1, r2, r3, r4⟩ := id hr
  have hzI : inI z := ⟨by omega, by omega⟩
  refine V_aload_n C d_Row_write_0 rfl rfl ?_
  refine V_iload_n C d_Row_write_1 rfl rfl ?_
  refine V_callV C (c_Row_has hl hk hr hzI) wc_Row_has w_Row_write_2 np_Row_has (by decide) hk rfl rfl (Nat.le_of_ble_eq_true rfl) d_Row_write_2 (fun v n1 h1 hp => ?_) (fun Cx n1 h1 hp => hp.elim)
  obtain ⟨rfl, rfl, rfl⟩ := hp
  rw [if_pos hz]
  refine V_if_eq (tgt := 48) C d_Row_write_5 (by decide) (by unfold inI; omega) (fun q5 => ?_) (fun q5 => ?_)
  · exact absurd q5 (by omega)
  · refine V_iload_n C d_Row_write_8 rfl rfl ?_
    refine V_aload_n C d_Row_write_9 rfl rfl ?_
    refine V_get C 1 0 hk rfl in_Row (by decide) w_Row_write_10 rfl rfl d_Row_write_10 ?_
    refine V_isub C d_Row_write_13 ?_
    refine V_iconst C d_Row_write_14 rfl ?_
    refine V_imul C d_Row_write_15 ?_
    refine V_istore_n C d_Row_write_16 rfl (by decide) rfl ?_
    refine V_iconst C d_Row_write_17 rfl ?_
    refine V_istore C d_Row_write_18 (by decide) rfl ?_
    have hq : (z - f) * 4 = 4 * (((z - f).toNat : Nat) : Int) := by omega
    rw [hq]
    refine V_heq (hs_self ha) ?_
    refine V_loc2 (Row_write_loop C hk ha hk2 ha2 hne (q := (z - f).toNat) (by omega) (fun G lv hG1 hG2 => ?_) 4 0 P (by omega) (fun t ht => absurd ht (by omega)) (fun t ht => rfl)) ⟨rfl, rfl, rfl, rfl, trivial⟩
    have hd : dig G 192 := fun t ht => by
      by_cases e1 : t < 4 * (z - f).toNat ∨ 4 * (z - f).toNat + 4 ≤ t
      · rw [hG2 t e1]; exact hP t ht
      · have := hG1 (t - 4 * (z - f).toNat) (by omega)
        rw [show 4 * (z - f).toNat + (t - 4 * (z - f).toNat) = t by omega] at this
        rw [this]
        exact hF2 _ (by omega)
    exact V_return C d_Row_write_48 (Nat.le_refl _) (Nat.le_refl _) ⟨rfl, rfl, G, hd, vl_congr hG1, fun t ht => wt_congr (fun j hj => hG2 _ (by omega)), rfl⟩
set_option maxHeartbeats 4000000 in
theorem Row_isLess_loop (C : yC p l s m args meth c y_Row_isLess b_Row_isLess 8 (some .boolean) [] d b) {post : Option Value → Nat → yH → Prop} {k a x z : Nat} {f m0 : Int} {P : Nat → Int} (hk : h k = some (oO 1 [vi f, vi m0, .ref (b + a)])) (ha : h a = some (oJ d 192 P)) (hx : x < 48) (hz : z < 48) (hP : dig P 192)
    (hp : post (some (vi (if wt P x < wt P z then 1 else 0))) n h) :
    ∀ (j : Nat), j ≤ 4 → (∀ t, j ≤ t → t < 4 → P (4 * x + t) = P (4 * z + t)) → V p l e R s m args below meth c 8 d b (yEnd below s args d b post noT 0 0) 0 0 n h 2 [(0, .ref (b + k)), (1, vi x), (2, vi z), (3, vi ((j : Int) - 1))] [] := by
  intro j
  induction j with
  | zero =>
    intro hj hG
    refine V_iload_n C d_Row_isLess_2 rfl rfl ?_
    refine V_if_lt (tgt := 58) C d_Row_isLess_3 (by decide) (by unfold inI; omega) (fun q3 => ?_) (fun q3 => ?_)
    · have e1 : wt P x = wt P z := vl_congr (fun t ht => hG t (by omega) ht)
      rw [e1, if_neg (by omega)] at hp
      refine V_iconst C d_Row_isLess_58 rfl ?_
      exact V_zreturn C d_Row_isLess_59 (by omega) (Nat.le_refl _) (Nat.le_refl _) hp
    · exact absurd q3 (by omega)
  | succ j ih =>
    intro hj hG
    have f1 := hP (4 * x + j) (by omega)
    have f2 := hP (4 * z + j) (by omega)
    have g2 : ((j + 1 : Nat) : Int) - 1 = j := by omega
    rw [g2]
    refine V_iload_n C d_Row_isLess_2 rfl rfl ?_
    refine V_if_lt (tgt := 58) C d_Row_isLess_3 (by decide) (by unfold inI; omega) (fun q3 => ?_) (fun q3 => ?_)
    · exact absurd q3 (by omega)
    · refine V_aload_n C d_Row_isLess_6 rfl rfl ?_
      refine V_get C 1 2 hk rfl in_Row (by decide) w_Row_isLess_7 rfl rfl d_Row_isLess_7 ?_
      refine V_iload_n C d_Row_isLess_10 rfl rfl ?_
      refine V_iconst C d_Row_isLess_11 rfl ?_
      refine V_imul C d_Row_isLess_12 ?_
      refine V_iload_n C d_Row_isLess_13 rfl rfl ?_
      refine V_iadd C d_Row_isLess_14 ?_
      refine V_laload C ha (by omega) (by omega) (by decide) d_Row_isLess_15 ?_
      rw [show ((x : Int) * 4 + j).toNat = 4 * x + j by omega]
      refine V_lstore C d_Row_isLess_16 (by decide) rfl ?_
      refine V_aload_n C d_Row_isLess_18 rfl rfl ?_
      refine V_get C 1 2 hk rfl in_Row (by decide) w_Row_isLess_19 rfl rfl d_Row_isLess_19 ?_
      refine V_iload_n C d_Row_isLess_22 rfl rfl ?_
      refine V_iconst C d_Row_isLess_23 rfl ?_
      refine V_imul C d_Row_isLess_24 ?_
      refine V_iload_n C d_Row_isLess_25 rfl rfl ?_
      refine V_iadd C d_Row_isLess_26 ?_
      refine V_laload C ha (by omega) (by omega) (by decide) d_Row_isLess_27 ?_
      rw [show ((z : Int) * 4 + j).toNat = 4 * z + j by omega]
      refine V_lstore C d_Row_isLess_28 (by decide) rfl ?_
      refine V_lload C d_Row_isLess_30 rfl ?_
      refine V_lload C d_Row_isLess_32 rfl ?_
      refine V_lcmp C d_Row_isLess_34 (by unfold inJ; omega) (by unfold inJ; omega) ?_
      refine V_if_eq (tgt := 52) C d_Row_isLess_35 (by decide) (cz_in _ _) (fun q35 => ?_) (fun q35 => ?_)
      · refine V_iinc C d_Row_isLess_52 rfl rfl (by decide) rfl ?_
        refine V_goto (tgt := 2) C d_Row_isLess_55 (by decide) ?_
        exact V_loc2 (ih (by omega) (fun t h1 h2 => by
          by_cases e1 : t = j
          · rw [e1]; exact cz_eq.mp q35
          · exact hG t (by omega) h2)) ⟨rfl, rfl, rfl, rfl, trivial⟩
      · have hne : ¬ P (4 * x + j) = P (4 * z + j) := fun q => q35 (cz_eq.mpr q)
        refine V_lload C d_Row_isLess_38 rfl ?_
        refine V_lload C d_Row_isLess_40 rfl ?_
        refine V_lcmp C d_Row_isLess_42 (by unfold inJ; omega) (by unfold inJ; omega) ?_
        refine V_if_ge (tgt := 50) C d_Row_isLess_43 (by decide) (cz_in _ _) (fun q43 => ?_) (fun q43 => ?_)
        · have e1 : wt P z < wt P x := vl_lt (f := fun t => P (4 * z + t)) (g := fun t => P (4 * x + t)) j (by omega) (wt_dig hP hz) (wt_dig hP hx) (by have := cz_ge.mp q43; show P (4 * z + j) < P (4 * x + j); omega) (fun t h1 h2 => (hG t (by omega) h2).symm)
          rw [if_neg (by omega)] at hp
          refine V_iconst C d_Row_isLess_50 rfl ?_
          exact V_zreturn C d_Row_isLess_51 (by omega) (Nat.le_refl _) (Nat.le_refl _) hp
        · have e1 : wt P x < wt P z := vl_lt (f := fun t => P (4 * x + t)) (g := fun t => P (4 * z + t)) j (by omega) (wt_dig hP hx) (wt_dig hP hz) (by have : ¬ P (4 * z + j) ≤ P (4 * x + j) := fun q => q43 (cz_ge.mpr q); show P (4 * x + j) < P (4 * z + j); omega) (fun t h1 h2 => hG t (by omega) h2)
          rw [if_pos e1] at hp
          refine V_iconst C d_Row_isLess_46 rfl ?_
          refine V_goto (tgt := 51) C d_Row_isLess_47 (by decide) ?_
          exact V_zreturn C d_Row_isLess_51 (by omega) (Nat.le_refl _) (Nat.le_refl _) hp
set_option maxHeartbeats 4000000 in
theorem c_Row_isLess (hl : yL l) {k a x z : Nat} {f m0 : Int} {P : Nat → Int} (hk : h k = some (oO 1 [vi f, vi m0, .ref (b + a)])) (ha : h a = some (oJ d 192 P)) (hx : x < 48) (hz : z < 48) (hP : dig P 192) :
    yM l y_Row_isLess b_Row_isLess 8 (some .boolean) 0 0 0 0 d b n h [.ref (b + k), vi x, vi z] (fun r n' h' => n' = n ∧ h' = h ∧ r = some (vi (if wt P x < wt P z then 1 else 0))) noT := by
  refine yM_of hl (by decide +kernel) (Nat.le_of_ble_eq_true rfl) (fun p e s m args below meth c C => ?_)
  refine V_iconst C d_Row_isLess_0 rfl ?_
  refine V_istore_n C d_Row_isLess_1 rfl (by decide) rfl ?_
  refine V_loc2 (Row_isLess_loop C hk ha hx hz hP ⟨rfl, rfl, rfl⟩ 4 (Nat.le_refl 4) (fun t h1 h2 => absurd h1 (by omega))) ⟨rfl, rfl, rfl, rfl, trivial⟩
end RowA
end
section
/-! THE LEAST SET: years by weight, of equal ones the earlier first -/
def bf (W : Nat → Int) (x z : Nat) : Prop := W z < W x ∨ (W x = W z ∧ x < z)
theorem bf_trans {W : Nat → Int} {x y z : Nat} (h1 : bf W x y) (h2 : bf W y z) : bf W x z := by
  unfold bf at *
  omega
theorem bf_ne {W : Nat → Int} {x y : Nat} (h : bf W x y) : x ≠ y := fun q => by
  subst q
  unfold bf at h
  omega
theorem bf_asym {W : Nat → Int} {x y : Nat} (h : bf W x y) (h2 : bf W y x) : False := by
  unfold bf at *
  omega
/-- a row of places 0 .. p - 1 in their order -/
def rkOk (W : Nat → Int) (c : Nat → Nat) (p : Nat) : Prop := (∀ i, i < p → c i < p) ∧ (∀ i j, i < j → j < p → bf W (c i) (c j)) ∧ ∀ x, x < p → ∃ j, j < p ∧ c j = x
def insC (c : Nat → Nat) (a p : Nat) : Nat → Nat := fun i => if i < a then c i else if i = a then p else c (i - 1)
theorem ins_ok {W : Nat → Int} {c : Nat → Nat} {p a : Nat} (h : rkOk W c p) (ha : a ≤ p) (h1 : ∀ i, a ≤ i → i < p → W (c i) < W p) (h2 : 0 < a → ¬ W (c (a - 1)) < W p) : rkOk W (insC c a p) (p + 1) := by
  obtain ⟨k1, k2, k3⟩ := h
  have low : ∀ i, i < a → bf W (c i) p := fun i hi => by
    have e1 : c i < p := k1 i (by omega)
    have e2 : ¬ W (c (a - 1)) < W p := h2 (by omega)
    by_cases e3 : i = a - 1
    · rw [e3] at e1 ⊢
      unfold bf
      omega
    · have e4 := k2 i (a - 1) (by omega) (by omega)
      unfold bf at e4 ⊢
      omega
  refine ⟨fun i hi => ?_, fun i j hij hj => ?_, fun x hx => ?_⟩
  · unfold insC
    by_cases e1 : i < a
    · rw [if_pos e1]; have := k1 i (by omega); omega
    · rw [if_neg e1]
      by_cases e2 : i = a
      · rw [if_pos e2]; omega
      · rw [if_neg e2]; have := k1 (i - 1) (by omega); omega
  · unfold insC
    by_cases e1 : j < a
    · rw [if_pos e1, if_pos (by omega)]; exact k2 i j hij (by omega)
    · rw [if_neg e1]
      by_cases e2 : j = a
      · rw [if_pos e2, if_pos (by omega)]; exact low i (by omega)
      · rw [if_neg e2]
        by_cases e3 : i < a
        · rw [if_pos e3]
          have e4 := h1 (j - 1) (by omega) (by omega)
          have e5 := low i e3
          unfold bf at e5 ⊢
          omega
        · rw [if_neg e3]
          by_cases e4 : i = a
          · rw [if_pos e4]; exact Or.inl (h1 (j - 1) (by omega) (by omega))
          · rw [if_neg e4]; exact k2 (i - 1) (j - 1) (by omega) (by omega)
  · by_cases e1 : x = p
    · exact ⟨a, by omega, by unfold insC; rw [if_neg (by omega), if_pos rfl]; exact e1.symm⟩
    · obtain ⟨j, j1, j2⟩ := k3 x (by omega)
      by_cases e2 : j < a
      · exact ⟨j, by omega, by unfold insC; rw [if_pos e2]; exact j2⟩
      · exact ⟨j + 1, by omega, by unfold insC; rw [if_neg (by omega), if_neg (by omega)]; exact j2⟩
/-- which place is taken next: the one that a walk from the first to the last finds (none: m itself) -/
def pkL (W : Nat → Int) (S : Nat → Bool) : Nat → Option Nat
  | 0 => none
  | k + 1 => match pkL W S k with
    | none => if S k = false then some k else none
    | some x => if S k = false ∧ W x < W k then some k else some x
theorem pkL_in {W : Nat → Int} {S : Nat → Bool} : ∀ k x, pkL W S k = some x → x < k ∧ S x = false ∧ ∀ z, z < k → S z = false → z ≠ x → bf W x z
  | 0, x, h => by cases h
  | k + 1, x, h => by
    unfold pkL at h
    cases hp : pkL W S k with
    | none =>
      rw [hp] at h
      by_cases e1 : S k = false
      · simp only [e1, if_true] at h
        cases h
        refine ⟨by omega, e1, fun z hz hS hn => ?_⟩
        exfalso
        exact pkL_none k hp z (by omega) hS
      · simp only [e1] at h
        cases h
    | some y =>
      rw [hp] at h
      obtain ⟨i1, i2, i3⟩ := pkL_in k y hp
      by_cases e1 : S k = false ∧ W y < W k
      · simp only [e1, if_true] at h
        simp at h
        subst h
        refine ⟨by omega, e1.1, fun z hz hS hn => ?_⟩
        by_cases e2 : z = y
        · rw [e2]; exact Or.inl e1.2
        · have := i3 z (by omega) hS e2
          unfold bf at this ⊢
          omega
      · simp only [e1, if_false] at h
        cases h
        refine ⟨by omega, i2, fun z hz hS hn => ?_⟩
        by_cases e2 : z = k
        · subst e2
          have : ¬ W x < W z := fun q => e1 ⟨hS, q⟩
          unfold bf
          omega
        · exact i3 z (by omega) hS hn
where
  pkL_none {W : Nat → Int} {S : Nat → Bool} : ∀ k, pkL W S k = none → ∀ z, z < k → S z = false → False
    | 0, _, z, hz, _ => by omega
    | k + 1, h, z, hz, hS => by
      unfold pkL at h
      cases hp : pkL W S k with
      | none =>
        rw [hp] at h
        by_cases e1 : S k = false
        · simp [e1] at h
        · by_cases e2 : z = k
          · rw [e2] at hS; exact e1 hS
          · exact pkL_none k hp z (by omega) hS
      | some y =>
        rw [hp] at h
        by_cases e1 : S k = false ∧ W y < W k
        · simp [e1] at h
        · simp [e1] at h
/-- the places that are taken after r steps -/
def selS (W : Nat → Int) (m : Nat) : Nat → Nat → Bool
  | 0 => fun _ => false
  | r + 1 => fun x => selS W m r x || (pkL W (selS W m r) m == some x)
theorem pkL_find {W : Nat → Int} {S : Nat → Bool} {m x : Nat} (hx : x < m) (hS : S x = false) (hm : ∀ z, z < m → S z = false → z ≠ x → bf W x z) : pkL W S m = some x := by
  cases hp : pkL W S m with
  | none => exact (pkL_in.pkL_none m hp x hx hS).elim
  | some y =>
    obtain ⟨i1, i2, i3⟩ := pkL_in m y hp
    by_cases e1 : x = y
    · rw [e1]
    · exact (bf_asym (hm y i1 i2 (fun q => e1 q.symm)) (i3 x hx hS e1)).elim
theorem rk_inj {W : Nat → Int} {c : Nat → Nat} {m i j : Nat} (h : rkOk W c m) (hi : i < m) (hj : j < m) (e : c i = c j) : i = j := by
  rcases (show i < j ∨ i = j ∨ j < i by omega) with q | q | q
  · exact (bf_ne (h.2.1 i j q hj) e).elim
  · exact q
  · exact (bf_ne (h.2.1 j i q hi) e.symm).elim
theorem sel_rk {W : Nat → Int} {c : Nat → Nat} {m : Nat} (h : rkOk W c m) : ∀ r, r ≤ m → (∀ x, selS W m r x = true ↔ ∃ i, i < r ∧ c i = x) ∧ (r < m → pkL W (selS W m r) m = some (c r))
  | 0, _ => by
    have h0 : ∀ x, selS W m 0 x = true ↔ ∃ i, i < 0 ∧ c i = x := fun x => ⟨fun q => (by cases q), fun ⟨i, hi, _⟩ => (by omega)⟩
    refine ⟨h0, fun hm => pkL_find (h.1 0 hm) rfl (fun z hz _ hn => ?_)⟩
    obtain ⟨j, j1, j2⟩ := h.2.2 z hz
    rw [← j2]
    exact h.2.1 0 j (by rcases (show j = 0 ∨ 0 < j by omega) with q | q; · rw [q] at j2; exact absurd j2.symm hn
                        · exact q) j1
  | r + 1, hr => by
    obtain ⟨h1, h2⟩ := sel_rk h r (by omega)
    have h3 := h2 (by omega)
    have hk : ∀ x, selS W m (r + 1) x = true ↔ ∃ i, i < r + 1 ∧ c i = x := fun x => by
      show (selS W m r x || (pkL W (selS W m r) m == some x)) = true ↔ _
      rw [Bool.or_eq_true, h1, h3, beq_iff_eq]
      constructor
      · rintro (⟨i, i1, i2⟩ | q)
        · exact ⟨i, by omega, i2⟩
        · exact ⟨r, by omega, Option.some.inj q⟩
      · rintro ⟨i, i1, i2⟩
        by_cases e1 : i = r
        · rw [e1] at i2; exact Or.inr (by rw [i2])
        · exact Or.inl ⟨i, by omega, i2⟩
    refine ⟨hk, fun hm => pkL_find (h.1 (r + 1) hm) ?_ (fun z hz hS hn => ?_)⟩
    · cases hq : selS W m (r + 1) (c (r + 1)) with
      | false => rfl
      | true =>
        obtain ⟨i, i1, i2⟩ := (hk _).mp hq
        have := rk_inj h (by omega) hm i2
        omega
    · obtain ⟨j, j1, j2⟩ := h.2.2 z hz
      rw [← j2]
      refine h.2.1 (r + 1) j ?_ j1
      rcases (show j < r + 1 ∨ j = r + 1 ∨ r + 1 < j by omega) with q | q | q
      · have : selS W m (r + 1) z = true := (hk z).mpr ⟨j, q, j2⟩
        rw [this] at hS
        cases hS
      · rw [q] at j2; exact absurd j2.symm hn
      · exact q
/-- all weights, and those of the taken places -/
def sumW (W : Nat → Int) : Nat → Int
  | 0 => 0
  | k + 1 => sumW W k + W k
def sumS (W : Nat → Int) (S : Nat → Bool) : Nat → Int
  | 0 => 0
  | k + 1 => sumS W S k + (if S k = true then W k else 0)
theorem sumS_congr {W : Nat → Int} {S S' : Nat → Bool} : ∀ {k}, (∀ x, x < k → S x = S' x) → sumS W S k = sumS W S' k
  | 0, _ => rfl
  | k + 1, h => by
    show sumS W S k + _ = sumS W S' k + _
    rw [sumS_congr (fun x hx => h x (by omega)), h k (by omega)]
theorem sumS_in {W : Nat → Int} {S : Nat → Bool} {B : Int} : ∀ {k : Nat}, (∀ x, x < k → 0 ≤ W x ∧ W x < B) → 0 ≤ sumS W S k ∧ sumS W S k ≤ k * B
  | 0, _ => by show (0 : Int) ≤ 0 ∧ (0 : Int) ≤ ((0 : Nat) : Int) * B; omega
  | k + 1, h => by
    have ih := sumS_in (S := S) (B := B) (k := k) (fun x hx => h x (by omega))
    have h1 := h k (by omega)
    show 0 ≤ sumS W S k + (if S k = true then W k else 0) ∧ sumS W S k + (if S k = true then W k else 0) ≤ ((k + 1 : Nat) : Int) * B
    rw [show ((k + 1 : Nat) : Int) = (k : Int) + 1 by omega, Int.add_mul]
    split <;> omega
theorem sumW_in {W : Nat → Int} {B : Int} : ∀ {k : Nat}, (∀ x, x < k → 0 ≤ W x ∧ W x < B) → 0 ≤ sumW W k ∧ sumW W k ≤ k * B
  | 0, _ => by show (0 : Int) ≤ 0 ∧ (0 : Int) ≤ ((0 : Nat) : Int) * B; omega
  | k + 1, h => by
    have ih := sumW_in (B := B) (k := k) (fun x hx => h x (by omega))
    have h1 := h k (by omega)
    show 0 ≤ sumW W k + W k ∧ sumW W k + W k ≤ ((k + 1 : Nat) : Int) * B
    rw [show ((k + 1 : Nat) : Int) = (k : Int) + 1 by omega, Int.add_mul]
    omega
/-- one place more -/
theorem sumS_add {W : Nat → Int} {S S' : Nat → Bool} {x : Nat} (hx : S x = false) (hx' : S' x = true) (ho : ∀ z, z ≠ x → S' z = S z) : ∀ k, sumS W S' k = sumS W S k + (if x < k then W x else 0)
  | 0 => by show (0 : Int) = 0 + _; rw [if_neg (by omega)]; rfl
  | k + 1 => by
    have ih := sumS_add (W := W) hx hx' ho k
    show sumS W S' k + (if S' k = true then W k else 0) = sumS W S k + (if S k = true then W k else 0) + _
    rw [ih]
    by_cases e1 : k = x
    · subst e1
      rw [hx, hx']
      simp
    · rw [ho k e1]
      generalize (if S k = true then W k else 0) = g
      by_cases e2 : x < k
      · rw [if_pos e2, if_pos (show x < k + 1 by omega)]; omega
      · rw [if_neg e2, if_neg (show ¬ x < k + 1 by omega)]; omega
/-- the least set with at least (u / v) of all: after as many steps as it takes -/
def lsOk (W : Nat → Int) (m : Nat) (u v : Int) (r : Nat) : Prop := r ≤ m ∧ sumW W m * u ≤ sumS W (selS W m r) m * v ∧ ∀ q, q < r → ¬ sumW W m * u ≤ sumS W (selS W m q) m * v
theorem lsOk_one {W : Nat → Int} {m : Nat} {u v : Int} {r r' : Nat} (h : lsOk W m u v r) (h' : lsOk W m u v r') : r = r' := by
  rcases (show r < r' ∨ r = r' ∨ r' < r by omega) with q | q | q
  · exact absurd h.2.1 (h'.2.2 r q)
  · exact q
  · exact absurd h'.2.1 (h.2.2 r' q)
/-- spans: how many begin ahead of place k, where they begin and end -/
def spN (S : Nat → Bool) : Nat → Nat
  | 0 => 0
  | k + 1 => if S k = true ∧ (k = 0 ∨ S (k - 1) = false) then spN S k + 1 else spN S k
def spA (S : Nat → Bool) (f : Int) (F : Nat → Int) : Nat → Nat → Int
  | 0 => F
  | k + 1 => if S k = true ∧ (k = 0 ∨ S (k - 1) = false) then fu (spA S f F k) (spN S k) (f + k) else spA S f F k
def spB (S : Nat → Bool) (f : Int) (F : Nat → Int) : Nat → Nat → Int
  | 0 => F
  | k + 1 => if S k = true then fu (spB S f F k) (spN S (k + 1) - 1) (f + k) else spB S f F k
theorem spN_le (S : Nat → Bool) : ∀ k, spN S k ≤ (k + 1) / 2 ∧ (0 < k → S (k - 1) = false → spN S k ≤ k / 2) ∧ (0 < k → S (k - 1) = true → 0 < spN S k)
  | 0 => ⟨by show 0 ≤ _; omega, fun h => absurd h (by omega), fun h => absurd h (by omega)⟩
  | k + 1 => by
    obtain ⟨h1, h2, h3⟩ := spN_le S k
    have e0 : k + 1 - 1 = k := by omega
    rw [e0]
    show (if _ then _ else _) ≤ _ ∧ (_ → _ → (if _ then _ else _) ≤ _) ∧ (_ → _ → 0 < (if _ then _ else _))
    by_cases e1 : S k = true ∧ (k = 0 ∨ S (k - 1) = false)
    · rw [if_pos e1]
      refine ⟨?_, fun _ q => (by rw [e1.1] at q; cases q), fun _ _ => (by omega)⟩
      rcases e1.2 with q | q
      · subst q
        show 0 + 1 ≤ _
        omega
      · by_cases e2 : 0 < k
        · have := h2 e2 q; omega
        · have e3 : k = 0 := by omega
          subst e3
          show 0 + 1 ≤ _
          omega
    · rw [if_neg e1]
      refine ⟨(by omega), fun _ q => (by omega), fun _ q => ?_⟩
      have e2 : ¬ (k = 0 ∨ S (k - 1) = false) := fun z => e1 ⟨q, z⟩
      have e3 : S (k - 1) = true := by
        cases hq : S (k - 1) with
        | true => rfl
        | false => exact absurd (Or.inr hq) e2
      exact h3 (by omega) e3
theorem spN_congr {S S' : Nat → Bool} : ∀ {k}, (∀ x, x < k → S x = S' x) → spN S k = spN S' k
  | 0, _ => rfl
  | k + 1, h => by
    show (if _ then _ else _) = (if _ then _ else _)
    rw [spN_congr (fun x hx => h x (by omega)), h k (by omega)]
    by_cases e1 : k = 0
    · simp [e1]
    · rw [h (k - 1) (by omega)]
theorem spA_congr {S S' : Nat → Bool} {f : Int} {F F' : Nat → Int} : ∀ {k}, (∀ x, x < k → S x = S' x) → ∀ j, j < spN S k → spA S f F k j = spA S' f F' k j
  | 0, _, j, hj => by exact absurd hj (by show ¬ j < 0; omega)
  | k + 1, h, j, hj => by
    have ih := spA_congr (f := f) (F := F) (F' := F') (k := k) (fun x hx => h x (by omega))
    have e0 := spN_congr (k := k) (fun x hx => h x (by omega))
    have e1 : (S k = true ∧ (k = 0 ∨ S (k - 1) = false)) ↔ (S' k = true ∧ (k = 0 ∨ S' (k - 1) = false)) := by
      rw [h k (by omega)]
      by_cases e1 : k = 0
      · simp [e1]
      · rw [h (k - 1) (by omega)]
    have hj' : j < (if S k = true ∧ (k = 0 ∨ S (k - 1) = false) then spN S k + 1 else spN S k) := hj
    rw [show spA S f F (k + 1) = (if S k = true ∧ (k = 0 ∨ S (k - 1) = false) then fu (spA S f F k) (spN S k) (f + k) else spA S f F k) from rfl, show spA S' f F' (k + 1) = (if S' k = true ∧ (k = 0 ∨ S' (k - 1) = false) then fu (spA S' f F' k) (spN S' k) (f + k) else spA S' f F' k) from rfl]
    by_cases e2 : S k = true ∧ (k = 0 ∨ S (k - 1) = false)
    · rw [if_pos e2, if_pos (e1.mp e2), ← e0]
      rw [if_pos e2] at hj'
      by_cases e3 : j = spN S k
      · rw [e3, fu_eq, fu_eq]
      · rw [fu_ne _ _ e3, fu_ne _ _ e3]; exact ih j (by omega)
    · rw [if_neg e2, if_neg (fun q => e2 (e1.mpr q))]
      rw [if_neg e2] at hj'
      exact ih j hj'
theorem spB_congr {S S' : Nat → Bool} {f : Int} {F F' : Nat → Int} : ∀ {k}, (∀ x, x < k → S x = S' x) → ∀ j, j < spN S k → spB S f F k j = spB S' f F' k j
  | 0, _, j, hj => by exact absurd hj (by show ¬ j < 0; omega)
  | k + 1, h, j, hj => by
    have ih := spB_congr (f := f) (F := F) (F' := F') (k := k) (fun x hx => h x (by omega))
    have e0 := spN_congr (k := k + 1) h
    have e9 := h k (by omega)
    rw [show spB S f F (k + 1) = (if S k = true then fu (spB S f F k) (spN S (k + 1) - 1) (f + k) else spB S f F k) from rfl, show spB S' f F' (k + 1) = (if S' k = true then fu (spB S' f F' k) (spN S' (k + 1) - 1) (f + k) else spB S' f F' k) from rfl]
    by_cases e2 : S k = true
    · rw [if_pos e2, if_pos (by rw [← e9]; exact e2), ← e0]
      by_cases e3 : j = spN S (k + 1) - 1
      · rw [e3, fu_eq, fu_eq]
      · rw [fu_ne _ _ e3, fu_ne _ _ e3]
        have hj' : j < (if S k = true ∧ (k = 0 ∨ S (k - 1) = false) then spN S k + 1 else spN S k) := hj
        have e4 : spN S (k + 1) = (if S k = true ∧ (k = 0 ∨ S (k - 1) = false) then spN S k + 1 else spN S k) := rfl
        by_cases e5 : S k = true ∧ (k = 0 ∨ S (k - 1) = false)
        · rw [if_pos e5] at hj' e4; exact ih j (by omega)
        · rw [if_neg e5] at hj' e4; exact ih j (by omega)
    · rw [if_neg e2, if_neg (by rw [← e9]; exact e2)]
      have hj' : j < (if S k = true ∧ (k = 0 ∨ S (k - 1) = false) then spN S k + 1 else spN S k) := hj
      rw [if_neg (fun q => e2 q.1)] at hj'
      exact ih j hj'
end
section
/-! LeastSet: object k of class number 0 with its arrays a0 (ranked), a1 (taken), a2 (firsts), a3 (lasts) -/
theorem hs2 {h : yH} {a1 a2 j : Nat} {x1 x2 : va_E} (h1 : j ≠ a1) (h2 : j ≠ a2) : hs (hs h a1 x1) a2 x2 j = h j := by rw [hs_ne _ _ h2, hs_ne _ _ h1]
theorem hs2a {h : yH} {a1 a2 : Nat} {x1 x2 : va_E} (h2 : a1 ≠ a2) : hs (hs h a1 x1) a2 x2 a1 = some x1 := by rw [hs_ne _ _ h2, hs_eq]
theorem hs_in {h : yH} {a1 a2 : Nat} {x1 x2 x3 : va_E} (h2 : a1 ≠ a2) : hs (hs (hs h a1 x1) a2 x2) a1 x3 = hs (hs h a1 x3) a2 x2 := by
  funext j
  by_cases e1 : j = a1
  · subst e1; rw [hs_eq, hs_ne _ _ h2, hs_eq]
  · by_cases e2 : j = a2
    · subst e2; rw [hs_ne _ _ e1, hs_eq, hs_eq]
    · rw [hs_ne _ _ e1, hs_ne _ _ e2, hs_ne _ _ e1, hs_ne _ _ e2, hs_ne _ _ e1]
theorem ob_ar {h : yH} {k a i : Nat} {fs : List Value} {cA : ClassId} {w : vp_A} (hk : h k = some (.inr (i, fs))) (ha : h a = some (.inl (cA, w))) : k ≠ a := fun q => by rw [q, ha] at hk; cases hk
theorem J_I {h : yH} {d : yD} {a c N M : Nat} {P K : Nat → Int} (ha : h a = some (oJ d N P)) (hc : h c = some (oI d M K)) : a ≠ c := fun q => by
  rw [q, hc] at ha
  simp [oJ, oI] at ha
theorem J_Z {h : yH} {d : yD} {a c N M : Nat} {P K : Nat → Int} (ha : h a = some (oJ d N P)) (hc : h c = some (oZ d M K)) : a ≠ c := fun q => by
  rw [q, hc] at ha
  simp [oJ, oZ] at ha
section SetA
variable {p : Program} {l : Launch} {e : Env} {R : Room} {s : State} {m : MethodId} {args : Array Value} {below : List Frame} {meth : Method} {c : Code} {d : yD} {b : Nat} {Q : State → Prop} {cells slots n : Nat} {h : yH}
set_option maxHeartbeats 4000000 in
theorem c_Set_init (hl : yL l) {k : Nat} {z : Int} (hk : h k = some (oO 0 [.null, .null, vi z, .null, .null])) :
    yM l y_Set_init b_Set_init 1 none 1 12 4 144 d b n h [.ref (b + k)] (fun r n' h' => r = none ∧ n' = n + 4 ∧ h' k = some (oO 0 [.ref (b + n), .ref (b + (n + 1)), vi z, .ref (b + (n + 2)), .ref (b + (n + 3))]) ∧ h' n = some (oI d 48 (fun _ => 0)) ∧ h' (n + 1) = some (oZ d 48 (fun _ => 0)) ∧ h' (n + 2) = some (oI d 24 (fun _ => 0)) ∧ h' (n + 3) = some (oI d 24 (fun _ => 0)) ∧ ∀ j, j ≠ k → j < n → h' j = h j) noT := by
  by_cases hkn : n ≤ k
  · intro p e ha hc hh s m args below hf happ hP
    obtain ⟨rfl, q1, q2, q4, q5⟩ := hP
    have := (q2 k _ hk).lt
    dsimp only at this
    omega
  refine yM_of hl (by decide +kernel) (Nat.le_of_ble_eq_true rfl) (fun p e s m args below meth c C => ?_)
  refine V_aload_n C d_Set_init_0 rfl rfl ?_
  refine V_objInit C w_Set_init_1 wc_Obj (by decide) (by decide) d_Set_init_1 ?_
  refine V_aload_n C d_Set_init_4 rfl rfl ?_
  refine V_bipush (z := 48) C d_Set_init_5 rfl ?_
  refine V_newI C (N := 48) rfl (by decide) wa_I (by decide) (by decide) d_Set_init_7 ?_
  refine V_putF (ty := (.array .int)) C 0 0 (show hs h n (oI d 48 (fun _ => 0)) k = some (oO 0 [.null, .null, vi z, .null, .null]) by rw [hs_ne _ _ (by omega)]; exact hk) rfl in_Set t_Set tok_Set nm_Set (by decide) w_Set_init_9 rfl rfl rfl rfl (by decide +kernel) rfl rfl (Nat.le_of_ble_eq_true rfl) d_Set_init_9 ?_
  refine V_aload_n C d_Set_init_12 rfl rfl ?_
  refine V_bipush (z := 48) C d_Set_init_13 rfl ?_
  refine V_newZ C (N := 48) rfl (by decide) wa_Z (by decide) (by decide) d_Set_init_15 ?_
  refine V_putF (ty := (.array .boolean)) C 0 1 (show hs (hs (hs h n (oI d 48 (fun _ => 0))) k (oO 0 [.ref (b + n), .null, vi z, .null, .null])) (n + 1) (oZ d 48 (fun _ => 0)) k = some (oO 0 [.ref (b + n), .null, vi z, .null, .null]) by rw [hs_ne _ _ (by omega), hs_eq]) rfl in_Set t_Set tok_Set nm_Set (by decide) w_Set_init_17 rfl rfl rfl rfl (by decide +kernel) rfl rfl (Nat.le_of_ble_eq_true rfl) d_Set_init_17 ?_
  refine V_aload_n C d_Set_init_20 rfl rfl ?_
  refine V_bipush (z := 24) C d_Set_init_21 rfl ?_
  refine V_newI C (N := 24) rfl (by decide) wa_I (by decide) (by decide) d_Set_init_23 ?_
  refine V_putF (ty := (.array .int)) C 0 3 (show hs (hs (hs (hs (hs h n (oI d 48 (fun _ => 0))) k (oO 0 [.ref (b + n), .null, vi z, .null, .null])) (n + 1) (oZ d 48 (fun _ => 0))) k (oO 0 [.ref (b + n), .ref (b + (n + 1)), vi z, .null, .null])) (n + 1 + 1) (oI d 24 (fun _ => 0)) k = some (oO 0 [.ref (b + n), .ref (b + (n + 1)), vi z, .null, .null]) by rw [hs_ne _ _ (by omega), hs_eq]) rfl in_Set t_Set tok_Set nm_Set (by decide) w_Set_init_25 rfl rfl rfl rfl (by decide +kernel) rfl rfl (Nat.le_of_ble_eq_true rfl) d_Set_init_25 ?_
  refine V_aload_n C d_Set_init_28 rfl rfl ?_
  refine V_bipush (z := 24) C d_Set_init_29 rfl ?_
  refine V_newI C (N := 24) rfl (by decide) wa_I (by decide) (by decide) d_Set_init_31 ?_
  refine V_putF (ty := (.array .int)) C 0 4 (show hs (hs (hs (hs (hs (hs (hs h n (oI d 48 (fun _ => 0))) k (oO 0 [.ref (b + n), .null, vi z, .null, .null])) (n + 1) (oZ d 48 (fun _ => 0))) k (oO 0 [.ref (b + n), .ref (b + (n + 1)), vi z, .null, .null])) (n + 1 + 1) (oI d 24 (fun _ => 0))) k (oO 0 [.ref (b + n), .ref (b + (n + 1)), vi z, .ref (b + (n + 1 + 1)), .null])) (n + 1 + 1 + 1) (oI d 24 (fun _ => 0)) k = some (oO 0 [.ref (b + n), .ref (b + (n + 1)), vi z, .ref (b + (n + 1 + 1)), .null]) by rw [hs_ne _ _ (by omega), hs_eq]) rfl in_Set t_Set tok_Set nm_Set (by decide) w_Set_init_33 rfl rfl rfl rfl (by decide +kernel) rfl rfl (Nat.le_of_ble_eq_true rfl) d_Set_init_33 ?_
  exact V_return C d_Set_init_36 (Nat.le_refl _) (Nat.le_refl _) ⟨rfl, rfl, by rw [hs_eq]; rfl, (by simp only [hs]; repeat (first | rw [if_neg (by omega)] | rw [if_pos trivial] | rw [if_pos rfl])), (by simp only [hs]; repeat (first | rw [if_neg (by omega)] | rw [if_pos trivial] | rw [if_pos rfl])), (by simp only [hs]; repeat (first | rw [if_neg (by omega)] | rw [if_pos trivial] | rw [if_pos rfl])), (by simp only [hs]; repeat (first | rw [if_neg (by omega)] | rw [if_pos trivial] | rw [if_pos rfl])), fun j h1 h2 => (by simp only [hs]; repeat rw [if_neg (by omega)])⟩
set_option maxHeartbeats 4000000 in
theorem Set_rank_inner (C : yC p l s m args meth c y_Set_rank b_Set_rank 4 none [] d b) (hl : yL l) {k a0 a1 k2 a : Nat} {f sp : Int} {v3 v4 : Value} {m0 : Int} {P K0 T0 T : Nat → Int} {cc : Nat → Nat} {p0 : Nat}
    (hk : h k = some (oO 0 [.ref (b + a0), .ref (b + a1), vi sp, v3, v4])) (ha0 : h a0 = some (oI d 48 K0)) (ha1 : h a1 = some (oZ d 48 T0)) (h01 : a0 ≠ a1) (hk2 : h k2 = some (oO 1 [vi f, vi m0, .ref (b + a)])) (ha : h a = some (oJ d 192 P)) (hP : dig P 192) (hp : p0 < 48) (hc : rkOk (wt P) cc p0) (hR : 1 ≤ R.frames ∧ 27 ≤ R.locals ∧ cells ≤ R.cells ∧ slots ≤ R.slots)
    (kk : ∀ (K : Nat → Int) (lv : List (Nat × Value)) (at0 : Nat), at0 ≤ p0 → (∀ i, i < at0 → K i = cc i) → (∀ i, at0 < i → i ≤ p0 → K i = cc (i - 1)) → (∀ i, at0 ≤ i → i < p0 → wt P (cc i) < wt P p0) → (0 < at0 → ¬ wt P (cc (at0 - 1)) < wt P p0) → lsub [(0, .ref (b + k)), (1, .ref (b + k2)), (2, vi p0), (3, vi at0)] lv → V p l e R s m args below meth c 4 d b Q cells slots n (hs (hs h a0 (oI d 48 K)) a1 (oZ d 48 T)) 59 lv []) :
    ∀ (at0 : Nat) (K : Nat → Int), at0 ≤ p0 → (∀ i, i < at0 → K i = cc i) → (∀ i, at0 < i → i ≤ p0 → K i = cc (i - 1)) → (∀ i, at0 ≤ i → i < p0 → wt P (cc i) < wt P p0) → V p l e R s m args below meth c 4 d b Q cells slots n (hs (hs h a0 (oI d 48 K)) a1 (oZ d 48 T)) 19 [(0, .ref (b + k)), (1, .ref (b + k2)), (2, vi p0), (3, vi at0)] [] := by
  intro at0
  induction at0 with
  | zero =>
    intro K h1 h2 h3 h4
    refine V_iload_n C d_Set_rank_19 rfl rfl ?_
    refine V_if_le (tgt := 59) C d_Set_rank_20 (by decide) (by unfold inI; omega) (fun q20 => ?_) (fun q20 => ?_)
    · exact kk K _ 0 h1 h2 h3 h4 (fun q => absurd q (by omega)) ⟨rfl, rfl, rfl, rfl, trivial⟩
    · exact absurd q20 (by omega)
  | succ at0 ih =>
    intro K h1 h2 h3 h4
    have ca := hc.1 at0 (by omega)
    have e1 : ((at0 + 1 : Nat) : Int) - 1 = at0 := by omega
    have hkk : hs (hs h a0 (oI d 48 K)) a1 (oZ d 48 T) k = some (oO 0 [.ref (b + a0), .ref (b + a1), vi sp, v3, v4]) := by rw [hs2 (ob_ar hk ha0) (ob_ar hk ha1)]; exact hk
    have hk3 : hs (hs h a0 (oI d 48 K)) a1 (oZ d 48 T) k2 = some (oO 1 [vi f, vi m0, .ref (b + a)]) := by rw [hs2 (ob_ar hk2 ha0) (ob_ar hk2 ha1)]; exact hk2
    have ha3 : hs (hs h a0 (oI d 48 K)) a1 (oZ d 48 T) a = some (oJ d 192 P) := by rw [hs2 (J_I ha ha0) (J_Z ha ha1)]; exact ha
    refine V_iload_n C d_Set_rank_19 rfl rfl ?_
    refine V_if_le (tgt := 59) C d_Set_rank_20 (by decide) (by unfold inI; omega) (fun q20 => ?_) (fun q20 => ?_)
    · exact absurd q20 (by omega)
    · refine V_aload_n C d_Set_rank_23 rfl rfl ?_
      refine V_aload_n C d_Set_rank_24 rfl rfl ?_
      refine V_get C 0 0 hkk rfl in_Set (by decide) w_Set_rank_25 rfl rfl d_Set_rank_25 ?_
      refine V_iload_n C d_Set_rank_28 rfl rfl ?_
      refine V_iconst C d_Set_rank_29 rfl ?_
      refine V_isub C d_Set_rank_30 ?_
      rw [e1]
      refine V_iaload C (hs2a h01) (by omega) (by omega) (by decide) d_Set_rank_31 ?_
      refine V_iload_n C d_Set_rank_32 rfl rfl ?_
      rw [Int.toNat_natCast, h2 at0 (by omega)]
      refine V_callV C (c_Row_isLess (x := cc at0) (z := p0) hl hk3 ha3 (by omega) (by omega) hP) wc_Row_isLess w_Set_rank_33 np_Row_isLess ⟨hR.1, hR.2.1, hR.2.2⟩ hk3 rfl rfl (Nat.le_of_ble_eq_true rfl) d_Set_rank_33 (fun v n1 h5 hp1 => ?_) (fun Cx n1 h5 hp1 => hp1.elim)
      obtain ⟨rfl, rfl, rfl⟩ := hp1
      refine V_if_eq (tgt := 59) C d_Set_rank_36 (by decide) (by unfold inI; split <;> omega) (fun q36 => ?_) (fun q36 => ?_)
      · have hno : ¬ wt P (cc at0) < wt P p0 := fun q => by rw [if_pos q] at q36; omega
        exact kk K _ (at0 + 1) h1 h2 h3 h4 (fun _ => hno) ⟨rfl, rfl, rfl, rfl, trivial⟩
      · have hyes : wt P (cc at0) < wt P p0 := by
          by_cases q : wt P (cc at0) < wt P p0
          · exact q
          · rw [if_neg q] at q36; exact absurd rfl q36
        refine V_aload_n C d_Set_rank_39 rfl rfl ?_
        refine V_get C 0 0 hkk rfl in_Set (by decide) w_Set_rank_40 rfl rfl d_Set_rank_40 ?_
        refine V_iload_n C d_Set_rank_43 rfl rfl ?_
        refine V_aload_n C d_Set_rank_44 rfl rfl ?_
        refine V_get C 0 0 hkk rfl in_Set (by decide) w_Set_rank_45 rfl rfl d_Set_rank_45 ?_
        refine V_iload_n C d_Set_rank_48 rfl rfl ?_
        refine V_iconst C d_Set_rank_49 rfl ?_
        refine V_isub C d_Set_rank_50 ?_
        rw [e1]
        refine V_iaload C (hs2a h01) (by omega) (by omega) (by decide) d_Set_rank_51 ?_
        rw [Int.toNat_natCast, h2 at0 (by omega)]
        refine V_iastore C (hs2a h01) (by omega) (by omega) (by decide) d_Set_rank_52 ?_
        refine V_iinc C d_Set_rank_53 rfl rfl (by decide) rfl ?_
        refine V_goto (tgt := 19) C d_Set_rank_56 (by decide) ?_
        rw [hs_in h01, Int.toNat_natCast]
        refine V_loc2 (ih _ (by omega) (fun i hi => ?_) (fun i h5 h6 => ?_) (fun i h5 h6 => ?_)) ⟨rfl, rfl, rfl, ?_, trivial⟩
        · rw [fu_ne _ _ (by omega)]; exact h2 i (by omega)
        · by_cases e2 : i = at0 + 1
          · rw [e2, fu_eq]; rfl
          · rw [fu_ne _ _ e2]; exact h3 i (by omega) h6
        · by_cases e2 : i = at0
          · rw [e2]; exact hyes
          · exact h4 i (by omega) h6
        · show some (vi (((at0 + 1 : Nat) : Int) + -1)) = _
          rw [show ((at0 + 1 : Nat) : Int) + -1 = at0 by omega]
set_option maxHeartbeats 4000000 in
theorem Set_rank_outer (C : yC p l s m args meth c y_Set_rank b_Set_rank 4 none [] d b) (hl : yL l) {k a0 a1 k2 a : Nat} {f sp : Int} {v3 v4 : Value} {mm : Nat} {P K0 T0 : Nat → Int}
    (hk : h k = some (oO 0 [.ref (b + a0), .ref (b + a1), vi sp, v3, v4])) (ha0 : h a0 = some (oI d 48 K0)) (ha1 : h a1 = some (oZ d 48 T0)) (h01 : a0 ≠ a1) (hk2 : h k2 = some (oO 1 [vi f, vi mm, .ref (b + a)])) (ha : h a = some (oJ d 192 P)) (hP : dig P 192) (hm : mm ≤ 48) (hR : 1 ≤ R.frames ∧ 27 ≤ R.locals ∧ cells ≤ R.cells ∧ slots ≤ R.slots)
    (kk : ∀ (K T : Nat → Int) (cc : Nat → Nat) (lv : List (Nat × Value)), (∀ i, i < mm → K i = cc i) → rkOk (wt P) cc mm → (∀ i, i < mm → T i = 0) → V p l e R s m args below meth c 4 d b Q cells slots n (hs (hs h a0 (oI d 48 K)) a1 (oZ d 48 T)) 72 lv []) :
    ∀ (j p0 : Nat) (K T : Nat → Int) (cc : Nat → Nat), p0 + j = mm → (∀ i, i < p0 → K i = cc i) → rkOk (wt P) cc p0 → (∀ i, i < p0 → T i = 0) → V p l e R s m args below meth c 4 d b Q cells slots n (hs (hs h a0 (oI d 48 K)) a1 (oZ d 48 T)) 2 [(0, .ref (b + k)), (1, .ref (b + k2)), (2, vi p0)] [] := by
  intro j
  induction j with
  | zero =>
    intro p0 K T cc hj h1 h2 h3
    have e0 : p0 = mm := by omega
    subst e0
    have hk3 : hs (hs h a0 (oI d 48 K)) a1 (oZ d 48 T) k2 = some (oO 1 [vi f, vi p0, .ref (b + a)]) := by rw [hs2 (ob_ar hk2 ha0) (ob_ar hk2 ha1)]; exact hk2
    refine V_iload_n C d_Set_rank_2 rfl rfl ?_
    refine V_aload_n C d_Set_rank_3 rfl rfl ?_
    refine V_getN C 1 1 hk3 rfl in_Row (by decide) w_Set_rank_4 rfl rfl d_Set_rank_4 ?_
    refine V_icmp_ge (tgt := 72) C d_Set_rank_7 (by decide) (by unfold inI; omega) (by unfold inI; omega) (fun q7 => ?_) (fun q7 => ?_)
    · exact kk K T cc _ h1 h2 h3
    · exact absurd q7 (by omega)
  | succ j ih =>
    intro p0 K T cc hj h1 h2 h3
    have hkk : hs (hs h a0 (oI d 48 K)) a1 (oZ d 48 T) k = some (oO 0 [.ref (b + a0), .ref (b + a1), vi sp, v3, v4]) := by rw [hs2 (ob_ar hk ha0) (ob_ar hk ha1)]; exact hk
    have hk3 : hs (hs h a0 (oI d 48 K)) a1 (oZ d 48 T) k2 = some (oO 1 [vi f, vi mm, .ref (b + a)]) := by rw [hs2 (ob_ar hk2 ha0) (ob_ar hk2 ha1)]; exact hk2
    refine V_iload_n C d_Set_rank_2 rfl rfl ?_
    refine V_aload_n C d_Set_rank_3 rfl rfl ?_
    refine V_getN C 1 1 hk3 rfl in_Row (by decide) w_Set_rank_4 rfl rfl d_Set_rank_4 ?_
    refine V_icmp_ge (tgt := 72) C d_Set_rank_7 (by decide) (by unfold inI; omega) (by unfold inI; omega) (fun q7 => ?_) (fun q7 => ?_)
    · exact absurd q7 (by omega)
    · refine V_aload_n C d_Set_rank_10 rfl rfl ?_
      refine V_get C 0 1 hkk rfl in_Set (by decide) w_Set_rank_11 rfl rfl d_Set_rank_11 ?_
      refine V_iload_n C d_Set_rank_14 rfl rfl ?_
      refine V_iconst C d_Set_rank_15 rfl ?_
      refine V_zastore C (hs_eq _ _ _) (by omega) (by omega) (by omega) (by decide) d_Set_rank_16 ?_
      refine V_iload_n C d_Set_rank_17 rfl rfl ?_
      refine V_istore_n C d_Set_rank_18 rfl (by decide) rfl ?_
      rw [hs_hs, Int.toNat_natCast]
      refine V_loc2 (Set_rank_inner C hl hk ha0 ha1 h01 hk2 ha hP (p0 := p0) (by omega) h2 hR (fun K' lv at0 g1 g2 g3 g4 g5 g6 => ?_) p0 K (Nat.le_refl _) h1 (fun i h5 h6 => absurd h5 (by omega)) (fun i h5 h6 => absurd h5 (by omega))) ⟨rfl, rfl, rfl, rfl, trivial⟩
      refine V_loc g6 ?_
      have hkk2 : ∀ T', hs (hs h a0 (oI d 48 K')) a1 (oZ d 48 T') k = some (oO 0 [.ref (b + a0), .ref (b + a1), vi sp, v3, v4]) := fun T' => by rw [hs2 (ob_ar hk ha0) (ob_ar hk ha1)]; exact hk
      refine V_aload_n C d_Set_rank_59 rfl rfl ?_
      refine V_get C 0 0 (hkk2 _) rfl in_Set (by decide) w_Set_rank_60 rfl rfl d_Set_rank_60 ?_
      refine V_iload_n C d_Set_rank_63 rfl rfl ?_
      refine V_iload_n C d_Set_rank_64 rfl rfl ?_
      refine V_iastore C (hs2a h01) (by omega) (by omega) (by decide) d_Set_rank_65 ?_
      refine V_iinc C d_Set_rank_66 rfl rfl (by decide) rfl ?_
      refine V_goto (tgt := 2) C d_Set_rank_69 (by decide) ?_
      rw [hs_in h01, Int.toNat_natCast]
      refine V_loc2 (ih (p0 + 1) _ _ (insC cc at0 p0) (by omega) (fun i hi => ?_) (ins_ok h2 g1 g4 g5) (fun i hi => ?_)) ⟨rfl, rfl, rfl, trivial⟩
      · unfold insC
        by_cases e1 : i = at0
        · rw [e1, fu_eq, if_neg (by omega), if_pos rfl]
        · rw [fu_ne _ _ e1]
          by_cases e2 : i < at0
          · rw [if_pos e2]; exact g2 i e2
          · rw [if_neg e2, if_neg e1]; exact g3 i (by omega) (by omega)
      · by_cases e1 : i = p0
        · rw [e1, fu_eq]
        · rw [fu_ne _ _ e1]; exact h3 i (by omega)
set_option maxHeartbeats 4000000 in
/-- rank: no place is taken, all are ranked -/
theorem c_Set_rank (hl : yL l) {k a0 a1 k2 a : Nat} {f sp : Int} {v3 v4 : Value} {mm : Nat} {P K0 T0 : Nat → Int}
    (hk : h k = some (oO 0 [.ref (b + a0), .ref (b + a1), vi sp, v3, v4])) (ha0 : h a0 = some (oI d 48 K0)) (ha1 : h a1 = some (oZ d 48 T0)) (h01 : a0 ≠ a1) (hk2 : h k2 = some (oO 1 [vi f, vi mm, .ref (b + a)])) (ha : h a = some (oJ d 192 P)) (hP : dig P 192) (hm : mm ≤ 48) :
    yM l y_Set_rank b_Set_rank 4 none 1 27 0 0 d b n h [.ref (b + k), .ref (b + k2)] (fun r n' h' => r = none ∧ n' = n ∧ ∃ (K T : Nat → Int) (cc : Nat → Nat), (∀ i, i < mm → K i = cc i) ∧ rkOk (wt P) cc mm ∧ (∀ i, i < mm → T i = 0) ∧ h' = hs (hs h a0 (oI d 48 K)) a1 (oZ d 48 T)) noT := by
  refine yM_of hl (by decide +kernel) (Nat.le_of_ble_eq_true rfl) (fun p e s m args below meth c C => ?_)
  refine V_iconst C d_Set_rank_0 rfl ?_
  refine V_istore_n C d_Set_rank_1 rfl (by decide) rfl ?_
  refine V_heq (h' := hs (hs h a0 (oI d 48 K0)) a1 (oZ d 48 T0)) (by rw [hs_self ha0, hs_self ha1]) ?_
  refine V_loc2 (Set_rank_outer C hl hk ha0 ha1 h01 hk2 ha hP hm (by decide) (fun K T cc lv h1 h2 h3 => ?_) mm 0 K0 T0 id (by omega) (fun i hi => absurd hi (by omega)) ⟨fun i hi => absurd hi (by omega), fun i j h1 h2 => absurd h2 (by omega), fun x hx => absurd hx (by omega)⟩ (fun i hi => absurd hi (by omega))) ⟨rfl, rfl, rfl, trivial⟩
  exact V_return C d_Set_rank_72 (Nat.le_refl _) (Nat.le_refl _) ⟨rfl, rfl, K, T, cc, h1, h2, h3, rfl⟩
set_option maxHeartbeats 4000000 in
/-- take: the place of that rank is taken, its year is the answer -/
theorem c_Set_take (hl : yL l) {k a0 a1 k2 : Nat} {f sp m0 : Int} {v3 v4 v5 : Value} {K T : Nat → Int} {r x : Nat}
    (hk : h k = some (oO 0 [.ref (b + a0), .ref (b + a1), vi sp, v3, v4])) (ha0 : h a0 = some (oI d 48 K)) (ha1 : h a1 = some (oZ d 48 T)) (hk2 : h k2 = some (oO 1 [vi f, vi m0, v5])) (hr : r < 48) (hx : K r = x) (hx2 : x < 48) :
    yM l y_Set_take b_Set_take 4 (some .int) 0 0 0 0 d b n h [.ref (b + k), .ref (b + k2), vi r] (fun v n' h' => v = some (vi (f + x)) ∧ n' = n ∧ h' = hs h a1 (oZ d 48 (fu T x 1))) noT := by
  refine yM_of hl (by decide +kernel) (Nat.le_of_ble_eq_true rfl) (fun p e s m args below meth c C => ?_)
  refine V_aload_n C d_Set_take_0 rfl rfl ?_
  refine V_get C 0 0 hk rfl in_Set (by decide) w_Set_take_1 rfl rfl d_Set_take_1 ?_
  refine V_iload_n C d_Set_take_4 rfl rfl ?_
  refine V_iaload C ha0 (by omega) (by omega) (by decide) d_Set_take_5 ?_
  rw [Int.toNat_natCast, hx]
  refine V_istore_n C d_Set_take_6 rfl (by decide) rfl ?_
  refine V_aload_n C d_Set_take_7 rfl rfl ?_
  refine V_get C 0 1 hk rfl in_Set (by decide) w_Set_take_8 rfl rfl d_Set_take_8 ?_
  refine V_iload_n C d_Set_take_11 rfl rfl ?_
  refine V_iconst C d_Set_take_12 rfl ?_
  refine V_zastore C ha1 (by omega) (by omega) (by omega) (by decide) d_Set_take_13 ?_
  rw [Int.toNat_natCast]
  have hk3 : hs h a1 (oZ d 48 (fu T x 1)) k2 = some (oO 1 [vi f, vi m0, v5]) := hs_at hk2 ha1
  refine V_aload_n C d_Set_take_14 rfl rfl ?_
  refine V_getN C 1 0 hk3 rfl in_Row (by decide) w_Set_take_15 rfl rfl d_Set_take_15 ?_
  refine V_iload_n C d_Set_take_18 rfl rfl ?_
  refine V_iadd C d_Set_take_19 ?_
  exact V_ireturn C d_Set_take_20 (Nat.le_refl _) (Nat.le_refl _) ⟨rfl, rfl, rfl⟩
end SetA
end
section
theorem tz {T : Int} {S : Bool} (h : T = if S = true then 1 else 0) : (T = 0 ↔ S = false) ∧ (T = 0 ∨ T = 1) := by
  cases S <;> simp at h <;> subst h <;> simp
section Spans
variable {p : Program} {l : Launch} {e : Env} {R : Room} {s : State} {m : MethodId} {args : Array Value} {below : List Frame} {meth : Method} {c : Code} {d : yD} {b : Nat} {Q : State → Prop} {cells slots n : Nat} {h : yH}
set_option maxHeartbeats 4000000 in
theorem Set_spans_loop (C : yC p l s m args meth c y_Set_findSpans b_Set_findSpans 4 none [] d b) {k a0 a1 a2 a3 k2 : Nat} {f : Int} {v5 : Value} {mm : Nat} {T A0 B0 : Nat → Int} {S : Nat → Bool}
    (hk1 : k ≠ a1) (hk2a : k ≠ a2) (hk3 : k ≠ a3) (h12 : a1 ≠ a2) (h13 : a1 ≠ a3) (h23 : a2 ≠ a3) (hkk2 : k2 ≠ k) (hk2a2 : k2 ≠ a2) (hk2a3 : k2 ≠ a3) (ha1 : h a1 = some (oZ d 48 T)) (hk2 : h k2 = some (oO 1 [vi f, vi mm, v5])) (hm : mm ≤ 48) (hT : ∀ x, x < mm → T x = if S x = true then 1 else 0)
    (kk : ∀ (h' : yH) (lv : List (Nat × Value)), h' k = some (oO 0 [.ref (b + a0), .ref (b + a1), vi (spN S mm : Nat), .ref (b + a2), .ref (b + a3)]) → h' a2 = some (oI d 24 (spA S f A0 mm)) → h' a3 = some (oI d 24 (spB S f B0 mm)) → (∀ j, j ≠ k → j ≠ a2 → j ≠ a3 → h' j = h j) → V p l e R s m args below meth c 4 d b Q cells slots n h' 85 lv []) :
    ∀ (j i : Nat) (h' : yH), i + j = mm → h' k = some (oO 0 [.ref (b + a0), .ref (b + a1), vi (spN S i : Nat), .ref (b + a2), .ref (b + a3)]) → h' a2 = some (oI d 24 (spA S f A0 i)) → h' a3 = some (oI d 24 (spB S f B0 i)) → (∀ j, j ≠ k → j ≠ a2 → j ≠ a3 → h' j = h j) → V p l e R s m args below meth c 4 d b Q cells slots n h' 9 [(0, .ref (b + k)), (1, .ref (b + k2)), (2, vi (if i = 0 then 0 else T (i - 1))), (3, vi i)] [] := by
  intro j
  induction j with
  | zero =>
    intro i h' hi g1 g2 g3 g4
    have e0 : i = mm := by omega
    subst e0
    have gk2 : h' k2 = some (oO 1 [vi f, vi i, v5]) := by rw [g4 k2 hkk2 hk2a2 hk2a3]; exact hk2
    refine V_iload_n C d_Set_findSpans_9 rfl rfl ?_
    refine V_aload_n C d_Set_findSpans_10 rfl rfl ?_
    refine V_getN C 1 1 gk2 rfl in_Row (by decide) w_Set_findSpans_11 rfl rfl d_Set_findSpans_11 ?_
    refine V_icmp_ge (tgt := 85) C d_Set_findSpans_14 (by decide) (by unfold inI; omega) (by unfold inI; omega) (fun q14 => ?_) (fun q14 => ?_)
    · exact kk h' _ g1 g2 g3 g4
    · exact absurd q14 (by omega)
  | succ j ih =>
    intro i h' hi g1 g2 g3 g4
    have gk2 : h' k2 = some (oO 1 [vi f, vi mm, v5]) := by rw [g4 k2 hkk2 hk2a2 hk2a3]; exact hk2
    have ga1 : h' a1 = some (oZ d 48 T) := by rw [g4 a1 hk1.symm h12 h13]; exact ha1
    obtain ⟨t0, t1⟩ := tz (hT i (by omega))
    have sle := spN_le S (i + 1)
    have sl0 := spN_le S i
    have eS : spN S (i + 1) = if S i = true ∧ (i = 0 ∨ S (i - 1) = false) then spN S i + 1 else spN S i := rfl
    have eA : spA S f A0 (i + 1) = if S i = true ∧ (i = 0 ∨ S (i - 1) = false) then fu (spA S f A0 i) (spN S i) (f + i) else spA S f A0 i := rfl
    have eB : spB S f B0 (i + 1) = if S i = true then fu (spB S f B0 i) (spN S (i + 1) - 1) (f + i) else spB S f B0 i := rfl
    -- behind the write of the last year
    have tail : ∀ (h2 : yH) (w : Int), h2 k = some (oO 0 [.ref (b + a0), .ref (b + a1), vi (spN S (i + 1) : Nat), .ref (b + a2), .ref (b + a3)]) → h2 a2 = some (oI d 24 (spA S f A0 (i + 1))) → h2 a3 = some (oI d 24 (spB S f B0 (i + 1))) → (∀ j, j ≠ k → j ≠ a2 → j ≠ a3 → h2 j = h j) → V p l e R s m args below meth c 4 d b Q cells slots n h2 72 [(0, .ref (b + k)), (1, .ref (b + k2)), (2, vi w), (3, vi i)] [] := by
      intro h2 w c1 c2 c3 c4
      have ca1 : h2 a1 = some (oZ d 48 T) := by rw [c4 a1 hk1.symm h12 h13]; exact ha1
      refine V_aload_n C d_Set_findSpans_72 rfl rfl ?_
      refine V_get C 0 1 c1 rfl in_Set (by decide) w_Set_findSpans_73 rfl rfl d_Set_findSpans_73 ?_
      refine V_iload_n C d_Set_findSpans_76 rfl rfl ?_
      refine V_zaload C ca1 (by omega) (by omega) (by decide) d_Set_findSpans_77 ?_
      rw [Int.toNat_natCast]
      refine V_istore_n C d_Set_findSpans_78 rfl (by decide) rfl ?_
      refine V_iinc C d_Set_findSpans_79 rfl rfl (by decide) rfl ?_
      refine V_goto (tgt := 9) C d_Set_findSpans_82 (by decide) ?_
      refine V_loc2 (ih (i + 1) h2 (by omega) c1 c2 c3 c4) ⟨rfl, rfl, ?_, rfl, trivial⟩
      rw [if_neg (by omega)]
      rfl
    have mid : ∀ (h2 : yH) (w : Int), S i = true → h2 k = some (oO 0 [.ref (b + a0), .ref (b + a1), vi (spN S (i + 1) : Nat), .ref (b + a2), .ref (b + a3)]) → h2 a2 = some (oI d 24 (spA S f A0 (i + 1))) → h2 a3 = some (oI d 24 (spB S f B0 i)) → (∀ j, j ≠ k → j ≠ a2 → j ≠ a3 → h2 j = h j) → 0 < spN S (i + 1) → V p l e R s m args below meth c 4 d b Q cells slots n h2 55 [(0, .ref (b + k)), (1, .ref (b + k2)), (2, vi w), (3, vi i)] [] := by
      intro h2 w hS c1 c2 c3 c4 c5
      have ck2 : h2 k2 = some (oO 1 [vi f, vi mm, v5]) := by rw [c4 k2 hkk2 hk2a2 hk2a3]; exact hk2
      refine V_aload_n C d_Set_findSpans_55 rfl rfl ?_
      refine V_get C 0 4 c1 rfl in_Set (by decide) w_Set_findSpans_56 rfl rfl d_Set_findSpans_56 ?_
      refine V_aload_n C d_Set_findSpans_59 rfl rfl ?_
      refine V_get C 0 2 c1 rfl in_Set (by decide) w_Set_findSpans_60 rfl rfl d_Set_findSpans_60 ?_
      refine V_iconst C d_Set_findSpans_63 rfl ?_
      refine V_isub C d_Set_findSpans_64 ?_
      refine V_aload_n C d_Set_findSpans_65 rfl rfl ?_
      refine V_getN C 1 0 ck2 rfl in_Row (by decide) w_Set_findSpans_66 rfl rfl d_Set_findSpans_66 ?_
      refine V_iload_n C d_Set_findSpans_69 rfl rfl ?_
      refine V_iadd C d_Set_findSpans_70 ?_
      refine V_iastore C c3 (by omega) (by omega) (by decide) d_Set_findSpans_71 ?_
      rw [show ((spN S (i + 1) : Nat) - 1 : Int).toNat = spN S (i + 1) - 1 by omega]
      refine tail _ w (by rw [hs_ne _ _ hk3]; exact c1) (by rw [hs_ne _ _ h23]; exact c2) (by rw [hs_eq, eB, if_pos hS]) (fun j j1 j2 j3 => by rw [hs_ne _ _ j3]; exact c4 j j1 j2 j3)
    have hin : inI (if i = 0 then 0 else T (i - 1)) := by
      by_cases e1 : i = 0
      · rw [if_pos e1]; exact inI_0
      · rw [if_neg e1]
        obtain ⟨-, z1⟩ := tz (hT (i - 1) (by omega))
        exact ⟨by omega, by omega⟩
    refine V_iload_n C d_Set_findSpans_9 rfl rfl ?_
    refine V_aload_n C d_Set_findSpans_10 rfl rfl ?_
    refine V_getN C 1 1 gk2 rfl in_Row (by decide) w_Set_findSpans_11 rfl rfl d_Set_findSpans_11 ?_
    refine V_icmp_ge (tgt := 85) C d_Set_findSpans_14 (by decide) (by unfold inI; omega) (by unfold inI; omega) (fun q14 => ?_) (fun q14 => ?_)
    · exact absurd q14 (by omega)
    · refine V_aload_n C d_Set_findSpans_17 rfl rfl ?_
      refine V_get C 0 1 g1 rfl in_Set (by decide) w_Set_findSpans_18 rfl rfl d_Set_findSpans_18 ?_
      refine V_iload_n C d_Set_findSpans_21 rfl rfl ?_
      refine V_zaload C ga1 (by omega) (by omega) (by decide) d_Set_findSpans_22 ?_
      rw [Int.toNat_natCast]
      refine V_if_eq (tgt := 72) C d_Set_findSpans_23 (by decide) (by unfold inI; omega) (fun q23 => ?_) (fun q23 => ?_)
      · have hS : ¬ S i = true := fun q => by rw [t0.mp q23] at q; cases q
        refine tail h' _ ?_ ?_ ?_ g4
        · rw [eS, if_neg (fun q => hS q.1)]; exact g1
        · rw [eA, if_neg (fun q => hS q.1)]; exact g2
        · rw [eB, if_neg hS]; exact g3
      · have hS : S i = true := by
          cases hq : S i with
          | true => rfl
          | false => exact absurd (t0.mpr hq) q23
        refine V_iload_n C d_Set_findSpans_26 rfl rfl ?_
        refine V_if_ne (tgt := 55) C d_Set_findSpans_27 (by decide) hin (fun q27 => ?_) (fun q27 => ?_)
        · have hno : ¬ (S i = true ∧ (i = 0 ∨ S (i - 1) = false)) := fun q => by
            rcases q.2 with z | z
            · rw [if_pos z] at q27; exact q27 rfl
            · by_cases e1 : i = 0
              · rw [if_pos e1] at q27; exact q27 rfl
              · rw [if_neg e1] at q27
                exact q27 ((tz (hT (i - 1) (by omega))).1.mpr z)
          have hpos : 0 < spN S (i + 1) := sle.2.2 (by omega) hS
          refine mid h' _ hS ?_ ?_ g3 g4 hpos
          · rw [eS, if_neg hno]; exact g1
          · rw [eA, if_neg hno]; exact g2
        · have hyes : S i = true ∧ (i = 0 ∨ S (i - 1) = false) := ⟨hS, by
            by_cases e1 : i = 0
            · exact Or.inl e1
            · rw [if_neg e1] at q27
              exact Or.inr ((tz (hT (i - 1) (by omega))).1.mp q27)⟩
          rw [if_pos hyes] at eS eA
          have hlt : spN S i < 24 := by omega
          refine V_aload_n C d_Set_findSpans_30 rfl rfl ?_
          refine V_get C 0 3 g1 rfl in_Set (by decide) w_Set_findSpans_31 rfl rfl d_Set_findSpans_31 ?_
          refine V_aload_n C d_Set_findSpans_34 rfl rfl ?_
          refine V_get C 0 2 g1 rfl in_Set (by decide) w_Set_findSpans_35 rfl rfl d_Set_findSpans_35 ?_
          refine V_aload_n C d_Set_findSpans_38 rfl rfl ?_
          refine V_getN C 1 0 gk2 rfl in_Row (by decide) w_Set_findSpans_39 rfl rfl d_Set_findSpans_39 ?_
          refine V_iload_n C d_Set_findSpans_42 rfl rfl ?_
          refine V_iadd C d_Set_findSpans_43 ?_
          refine V_iastore C g2 (by omega) (by omega) (by decide) d_Set_findSpans_44 ?_
          rw [Int.toNat_natCast]
          have g5 : hs h' a2 (oI d 24 (fu (spA S f A0 i) (spN S i) (f + i))) k = some (oO 0 [.ref (b + a0), .ref (b + a1), vi (spN S i : Nat), .ref (b + a2), .ref (b + a3)]) := by rw [hs_ne _ _ hk2a]; exact g1
          refine V_aload_n C d_Set_findSpans_45 rfl rfl ?_
          refine V_dup C d_Set_findSpans_46 rfl ?_
          refine V_get C 0 2 g5 rfl in_Set (by decide) w_Set_findSpans_47 rfl rfl d_Set_findSpans_47 ?_
          refine V_iconst C d_Set_findSpans_50 rfl ?_
          refine V_iadd C d_Set_findSpans_51 ?_
          refine V_put (ty := .int) C 0 2 g5 rfl in_Set t_Set tok_Set nm_Set (by decide) w_Set_findSpans_52 rfl rfl (by decide +kernel) rfl rfl (Nat.le_of_ble_eq_true rfl) d_Set_findSpans_52 ?_
          refine mid _ _ hS ?_ ?_ ?_ ?_ (by omega)
          · rw [hs_eq, eS]; rfl
          · rw [hs_ne _ _ hk2a.symm, hs_eq, eA]
          · rw [hs_ne _ _ hk3.symm, hs_ne _ _ h23.symm]; exact g3
          · intro j j1 j2 j3
            rw [hs_ne _ _ j1, hs_ne _ _ j2]; exact g4 j j1 j2 j3
set_option maxHeartbeats 4000000 in
/-- findSpans -/
theorem c_Set_findSpans (hl : yL l) {k a0 a1 a2 a3 k2 : Nat} {f sp : Int} {v5 : Value} {mm : Nat} {T A0 B0 : Nat → Int} {S : Nat → Bool}
    (h12 : a1 ≠ a2) (h13 : a1 ≠ a3) (h23 : a2 ≠ a3) (hkk2 : k2 ≠ k) (hk : h k = some (oO 0 [.ref (b + a0), .ref (b + a1), vi sp, .ref (b + a2), .ref (b + a3)])) (ha1 : h a1 = some (oZ d 48 T)) (ha2 : h a2 = some (oI d 24 A0)) (ha3 : h a3 = some (oI d 24 B0)) (hk2 : h k2 = some (oO 1 [vi f, vi mm, v5])) (hm : mm ≤ 48) (hT : ∀ x, x < mm → T x = if S x = true then 1 else 0) :
    yM l y_Set_findSpans b_Set_findSpans 4 none 0 0 0 0 d b n h [.ref (b + k), .ref (b + k2)] (fun r n' h' => r = none ∧ n' = n ∧ h' k = some (oO 0 [.ref (b + a0), .ref (b + a1), vi (spN S mm : Nat), .ref (b + a2), .ref (b + a3)]) ∧ h' a2 = some (oI d 24 (spA S f A0 mm)) ∧ h' a3 = some (oI d 24 (spB S f B0 mm)) ∧ ∀ j, j ≠ k → j ≠ a2 → j ≠ a3 → h' j = h j) noT := by
  refine yM_of hl (by decide +kernel) (Nat.le_of_ble_eq_true rfl) (fun p e s m args below meth c C => ?_)
  refine V_aload_n C d_Set_findSpans_0 rfl rfl ?_
  refine V_iconst C d_Set_findSpans_1 rfl ?_
  refine V_put (ty := .int) C 0 2 hk rfl in_Set t_Set tok_Set nm_Set (by decide) w_Set_findSpans_2 rfl rfl (by decide +kernel) rfl rfl (Nat.le_of_ble_eq_true rfl) d_Set_findSpans_2 ?_
  refine V_iconst C d_Set_findSpans_5 rfl ?_
  refine V_istore_n C d_Set_findSpans_6 rfl (by decide) rfl ?_
  refine V_iconst C d_Set_findSpans_7 rfl ?_
  refine V_istore_n C d_Set_findSpans_8 rfl (by decide) rfl ?_
  refine V_loc2 (Set_spans_loop (A0 := A0) (B0 := B0) (f := f) (S := S) (h := h) C (ob_ar hk ha1) (ob_ar hk ha2) (ob_ar hk ha3) h12 h13 h23 hkk2 (ob_ar hk2 ha2) (ob_ar hk2 ha3) ha1 hk2 hm hT (fun h' lv g1 g2 g3 g4 => ?_) mm 0 _ (by omega) (hs_eq _ _ _) (by rw [hs_ne _ _ (ob_ar hk ha2).symm]; exact ha2) (by rw [hs_ne _ _ (ob_ar hk ha3).symm]; exact ha3) (fun j j1 j2 j3 => by rw [hs_ne _ _ j1])) ⟨rfl, rfl, rfl, rfl, trivial⟩
  exact V_return C d_Set_findSpans_85 (Nat.le_refl _) (Nat.le_refl _) ⟨rfl, rfl, g1, g2, g3, g4⟩
end Spans
end
section
/-! The four exceptions that the class throws: their words stand in the table -/
theorem xi_I : Cond.initialized "java/lang/IndexOutOfBoundsException" ∈ yW := by decide +kernel
theorem xi_S : Cond.initialized "java/lang/IllegalStateException" ∈ yW := by decide +kernel
theorem xi_A : Cond.initialized "java/lang/IllegalArgumentException" ∈ yW := by decide +kernel
theorem xi_M : Cond.initialized "java/lang/ArithmeticException" ∈ yW := by decide +kernel
theorem xa_I : ∀ w ∈ vx_atS "YearFractions" 165 "java/lang/IndexOutOfBoundsException" ["java/lang/RuntimeException", "java/lang/Exception"], w ∈ yW ∨ w ∈ yNs := by decide +kernel
theorem xa_S : ∀ w ∈ vx_atS "YearFractions" 237 "java/lang/IllegalStateException" ["java/lang/RuntimeException", "java/lang/Exception"], w ∈ yW ∨ w ∈ yNs := by decide +kernel
theorem xa_A : ∀ w ∈ vx_atS "YearFractions" 52 "java/lang/IllegalArgumentException" ["java/lang/RuntimeException", "java/lang/Exception"], w ∈ yW ∨ w ∈ yNs := by decide +kernel
theorem xa_M : ∀ w ∈ vx_atS "YearFractions" 145 "java/lang/ArithmeticException" ["java/lang/RuntimeException", "java/lang/Exception"], w ∈ yW ∨ w ∈ yNs := by decide +kernel
theorem xg_I : ∀ w ∈ Cond.classLink "YearFractions" 161 "java/lang/IndexOutOfBoundsException" :: Cond.initialized "java/lang/IndexOutOfBoundsException" :: vx_atS "YearFractions" 165 "java/lang/IndexOutOfBoundsException" ["java/lang/RuntimeException", "java/lang/Exception"], vx_ot w = true := by decide +kernel
theorem xg_S : ∀ w ∈ Cond.classLink "YearFractions" 233 "java/lang/IllegalStateException" :: Cond.initialized "java/lang/IllegalStateException" :: vx_atS "YearFractions" 237 "java/lang/IllegalStateException" ["java/lang/RuntimeException", "java/lang/Exception"], vx_ot w = true := by decide +kernel
theorem xg_A : ∀ w ∈ Cond.classLink "YearFractions" 48 "java/lang/IllegalArgumentException" :: Cond.initialized "java/lang/IllegalArgumentException" :: vx_atS "YearFractions" 52 "java/lang/IllegalArgumentException" ["java/lang/RuntimeException", "java/lang/Exception"], vx_ot w = true := by decide +kernel
theorem xg_M : ∀ w ∈ Cond.classLink "YearFractions" 141 "java/lang/ArithmeticException" :: Cond.initialized "java/lang/ArithmeticException" :: vx_atS "YearFractions" 145 "java/lang/ArithmeticException" ["java/lang/RuntimeException", "java/lang/Exception"], vx_ot w = true := by decide +kernel
end
section
/-! The class's state: XS as it is kept in the cells 0 .. 28, Vw as the document sees it -/
def XS : Type := (Nat) × (Int) × (Nat → Int) × (Nat → Int) × (Nat → Nat → Int) × (Nat) × (Nat → Int) × (Nat → Int) × (Nat → Int) × (Nat → Int) × (Nat → Int) × (Nat → Int) × (Nat → Int)
def XS.rc (x : XS) : Nat := x.1
def XS.rs (x : XS) : Int := x.2.1
def XS.ff (x : XS) : Nat → Int := x.2.2.1
def XS.fm (x : XS) : Nat → Int := x.2.2.2.1
def XS.PP (x : XS) : Nat → Nat → Int := x.2.2.2.2.1
def XS.sp (x : XS) : Nat := x.2.2.2.2.2.1
def XS.K (x : XS) : Nat → Int := x.2.2.2.2.2.2.1
def XS.T (x : XS) : Nat → Int := x.2.2.2.2.2.2.2.1
def XS.A (x : XS) : Nat → Int := x.2.2.2.2.2.2.2.2.1
def XS.B (x : XS) : Nat → Int := x.2.2.2.2.2.2.2.2.2.1
def XS.l1 (x : XS) : Nat → Int := x.2.2.2.2.2.2.2.2.2.2.1
def XS.l2 (x : XS) : Nat → Int := x.2.2.2.2.2.2.2.2.2.2.2.1
def XS.l3 (x : XS) : Nat → Int := x.2.2.2.2.2.2.2.2.2.2.2.2
def XS.mk (rc : Nat) (rs : Int) (ff : Nat → Int) (fm : Nat → Int) (PP : Nat → Nat → Int) (sp : Nat) (K : Nat → Int) (T : Nat → Int) (A : Nat → Int) (B : Nat → Int) (l1 : Nat → Int) (l2 : Nat → Int) (l3 : Nat → Int) : XS := (rc, rs, ff, fm, PP, sp, K, T, A, B, l1, l2, l3)
def XS.s_rc (x : XS) (z : Nat) : XS := (z, x.2.1, x.2.2.1, x.2.2.2.1, x.2.2.2.2.1, x.2.2.2.2.2.1, x.2.2.2.2.2.2.1, x.2.2.2.2.2.2.2.1, x.2.2.2.2.2.2.2.2.1, x.2.2.2.2.2.2.2.2.2.1, x.2.2.2.2.2.2.2.2.2.2.1, x.2.2.2.2.2.2.2.2.2.2.2.1, x.2.2.2.2.2.2.2.2.2.2.2.2)
def XS.s_rs (x : XS) (z : Int) : XS := (x.1, z, x.2.2.1, x.2.2.2.1, x.2.2.2.2.1, x.2.2.2.2.2.1, x.2.2.2.2.2.2.1, x.2.2.2.2.2.2.2.1, x.2.2.2.2.2.2.2.2.1, x.2.2.2.2.2.2.2.2.2.1, x.2.2.2.2.2.2.2.2.2.2.1, x.2.2.2.2.2.2.2.2.2.2.2.1, x.2.2.2.2.2.2.2.2.2.2.2.2)
def XS.s_ff (x : XS) (z : Nat → Int) : XS := (x.1, x.2.1, z, x.2.2.2.1, x.2.2.2.2.1, x.2.2.2.2.2.1, x.2.2.2.2.2.2.1, x.2.2.2.2.2.2.2.1, x.2.2.2.2.2.2.2.2.1, x.2.2.2.2.2.2.2.2.2.1, x.2.2.2.2.2.2.2.2.2.2.1, x.2.2.2.2.2.2.2.2.2.2.2.1, x.2.2.2.2.2.2.2.2.2.2.2.2)
def XS.s_fm (x : XS) (z : Nat → Int) : XS := (x.1, x.2.1, x.2.2.1, z, x.2.2.2.2.1, x.2.2.2.2.2.1, x.2.2.2.2.2.2.1, x.2.2.2.2.2.2.2.1, x.2.2.2.2.2.2.2.2.1, x.2.2.2.2.2.2.2.2.2.1, x.2.2.2.2.2.2.2.2.2.2.1, x.2.2.2.2.2.2.2.2.2.2.2.1, x.2.2.2.2.2.2.2.2.2.2.2.2)
def XS.s_PP (x : XS) (z : Nat → Nat → Int) : XS := (x.1, x.2.1, x.2.2.1, x.2.2.2.1, z, x.2.2.2.2.2.1, x.2.2.2.2.2.2.1, x.2.2.2.2.2.2.2.1, x.2.2.2.2.2.2.2.2.1, x.2.2.2.2.2.2.2.2.2.1, x.2.2.2.2.2.2.2.2.2.2.1, x.2.2.2.2.2.2.2.2.2.2.2.1, x.2.2.2.2.2.2.2.2.2.2.2.2)
def XS.s_sp (x : XS) (z : Nat) : XS := (x.1, x.2.1, x.2.2.1, x.2.2.2.1, x.2.2.2.2.1, z, x.2.2.2.2.2.2.1, x.2.2.2.2.2.2.2.1, x.2.2.2.2.2.2.2.2.1, x.2.2.2.2.2.2.2.2.2.1, x.2.2.2.2.2.2.2.2.2.2.1, x.2.2.2.2.2.2.2.2.2.2.2.1, x.2.2.2.2.2.2.2.2.2.2.2.2)
def XS.s_K (x : XS) (z : Nat → Int) : XS := (x.1, x.2.1, x.2.2.1, x.2.2.2.1, x.2.2.2.2.1, x.2.2.2.2.2.1, z, x.2.2.2.2.2.2.2.1, x.2.2.2.2.2.2.2.2.1, x.2.2.2.2.2.2.2.2.2.1, x.2.2.2.2.2.2.2.2.2.2.1, x.2.2.2.2.2.2.2.2.2.2.2.1, x.2.2.2.2.2.2.2.2.2.2.2.2)
def XS.s_T (x : XS) (z : Nat → Int) : XS := (x.1, x.2.1, x.2.2.1, x.2.2.2.1, x.2.2.2.2.1, x.2.2.2.2.2.1, x.2.2.2.2.2.2.1, z, x.2.2.2.2.2.2.2.2.1, x.2.2.2.2.2.2.2.2.2.1, x.2.2.2.2.2.2.2.2.2.2.1, x.2.2.2.2.2.2.2.2.2.2.2.1, x.2.2.2.2.2.2.2.2.2.2.2.2)
def XS.s_A (x : XS) (z : Nat → Int) : XS := (x.1, x.2.1, x.2.2.1, x.2.2.2.1, x.2.2.2.2.1, x.2.2.2.2.2.1, x.2.2.2.2.2.2.1, x.2.2.2.2.2.2.2.1, z, x.2.2.2.2.2.2.2.2.2.1, x.2.2.2.2.2.2.2.2.2.2.1, x.2.2.2.2.2.2.2.2.2.2.2.1, x.2.2.2.2.2.2.2.2.2.2.2.2)
def XS.s_B (x : XS) (z : Nat → Int) : XS := (x.1, x.2.1, x.2.2.1, x.2.2.2.1, x.2.2.2.2.1, x.2.2.2.2.2.1, x.2.2.2.2.2.2.1, x.2.2.2.2.2.2.2.1, x.2.2.2.2.2.2.2.2.1, z, x.2.2.2.2.2.2.2.2.2.2.1, x.2.2.2.2.2.2.2.2.2.2.2.1, x.2.2.2.2.2.2.2.2.2.2.2.2)
def XS.s_l1 (x : XS) (z : Nat → Int) : XS := (x.1, x.2.1, x.2.2.1, x.2.2.2.1, x.2.2.2.2.1, x.2.2.2.2.2.1, x.2.2.2.2.2.2.1, x.2.2.2.2.2.2.2.1, x.2.2.2.2.2.2.2.2.1, x.2.2.2.2.2.2.2.2.2.1, z, x.2.2.2.2.2.2.2.2.2.2.2.1, x.2.2.2.2.2.2.2.2.2.2.2.2)
def XS.s_l2 (x : XS) (z : Nat → Int) : XS := (x.1, x.2.1, x.2.2.1, x.2.2.2.1, x.2.2.2.2.1, x.2.2.2.2.2.1, x.2.2.2.2.2.2.1, x.2.2.2.2.2.2.2.1, x.2.2.2.2.2.2.2.2.1, x.2.2.2.2.2.2.2.2.2.1, x.2.2.2.2.2.2.2.2.2.2.1, z, x.2.2.2.2.2.2.2.2.2.2.2.2)
def XS.s_l3 (x : XS) (z : Nat → Int) : XS := (x.1, x.2.1, x.2.2.1, x.2.2.2.1, x.2.2.2.2.1, x.2.2.2.2.2.1, x.2.2.2.2.2.2.1, x.2.2.2.2.2.2.2.1, x.2.2.2.2.2.2.2.2.1, x.2.2.2.2.2.2.2.2.2.1, x.2.2.2.2.2.2.2.2.2.2.1, x.2.2.2.2.2.2.2.2.2.2.2.1, z)
def gX (b : Nat) (i : Nat) : Option Nat := if i < 8 then some (b + (2 + 2 * i)) else none
def AtX (d : yD) (b : Nat) (x : XS) (h : yH) : Prop :=
  (h 0 = some (oO 3 [.ref (b + 1), vi x.rc, vj x.rs, .ref (b + 18), .ref (b + 23), .ref (b + 25), .ref (b + 27)])) ∧ (h 1 = some (oA d 3 8 (gX b))) ∧ (h 18 = some (oO 0 [.ref (b + 19), .ref (b + 20), vi x.sp, .ref (b + 21), .ref (b + 22)])) ∧ (h 19 = some (oI d 48 x.K)) ∧ (h 20 = some (oZ d 48 x.T)) ∧ (h 21 = some (oI d 24 x.A)) ∧ (h 22 = some (oI d 24 x.B)) ∧ (h 23 = some (oO 2 [.ref (b + 24)])) ∧ (h 24 = some (oJ d 8 x.l1)) ∧ (h 25 = some (oO 2 [.ref (b + 26)])) ∧ (h 26 = some (oJ d 8 x.l2)) ∧ (h 27 = some (oO 2 [.ref (b + 28)])) ∧ (h 28 = some (oJ d 8 x.l3)) ∧ (∀ i, i < 8 → h (2 + 2 * i) = some (oO 1 [vi (x.ff i), vi (x.fm i), .ref (b + (3 + 2 * i))])) ∧ (∀ i, i < 8 → h (3 + 2 * i) = some (oJ d 192 (x.PP i)))
theorem AtX.o {d : yD} {b : Nat} {x : XS} {h : yH} (H : AtX d b x h) : h 0 = some (oO 3 [.ref (b + 1), vi x.rc, vj x.rs, .ref (b + 18), .ref (b + 23), .ref (b + 25), .ref (b + 27)]) := H.1
theorem AtX.r {d : yD} {b : Nat} {x : XS} {h : yH} (H : AtX d b x h) : h 1 = some (oA d 3 8 (gX b)) := H.2.1
theorem AtX.s {d : yD} {b : Nat} {x : XS} {h : yH} (H : AtX d b x h) : h 18 = some (oO 0 [.ref (b + 19), .ref (b + 20), vi x.sp, .ref (b + 21), .ref (b + 22)]) := H.2.2.1
theorem AtX.k {d : yD} {b : Nat} {x : XS} {h : yH} (H : AtX d b x h) : h 19 = some (oI d 48 x.K) := H.2.2.2.1
theorem AtX.t {d : yD} {b : Nat} {x : XS} {h : yH} (H : AtX d b x h) : h 20 = some (oZ d 48 x.T) := H.2.2.2.2.1
theorem AtX.a {d : yD} {b : Nat} {x : XS} {h : yH} (H : AtX d b x h) : h 21 = some (oI d 24 x.A) := H.2.2.2.2.2.1
theorem AtX.c {d : yD} {b : Nat} {x : XS} {h : yH} (H : AtX d b x h) : h 22 = some (oI d 24 x.B) := H.2.2.2.2.2.2.1
theorem AtX.o1 {d : yD} {b : Nat} {x : XS} {h : yH} (H : AtX d b x h) : h 23 = some (oO 2 [.ref (b + 24)]) := H.2.2.2.2.2.2.2.1
theorem AtX.p1 {d : yD} {b : Nat} {x : XS} {h : yH} (H : AtX d b x h) : h 24 = some (oJ d 8 x.l1) := H.2.2.2.2.2.2.2.2.1
theorem AtX.o2 {d : yD} {b : Nat} {x : XS} {h : yH} (H : AtX d b x h) : h 25 = some (oO 2 [.ref (b + 26)]) := H.2.2.2.2.2.2.2.2.2.1
theorem AtX.p2 {d : yD} {b : Nat} {x : XS} {h : yH} (H : AtX d b x h) : h 26 = some (oJ d 8 x.l2) := H.2.2.2.2.2.2.2.2.2.2.1
theorem AtX.o3 {d : yD} {b : Nat} {x : XS} {h : yH} (H : AtX d b x h) : h 27 = some (oO 2 [.ref (b + 28)]) := H.2.2.2.2.2.2.2.2.2.2.2.1
theorem AtX.p3 {d : yD} {b : Nat} {x : XS} {h : yH} (H : AtX d b x h) : h 28 = some (oJ d 8 x.l3) := H.2.2.2.2.2.2.2.2.2.2.2.2.1
theorem AtX.w {d : yD} {b : Nat} {x : XS} {h : yH} (H : AtX d b x h) : ∀ i, i < 8 → h (2 + 2 * i) = some (oO 1 [vi (x.ff i), vi (x.fm i), .ref (b + (3 + 2 * i))]) := H.2.2.2.2.2.2.2.2.2.2.2.2.2.1
theorem AtX.p {d : yD} {b : Nat} {x : XS} {h : yH} (H : AtX d b x h) : ∀ i, i < 8 → h (3 + 2 * i) = some (oJ d 192 (x.PP i)) := H.2.2.2.2.2.2.2.2.2.2.2.2.2.2
section AtX
variable {d : yD} {b : Nat} {x : XS} {h : yH}
theorem AtX.set1 (A : AtX d b x h) (G : Nat → Int) : AtX d b (x.s_l1 G) (hs h 24 (oJ d 8 G)) :=
  ⟨(hs_ne _ _ (by omega)).trans A.o, (hs_ne _ _ (by omega)).trans A.r, (hs_ne _ _ (by omega)).trans A.s, (hs_ne _ _ (by omega)).trans A.k, (hs_ne _ _ (by omega)).trans A.t, (hs_ne _ _ (by omega)).trans A.a, (hs_ne _ _ (by omega)).trans A.c, (hs_ne _ _ (by omega)).trans A.o1, hs_eq _ _ _, (hs_ne _ _ (by omega)).trans A.o2, (hs_ne _ _ (by omega)).trans A.p2, (hs_ne _ _ (by omega)).trans A.o3, (hs_ne _ _ (by omega)).trans A.p3, fun j hj => (hs_ne _ _ (by omega)).trans (A.w j hj), fun j hj => (hs_ne _ _ (by omega)).trans (A.p j hj)⟩
theorem AtX.set2 (A : AtX d b x h) (G : Nat → Int) : AtX d b (x.s_l2 G) (hs h 26 (oJ d 8 G)) :=
  ⟨(hs_ne _ _ (by omega)).trans A.o, (hs_ne _ _ (by omega)).trans A.r, (hs_ne _ _ (by omega)).trans A.s, (hs_ne _ _ (by omega)).trans A.k, (hs_ne _ _ (by omega)).trans A.t, (hs_ne _ _ (by omega)).trans A.a, (hs_ne _ _ (by omega)).trans A.c, (hs_ne _ _ (by omega)).trans A.o1, (hs_ne _ _ (by omega)).trans A.p1, (hs_ne _ _ (by omega)).trans A.o2, hs_eq _ _ _, (hs_ne _ _ (by omega)).trans A.o3, (hs_ne _ _ (by omega)).trans A.p3, fun j hj => (hs_ne _ _ (by omega)).trans (A.w j hj), fun j hj => (hs_ne _ _ (by omega)).trans (A.p j hj)⟩
theorem AtX.set3 (A : AtX d b x h) (G : Nat → Int) : AtX d b (x.s_l3 G) (hs h 28 (oJ d 8 G)) :=
  ⟨(hs_ne _ _ (by omega)).trans A.o, (hs_ne _ _ (by omega)).trans A.r, (hs_ne _ _ (by omega)).trans A.s, (hs_ne _ _ (by omega)).trans A.k, (hs_ne _ _ (by omega)).trans A.t, (hs_ne _ _ (by omega)).trans A.a, (hs_ne _ _ (by omega)).trans A.c, (hs_ne _ _ (by omega)).trans A.o1, (hs_ne _ _ (by omega)).trans A.p1, (hs_ne _ _ (by omega)).trans A.o2, (hs_ne _ _ (by omega)).trans A.p2, (hs_ne _ _ (by omega)).trans A.o3, hs_eq _ _ _, fun j hj => (hs_ne _ _ (by omega)).trans (A.w j hj), fun j hj => (hs_ne _ _ (by omega)).trans (A.p j hj)⟩
theorem AtX.setK (A : AtX d b x h) (G : Nat → Int) : AtX d b (x.s_K G) (hs h 19 (oI d 48 G)) :=
  ⟨(hs_ne _ _ (by omega)).trans A.o, (hs_ne _ _ (by omega)).trans A.r, (hs_ne _ _ (by omega)).trans A.s, hs_eq _ _ _, (hs_ne _ _ (by omega)).trans A.t, (hs_ne _ _ (by omega)).trans A.a, (hs_ne _ _ (by omega)).trans A.c, (hs_ne _ _ (by omega)).trans A.o1, (hs_ne _ _ (by omega)).trans A.p1, (hs_ne _ _ (by omega)).trans A.o2, (hs_ne _ _ (by omega)).trans A.p2, (hs_ne _ _ (by omega)).trans A.o3, (hs_ne _ _ (by omega)).trans A.p3, fun j hj => (hs_ne _ _ (by omega)).trans (A.w j hj), fun j hj => (hs_ne _ _ (by omega)).trans (A.p j hj)⟩
theorem AtX.setT (A : AtX d b x h) (G : Nat → Int) : AtX d b (x.s_T G) (hs h 20 (oZ d 48 G)) :=
  ⟨(hs_ne _ _ (by omega)).trans A.o, (hs_ne _ _ (by omega)).trans A.r, (hs_ne _ _ (by omega)).trans A.s, (hs_ne _ _ (by omega)).trans A.k, hs_eq _ _ _, (hs_ne _ _ (by omega)).trans A.a, (hs_ne _ _ (by omega)).trans A.c, (hs_ne _ _ (by omega)).trans A.o1, (hs_ne _ _ (by omega)).trans A.p1, (hs_ne _ _ (by omega)).trans A.o2, (hs_ne _ _ (by omega)).trans A.p2, (hs_ne _ _ (by omega)).trans A.o3, (hs_ne _ _ (by omega)).trans A.p3, fun j hj => (hs_ne _ _ (by omega)).trans (A.w j hj), fun j hj => (hs_ne _ _ (by omega)).trans (A.p j hj)⟩
theorem AtX.setA (A : AtX d b x h) (G : Nat → Int) : AtX d b (x.s_A G) (hs h 21 (oI d 24 G)) :=
  ⟨(hs_ne _ _ (by omega)).trans A.o, (hs_ne _ _ (by omega)).trans A.r, (hs_ne _ _ (by omega)).trans A.s, (hs_ne _ _ (by omega)).trans A.k, (hs_ne _ _ (by omega)).trans A.t, hs_eq _ _ _, (hs_ne _ _ (by omega)).trans A.c, (hs_ne _ _ (by omega)).trans A.o1, (hs_ne _ _ (by omega)).trans A.p1, (hs_ne _ _ (by omega)).trans A.o2, (hs_ne _ _ (by omega)).trans A.p2, (hs_ne _ _ (by omega)).trans A.o3, (hs_ne _ _ (by omega)).trans A.p3, fun j hj => (hs_ne _ _ (by omega)).trans (A.w j hj), fun j hj => (hs_ne _ _ (by omega)).trans (A.p j hj)⟩
theorem AtX.setB (A : AtX d b x h) (G : Nat → Int) : AtX d b (x.s_B G) (hs h 22 (oI d 24 G)) :=
  ⟨(hs_ne _ _ (by omega)).trans A.o, (hs_ne _ _ (by omega)).trans A.r, (hs_ne _ _ (by omega)).trans A.s, (hs_ne _ _ (by omega)).trans A.k, (hs_ne _ _ (by omega)).trans A.t, (hs_ne _ _ (by omega)).trans A.a, hs_eq _ _ _, (hs_ne _ _ (by omega)).trans A.o1, (hs_ne _ _ (by omega)).trans A.p1, (hs_ne _ _ (by omega)).trans A.o2, (hs_ne _ _ (by omega)).trans A.p2, (hs_ne _ _ (by omega)).trans A.o3, (hs_ne _ _ (by omega)).trans A.p3, fun j hj => (hs_ne _ _ (by omega)).trans (A.w j hj), fun j hj => (hs_ne _ _ (by omega)).trans (A.p j hj)⟩
theorem AtX.setSp (A : AtX d b x h) (k : Nat) : AtX d b (x.s_sp k) (hs h 18 (oO 0 [.ref (b + 19), .ref (b + 20), vi k, .ref (b + 21), .ref (b + 22)])) :=
  ⟨(hs_ne _ _ (by omega)).trans A.o, (hs_ne _ _ (by omega)).trans A.r, hs_eq _ _ _, (hs_ne _ _ (by omega)).trans A.k, (hs_ne _ _ (by omega)).trans A.t, (hs_ne _ _ (by omega)).trans A.a, (hs_ne _ _ (by omega)).trans A.c, (hs_ne _ _ (by omega)).trans A.o1, (hs_ne _ _ (by omega)).trans A.p1, (hs_ne _ _ (by omega)).trans A.o2, (hs_ne _ _ (by omega)).trans A.p2, (hs_ne _ _ (by omega)).trans A.o3, (hs_ne _ _ (by omega)).trans A.p3, fun j hj => (hs_ne _ _ (by omega)).trans (A.w j hj), fun j hj => (hs_ne _ _ (by omega)).trans (A.p j hj)⟩
theorem AtX.setRc (A : AtX d b x h) (k : Nat) : AtX d b (x.s_rc k) (hs h 0 (oO 3 [.ref (b + 1), vi k, vj x.rs, .ref (b + 18), .ref (b + 23), .ref (b + 25), .ref (b + 27)])) :=
  ⟨hs_eq _ _ _, (hs_ne _ _ (by omega)).trans A.r, (hs_ne _ _ (by omega)).trans A.s, (hs_ne _ _ (by omega)).trans A.k, (hs_ne _ _ (by omega)).trans A.t, (hs_ne _ _ (by omega)).trans A.a, (hs_ne _ _ (by omega)).trans A.c, (hs_ne _ _ (by omega)).trans A.o1, (hs_ne _ _ (by omega)).trans A.p1, (hs_ne _ _ (by omega)).trans A.o2, (hs_ne _ _ (by omega)).trans A.p2, (hs_ne _ _ (by omega)).trans A.o3, (hs_ne _ _ (by omega)).trans A.p3, fun j hj => (hs_ne _ _ (by omega)).trans (A.w j hj), fun j hj => (hs_ne _ _ (by omega)).trans (A.p j hj)⟩
theorem AtX.setRs (A : AtX d b x h) (z : Int) : AtX d b (x.s_rs z) (hs h 0 (oO 3 [.ref (b + 1), vi x.rc, vj z, .ref (b + 18), .ref (b + 23), .ref (b + 25), .ref (b + 27)])) :=
  ⟨hs_eq _ _ _, (hs_ne _ _ (by omega)).trans A.r, (hs_ne _ _ (by omega)).trans A.s, (hs_ne _ _ (by omega)).trans A.k, (hs_ne _ _ (by omega)).trans A.t, (hs_ne _ _ (by omega)).trans A.a, (hs_ne _ _ (by omega)).trans A.c, (hs_ne _ _ (by omega)).trans A.o1, (hs_ne _ _ (by omega)).trans A.p1, (hs_ne _ _ (by omega)).trans A.o2, (hs_ne _ _ (by omega)).trans A.p2, (hs_ne _ _ (by omega)).trans A.o3, (hs_ne _ _ (by omega)).trans A.p3, fun j hj => (hs_ne _ _ (by omega)).trans (A.w j hj), fun j hj => (hs_ne _ _ (by omega)).trans (A.p j hj)⟩
theorem AtX.setW (A : AtX d b x h) {i : Nat} (hi : i < 8) (f m : Int) : AtX d b ((x.s_ff (fu x.ff i f)).s_fm (fu x.fm i m)) (hs h (2 + 2 * i) (oO 1 [vi f, vi m, .ref (b + (3 + 2 * i))])) :=
  have e1 : (((x.s_ff (fu x.ff i f)).s_fm (fu x.fm i m))).ff i = f := fu_eq _ _ _
  have e2 : (((x.s_ff (fu x.ff i f)).s_fm (fu x.fm i m))).fm i = m := fu_eq _ _ _
  have e3 : ∀ j, j ≠ i → (((x.s_ff (fu x.ff i f)).s_fm (fu x.fm i m))).ff j = x.ff j := fun j hj => fu_ne _ _ hj
  have e4 : ∀ j, j ≠ i → (((x.s_ff (fu x.ff i f)).s_fm (fu x.fm i m))).fm j = x.fm j := fun j hj => fu_ne _ _ hj
  ⟨(hs_ne _ _ (by omega)).trans A.o, (hs_ne _ _ (by omega)).trans A.r, (hs_ne _ _ (by omega)).trans A.s, (hs_ne _ _ (by omega)).trans A.k, (hs_ne _ _ (by omega)).trans A.t, (hs_ne _ _ (by omega)).trans A.a, (hs_ne _ _ (by omega)).trans A.c, (hs_ne _ _ (by omega)).trans A.o1, (hs_ne _ _ (by omega)).trans A.p1, (hs_ne _ _ (by omega)).trans A.o2, (hs_ne _ _ (by omega)).trans A.p2, (hs_ne _ _ (by omega)).trans A.o3, (hs_ne _ _ (by omega)).trans A.p3, fun j hj => by
    by_cases e : j = i
    · subst e; rw [hs_eq, e1, e2]
    · rw [hs_ne _ _ (by omega), e3 j e, e4 j e]; exact A.w j hj, fun j hj => (hs_ne _ _ (by omega)).trans (A.p j hj)⟩
theorem AtX.setP (A : AtX d b x h) {i : Nat} (hi : i < 8) (G : Nat → Int) : AtX d b (x.s_PP (fu x.PP i G)) (hs h (3 + 2 * i) (oJ d 192 G)) :=
  have e1 : ((x.s_PP (fu x.PP i G))).PP i = G := fu_eq _ _ _
  have e3 : ∀ j, j ≠ i → ((x.s_PP (fu x.PP i G))).PP j = x.PP j := fun j hj => fu_ne _ _ hj
  ⟨(hs_ne _ _ (by omega)).trans A.o, (hs_ne _ _ (by omega)).trans A.r, (hs_ne _ _ (by omega)).trans A.s, (hs_ne _ _ (by omega)).trans A.k, (hs_ne _ _ (by omega)).trans A.t, (hs_ne _ _ (by omega)).trans A.a, (hs_ne _ _ (by omega)).trans A.c, (hs_ne _ _ (by omega)).trans A.o1, (hs_ne _ _ (by omega)).trans A.p1, (hs_ne _ _ (by omega)).trans A.o2, (hs_ne _ _ (by omega)).trans A.p2, (hs_ne _ _ (by omega)).trans A.o3, (hs_ne _ _ (by omega)).trans A.p3, fun j hj => (hs_ne _ _ (by omega)).trans (A.w j hj), fun j hj => by
    by_cases e : j = i
    · subst e; rw [hs_eq, e1]
    · rw [hs_ne _ _ (by omega), e3 j e]; exact A.p j hj⟩
end AtX
def Vw : Type := (Nat) × (Nat → Int) × (Nat → Nat) × (Nat → Nat → Int) × (Int) × (Nat) × (Nat → Int) × (Nat → Int)
def Vw.rc (x : Vw) : Nat := x.1
def Vw.F (x : Vw) : Nat → Int := x.2.1
def Vw.M (x : Vw) : Nat → Nat := x.2.2.1
def Vw.W (x : Vw) : Nat → Nat → Int := x.2.2.2.1
def Vw.rs (x : Vw) : Int := x.2.2.2.2.1
def Vw.sn (x : Vw) : Nat := x.2.2.2.2.2.1
def Vw.sa (x : Vw) : Nat → Int := x.2.2.2.2.2.2.1
def Vw.sb (x : Vw) : Nat → Int := x.2.2.2.2.2.2.2
def Vw.mk (rc : Nat) (F : Nat → Int) (M : Nat → Nat) (W : Nat → Nat → Int) (rs : Int) (sn : Nat) (sa : Nat → Int) (sb : Nat → Int) : Vw := (rc, F, M, W, rs, sn, sa, sb)
def Vw.s_rc (x : Vw) (z : Nat) : Vw := (z, x.2.1, x.2.2.1, x.2.2.2.1, x.2.2.2.2.1, x.2.2.2.2.2.1, x.2.2.2.2.2.2.1, x.2.2.2.2.2.2.2)
def Vw.s_F (x : Vw) (z : Nat → Int) : Vw := (x.1, z, x.2.2.1, x.2.2.2.1, x.2.2.2.2.1, x.2.2.2.2.2.1, x.2.2.2.2.2.2.1, x.2.2.2.2.2.2.2)
def Vw.s_M (x : Vw) (z : Nat → Nat) : Vw := (x.1, x.2.1, z, x.2.2.2.1, x.2.2.2.2.1, x.2.2.2.2.2.1, x.2.2.2.2.2.2.1, x.2.2.2.2.2.2.2)
def Vw.s_W (x : Vw) (z : Nat → Nat → Int) : Vw := (x.1, x.2.1, x.2.2.1, z, x.2.2.2.2.1, x.2.2.2.2.2.1, x.2.2.2.2.2.2.1, x.2.2.2.2.2.2.2)
def Vw.s_rs (x : Vw) (z : Int) : Vw := (x.1, x.2.1, x.2.2.1, x.2.2.2.1, z, x.2.2.2.2.2.1, x.2.2.2.2.2.2.1, x.2.2.2.2.2.2.2)
def Vw.s_sn (x : Vw) (z : Nat) : Vw := (x.1, x.2.1, x.2.2.1, x.2.2.2.1, x.2.2.2.2.1, z, x.2.2.2.2.2.2.1, x.2.2.2.2.2.2.2)
def Vw.s_sa (x : Vw) (z : Nat → Int) : Vw := (x.1, x.2.1, x.2.2.1, x.2.2.2.1, x.2.2.2.2.1, x.2.2.2.2.2.1, z, x.2.2.2.2.2.2.2)
def Vw.s_sb (x : Vw) (z : Nat → Int) : Vw := (x.1, x.2.1, x.2.2.1, x.2.2.2.1, x.2.2.2.2.1, x.2.2.2.2.2.1, x.2.2.2.2.2.2.1, z)
def OkX (x : XS) (v : Vw) : Prop :=
  (x.rc = v.rc) ∧ (x.rs = v.rs) ∧ (x.sp = v.sn) ∧ (∀ i, i < v.rc → x.ff i = v.F i) ∧ (∀ i, i < v.rc → x.fm i = v.M i) ∧ (∀ i, i < v.rc → ∀ q, q < v.M i → wt (x.PP i) q = v.W i q) ∧ (∀ i, i < 8 → dig (x.PP i) 192) ∧ (∀ k, k < v.sn → x.A k = v.sa k) ∧ (∀ k, k < v.sn → x.B k = v.sb k)
theorem OkX.rc {x : XS} {v : Vw} (H : OkX x v) : x.rc = v.rc := H.1
theorem OkX.rs {x : XS} {v : Vw} (H : OkX x v) : x.rs = v.rs := H.2.1
theorem OkX.sp {x : XS} {v : Vw} (H : OkX x v) : x.sp = v.sn := H.2.2.1
theorem OkX.ff {x : XS} {v : Vw} (H : OkX x v) : ∀ i, i < v.rc → x.ff i = v.F i := H.2.2.2.1
theorem OkX.fm {x : XS} {v : Vw} (H : OkX x v) : ∀ i, i < v.rc → x.fm i = v.M i := H.2.2.2.2.1
theorem OkX.ww {x : XS} {v : Vw} (H : OkX x v) : ∀ i, i < v.rc → ∀ q, q < v.M i → wt (x.PP i) q = v.W i q := H.2.2.2.2.2.1
theorem OkX.dg {x : XS} {v : Vw} (H : OkX x v) : ∀ i, i < 8 → dig (x.PP i) 192 := H.2.2.2.2.2.2.1
theorem OkX.sa {x : XS} {v : Vw} (H : OkX x v) : ∀ k, k < v.sn → x.A k = v.sa k := H.2.2.2.2.2.2.2.1
theorem OkX.sb {x : XS} {v : Vw} (H : OkX x v) : ∀ k, k < v.sn → x.B k = v.sb k := H.2.2.2.2.2.2.2.2
def OkV (v : Vw) : Prop :=
  (v.rc ≤ 8) ∧ (∀ i, i < v.rc → rowOk (v.F i) (v.M i)) ∧ (∀ i, i < v.rc → ∀ q, q < v.M i → 0 ≤ v.W i q ∧ v.W i q < 1000000000 ^ 4) ∧ (v.sn ≤ 24) ∧ (0 ≤ v.rs ∧ v.rs ≤ 48000000000) ∧ (∀ k, k < v.sn → inI (v.sa k)) ∧ (∀ k, k < v.sn → inI (v.sb k))
theorem OkV.rc {v : Vw} (H : OkV v) : v.rc ≤ 8 := H.1
theorem OkV.ok {v : Vw} (H : OkV v) : ∀ i, i < v.rc → rowOk (v.F i) (v.M i) := H.2.1
theorem OkV.ww {v : Vw} (H : OkV v) : ∀ i, i < v.rc → ∀ q, q < v.M i → 0 ≤ v.W i q ∧ v.W i q < 1000000000 ^ 4 := H.2.2.1
theorem OkV.sn {v : Vw} (H : OkV v) : v.sn ≤ 24 := H.2.2.2.1
theorem OkV.rs {v : Vw} (H : OkV v) : 0 ≤ v.rs ∧ v.rs ≤ 48000000000 := H.2.2.2.2.1
theorem OkV.sa {v : Vw} (H : OkV v) : ∀ k, k < v.sn → inI (v.sa k) := H.2.2.2.2.2.1
theorem OkV.sb {v : Vw} (H : OkV v) : ∀ k, k < v.sn → inI (v.sb k) := H.2.2.2.2.2.2
def RepX (d : yD) (b : Nat) (h : yH) (v : Vw) : Prop := ∃ x, AtX d b x h ∧ OkX x v
/-- the cells of others stand as they were -/
def FrX (h h' : yH) : Prop := ∀ k, 29 ≤ k → h' k = h k
theorem FrX.rfl {h : yH} : FrX h h := fun _ _ => Eq.refl _
theorem FrX.set {h h' : yH} (H : FrX h h') {k : Nat} (hk : k < 29) (e : va_E) : FrX h (hs h' k e) := fun j hj => (hs_ne _ _ (by omega)).trans (H j hj)
abbrev PX (d : yD) (b : Nat) (h h' : yH) (v : Vw) : Prop := RepX d b h' v ∧ FrX h h'
/-- is there such a row; has it that year -/
abbrev isR (v : Vw) (r : Int) : Prop := 0 ≤ r ∧ r < v.rc
abbrev hasY (v : Vw) (r z : Int) : Prop := isR v r ∧ v.F r.toNat ≤ z ∧ z ≤ v.F r.toNat + v.M r.toNat - 1
abbrev xnI : String := "java/lang/IndexOutOfBoundsException"
abbrev xnS : String := "java/lang/IllegalStateException"
abbrev xnA : String := "java/lang/IllegalArgumentException"
abbrev xnM : String := "java/lang/ArithmeticException"
theorem OkX.row {x : XS} {v : Vw} (O : OkX x v) (V : OkV v) {i : Nat} (hi : i < v.rc) : rowOk (x.ff i) (x.fm i) := by rw [O.ff i hi, O.fm i hi]; exact V.ok i hi
/-- what leaves rows and spans as they are -/
theorem OkX.of {x x' : XS} {v : Vw} (O : OkX x v) (h1 : x'.rc = x.rc) (h2 : x'.rs = x.rs) (h3 : x'.sp = x.sp) (h4 : ∀ i, i < v.rc → x'.ff i = x.ff i) (h5 : ∀ i, i < v.rc → x'.fm i = x.fm i) (h6 : ∀ i, i < v.rc → x'.PP i = x.PP i) (h7 : ∀ i, i < 8 → dig (x'.PP i) 192) (h8 : x'.A = x.A) (h9 : x'.B = x.B) : OkX x' v :=
  ⟨h1.trans O.rc, h2.trans O.rs, h3.trans O.sp, fun i hi => (h4 i hi).trans (O.ff i hi), fun i hi => (h5 i hi).trans (O.fm i hi), fun i hi q hq => by rw [h6 i hi]; exact O.ww i hi q hq, h7, fun k hk => by rw [h8]; exact O.sa k hk, fun k hk => by rw [h9]; exact O.sb k hk⟩
theorem OkX.s1 {x : XS} {v : Vw} (O : OkX x v) (G : Nat → Int) : OkX (x.s_l1 G) v := O
theorem OkX.s2 {x : XS} {v : Vw} (O : OkX x v) (G : Nat → Int) : OkX (x.s_l2 G) v := O
theorem OkX.s3 {x : XS} {v : Vw} (O : OkX x v) (G : Nat → Int) : OkX (x.s_l3 G) v := O
end
section
/-! YearFractions: what the calls do on the way -/
section YfA
variable {p : Program} {l : Launch} {e : Env} {R : Room} {s : State} {m : MethodId} {args : Array Value} {below : List Frame} {meth : Method} {c : Code} {d : yD} {b : Nat} {Q : State → Prop} {cells slots n : Nat} {h : yH}
variable {x : XS} {v : Vw}
set_option maxHeartbeats 4000000 in
theorem c_Yf_knownRow (hl : yL l) (hv : OkV v) (A : AtX d b x h) (O : OkX x v) {r : Int} (hr : inI r) :
    yM l y_Yf_knownRow b_Yf_knownRow 2 (some (.object "YearFractions$Row")) 6 90 1 6 d b n h [.ref (b + 0), vi r] (fun q n' h' => isR v r ∧ n' = n ∧ h' = h ∧ q = some (.ref (b + (2 + 2 * r.toNat)))) (fun C n' h' => ¬ isR v r ∧ C = xnI ∧ n ≤ n' ∧ h' = h) := by
  refine yM_of hl (by decide +kernel) (Nat.le_of_ble_eq_true rfl) (fun p e s m args below meth c C => ?_)
  have hrc := hv.rc
  have e0 := O.rc
  refine V_iload_n C d_Yf_knownRow_0 rfl rfl ?_
  refine V_if_lt (tgt := 12) C d_Yf_knownRow_1 (by decide) hr (fun q1 => ?_) (fun q1 => ?_)
  · exact V_throwS (text := "no such row") C (by decide) w_Yf_knownRow_12 xi_I xa_I xg_I (by decide +kernel) d_Yf_knownRow_12 d_Yf_knownRow_15 d_Yf_knownRow_16 d_Yf_knownRow_18 d_Yf_knownRow_21 (fun x hx => absurd hx List.not_mem_nil) (by decide) (Nat.le_refl _) (Nat.le_refl _) (fun n' hn => ⟨fun q => by have := q.1; omega, rfl, hn, rfl⟩)
  · refine V_iload_n C d_Yf_knownRow_4 rfl rfl ?_
    refine V_aload_n C d_Yf_knownRow_5 rfl rfl ?_
    refine V_get C 3 1 A.o rfl in_Yf (by decide) w_Yf_knownRow_6 rfl rfl d_Yf_knownRow_6 ?_
    refine V_icmp_lt (tgt := 22) C d_Yf_knownRow_9 (by decide) hr (by unfold inI; omega) (fun q9 => ?_) (fun q9 => ?_)
    · refine V_aload_n C d_Yf_knownRow_22 rfl rfl ?_
      refine V_get C 3 0 A.o rfl in_Yf (by decide) w_Yf_knownRow_23 rfl rfl d_Yf_knownRow_23 ?_
      refine V_iload_n C d_Yf_knownRow_26 rfl rfl ?_
      refine V_aaload C A.r rfl (by omega) (by omega) (by decide) (if_pos (by omega)) d_Yf_knownRow_27 ?_
      exact V_areturn C d_Yf_knownRow_28 (by omega) (by omega) ⟨⟨by omega, by omega⟩, rfl, rfl, rfl⟩
    · exact V_throwS (text := "no such row") C (by decide) w_Yf_knownRow_12 xi_I xa_I xg_I (by decide +kernel) d_Yf_knownRow_12 d_Yf_knownRow_15 d_Yf_knownRow_16 d_Yf_knownRow_18 d_Yf_knownRow_21 (fun x hx => absurd hx List.not_mem_nil) (by decide) (Nat.le_refl _) (Nat.le_refl _) (fun n' hn => ⟨fun q => by have := q.2; omega, rfl, hn, rfl⟩)
set_option maxHeartbeats 4000000 in
theorem c_Yf_knownRowWith (hl : yL l) (hv : OkV v) (A : AtX d b x h) (O : OkX x v) {r z : Int} (hr : inI r) (hz : inI z) :
    yM l y_Yf_knownRowWith b_Yf_knownRowWith 4 (some (.object "YearFractions$Row")) 7 120 2 12 d b n h [.ref (b + 0), vi r, vi z] (fun q n' h' => hasY v r z ∧ n' = n ∧ h' = h ∧ q = some (.ref (b + (2 + 2 * r.toNat)))) (fun C n' h' => ¬ hasY v r z ∧ C = xnI ∧ n ≤ n' ∧ h' = h) := by
  refine yM_of hl (by decide +kernel) (Nat.le_of_ble_eq_true rfl) (fun p e s m args below meth c C => ?_)
  have hrc := hv.rc
  refine V_aload_n C d_Yf_knownRowWith_0 rfl rfl ?_
  refine V_iload_n C d_Yf_knownRowWith_1 rfl rfl ?_
  refine V_callV C (c_Yf_knownRow hl hv A O hr) wc_Yf_knownRow w_Yf_knownRowWith_2 np_Yf_knownRow (by decide) A.o rfl rfl (Nat.le_of_ble_eq_true rfl) d_Yf_knownRowWith_2 (fun v n1 h1 hp => ?_) (fun Cx n1 h1 hp => ?_)
  · obtain ⟨hi, rfl, rfl, rfl⟩ := hp
    have hi' : r.toNat < v.rc := by have := hi.1; have := hi.2; omega
    have e1 := O.ff _ hi'
    have e2 := O.fm _ hi'
    refine V_astore_n C d_Yf_knownRowWith_5 rfl (by decide) rfl ?_
    refine V_aload_n C d_Yf_knownRowWith_6 rfl rfl ?_
    refine V_iload_n C d_Yf_knownRowWith_7 rfl rfl ?_
    refine V_callV C (c_Row_has hl (A.w _ (by omega)) (O.row hv hi') hz) wc_Row_has w_Yf_knownRowWith_8 np_Row_has (by decide) (A.w _ (by omega)) rfl rfl (Nat.le_of_ble_eq_true rfl) d_Yf_knownRowWith_8 (fun v n1 h1 hp => ?_) (fun Cx n1 h1 hp => hp.elim)
    obtain ⟨rfl, rfl, rfl⟩ := hp
    rw [e1, e2]
    refine V_if_ne (tgt := 24) C d_Yf_knownRowWith_11 (by decide) (by unfold inI; split <;> omega) (fun q11 => ?_) (fun q11 => ?_)
    · have hyes : v.F r.toNat ≤ z ∧ z ≤ v.F r.toNat + v.M r.toNat - 1 := by
        by_cases q : v.F r.toNat ≤ z ∧ z ≤ v.F r.toNat + v.M r.toNat - 1
        · exact q
        · rw [if_neg q] at q11; exact absurd rfl q11
      refine V_aload_n C d_Yf_knownRowWith_24 rfl rfl ?_
      exact V_areturn C d_Yf_knownRowWith_25 (by omega) (by omega) ⟨⟨hi, hyes⟩, rfl, rfl, rfl⟩
    · have hno : ¬ (v.F r.toNat ≤ z ∧ z ≤ v.F r.toNat + v.M r.toNat - 1) := fun q => by rw [if_pos q] at q11; omega
      exact V_throwS (text := "the year is not in the row") C (by decide) w_Yf_knownRowWith_14 xi_I xa_I xg_I (by decide +kernel) d_Yf_knownRowWith_14 d_Yf_knownRowWith_17 d_Yf_knownRowWith_18 d_Yf_knownRowWith_20 d_Yf_knownRowWith_23 (fun x hx => absurd hx List.not_mem_nil) (by decide) (by omega) (by omega) (fun n' hn => ⟨fun q => hno q.2, rfl, hn, rfl⟩)
  · obtain ⟨h1, rfl, h3, rfl⟩ := hp
    exact VT_leave C (fun x hx => absurd hx List.not_mem_nil) (by omega) (by omega) ⟨fun q => h1 q.1, rfl, h3, rfl⟩
set_option maxHeartbeats 4000000 in
theorem c_Yf_freeRow (hl : yL l) (hv : OkV v) (A : AtX d b x h) (O : OkX x v) :
    yM l y_Yf_freeRow b_Yf_freeRow 1 (some (.object "YearFractions$Row")) 6 90 1 6 d b n h [.ref (b + 0)] (fun q n' h' => v.rc < 8 ∧ n' = n ∧ h' = h ∧ q = some (.ref (b + (2 + 2 * v.rc)))) (fun C n' h' => ¬ v.rc < 8 ∧ C = xnS ∧ n ≤ n' ∧ h' = h) := by
  refine yM_of hl (by decide +kernel) (Nat.le_of_ble_eq_true rfl) (fun p e s m args below meth c C => ?_)
  have hrc := hv.rc
  have e0 := O.rc
  refine V_aload_n C d_Yf_freeRow_0 rfl rfl ?_
  refine V_get C 3 1 A.o rfl in_Yf (by decide) w_Yf_freeRow_1 rfl rfl d_Yf_freeRow_1 ?_
  refine V_bipush (z := 8) C d_Yf_freeRow_4 rfl ?_
  refine V_icmp_lt (tgt := 19) C d_Yf_freeRow_6 (by decide) (by unfold inI; omega) (by unfold inI; omega) (fun q6 => ?_) (fun q6 => ?_)
  · refine V_aload_n C d_Yf_freeRow_19 rfl rfl ?_
    refine V_get C 3 0 A.o rfl in_Yf (by decide) w_Yf_freeRow_20 rfl rfl d_Yf_freeRow_20 ?_
    refine V_aload_n C d_Yf_freeRow_23 rfl rfl ?_
    refine V_get C 3 1 A.o rfl in_Yf (by decide) w_Yf_freeRow_24 rfl rfl d_Yf_freeRow_24 ?_
    rw [e0]
    refine V_aaload C A.r rfl (by omega) (by omega) (by decide) (if_pos (by omega)) d_Yf_freeRow_27 ?_
    exact V_areturn C d_Yf_freeRow_28 (by omega) (by omega) ⟨by omega, rfl, rfl, rfl⟩
  · exact V_throwS (text := "there are eight rows") C (by decide) w_Yf_freeRow_9 xi_S xa_S xg_S (by decide +kernel) d_Yf_freeRow_9 d_Yf_freeRow_12 d_Yf_freeRow_13 d_Yf_freeRow_15 d_Yf_freeRow_18 (fun x hx => absurd hx List.not_mem_nil) (by decide) (Nat.le_refl _) (Nat.le_refl _) (fun n' hn => ⟨by omega, rfl, hn, rfl⟩)
set_option maxHeartbeats 4000000 in
theorem c_Yf_keepFreeRow (hl : yL l) (A : AtX d b x h) :
    yM l y_Yf_keepFreeRow b_Yf_keepFreeRow 2 (some .int) 0 0 0 0 d b n h [.ref (b + 0)] (fun q n' h' => n' = n ∧ q = some (vi x.rc) ∧ AtX d b (x.s_rc (x.rc + 1)) h' ∧ FrX h h') noT := by
  refine yM_of hl (by decide +kernel) (Nat.le_of_ble_eq_true rfl) (fun p e s m args below meth c C => ?_)
  refine V_aload_n C d_Yf_keepFreeRow_0 rfl rfl ?_
  refine V_get C 3 1 A.o rfl in_Yf (by decide) w_Yf_keepFreeRow_1 rfl rfl d_Yf_keepFreeRow_1 ?_
  refine V_istore_n C d_Yf_keepFreeRow_4 rfl (by decide) rfl ?_
  refine V_aload_n C d_Yf_keepFreeRow_5 rfl rfl ?_
  refine V_dup C d_Yf_keepFreeRow_6 rfl ?_
  refine V_get C 3 1 A.o rfl in_Yf (by decide) w_Yf_keepFreeRow_7 rfl rfl d_Yf_keepFreeRow_7 ?_
  refine V_iconst C d_Yf_keepFreeRow_10 rfl ?_
  refine V_iadd C d_Yf_keepFreeRow_11 ?_
  refine V_put (ty := .int) C 3 1 A.o rfl in_Yf t_Yf tok_Yf nm_Yf (by decide) w_Yf_keepFreeRow_12 rfl rfl (by decide +kernel) rfl rfl (Nat.le_of_ble_eq_true rfl) d_Yf_keepFreeRow_12 ?_
  refine V_iload_n C d_Yf_keepFreeRow_15 rfl rfl ?_
  exact V_ireturn C d_Yf_keepFreeRow_16 (Nat.le_refl _) (Nat.le_refl _) ⟨rfl, rfl, A.setRc _, FrX.rfl.set (by omega) _⟩
set_option maxHeartbeats 4000000 in
theorem c_Yf_requireDigit (hl : yL l) {i k : Int} (hi : inI i) (hk : inI k) :
    yM l y_Yf_requireDigit b_Yf_requireDigit 2 none 6 90 1 6 d b n h [vi i, vi k] (fun q n' h' => (0 ≤ i ∧ i < k) ∧ n' = n ∧ h' = h ∧ q = none) (fun C n' h' => ¬ (0 ≤ i ∧ i < k) ∧ C = xnI ∧ n ≤ n' ∧ h' = h) := by
  refine yM_of hl (by decide +kernel) (Nat.le_of_ble_eq_true rfl) (fun p e s m args below meth c C => ?_)
  refine V_iload_n C d_Yf_requireDigit_0 rfl rfl ?_
  refine V_if_lt (tgt := 9) C d_Yf_requireDigit_1 (by decide) hi (fun q1 => ?_) (fun q1 => ?_)
  · exact V_throwS (text := "no such digit") C (by decide) w_Yf_requireDigit_9 xi_I xa_I xg_I (by decide +kernel) d_Yf_requireDigit_9 d_Yf_requireDigit_12 d_Yf_requireDigit_13 d_Yf_requireDigit_15 d_Yf_requireDigit_18 (fun x hx => absurd hx List.not_mem_nil) (by decide) (Nat.le_refl _) (Nat.le_refl _) (fun n' hn => ⟨by omega, rfl, hn, rfl⟩)
  · refine V_iload_n C d_Yf_requireDigit_4 rfl rfl ?_
    refine V_iload_n C d_Yf_requireDigit_5 rfl rfl ?_
    refine V_icmp_lt (tgt := 19) C d_Yf_requireDigit_6 (by decide) hi hk (fun q6 => ?_) (fun q6 => ?_)
    · exact V_return C d_Yf_requireDigit_19 (by omega) (by omega) ⟨by omega, rfl, rfl, rfl⟩
    · exact V_throwS (text := "no such digit") C (by decide) w_Yf_requireDigit_9 xi_I xa_I xg_I (by decide +kernel) d_Yf_requireDigit_9 d_Yf_requireDigit_12 d_Yf_requireDigit_13 d_Yf_requireDigit_15 d_Yf_requireDigit_18 (fun x hx => absurd hx List.not_mem_nil) (by decide) (Nat.le_refl _) (Nat.le_refl _) (fun n' hn => ⟨by omega, rfl, hn, rfl⟩)
set_option maxHeartbeats 4000000 in
theorem c_Yf_requireCalendar (hl : yL l) {i : Int} (hi : inI i) :
    yM l y_Yf_requireCalendar b_Yf_requireCalendar 1 none 6 90 1 6 d b n h [vi i] (fun q n' h' => (0 ≤ i ∧ i < 4) ∧ n' = n ∧ h' = h ∧ q = none) (fun C n' h' => ¬ (0 ≤ i ∧ i < 4) ∧ C = xnI ∧ n ≤ n' ∧ h' = h) := by
  refine yM_of hl (by decide +kernel) (Nat.le_of_ble_eq_true rfl) (fun p e s m args below meth c C => ?_)
  refine V_iload_n C d_Yf_requireCalendar_0 rfl rfl ?_
  refine V_if_lt (tgt := 9) C d_Yf_requireCalendar_1 (by decide) hi (fun q1 => ?_) (fun q1 => ?_)
  · exact V_throwS (text := "no such calendar") C (by decide) w_Yf_requireCalendar_9 xi_I xa_I xg_I (by decide +kernel) d_Yf_requireCalendar_9 d_Yf_requireCalendar_12 d_Yf_requireCalendar_13 d_Yf_requireCalendar_15 d_Yf_requireCalendar_18 (fun x hx => absurd hx List.not_mem_nil) (by decide) (Nat.le_refl _) (Nat.le_refl _) (fun n' hn => ⟨by omega, rfl, hn, rfl⟩)
  · refine V_iload_n C d_Yf_requireCalendar_4 rfl rfl ?_
    refine V_iconst C d_Yf_requireCalendar_5 rfl ?_
    refine V_icmp_lt (tgt := 19) C d_Yf_requireCalendar_6 (by decide) hi (by unfold inI; omega) (fun q6 => ?_) (fun q6 => ?_)
    · exact V_return C d_Yf_requireCalendar_19 (by omega) (by omega) ⟨by omega, rfl, rfl, rfl⟩
    · exact V_throwS (text := "no such calendar") C (by decide) w_Yf_requireCalendar_9 xi_I xa_I xg_I (by decide +kernel) d_Yf_requireCalendar_9 d_Yf_requireCalendar_12 d_Yf_requireCalendar_13 d_Yf_requireCalendar_15 d_Yf_requireCalendar_18 (fun x hx => absurd hx List.not_mem_nil) (by decide) (Nat.le_refl _) (Nat.le_refl _) (fun n' hn => ⟨by omega, rfl, hn, rfl⟩)
set_option maxHeartbeats 4000000 in
/-- storeWeight: the number k2/a2 goes into row i, if it is a weight -/
theorem c_Yf_storeWeight (hl : yL l) (A : AtX d b x h) {i k2 a2 : Nat} (hi : i < 8) (hr : rowOk (x.ff i) (x.fm i)) (hP : dig (x.PP i) 192) {F2 : Nat → Int} (hk2 : h k2 = some (oO 2 [.ref (b + a2)])) (ha2 : h a2 = some (oJ d 8 F2)) (hne : a2 ≠ 3 + 2 * i) (hF2 : dig F2 8) {z : Int} (hz : x.ff i ≤ z ∧ z ≤ x.ff i + x.fm i - 1) :
    yM l y_Yf_storeWeight b_Yf_storeWeight 3 none 6 90 1 6 d b n h [.ref (b + (2 + 2 * i)), vi z, .ref (b + k2)]
      (fun q n' h' => vl F2 8 < 1000000000 ^ 4 ∧ q = none ∧ n' = n ∧ ∃ G, dig G 192 ∧ wt G (z - x.ff i).toNat = vl F2 8 ∧ (∀ t, t ≠ (z - x.ff i).toNat → wt G t = wt (x.PP i) t) ∧ h' = hs h (3 + 2 * i) (oJ d 192 G))
      (fun C n' h' => ¬ vl F2 8 < 1000000000 ^ 4 ∧ C = xnM ∧ n ≤ n' ∧ h' = h) := by
  refine yM_of hl (by decide +kernel) (Nat.le_of_ble_eq_true rfl) (fun p e s m args below meth c C => ?_)
  obtain ⟨r1, r2, r3, r4⟩ := id hr
  refine V_aload_n C d_Yf_storeWeight_0 rfl rfl ?_
  refine V_callV C (c_Who_isWeight hl hk2 ha2 hF2) wc_Who_isWeight w_Yf_storeWeight_1 np_Who_isWeight (by decide) hk2 rfl rfl (Nat.le_of_ble_eq_true rfl) d_Yf_storeWeight_1 (fun v n1 h1 hp => ?_) (fun Cx n1 h1 hp => hp.elim)
  obtain ⟨rfl, rfl, rfl⟩ := hp
  refine V_if_ne (tgt := 17) C d_Yf_storeWeight_4 (by decide) (by unfold inI; split <;> omega) (fun q4 => ?_) (fun q4 => ?_)
  · have hyes : vl F2 8 < 1000000000 ^ 4 := by
      by_cases q : vl F2 8 < 1000000000 ^ 4
      · exact q
      · rw [if_neg q] at q4; exact absurd rfl q4
    refine V_aload_n C d_Yf_storeWeight_17 rfl rfl ?_
    refine V_iload_n C d_Yf_storeWeight_18 rfl rfl ?_
    refine V_aload_n C d_Yf_storeWeight_19 rfl rfl ?_
    refine V_callV C (c_Row_write hl (A.w i hi) (A.p i hi) hk2 ha2 hne hr hz hP hF2) wc_Row_write w_Yf_storeWeight_20 np_Row_write (by decide) (A.w i hi) rfl rfl (Nat.le_of_ble_eq_true rfl) d_Yf_storeWeight_20 (fun v n1 h1 hp => ?_) (fun Cx n1 h1 hp => hp.elim)
    obtain ⟨rfl, rfl, G, g1, g2, g3, rfl⟩ := hp
    exact V_return C d_Yf_storeWeight_23 (by omega) (by omega) ⟨hyes, rfl, rfl, G, g1, by rw [g2, vl_high hF2 (vl_low hF2 hyes)], g3, rfl⟩
  · have hno : ¬ vl F2 8 < 1000000000 ^ 4 := fun q => by rw [if_pos q] at q4; omega
    exact V_throwS (text := "a weight would be too great") C (by decide) w_Yf_storeWeight_7 xi_M xa_M xg_M (by decide +kernel) d_Yf_storeWeight_7 d_Yf_storeWeight_10 d_Yf_storeWeight_11 d_Yf_storeWeight_13 d_Yf_storeWeight_16 (fun x hx => absurd hx List.not_mem_nil) (by decide) (Nat.le_refl _) (Nat.le_refl _) (fun n' hn => ⟨hno, rfl, hn, rfl⟩)
end YfA
end
section
/-- how many weights are not 0 -/
def nzW (W : Nat → Int) : Nat → Nat
  | 0 => 0
  | k + 1 => if W k = 0 then nzW W k else nzW W k + 1
theorem nzW_le (W : Nat → Int) : ∀ k, nzW W k ≤ k
  | 0 => Nat.le_refl _
  | k + 1 => by
    have := nzW_le W k
    show (if W k = 0 then nzW W k else nzW W k + 1) ≤ k + 1
    split <;> omega
theorem sumS_all {W : Nat → Int} {S : Nat → Bool} : ∀ {k}, (∀ x, x < k → S x = true) → sumS W S k = sumW W k
  | 0, _ => rfl
  | k + 1, h => by
    show sumS W S k + (if S k = true then W k else 0) = sumW W k + W k
    rw [if_pos (h k (by omega)), sumS_all (fun x hx => h x (by omega))]
theorem sumW_congr {W W' : Nat → Int} : ∀ {k}, (∀ x, x < k → W x = W' x) → sumW W k = sumW W' k
  | 0, _ => rfl
  | k + 1, h => by
    show sumW W k + W k = sumW W' k + W' k
    rw [h k (by omega), sumW_congr (fun x hx => h x (by omega))]
section YfB
variable {p : Program} {l : Launch} {e : Env} {R : Room} {s : State} {m : MethodId} {args : Array Value} {below : List Frame} {meth : Method} {c : Code} {d : yD} {b : Nat} {Q : State → Prop} {cells slots n : Nat} {h : yH}
variable {x : XS} {v : Vw}
set_option maxHeartbeats 4000000 in
theorem Yf_gather_loop (C : yC p l s m args meth c y_Yf_gather b_Yf_gather 4 none [] d b) (hl : yL l) {i mm : Nat} (hi : i < 8) (hm : x.fm i = mm) (hr : rowOk (x.ff i) (x.fm i)) (hP : dig (x.PP i) 192) (hR : 3 ≤ R.frames ∧ 90 ≤ R.locals ∧ cells ≤ R.cells ∧ slots ≤ R.slots)
    (kk : ∀ (G1 G2 : Nat → Int) (h' : yH) (lv : List (Nat × Value)), dig G1 8 → vl G1 8 = sumW (wt (x.PP i)) mm → AtX d b ((x.s_l1 G1).s_l2 G2) h' → FrX h h' → V p l e R s m args below meth c 4 d b Q cells slots n h' 35 lv []) :
    ∀ (j t : Nat) (G1 G2 : Nat → Int) (h' : yH), t + j = mm → dig G1 8 → vl G1 8 = sumW (wt (x.PP i)) t → AtX d b ((x.s_l1 G1).s_l2 G2) h' → FrX h h' → V p l e R s m args below meth c 4 d b Q cells slots n h' 10 [(0, .ref (b + (2 + 2 * i))), (1, .ref (b + 23)), (2, .ref (b + 25)), (3, vi (x.ff i + t))] [] := by
  obtain ⟨r1, r2, r3, r4⟩ := id hr
  obtain ⟨R1, R2, R3, R4⟩ := hR
  intro j
  induction j with
  | zero =>
    intro t G1 G2 h' hj d1 v1 B F
    have hw : h' (2 + 2 * i) = some (oO 1 [vi (x.ff i), vi (x.fm i), .ref (b + (3 + 2 * i))]) := B.w i hi
    refine V_iload_n C d_Yf_gather_10 rfl rfl ?_
    refine V_aload_n C d_Yf_gather_11 rfl rfl ?_
    refine V_callV C (c_Row_last hl hw) wc_Row_last w_Yf_gather_12 np_Row_last ⟨by omega, by omega, R3, R4⟩ hw rfl rfl (Nat.le_of_ble_eq_true rfl) d_Yf_gather_12 (fun v n1 h1 hp => ?_) (fun Cx n1 h1 hp => hp.elim)
    obtain ⟨rfl, rfl, rfl⟩ := hp
    refine V_icmp_gt (tgt := 35) C d_Yf_gather_15 (by decide) (by unfold inI; omega) (by unfold inI; omega) (fun q15 => ?_) (fun q15 => ?_)
    · have e0 : t = mm := by omega
      subst e0
      exact kk G1 G2 _ _ d1 v1 B F
    · exact absurd q15 (by omega)
  | succ j ih =>
    intro t G1 G2 h' hj d1 v1 B F
    have hw : h' (2 + 2 * i) = some (oO 1 [vi (x.ff i), vi (x.fm i), .ref (b + (3 + 2 * i))]) := B.w i hi
    have hpp : h' (3 + 2 * i) = some (oJ d 192 (x.PP i)) := B.p i hi
    refine V_iload_n C d_Yf_gather_10 rfl rfl ?_
    refine V_aload_n C d_Yf_gather_11 rfl rfl ?_
    refine V_callV C (c_Row_last hl hw) wc_Row_last w_Yf_gather_12 np_Row_last ⟨by omega, by omega, R3, R4⟩ hw rfl rfl (Nat.le_of_ble_eq_true rfl) d_Yf_gather_12 (fun v n1 h1 hp => ?_) (fun Cx n1 h1 hp => hp.elim)
    obtain ⟨rfl, rfl, rfl⟩ := hp
    refine V_icmp_gt (tgt := 35) C d_Yf_gather_15 (by decide) (by unfold inI; omega) (by unfold inI; omega) (fun q15 => ?_) (fun q15 => ?_)
    · exact absurd q15 (by omega)
    · refine V_aload_n C d_Yf_gather_18 rfl rfl ?_
      refine V_iload_n C d_Yf_gather_19 rfl rfl ?_
      refine V_aload_n C d_Yf_gather_20 rfl rfl ?_
      refine V_callV C (c_Row_read hl hw hpp B.o2 B.p2 (by omega) hr (by unfold inI; omega) hP) wc_Row_read w_Yf_gather_21 np_Row_read ⟨by omega, by omega, R3, R4⟩ hw rfl rfl (Nat.le_of_ble_eq_true rfl) d_Yf_gather_21 (fun v n1 h1 hp => ?_) (fun Cx n1 h1 hp => hp.elim)
      obtain ⟨rfl, rfl, G, g1, g2, g3, rfl⟩ := hp
      rw [if_pos (by omega), show (x.ff i + (t : Int) - x.ff i).toNat = t by omega] at g3
      have B2 := B.set2 G
      have p1 : hs h1 26 (oJ d 8 G) 24 = some (oJ d 8 G1) := B2.p1
      have p2 : hs h1 26 (oJ d 8 G) 26 = some (oJ d 8 G) := B2.p2
      have w1 := wt_in hP (show t < 48 by omega)
      have s1 := sumW_in (W := wt (x.PP i)) (B := 1000000000 ^ 4) (k := t) (fun q hq => wt_in hP (by omega))
      have hsm : vl G1 8 + vl G 8 < 1000000000 ^ 8 := by rw [v1, g3]; omega
      refine V_aload_n C d_Yf_gather_24 rfl rfl ?_
      refine V_aload_n C d_Yf_gather_25 rfl rfl ?_
      refine V_callV C (c_Who_increase hl B2.o1 p1 B2.o2 p2 (by omega) d1 g1 hsm) wc_Who_increase w_Yf_gather_26 np_Who_increase ⟨by omega, by omega, R3, R4⟩ B2.o1 rfl rfl (Nat.le_of_ble_eq_true rfl) d_Yf_gather_26 (fun v n1 h1 hp => ?_) (fun Cx n1 h1 hp => hp.elim)
      obtain ⟨rfl, rfl, G3, g4, g5, rfl⟩ := hp
      refine V_iinc C d_Yf_gather_29 rfl rfl (by decide) rfl ?_
      refine V_goto (tgt := 10) C d_Yf_gather_32 (by decide) ?_
      refine V_loc2 (ih (t + 1) G3 G _ (by omega) g4 (by rw [g5, v1, g3]; rfl) (B2.set1 G3) ((F.set (by omega) _).set (by omega) _)) ⟨rfl, rfl, rfl, ?_, trivial⟩
      show some (vi (x.ff i + (t : Int) + 1)) = some (vi (x.ff i + ((t + 1 : Nat) : Int)))
      rw [show x.ff i + (t : Int) + 1 = x.ff i + ((t + 1 : Nat) : Int) by omega]
set_option maxHeartbeats 4000000 in
/-- gather: all weights of row i together, in left -/
theorem c_Yf_gather (hl : yL l) (A : AtX d b x h) {i mm : Nat} (hi : i < 8) (hm : x.fm i = mm) (hr : rowOk (x.ff i) (x.fm i)) (hP : dig (x.PP i) 192) :
    yM l y_Yf_gather b_Yf_gather 4 none 3 90 0 0 d b n h [.ref (b + (2 + 2 * i)), .ref (b + 23), .ref (b + 25)] (fun q n' h' => q = none ∧ n' = n ∧ FrX h h' ∧ ∃ G1 G2, dig G1 8 ∧ vl G1 8 = sumW (wt (x.PP i)) mm ∧ AtX d b ((x.s_l1 G1).s_l2 G2) h') noT := by
  refine yM_of hl (by decide +kernel) (Nat.le_of_ble_eq_true rfl) (fun p e s m args below meth c C => ?_)
  refine V_aload_n C d_Yf_gather_0 rfl rfl ?_
  refine V_lconst (z := 0) C d_Yf_gather_1 rfl ?_
  refine V_callV C (c_Who_become (v := 0) hl A.o1 A.p1 (by omega) (by omega)) wc_Who_become w_Yf_gather_2 np_Who_become (by decide) A.o1 rfl rfl (Nat.le_of_ble_eq_true rfl) d_Yf_gather_2 (fun v n1 h1 hp => ?_) (fun Cx n1 h1 hp => hp.elim)
  obtain ⟨rfl, rfl, G, g1, g2, rfl⟩ := hp
  have B := A.set1 G
  have hw : hs h 24 (oJ d 8 G) (2 + 2 * i) = some (oO 1 [vi (x.ff i), vi (x.fm i), .ref (b + (3 + 2 * i))]) := B.w i hi
  refine V_aload_n C d_Yf_gather_5 rfl rfl ?_
  refine V_getN C 1 0 hw rfl in_Row (by decide) w_Yf_gather_6 rfl rfl d_Yf_gather_6 ?_
  refine V_istore_n C d_Yf_gather_9 rfl (by decide) rfl ?_
  refine V_loc2 (Yf_gather_loop (x := x) C hl hi hm hr hP (by decide) (fun G1 G2 h' lv k1 k2 k3 k4 => ?_) mm 0 G x.l2 _ (by omega) g1 g2 B (FrX.rfl.set (by omega) _)) ⟨rfl, rfl, rfl, ?_, trivial⟩
  · exact V_return C d_Yf_gather_35 (Nat.le_refl _) (Nat.le_refl _) ⟨rfl, rfl, k4, G1, G2, k1, k2, k3⟩
  · show some (vi (x.ff i)) = some (vi (x.ff i + ((0 : Nat) : Int)))
    rw [show x.ff i + ((0 : Nat) : Int) = x.ff i by omega]
set_option maxHeartbeats 4000000 in
theorem Yf_count_loop (C : yC p l s m args meth c y_Yf_countWeighted b_Yf_countWeighted 4 (some .int) [] d b) (hl : yL l) {i mm : Nat} (hi : i < 8) (hm : x.fm i = mm) (hr : rowOk (x.ff i) (x.fm i)) (hP : dig (x.PP i) 192) (hR : 3 ≤ R.frames ∧ 90 ≤ R.locals ∧ cells ≤ R.cells ∧ slots ≤ R.slots)
    (kk : ∀ (G1 : Nat → Int) (h' : yH), AtX d b (x.s_l1 G1) h' → FrX h h' → V p l e R s m args below meth c 4 d b Q cells slots n h' 43 [(2, vi (nzW (wt (x.PP i)) mm : Nat))] []) :
    ∀ (j t : Nat) (G1 : Nat → Int) (h' : yH), t + j = mm → AtX d b (x.s_l1 G1) h' → FrX h h' → V p l e R s m args below meth c 4 d b Q cells slots n h' 7 [(0, .ref (b + 0)), (1, .ref (b + (2 + 2 * i))), (2, vi (nzW (wt (x.PP i)) t : Nat)), (3, vi (x.ff i + t))] [] := by
  obtain ⟨r1, r2, r3, r4⟩ := id hr
  obtain ⟨R1, R2, R3, R4⟩ := hR
  intro j
  induction j with
  | zero =>
    intro t G1 h' hj B F
    have hw : h' (2 + 2 * i) = some (oO 1 [vi (x.ff i), vi (x.fm i), .ref (b + (3 + 2 * i))]) := B.w i hi
    refine V_iload_n C d_Yf_countWeighted_7 rfl rfl ?_
    refine V_aload_n C d_Yf_countWeighted_8 rfl rfl ?_
    refine V_callV C (c_Row_last hl hw) wc_Row_last w_Yf_countWeighted_9 np_Row_last ⟨by omega, by omega, R3, R4⟩ hw rfl rfl (Nat.le_of_ble_eq_true rfl) d_Yf_countWeighted_9 (fun v n1 h1 hp => ?_) (fun Cx n1 h1 hp => hp.elim)
    obtain ⟨rfl, rfl, rfl⟩ := hp
    refine V_icmp_gt (tgt := 43) C d_Yf_countWeighted_12 (by decide) (by unfold inI; omega) (by unfold inI; omega) (fun q15 => ?_) (fun q15 => ?_)
    · have e0 : t = mm := by omega
      subst e0
      exact V_loc2 (kk G1 _ B F) ⟨rfl, trivial⟩
    · exact absurd q15 (by omega)
  | succ j ih =>
    intro t G1 h' hj B F
    have hw : h' (2 + 2 * i) = some (oO 1 [vi (x.ff i), vi (x.fm i), .ref (b + (3 + 2 * i))]) := B.w i hi
    have hpp : h' (3 + 2 * i) = some (oJ d 192 (x.PP i)) := B.p i hi
    refine V_iload_n C d_Yf_countWeighted_7 rfl rfl ?_
    refine V_aload_n C d_Yf_countWeighted_8 rfl rfl ?_
    refine V_callV C (c_Row_last hl hw) wc_Row_last w_Yf_countWeighted_9 np_Row_last ⟨by omega, by omega, R3, R4⟩ hw rfl rfl (Nat.le_of_ble_eq_true rfl) d_Yf_countWeighted_9 (fun v n1 h1 hp => ?_) (fun Cx n1 h1 hp => hp.elim)
    obtain ⟨rfl, rfl, rfl⟩ := hp
    refine V_icmp_gt (tgt := 43) C d_Yf_countWeighted_12 (by decide) (by unfold inI; omega) (by unfold inI; omega) (fun q15 => ?_) (fun q15 => ?_)
    · exact absurd q15 (by omega)
    · refine V_aload_n C d_Yf_countWeighted_15 rfl rfl ?_
      refine V_iload_n C d_Yf_countWeighted_16 rfl rfl ?_
      refine V_aload_n C d_Yf_countWeighted_17 rfl rfl ?_
      refine V_get C 3 4 B.o rfl in_Yf (by decide) w_Yf_countWeighted_18 rfl rfl d_Yf_countWeighted_18 ?_
      refine V_callV C (c_Row_read hl hw hpp B.o1 B.p1 (by omega) hr (by unfold inI; omega) hP) wc_Row_read w_Yf_countWeighted_21 np_Row_read ⟨by omega, by omega, R3, R4⟩ hw rfl rfl (Nat.le_of_ble_eq_true rfl) d_Yf_countWeighted_21 (fun v n1 h1 hp => ?_) (fun Cx n1 h1 hp => hp.elim)
      obtain ⟨rfl, rfl, G, g1, g2, g3, rfl⟩ := hp
      rw [if_pos (by omega), show (x.ff i + (t : Int) - x.ff i).toNat = t by omega] at g3
      have B2 := B.set1 G
      have p1 : hs h1 24 (oJ d 8 G) 24 = some (oJ d 8 G) := B2.p1
      have nz := nzW_le (wt (x.PP i)) t
      have en : nzW (wt (x.PP i)) (t + 1) = if wt (x.PP i) t = 0 then nzW (wt (x.PP i)) t else nzW (wt (x.PP i)) t + 1 := rfl
      refine V_aload_n C d_Yf_countWeighted_24 rfl rfl ?_
      refine V_get C 3 4 B2.o rfl in_Yf (by decide) w_Yf_countWeighted_25 rfl rfl d_Yf_countWeighted_25 ?_
      refine V_callV C (c_Who_isZero hl B2.o1 p1 g1) wc_Who_isZero w_Yf_countWeighted_28 np_Who_isZero ⟨by omega, by omega, R3, R4⟩ B2.o1 rfl rfl (Nat.le_of_ble_eq_true rfl) d_Yf_countWeighted_28 (fun v n1 h1 hp => ?_) (fun Cx n1 h1 hp => hp.elim)
      obtain ⟨rfl, rfl, rfl⟩ := hp
      rw [g3]
      refine V_if_ne (tgt := 37) C d_Yf_countWeighted_31 (by decide) (by unfold inI; split <;> omega) (fun q31 => ?_) (fun q31 => ?_)
      · have hz : wt (x.PP i) t = 0 := by
          by_cases q : wt (x.PP i) t = 0
          · exact q
          · rw [if_neg q] at q31; exact absurd rfl q31
        rw [if_pos hz] at en
        refine V_iinc C d_Yf_countWeighted_37 rfl rfl (by decide) rfl ?_
        refine V_goto (tgt := 7) C d_Yf_countWeighted_40 (by decide) ?_
        refine V_loc2 (ih (t + 1) G _ (by omega) B2 (F.set (by omega) _)) ⟨rfl, rfl, by rw [en]; rfl, ?_, trivial⟩
        show some (vi (x.ff i + (t : Int) + 1)) = some (vi (x.ff i + ((t + 1 : Nat) : Int)))
        rw [show x.ff i + (t : Int) + 1 = x.ff i + ((t + 1 : Nat) : Int) by omega]
      · have hz : ¬ wt (x.PP i) t = 0 := fun q => by rw [if_pos q] at q31; omega
        rw [if_neg hz] at en
        refine V_iinc C d_Yf_countWeighted_34 rfl rfl (by decide) rfl ?_
        refine V_iinc C d_Yf_countWeighted_37 rfl rfl (by decide) rfl ?_
        refine V_goto (tgt := 7) C d_Yf_countWeighted_40 (by decide) ?_
        refine V_loc2 (ih (t + 1) G _ (by omega) B2 (F.set (by omega) _)) ⟨rfl, rfl, by rw [en]; rfl, ?_, trivial⟩
        show some (vi (x.ff i + (t : Int) + 1)) = some (vi (x.ff i + ((t + 1 : Nat) : Int)))
        rw [show x.ff i + (t : Int) + 1 = x.ff i + ((t + 1 : Nat) : Int) by omega]
set_option maxHeartbeats 4000000 in
theorem c_Yf_countWeighted (hl : yL l) (A : AtX d b x h) {i mm : Nat} (hi : i < 8) (hm : x.fm i = mm) (hr : rowOk (x.ff i) (x.fm i)) (hP : dig (x.PP i) 192) :
    yM l y_Yf_countWeighted b_Yf_countWeighted 4 (some .int) 3 90 0 0 d b n h [.ref (b + 0), .ref (b + (2 + 2 * i))] (fun q n' h' => q = some (vi (nzW (wt (x.PP i)) mm : Nat)) ∧ n' = n ∧ FrX h h' ∧ ∃ G1, AtX d b (x.s_l1 G1) h') noT := by
  refine yM_of hl (by decide +kernel) (Nat.le_of_ble_eq_true rfl) (fun p e s m args below meth c C => ?_)
  refine V_iconst C d_Yf_countWeighted_0 rfl ?_
  refine V_istore_n C d_Yf_countWeighted_1 rfl (by decide) rfl ?_
  refine V_aload_n C d_Yf_countWeighted_2 rfl rfl ?_
  refine V_getN C 1 0 (A.w i hi) rfl in_Row (by decide) w_Yf_countWeighted_3 rfl rfl d_Yf_countWeighted_3 ?_
  refine V_istore_n C d_Yf_countWeighted_6 rfl (by decide) rfl ?_
  refine V_loc2 (Yf_count_loop (x := x) C hl hi hm hr hP (by decide) (fun G1 h' k3 k4 => ?_) mm 0 x.l1 _ (by omega) A FrX.rfl) ⟨rfl, rfl, rfl, ?_, trivial⟩
  · refine V_iload_n C d_Yf_countWeighted_43 rfl rfl ?_
    exact V_ireturn C d_Yf_countWeighted_44 (Nat.le_refl _) (Nat.le_refl _) ⟨rfl, rfl, k4, G1, k3⟩
  · show some (vi (x.ff i)) = some (vi (x.ff i + ((0 : Nat) : Int)))
    rw [show x.ff i + ((0 : Nat) : Int) = x.ff i by omega]
end YfB
end
section
theorem sel_next {W : Nat → Int} {c : Nat → Nat} {m r : Nat} (h : rkOk W c m) (hr : r < m) : selS W m (r + 1) (c r) = true ∧ (∀ z, z ≠ c r → selS W m (r + 1) z = selS W m r z) ∧ selS W m r (c r) = false := by
  obtain ⟨h1, h2⟩ := sel_rk h r (by omega)
  have h3 := h2 hr
  refine ⟨?_, fun z hz => ?_, ?_⟩
  · show (selS W m r (c r) || (pkL W (selS W m r) m == some (c r))) = true
    rw [h3]; simp
  · show (selS W m r z || (pkL W (selS W m r) m == some z)) = _
    rw [h3]
    have : (some (c r) == some z) = false := by
      rw [beq_eq_false_iff_ne]
      intro q
      exact hz (Option.some.inj q).symm
    rw [this, Bool.or_false]
  · cases hq : selS W m r (c r) with
    | false => rfl
    | true =>
      obtain ⟨i, hi, e⟩ := (h1 (c r)).mp hq
      have := rk_inj h (by omega) hr e
      omega
section YfC
variable {p : Program} {l : Launch} {e : Env} {R : Room} {s : State} {m : MethodId} {args : Array Value} {below : List Frame} {meth : Method} {c : Code} {d : yD} {b : Nat} {Q : State → Prop} {cells slots n : Nat} {h : yH}
variable {x : XS} {v : Vw}
set_option maxHeartbeats 4000000 in
theorem Yf_take_loop (C : yC p l s m args meth c y_Yf_takeUntilEnough b_Yf_takeUntilEnough 4 none [] d b) (hl : yL l) {i mm : Nat} (hi : i < 8) (hm : x.fm i = mm) (hr : rowOk (x.ff i) (x.fm i)) (hP : dig (x.PP i) 192) (hR : 3 ≤ R.frames ∧ 90 ≤ R.locals ∧ cells ≤ R.cells ∧ slots ≤ R.slots)
    {u w : Int} (hu : u ≤ w) (hw1 : 1 ≤ w) (hw2 : w ≤ 1000000) (d3 : dig x.l3 8) (v3 : vl x.l3 8 = sumW (wt (x.PP i)) mm * u) {K : Nat → Int} {cc : Nat → Nat} (hK : ∀ q, q < mm → K q = cc q) (hc : rkOk (wt (x.PP i)) cc mm)
    (kk : ∀ (r : Nat) (T G1 G2 : Nat → Int) (h' : yH) (lv : List (Nat × Value)), lsOk (wt (x.PP i)) mm u w r → (∀ z, z < mm → T z = if selS (wt (x.PP i)) mm r z = true then 1 else 0) → AtX d b ((((x.s_K K).s_T T).s_l1 G1).s_l2 G2) h' → FrX h h' → V p l e R s m args below meth c 4 d b Q cells slots n h' 95 lv []) :
    ∀ (j r : Nat) (T G1 G2 : Nat → Int) (h' : yH), r + j = mm → dig G1 8 → dig G2 8 → vl G2 8 = sumS (wt (x.PP i)) (selS (wt (x.PP i)) mm r) mm → vl G1 8 = vl G2 8 * w → (∀ z, z < mm → T z = if selS (wt (x.PP i)) mm r z = true then 1 else 0) → (∀ q, q < r → ¬ sumW (wt (x.PP i)) mm * u ≤ sumS (wt (x.PP i)) (selS (wt (x.PP i)) mm q) mm * w) → AtX d b ((((x.s_K K).s_T T).s_l1 G1).s_l2 G2) h' → FrX h h' →
      V p l e R s m args below meth c 4 d b Q cells slots n h' 26 [(0, .ref (b + 0)), (1, .ref (b + (2 + 2 * i))), (2, vi w), (3, vi r)] [] := by
  obtain ⟨r1, r2, r3, r4⟩ := id hr
  obtain ⟨R1, R2, R3, R4⟩ := hR
  intro j
  induction j with
  | zero =>
    intro r T G1 G2 h' hj d1 d2 v2 v1 hT hq B F
    have hw : h' (2 + 2 * i) = some (oO 1 [vi (x.ff i), vi (x.fm i), .ref (b + (3 + 2 * i))]) := B.w i hi
    refine V_iload_n C d_Yf_takeUntilEnough_26 rfl rfl ?_
    refine V_aload_n C d_Yf_takeUntilEnough_27 rfl rfl ?_
    refine V_getN C 1 1 hw rfl in_Row (by decide) w_Yf_takeUntilEnough_28 rfl rfl d_Yf_takeUntilEnough_28 ?_
    refine V_icmp_ge (tgt := 95) C d_Yf_takeUntilEnough_31 (by decide) (by unfold inI; omega) (by unfold inI; omega) (fun q31 => ?_) (fun q31 => ?_)
    · have e0 : r = mm := by omega
      subst e0
      refine kk r T G1 G2 _ _ ⟨Nat.le_refl _, ?_, hq⟩ hT B F
      rw [sumS_all (fun z hz => ((sel_rk hc r (Nat.le_refl _)).1 z).mpr (hc.2.2 z hz))]
      exact Int.mul_le_mul_of_nonneg_left hu (sumW_in (W := wt (x.PP i)) (B := 1000000000 ^ 4) (k := r) (fun q hq => wt_in hP (by omega))).1
    · exact absurd q31 (by omega)
  | succ j ih =>
    intro r T G1 G2 h' hj d1 d2 v2 v1 hT hq B F
    have hw : h' (2 + 2 * i) = some (oO 1 [vi (x.ff i), vi (x.fm i), .ref (b + (3 + 2 * i))]) := B.w i hi
    have p1 : h' 24 = some (oJ d 8 G1) := B.p1
    have p3 : h' 28 = some (oJ d 8 x.l3) := B.p3
    refine V_iload_n C d_Yf_takeUntilEnough_26 rfl rfl ?_
    refine V_aload_n C d_Yf_takeUntilEnough_27 rfl rfl ?_
    refine V_getN C 1 1 hw rfl in_Row (by decide) w_Yf_takeUntilEnough_28 rfl rfl d_Yf_takeUntilEnough_28 ?_
    refine V_icmp_ge (tgt := 95) C d_Yf_takeUntilEnough_31 (by decide) (by unfold inI; omega) (by unfold inI; omega) (fun q31 => ?_) (fun q31 => ?_)
    · exact absurd q31 (by omega)
    · refine V_aload_n C d_Yf_takeUntilEnough_34 rfl rfl ?_
      refine V_get C 3 4 B.o rfl in_Yf (by decide) w_Yf_takeUntilEnough_35 rfl rfl d_Yf_takeUntilEnough_35 ?_
      refine V_aload_n C d_Yf_takeUntilEnough_38 rfl rfl ?_
      refine V_get C 3 6 B.o rfl in_Yf (by decide) w_Yf_takeUntilEnough_39 rfl rfl d_Yf_takeUntilEnough_39 ?_
      refine V_callV C (c_Who_order hl B.o1 p1 B.o3 p3 d1 d3) wc_Who_order w_Yf_takeUntilEnough_42 np_Who_order ⟨by omega, by omega, R3, R4⟩ B.o1 rfl rfl (Nat.le_of_ble_eq_true rfl) d_Yf_takeUntilEnough_42 (fun v n1 h1 hp => ?_) (fun Cx n1 h1 hp => hp.elim)
      obtain ⟨rfl, rfl, rfl⟩ := hp
      refine V_if_ge (tgt := 95) C d_Yf_takeUntilEnough_45 (by decide) (cz_in _ _) (fun q45 => ?_) (fun q45 => ?_)
      · have := cz_ge.mp q45
        exact kk r T G1 G2 _ _ ⟨by omega, by rw [← v3, ← v2, ← v1]; exact this, hq⟩ hT B F
      · have hno : ¬ sumW (wt (x.PP i)) mm * u ≤ sumS (wt (x.PP i)) (selS (wt (x.PP i)) mm r) mm * w := fun q => q45 (cz_ge.mpr (by rw [v3, v1, v2]; exact q))
        have hcr := hc.1 r (by omega)
        obtain ⟨N1, N2, N3⟩ := sel_next hc (show r < mm by omega)
        have k0 : h1 19 = some (oI d 48 K) := B.k
        have t0 : h1 20 = some (oZ d 48 T) := B.t
        refine V_aload_n C d_Yf_takeUntilEnough_48 rfl rfl ?_
        refine V_aload_n C d_Yf_takeUntilEnough_49 rfl rfl ?_
        refine V_get C 3 3 B.o rfl in_Yf (by decide) w_Yf_takeUntilEnough_50 rfl rfl d_Yf_takeUntilEnough_50 ?_
        refine V_aload_n C d_Yf_takeUntilEnough_53 rfl rfl ?_
        refine V_iload_n C d_Yf_takeUntilEnough_54 rfl rfl ?_
        refine V_callV C (c_Set_take (x := cc r) hl B.s k0 t0 hw (by omega) (hK r (by omega)) (by omega)) wc_Set_take w_Yf_takeUntilEnough_55 np_Set_take ⟨by omega, by omega, R3, R4⟩ B.s rfl rfl (Nat.le_of_ble_eq_true rfl) d_Yf_takeUntilEnough_55 (fun v n1 h1 hp => ?_) (fun Cx n1 h1 hp => hp.elim)
        obtain ⟨rfl, rfl, rfl⟩ := hp
        have B2 := B.setT (fu T (cc r) 1)
        have hw2' : hs h1 20 (oZ d 48 (fu T (cc r) 1)) (2 + 2 * i) = some (oO 1 [vi (x.ff i), vi (x.fm i), .ref (b + (3 + 2 * i))]) := B2.w i hi
        have hp2' : hs h1 20 (oZ d 48 (fu T (cc r) 1)) (3 + 2 * i) = some (oJ d 192 (x.PP i)) := B2.p i hi
        refine V_aload_n C d_Yf_takeUntilEnough_58 rfl rfl ?_
        refine V_get C 3 4 B2.o rfl in_Yf (by decide) w_Yf_takeUntilEnough_59 rfl rfl d_Yf_takeUntilEnough_59 ?_
        refine V_callV C (c_Row_read (z := x.ff i + (cc r : Nat)) hl hw2' hp2' B2.o1 B2.p1 (by omega) hr (by unfold inI; omega) hP) wc_Row_read w_Yf_takeUntilEnough_62 np_Row_read ⟨by omega, by omega, R3, R4⟩ hw2' rfl rfl (Nat.le_of_ble_eq_true rfl) d_Yf_takeUntilEnough_62 (fun v n1 h1 hp => ?_) (fun Cx n1 h1 hp => hp.elim)
        obtain ⟨rfl, rfl, G, g1, g2, g3, rfl⟩ := hp
        rw [if_pos (by omega), show (x.ff i + ((cc r : Nat) : Int) - x.ff i).toNat = cc r by omega] at g3
        have B3 := B2.set1 G
        have p31 : hs (hs h1 20 (oZ d 48 (fu T (cc r) 1))) 24 (oJ d 8 G) 24 = some (oJ d 8 G) := B3.p1
        have p32 : hs (hs h1 20 (oZ d 48 (fu T (cc r) 1))) 24 (oJ d 8 G) 26 = some (oJ d 8 G2) := B3.p2
        have w1 := wt_in hP (show cc r < 48 by omega)
        have s1 := sumS_in (W := wt (x.PP i)) (S := selS (wt (x.PP i)) mm r) (B := 1000000000 ^ 4) (k := mm) (fun q hq => wt_in hP (by omega))
        have s2 := sumS_in (W := wt (x.PP i)) (S := selS (wt (x.PP i)) mm (r + 1)) (B := 1000000000 ^ 4) (k := mm) (fun q hq => wt_in hP (by omega))
        have ea := sumS_add (W := wt (x.PP i)) N3 N1 N2 mm
        rw [if_pos hcr] at ea
        refine V_aload_n C d_Yf_takeUntilEnough_65 rfl rfl ?_
        refine V_get C 3 5 B3.o rfl in_Yf (by decide) w_Yf_takeUntilEnough_66 rfl rfl d_Yf_takeUntilEnough_66 ?_
        refine V_aload_n C d_Yf_takeUntilEnough_69 rfl rfl ?_
        refine V_get C 3 4 B3.o rfl in_Yf (by decide) w_Yf_takeUntilEnough_70 rfl rfl d_Yf_takeUntilEnough_70 ?_
        refine V_callV C (c_Who_increase hl B3.o2 p32 B3.o1 p31 (by omega) d2 g1 (by rw [v2, g3]; omega)) wc_Who_increase w_Yf_takeUntilEnough_73 np_Who_increase ⟨by omega, by omega, R3, R4⟩ B3.o2 rfl rfl (Nat.le_of_ble_eq_true rfl) d_Yf_takeUntilEnough_73 (fun v n1 h1 hp => ?_) (fun Cx n1 h1 hp => hp.elim)
        obtain ⟨rfl, rfl, G4, g4, g5, rfl⟩ := hp
        rw [v2, g3, ← ea] at g5
        have B4 := B3.set2 G4
        have p42 : hs (hs (hs h1 20 (oZ d 48 (fu T (cc r) 1))) 24 (oJ d 8 G)) 26 (oJ d 8 G4) 26 = some (oJ d 8 G4) := B4.p2
        have hsm : vl G4 8 * w < 1000000000 ^ 8 := by
          rw [g5]
          have := Int.mul_le_mul (show sumS (wt (x.PP i)) (selS (wt (x.PP i)) mm (r + 1)) mm ≤ 48 * 1000000000 ^ 4 by omega) hw2 (by omega) (by omega)
          omega
        refine V_aload_n C d_Yf_takeUntilEnough_76 rfl rfl ?_
        refine V_get C 3 4 B4.o rfl in_Yf (by decide) w_Yf_takeUntilEnough_77 rfl rfl d_Yf_takeUntilEnough_77 ?_
        refine V_aload_n C d_Yf_takeUntilEnough_80 rfl rfl ?_
        refine V_get C 3 5 B4.o rfl in_Yf (by decide) w_Yf_takeUntilEnough_81 rfl rfl d_Yf_takeUntilEnough_81 ?_
        refine V_iload_n C d_Yf_takeUntilEnough_84 rfl rfl ?_
        refine V_i2l C d_Yf_takeUntilEnough_85 (by unfold inI; omega) ?_
        refine V_callV C (c_Who_becomeScaled hl B4.o1 B4.p1 B4.o2 p42 (by omega) g4 (by omega) (by omega) hsm) wc_Who_becomeScaled w_Yf_takeUntilEnough_86 np_Who_becomeScaled ⟨by omega, by omega, R3, R4⟩ B4.o1 rfl rfl (Nat.le_of_ble_eq_true rfl) d_Yf_takeUntilEnough_86 (fun v n1 h1 hp => ?_) (fun Cx n1 h1 hp => hp.elim)
        obtain ⟨rfl, rfl, G5, g6, g7, rfl⟩ := hp
        have B5 := B4.set1 G5
        refine V_iinc C d_Yf_takeUntilEnough_89 rfl rfl (by decide) rfl ?_
        refine V_goto (tgt := 26) C d_Yf_takeUntilEnough_92 (by decide) ?_
        refine V_loc2 (ih (r + 1) (fu T (cc r) 1) G5 G4 _ (by omega) g6 g4 g5 g7 (fun z hz => ?_) (fun q hq1 => ?_) B5 ((((F.set (by omega) _).set (by omega) _).set (by omega) _).set (by omega) _)) ⟨rfl, rfl, rfl, rfl, trivial⟩
        · by_cases e1 : z = cc r
          · rw [e1, fu_eq, N1, if_pos rfl]
          · rw [fu_ne _ _ e1, N2 z e1]; exact hT z hz
        · by_cases e1 : q = r
          · rw [e1]; exact hno
          · exact hq q (by omega)
set_option maxHeartbeats 4000000 in
theorem c_Yf_takeUntilEnough (hl : yL l) (A : AtX d b x h) {i mm : Nat} (hi : i < 8) (hm : x.fm i = mm) (hr : rowOk (x.ff i) (x.fm i)) (hP : dig (x.PP i) 192) {u w : Int} (hu : u ≤ w) (hw1 : 1 ≤ w) (hw2 : w ≤ 1000000) (d3 : dig x.l3 8) (v3 : vl x.l3 8 = sumW (wt (x.PP i)) mm * u) :
    yM l y_Yf_takeUntilEnough b_Yf_takeUntilEnough 4 none 3 90 0 0 d b n h [.ref (b + 0), .ref (b + (2 + 2 * i)), vi w] (fun q n' h' => q = none ∧ n' = n ∧ FrX h h' ∧ ∃ (r : Nat) (K T G1 G2 : Nat → Int), lsOk (wt (x.PP i)) mm u w r ∧ (∀ z, z < mm → T z = if selS (wt (x.PP i)) mm r z = true then 1 else 0) ∧ AtX d b ((((x.s_K K).s_T T).s_l1 G1).s_l2 G2) h') noT := by
  refine yM_of hl (by decide +kernel) (Nat.le_of_ble_eq_true rfl) (fun p e s m args below meth c C => ?_)
  obtain ⟨r1, r2, r3, r4⟩ := id hr
  have hw : h (2 + 2 * i) = some (oO 1 [vi (x.ff i), vi mm, .ref (b + (3 + 2 * i))]) := by rw [← hm]; exact A.w i hi
  refine V_aload_n C d_Yf_takeUntilEnough_0 rfl rfl ?_
  refine V_get C 3 3 A.o rfl in_Yf (by decide) w_Yf_takeUntilEnough_1 rfl rfl d_Yf_takeUntilEnough_1 ?_
  refine V_aload_n C d_Yf_takeUntilEnough_4 rfl rfl ?_
  refine V_callV C (c_Set_rank hl A.s A.k A.t (by omega) hw (A.p i hi) hP (by omega)) wc_Set_rank w_Yf_takeUntilEnough_5 np_Set_rank (by decide) A.s rfl rfl (Nat.le_of_ble_eq_true rfl) d_Yf_takeUntilEnough_5 (fun v n1 h1 hp => ?_) (fun Cx n1 h1 hp => hp.elim)
  obtain ⟨rfl, rfl, K, T, cc, k1, k2, k3, rfl⟩ := hp
  have B := (A.setK K).setT T
  refine V_aload_n C d_Yf_takeUntilEnough_8 rfl rfl ?_
  refine V_get C 3 5 B.o rfl in_Yf (by decide) w_Yf_takeUntilEnough_9 rfl rfl d_Yf_takeUntilEnough_9 ?_
  refine V_lconst (z := 0) C d_Yf_takeUntilEnough_12 rfl ?_
  refine V_callV C (c_Who_become (v := 0) hl B.o2 B.p2 (by omega) (by omega)) wc_Who_become w_Yf_takeUntilEnough_13 np_Who_become (by decide) B.o2 rfl rfl (Nat.le_of_ble_eq_true rfl) d_Yf_takeUntilEnough_13 (fun v n1 h1 hp => ?_) (fun Cx n1 h1 hp => hp.elim)
  obtain ⟨rfl, rfl, G2, g1, g2, rfl⟩ := hp
  have B2 := B.set2 G2
  refine V_aload_n C d_Yf_takeUntilEnough_16 rfl rfl ?_
  refine V_get C 3 4 B2.o rfl in_Yf (by decide) w_Yf_takeUntilEnough_17 rfl rfl d_Yf_takeUntilEnough_17 ?_
  refine V_lconst (z := 0) C d_Yf_takeUntilEnough_20 rfl ?_
  refine V_callV C (c_Who_become (v := 0) hl B2.o1 B2.p1 (by omega) (by omega)) wc_Who_become w_Yf_takeUntilEnough_21 np_Who_become (by decide) B2.o1 rfl rfl (Nat.le_of_ble_eq_true rfl) d_Yf_takeUntilEnough_21 (fun v n1 h1 hp => ?_) (fun Cx n1 h1 hp => hp.elim)
  obtain ⟨rfl, rfl, G1, g3, g4, rfl⟩ := hp
  have B3 := B2.set1 G1
  have z0 : sumS (wt (x.PP i)) (selS (wt (x.PP i)) mm 0) mm = 0 := by
    have : ∀ k, sumS (wt (x.PP i)) (selS (wt (x.PP i)) mm 0) k = 0 := fun k => by
      induction k with
      | zero => rfl
      | succ k ih =>
        show sumS _ _ k + (if selS (wt (x.PP i)) mm 0 k = true then _ else 0) = 0
        rw [ih, if_neg (by show ¬ false = true; decide)]
        rfl
    exact this mm
  refine V_iconst C d_Yf_takeUntilEnough_24 rfl ?_
  refine V_istore_n C d_Yf_takeUntilEnough_25 rfl (by decide) rfl ?_
  refine V_loc2 (Yf_take_loop (x := x) (u := u) C hl hi hm hr hP (by decide) hu hw1 hw2 d3 v3 k1 k2 (fun r T G1 G2 h' lv c1 c2 c3 c4 => ?_) mm 0 T G1 G2 _ (by omega) g3 g1 (by rw [g2, z0]) (by rw [g4, g2, Int.zero_mul]) (fun z hz => by rw [k3 z hz, if_neg (by show ¬ false = true; decide)]) (fun q hq => absurd hq (by omega)) B3 ((((FrX.rfl.set (by omega) _).set (by omega) _).set (by omega) _).set (by omega) _)) ⟨rfl, rfl, rfl, rfl, trivial⟩
  exact V_return C d_Yf_takeUntilEnough_95 (Nat.le_refl _) (Nat.le_refl _) ⟨rfl, rfl, c4, r, K, T, G1, G2, c1, c2, c3⟩
end YfC
end
section
theorem d_Jmin_0 : decode b_Jmin 0 = .ok (.iload_n 0, 1) := by decide +kernel
theorem d_Jmin_1 : decode b_Jmin 1 = .ok (.iload_n 1, 1) := by decide +kernel
theorem d_Jmin_2 : decode b_Jmin 2 = .ok (.if_icmp .gt 7, 3) := by decide +kernel
theorem d_Jmin_5 : decode b_Jmin 5 = .ok (.iload_n 0, 1) := by decide +kernel
theorem d_Jmin_6 : decode b_Jmin 6 = .ok (.goto 4, 3) := by decide +kernel
theorem d_Jmin_9 : decode b_Jmin 9 = .ok (.iload_n 1, 1) := by decide +kernel
theorem d_Jmin_10 : decode b_Jmin 10 = .ok (.ireturn, 1) := by decide +kernel
theorem d_Jmax_0 : decode b_Jmax 0 = .ok (.iload_n 0, 1) := by decide +kernel
theorem d_Jmax_1 : decode b_Jmax 1 = .ok (.iload_n 1, 1) := by decide +kernel
theorem d_Jmax_2 : decode b_Jmax 2 = .ok (.if_icmp .lt 7, 3) := by decide +kernel
theorem d_Jmax_5 : decode b_Jmax 5 = .ok (.iload_n 0, 1) := by decide +kernel
theorem d_Jmax_6 : decode b_Jmax 6 = .ok (.goto 4, 3) := by decide +kernel
theorem d_Jmax_9 : decode b_Jmax 9 = .ok (.iload_n 1, 1) := by decide +kernel
theorem d_Jmax_10 : decode b_Jmax 10 = .ok (.ireturn, 1) := by decide +kernel
theorem d_JfloorMod_0 : decode b_JfloorMod 0 = .ok (.iload_n 0, 1) := by decide +kernel
theorem d_JfloorMod_1 : decode b_JfloorMod 1 = .ok (.iload_n 1, 1) := by decide +kernel
theorem d_JfloorMod_2 : decode b_JfloorMod 2 = .ok (.irem, 1) := by decide +kernel
theorem d_JfloorMod_3 : decode b_JfloorMod 3 = .ok (.istore_n 2, 1) := by decide +kernel
theorem d_JfloorMod_4 : decode b_JfloorMod 4 = .ok (.iload_n 0, 1) := by decide +kernel
theorem d_JfloorMod_5 : decode b_JfloorMod 5 = .ok (.iload_n 1, 1) := by decide +kernel
theorem d_JfloorMod_6 : decode b_JfloorMod 6 = .ok (.ixor, 1) := by decide +kernel
theorem d_JfloorMod_7 : decode b_JfloorMod 7 = .ok (.ifCond .ge 11, 3) := by decide +kernel
theorem d_JfloorMod_10 : decode b_JfloorMod 10 = .ok (.iload_n 2, 1) := by decide +kernel
theorem d_JfloorMod_11 : decode b_JfloorMod 11 = .ok (.ifCond .eq 7, 3) := by decide +kernel
theorem d_JfloorMod_14 : decode b_JfloorMod 14 = .ok (.iload_n 2, 1) := by decide +kernel
theorem d_JfloorMod_15 : decode b_JfloorMod 15 = .ok (.iload_n 1, 1) := by decide +kernel
theorem d_JfloorMod_16 : decode b_JfloorMod 16 = .ok (.iadd, 1) := by decide +kernel
theorem d_JfloorMod_17 : decode b_JfloorMod 17 = .ok (.ireturn, 1) := by decide +kernel
theorem d_JfloorMod_18 : decode b_JfloorMod 18 = .ok (.iload_n 2, 1) := by decide +kernel
theorem d_JfloorMod_19 : decode b_JfloorMod 19 = .ok (.ireturn, 1) := by decide +kernel
theorem d_JfloorDiv_0 : decode b_JfloorDiv 0 = .ok (.iload_n 0, 1) := by decide +kernel
theorem d_JfloorDiv_1 : decode b_JfloorDiv 1 = .ok (.iload_n 1, 1) := by decide +kernel
theorem d_JfloorDiv_2 : decode b_JfloorDiv 2 = .ok (.idiv, 1) := by decide +kernel
theorem d_JfloorDiv_3 : decode b_JfloorDiv 3 = .ok (.istore_n 2, 1) := by decide +kernel
theorem d_JfloorDiv_4 : decode b_JfloorDiv 4 = .ok (.iload_n 0, 1) := by decide +kernel
theorem d_JfloorDiv_5 : decode b_JfloorDiv 5 = .ok (.iload_n 1, 1) := by decide +kernel
theorem d_JfloorDiv_6 : decode b_JfloorDiv 6 = .ok (.ixor, 1) := by decide +kernel
theorem d_JfloorDiv_7 : decode b_JfloorDiv 7 = .ok (.ifCond .ge 14, 3) := by decide +kernel
theorem d_JfloorDiv_10 : decode b_JfloorDiv 10 = .ok (.iload_n 2, 1) := by decide +kernel
theorem d_JfloorDiv_11 : decode b_JfloorDiv 11 = .ok (.iload_n 1, 1) := by decide +kernel
theorem d_JfloorDiv_12 : decode b_JfloorDiv 12 = .ok (.imul, 1) := by decide +kernel
theorem d_JfloorDiv_13 : decode b_JfloorDiv 13 = .ok (.iload_n 0, 1) := by decide +kernel
theorem d_JfloorDiv_14 : decode b_JfloorDiv 14 = .ok (.if_icmp .eq 7, 3) := by decide +kernel
theorem d_JfloorDiv_17 : decode b_JfloorDiv 17 = .ok (.iload_n 2, 1) := by decide +kernel
theorem d_JfloorDiv_18 : decode b_JfloorDiv 18 = .ok (.iconst 1, 1) := by decide +kernel
theorem d_JfloorDiv_19 : decode b_JfloorDiv 19 = .ok (.isub, 1) := by decide +kernel
theorem d_JfloorDiv_20 : decode b_JfloorDiv 20 = .ok (.ireturn, 1) := by decide +kernel
theorem d_JfloorDiv_21 : decode b_JfloorDiv 21 = .ok (.iload_n 2, 1) := by decide +kernel
theorem d_JfloorDiv_22 : decode b_JfloorDiv 22 = .ok (.ireturn, 1) := by decide +kernel
theorem d_JfloorDivL_0 : decode b_JfloorDivL 0 = .ok (.lload_n 0, 1) := by decide +kernel
theorem d_JfloorDivL_1 : decode b_JfloorDivL 1 = .ok (.lload_n 2, 1) := by decide +kernel
theorem d_JfloorDivL_2 : decode b_JfloorDivL 2 = .ok (.ldiv, 1) := by decide +kernel
theorem d_JfloorDivL_3 : decode b_JfloorDivL 3 = .ok (.lstore 4, 2) := by decide +kernel
theorem d_JfloorDivL_5 : decode b_JfloorDivL 5 = .ok (.lload_n 0, 1) := by decide +kernel
theorem d_JfloorDivL_6 : decode b_JfloorDivL 6 = .ok (.lload_n 2, 1) := by decide +kernel
theorem d_JfloorDivL_7 : decode b_JfloorDivL 7 = .ok (.lxor, 1) := by decide +kernel
theorem d_JfloorDivL_8 : decode b_JfloorDivL 8 = .ok (.lconst 0, 1) := by decide +kernel
theorem d_JfloorDivL_9 : decode b_JfloorDivL 9 = .ok (.lcmp, 1) := by decide +kernel
theorem d_JfloorDivL_10 : decode b_JfloorDivL 10 = .ok (.ifCond .ge 17, 3) := by decide +kernel
theorem d_JfloorDivL_13 : decode b_JfloorDivL 13 = .ok (.lload 4, 2) := by decide +kernel
theorem d_JfloorDivL_15 : decode b_JfloorDivL 15 = .ok (.lload_n 2, 1) := by decide +kernel
theorem d_JfloorDivL_16 : decode b_JfloorDivL 16 = .ok (.lmul, 1) := by decide +kernel
theorem d_JfloorDivL_17 : decode b_JfloorDivL 17 = .ok (.lload_n 0, 1) := by decide +kernel
theorem d_JfloorDivL_18 : decode b_JfloorDivL 18 = .ok (.lcmp, 1) := by decide +kernel
theorem d_JfloorDivL_19 : decode b_JfloorDivL 19 = .ok (.ifCond .eq 8, 3) := by decide +kernel
theorem d_JfloorDivL_22 : decode b_JfloorDivL 22 = .ok (.lload 4, 2) := by decide +kernel
theorem d_JfloorDivL_24 : decode b_JfloorDivL 24 = .ok (.lconst 1, 1) := by decide +kernel
theorem d_JfloorDivL_25 : decode b_JfloorDivL 25 = .ok (.lsub, 1) := by decide +kernel
theorem d_JfloorDivL_26 : decode b_JfloorDivL 26 = .ok (.lreturn, 1) := by decide +kernel
theorem d_JfloorDivL_27 : decode b_JfloorDivL 27 = .ok (.lload 4, 2) := by decide +kernel
theorem d_JfloorDivL_29 : decode b_JfloorDivL 29 = .ok (.lreturn, 1) := by decide +kernel
/-! java/lang/Math: min, max, floorMod, floorDiv; switches; the sign of an exclusive or -/
theorem ixor_lt {x z : Int} (hx : inI x) (hz : inI z) (h0 : 0 < z) : (iI x ^^^ iI z).toInt < 0 ↔ x < 0 := by
  have e1 : (iI x ^^^ iI z).toInt = ((iI x).toBitVec ^^^ (iI z).toBitVec).toInt := rfl
  have e2 : (iI x).toBitVec.toInt = x := iI_int hx
  have e3 : (iI z).toBitVec.toInt = z := iI_int hz
  have m1 := BitVec.msb_eq_toInt (x := (iI x).toBitVec ^^^ (iI z).toBitVec)
  have m2 := BitVec.msb_eq_toInt (x := (iI x).toBitVec)
  have m3 := BitVec.msb_eq_toInt (x := (iI z).toBitVec)
  rw [BitVec.msb_xor, m2, m3, e2, e3, decide_eq_false (show ¬ z < 0 by omega), Bool.xor_false] at m1
  rw [e1]
  constructor
  · intro q
    rw [decide_eq_true q] at m1
    exact of_decide_eq_true m1
  · intro q
    rw [decide_eq_true q] at m1
    exact of_decide_eq_true m1.symm
theorem lxor_lt {x z : Int} (hx : inJ x) (hz : inJ z) (h0 : 0 < z) : (jI x ^^^ jI z).toInt < 0 ↔ x < 0 := by
  have e1 : (jI x ^^^ jI z).toInt = ((jI x).toBitVec ^^^ (jI z).toBitVec).toInt := rfl
  have e2 : (jI x).toBitVec.toInt = x := jI_int hx
  have e3 : (jI z).toBitVec.toInt = z := jI_int hz
  have m1 := BitVec.msb_eq_toInt (x := (jI x).toBitVec ^^^ (jI z).toBitVec)
  have m2 := BitVec.msb_eq_toInt (x := (jI x).toBitVec)
  have m3 := BitVec.msb_eq_toInt (x := (jI z).toBitVec)
  rw [BitVec.msb_xor, m2, m3, e2, e3, decide_eq_false (show ¬ z < 0 by omega), Bool.xor_false] at m1
  rw [e1]
  constructor
  · intro q
    rw [decide_eq_true q] at m1
    exact of_decide_eq_true m1
  · intro q
    rw [decide_eq_true q] at m1
    exact of_decide_eq_true m1.symm
/-- a contract of a method that no entry runs, of a class that has such -/
theorem yM_ofF {l : Launch} (hl : yL l) {y : MethodName} {cc : ByteArray} {maxL fr lo mc ms : Nat} {ret : Option FieldType} {d : yD} {b n : Nat} {h : yH} {As : List Value} {post : Option Value → Nat → yH → Prop} {thr : String → Nat → yH → Prop}
    (hy : plainFor y = true) (hA : (lg_sl As).length ≤ maxL)
    (body : ∀ (p : Program) (e : Env) (s : State) (m : MethodId) (args : Array Value) (below : List Frame) (meth : Method) (c : Code), yC p l s m args meth c y cc maxL ret [] d b → V p l e (yRm fr lo mc ms) s m args below meth c maxL d b (yEnd below s args d b post thr mc ms) 0 0 n h 0 (lv_args 0 As) []) :
    yM l y cc maxL ret fr lo mc ms d b n h As post thr := by
  unfold yM MX
  refine MetFree.of_bodySF (code := cc) (maxLocals := maxL) (ret := ret) hy ?_ ?_
  · intro args s m hh hn
    obtain ⟨meth, c, h1, h2, h3, h4, h5, h6, -, -⟩ := Cond.code_spec hn (atoms_spec (ws := .code y cc maxL ret :: yW) hh _ List.mem_cons_self)
    exact ⟨meth, c, h1, h2, h3, h4, h5, h6⟩
  · intro p e s m args below meth c s₁ B hml hP _
    have hh0 : s₁.heap = s.heap := by rw [B.state]; rfl
    obtain ⟨rfl, q1, q2, q4, q5⟩ := hP
    have hts := atoms_spec (ws := .code y cc maxL ret :: yW) B.pre
    have hex : c.exceptionTable.toList = [] := by
      have h9 := B.noHandlers (hts _ List.mem_cons_self)
      have h8 : c.exceptionTable.size = 0 := by simpa [Array.isEmpty] using h9
      exact List.eq_nil_of_length_eq_zero (by simpa using h8)
    have C : yC p l s m As.toArray meth c y cc maxL ret [] d b := ⟨B.exec, B.bytes, hml, B.returns, findClass_of_methodNamed B.named, fun w hw => hts w (List.mem_cons_of_mem _ hw), B.notSynchronized, q4, q5, by omega, (name_of_methodNamed B.named B.method).1, hex, hl⟩
    have K := body p e s m As.toArray below meth c C s.heap [] _ q1 q2 va_S.rf (lv_entry As hA)
    rw [← lg_entry_eq] at K
    obtain ⟨t, g1, o, g2, g3, g4⟩ := K s₁ hh0 (Stand.of_body B)
    exact ⟨t, o, g1, g2, g3, g4.1, g4.2⟩
section JX
variable {p : Program} {l : Launch} {e : Env} {R : Room} {s : State} {m : MethodId} {args : Array Value} {below : List Frame} {meth : Method} {c : Code} {d : yD} {b : Nat} {Q : State → Prop} {cells slots n : Nat} {h : yH}
variable {nL pc : Nat} {lv : List (Nat × Value)} {st : List Value} {y : MethodName} {cc : ByteArray} {ret : Option FieldType} {tb : List ClassFile.ExceptionTableEntry}
theorem V_ixor (C : yC p l s m args meth c y cc nL ret tb d b) {x z : Int} (hdg : decode cc pc = .ok (.ixor, 1)) (kk : V p l e R s m args below meth c nL d b Q cells slots n h (pc + 1) lv (vi ((iI x ^^^ iI z).toInt) :: st)) : V p l e R s m args below meth c nL d b Q cells slots n h pc lv (vi z :: vi x :: st) := by
  intro H locs ls a1 a2 a4 a5
  have := kk H locs ls a1 a2 a4 a5
  unfold vi at this
  rw [iI_eta] at this
  exact lv_ixor C.1 C.2.1 hdg this
theorem V_lxor (C : yC p l s m args meth c y cc nL ret tb d b) {x z : Int} (hdg : decode cc pc = .ok (.lxor, 1)) (kk : V p l e R s m args below meth c nL d b Q cells slots n h (pc + 1) lv (vj ((jI x ^^^ jI z).toInt) :: st)) : V p l e R s m args below meth c nL d b Q cells slots n h pc lv (vj z :: vj x :: st) := by
  intro H locs ls a1 a2 a4 a5
  have := kk H locs ls a1 a2 a4 a5
  unfold vj at this
  rw [jI_eta] at this
  exact lv_lxor C.1 C.2.1 hdg this
theorem V_tsw (C : yC p l s m args meth c y cc nL ret tb d b) {dflt lo hi : Int} {offs : Array Int} {len : Nat} {x : Int} (hx : inI x) (hdg : decode cc pc = .ok (.tableswitch dflt lo hi offs, len))
    (kin : lo ≤ x → x ≤ hi → ∃ (off : Int) (tgt : Nat), offs[(x - lo).toNat]? = some off ∧ (pc : Int) + off = (tgt : Int) ∧ V p l e R s m args below meth c nL d b Q cells slots n h tgt lv st)
    (kout : x < lo ∨ hi < x → ∃ tgt : Nat, (pc : Int) + dflt = (tgt : Int) ∧ V p l e R s m args below meth c nL d b Q cells slots n h tgt lv st) : V p l e R s m args below meth c nL d b Q cells slots n h pc lv (vi x :: st) := by
  intro H locs ls a1 a2 a4 a5
  have e1 := iI_int hx
  by_cases q : x < lo ∨ hi < x
  · obtain ⟨tgt, h1, h2⟩ := kout q
    exact lv_tableOut C.1 C.2.1 hdg (by rw [e1]; exact q) h1 (h2 H locs ls a1 a2 a4 a5)
  · obtain ⟨off, tgt, h1, h2, h3⟩ := kin (by omega) (by omega)
    exact lv_tableIn C.1 C.2.1 hdg (by rw [e1]; omega) (by rw [e1]; omega) (by rw [e1]; exact h1) h2 (h3 H locs ls a1 a2 a4 a5)
theorem V_lsw (C : yC p l s m args meth c y cc nL ret tb d b) {dflt : Int} {ps : Array (Int × Int)} {len : Nat} {x : Int} (hx : inI x) (hdg : decode cc pc = .ok (.lookupswitch dflt ps, len)) (hp : (ps.toList.zip (ps.toList.drop 1)).all (fun (a, next) => a.1 < next.1) = true)
    {off : Int} {tgt : Nat} (ho : Op.lookupswitch.offset ps.toList dflt x = off) (ht : (pc : Int) + off = (tgt : Int)) (kk : V p l e R s m args below meth c nL d b Q cells slots n h tgt lv st) : V p l e R s m args below meth c nL d b Q cells slots n h pc lv (vi x :: st) :=
  fun H locs ls a1 a2 a4 a5 => lv_lookup C.1 C.2.1 hdg hp (by rw [iI_int hx]; exact ho) ht (kk H locs ls a1 a2 a4 a5)
set_option maxHeartbeats 4000000 in
theorem c_Jmin (hl : yL l) {x z : Int} (hx : inI x) (hz : inI z) : yM l y_Jmin b_Jmin 2 (some .int) 0 0 0 0 d b n h [vi x, vi z] (fun q n' h' => n' = n ∧ h' = h ∧ q = some (vi (min x z))) noT := by
  refine yM_ofF hl (by decide +kernel) (Nat.le_of_ble_eq_true rfl) (fun p e s m args below meth c C => ?_)
  refine V_iload_n C d_Jmin_0 rfl rfl ?_
  refine V_iload_n C d_Jmin_1 rfl rfl ?_
  refine V_icmp_gt (tgt := 9) C d_Jmin_2 (by decide) hx hz (fun q2 => ?_) (fun q2 => ?_)
  · refine V_iload_n C d_Jmin_9 rfl rfl ?_
    exact V_ireturn C d_Jmin_10 (Nat.le_refl _) (Nat.le_refl _) ⟨rfl, rfl, by rw [show min x z = z by omega]⟩
  · refine V_iload_n C d_Jmin_5 rfl rfl ?_
    refine V_goto (tgt := 10) C d_Jmin_6 (by decide) ?_
    exact V_ireturn C d_Jmin_10 (Nat.le_refl _) (Nat.le_refl _) ⟨rfl, rfl, by rw [show min x z = x by omega]⟩
set_option maxHeartbeats 4000000 in
theorem c_Jmax (hl : yL l) {x z : Int} (hx : inI x) (hz : inI z) : yM l y_Jmax b_Jmax 2 (some .int) 0 0 0 0 d b n h [vi x, vi z] (fun q n' h' => n' = n ∧ h' = h ∧ q = some (vi (max x z))) noT := by
  refine yM_ofF hl (by decide +kernel) (Nat.le_of_ble_eq_true rfl) (fun p e s m args below meth c C => ?_)
  refine V_iload_n C d_Jmax_0 rfl rfl ?_
  refine V_iload_n C d_Jmax_1 rfl rfl ?_
  refine V_icmp_lt (tgt := 9) C d_Jmax_2 (by decide) hx hz (fun q2 => ?_) (fun q2 => ?_)
  · refine V_iload_n C d_Jmax_9 rfl rfl ?_
    exact V_ireturn C d_Jmax_10 (Nat.le_refl _) (Nat.le_refl _) ⟨rfl, rfl, by rw [show max x z = z by omega]⟩
  · refine V_iload_n C d_Jmax_5 rfl rfl ?_
    refine V_goto (tgt := 10) C d_Jmax_6 (by decide) ?_
    exact V_ireturn C d_Jmax_10 (Nat.le_refl _) (Nat.le_refl _) ⟨rfl, rfl, by rw [show max x z = x by omega]⟩
/-- for a divisor above 0 the floor quotient is Int's own -/
theorem td_fl {x z : Int} (h0 : 0 < z) : x / z = if x < 0 ∧ x.tdiv z * z ≠ x then x.tdiv z - 1 else x.tdiv z := by
  have e1 := Int.mul_tdiv_add_tmod x z
  have e2 := Int.tmod_lt_of_pos x h0
  have e4 := Int.mul_ediv_add_emod x z
  have e5 := Int.emod_nonneg x (show z ≠ 0 by omega)
  have e6 := Int.emod_lt_of_pos x h0
  have e3 : -z < x.tmod z := by
    rw [← Int.neg_neg (x.tmod z), ← Int.neg_tmod]
    have := Int.tmod_lt_of_pos (-x) h0
    omega
  by_cases q : x < 0
  · have e7 : x.tmod z ≤ 0 := by
      rw [← Int.neg_neg (x.tmod z), ← Int.neg_tmod]
      have := Int.tmod_nonneg (a := -x) z (by omega)
      omega
    by_cases q2 : x.tdiv z * z = x
    · rw [if_neg (fun w => w.2 q2)]
      exact Int.ediv_eq_of_eq_mul_left (by omega) q2.symm
    · rw [if_pos ⟨q, q2⟩]
      have h8 : x.tmod z ≠ 0 := fun w => q2 (by rw [w, Int.add_zero, Int.mul_comm] at e1; exact e1)
      refine (Int.ediv_emod_unique h0 (r := x.tmod z + z)).mpr ⟨?_, by omega, by omega⟩ |>.1
      rw [Int.mul_sub, Int.mul_one]; omega
  · rw [if_neg (fun w => q w.1)]
    exact (Int.tdiv_eq_ediv_of_nonneg (by omega)).symm
theorem tm_fl {x z : Int} (h0 : 0 < z) : x % z = if x.tmod z < 0 then x.tmod z + z else x.tmod z := by
  have e1 := Int.mul_tdiv_add_tmod x z
  have e2 := Int.tmod_lt_of_pos x h0
  have e3 : -z < x.tmod z := by
    rw [← Int.neg_neg (x.tmod z), ← Int.neg_tmod]
    have := Int.tmod_lt_of_pos (-x) h0
    omega
  by_cases q : x.tmod z < 0
  · rw [if_pos q]
    refine ((Int.ediv_emod_unique h0 (q := x.tdiv z - 1) (r := x.tmod z + z)).mpr ⟨?_, by omega, by omega⟩).2
    rw [Int.mul_sub, Int.mul_one]; omega
  · rw [if_neg q]
    refine ((Int.ediv_emod_unique h0 (q := x.tdiv z) (r := x.tmod z)).mpr ⟨?_, by omega, by omega⟩).2
    omega
theorem td_in {x z B : Int} (hx : -B - 1 ≤ x ∧ x ≤ B) (hB : 0 ≤ B) (h0 : 0 < z) : (-B - 1 ≤ x.tdiv z ∧ x.tdiv z ≤ B) ∧ (-B - 1 ≤ x.tmod z ∧ x.tmod z ≤ B) ∧ (-B - 1 ≤ x.tdiv z * z ∧ x.tdiv z * z ≤ B) ∧ (0 ≤ x → 0 ≤ x.tdiv z) ∧ (x.tmod z < 0 → x < 0) ∧ (0 < x.tmod z → 0 ≤ x) ∧ (-z < x.tmod z ∧ x.tmod z < z) := by
  have e1 := Int.mul_tdiv_add_tmod x z
  rw [Int.mul_comm] at e1
  by_cases q : 0 ≤ x
  · have m0 := Int.tmod_nonneg z q
    have m1 := Int.tmod_lt_of_pos x h0
    have m2 : 0 ≤ x.tdiv z := Int.tdiv_nonneg q (by omega)
    have m3 := Int.mul_le_mul_of_nonneg_left (show (1 : Int) ≤ z by omega) m2
    rw [Int.mul_one] at m3
    omega
  · have m0 := Int.tmod_nonneg (a := -x) z (by omega)
    have m1 := Int.tmod_lt_of_pos (-x) h0
    have m2 : 0 ≤ (-x).tdiv z := Int.tdiv_nonneg (by omega) (by omega)
    have m3 := Int.mul_le_mul_of_nonneg_left (show (1 : Int) ≤ z by omega) m2
    rw [Int.mul_one, Int.neg_tdiv, Int.neg_mul] at m3
    rw [Int.neg_tmod] at m0 m1
    rw [Int.neg_tdiv] at m2
    omega
set_option maxHeartbeats 4000000 in
theorem c_JfloorDiv (hl : yL l) {x z : Int} (hx : inI x) (hz : inI z) (h0 : 0 < z) : yM l y_JfloorDiv b_JfloorDiv 3 (some .int) 0 0 0 0 d b n h [vi x, vi z] (fun q n' h' => n' = n ∧ h' = h ∧ q = some (vi (x / z))) noT := by
  refine yM_ofF hl (by decide +kernel) (Nat.le_of_ble_eq_true rfl) (fun p e s m args below meth c C => ?_)
  obtain ⟨i1, i2, i3, i4, -⟩ := td_in (B := 2147483647) hx (by omega) h0
  have e1 := td_fl (x := x) h0
  refine V_iload_n C d_JfloorDiv_0 rfl rfl ?_
  refine V_iload_n C d_JfloorDiv_1 rfl rfl ?_
  refine V_idiv C d_JfloorDiv_2 hx hz (by omega) ?_
  refine V_istore_n C d_JfloorDiv_3 rfl (by decide) rfl ?_
  refine V_iload_n C d_JfloorDiv_4 rfl rfl ?_
  refine V_iload_n C d_JfloorDiv_5 rfl rfl ?_
  refine V_ixor C d_JfloorDiv_6 ?_
  refine V_if_ge (tgt := 21) C d_JfloorDiv_7 (by decide) (inI_x _) (fun q7 => ?_) (fun q7 => ?_)
  · have hn : ¬ x < 0 := fun q => by have := (ixor_lt hx hz h0).mpr q; omega
    rw [if_neg (fun w => hn w.1)] at e1
    refine V_iload_n C d_JfloorDiv_21 rfl rfl ?_
    exact V_ireturn C d_JfloorDiv_22 (Nat.le_refl _) (Nat.le_refl _) ⟨rfl, rfl, by rw [e1]⟩
  · have hn : x < 0 := (ixor_lt hx hz h0).mp (by omega)
    refine V_iload_n C d_JfloorDiv_10 rfl rfl ?_
    refine V_iload_n C d_JfloorDiv_11 rfl rfl ?_
    refine V_imul C d_JfloorDiv_12 ?_
    refine V_iload_n C d_JfloorDiv_13 rfl rfl ?_
    refine V_icmp_eq (tgt := 21) C d_JfloorDiv_14 (by decide) i3 hx (fun q14 => ?_) (fun q14 => ?_)
    · rw [if_neg (fun w => w.2 q14)] at e1
      refine V_iload_n C d_JfloorDiv_21 rfl rfl ?_
      exact V_ireturn C d_JfloorDiv_22 (Nat.le_refl _) (Nat.le_refl _) ⟨rfl, rfl, by rw [e1]⟩
    · rw [if_pos ⟨hn, q14⟩] at e1
      refine V_iload_n C d_JfloorDiv_17 rfl rfl ?_
      refine V_iconst C d_JfloorDiv_18 rfl ?_
      refine V_isub C d_JfloorDiv_19 ?_
      exact V_ireturn C d_JfloorDiv_20 (Nat.le_refl _) (Nat.le_refl _) ⟨rfl, rfl, by rw [e1]⟩
set_option maxHeartbeats 4000000 in
theorem c_JfloorDivL (hl : yL l) {x z : Int} (hx : inJ x) (hz : inJ z) (h0 : 0 < z) : yM l y_JfloorDivL b_JfloorDivL 6 (some .long) 0 0 0 0 d b n h [vj x, vj z] (fun q n' h' => n' = n ∧ h' = h ∧ q = some (vj (x / z))) noT := by
  refine yM_ofF hl (by decide +kernel) (Nat.le_of_ble_eq_true rfl) (fun p e s m args below meth c C => ?_)
  obtain ⟨i1, i2, i3, i4, -⟩ := td_in (B := 9223372036854775807) hx (by omega) h0
  have e1 := td_fl (x := x) h0
  refine V_lload_n C d_JfloorDivL_0 rfl rfl ?_
  refine V_lload_n C d_JfloorDivL_1 rfl rfl ?_
  refine V_ldiv C d_JfloorDivL_2 hx hz (by omega) ?_
  refine V_lstore C d_JfloorDivL_3 (by decide) rfl ?_
  refine V_lload_n C d_JfloorDivL_5 rfl rfl ?_
  refine V_lload_n C d_JfloorDivL_6 rfl rfl ?_
  refine V_lxor C d_JfloorDivL_7 ?_
  refine V_lconst (z := 0) C d_JfloorDivL_8 rfl ?_
  refine V_lcmp C d_JfloorDivL_9 (inJ_x _) inJ_0 ?_
  refine V_if_ge (tgt := 27) C d_JfloorDivL_10 (by decide) (cz_in _ _) (fun q7 => ?_) (fun q7 => ?_)
  · have hn : ¬ x < 0 := fun q => by have := (lxor_lt hx hz h0).mpr q; have := cz_ge.mp q7; omega
    rw [if_neg (fun w => hn w.1)] at e1
    refine V_lload C d_JfloorDivL_27 rfl ?_
    exact V_lreturn C d_JfloorDivL_29 (Nat.le_refl _) (Nat.le_refl _) ⟨rfl, rfl, by rw [e1]⟩
  · have hn : x < 0 := (lxor_lt hx hz h0).mp (Int.not_le.mp fun w => q7 (cz_ge.mpr w))
    refine V_lload C d_JfloorDivL_13 rfl ?_
    refine V_lload_n C d_JfloorDivL_15 rfl rfl ?_
    refine V_lmul C d_JfloorDivL_16 ?_
    refine V_lload_n C d_JfloorDivL_17 rfl rfl ?_
    refine V_lcmp C d_JfloorDivL_18 i3 hx ?_
    refine V_if_eq (tgt := 27) C d_JfloorDivL_19 (by decide) (cz_in _ _) (fun q19 => ?_) (fun q19 => ?_)
    · rw [if_neg (fun w => w.2 (cz_eq.mp q19))] at e1
      refine V_lload C d_JfloorDivL_27 rfl ?_
      exact V_lreturn C d_JfloorDivL_29 (Nat.le_refl _) (Nat.le_refl _) ⟨rfl, rfl, by rw [e1]⟩
    · rw [if_pos ⟨hn, fun w => q19 (cz_eq.mpr w)⟩] at e1
      refine V_lload C d_JfloorDivL_22 rfl ?_
      refine V_lconst (z := 1) C d_JfloorDivL_24 rfl ?_
      refine V_lsub C d_JfloorDivL_25 ?_
      exact V_lreturn C d_JfloorDivL_26 (Nat.le_refl _) (Nat.le_refl _) ⟨rfl, rfl, by rw [e1]⟩
set_option maxHeartbeats 4000000 in
theorem c_JfloorMod (hl : yL l) {x z : Int} (hx : inI x) (hz : inI z) (h0 : 0 < z) : yM l y_JfloorMod b_JfloorMod 3 (some .int) 0 0 0 0 d b n h [vi x, vi z] (fun q n' h' => n' = n ∧ h' = h ∧ q = some (vi (x % z))) noT := by
  refine yM_ofF hl (by decide +kernel) (Nat.le_of_ble_eq_true rfl) (fun p e s m args below meth c C => ?_)
  obtain ⟨i1, i2, i3, i4, i5, i6, i7⟩ := td_in (B := 2147483647) hx (by omega) h0
  have e1 := tm_fl (x := x) h0
  refine V_iload_n C d_JfloorMod_0 rfl rfl ?_
  refine V_iload_n C d_JfloorMod_1 rfl rfl ?_
  refine V_irem C d_JfloorMod_2 hx hz (by omega) ?_
  refine V_istore_n C d_JfloorMod_3 rfl (by decide) rfl ?_
  refine V_iload_n C d_JfloorMod_4 rfl rfl ?_
  refine V_iload_n C d_JfloorMod_5 rfl rfl ?_
  refine V_ixor C d_JfloorMod_6 ?_
  refine V_if_ge (tgt := 18) C d_JfloorMod_7 (by decide) (inI_x _) (fun q7 => ?_) (fun q7 => ?_)
  · have hn : ¬ x < 0 := fun q => by have := (ixor_lt hx hz h0).mpr q; omega
    rw [if_neg (fun w => hn (i5 w))] at e1
    refine V_iload_n C d_JfloorMod_18 rfl rfl ?_
    exact V_ireturn C d_JfloorMod_19 (Nat.le_refl _) (Nat.le_refl _) ⟨rfl, rfl, by rw [e1]⟩
  · have hn : x < 0 := (ixor_lt hx hz h0).mp (by omega)
    refine V_iload_n C d_JfloorMod_10 rfl rfl ?_
    refine V_if_eq (tgt := 18) C d_JfloorMod_11 (by decide) i2 (fun q11 => ?_) (fun q11 => ?_)
    · rw [if_neg (by omega)] at e1
      refine V_iload_n C d_JfloorMod_18 rfl rfl ?_
      exact V_ireturn C d_JfloorMod_19 (Nat.le_refl _) (Nat.le_refl _) ⟨rfl, rfl, by rw [e1]⟩
    · have hneg : x.tmod z < 0 := by
        by_cases q : 0 < x.tmod z
        · have := i6 q; omega
        · omega
      rw [if_pos hneg] at e1
      refine V_iload_n C d_JfloorMod_14 rfl rfl ?_
      refine V_iload_n C d_JfloorMod_15 rfl rfl ?_
      refine V_iadd C d_JfloorMod_16 ?_
      exact V_ireturn C d_JfloorMod_17 (Nat.le_refl _) (Nat.le_refl _) ⟨rfl, rfl, by rw [e1]⟩
end JX
end
section
/-! What the document asks of each call: the code of what it throws (0: nothing), its answer, the state behind it -/
def wY (v : Vw) (r : Nat) (z : Int) : Int := if v.F r ≤ z ∧ z ≤ v.F r + v.M r - 1 then v.W r (z - v.F r).toNat else 0
def kRow (v : Vw) (f m : Int) : Nat := if 8 ≤ v.rc then 1 else if (1 ≤ m ∧ m ≤ 48) ∧ -9999 ≤ f ∧ f ≤ 9999 - (m - 1) then 0 else 2
def vNew (v : Vw) (f : Int) (m : Nat) (W : Nat → Int) : Vw := Vw.mk (v.rc + 1) (fu v.F v.rc f) (fu v.M v.rc m) (fu v.W v.rc W) v.rs v.sn v.sa v.sb
def vRow (v : Vw) (f m : Int) : Vw := vNew v f m.toNat (fun _ => 0)
def kWt (v : Vw) (r z w : Int) : Nat := if ¬ hasY v r z then 1 else if w < 0 then 2 else 0
def vWt (v : Vw) (r z w : Int) : Vw := v.s_W (fu v.W r.toNat (fu (v.W r.toNat) (z - v.F r.toNat).toNat w))
def lastR (v : Vw) (r : Nat) : Int := v.F r + v.M r - 1
def adF (v : Vw) (a c : Nat) : Int := min (v.F a) (v.F c)
def adL (v : Vw) (a c : Nat) : Int := max (lastR v a) (lastR v c)
def adM (v : Vw) (a c : Nat) : Nat := (adL v a c - adF v a c + 1).toNat
def adW (v : Vw) (a c : Nat) (q : Nat) : Int := wY v a (adF v a c + q) + wY v c (adF v a c + q)
def kAdd (v : Vw) (a c : Int) : Nat := if ¬ (isR v a ∧ isR v c) then 1 else if 8 ≤ v.rc then 2 else if 48 ≤ adL v a.toNat c.toNat - adF v a.toNat c.toNat then 3 else if ∀ q, q < adM v a.toNat c.toNat → adW v a.toNat c.toNat q < 1000000000 ^ 4 then 0 else 4
def vAdd (v : Vw) (a c : Int) : Vw := vNew v (adF v a.toNat c.toNat) (adM v a.toNat c.toNat) (adW v a.toNat c.toNat)
def tmF (v : Vw) (a c : Nat) : Int := max (v.F a) (v.F c)
def tmL (v : Vw) (a c : Nat) : Int := min (lastR v a) (lastR v c)
def tmM (v : Vw) (a c : Nat) : Nat := (tmL v a c - tmF v a c + 1).toNat
def tmP (v : Vw) (a c : Nat) (q : Nat) : Int := wY v a (tmF v a c + q) * wY v c (tmF v a c + q)
def tmW (v : Vw) (a c : Nat) (u : Int) (q : Nat) : Int := tmP v a c q / u
def tmR (v : Vw) (a c : Nat) (u : Int) : Nat → Int := sumW (fun q => tmP v a c q % u)
def kTm (v : Vw) (a c u : Int) : Nat := if ¬ (isR v a ∧ isR v c) then 1 else if 8 ≤ v.rc then 2 else if ¬ ((1 ≤ u ∧ u ≤ 1000000000) ∧ tmF v a.toNat c.toNat ≤ tmL v a.toNat c.toNat) then 3 else if ∀ q, q < tmM v a.toNat c.toNat → tmW v a.toNat c.toNat u q < 1000000000 ^ 4 then 0 else 4
def vTm (v : Vw) (a c u : Int) : Vw := (vNew v (tmF v a.toNat c.toNat) (tmM v a.toNat c.toNat) (tmW v a.toNat c.toNat u)).s_rs (tmR v a.toNat c.toNat u (tmM v a.toNat c.toNat))
def kLs (v : Vw) (r u w : Int) : Nat := if ¬ isR v r then 1 else if ¬ ((1 ≤ w ∧ w ≤ 1000000) ∧ 0 ≤ u ∧ u ≤ w) then 2 else if sumW (v.W r.toNat) (v.M r.toNat) = 0 then 3 else 0
def vLs (v : Vw) (r : Nat) (k : Nat) : Vw := Vw.mk v.rc v.F v.M v.W v.rs (spN (selS (v.W r) (v.M r) k) (v.M r)) (spA (selS (v.W r) (v.M r) k) (v.F r) (fun _ => 0) (v.M r)) (spB (selS (v.W r) (v.M r) k) (v.F r) (fun _ => 0) (v.M r))
def kSp (v : Vw) (k e : Int) : Nat := if (0 ≤ k ∧ k < v.sn) ∧ (e = 0 ∨ e = 1) then 0 else 1
def aSp (v : Vw) (k e : Int) : Int := if e = 0 then v.sa k.toNat else v.sb k.toNat
def kDg (v : Vw) (r z i : Int) : Nat := if hasY v r z ∧ 0 ≤ i ∧ i < 36 then 0 else 1
def aDg (v : Vw) (r z i : Int) : Int := dgv (v.W r.toNat (z - v.F r.toNat).toNat) i.toNat
def kTo (v : Vw) (r i : Int) : Nat := if isR v r ∧ 0 ≤ i ∧ i < 38 then 0 else 1
def aTo (v : Vw) (r i : Int) : Int := dgv (sumW (v.W r.toNat) (v.M r.toNat)) i.toNat
def kCo (v : Vw) (r z r2 z2 : Int) : Nat := if hasY v r z ∧ hasY v r2 z2 then 0 else 1
def aCo (v : Vw) (r z r2 z2 : Int) : Int := cz (v.W r.toNat (z - v.F r.toNat).toNat) (v.W r2.toNat (z2 - v.F r2.toNat).toNat)
def kAb (v : Vw) (r w : Int) : Nat := if ¬ isR v r then 1 else if 0 ≤ w ∧ w ≤ 2 then 0 else 2
def aAb (v : Vw) (r w : Int) : Int := if w = 0 then v.F r.toNat else if w = 1 then lastR v r.toNat else (nzW (v.W r.toNat) (v.M r.toNat) : Nat)
def kOv (z : Int) : Nat := if z = 0 then 1 else 0
def aWr (z : Int) : Int := if 0 < z then z else z - 1
def vCl (v : Vw) : Vw := Vw.mk 0 v.F v.M v.W 0 0 v.sa v.sb
/-! pure facts -/
theorem pkL_congr {W W' : Nat → Int} {S S' : Nat → Bool} : ∀ {k}, (∀ x, x < k → W x = W' x) → (∀ x, x < k → S x = S' x) → pkL W S k = pkL W' S' k
  | 0, _, _ => rfl
  | k + 1, h, hS => by
    have ih := pkL_congr (k := k) (fun x hx => h x (by omega)) (fun x hx => hS x (by omega))
    unfold pkL
    rw [ih, hS k (by omega)]
    cases hq : pkL W' S' k with
    | none => rfl
    | some x =>
      have := (pkL_in k x hq).1
      dsimp only
      rw [h x (by omega), h k (by omega)]
theorem selS_congr {W W' : Nat → Int} {m : Nat} (h : ∀ x, x < m → W x = W' x) : ∀ r, selS W m r = selS W' m r
  | 0 => rfl
  | r + 1 => by
    funext x
    show (selS W m r x || (pkL W (selS W m r) m == some x)) = (selS W' m r x || (pkL W' (selS W' m r) m == some x))
    rw [selS_congr h r, pkL_congr h (fun _ _ => rfl)]
theorem sumS_congrW {W W' : Nat → Int} {S : Nat → Bool} : ∀ {k}, (∀ x, x < k → W x = W' x) → sumS W S k = sumS W' S k
  | 0, _ => rfl
  | k + 1, h => by
    show sumS W S k + (if S k = true then W k else 0) = sumS W' S k + (if S k = true then W' k else 0)
    rw [h k (by omega), sumS_congrW (fun x hx => h x (by omega))]
theorem lsOk_congr {W W' : Nat → Int} {m : Nat} {u w : Int} {r : Nat} (h : ∀ x, x < m → W x = W' x) (H : lsOk W m u w r) : lsOk W' m u w r := by
  unfold lsOk at H ⊢
  rw [← sumW_congr h, ← selS_congr h, ← sumS_congrW h]
  refine ⟨H.1, H.2.1, fun q hq => ?_⟩
  rw [← selS_congr h, ← sumS_congrW h]
  exact H.2.2 q hq
theorem nzW_congr {W W' : Nat → Int} : ∀ {k}, (∀ x, x < k → W x = W' x) → nzW W k = nzW W' k
  | 0, _ => rfl
  | k + 1, h => by
    show (if W k = 0 then nzW W k else nzW W k + 1) = (if W' k = 0 then nzW W' k else nzW W' k + 1)
    rw [h k (by omega), nzW_congr (fun x hx => h x (by omega))]
/-- the throws of a call -/
abbrev tX (d : yD) (b n : Nat) (h : yH) (v : Vw) (P : String → Prop) : String → Nat → yH → Prop := fun C n' h' => P C ∧ n ≤ n' ∧ PX d b h h' v
theorem OkX.rd {x : XS} {v : Vw} (O : OkX x v) (V : OkV v) {i : Nat} (hi : i < v.rc) (z : Int) : (if x.ff i ≤ z ∧ z ≤ x.ff i + x.fm i - 1 then wt (x.PP i) (z - x.ff i).toNat else 0) = wY v i z := by
  rw [O.ff i hi, O.fm i hi]
  unfold wY
  by_cases q : v.F i ≤ z ∧ z ≤ v.F i + v.M i - 1
  · rw [if_pos q, if_pos q, O.ww i hi _ (by omega)]
  · rw [if_neg q, if_neg q]
theorem wY_in {v : Vw} (V : OkV v) {i : Nat} (hi : i < v.rc) (z : Int) : 0 ≤ wY v i z ∧ wY v i z < 1000000000 ^ 4 := by
  unfold wY
  by_cases q : v.F i ≤ z ∧ z ≤ v.F i + v.M i - 1
  · rw [if_pos q]; exact V.ww i hi _ (by omega)
  · rw [if_neg q]; omega
end
section
/-! YearFractions: the public calls -/
section YfD
variable {p : Program} {l : Launch} {e : Env} {R : Room} {s : State} {m : MethodId} {args : Array Value} {below : List Frame} {meth : Method} {c : Code} {d : yD} {b : Nat} {Q : State → Prop} {cells slots n : Nat} {h : yH}
variable {x : XS} {v : Vw}
/-- a new row behind the last one -/
theorem OkX.new {x' : XS} (O : OkX x v) (h8 : v.rc < 8) {f : Int} {mm : Nat} {W : Nat → Int} (h1 : x'.rc = x.rc + 1) (h2 : x'.rs = x.rs) (h3 : x'.sp = x.sp) (h4 : ∀ i, i ≠ v.rc → x'.ff i = x.ff i) (h5 : ∀ i, i ≠ v.rc → x'.fm i = x.fm i) (h6 : ∀ i, i ≠ v.rc → x'.PP i = x.PP i) (h7 : x'.ff v.rc = f) (h8' : x'.fm v.rc = mm) (h9 : dig (x'.PP v.rc) 192) (h10 : ∀ q, q < mm → wt (x'.PP v.rc) q = W q) (h11 : x'.A = x.A) (h12 : x'.B = x.B) : OkX x' (vNew v f mm W) := by
  have hF : (vNew v f mm W).F = fu v.F v.rc f := rfl
  have hM : (vNew v f mm W).M = fu v.M v.rc mm := rfl
  have hW : (vNew v f mm W).W = fu v.W v.rc W := rfl
  refine ⟨by rw [h1, O.rc]; rfl, by rw [h2, O.rs]; rfl, by rw [h3, O.sp]; rfl, fun i hi => ?_, fun i hi => ?_, fun i hi q hq => ?_, fun i hi => ?_, fun k hk => by rw [h11]; exact O.sa k hk, fun k hk => by rw [h12]; exact O.sb k hk⟩
  · have hi' : i < v.rc + 1 := hi
    rw [hF]
    by_cases e : i = v.rc
    · rw [e, h7, fu_eq]
    · rw [h4 i e, fu_ne _ _ e]; exact O.ff i (by omega)
  · have hi' : i < v.rc + 1 := hi
    rw [hM]
    by_cases e : i = v.rc
    · rw [e, h8', fu_eq]
    · rw [h5 i e, fu_ne _ _ e]; exact O.fm i (by omega)
  · have hi' : i < v.rc + 1 := hi
    rw [hM] at hq
    rw [hW]
    by_cases e : i = v.rc
    · rw [e, fu_eq] at hq
      rw [e, fu_eq]; exact h10 q hq
    · rw [fu_ne _ _ e] at hq
      rw [h6 i e, fu_ne _ _ e]; exact O.ww i (by omega) q hq
  · by_cases e : i = v.rc
    · rw [e]; exact h9
    · rw [h6 i e]; exact O.dg i hi
set_option maxHeartbeats 4000000 in
theorem c_Yf_row (hl : yL l) (hv : OkV v) (A : AtX d b x h) (O : OkX x v) {f k : Int} (hf : inI f) (hk : inI k) :
    yM l y_Yf_row b_Yf_row 4 (some .int) 8 160 64 512 d b n h [.ref (b + 0), vi f, vi k] (fun q n' h' => kRow v f k = 0 ∧ n' = n ∧ q = some (vi v.rc) ∧ PX d b h h' (vRow v f k)) (tX d b n h v (fun C => (kRow v f k = 1 ∧ C = xnS) ∨ (kRow v f k = 2 ∧ C = xnA))) := by
  refine yM_of hl (by decide +kernel) (Nat.le_of_ble_eq_true rfl) (fun p e s m args below meth c C => ?_)
  have hrc := hv.rc
  refine V_aload_n C d_Yf_row_0 rfl rfl ?_
  refine V_callV C (c_Yf_freeRow hl hv A O) wc_Yf_freeRow w_Yf_row_1 np_Yf_freeRow (by decide) A.o rfl rfl (Nat.le_of_ble_eq_true rfl) d_Yf_row_1 (fun v n1 h1 hp => ?_) (fun Cx n1 h1 hp => ?_)
  · obtain ⟨h8, rfl, rfl, rfl⟩ := hp
    have no : ∀ q : Prop, ¬ ((1 ≤ k ∧ k ≤ 48) ∧ -9999 ≤ f ∧ f ≤ 9999 - (k - 1)) → kRow v f k = 2 := fun _ q => by unfold kRow; rw [if_neg (by omega), if_neg q]
    refine V_astore_n C d_Yf_row_4 rfl (by decide) rfl ?_
    refine V_iload_n C d_Yf_row_5 rfl rfl ?_
    refine V_iconst C d_Yf_row_6 rfl ?_
    refine V_icmp_lt (tgt := 16) C d_Yf_row_7 (by decide) hk (by unfold inI; omega) (fun q7 => ?_) (fun q7 => ?_)
    · exact V_throwS (text := "a row has 1 to 48 years") C (by decide) w_Yf_row_16 xi_A xa_A xg_A (by decide +kernel) d_Yf_row_16 d_Yf_row_19 d_Yf_row_20 d_Yf_row_22 d_Yf_row_25 (fun x hx => absurd hx List.not_mem_nil) (by decide) (by omega) (by omega) (fun n' hn => ⟨Or.inr ⟨no True (by omega), rfl⟩, hn, ⟨x, A, O⟩, FrX.rfl⟩)
    · refine V_iload_n C d_Yf_row_10 rfl rfl ?_
      refine V_bipush (z := 48) C d_Yf_row_11 rfl ?_
      refine V_icmp_le (tgt := 26) C d_Yf_row_13 (by decide) hk (by unfold inI; omega) (fun q13 => ?_) (fun q13 => ?_)
      · refine V_iload_n C d_Yf_row_26 rfl rfl ?_
        refine V_sipush (z := (-9999)) C d_Yf_row_27 rfl ?_
        refine V_icmp_lt (tgt := 44) C d_Yf_row_30 (by decide) hf (by unfold inI; omega) (fun q30 => ?_) (fun q30 => ?_)
        · exact V_throwS (text := "years are -9999 to 9999") C (by decide) w_Yf_row_44 xi_A xa_A xg_A (by decide +kernel) d_Yf_row_44 d_Yf_row_47 d_Yf_row_48 d_Yf_row_50 d_Yf_row_53 (fun x hx => absurd hx List.not_mem_nil) (by decide) (by omega) (by omega) (fun n' hn => ⟨Or.inr ⟨no True (by omega), rfl⟩, hn, ⟨x, A, O⟩, FrX.rfl⟩)
        · refine V_iload_n C d_Yf_row_33 rfl rfl ?_
          refine V_sipush (z := 9999) C d_Yf_row_34 rfl ?_
          refine V_iload_n C d_Yf_row_37 rfl rfl ?_
          refine V_iconst C d_Yf_row_38 rfl ?_
          refine V_isub C d_Yf_row_39 ?_
          refine V_isub C d_Yf_row_40 ?_
          refine V_icmp_le (tgt := 54) C d_Yf_row_41 (by decide) hf (by unfold inI; omega) (fun q41 => ?_) (fun q41 => ?_)
          · have hyes : kRow v f k = 0 := by unfold kRow; rw [if_neg (by omega), if_pos ⟨⟨by omega, by omega⟩, by omega, by omega⟩]
            refine V_aload_n C d_Yf_row_54 rfl rfl ?_
            refine V_iload_n C d_Yf_row_55 rfl rfl ?_
            refine V_iload_n C d_Yf_row_56 rfl rfl ?_
            refine V_callV C (c_Row_open (f1 := f) (m1 := k) hl (A.w _ h8) (A.p _ h8)) wc_Row_open w_Yf_row_57 np_Row_open (by decide) (A.w _ h8) rfl rfl (Nat.le_of_ble_eq_true rfl) d_Yf_row_57 (fun v n1 h1 hp => ?_) (fun Cx n1 h1 hp => hp.elim)
            obtain ⟨rfl, rfl, G, g1, rfl⟩ := hp
            have B := (A.setW h8 f k).setP h8 G
            refine V_aload_n C d_Yf_row_60 rfl rfl ?_
            refine V_callV C (c_Yf_keepFreeRow hl B) wc_Yf_keepFreeRow w_Yf_row_61 np_Yf_keepFreeRow (by decide) B.o rfl rfl (Nat.le_of_ble_eq_true rfl) d_Yf_row_61 (fun v n1 h1 hp => ?_) (fun Cx n1 h1 hp => hp.elim)
            obtain ⟨rfl, rfl, B2, F2⟩ := hp
            have e1 := O.rc
            exact V_ireturn C d_Yf_row_64 (by omega) (by omega) ⟨hyes, rfl, by rw [← O.rc]; rfl, ⟨_, B2, O.new h8 rfl rfl rfl (fun i hi => fu_ne _ _ hi) (fun i hi => fu_ne _ _ hi) (fun i hi => fu_ne _ _ hi) (fu_eq _ _ _) ((fu_eq _ _ _).trans (by omega)) (by show dig (fu x.PP v.rc G v.rc) 192; rw [fu_eq]; exact fun t ht => by rw [g1 t ht]; omega) (fun q hq => by show wt (fu x.PP v.rc G v.rc) q = 0; rw [fu_eq]; exact vl_zero (fun j hj => g1 _ (by omega))) rfl rfl⟩, fun j hj => (F2 j hj).trans (((FrX.rfl.set (by omega) _).set (by omega) _) j hj)⟩
          · exact V_throwS (text := "years are -9999 to 9999") C (by decide) w_Yf_row_44 xi_A xa_A xg_A (by decide +kernel) d_Yf_row_44 d_Yf_row_47 d_Yf_row_48 d_Yf_row_50 d_Yf_row_53 (fun x hx => absurd hx List.not_mem_nil) (by decide) (by omega) (by omega) (fun n' hn => ⟨Or.inr ⟨no True (by omega), rfl⟩, hn, ⟨x, A, O⟩, FrX.rfl⟩)
      · exact V_throwS (text := "a row has 1 to 48 years") C (by decide) w_Yf_row_16 xi_A xa_A xg_A (by decide +kernel) d_Yf_row_16 d_Yf_row_19 d_Yf_row_20 d_Yf_row_22 d_Yf_row_25 (fun x hx => absurd hx List.not_mem_nil) (by decide) (by omega) (by omega) (fun n' hn => ⟨Or.inr ⟨no True (by omega), rfl⟩, hn, ⟨x, A, O⟩, FrX.rfl⟩)
  · obtain ⟨h1, rfl, h3, rfl⟩ := hp
    exact VT_leave C (fun x hx => absurd hx List.not_mem_nil) (by omega) (by omega) ⟨Or.inl ⟨by unfold kRow; rw [if_pos (by omega)], rfl⟩, h3, ⟨x, A, O⟩, FrX.rfl⟩
set_option maxHeartbeats 4000000 in
theorem c_Yf_weight (hl : yL l) (hv : OkV v) (A : AtX d b x h) (O : OkX x v) {r z w : Int} (hr : inI r) (hz : inI z) (hw : inJ w) :
    yM l y_Yf_weight b_Yf_weight 6 (some .boolean) 8 160 64 512 d b n h [.ref (b + 0), vi r, vi z, vj w] (fun q n' h' => kWt v r z w = 0 ∧ n' = n ∧ q = some (vi (if v.W r.toNat (z - v.F r.toNat).toNat = w then 0 else 1)) ∧ PX d b h h' (vWt v r z w)) (tX d b n h v (fun C => (kWt v r z w = 1 ∧ C = xnI) ∨ (kWt v r z w = 2 ∧ C = xnA))) := by
  refine yM_of hl (by decide +kernel) (Nat.le_of_ble_eq_true rfl) (fun p e s m args below meth c C => ?_)
  have hrc := hv.rc
  refine V_aload_n C d_Yf_weight_0 rfl rfl ?_
  refine V_iload_n C d_Yf_weight_1 rfl rfl ?_
  refine V_iload_n C d_Yf_weight_2 rfl rfl ?_
  refine V_callV C (c_Yf_knownRowWith hl hv A O hr hz) wc_Yf_knownRowWith w_Yf_weight_3 np_Yf_knownRowWith (by decide) A.o rfl rfl (Nat.le_of_ble_eq_true rfl) d_Yf_weight_3 (fun v n1 h1 hp => ?_) (fun Cx n1 h1 hp => ?_)
  · obtain ⟨hy, rfl, rfl, rfl⟩ := hp
    have hi : r.toNat < v.rc := by have := hy.1.1; have := hy.1.2; omega
    have h8 : r.toNat < 8 := by omega
    have e1 := O.ff _ hi
    have e2 := O.fm _ hi
    have hr0 := O.row hv hi
    have hP := O.dg _ h8
    refine V_astore C d_Yf_weight_6 (by decide) rfl ?_
    refine V_lload_n C d_Yf_weight_8 rfl rfl ?_
    refine V_lconst (z := 0) C d_Yf_weight_9 rfl ?_
    refine V_lcmp C d_Yf_weight_10 hw inJ_0 ?_
    refine V_if_ge (tgt := 24) C d_Yf_weight_11 (by decide) (cz_in _ _) (fun q11 => ?_) (fun q11 => ?_)
    · have hw0 : 0 ≤ w := cz_ge.mp q11
      refine V_aload C d_Yf_weight_24 rfl ?_
      refine V_iload_n C d_Yf_weight_26 rfl rfl ?_
      refine V_aload_n C d_Yf_weight_27 rfl rfl ?_
      refine V_get C 3 4 A.o rfl in_Yf (by decide) w_Yf_weight_28 rfl rfl d_Yf_weight_28 ?_
      refine V_callV C (c_Row_read hl (A.w _ h8) (A.p _ h8) A.o1 A.p1 (by omega) hr0 hz hP) wc_Row_read w_Yf_weight_31 np_Row_read (by decide) (A.w _ h8) rfl rfl (Nat.le_of_ble_eq_true rfl) d_Yf_weight_31 (fun v n1 h1 hp => ?_) (fun Cx n1 h1 hp => hp.elim)
      obtain ⟨rfl, rfl, G, g1, g2, g3, rfl⟩ := hp
      rw [O.rd hv hi] at g3
      have B := A.set1 G
      refine V_aload_n C d_Yf_weight_34 rfl rfl ?_
      refine V_get C 3 5 B.o rfl in_Yf (by decide) w_Yf_weight_35 rfl rfl d_Yf_weight_35 ?_
      refine V_lload_n C d_Yf_weight_38 rfl rfl ?_
      refine V_callV C (c_Who_become (v := w) hl B.o2 B.p2 hw0 hw.2) wc_Who_become w_Yf_weight_39 np_Who_become (by decide) B.o2 rfl rfl (Nat.le_of_ble_eq_true rfl) d_Yf_weight_39 (fun v n1 h1 hp => ?_) (fun Cx n1 h1 hp => hp.elim)
      obtain ⟨rfl, rfl, G2, g4, g5, rfl⟩ := hp
      have B2 := B.set2 G2
      have w2 : hs (hs h1 24 (oJ d 8 G)) 26 (oJ d 8 G2) (2 + 2 * r.toNat) = some (oO 1 [vi (x.ff r.toNat), vi (x.fm r.toNat), .ref (b + (3 + 2 * r.toNat))]) := B2.w _ h8
      have p2 : hs (hs h1 24 (oJ d 8 G)) 26 (oJ d 8 G2) (3 + 2 * r.toNat) = some (oJ d 192 (x.PP r.toNat)) := B2.p _ h8
      have p2r : hs (hs h1 24 (oJ d 8 G)) 26 (oJ d 8 G2) 26 = some (oJ d 8 G2) := B2.p2
      refine V_aload C d_Yf_weight_42 rfl ?_
      refine V_iload_n C d_Yf_weight_44 rfl rfl ?_
      refine V_aload_n C d_Yf_weight_45 rfl rfl ?_
      refine V_get C 3 5 B2.o rfl in_Yf (by decide) w_Yf_weight_46 rfl rfl d_Yf_weight_46 ?_
      refine V_callV C (c_Row_write (z := z) hl w2 p2 B2.o2 p2r (by omega) hr0 (by rw [e1, e2]; exact hy.2) hP g4) wc_Row_write w_Yf_weight_49 np_Row_write (by decide) w2 rfl rfl (Nat.le_of_ble_eq_true rfl) d_Yf_weight_49 (fun v n1 h1 hp => ?_) (fun Cx n1 h1 hp => hp.elim)
      obtain ⟨rfl, rfl, G3, g6, g7, g8, rfl⟩ := hp
      have B3 := B2.setP h8 G3
      have p31 : hs (hs (hs h1 24 (oJ d 8 G)) 26 (oJ d 8 G2)) (3 + 2 * r.toNat) (oJ d 192 G3) 24 = some (oJ d 8 G) := B3.p1
      have p32 : hs (hs (hs h1 24 (oJ d 8 G)) 26 (oJ d 8 G2)) (3 + 2 * r.toNat) (oJ d 192 G3) 26 = some (oJ d 8 G2) := B3.p2
      have hs4 := vl_low g4 (show vl G2 8 < 1000000000 ^ 4 by rw [g5]; have := hw.2; omega)
      rw [← vl_high g4 hs4, g5, e1] at g7
      have hold : wY v r.toNat z = v.W r.toNat (z - v.F r.toNat).toNat := if_pos hy.2
      have hk0 : kWt v r z w = 0 := by unfold kWt; rw [if_neg (fun q => q hy), if_neg (by omega)]
      have fin : PX d b h1 (hs (hs (hs h1 24 (oJ d 8 G)) 26 (oJ d 8 G2)) (3 + 2 * r.toNat) (oJ d 192 G3)) (vWt v r z w) := by
        refine ⟨⟨_, B3, O.rc, O.rs, O.sp, O.ff, O.fm, fun i hi2 q hq => ?_, fun i hi2 => ?_, O.sa, O.sb⟩, ((FrX.rfl.set (by omega) _).set (by omega) _).set (by omega) _⟩
        · show wt (fu x.PP r.toNat G3 i) q = fu v.W r.toNat (fu (v.W r.toNat) (z - v.F r.toNat).toNat w) i q
          by_cases e3 : i = r.toNat
          · rw [e3, fu_eq, fu_eq]
            by_cases e4 : q = (z - v.F r.toNat).toNat
            · rw [e4, fu_eq, g7]
            · rw [fu_ne _ _ e4, g8 q (by rw [e1]; exact e4)]
              exact O.ww _ hi q (by rw [← e3]; exact hq)
          · rw [fu_ne _ _ e3, fu_ne _ _ e3]; exact O.ww i hi2 q hq
        · show dig (fu x.PP r.toNat G3 i) 192
          by_cases e3 : i = r.toNat
          · rw [e3, fu_eq]; exact g6
          · rw [fu_ne _ _ e3]; exact O.dg i hi2
      refine V_aload_n C d_Yf_weight_52 rfl rfl ?_
      refine V_get C 3 4 B3.o rfl in_Yf (by decide) w_Yf_weight_53 rfl rfl d_Yf_weight_53 ?_
      refine V_aload_n C d_Yf_weight_56 rfl rfl ?_
      refine V_get C 3 5 B3.o rfl in_Yf (by decide) w_Yf_weight_57 rfl rfl d_Yf_weight_57 ?_
      refine V_callV C (c_Who_order hl B3.o1 p31 B3.o2 p32 g1 g4) wc_Who_order w_Yf_weight_60 np_Who_order (by decide) B3.o1 rfl rfl (Nat.le_of_ble_eq_true rfl) d_Yf_weight_60 (fun v n1 h1 hp => ?_) (fun Cx n1 h1 hp => hp.elim)
      obtain ⟨rfl, rfl, rfl⟩ := hp
      rw [g3, hold, g5]
      refine V_if_eq (tgt := 70) C d_Yf_weight_63 (by decide) (cz_in _ _) (fun q63 => ?_) (fun q63 => ?_)
      · refine V_iconst C d_Yf_weight_70 rfl ?_
        exact V_zreturn C d_Yf_weight_71 (by omega) (by omega) (by omega) ⟨hk0, rfl, by rw [if_pos (cz_eq.mp q63)], fin⟩
      · refine V_iconst C d_Yf_weight_66 rfl ?_
        refine V_goto (tgt := 71) C d_Yf_weight_67 (by decide) ?_
        exact V_zreturn C d_Yf_weight_71 (by omega) (by omega) (by omega) ⟨hk0, rfl, by rw [if_neg (fun q => q63 (cz_eq.mpr q))], fin⟩
    · have hw0 : w < 0 := Int.not_le.mp (fun q => q11 (cz_ge.mpr q))
      exact V_throwS (text := "a weight is not below 0") C (by decide) w_Yf_weight_14 xi_A xa_A xg_A (by decide +kernel) d_Yf_weight_14 d_Yf_weight_17 d_Yf_weight_18 d_Yf_weight_20 d_Yf_weight_23 (fun x hx => absurd hx List.not_mem_nil) (by decide) (by omega) (by omega) (fun n' hn => ⟨Or.inr ⟨by unfold kWt; rw [if_neg (fun q => q hy), if_pos hw0], rfl⟩, hn, ⟨x, A, O⟩, FrX.rfl⟩)
  · obtain ⟨h1, rfl, h3, rfl⟩ := hp
    exact VT_leave C (fun x hx => absurd hx List.not_mem_nil) (by omega) (by omega) ⟨Or.inl ⟨by unfold kWt; rw [if_pos h1], rfl⟩, h3, ⟨x, A, O⟩, FrX.rfl⟩
end YfD
end
