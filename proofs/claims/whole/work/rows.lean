section
-- ===== PART A: goes FIRST, ahead of the names: the tables' words, and 'selects' of the private methods out of them =====
/-- a private method of a class that the tables say can be made, by its rows of tables_1 -/
def lw_okq (q : MethodName × Nat) : Prop := (q.1.cls ≠ "java/lang/invoke/MethodHandle" ∧ q.1.cls ≠ "java/lang/invoke/VarHandle") ∧ Cond.instantiable q.1.cls q.2 ∈ tables_1 ∧ Cond.privateMethod q.1 ∈ tables_1 ∧ Cond.instanceMethod q.1 ∈ tables_1
theorem lw_p0 : lw_okq (⟨"YearFractions", "freeRow", "()LYearFractions$Row;"⟩, 7) := ⟨⟨by decide +kernel, by decide +kernel⟩, List.mem_of_getElem? (i := 16) (by decide +kernel), List.mem_of_getElem? (i := 127) (by decide +kernel), List.mem_of_getElem? (i := 128) (by decide +kernel)⟩
theorem lw_p1 : lw_okq (⟨"java/lang/Throwable", "fillInStackTrace", "(I)Ljava/lang/Throwable;"⟩, 6) := ⟨⟨by decide +kernel, by decide +kernel⟩, List.mem_of_getElem? (i := 170) (by decide +kernel), List.mem_of_getElem? (i := 168) (by decide +kernel), List.mem_of_getElem? (i := 169) (by decide +kernel)⟩
theorem lw_p2 : lw_okq (⟨"YearFractions", "keepFreeRow", "()I"⟩, 7) := ⟨⟨by decide +kernel, by decide +kernel⟩, List.mem_of_getElem? (i := 16) (by decide +kernel), List.mem_of_getElem? (i := 221) (by decide +kernel), List.mem_of_getElem? (i := 222) (by decide +kernel)⟩
theorem lw_p3 : lw_okq (⟨"YearFractions", "knownRowWith", "(II)LYearFractions$Row;"⟩, 7) := ⟨⟨by decide +kernel, by decide +kernel⟩, List.mem_of_getElem? (i := 16) (by decide +kernel), List.mem_of_getElem? (i := 233) (by decide +kernel), List.mem_of_getElem? (i := 234) (by decide +kernel)⟩
theorem lw_p4 : lw_okq (⟨"YearFractions", "knownRow", "(I)LYearFractions$Row;"⟩, 7) := ⟨⟨by decide +kernel, by decide +kernel⟩, List.mem_of_getElem? (i := 16) (by decide +kernel), List.mem_of_getElem? (i := 237) (by decide +kernel), List.mem_of_getElem? (i := 238) (by decide +kernel)⟩
theorem lw_p5 : lw_okq (⟨"YearFractions", "takeUntilEnough", "(LYearFractions$Row;I)V"⟩, 7) := ⟨⟨by decide +kernel, by decide +kernel⟩, List.mem_of_getElem? (i := 16) (by decide +kernel), List.mem_of_getElem? (i := 370) (by decide +kernel), List.mem_of_getElem? (i := 371) (by decide +kernel)⟩
theorem lw_p6 : lw_okq (⟨"YearFractions", "countWeighted", "(LYearFractions$Row;)I"⟩, 7) := ⟨⟨by decide +kernel, by decide +kernel⟩, List.mem_of_getElem? (i := 16) (by decide +kernel), List.mem_of_getElem? (i := 436) (by decide +kernel), List.mem_of_getElem? (i := 437) (by decide +kernel)⟩
theorem lw_p7 : lw_okq (⟨"YearFractionsModel", "goes", "(ZZZZ)Z"⟩, 12) := ⟨⟨by decide +kernel, by decide +kernel⟩, List.mem_of_getElem? (i := 522) (by decide +kernel), List.mem_of_getElem? (i := 576) (by decide +kernel), List.mem_of_getElem? (i := 577) (by decide +kernel)⟩
theorem lw_p8 : lw_okq (⟨"YearFractionsModel", "open", "(II)V"⟩, 12) := ⟨⟨by decide +kernel, by decide +kernel⟩, List.mem_of_getElem? (i := 522) (by decide +kernel), List.mem_of_getElem? (i := 580) (by decide +kernel), List.mem_of_getElem? (i := 581) (by decide +kernel)⟩
theorem lw_p9 : lw_okq (⟨"YearFractionsModel", "has", "(II)Z"⟩, 12) := ⟨⟨by decide +kernel, by decide +kernel⟩, List.mem_of_getElem? (i := 522) (by decide +kernel), List.mem_of_getElem? (i := 588) (by decide +kernel), List.mem_of_getElem? (i := 589) (by decide +kernel)⟩
theorem lw_p10 : lw_okq (⟨"YearFractionsModel", "isRow", "(I)Z"⟩, 12) := ⟨⟨by decide +kernel, by decide +kernel⟩, List.mem_of_getElem? (i := 522) (by decide +kernel), List.mem_of_getElem? (i := 592) (by decide +kernel), List.mem_of_getElem? (i := 593) (by decide +kernel)⟩
theorem lw_p11 : lw_okq (⟨"YearFractionsModel", "at", "(II)I"⟩, 12) := ⟨⟨by decide +kernel, by decide +kernel⟩, List.mem_of_getElem? (i := 522) (by decide +kernel), List.mem_of_getElem? (i := 597) (by decide +kernel), List.mem_of_getElem? (i := 598) (by decide +kernel)⟩
theorem lw_p12 : lw_okq (⟨"YearFractionsModel", "blank", "()V"⟩, 12) := ⟨⟨by decide +kernel, by decide +kernel⟩, List.mem_of_getElem? (i := 522) (by decide +kernel), List.mem_of_getElem? (i := 605) (by decide +kernel), List.mem_of_getElem? (i := 606) (by decide +kernel)⟩
theorem lw_p13 : lw_okq (⟨"YearFractionsModel", "plus", "(II)V"⟩, 12) := ⟨⟨by decide +kernel, by decide +kernel⟩, List.mem_of_getElem? (i := 522) (by decide +kernel), List.mem_of_getElem? (i := 609) (by decide +kernel), List.mem_of_getElem? (i := 610) (by decide +kernel)⟩
theorem lw_p14 : lw_okq (⟨"YearFractionsModel", "keep", "(II)Z"⟩, 12) := ⟨⟨by decide +kernel, by decide +kernel⟩, List.mem_of_getElem? (i := 522) (by decide +kernel), List.mem_of_getElem? (i := 613) (by decide +kernel), List.mem_of_getElem? (i := 614) (by decide +kernel)⟩
theorem lw_p15 : lw_okq (⟨"YearFractionsModel", "multiply", "(II)V"⟩, 12) := ⟨⟨by decide +kernel, by decide +kernel⟩, List.mem_of_getElem? (i := 522) (by decide +kernel), List.mem_of_getElem? (i := 622) (by decide +kernel), List.mem_of_getElem? (i := 623) (by decide +kernel)⟩
def lw_privs_1 : List (MethodName × Nat) := [(⟨"YearFractions", "freeRow", "()LYearFractions$Row;"⟩, 7), (⟨"java/lang/Throwable", "fillInStackTrace", "(I)Ljava/lang/Throwable;"⟩, 6), (⟨"YearFractions", "keepFreeRow", "()I"⟩, 7), (⟨"YearFractions", "knownRowWith", "(II)LYearFractions$Row;"⟩, 7), (⟨"YearFractions", "knownRow", "(I)LYearFractions$Row;"⟩, 7), (⟨"YearFractions", "takeUntilEnough", "(LYearFractions$Row;I)V"⟩, 7), (⟨"YearFractions", "countWeighted", "(LYearFractions$Row;)I"⟩, 7), (⟨"YearFractionsModel", "goes", "(ZZZZ)Z"⟩, 12), (⟨"YearFractionsModel", "open", "(II)V"⟩, 12), (⟨"YearFractionsModel", "has", "(II)Z"⟩, 12), (⟨"YearFractionsModel", "isRow", "(I)Z"⟩, 12), (⟨"YearFractionsModel", "at", "(II)I"⟩, 12), (⟨"YearFractionsModel", "blank", "()V"⟩, 12), (⟨"YearFractionsModel", "plus", "(II)V"⟩, 12), (⟨"YearFractionsModel", "keep", "(II)Z"⟩, 12), (⟨"YearFractionsModel", "multiply", "(II)V"⟩, 12)]
theorem lw_r1 : ∀ q ∈ lw_privs_1, lw_okq q := List.forall_mem_cons.mpr ⟨lw_p0, List.forall_mem_cons.mpr ⟨lw_p1, List.forall_mem_cons.mpr ⟨lw_p2, List.forall_mem_cons.mpr ⟨lw_p3, List.forall_mem_cons.mpr ⟨lw_p4, List.forall_mem_cons.mpr ⟨lw_p5, List.forall_mem_cons.mpr ⟨lw_p6, List.forall_mem_cons.mpr ⟨lw_p7, List.forall_mem_cons.mpr ⟨lw_p8, List.forall_mem_cons.mpr ⟨lw_p9, List.forall_mem_cons.mpr ⟨lw_p10, List.forall_mem_cons.mpr ⟨lw_p11, List.forall_mem_cons.mpr ⟨lw_p12, List.forall_mem_cons.mpr ⟨lw_p13, List.forall_mem_cons.mpr ⟨lw_p14, List.forall_mem_cons.mpr ⟨lw_p15, fun _ h => absurd h List.not_mem_nil⟩⟩⟩⟩⟩⟩⟩⟩⟩⟩⟩⟩⟩⟩⟩⟩
theorem lw_p16 : lw_okq (⟨"YearFractionsModel", "divide", "(I)J"⟩, 12) := ⟨⟨by decide +kernel, by decide +kernel⟩, List.mem_of_getElem? (i := 522) (by decide +kernel), List.mem_of_getElem? (i := 626) (by decide +kernel), List.mem_of_getElem? (i := 627) (by decide +kernel)⟩
theorem lw_p17 : lw_okq (⟨"YearFractionsModel", "isNothing", "(I)Z"⟩, 12) := ⟨⟨by decide +kernel, by decide +kernel⟩, List.mem_of_getElem? (i := 522) (by decide +kernel), List.mem_of_getElem? (i := 639) (by decide +kernel), List.mem_of_getElem? (i := 640) (by decide +kernel)⟩
theorem lw_p18 : lw_okq (⟨"YearFractionsModel", "enough", "(III)Z"⟩, 12) := ⟨⟨by decide +kernel, by decide +kernel⟩, List.mem_of_getElem? (i := 522) (by decide +kernel), List.mem_of_getElem? (i := 643) (by decide +kernel), List.mem_of_getElem? (i := 644) (by decide +kernel)⟩
theorem lw_p19 : lw_okq (⟨"YearFractionsModel", "sumUp", "(IZ)V"⟩, 12) := ⟨⟨by decide +kernel, by decide +kernel⟩, List.mem_of_getElem? (i := 522) (by decide +kernel), List.mem_of_getElem? (i := 647) (by decide +kernel), List.mem_of_getElem? (i := 648) (by decide +kernel)⟩
theorem lw_p20 : lw_okq (⟨"YearFractionsModel", "grow", "(I)V"⟩, 12) := ⟨⟨by decide +kernel, by decide +kernel⟩, List.mem_of_getElem? (i := 522) (by decide +kernel), List.mem_of_getElem? (i := 651) (by decide +kernel), List.mem_of_getElem? (i := 652) (by decide +kernel)⟩
theorem lw_p21 : lw_okq (⟨"YearFractionsModel", "compared", "(II)I"⟩, 12) := ⟨⟨by decide +kernel, by decide +kernel⟩, List.mem_of_getElem? (i := 522) (by decide +kernel), List.mem_of_getElem? (i := 655) (by decide +kernel), List.mem_of_getElem? (i := 656) (by decide +kernel)⟩
def lw_privs_2 : List (MethodName × Nat) := [(⟨"YearFractionsModel", "divide", "(I)J"⟩, 12), (⟨"YearFractionsModel", "isNothing", "(I)Z"⟩, 12), (⟨"YearFractionsModel", "enough", "(III)Z"⟩, 12), (⟨"YearFractionsModel", "sumUp", "(IZ)V"⟩, 12), (⟨"YearFractionsModel", "grow", "(I)V"⟩, 12), (⟨"YearFractionsModel", "compared", "(II)I"⟩, 12)]
theorem lw_r2 : ∀ q ∈ lw_privs_2, lw_okq q := List.forall_mem_cons.mpr ⟨lw_p16, List.forall_mem_cons.mpr ⟨lw_p17, List.forall_mem_cons.mpr ⟨lw_p18, List.forall_mem_cons.mpr ⟨lw_p19, List.forall_mem_cons.mpr ⟨lw_p20, List.forall_mem_cons.mpr ⟨lw_p21, fun _ h => absurd h List.not_mem_nil⟩⟩⟩⟩⟩⟩
def lw_privs : List (MethodName × Nat) := lw_privs_1 ++ (lw_privs_2)
def lw_tbl : List Cond := k2_sels lw_privs ++ tables_1
theorem lw_privs_ok : ∀ q ∈ lw_privs, lw_okq q := by
  show ∀ q ∈ lw_privs_1 ++ (lw_privs_2), lw_okq q
  exact List.forall_mem_append.mpr ⟨lw_r1, lw_r2⟩
/-- the words that hold at every later point of the run too -/
def yW : List Cond := lw_tbl.filter goodWord
theorem yW_good {w : Cond} (h : w ∈ yW) : (w.onTables && w.keeps) = true ∨ ∃ ty, w = .arrayClass ty := good_of_word (List.mem_filter.mp h).2
theorem yW_tbl {w : Cond} (h : w ∈ yW) : w ∈ lw_tbl := (List.mem_filter.mp h).1
theorem yW_of {w : Cond} (i : Nat) (h : lw_tbl[i]? = some w) (hg : goodWord w = true) : w ∈ yW := List.mem_filter.mpr ⟨List.mem_of_getElem? h, hg⟩
end
section
/-! ===== BEGIN exceptions that leave a method, and their catching by the caller (launches without stack traces) ===== -/
section VXA
/-! The laws vx_back, vx_callV, vx_callS, vx_callSW, vx_throw0, vx_throwS follow proofs of the library, with one case more: JvmDerived/Free/Laws.lean (Back.of_free), Shelf42/LK1.lean (callV, callS), Shelf/KitTraced.lean (throwNew0V, throwNewS). -/
/-- where a method has thrown q: the class by its name, the cell, what was written, the world -/
def vx_T (XC : String → State → State → Prop) (st : State) (q : Addr) (t : State) (mc ms : Nat) (free : Addr → Prop) : Prop :=
  ∃ (E : String) (ce : Cell) (L : List Loc), XC E st t ∧ t.heap[q]? = some ce ∧ ce.vm = .none ∧ st.vm.findClass E = some ce.cls ∧ st.WarmedH t.vm ∧ st.sameButNew ({ t with vm := st.vm } : State) L mc ms ∧ ∀ z ∈ L, free z.base
def vx_Q (Qc : Array Value → State → Outcome → State → Prop) (XC : String → State → State → Prop) (mc ms : Nat) (free : Addr → Prop) : Array Value → State → Outcome → State → Prop := fun a st o t =>
  (Qc a st o t ∧ ∃ L, FrameEnd st o t L mc ms ∧ ∀ q ∈ L, free q.base) ∨ ∃ q, o = .threw q ∧ vx_T XC st q t mc ms free
/-- a callee that returns or throws -/
def vx_Met (l : Launch) (y : MethodName) (ws : List Cond) (rm : Room) (Pc : Array Value → State → Prop) (Qc : Array Value → State → Outcome → State → Prop) (XC : String → State → State → Prop) (mc ms : Nat) (free : Addr → Prop) : Prop :=
  MetFree l y (headSpec ws rm) Pc (fun _ _ _ _ _ => True) (vx_Q Qc XC mc ms free)
def vx_Post (XC : String → State → State → Prop) (mc ms : Nat) (free : Addr → Prop) : Pt → Array Value → Addr → Pt → Prop := fun A a q B =>
  ∃ (g : JFrame) (mk : MethodId) (t : State) (L : List Loc) (E : String) (ce : Cell), B.U.heap = t.heap ∧ B.U.vm = t.vm ∧ XC E (A.U.calling g mk a) t ∧ t.heap[q]? = some ce ∧ ce.vm = .none ∧ A.U.vm.findClass E = some ce.cls ∧ B.locs = A.locs ++ L ∧ (∀ z ∈ L, free z.base) ∧ B.cells = A.cells + mc ∧ B.slots = A.slots + ms
def vx_Back (l : Launch) (R : Room) (p : Program) (e : Env) (below : List Frame) (s : State) (sargs : Array Value) (y : MethodName) (len W9 : Nat)
    (Pre : Pt → Array Value → Prop) (Post : Pt → Array Value → Option Value → Pt → Prop) (PostX : Pt → Array Value → Addr → Pt → Prop) : Prop :=
  ∀ (m : MethodId) (meth : Method) (c : Code) (A : Pt) (g : JFrame) (ig : Instr) (mk : MethodId) (a : Array Value),
    Stand p l e R s m sargs below meth c A.U A.locs A.cells A.slots → g.method = m → g.locals.size = c.maxLocals → decode c.code g.pc = .ok (ig, len) →
    2 * g.monitorRoom + (g.stack.map fun v => v.category).sum ≤ W9 → A.U.methodNamed? y = some mk → Pre A a →
    (∃ (v : Option Value) (B : Pt), Stand p l e R s m sargs below meth c B.U B.locs B.cells B.slots ∧ Post A a v B ∧
      Steps p.tables e below (doInvoke e (A.U.setTop g) [] mk a).1 (B.U.setTop { g with pc := g.pc + len, stack := v.toList ++ g.stack })) ∨
    (∃ (q : Addr) (B : Pt), Stand p l e R s m sargs below meth c B.U B.locs B.cells B.slots ∧ PostX A a q B ∧
      Steps p.tables e below (doInvoke e (A.U.setTop g) [] mk a).1 ((B.U.setTop g).pushFrame (.throwing q)))
section Payer
variable {l : Launch} {R : Room} {p : Program} {e : Env} {below : List Frame} {s : State} {sargs : Array Value} {y : MethodName} {len W9 : Nat}
theorem vx_back {ws : List Cond} {rm : Room} {Pc : Array Value → State → Prop} {Qc : Array Value → State → Outcome → State → Prop} {XC : String → State → State → Prop} {mc ms : Nat} {free : Addr → Prop} {bytes : ByteArray} {maxL : Nat} {ret : Option FieldType}
    (hM : vx_Met l y ws rm Pc Qc XC mc ms free) (hblind : FrameBlind Pc) (hrc : rm.cells = mc) (hrs : rm.slots = ms)
    (hframes : rm.frames + 1 ≤ R.frames) (hlocals : W9 + (maxL + 11) + rm.locals ≤ R.locals)
    (hws : ∀ w ∈ ws, ∀ a' U, s.WarmedH U.vm → w.before a' U = true) (hcode : Cond.code y bytes maxL ret ∈ ws) (hinit : ∀ a' U, s.WarmedH U.vm → (Cond.initialized y.cls).before a' U = true) :
    vx_Back l R p e below s sargs y len W9 (PreOf R mc ms Pc) (PostOf Qc mc ms free) (vx_Post XC mc ms free) := by
  intro m meth c A g ig mk a X hg hsize hdg hW hn hp
  have h1 : (headSpec ws rm).pre.before a A.U = true := atoms_intro fun w hw => hws w hw _ _ X.warmed
  have h2 : (Cond.code y bytes maxL ret).before a A.U = true := hws _ hcode _ _ X.warmed
  have h3 : (Cond.initialized y.cls).before a A.U = true := hinit _ _ X.warmed
  have h4 : A.cells + (headSpec ws rm).room.cells ≤ R.cells := by rw [show (headSpec ws rm).room.cells = mc from hrc]; exact hp.1
  have h5 : A.slots + (headSpec ws rm).room.slots ≤ R.slots := by rw [show (headSpec ws rm).room.slots = ms from hrs]; exact hp.2.1
  have hPc : Pc a (A.U.calling g mk a) := hblind _ _ _ _ hp.2.2
  obtain ⟨U, Ls, c0, s0⟩ := A
  dsimp only [Pt.U, Pt.locs, Pt.cells, Pt.slots] at h1 h2 h3 h4 h5 X hn hPc ⊢
  obtain ⟨methY, cY, hmY, hcY, -, hlY, -, -, -, -⟩ := Cond.code_spec hn h2
  obtain ⟨kY, hkY, -⟩ := className_of_methodNamed hn
  have hinitY : kY.init = .initialized := Cond.initialized_spec (findClass_of_methodNamed hn) hkY h3
  have h : At U g.method c below := by rw [hg]; exact X.here
  have hlocals9 : W9 + (maxL + 11) + (headSpec ws rm).room.locals ≤ R.locals := hlocals
  have happ : (headSpec ws rm).appliesLoose y e.platform (U.calling g mk a) = true :=
    Spec.appliesLoose_calling (g := g) h hdg hn hkY hinitY
      (X.room_calling (g := g) (R' := (headSpec ws rm).room) hsize hmY hcY hframes (by rw [hlY]; omega) h4 h5) h1
  obtain ⟨mid, hmid⟩ := h.above
  have hfr : (U.setTop g).frames = (.java g :: mid) ++ below := by rw [State.frames_setTop' g h.top, hmid]; rfl
  obtain ⟨o, s₂, hsteps, -, hend, hq⟩ := Steps.callFree hM p X.admits X.cas X.clock (acts := []) hfr happ hPc trivial
  have hq' : vx_Q Qc XC mc ms free a (U.calling g mk a) o s₂ := hq
  rw [State.frames_setTop' g h.top] at hend
  obtain ⟨g₀, hg0⟩ := Option.isSome_iff_exists.mp h.top
  obtain ⟨r, hr⟩ := State.topJava?_eq_some.mp hg0
  have hr' : (({ U with heap := s₂.heap, slotsUsed := s₂.slotsUsed } : State).setVm s₂.vm).frames = .java g₀ :: r := hr
  rcases hq' with ⟨hqc, L, hfe, hL⟩ | ⟨q, rfl, E, ce, L, hx, hce, hcv, hcl, hW₂, hsm, hL⟩
  · obtain ⟨⟨v, rfl⟩, hW₂, e2, q2, q3, q4, q5, q6⟩ := id hfe
    have e3 : s₂ = ({ (U.calling g mk a).setFrames s₂.frames with heap := s₂.heap, slotsUsed := s₂.slotsUsed } : State).setVm s₂.vm := by
      have : s₂ = ({ s₂ with vm := (U.calling g mk a).vm } : State).setVm s₂.vm := rfl
      rw [e2] at this
      exact this
    obtain ⟨c₂, i₂, len₂, hc₂, hd₂, hf₂⟩ := hend
    have hW' : U.WarmedH s₂.vm := hW₂
    have hcc : c₂ = c := by
      have h1 : s₂.code? g.method = U.code? g.method := by
        rw [State.code?_eq, State.code?_eq, hW'.alike.method?]
      exact Option.some.inj (hc₂.symm.trans (h1.trans h.code))
    subst hcc
    have hlen : len₂ = len := by rw [hdg] at hd₂; cases hd₂; rfl
    subst hlen
    have hs₂ : s₂ = (({ U with heap := s₂.heap, slotsUsed := s₂.slotsUsed } : State).setVm s₂.vm).setTop { g with pc := g.pc + len₂, stack := v.toList ++ g.stack } := by
      refine e3.trans ?_
      rw [hf₂, State.calling_eq h.top, State.setFrames_setFrames, State.setTop_of_frames _ hr', hr]
      rfl
    have hsame : U.sameButNew ({ U with heap := s₂.heap, slotsUsed := s₂.slotsUsed } : State) L mc ms := by
      refine ⟨?_, q2, q3, q4, q5, q6⟩
      obtain ⟨t, ht, -⟩ := State.frames_cons hr
      show ({ U with heap := s₂.heap, slotsUsed := s₂.slotsUsed } : State) = { U.setFrames U.frames with heap := s₂.heap, slotsUsed := s₂.slotsUsed }
      rw [State.setFrames_self ht]
    subst hg
    refine Or.inl ⟨v, ⟨(({ U with heap := s₂.heap, slotsUsed := s₂.slotsUsed } : State).setVm s₂.vm), Ls ++ L, c0 + mc, s0 + ms⟩,
      ⟨X.admits, X.cas, X.clock, X.frames, X.room, X.hears, X.method, X.code, (X.here.setHeapUsed s₂.heap s₂.slotsUsed).setVm hW'.alike, X.tail, State.WarmedH.trans X.warmed hW', X.limits, X.bytes, X.same.trans (hsame.setVm s.vm)⟩,
      ⟨g, mk, s₂, L, rfl, rfl, hqc, rfl, hL, rfl, rfl⟩, ?_⟩
    show Steps p.tables e below _ ((({ U with heap := s₂.heap, slotsUsed := s₂.slotsUsed } : State).setVm s₂.vm).setTop { g with pc := g.pc + len₂, stack := v.toList ++ g.stack })
    rw [← hs₂]
    exact hsteps
  · obtain ⟨e2, q2, q3, q4, q5, q6⟩ := id hsm
    have e3 : s₂ = ({ (U.calling g mk a).setFrames s₂.frames with heap := s₂.heap, slotsUsed := s₂.slotsUsed } : State).setVm s₂.vm := by
      have : s₂ = ({ s₂ with vm := (U.calling g mk a).vm } : State).setVm s₂.vm := rfl
      rw [e2] at this
      exact this
    have hf₂ : s₂.frames = .throwing q :: .java g :: U.frames.tail := hend
    have hW' : U.WarmedH s₂.vm := hW₂
    have hs₂ : s₂ = ((({ U with heap := s₂.heap, slotsUsed := s₂.slotsUsed } : State).setVm s₂.vm).setTop g).pushFrame (.throwing q) := by
      refine e3.trans ?_
      rw [hf₂, State.calling_eq h.top, State.setFrames_setFrames, State.pushFrame, State.frames_setTop _ hr', State.setTop_of_frames _ hr', State.setFrames_setFrames, hr]
      rfl
    have hsame : U.sameButNew ({ U with heap := s₂.heap, slotsUsed := s₂.slotsUsed } : State) L mc ms := by
      refine ⟨?_, q2, q3, q4, q5, q6⟩
      obtain ⟨t, ht, -⟩ := State.frames_cons hr
      show ({ U with heap := s₂.heap, slotsUsed := s₂.slotsUsed } : State) = { U.setFrames U.frames with heap := s₂.heap, slotsUsed := s₂.slotsUsed }
      rw [State.setFrames_self ht]
    subst hg
    refine Or.inr ⟨q, ⟨(({ U with heap := s₂.heap, slotsUsed := s₂.slotsUsed } : State).setVm s₂.vm), Ls ++ L, c0 + mc, s0 + ms⟩,
      ⟨X.admits, X.cas, X.clock, X.frames, X.room, X.hears, X.method, X.code, (X.here.setHeapUsed s₂.heap s₂.slotsUsed).setVm hW'.alike, X.tail, State.WarmedH.trans X.warmed hW', X.limits, X.bytes, X.same.trans (hsame.setVm s.vm)⟩,
      ⟨g, mk, s₂, L, E, ce, rfl, rfl, hx, hce, hcv, hcl, rfl, hL, rfl, rfl⟩, ?_⟩
    show Steps p.tables e below _ (((({ U with heap := s₂.heap, slotsUsed := s₂.slotsUsed } : State).setVm s₂.vm).setTop g).pushFrame (.throwing q))
    rw [← hs₂]
    exact hsteps
end Payer
section Calls
variable {p : Program} {l : Launch} {e : Env} {R : Room} {s : State} {m : MethodId} {args : Array Value} {below : List Frame} {meth : Method} {c : Code} {T : State} {locs : List Loc} {cells slots : Nat}
theorem vx_callV (X : Stand p l e R s m args below meth c T locs cells slots) (hexec : p.tables.exec = Jvm.exec) {own C : String} {index : Nat} {y : MethodName} {bytes : ByteArray} {maxL : Nat} {ret : Option FieldType}
    (hown : s.vm.findClass own = some m.cls) (hlink : (Cond.methodLink own index y).before args s = true) (hinst : (Cond.instanceMethod y).before args s = true) (hsel : (Cond.selects C y y).before args s = true)
    (hcode : (Cond.code y bytes maxL ret).before args s = true) (hy : y.cls ≠ "java/lang/invoke/MethodHandle" ∧ y.cls ≠ "java/lang/invoke/VarHandle")
    {W9 : Nat} {Pre : Pt → Array Value → Prop} {Post : Pt → Array Value → Option Value → Pt → Prop} {PostX : Pt → Array Value → Addr → Pt → Prop} (hK : vx_Back l R p e below s args y 3 W9 Pre Post PostX)
    {b : Addr} {cellB : Cell} (hcell : T.heap[b]? = some cellB) (hobj : cellB.vm.isStatics = false) (hcls : s.vm.findClass C = some cellB.cls)
    {g : JFrame} (hg : g.method = m) (hsize : g.locals.size = c.maxLocals) {argsL rest : List Value} (hlen : ∀ sig, parseMethodDescriptor y.desc = some sig → argsL.length = sig.parameters.length)
    (hstack : g.stack = argsL.reverse ++ .ref b :: rest) (hW : 2 * g.monitorRoom + (rest.map fun v => v.category).sum ≤ W9) (hdg : decode c.code g.pc = .ok (.invokevirtual index, 3))
    (hpre : ∀ vm₁, s.WarmedH vm₁ → Pre ⟨T.setVm vm₁, locs, cells, slots⟩ (Value.ref b :: argsL).toArray) :
    (∃ (v : Option Value) (vm₁ : Vm) (B : Pt), s.WarmedH vm₁ ∧ Stand p l e R s m args below meth c B.U B.locs B.cells B.slots ∧ Post ⟨T.setVm vm₁, locs, cells, slots⟩ (Value.ref b :: argsL).toArray v B ∧
      ∀ target, Steps p.tables e below (B.U.setTop { g with pc := g.pc + 3, stack := v.toList ++ rest }) target → Steps p.tables e below (T.setTop g) target) ∨
    (∃ (q : Addr) (vm₁ : Vm) (B : Pt), s.WarmedH vm₁ ∧ Stand p l e R s m args below meth c B.U B.locs B.cells B.slots ∧ PostX ⟨T.setVm vm₁, locs, cells, slots⟩ (Value.ref b :: argsL).toArray q B ∧
      Steps p.tables e below (T.setTop g) ((B.U.setTop { g with stack := rest }).pushFrame (.throwing q))) := by
  obtain ⟨mk, methM, hnamed, hmethM, hstM, habM⟩ := Cond.instanceMethod_spec hinst
  obtain ⟨methM', cM, hmethM', -, -, -, -, -, -, hsigM⟩ := Cond.code_spec hnamed hcode
  cases hmethM.symm.trans hmethM'
  obtain ⟨c2, r2, m2, q1, q2, q3, q4, kP, hkP, hkPi⟩ := Cond.selects_spec hsel
  cases hcls.symm.trans q1
  cases (State.methodFound?_of_named hnamed hy).symm.trans q2
  cases hnamed.symm.trans q3
  have hselP : selectMethod e.platform s.vm cellB.cls mk = .method mk := by rw [Launch.admits_selectMethod X.admits]; exact q4
  obtain ⟨vm₁, X₁, hstep₁⟩ := X.invokevirtual hexec hown hlink hnamed hmethM hstM hkP hkPi hy (a := b) (cell := cellB) hcell
    (fun z h => by rw [h] at hobj; cases hobj) hselP hmethM habM hkP hkPi (g := g) hg (argsL := argsL) (rest := rest) (hlen _ hsigM) hstack hdg
  rcases hK m meth c ⟨T.setVm vm₁, locs, cells, slots⟩ { g with stack := rest } (.invokevirtual index) mk (Value.ref b :: argsL).toArray X₁ hg hsize hdg hW (X₁.named hnamed) (hpre vm₁ X₁.warmed) with ⟨v, B, X', hpost, hsteps⟩ | ⟨q, B, X', hpost, hsteps⟩
  · exact Or.inl ⟨v, vm₁, B, X₁.warmed, X', hpost, fun target h => hstep₁ _ fun acts => by rw [doInvoke_state]; exact hsteps.trans h⟩
  · exact Or.inr ⟨q, vm₁, B, X₁.warmed, X', hpost, hstep₁ _ fun acts => by rw [doInvoke_state]; exact hsteps⟩
theorem vx_callS (X : Stand p l e R s m args below meth c T locs cells slots) (hexec : p.tables.exec = Jvm.exec) {own : String} {index : Nat} {y : MethodName} {bytes : ByteArray} {maxL : Nat} {ret : Option FieldType}
    (hown : s.vm.findClass own = some m.cls) (hlink : (Cond.methodLink own index y).before args s = true) (hstat : (Cond.static y).before args s = true) (hinit : (Cond.initialized y.cls).before args s = true)
    (hcode : (Cond.code y bytes maxL ret).before args s = true) (hy : y.cls ≠ "java/lang/invoke/MethodHandle" ∧ y.cls ≠ "java/lang/invoke/VarHandle")
    {W9 : Nat} {Pre : Pt → Array Value → Prop} {Post : Pt → Array Value → Option Value → Pt → Prop} {PostX : Pt → Array Value → Addr → Pt → Prop} (hK : vx_Back l R p e below s args y 3 W9 Pre Post PostX)
    {g : JFrame} (hg : g.method = m) (hsize : g.locals.size = c.maxLocals) {argsL rest : List Value} (hlen : ∀ sig, parseMethodDescriptor y.desc = some sig → argsL.length = sig.parameters.length)
    (hstack : g.stack = argsL.reverse ++ rest) (hW : 2 * g.monitorRoom + (rest.map fun v => v.category).sum ≤ W9) (hdg : decode c.code g.pc = .ok (.invokestatic index, 3))
    (hpre : ∀ vm₁, s.WarmedH vm₁ → Pre ⟨T.setVm vm₁, locs, cells, slots⟩ argsL.toArray) :
    (∃ (v : Option Value) (vm₁ : Vm) (B : Pt), s.WarmedH vm₁ ∧ Stand p l e R s m args below meth c B.U B.locs B.cells B.slots ∧ Post ⟨T.setVm vm₁, locs, cells, slots⟩ argsL.toArray v B ∧
      ∀ target, Steps p.tables e below (B.U.setTop { g with pc := g.pc + 3, stack := v.toList ++ rest }) target → Steps p.tables e below (T.setTop g) target) ∨
    (∃ (q : Addr) (vm₁ : Vm) (B : Pt), s.WarmedH vm₁ ∧ Stand p l e R s m args below meth c B.U B.locs B.cells B.slots ∧ PostX ⟨T.setVm vm₁, locs, cells, slots⟩ argsL.toArray q B ∧
      Steps p.tables e below (T.setTop g) ((B.U.setTop { g with stack := rest }).pushFrame (.throwing q))) := by
  obtain ⟨mk, hnamed⟩ := Cond.code_named hcode
  obtain ⟨methM, cM, hmethM, -, -, -, -, -, -, hsigM⟩ := Cond.code_spec hnamed hcode
  have hstatic : methM.isStatic = true := Cond.static_spec hnamed hmethM hstat
  obtain ⟨kP, hkP, -⟩ := className_of_methodNamed hnamed
  have hinitP : kP.init = .initialized := Cond.initialized_spec (findClass_of_methodNamed hnamed) hkP hinit
  obtain ⟨vm₁, X₁, hstep₁⟩ := X.invokestatic hexec hown hlink hnamed hmethM hstatic hkP hinitP hy (g := g) hg (argsL := argsL) (rest := rest) (hlen _ hsigM) hstack hdg
  rcases hK m meth c ⟨T.setVm vm₁, locs, cells, slots⟩ { g with stack := rest } (.invokestatic index) mk argsL.toArray X₁ hg hsize hdg hW (X₁.named hnamed) (hpre vm₁ X₁.warmed) with ⟨v, B, X', hpost, hsteps⟩ | ⟨q, B, X', hpost, hsteps⟩
  · exact Or.inl ⟨v, vm₁, B, X₁.warmed, X', hpost, fun target h => hstep₁ _ fun acts => by rw [doInvoke_state]; exact hsteps.trans h⟩
  · exact Or.inr ⟨q, vm₁, B, X₁.warmed, X', hpost, hstep₁ _ fun acts => by rw [doInvoke_state]; exact hsteps⟩
end Calls
theorem vx_cls {s : State} {T : State} {vm₁ : Vm} {E : String} {k : ClassId} (hW : s.WarmedH vm₁) (h : (T.setVm vm₁).vm.findClass E = some k) : s.vm.findClass E = some k := by
  have h1 : vm₁.findClass E = some k := h
  rw [hW.alike.findClass] at h1
  exact h1
/-- the method's frame g, with q thrown over it -/
def vx_W (p : Program) (l : Launch) (e : Env) (R : Room) (s : State) (m : MethodId) (args : Array Value) (below : List Frame) (meth : Method) (c : Code) (H : Heap) (locs : List Loc) (cells slots : Nat) (Q : State → Prop) (g : JFrame) (q : Addr) : Prop :=
  ∀ T : State, T.heap = H → Stand p l e R s m args below meth c T locs cells slots → ∃ t, Steps p.tables e below ((T.setTop g).pushFrame (.throwing q)) t ∧ Q t
def vx_Run (p : Program) (l : Launch) (e : Env) (R : Room) (s : State) (m : MethodId) (args : Array Value) (below : List Frame) (meth : Method) (c : Code) (H : Heap) (locs : List Loc) (cells slots mc ms : Nat) (g : JFrame) (rest : List Value) (Qa : State → Outcome → State → Prop) (XC : String → State → State → Prop) (free : Addr → Prop) : Prop :=
  ∀ T : State, T.heap = H → Stand p l e R s m args below meth c T locs cells slots →
    (∃ (v : Option Value) (st₀ t T' : State) (L : List Loc), st₀.heap = H ∧ Stand p l e R s m args below meth c T' (locs ++ L) (cells + mc) (slots + ms) ∧ (∀ q ∈ L, free q.base) ∧ T'.heap = t.heap ∧ T'.vm = t.vm ∧ Qa st₀ (.returned v) t ∧
      Goes p e below T g T' { g with pc := g.pc + 3, stack := v.toList ++ rest }) ∨
    (∃ (q : Addr) (st₀ t T' : State) (L : List Loc) (E : String) (ce : Cell), st₀.heap = H ∧ Stand p l e R s m args below meth c T' (locs ++ L) (cells + mc) (slots + ms) ∧ (∀ z ∈ L, free z.base) ∧ T'.heap = t.heap ∧ T'.vm = t.vm ∧ XC E st₀ t ∧ t.heap[q]? = some ce ∧ ce.vm = .none ∧ s.vm.findClass E = some ce.cls ∧
      Steps p.tables e below (T.setTop g) ((T'.setTop { g with stack := rest }).pushFrame (.throwing q)))
def vx_X {S : Type} (px : S → Prop) (B : String → S → State → Prop) (A : Nat → Prop) : String → State → State → Prop := fun E st t => ∃ u : S, px u ∧ B E u t ∧ va_F A st t
section Runs
variable {p : Program} {l : Launch} {e : Env} {R : Room} {s : State} {m : MethodId} {args : Array Value} {below : List Frame} {meth : Method} {c : Code} {H : Heap} {locs : List Loc} {cells slots : Nat}
variable {y : MethodName} {bytes cc : ByteArray} {maxL nL mc ms n index : Nat} {ret : Option FieldType} {ws : List Cond} {rm : Room} {Pc : Array Value → State → Prop} {Qc : Array Value → State → Outcome → State → Prop} {XC : String → State → State → Prop} {free : Addr → Prop} {Ts : List Cond} {own C : String} {b : Addr} {As rest : List Value} {g : JFrame}
theorem vx_callBack (cb : CallB R s args own index y bytes maxL ret ws rm mc ms n) (hM : vx_Met l y ws rm Pc Qc XC mc ms free) (hbl : FrameBlind Pc) : vx_Back l R p e below s args y 3 8 (PreOf R mc ms Pc) (PostOf Qc mc ms free) (vx_Post XC mc ms free) := by
  obtain ⟨hrc, hrs, hfr, hlo, hws, hcw, -, hini, -⟩ := cb
  exact vx_back (bytes := bytes) (maxL := maxL) (ret := ret) hM hbl hrc hrs hfr hlo hws hcw (fun a' U hW => word_at hW (Or.inl (by first | rfl | simp [Cond.onTables, Cond.keeps, Cond.steady])) hini)
theorem vx_runV (S : CallFix p m c cc nL s args Ts own) (hM : vx_Met l y ws rm Pc Qc XC mc ms free) (cw : CallW R s args own C index y bytes maxL ret ws rm mc ms n) (hp : PreV s H C b Pc As)
    (hg : g.method = m) (hn : As.length = n) (hsize : g.locals.size = nL) (hstack : g.stack = As.reverse ++ .ref b :: rest) (hW : 2 * g.monitorRoom + (rest.map fun v => v.category).sum ≤ 8) (hdg : decode cc g.pc = .ok (.invokevirtual index, 3)) (hf : cells + mc ≤ R.cells ∧ slots + ms ≤ R.slots) :
    vx_Run p l e R s m args below meth c H locs cells slots mc ms g rest (Qc (Value.ref b :: As).toArray) XC free := by
  have hK : vx_Back l R p e below s args y 3 8 (PreOf R mc ms Pc) (PostOf Qc mc ms free) (vx_Post XC mc ms free) := vx_callBack cw.1 hM hp.1
  obtain ⟨⟨-, -, -, -, -, -, hcode, -, hy, hlen, hl⟩, hin, hse⟩ := cw
  obtain ⟨hx, hb, hml, ho, -⟩ := S
  obtain ⟨-, ⟨cellB, hcB, hoB, hclB⟩, hPc⟩ := hp
  intro T hT X
  rcases vx_callV X hx (C := C) (bytes := bytes) (maxL := maxL) (ret := ret) ho hl hin hse hcode hy hK (by rw [hT]; exact hcB) hoB hclB hg (hsize.trans hml.symm) (argsL := As) (rest := rest) (fun sig h => hn.trans (hlen sig h)) hstack hW (by rw [hb]; exact hdg)
    (fun vm₁ hW₁ => ⟨hf.1, hf.2, hPc (T.setVm vm₁) hT hW₁⟩) with ⟨v, vm₁, ⟨U', l2, c2, s2⟩, hW₁, X', ⟨g', mk, t, L, e1, e2, hq, h1, hL, h2, h3⟩, st⟩ | ⟨q, vm₁, ⟨U', l2, c2, s2⟩, hW₁, X', ⟨g', mk, t, L, E, ce, e1, e2, hq, hce, hcv, hcl, h1, hL, h2, h3⟩, st⟩
  · dsimp only [Pt.U, Pt.locs, Pt.cells, Pt.slots] at X' e1 e2 h1 h2 h3 st
    subst h1; subst h2; subst h3
    exact Or.inl ⟨v, (T.setVm vm₁).calling g' mk (Value.ref b :: As).toArray, t, U', L, hT, X', hL, e1, e2, hq, st⟩
  · dsimp only [Pt.U, Pt.locs, Pt.cells, Pt.slots] at X' e1 e2 h1 h2 h3 st hcl
    subst h1; subst h2; subst h3
    exact Or.inr ⟨q, (T.setVm vm₁).calling g' mk (Value.ref b :: As).toArray, t, U', L, E, ce, hT, X', hL, e1, e2, hq, hce, hcv, vx_cls hW₁ hcl, st⟩
theorem vx_runS (S : CallFix p m c cc nL s args Ts own) (hM : vx_Met l y ws rm Pc Qc XC mc ms free) (cw : CallB R s args own index y bytes maxL ret ws rm mc ms n ∧ (Cond.static y).before args s = true) (hp : PreS s H Pc As)
    (hg : g.method = m) (hn : As.length = n) (hsize : g.locals.size = nL) (hstack : g.stack = As.reverse ++ rest) (hW : 2 * g.monitorRoom + (rest.map fun v => v.category).sum ≤ 8) (hdg : decode cc g.pc = .ok (.invokestatic index, 3)) (hf : cells + mc ≤ R.cells ∧ slots + ms ≤ R.slots) :
    vx_Run p l e R s m args below meth c H locs cells slots mc ms g rest (Qc As.toArray) XC free := by
  have hK : vx_Back l R p e below s args y 3 8 (PreOf R mc ms Pc) (PostOf Qc mc ms free) (vx_Post XC mc ms free) := vx_callBack cw.1 hM hp.1
  obtain ⟨⟨-, -, -, -, -, -, hcode, hini, hy, hlen, hl⟩, hstt⟩ := cw
  obtain ⟨hx, hb, hml, ho, -⟩ := S
  intro T hT X
  rcases vx_callS X hx (bytes := bytes) (maxL := maxL) (ret := ret) ho hl hstt hini hcode hy hK hg (hsize.trans hml.symm) (argsL := As) (rest := rest) (fun sig h => hn.trans (hlen sig h)) hstack hW (by rw [hb]; exact hdg)
    (fun vm₁ hW₁ => ⟨hf.1, hf.2, hp.2 (T.setVm vm₁) hT hW₁⟩) with ⟨v, vm₁, ⟨U', l2, c2, s2⟩, hW₁, X', ⟨g', mk, t, L, e1, e2, hq, h1, hL, h2, h3⟩, st⟩ | ⟨q, vm₁, ⟨U', l2, c2, s2⟩, hW₁, X', ⟨g', mk, t, L, E, ce, e1, e2, hq, hce, hcv, hcl, h1, hL, h2, h3⟩, st⟩
  · dsimp only [Pt.U, Pt.locs, Pt.cells, Pt.slots] at X' e1 e2 h1 h2 h3 st
    subst h1; subst h2; subst h3
    exact Or.inl ⟨v, (T.setVm vm₁).calling g' mk As.toArray, t, U', L, hT, X', hL, e1, e2, hq, st⟩
  · dsimp only [Pt.U, Pt.locs, Pt.cells, Pt.slots] at X' e1 e2 h1 h2 h3 st hcl
    subst h1; subst h2; subst h3
    exact Or.inr ⟨q, (T.setVm vm₁).calling g' mk As.toArray, t, U', L, E, ce, hT, X', hL, e1, e2, hq, hce, hcv, vx_cls hW₁ hcl, st⟩
end Runs
section Rows
variable {p : Program} {l : Launch} {e : Env} {R : Room} {s : State} {m : MethodId} {args : Array Value} {below : List Frame} {meth : Method} {c : Code} {H : Heap} {locs : List Loc} {cells slots : Nat} {Q : State → Prop}
variable {mc ms : Nat} {free : Addr → Prop} {A0 A1 : Nat → Prop} {H0 : Heap} {a : Array Value} {pc : Nat} {ls : Array Slot} {st0 rest : List Value}
theorem vx_keep {st₀ t T' : State} {L : List Loc} (h0 : st₀.heap = H) (e1 : T'.heap = t.heap) (hS : va_S A0 H0 H locs) (hA : ∀ q, q < H.size → A1 q → A0 q) (hf : ∀ q, free q → A0 q) (hL : ∀ q ∈ L, free q.base) (hF : va_F A1 st₀ t) :
    H.size ≤ T'.heap.size ∧ (∀ q : Nat, q < H.size → ¬ A1 q → T'.heap[q]? = H[q]?) ∧ va_S A0 H0 T'.heap (locs ++ L) := by
  obtain ⟨hz, hk⟩ := hF
  rw [h0] at hz hk
  exact ⟨by rw [e1]; exact hz, fun q h1 h2 => by rw [e1]; exact hk q h1 h2,
    ⟨Nat.le_trans hS.1 (by rw [e1]; exact hz), fun q h1 h2 => by rw [e1, hk q (Nat.lt_of_lt_of_le h1 hS.1) (fun z => h2 (hA q (Nat.lt_of_lt_of_le h1 hS.1) z))]; exact hS.2.1 q h1 h2, fun q hq => by
      rcases List.mem_append.mp hq with h | h
      · exact hS.2.2 q h
      · exact hf _ (hL q h)⟩⟩
theorem vx_calli {S SX : Type} {post : Int32 → S → Prop} {px : SX → Prop} {B : S → State → Prop} {BX : String → SX → State → Prop} {AX : Nat → Prop} (hr : vx_Run p l e R s m args below meth c H locs cells slots mc ms (F0 m pc ls st0) rest (va_Qi post B A1 a) (vx_X px BX AX) free) (hS : va_S A0 H0 H locs) (hA : ∀ q, q < H.size → A1 q → A0 q) (hf : ∀ q, free q → A0 q) (hAX : ∀ q, q < H.size → AX q → A0 q)
    (kx : ∀ (E : String) (ce : Cell) (q9 : Addr) (u : SX) (t : State) (H1 : Heap) (locs1 : List Loc), t.heap = H1 → s.vm.Alike t.vm → px u → BX E u t → H.size ≤ H1.size → (∀ q : Nat, q < H.size → ¬ AX q → H1[q]? = H[q]?) → va_S A0 H0 H1 locs1 → H1[q9]? = some ce → ce.vm = .none → s.vm.findClass E = some ce.cls → vx_W p l e R s m args below meth c H1 locs1 (cells + mc) (slots + ms) Q (F0 m pc ls rest) q9)
    (kk : ∀ (r : Int32) (u : S) (t : State) (H1 : Heap) (locs1 : List Loc), t.heap = H1 → s.vm.Alike t.vm → post r u → B u t → H.size ≤ H1.size → (∀ q : Nat, q < H.size → ¬ A1 q → H1[q]? = H[q]?) → va_S A0 H0 H1 locs1 → W p l e R s m args below meth c H1 locs1 (cells + mc) (slots + ms) Q (F0 m (pc + 3) ls (.int r :: rest))) : W p l e R s m args below meth c H locs cells slots Q (F0 m pc ls st0) := by
  intro T hT X
  rcases hr T hT X with ⟨v, st₀, t, T', L, h0, X', hL, e1, e2, ⟨⟨r, u, hv, hp, hb⟩, hF⟩, st⟩ | ⟨q, st₀, t, T', L, E, ce, h0, X', hL, e1, e2, ⟨u, hp, hb, hF⟩, hce, hcv, hcl, st⟩
  · cases hv
    obtain ⟨k1, k2, k3⟩ := vx_keep h0 e1 hS hA hf hL hF
    obtain ⟨t2, a1, b1⟩ := kk r u t T'.heap (locs ++ L) e1.symm (by rw [← e2]; exact X'.warmed.alike) hp hb k1 k2 k3 T' rfl X'
    exact ⟨t2, st t2 a1, b1⟩
  · obtain ⟨k1, k2, k3⟩ := vx_keep h0 e1 hS hAX hf hL hF
    obtain ⟨t2, a1, b1⟩ := kx E ce q u t T'.heap (locs ++ L) e1.symm (by rw [← e2]; exact X'.warmed.alike) hp hb k1 k2 k3 (by rw [e1]; exact hce) hcv hcl T' rfl X'
    exact ⟨t2, st.trans a1, b1⟩
theorem vx_calll {S SX : Type} {post : Int64 → S → Prop} {px : SX → Prop} {B : S → State → Prop} {BX : String → SX → State → Prop} {AX : Nat → Prop} (hr : vx_Run p l e R s m args below meth c H locs cells slots mc ms (F0 m pc ls st0) rest (va_Ql post B A1 a) (vx_X px BX AX) free) (hS : va_S A0 H0 H locs) (hA : ∀ q, q < H.size → A1 q → A0 q) (hf : ∀ q, free q → A0 q) (hAX : ∀ q, q < H.size → AX q → A0 q)
    (kx : ∀ (E : String) (ce : Cell) (q9 : Addr) (u : SX) (t : State) (H1 : Heap) (locs1 : List Loc), t.heap = H1 → s.vm.Alike t.vm → px u → BX E u t → H.size ≤ H1.size → (∀ q : Nat, q < H.size → ¬ AX q → H1[q]? = H[q]?) → va_S A0 H0 H1 locs1 → H1[q9]? = some ce → ce.vm = .none → s.vm.findClass E = some ce.cls → vx_W p l e R s m args below meth c H1 locs1 (cells + mc) (slots + ms) Q (F0 m pc ls rest) q9)
    (kk : ∀ (r : Int64) (u : S) (t : State) (H1 : Heap) (locs1 : List Loc), t.heap = H1 → s.vm.Alike t.vm → post r u → B u t → H.size ≤ H1.size → (∀ q : Nat, q < H.size → ¬ A1 q → H1[q]? = H[q]?) → va_S A0 H0 H1 locs1 → W p l e R s m args below meth c H1 locs1 (cells + mc) (slots + ms) Q (F0 m (pc + 3) ls (.long r :: rest))) : W p l e R s m args below meth c H locs cells slots Q (F0 m pc ls st0) := by
  intro T hT X
  rcases hr T hT X with ⟨v, st₀, t, T', L, h0, X', hL, e1, e2, ⟨⟨r, u, hv, hp, hb⟩, hF⟩, st⟩ | ⟨q, st₀, t, T', L, E, ce, h0, X', hL, e1, e2, ⟨u, hp, hb, hF⟩, hce, hcv, hcl, st⟩
  · cases hv
    obtain ⟨k1, k2, k3⟩ := vx_keep h0 e1 hS hA hf hL hF
    obtain ⟨t2, a1, b1⟩ := kk r u t T'.heap (locs ++ L) e1.symm (by rw [← e2]; exact X'.warmed.alike) hp hb k1 k2 k3 T' rfl X'
    exact ⟨t2, st t2 a1, b1⟩
  · obtain ⟨k1, k2, k3⟩ := vx_keep h0 e1 hS hAX hf hL hF
    obtain ⟨t2, a1, b1⟩ := kx E ce q u t T'.heap (locs ++ L) e1.symm (by rw [← e2]; exact X'.warmed.alike) hp hb k1 k2 k3 (by rw [e1]; exact hce) hcv hcl T' rfl X'
    exact ⟨t2, st.trans a1, b1⟩
theorem vx_callf {S SX : Type} {post : UInt32 → S → Prop} {px : SX → Prop} {B : S → State → Prop} {BX : String → SX → State → Prop} {AX : Nat → Prop} (hr : vx_Run p l e R s m args below meth c H locs cells slots mc ms (F0 m pc ls st0) rest (va_Qf post B A1 a) (vx_X px BX AX) free) (hS : va_S A0 H0 H locs) (hA : ∀ q, q < H.size → A1 q → A0 q) (hf : ∀ q, free q → A0 q) (hAX : ∀ q, q < H.size → AX q → A0 q)
    (kx : ∀ (E : String) (ce : Cell) (q9 : Addr) (u : SX) (t : State) (H1 : Heap) (locs1 : List Loc), t.heap = H1 → s.vm.Alike t.vm → px u → BX E u t → H.size ≤ H1.size → (∀ q : Nat, q < H.size → ¬ AX q → H1[q]? = H[q]?) → va_S A0 H0 H1 locs1 → H1[q9]? = some ce → ce.vm = .none → s.vm.findClass E = some ce.cls → vx_W p l e R s m args below meth c H1 locs1 (cells + mc) (slots + ms) Q (F0 m pc ls rest) q9)
    (kk : ∀ (r : UInt32) (u : S) (t : State) (H1 : Heap) (locs1 : List Loc), t.heap = H1 → s.vm.Alike t.vm → post r u → B u t → H.size ≤ H1.size → (∀ q : Nat, q < H.size → ¬ A1 q → H1[q]? = H[q]?) → va_S A0 H0 H1 locs1 → W p l e R s m args below meth c H1 locs1 (cells + mc) (slots + ms) Q (F0 m (pc + 3) ls (.float r :: rest))) : W p l e R s m args below meth c H locs cells slots Q (F0 m pc ls st0) := by
  intro T hT X
  rcases hr T hT X with ⟨v, st₀, t, T', L, h0, X', hL, e1, e2, ⟨⟨r, u, hv, hp, hb⟩, hF⟩, st⟩ | ⟨q, st₀, t, T', L, E, ce, h0, X', hL, e1, e2, ⟨u, hp, hb, hF⟩, hce, hcv, hcl, st⟩
  · cases hv
    obtain ⟨k1, k2, k3⟩ := vx_keep h0 e1 hS hA hf hL hF
    obtain ⟨t2, a1, b1⟩ := kk r u t T'.heap (locs ++ L) e1.symm (by rw [← e2]; exact X'.warmed.alike) hp hb k1 k2 k3 T' rfl X'
    exact ⟨t2, st t2 a1, b1⟩
  · obtain ⟨k1, k2, k3⟩ := vx_keep h0 e1 hS hAX hf hL hF
    obtain ⟨t2, a1, b1⟩ := kx E ce q u t T'.heap (locs ++ L) e1.symm (by rw [← e2]; exact X'.warmed.alike) hp hb k1 k2 k3 (by rw [e1]; exact hce) hcv hcl T' rfl X'
    exact ⟨t2, st.trans a1, b1⟩
theorem vx_calld {S SX : Type} {post : UInt64 → S → Prop} {px : SX → Prop} {B : S → State → Prop} {BX : String → SX → State → Prop} {AX : Nat → Prop} (hr : vx_Run p l e R s m args below meth c H locs cells slots mc ms (F0 m pc ls st0) rest (va_Qd post B A1 a) (vx_X px BX AX) free) (hS : va_S A0 H0 H locs) (hA : ∀ q, q < H.size → A1 q → A0 q) (hf : ∀ q, free q → A0 q) (hAX : ∀ q, q < H.size → AX q → A0 q)
    (kx : ∀ (E : String) (ce : Cell) (q9 : Addr) (u : SX) (t : State) (H1 : Heap) (locs1 : List Loc), t.heap = H1 → s.vm.Alike t.vm → px u → BX E u t → H.size ≤ H1.size → (∀ q : Nat, q < H.size → ¬ AX q → H1[q]? = H[q]?) → va_S A0 H0 H1 locs1 → H1[q9]? = some ce → ce.vm = .none → s.vm.findClass E = some ce.cls → vx_W p l e R s m args below meth c H1 locs1 (cells + mc) (slots + ms) Q (F0 m pc ls rest) q9)
    (kk : ∀ (r : UInt64) (u : S) (t : State) (H1 : Heap) (locs1 : List Loc), t.heap = H1 → s.vm.Alike t.vm → post r u → B u t → H.size ≤ H1.size → (∀ q : Nat, q < H.size → ¬ A1 q → H1[q]? = H[q]?) → va_S A0 H0 H1 locs1 → W p l e R s m args below meth c H1 locs1 (cells + mc) (slots + ms) Q (F0 m (pc + 3) ls (.double r :: rest))) : W p l e R s m args below meth c H locs cells slots Q (F0 m pc ls st0) := by
  intro T hT X
  rcases hr T hT X with ⟨v, st₀, t, T', L, h0, X', hL, e1, e2, ⟨⟨r, u, hv, hp, hb⟩, hF⟩, st⟩ | ⟨q, st₀, t, T', L, E, ce, h0, X', hL, e1, e2, ⟨u, hp, hb, hF⟩, hce, hcv, hcl, st⟩
  · cases hv
    obtain ⟨k1, k2, k3⟩ := vx_keep h0 e1 hS hA hf hL hF
    obtain ⟨t2, a1, b1⟩ := kk r u t T'.heap (locs ++ L) e1.symm (by rw [← e2]; exact X'.warmed.alike) hp hb k1 k2 k3 T' rfl X'
    exact ⟨t2, st t2 a1, b1⟩
  · obtain ⟨k1, k2, k3⟩ := vx_keep h0 e1 hS hAX hf hL hF
    obtain ⟨t2, a1, b1⟩ := kx E ce q u t T'.heap (locs ++ L) e1.symm (by rw [← e2]; exact X'.warmed.alike) hp hb k1 k2 k3 (by rw [e1]; exact hce) hcv hcl T' rfl X'
    exact ⟨t2, st.trans a1, b1⟩
theorem vx_callv {S SX : Type} {post : S → Prop} {px : SX → Prop} {B : S → State → Prop} {BX : String → SX → State → Prop} {AX : Nat → Prop} (hr : vx_Run p l e R s m args below meth c H locs cells slots mc ms (F0 m pc ls st0) rest (va_Qv post B A1 a) (vx_X px BX AX) free) (hS : va_S A0 H0 H locs) (hA : ∀ q, q < H.size → A1 q → A0 q) (hf : ∀ q, free q → A0 q) (hAX : ∀ q, q < H.size → AX q → A0 q)
    (kx : ∀ (E : String) (ce : Cell) (q9 : Addr) (u : SX) (t : State) (H1 : Heap) (locs1 : List Loc), t.heap = H1 → s.vm.Alike t.vm → px u → BX E u t → H.size ≤ H1.size → (∀ q : Nat, q < H.size → ¬ AX q → H1[q]? = H[q]?) → va_S A0 H0 H1 locs1 → H1[q9]? = some ce → ce.vm = .none → s.vm.findClass E = some ce.cls → vx_W p l e R s m args below meth c H1 locs1 (cells + mc) (slots + ms) Q (F0 m pc ls rest) q9)
    (kk : ∀ (u : S) (t : State) (H1 : Heap) (locs1 : List Loc), t.heap = H1 → s.vm.Alike t.vm → post u → B u t → H.size ≤ H1.size → (∀ q : Nat, q < H.size → ¬ A1 q → H1[q]? = H[q]?) → va_S A0 H0 H1 locs1 → W p l e R s m args below meth c H1 locs1 (cells + mc) (slots + ms) Q (F0 m (pc + 3) ls (rest))) : W p l e R s m args below meth c H locs cells slots Q (F0 m pc ls st0) := by
  intro T hT X
  rcases hr T hT X with ⟨v, st₀, t, T', L, h0, X', hL, e1, e2, ⟨⟨u, hv, hp, hb⟩, hF⟩, st⟩ | ⟨q, st₀, t, T', L, E, ce, h0, X', hL, e1, e2, ⟨u, hp, hb, hF⟩, hce, hcv, hcl, st⟩
  · cases hv
    obtain ⟨k1, k2, k3⟩ := vx_keep h0 e1 hS hA hf hL hF
    obtain ⟨t2, a1, b1⟩ := kk u t T'.heap (locs ++ L) e1.symm (by rw [← e2]; exact X'.warmed.alike) hp hb k1 k2 k3 T' rfl X'
    exact ⟨t2, st t2 a1, b1⟩
  · obtain ⟨k1, k2, k3⟩ := vx_keep h0 e1 hS hAX hf hL hF
    obtain ⟨t2, a1, b1⟩ := kx E ce q u t T'.heap (locs ++ L) e1.symm (by rw [← e2]; exact X'.warmed.alike) hp hb k1 k2 k3 (by rw [e1]; exact hce) hcv hcl T' rfl X'
    exact ⟨t2, st.trans a1, b1⟩
/-- caught by the row x of this method's table; the rows ahead don't take it -/
theorem vx_catch {own name : String} {E : String} {ce : Cell} {q : Addr} (hown : s.vm.findClass own = some m.cls) (pre : List ExceptionTableEntry) (x : ExceptionTableEntry) (suf : List ExceptionTableEntry) (hsplit : c.exceptionTable.toList = pre ++ x :: suf)
    (hpass : ∀ z ∈ pre, covers z pc = false ∨ (z.catchType ≠ 0 ∧ ∃ nm : String, (Cond.classLink own z.catchType nm).before args s = true ∧ va_Nc E nm s)) (hx : covers x pc = true) (h0 : x.catchType ≠ 0)
    (hlink : (Cond.classLink own x.catchType name).before args s = true) (hcast : (Cond.castable E name).before args s = true) (hcell : H[q]? = some ce) (hv : ce.vm = .none) (hcl : s.vm.findClass E = some ce.cls)
    (kk : W p l e R s m args below meth c H locs cells slots Q (F0 m x.handlerPc ls [.ref q])) : vx_W p l e R s m args below meth c H locs cells slots Q (F0 m pc ls rest) q := by
  intro T hT X
  have hpl : e.platform.magicAccessors = ({} : Platform).magicAccessors := by rw [X.admits.platform]
  obtain ⟨c3, c4, hc3, hc4, hasg⟩ := Cond.castable_spec hcast
  cases Option.some.inj (hc3.symm.trans hcl)
  obtain ⟨c5, hc5, hcl5⟩ := Cond.classLink_spec hown hlink e.platform hpl
  cases Option.some.inj (hc4.symm.trans hc5)
  obtain ⟨vm', X', st⟩ := X.thenCaughtThrough q (g := F0 m pc ls rest) rfl (Steps.refl _) (by rw [hT]; exact hcell) (by rw [hv]; rfl) (by obtain ⟨k9, h9, -⟩ := Vm.findClass_spec hcl; exact ⟨k9, h9⟩) pre x suf hsplit
    (fun z hz => by
      rcases hpass z hz with h | ⟨hz0, nm, hl1, hn1⟩
      · exact Or.inl h
      · obtain ⟨c6, hc6, hcl6⟩ := Cond.classLink_spec hown hl1 e.platform hpl
        obtain ⟨a8, b8, h1, h2, h3⟩ := hn1
        cases Option.some.inj (h1.symm.trans hcl)
        cases Option.some.inj (h2.symm.trans hc6)
        exact Or.inr ⟨hz0, _, hcl6, h3⟩) hx (Or.inr ⟨h0, c4, hcl5, hasg⟩)
  obtain ⟨t, a1, b1⟩ := kk (T.setVm vm') hT X'
  exact ⟨t, st.trans a1, b1⟩
end Rows
section Ends
variable {p : Program} {l : Launch} {e : Env} {R : Room} {s : State} {m : MethodId} {args : Array Value} {below : List Frame} {meth : Method} {c : Code} {H : Heap} {locs : List Loc} {cells slots : Nat} {Q : State → Prop}
variable {mc ms : Nat} {free : Addr → Prop} {A0 A1 : Nat → Prop} {H0 : Heap} {a : Array Value} {ls : Array Slot} {st0 rest : List Value}
variable {Qc : Array Value → State → Outcome → State → Prop} {XC : String → State → State → Prop}
/-- what a body that may throw owes at its end -/
def vx_MQ (below : List Frame) (Qc : Array Value → State → Outcome → State → Prop) (XC : String → State → State → Prop) (a : Array Value) (s : State) (mc ms : Nat) (free : Addr → Prop) : State → Prop := fun t =>
  ∃ o, t.status = .running ∧ Ended t below o ∧ vx_Q Qc XC mc ms free a s o t
theorem vx_ret {g : JFrame} {mc ms : Nat} (k : W p l e R s m args below meth c H locs cells slots (MQ below Qc args s mc ms free) g) : W p l e R s m args below meth c H locs cells slots (vx_MQ below Qc XC args s mc ms free) g := by
  intro T hT X
  obtain ⟨t, a1, o, b1, b2, b3, b4⟩ := k T hT X
  exact ⟨t, a1, o, b1, b2, Or.inl ⟨b3, b4⟩⟩
/-- not caught here: it goes on to the caller -/
theorem vx_widen {g : JFrame} {q : Addr} {k n : Nat} (h1 : cells ≤ k) (h2 : slots ≤ n) (kk : vx_W p l e R s m args below meth c H locs k n Q g q) : vx_W p l e R s m args below meth c H locs cells slots Q g q := fun T hT X => kk T hT (stand_widen X h1 h2)
theorem vx_out {pc : Nat} {E : String} {ce : Cell} {q : Addr} {mc ms : Nat} (hout : ∀ x ∈ c.exceptionTable.toList, covers x pc = false) (hlocks : meth.locks = false) (hcell : H[q]? = some ce) (hv : ce.vm = .none) (hcl : s.vm.findClass E = some ce.cls)
    (hx : ∀ t : State, t.heap = H → s.vm.Alike t.vm → XC E s t) (hf : ∀ z ∈ locs, free z.base) (hc : cells ≤ mc) (hs : slots ≤ ms) :
    vx_W p l e R s m args below meth c H locs cells slots (vx_MQ below Qc XC args s mc ms free) (F0 m pc ls rest) q := by
  intro T hT X
  obtain ⟨st1, hrun, hend, hW, hsm⟩ := X.leaveThrown q (g := F0 m pc ls rest) rfl rfl rfl hout hlocks
  have hcell9 : (T.setFrames (.throwing q :: below)).heap[q]? = some ce := by
    show T.heap[q]? = some ce
    rw [hT]; exact hcell
  exact ⟨_, st1, .threw q, hrun, hend, Or.inr ⟨q, rfl, E, ce, locs, hx _ hT hW.alike, hcell9, hv, hcl, hW, hsm.mono hc hs, hf⟩⟩
theorem vx_frame {U : State} {k n : Nat} (h : s.sameButNew ({ U with vm := s.vm } : State) locs k n) : s.heap.size ≤ U.heap.size ∧ ∀ q : Nat, q < s.heap.size → (∀ z ∈ locs, z.base ≠ q) → U.heap[q]? = s.heap[q]? := by
  obtain ⟨-, h2, -, -, -, h6⟩ := h
  refine ⟨h2, fun q hq hz => ?_⟩
  obtain ⟨c9, e1, e2, e3, e4⟩ := h6 q _ (Array.getElem?_eq_getElem hq)
  have hs : c9.slots = (s.heap[q]).slots := Array.ext_getElem? fun i => e4 i fun hm => hz _ hm rfl
  have h9 : c9 = s.heap[q] := by
    rw [hs] at e2
    exact e2
  have e5 : U.heap[q]? = some c9 := e1
  rw [e5, h9, Array.getElem?_eq_getElem hq]
/-- the words of a throw but the four that speak of the heap -/
def vx_no (w : Cond) : Bool := decide (w ≠ .isRef (.static Bundle.tN "UNASSIGNED_STACK" Bundle.steD)) && decide (w ≠ .isRef (.static Bundle.tN "SUPPRESSED_SENTINEL" Bundle.listD)) && decide (w ≠ .laysStatic Bundle.tN "UNASSIGNED_STACK" Bundle.steD) && decide (w ≠ .laysStatic Bundle.tN "SUPPRESSED_SENTINEL" Bundle.listD)
def vx_at0 (own : String) (ic : Nat) (X : String) (names : List String) : List Cond := (Bundle.ownAtoms0 own ic X names).filter vx_no
def vx_atS (own : String) (ic : Nat) (X : String) (names : List String) : List Cond := (Bundle.ownAtoms own ic X names).filter vx_no
/-- a word that the tables alone decide, or a good one -/
def vx_ot (w : Cond) : Bool := w.onTables || goodWord w
theorem vx_ot_at {args a' : Array Value} {s U : State} {w : Cond} (hW : s.WarmedH U.vm) (hvm : s.vm = U.vm) (hg : vx_ot w = true) (h : w.before args s = true) : w.before a' U = true := by
  simp only [vx_ot, Bool.or_eq_true] at hg
  rcases hg with hg | hg
  · exact va_tabs hg hvm h
  · exact word_at hW (good_of_word hg) h
/-- a list's words: the good ones out of the method's own list, the others by premises of their own -/
theorem vx_hat {args : Array Value} {s : State} {L B : List Cond} (h1 : ∀ w ∈ L.filter goodWord, w.before args s = true) (h2 : ∀ w ∈ L.filter (fun w => !goodWord w), w ∈ B) (h3 : ∀ w ∈ B, w.before args s = true) : ∀ w ∈ L, w.before args s = true := by
  intro w hw
  by_cases g : goodWord w = true
  · exact h1 w (List.mem_filter.mpr ⟨hw, g⟩)
  · refine h3 w (h2 w (List.mem_filter.mpr ⟨hw, ?_⟩))
    show (!goodWord w) = true
    cases hgw : goodWord w
    · rfl
    · exact absurd hgw g
theorem vx_c {args : Array Value} {s : State} {w : Cond} {B : List Cond} (h : w.before args s = true) (t : ∀ w ∈ B, w.before args s = true) : ∀ w' ∈ w :: B, w'.before args s = true := fun w' h' => (List.mem_cons.mp h').elim (fun e => by rw [e]; exact h) (t w')
theorem vx_n {args : Array Value} {s : State} : ∀ w ∈ ([] : List Cond), w.before args s = true := fun _ h => nomatch h
theorem vx_own {args : Array Value} {s : State} {L : List Cond} (h1 : ∀ w ∈ L.filter vx_no, w.before args s = true)
    (hU : (Cond.isRef (.static Bundle.tN "UNASSIGNED_STACK" Bundle.steD)).before args s = true) (hN : (Cond.isRef (.static Bundle.tN "SUPPRESSED_SENTINEL" Bundle.listD)).before args s = true)
    (lU : (Cond.laysStatic Bundle.tN "UNASSIGNED_STACK" Bundle.steD).before args s = true) (lN : (Cond.laysStatic Bundle.tN "SUPPRESSED_SENTINEL" Bundle.listD).before args s = true) : ∀ w ∈ L, w.before args s = true := by
  intro w hw
  by_cases e1 : w = .isRef (.static Bundle.tN "UNASSIGNED_STACK" Bundle.steD)
  · rw [e1]; exact hU
  · by_cases e2 : w = .isRef (.static Bundle.tN "SUPPRESSED_SENTINEL" Bundle.listD)
    · rw [e2]; exact hN
    · by_cases e3 : w = .laysStatic Bundle.tN "UNASSIGNED_STACK" Bundle.steD
      · rw [e3]; exact lU
      · by_cases e4 : w = .laysStatic Bundle.tN "SUPPRESSED_SENTINEL" Bundle.listD
        · rw [e4]; exact lN
        · exact h1 w (List.mem_filter.mpr ⟨hw, by unfold vx_no; rw [decide_eq_true e1, decide_eq_true e2, decide_eq_true e3, decide_eq_true e4]; rfl⟩)
/-- where a static field lies, its class's statics cell in H -/
def vx_L (C n d : String) (A : Nat → Prop) (U : State) (H : Heap) : Prop := ∃ (c : ClassId) (k : Class) (i : Nat) (f : Field) (a : Nat) (cell : Cell), U.vm.findClass C = some c ∧ U.fieldFound? C n d = some (c, k, i, f) ∧ f.isStatic = true ∧ k.statics = some a ∧ H[a]? = some cell ∧ cell.vm.isStatics = true ∧ cell.cls = c ∧ f.slot < cell.slots.size ∧ k.staticTypes[f.slot]? = some f.type ∧ ¬ A a
theorem vx_L.moved {C n d : String} {A : Nat → Prop} {u U : State} {H : Heap} (hvm : u.vm.Alike U.vm) (h : vx_L C n d A u H) : vx_L C n d A U H := by
  obtain ⟨c, k, i, f, a, cell, h1, h2, h3, h4, h5, h6, h7, h8, h9, h10⟩ := h
  obtain ⟨k', hi', he⟩ := State.fieldFound?_setVm hvm h2
  exact ⟨c, k', i, f, a, cell, by rw [hvm.findClass]; exact h1, hi', h3, by rw [he]; exact h4, h5, h6, h7, h8, by rw [he]; exact h9, h10⟩
theorem vx_L.kept {C n d : String} {A : Nat → Prop} {U : State} {H H1 : Heap} (h : vx_L C n d A U H) (hq : ∀ a : Nat, a < H.size → ¬ A a → H1[a]? = H[a]?) : vx_L C n d A U H1 := by
  obtain ⟨c, k, i, f, a, cell, h1, h2, h3, h4, h5, h6, h7, h8, h9, h10⟩ := h
  exact ⟨c, k, i, f, a, cell, h1, h2, h3, h4, by rw [hq a (Array.getElem?_eq_some_iff.mp h5).1 h10]; exact h5, h6, h7, h8, h9, h10⟩
theorem vx_L.narrow {C n d : String} {A B : Nat → Prop} {U : State} {H : Heap} (h : vx_L C n d A U H) (hAB : ∀ q, B q → A q) : vx_L C n d B U H := by
  obtain ⟨c, k, i, f, a, cell, h1, h2, h3, h4, h5, h6, h7, h8, h9, h10⟩ := h
  exact ⟨c, k, i, f, a, cell, h1, h2, h3, h4, h5, h6, h7, h8, h9, fun z => h10 (hAB _ z)⟩
theorem vx_L.word {C n d : String} {A : Nat → Prop} {s : State} {args : Array Value} (h : vx_L C n d A s s.heap) : (Cond.laysStatic C n d).before args s = true := by
  obtain ⟨c, k, i, f, a, cell, h1, h2, h3, h4, h5, h6, h7, h8, h9, -⟩ := h
  show (Cond.laysStatic C n d).holds args s none s [] = true
  exact Cond.laysStatic_of h1 h2 h3 h4 h5 h6 h7 h8 h9
/-- .. and what it holds: null or some reference -/
def vx_Zq (C n d : String) (A : Nat → Prop) (U : State) (H : Heap) : Prop := va_Zq C n d A U H ∧ vx_L C n d A U H
theorem vx_Zq.moved {C n d : String} {A : Nat → Prop} {u U : State} {H : Heap} (hvm : u.vm.Alike U.vm) (h : vx_Zq C n d A u H) : vx_Zq C n d A U H := ⟨va_Zq.moved hvm h.1, vx_L.moved hvm h.2⟩
theorem vx_Zq.kept {C n d : String} {A : Nat → Prop} {U : State} {H H1 : Heap} (h : vx_Zq C n d A U H) (hq : ∀ a : Nat, a < H.size → ¬ A a → H1[a]? = H[a]?) : vx_Zq C n d A U H1 := ⟨va_Zq.kept h.1 hq, vx_L.kept h.2 hq⟩
theorem vx_Zq.narrow {C n d : String} {A B : Nat → Prop} {U : State} {H : Heap} (h : vx_Zq C n d A U H) (hAB : ∀ q, B q → A q) : vx_Zq C n d B U H := ⟨va_Zq.narrow h.1 hAB, vx_L.narrow h.2 hAB⟩
theorem vx_Zqof {args : Array Value} {s : State} {C n d : String} {A : Nat → Prop} (hl : (Cond.laysStatic C n d).before args s = true) (hini : (Cond.initialized C).before args s = true) (h : (Cond.isRef (.static C n d)).before args s = true) (hA : ∀ a : Nat, a < s.heap.size → ¬ A a) : vx_Zq C n d A s s.heap := by
  refine ⟨va_Zqof hl hini h hA, ?_⟩
  obtain ⟨c, k, i, f, a, cell, h1, h2, h3, h4, h5, h6, h7, h8, h9⟩ := Cond.laysStatic_spec hl
  exact ⟨c, k, i, f, a, cell, h1, h2, h3, h4, h5, h6, h7, h8, h9, hA a (Array.getElem?_eq_some_iff.mp h5).1⟩
theorem vx_isRef {C n d : String} {v : Value} {A : Nat → Prop} {s : State} {args : Array Value} (h : va_Z C n d v A s s.heap) (hv : v.isRef = true) : (Cond.isRef (.static C n d)).before args s = true := by
  obtain ⟨cf, kf, fi, f, a, cell, h1, h2, h3, h4, h5, h6, h7, -⟩ := h
  have he : (Term.static C n d).eval args s none [] s = some v := by
    simp [Term.eval, State.fieldNamed?, h1, h2, h4, h5, h6, h7]
  simp only [Cond.before, Cond.holds, Cond.value, he]
  cases v <;> simp_all [Value.isRef]
theorem vx_isRefq {C n d : String} {A : Nat → Prop} {s : State} {args : Array Value} (h : va_Zq C n d A s s.heap) : (Cond.isRef (.static C n d)).before args s = true := by
  rcases h with h | ⟨t, h⟩
  · exact vx_isRef h rfl
  · exact vx_isRef h rfl
/-- the same frame, seen from here: as if the method were called anew in this heap -/
theorem vx_rebase {T : State} (X : Stand p l e R s m args below meth c T locs cells slots) {R' : Room} (hf : R'.frames ≤ R.frames) (hl : R'.locals ≤ R.locals) (hc : cells + R'.cells ≤ R.cells) (hs : slots + R'.slots ≤ R.slots) :
    Stand p l e R' ((T.setVm s.vm).setFrames (.invoking m args :: below)) m args below meth c T [] 0 0 := by
  have htop : (T.setVm s.vm).topJava?.isSome := X.here.top
  have hF : ((T.setVm s.vm).setFrames (.invoking m args :: below)).frames = .invoking m args :: below := State.frames_setFrames _ (State.cur_lt_of_top htop)
  obtain ⟨g₀, hg0⟩ := Option.isSome_iff_exists.mp htop
  obtain ⟨r, hr⟩ := State.topJava?_eq_some.mp hg0
  have hl9 : e.platform.stackLimits (T.setVm s.vm).me = e.platform.stackLimits s.me := X.limits
  have hb9 : (T.setVm s.vm).me.stackBytes = s.me.stackBytes := X.bytes
  refine ⟨X.admits, X.cas, X.clock, hF, ?_, X.hears, X.method, X.code, X.here, X.tail, X.warmed, ?_, ?_, ?_⟩
  · have h := X.room
    have hU : ((T.setVm s.vm).setFrames (.invoking m args :: below)).localsInUse = s.localsInUse := by
      rw [State.localsInUse_invoking hF (meth := meth) (c := c) X.method X.code, State.localsInUse_invoking X.frames X.method X.code]
    simp only [State.hasRoom, Bool.and_eq_true, decide_eq_true_eq] at h ⊢
    obtain ⟨⟨⟨⟨h1, h2, h3, h4, h5, h6⟩, h7⟩, h8⟩, h9⟩ := h
    rw [X.frames, List.length_cons] at h2 h3
    have q1 := X.heapSize
    have q2 := X.used
    simp only [hF, hU, List.length_cons, State.stackLimits_setFrames, State.stackBytes_setFrames, hl9, hb9]
    refine ⟨⟨⟨⟨by omega, by omega, by omega, by omega, by omega, h6⟩, ?_⟩, ?_⟩, X.book⟩
    · show T.heap.size + R'.cells ≤ e.platform.maxCells
      omega
    · show T.slotsUsed + R'.slots ≤ e.platform.maxSlots
      omega
  · rw [State.stackLimits_setFrames]; rfl
  · rw [State.stackBytes_setFrames]; rfl
  · refine ⟨?_, Nat.le_refl _, Nat.le_refl _, ?_, ?_, fun a c9 h9 => ⟨c9, h9, rfl, rfl, fun _ _ => rfl⟩⟩
    · obtain ⟨t, ht, -⟩ := State.frames_cons hr
      show T.setVm s.vm = { ((T.setVm s.vm).setFrames (.invoking m args :: below)).setFrames (T.setVm s.vm).frames with heap := T.heap, slotsUsed := T.slotsUsed }
      rw [State.setFrames_setFrames, State.setFrames_self ht]
      rfl
    · show T.slotsUsed = T.slotsUsed + ((T.heap.toList.drop T.heap.size).map (·.slots.size)).sum
      rw [List.drop_eq_nil_of_le (Nat.le_of_eq Array.length_toList)]
      rfl
    · show ((T.heap.toList.drop T.heap.size).map (·.slots.size)).sum ≤ 0
      rw [List.drop_eq_nil_of_le (Nat.le_of_eq Array.length_toList)]
      exact Nat.le_refl _
/-- 'throw new E()': new; dup; invokespecial; athrow -/
theorem vx_throw0 {cc : ByteArray} {pc : Nat} (hexec : p.tables.exec = Jvm.exec) (hb : c.code = cc) (hl : l.stackTraces = false) {own cls : String} {names : List String} {ik ic mc ms : Nat} {A : Nat → Prop}
    (hown : s.vm.findClass own = some m.cls) (hcls : Bundle.fit cls = true) (hnames : ∀ n ∈ names, Bundle.fit n = true)
    (hk : (Cond.classLink own ik cls).before args s = true) (hini : (Cond.initialized cls).before args s = true) (hat : ∀ w ∈ vx_at0 own ic cls names, w.before args s = true)
    (hgood : ∀ w ∈ Cond.classLink own ik cls :: Cond.initialized cls :: vx_at0 own ic cls names, vx_ot w = true)
    (hU : vx_Zq Bundle.tN "UNASSIGNED_STACK" Bundle.steD A s s.heap) (hN : vx_Zq Bundle.tN "SUPPRESSED_SENTINEL" Bundle.listD A s s.heap) (hS : va_S A s.heap H locs) (hsize : ls.size = c.maxLocals)
    (d0 : decode cc pc = .ok (.new ik, 3)) (d3 : decode cc (pc + 3) = .ok (.dup, 1)) (d4 : decode cc (pc + 4) = .ok (.invokespecial ic, 3)) (d7 : decode cc (pc + 7) = .ok (.athrow, 1))
    (hout : ∀ x ∈ c.exceptionTable.toList, covers x (pc + 7) = false)
    (hRframes : names.length + 3 < R.frames) (hRlocals : (rest.map fun v => v.category).sum + (13 * (names.length + 1) + 42) ≤ R.locals) (hRcells : cells + 1 ≤ R.cells) (hRslots : slots + 6 ≤ R.slots) (hlocks : meth.locks = false)
    (hx : ∀ t : State, s.vm.Alike t.vm → H.size ≤ t.heap.size → (∀ q : Nat, q < H.size → t.heap[q]? = H[q]?) → XC cls s t)
    (hf : ∀ z ∈ locs, free z.base) (hc : cells + 1 ≤ mc) (hs : slots + 6 ≤ ms) :
    W p l e R s m args below meth c H locs cells slots (vx_MQ below Qc XC args s mc ms free) (F0 m pc ls rest) := by
  intro T hT X
  have htr : e.platform.stackTraces = false := (show e.platform.stackTraces = l.stackTraces by rw [X.admits.platform]).trans hl
  have Y := vx_rebase X (R' := { frames := R.frames, locals := R.locals, cells := 1, slots := 6 }) (Nat.le_refl _) (Nat.le_refl _) hRcells hRslots
  obtain ⟨s', hA⟩ : ∃ z, z = (T.setVm s.vm).setFrames (.invoking m args :: below) := ⟨_, rfl⟩
  rw [← hA] at Y
  have hvm : s'.vm = s.vm := by rw [hA]; rfl
  have hhp : s'.heap = H := by rw [hA]; exact hT
  have hW0 : s.WarmedH s'.vm := by rw [hvm]; exact State.WarmedH.refl s
  have hat' : ∀ w ∈ vx_at0 own ic cls names, w.before args s' = true := fun w hw => vx_ot_at hW0 hvm.symm (hgood w (List.mem_cons_of_mem _ (List.mem_cons_of_mem _ hw))) (hat w hw)
  have hk' : (Cond.classLink own ik cls).before args s' = true := vx_ot_at hW0 hvm.symm (hgood _ List.mem_cons_self) hk
  have hini' : (Cond.initialized cls).before args s' = true := vx_ot_at hW0 hvm.symm (hgood _ (List.mem_cons_of_mem _ List.mem_cons_self)) hini
  have hU' : vx_Zq Bundle.tN "UNASSIGNED_STACK" Bundle.steD A s' s'.heap := by rw [hhp]; exact vx_Zq.moved hW0.alike (hU.kept hS.2.1)
  have hN' : vx_Zq Bundle.tN "SUPPRESSED_SENTINEL" Bundle.listD A s' s'.heap := by rw [hhp]; exact vx_Zq.moved hW0.alike (hN.kept hS.2.1)
  have h : ∀ w ∈ Bundle.ownAtoms0 own ic cls names, w.before args s' = true := vx_own hat' (vx_isRefq hU'.1) (vx_isRefq hN'.1) hU'.2.word hN'.2.word
  have hown' : s'.vm.findClass own = some m.cls := by rw [hvm]; exact hown
  have hins : (Cond.instantiable cls 6).before args s' = true := h _ (by simp [Bundle.ownAtoms0])
  obtain ⟨vm₁, cX, kX, hfX, hkX, -, -, X₁, st1⟩ := Y.newCold hexec (own := own) (C := cls) (index := ik) (n := 6) hown' hk' hins hini'
    (g := F0 m pc ls rest) rfl (by rw [hb]; exact d0) (Nat.le_refl _) (Nat.le_refl _)
  generalize hT1 : (T.setVm vm₁).pushCell { cls := cX, slots := kX.instanceTypes.map defaultValue, vm := .none } = T1 at X₁ st1
  have hcat : (Value.ref T.heap.size).category = 1 := rfl
  have hcellA : T1.heap[T.heap.size]? = some (freshCell cX kX) := by rw [← hT1]; exact State.heap_pushCell_size _ _
  have d3' : decode c.code (pc + 3) = .ok (.dup, 1) := by rw [hb]; exact d3
  obtain ⟨U, hsteps, hrun, hend, hW, hsame, ce, hce, hO⟩ := X₁.ctorThrow0 hexec htr (own := own) (cls := cls) (names := names) (ic := ic) hown' hcls hnames h (fun x hx => nomatch hx) hfX hkX hcellA (by rw [hhp, hT]; exact Nat.le_refl _)
    (g := { method := m, pc := pc + 4, locals := ls, stack := .ref T.heap.size :: .ref T.heap.size :: rest, locked := none }) rfl hsize rfl rfl (rest := rest) rfl
    (by rw [hb]; exact d4) (by rw [hb]; exact d7) hout hRframes (by simp only [List.map_cons, List.sum_cons, hcat]; omega) hlocks
  obtain ⟨f1, f2⟩ := vx_frame hsame
  rw [hhp] at f1 f2
  have hWs : s.WarmedH U.vm := State.WarmedH.trans hW0 hW
  have hcl : s.vm.findClass cls = some ce.cls := by
    have h9 := hO.cls
    rw [hvm] at h9
    exact h9
  have hall : s.sameButNew ({ U with vm := s.vm } : State) locs mc ms := by
    subst hA
    obtain ⟨e1, e2⟩ := hsame
    rw [State.setFrames_setFrames] at e1
    have h2 : (T.setVm s.vm).sameButNew ({ U with vm := s.vm } : State) [] (0 + 1) (0 + 6) := ⟨e1, e2⟩
    have h3 := X.same.trans h2
    rw [List.append_nil] at h3
    exact h3.mono hc hs
  refine ⟨U, ?_, .threw T.heap.size, hrun, hend, Or.inr ⟨T.heap.size, rfl, cls, ce, locs, hx U hWs.alike f1 (fun q hq => f2 q hq (fun z hz => nomatch hz)), hce, hO.vm, hcl, hWs, hall, hf⟩⟩
  refine st1 _ ?_
  show Steps p.tables e below (T1.setTop { method := m, pc := pc + 3, locals := ls, stack := .ref T.heap.size :: rest, locked := none }) _
  jvm_step X₁.here [X₁.here.top, hexec, d3', Value.category]
  exact hsteps
/-- 'throw new E("text")': new; dup; ldc; invokespecial; athrow -/
theorem vx_throwS {cc : ByteArray} {pc : Nat} (hexec : p.tables.exec = Jvm.exec) (hb : c.code = cc) (hl : l.stackTraces = false) {own cls text : String} {names : List String} {ik is ic mc ms sa : Nat} {A : Nat → Prop}
    (hown : s.vm.findClass own = some m.cls) (hcls : Bundle.fit cls = true) (hnames : ∀ n ∈ names, Bundle.fit n = true)
    (hk : (Cond.classLink own ik cls).before args s = true) (hini : (Cond.initialized cls).before args s = true) (hstr : vk_R own is text sa s) (hat : ∀ w ∈ vx_atS own ic cls names, w.before args s = true)
    (hgood : ∀ w ∈ Cond.classLink own ik cls :: Cond.initialized cls :: vx_atS own ic cls names, vx_ot w = true)
    (hU : vx_Zq Bundle.tN "UNASSIGNED_STACK" Bundle.steD A s s.heap) (hN : vx_Zq Bundle.tN "SUPPRESSED_SENTINEL" Bundle.listD A s s.heap) (hS : va_S A s.heap H locs) (hsize : ls.size = c.maxLocals)
    (d0 : decode cc pc = .ok (.new ik, 3)) (d3 : decode cc (pc + 3) = .ok (.dup, 1)) (d4 : decode cc (pc + 4) = .ok (.ldc is, 2)) (d6 : decode cc (pc + 6) = .ok (.invokespecial ic, 3)) (d9 : decode cc (pc + 9) = .ok (.athrow, 1))
    (hout : ∀ x ∈ c.exceptionTable.toList, covers x (pc + 9) = false)
    (hRframes : names.length + 3 < R.frames) (hRlocals : (rest.map fun v => v.category).sum + (13 * (names.length + 1) + 43) ≤ R.locals) (hRcells : cells + 1 ≤ R.cells) (hRslots : slots + 6 ≤ R.slots) (hlocks : meth.locks = false)
    (hx : ∀ t : State, s.vm.Alike t.vm → H.size ≤ t.heap.size → (∀ q : Nat, q < H.size → t.heap[q]? = H[q]?) → XC cls s t)
    (hf : ∀ z ∈ locs, free z.base) (hc : cells + 1 ≤ mc) (hs : slots + 6 ≤ ms) :
    W p l e R s m args below meth c H locs cells slots (vx_MQ below Qc XC args s mc ms free) (F0 m pc ls rest) := by
  intro T hT X
  have htr : e.platform.stackTraces = false := (show e.platform.stackTraces = l.stackTraces by rw [X.admits.platform]).trans hl
  have Y := vx_rebase X (R' := { frames := R.frames, locals := R.locals, cells := 1, slots := 6 }) (Nat.le_refl _) (Nat.le_refl _) hRcells hRslots
  obtain ⟨s', hA⟩ : ∃ z, z = (T.setVm s.vm).setFrames (.invoking m args :: below) := ⟨_, rfl⟩
  rw [← hA] at Y
  have hvm : s'.vm = s.vm := by rw [hA]; rfl
  have hhp : s'.heap = H := by rw [hA]; exact hT
  have hW0 : s.WarmedH s'.vm := by rw [hvm]; exact State.WarmedH.refl s
  have hat' : ∀ w ∈ vx_atS own ic cls names, w.before args s' = true := fun w hw => vx_ot_at hW0 hvm.symm (hgood w (List.mem_cons_of_mem _ (List.mem_cons_of_mem _ hw))) (hat w hw)
  have hk' : (Cond.classLink own ik cls).before args s' = true := vx_ot_at hW0 hvm.symm (hgood _ List.mem_cons_self) hk
  have hini' : (Cond.initialized cls).before args s' = true := vx_ot_at hW0 hvm.symm (hgood _ (List.mem_cons_of_mem _ List.mem_cons_self)) hini
  have hU' : vx_Zq Bundle.tN "UNASSIGNED_STACK" Bundle.steD A s' s'.heap := by rw [hhp]; exact vx_Zq.moved hW0.alike (hU.kept hS.2.1)
  have hN' : vx_Zq Bundle.tN "SUPPRESSED_SENTINEL" Bundle.listD A s' s'.heap := by rw [hhp]; exact vx_Zq.moved hW0.alike (hN.kept hS.2.1)
  have h : ∀ w ∈ Bundle.ownAtoms own ic cls names, w.before args s' = true := vx_own hat' (vx_isRefq hU'.1) (vx_isRefq hN'.1) hU'.2.word hN'.2.word
  have hown' : s'.vm.findClass own = some m.cls := by rw [hvm]; exact hown
  have hins : (Cond.instantiable cls 6).before args s' = true := h _ (by simp [Bundle.ownAtoms])
  obtain ⟨vm₁, cX, kX, hfX, hkX, -, -, X₁, st1⟩ := Y.newCold hexec (own := own) (C := cls) (index := ik) (n := 6) hown' hk' hins hini'
    (g := F0 m pc ls rest) rfl (by rw [hb]; exact d0) (Nat.le_refl _) (Nat.le_refl _)
  generalize hT1 : (T.setVm vm₁).pushCell { cls := cX, slots := kX.instanceTypes.map defaultValue, vm := .none } = T1 at X₁ st1
  have hcat : (Value.ref T.heap.size).category = 1 := rfl
  have hcellA : T1.heap[T.heap.size]? = some (freshCell cX kX) := by rw [← hT1]; exact State.heap_pushCell_size _ _
  have d3' : decode c.code (pc + 3) = .ok (.dup, 1) := by rw [hb]; exact d3
  have d4' : decode c.code (pc + 4) = .ok (.ldc is, 2) := by rw [hb]; exact d4
  have hstr' : vk_R own is text sa s' := vk_R.warm hW0 hstr
  obtain ⟨U, hsteps, hrun, hend, hW, hsame, ce, hce, hO⟩ := X₁.ctorThrowS hexec htr (own := own) (cls := cls) (names := names) (ic := ic) hown' hcls hnames h (fun x hx => nomatch hx) hfX hkX hcellA (by rw [hhp, hT]; exact Nat.le_refl _) (msg := .ref sa) rfl
    (g := { method := m, pc := pc + 6, locals := ls, stack := .ref sa :: .ref T.heap.size :: .ref T.heap.size :: rest, locked := none }) rfl hsize rfl rfl (rest := rest) rfl
    (by rw [hb]; exact d6) (by rw [hb]; exact d9) hout hRframes (by simp only [List.map_cons, List.sum_cons, hcat]; omega) hlocks
  obtain ⟨f1, f2⟩ := vx_frame hsame
  rw [hhp] at f1 f2
  have hWs : s.WarmedH U.vm := State.WarmedH.trans hW0 hW
  have hcl : s.vm.findClass cls = some ce.cls := by
    have h9 := hO.cls
    rw [hvm] at h9
    exact h9
  have hall : s.sameButNew ({ U with vm := s.vm } : State) locs mc ms := by
    subst hA
    obtain ⟨e1, e2⟩ := hsame
    rw [State.setFrames_setFrames] at e1
    have h2 : (T.setVm s.vm).sameButNew ({ U with vm := s.vm } : State) [] (0 + 1) (0 + 6) := ⟨e1, e2⟩
    have h3 := X.same.trans h2
    rw [List.append_nil] at h3
    exact h3.mono hc hs
  refine ⟨U, ?_, .threw T.heap.size, hrun, hend, Or.inr ⟨T.heap.size, rfl, cls, ce, locs, hx U hWs.alike f1 (fun q hq => f2 q hq (fun z hz => nomatch hz)), hce, hO.vm, hcl, hWs, hall, hf⟩⟩
  refine st1 _ ?_
  show Steps p.tables e below (T1.setTop { method := m, pc := pc + 3, locals := ls, stack := .ref T.heap.size :: rest, locked := none }) _
  jvm_step X₁.here [X₁.here.top, hexec, d3', Value.category]
  exact X₁.ldcString hexec (own := own) (text := text) (index := is) (a := sa) hown' hstr'.1 hstr'.2
    (g := { method := m, pc := pc + 4, locals := ls, stack := .ref T.heap.size :: .ref T.heap.size :: rest, locked := none }) rfl d4' _ hsteps
/-- 'throw new E("text")', the text by a wide index -/
theorem vx_throwSW {cc : ByteArray} {pc : Nat} (hexec : p.tables.exec = Jvm.exec) (hb : c.code = cc) (hl : l.stackTraces = false) {own cls text : String} {names : List String} {ik is ic mc ms sa : Nat} {A : Nat → Prop}
    (hown : s.vm.findClass own = some m.cls) (hcls : Bundle.fit cls = true) (hnames : ∀ n ∈ names, Bundle.fit n = true)
    (hk : (Cond.classLink own ik cls).before args s = true) (hini : (Cond.initialized cls).before args s = true) (hstr : vk_R own is text sa s) (hat : ∀ w ∈ vx_atS own ic cls names, w.before args s = true)
    (hgood : ∀ w ∈ Cond.classLink own ik cls :: Cond.initialized cls :: vx_atS own ic cls names, vx_ot w = true)
    (hU : vx_Zq Bundle.tN "UNASSIGNED_STACK" Bundle.steD A s s.heap) (hN : vx_Zq Bundle.tN "SUPPRESSED_SENTINEL" Bundle.listD A s s.heap) (hS : va_S A s.heap H locs) (hsize : ls.size = c.maxLocals)
    (d0 : decode cc pc = .ok (.new ik, 3)) (d3 : decode cc (pc + 3) = .ok (.dup, 1)) (d4 : decode cc (pc + 4) = .ok (.ldc_w is, 3)) (d7 : decode cc (pc + 7) = .ok (.invokespecial ic, 3)) (d10 : decode cc (pc + 10) = .ok (.athrow, 1))
    (hout : ∀ x ∈ c.exceptionTable.toList, covers x (pc + 10) = false)
    (hRframes : names.length + 3 < R.frames) (hRlocals : (rest.map fun v => v.category).sum + (13 * (names.length + 1) + 43) ≤ R.locals) (hRcells : cells + 1 ≤ R.cells) (hRslots : slots + 6 ≤ R.slots) (hlocks : meth.locks = false)
    (hx : ∀ t : State, s.vm.Alike t.vm → H.size ≤ t.heap.size → (∀ q : Nat, q < H.size → t.heap[q]? = H[q]?) → XC cls s t)
    (hf : ∀ z ∈ locs, free z.base) (hc : cells + 1 ≤ mc) (hs : slots + 6 ≤ ms) :
    W p l e R s m args below meth c H locs cells slots (vx_MQ below Qc XC args s mc ms free) (F0 m pc ls rest) := by
  intro T hT X
  have htr : e.platform.stackTraces = false := (show e.platform.stackTraces = l.stackTraces by rw [X.admits.platform]).trans hl
  have Y := vx_rebase X (R' := { frames := R.frames, locals := R.locals, cells := 1, slots := 6 }) (Nat.le_refl _) (Nat.le_refl _) hRcells hRslots
  obtain ⟨s', hA⟩ : ∃ z, z = (T.setVm s.vm).setFrames (.invoking m args :: below) := ⟨_, rfl⟩
  rw [← hA] at Y
  have hvm : s'.vm = s.vm := by rw [hA]; rfl
  have hhp : s'.heap = H := by rw [hA]; exact hT
  have hW0 : s.WarmedH s'.vm := by rw [hvm]; exact State.WarmedH.refl s
  have hat' : ∀ w ∈ vx_atS own ic cls names, w.before args s' = true := fun w hw => vx_ot_at hW0 hvm.symm (hgood w (List.mem_cons_of_mem _ (List.mem_cons_of_mem _ hw))) (hat w hw)
  have hk' : (Cond.classLink own ik cls).before args s' = true := vx_ot_at hW0 hvm.symm (hgood _ List.mem_cons_self) hk
  have hini' : (Cond.initialized cls).before args s' = true := vx_ot_at hW0 hvm.symm (hgood _ (List.mem_cons_of_mem _ List.mem_cons_self)) hini
  have hU' : vx_Zq Bundle.tN "UNASSIGNED_STACK" Bundle.steD A s' s'.heap := by rw [hhp]; exact vx_Zq.moved hW0.alike (hU.kept hS.2.1)
  have hN' : vx_Zq Bundle.tN "SUPPRESSED_SENTINEL" Bundle.listD A s' s'.heap := by rw [hhp]; exact vx_Zq.moved hW0.alike (hN.kept hS.2.1)
  have h : ∀ w ∈ Bundle.ownAtoms own ic cls names, w.before args s' = true := vx_own hat' (vx_isRefq hU'.1) (vx_isRefq hN'.1) hU'.2.word hN'.2.word
  have hown' : s'.vm.findClass own = some m.cls := by rw [hvm]; exact hown
  have hins : (Cond.instantiable cls 6).before args s' = true := h _ (by simp [Bundle.ownAtoms])
  obtain ⟨vm₁, cX, kX, hfX, hkX, -, -, X₁, st1⟩ := Y.newCold hexec (own := own) (C := cls) (index := ik) (n := 6) hown' hk' hins hini'
    (g := F0 m pc ls rest) rfl (by rw [hb]; exact d0) (Nat.le_refl _) (Nat.le_refl _)
  generalize hT1 : (T.setVm vm₁).pushCell { cls := cX, slots := kX.instanceTypes.map defaultValue, vm := .none } = T1 at X₁ st1
  have hcat : (Value.ref T.heap.size).category = 1 := rfl
  have hcellA : T1.heap[T.heap.size]? = some (freshCell cX kX) := by rw [← hT1]; exact State.heap_pushCell_size _ _
  have d3' : decode c.code (pc + 3) = .ok (.dup, 1) := by rw [hb]; exact d3
  have d4' : decode c.code (pc + 4) = .ok (.ldc_w is, 3) := by rw [hb]; exact d4
  have hstr' : vk_R own is text sa s' := vk_R.warm hW0 hstr
  obtain ⟨U, hsteps, hrun, hend, hW, hsame, ce, hce, hO⟩ := X₁.ctorThrowS hexec htr (own := own) (cls := cls) (names := names) (ic := ic) hown' hcls hnames h (fun x hx => nomatch hx) hfX hkX hcellA (by rw [hhp, hT]; exact Nat.le_refl _) (msg := .ref sa) rfl
    (g := { method := m, pc := pc + 7, locals := ls, stack := .ref sa :: .ref T.heap.size :: .ref T.heap.size :: rest, locked := none }) rfl hsize rfl rfl (rest := rest) rfl
    (by rw [hb]; exact d7) (by rw [hb]; exact d10) hout hRframes (by simp only [List.map_cons, List.sum_cons, hcat]; omega) hlocks
  obtain ⟨f1, f2⟩ := vx_frame hsame
  rw [hhp] at f1 f2
  have hWs : s.WarmedH U.vm := State.WarmedH.trans hW0 hW
  have hcl : s.vm.findClass cls = some ce.cls := by
    have h9 := hO.cls
    rw [hvm] at h9
    exact h9
  have hall : s.sameButNew ({ U with vm := s.vm } : State) locs mc ms := by
    subst hA
    obtain ⟨e1, e2⟩ := hsame
    rw [State.setFrames_setFrames] at e1
    have h2 : (T.setVm s.vm).sameButNew ({ U with vm := s.vm } : State) [] (0 + 1) (0 + 6) := ⟨e1, e2⟩
    have h3 := X.same.trans h2
    rw [List.append_nil] at h3
    exact h3.mono hc hs
  refine ⟨U, ?_, .threw T.heap.size, hrun, hend, Or.inr ⟨T.heap.size, rfl, cls, ce, locs, hx U hWs.alike f1 (fun q hq => f2 q hq (fun z hz => nomatch hz)), hce, hO.vm, hcl, hWs, hall, hf⟩⟩
  refine st1 _ ?_
  show Steps p.tables e below (T1.setTop { method := m, pc := pc + 3, locals := ls, stack := .ref T.heap.size :: rest, locked := none }) _
  jvm_step X₁.here [X₁.here.top, hexec, d3', Value.category]
  exact X₁.ldcStringW hexec (own := own) (text := text) (index := is) (a := sa) hown' hstr'.1 hstr'.2
    (g := { method := m, pc := pc + 4, locals := ls, stack := .ref T.heap.size :: .ref T.heap.size :: rest, locked := none }) rfl d4' _ hsteps
end Ends
section Bodies
variable {l : Launch}
theorem vx_ofW {y : MethodName} {ws ws' : List Cond} {rm : Room} {Pc : Array Value → State → Prop} {Qc : Array Value → State → Outcome → State → Prop} {XC : String → State → State → Prop} {mc ms : Nat} {free : Addr → Prop} {cc : ByteArray} {maxL : Nat} {ret : Option FieldType}
    (hy : plainName y.cls = true) (hw : ws = Cond.code y cc maxL ret :: ws')
    (body : ∀ p e s m args below meth c s₁, BodyLoose p l y (headSpec ws rm) cc maxL ret e s m args below meth c s₁ → c.maxLocals = maxL → (∀ x ∈ c.exceptionTable.toList, False) → Pc args s →
      W p l e (headSpec ws rm).room s m args below meth c s.heap [] 0 0 (vx_MQ below Qc XC args s mc ms free) (entryFrame m args maxL)) : vx_Met l y ws rm Pc Qc XC mc ms free := by
  refine MetFree.of_bodyS (code := cc) (maxLocals := maxL) (ret := ret) hy ?_ ?_
  · intro args s m h hn
    obtain ⟨meth, c, h1, h2, h3, h4, h5, h6, -, -⟩ := Cond.code_spec hn (atoms_spec (ws := ws) h _ (by rw [hw]; exact List.mem_cons_self))
    exact ⟨meth, c, h1, h2, h3, h4, h5, h6⟩
  · intro p e s m args below meth c s₁ B hml hP _
    have hh0 : s₁.heap = s.heap := by rw [B.state]; rfl
    have ht : ∀ x ∈ c.exceptionTable.toList, False := by
      obtain ⟨meth9, c9, h1, h2, -, -, -, -, h7, -⟩ := Cond.code_spec B.named (atoms_spec (ws := ws) B.pre _ (by rw [hw]; exact List.mem_cons_self))
      cases Option.some.inj (h1.symm.trans B.method)
      cases Option.some.inj (h2.symm.trans (Stand.of_body B).code)
      intro x hx
      rw [Array.isEmpty_iff.mp h7] at hx
      cases hx
    obtain ⟨t, a1, o, b1, b2, b3⟩ := body p e s m args below meth c s₁ B hml ht hP s₁ hh0 (Stand.of_body B)
    exact ⟨t, o, a1, b1, b2, b3⟩
/-- the table of a body with handlers -/
theorem vx_table {p : Program} {x y : MethodName} {S : Spec} {cc bytes : ByteArray} {maxL maxL' : Nat} {ret ret' : Option FieldType} {e : Env} {s s₁ : State} {m : MethodId} {args : Array Value} {below : List Frame} {meth : Method} {c : Code} {hh : List (Nat × Nat × Nat × Nat)}
    (B : BodyLoose p l y S cc maxL ret e s m args below meth c s₁) (h : (Cond.codeWith y bytes maxL' ret' hh).before args s = true) : c.exceptionTable.toList = tableOf hh := by
  obtain ⟨m9, meth9, c9, hn9, h1, h2, -, -, h6, -⟩ := Cond.codeWith_spec h
  cases Option.some.inj (hn9.symm.trans B.named)
  cases Option.some.inj (h1.symm.trans B.method)
  cases Option.some.inj (h2.symm.trans (Stand.of_body B).code)
  rw [← h6, table_eq]
end Bodies
end VXA
/-! ===== END ===== -/
end
section
/-! NUMBERS: an int or a long by the whole number that it stands for -/
def iI (z : Int) : Int32 := Int32.ofInt z
def jI (z : Int) : Int64 := Int64.ofInt z
abbrev vi (z : Int) : Value := Value.int (iI z)
abbrev vj (z : Int) : Value := Value.long (jI z)
def inI (z : Int) : Prop := -2147483648 ≤ z ∧ z ≤ 2147483647
def inJ (z : Int) : Prop := -9223372036854775808 ≤ z ∧ z ≤ 9223372036854775807
theorem inI_of {z : Int} (h1 : -2147483648 ≤ z) (h2 : z ≤ 2147483647) : inI z := ⟨h1, h2⟩
theorem inJ_of {z : Int} (h1 : -9223372036854775808 ≤ z) (h2 : z ≤ 9223372036854775807) : inJ z := ⟨h1, h2⟩
theorem inI_J {z : Int} (h : inI z) : inJ z := ⟨by have := h.1; omega, by have := h.2; omega⟩
theorem inI_x (x : Int32) : inI x.toInt := ⟨by have := x.le_toInt; omega, by have := x.toInt_lt; omega⟩
theorem inJ_x (x : Int64) : inJ x.toInt := ⟨by have := x.le_toInt; omega, by have := x.toInt_lt; omega⟩
theorem iI_int {z : Int} (h : inI z) : (iI z).toInt = z := Int32.toInt_ofInt_of_le (by have := h.1; omega) (by have := h.2; omega)
theorem jI_int {z : Int} (h : inJ z) : (jI z).toInt = z := Int64.toInt_ofInt_of_le (by have := h.1; omega) (by have := h.2; omega)
theorem iI_eta (x : Int32) : iI x.toInt = x := Int32.ofInt_toInt x
theorem jI_eta (x : Int64) : jI x.toInt = x := Int64.ofInt_toInt x
theorem iI_add (a b : Int) : iI a + iI b = iI (a + b) := (Int32.ofInt_add a b).symm
theorem iI_sub (a b : Int) : iI a - iI b = iI (a - b) := (Int32.ofInt_sub a b).symm
theorem iI_mul (a b : Int) : iI a * iI b = iI (a * b) := (Int32.ofInt_mul a b).symm
theorem iI_neg (a : Int) : -iI a = iI (-a) := (Int32.ofInt_neg a).symm
theorem jI_add (a b : Int) : jI a + jI b = jI (a + b) := (Int64.ofInt_add a b).symm
theorem jI_sub (a b : Int) : jI a - jI b = jI (a - b) := (Int64.ofInt_sub a b).symm
theorem jI_mul (a b : Int) : jI a * jI b = jI (a * b) := (Int64.ofInt_mul a b).symm
theorem jI_neg (a : Int) : -jI a = jI (-a) := (Int64.ofInt_neg a).symm
theorem iI_le {a b : Int} (ha : inI a) (hb : inI b) : iI a ≤ iI b ↔ a ≤ b := by rw [Int32.le_iff_toInt_le, iI_int ha, iI_int hb]
theorem iI_lt {a b : Int} (ha : inI a) (hb : inI b) : iI a < iI b ↔ a < b := by rw [Int32.lt_iff_toInt_lt, iI_int ha, iI_int hb]
theorem iI_eq {a b : Int} (ha : inI a) (hb : inI b) : iI a = iI b ↔ a = b := by rw [← Int32.toInt_inj, iI_int ha, iI_int hb]
theorem jI_le {a b : Int} (ha : inJ a) (hb : inJ b) : jI a ≤ jI b ↔ a ≤ b := by rw [Int64.le_iff_toInt_le, jI_int ha, jI_int hb]
theorem jI_lt {a b : Int} (ha : inJ a) (hb : inJ b) : jI a < jI b ↔ a < b := by rw [Int64.lt_iff_toInt_lt, jI_int ha, jI_int hb]
theorem jI_eq {a b : Int} (ha : inJ a) (hb : inJ b) : jI a = jI b ↔ a = b := by rw [← Int64.toInt_inj, jI_int ha, jI_int hb]
theorem iI_0 : iI 0 = 0 := rfl
theorem iI_1 : iI 1 = 1 := rfl
theorem jI_0 : jI 0 = 0 := rfl
theorem jI_1 : jI 1 = 1 := rfl
theorem inI_0 : inI 0 := ⟨by omega, by omega⟩
theorem inJ_0 : inJ 0 := ⟨by omega, by omega⟩
theorem iI_in {z : Int} {n : Nat} (h0 : 0 ≤ z) (h1 : z < n) (hn : n < 2 ^ 31) : vp_in (iI z) n := by
  rw [vp_in_iff, iI_int ⟨by omega, by omega⟩]
  exact ⟨h0, h1⟩
theorem iI_cl {z : Int} (h : inI z) : (iI z).toNatClampNeg = z.toNat := by
  show (iI z).toInt.toNat = z.toNat
  rw [iI_int h]
theorem iI_nat (n : Nat) : Int32.ofNat n = iI n := Int32.ofInt_eq_ofNat.symm
theorem iI_div {a b : Int} (ha : inI a) (hb : inI b) : iI a / iI b = iI (a.tdiv b) :=
  (Int32.ofInt_tdiv (by rw [Int32.toInt_minValue]; have := ha.1; omega) (by rw [Int32.toInt_maxValue]; have := ha.2; omega) (by rw [Int32.toInt_minValue]; have := hb.1; omega) (by rw [Int32.toInt_maxValue]; have := hb.2; omega)).symm
theorem jI_div {a b : Int} (ha : inJ a) (hb : inJ b) : jI a / jI b = jI (a.tdiv b) :=
  (Int64.ofInt_tdiv (by rw [Int64.toInt_minValue]; have := ha.1; omega) (by rw [Int64.toInt_maxValue]; have := ha.2; omega) (by rw [Int64.toInt_minValue]; have := hb.1; omega) (by rw [Int64.toInt_maxValue]; have := hb.2; omega)).symm
theorem tmod_sub (a b : Int) : a - a.tdiv b * b = a.tmod b := by
  have h := Int.tdiv_mul_add_tmod a b
  omega
theorem iI_rem {a b : Int} (ha : inI a) (hb : inI b) : iI a - iI a / iI b * iI b = iI (a.tmod b) := by
  rw [iI_div ha hb, iI_mul, iI_sub, tmod_sub]
theorem jI_rem {a b : Int} (ha : inJ a) (hb : inJ b) : jI a - jI a / jI b * jI b = jI (a.tmod b) := by
  rw [jI_div ha hb, jI_mul, jI_sub, tmod_sub]
theorem iI_l {z : Int} (h : inI z) : (iI z).toInt64 = jI z := Int64.toInt_inj.mp (by rw [Int32.toInt_toInt64, iI_int h, jI_int (inI_J h)])
theorem jI_i (z : Int) : (jI z).toInt32 = iI z := Int64.toInt32_ofInt
/-! lists of locals: the first that is written at a place -/
def lk : List (Nat × Value) → Nat → Option Value
  | [], _ => none
  | (i, v) :: r, k => match Nat.beq i k with
    | true => some v
    | false => lk r k
theorem lk_mem {k : Nat} {v : Value} : ∀ {l : List (Nat × Value)}, lk l k = some v → (k, v) ∈ l
  | [], h => by cases h
  | (i, w) :: r, h => by
    unfold lk at h
    cases hb : Nat.beq i k with
    | true =>
      rw [hb] at h
      have hi : i = k := Nat.eq_of_beq_eq_true hb
      cases h
      rw [hi]
      exact List.mem_cons_self
    | false =>
      rw [hb] at h
      exact List.mem_cons_of_mem _ (lk_mem h)
theorem lk_has {ls : Array Slot} {nL : Nat} {l : List (Nat × Value)} (h : lv_has ls nL l) {k : Nat} {v : Value} (hk : lk l k = some v) : ls[k]? = some (.val v) := h.2.2 (k, v) (lk_mem hk)
def lsub : List (Nat × Value) → List (Nat × Value) → Prop
  | [], _ => True
  | (i, v) :: r, l => lk l i = some v ∧ lsub r l
theorem lsub_has {ls : Array Slot} {nL : Nat} {l : List (Nat × Value)} (h : lv_has ls nL l) : ∀ {l' : List (Nat × Value)}, lsub l' l → lv_has ls nL l' := by
  intro l' hs
  refine ⟨h.1, h.2.1, ?_⟩
  induction l' with
  | nil => intro q hq; cases hq
  | cons x r ih =>
    intro q hq
    obtain ⟨i, v⟩ := x
    rcases List.mem_cons.mp hq with e | e
    · rw [e]
      exact lk_has h hs.1
    · exact ih hs.2 q e
end
section
/-! NUMBERS BY PARTS OF NINE DECIMAL DIGITS, the last ones first -/
def vl (f : Nat → Int) : Nat → Int
  | 0 => 0
  | n + 1 => vl f n + f n * 1000000000 ^ n
def dig (f : Nat → Int) (n : Nat) : Prop := ∀ i, i < n → 0 ≤ f i ∧ f i < 1000000000
theorem dig_le {f : Nat → Int} {n k : Nat} (h : dig f n) (hk : k ≤ n) : dig f k := fun i hi => h i (by omega)
theorem Bpos (n : Nat) : (0 : Int) < 1000000000 ^ n := Int.pow_pos (by omega)
theorem vl_congr {f g : Nat → Int} : ∀ {n : Nat}, (∀ i, i < n → f i = g i) → vl f n = vl g n
  | 0, _ => rfl
  | n + 1, h => by
    show vl f n + f n * _ = vl g n + g n * _
    rw [vl_congr (n := n) (fun i hi => h i (by omega)), h n (by omega)]
theorem vl_bound {f : Nat → Int} : ∀ {n : Nat}, dig f n → 0 ≤ vl f n ∧ vl f n < 1000000000 ^ n
  | 0, _ => by show (0 : Int) ≤ 0 ∧ (0 : Int) < 1; omega
  | n + 1, h => by
    have ih := vl_bound (n := n) (dig_le h (by omega))
    have hd := h n (by omega)
    have hp := Bpos n
    show 0 ≤ vl f n + f n * 1000000000 ^ n ∧ vl f n + f n * 1000000000 ^ n < 1000000000 ^ (n + 1)
    rw [Int.pow_succ]
    generalize (1000000000 : Int) ^ n = P at *
    have h1 : 0 ≤ f n * P := Int.mul_nonneg hd.1 (by omega)
    have h2 : f n * P ≤ 999999999 * P := Int.mul_le_mul_of_nonneg_right (by omega) (by omega)
    omega
theorem vl_zero {f : Nat → Int} : ∀ {n : Nat}, (∀ i, i < n → f i = 0) → vl f n = 0
  | 0, _ => rfl
  | n + 1, h => by
    show vl f n + f n * _ = 0
    rw [vl_zero (n := n) (fun i hi => h i (by omega)), h n (by omega)]
    omega
theorem dm_B (s P : Int) : (s % 1000000000) * P + (s / 1000000000) * (P * 1000000000) = s * P := by
  have h := Int.emod_add_mul_ediv s 1000000000
  rw [Int.mul_comm P 1000000000, ← Int.mul_assoc, Int.mul_comm (s / 1000000000) 1000000000, ← Int.add_mul, h]
/-- the order of two numbers is that of the first parts from above that differ -/
theorem vl_lt {f g : Nat → Int} : ∀ {n : Nat} (k : Nat), k < n → dig f n → dig g n → f k < g k → (∀ i, k < i → i < n → f i = g i) → vl f n < vl g n
  | 0, k, hk, _, _, _, _ => absurd hk (by omega)
  | n + 1, k, hk, hf, hg, hlt, hup => by
    show vl f n + f n * 1000000000 ^ n < vl g n + g n * 1000000000 ^ n
    by_cases e : k = n
    · subst e
      have b1 := vl_bound (dig_le hf (Nat.le_succ k))
      have b2 := vl_bound (dig_le hg (Nat.le_succ k))
      have hp := Bpos k
      generalize (1000000000 : Int) ^ k = P at *
      have h2 : (f k + 1) * P ≤ g k * P := Int.mul_le_mul_of_nonneg_right (by omega) (by omega)
      rw [Int.add_mul] at h2
      omega
    · have := vl_lt (n := n) k (by omega) (dig_le hf (by omega)) (dig_le hg (by omega)) hlt (fun i h1 h2 => hup i h1 (by omega))
      rw [hup n (by omega) (by omega)]
      omega
theorem vl_split {f g : Nat → Int} {n : Nat} (hf : dig f n) (hg : dig g n) : (∀ i, i < n → f i = g i) ∨ (∃ k, k < n ∧ f k ≠ g k ∧ ∀ i, k < i → i < n → f i = g i) := by
  induction n with
  | zero => exact Or.inl (fun i hi => absurd hi (by omega))
  | succ n ih =>
    by_cases e : f n = g n
    · rcases ih (dig_le hf (by omega)) (dig_le hg (by omega)) with h | ⟨k, h1, h2, h3⟩
      · refine Or.inl (fun i hi => ?_)
        by_cases e2 : i = n
        · rw [e2]; exact e
        · exact h i (by omega)
      · refine Or.inr ⟨k, by omega, h2, fun i h4 h5 => ?_⟩
        by_cases e2 : i = n
        · rw [e2]; exact e
        · exact h3 i h4 (by omega)
    · exact Or.inr ⟨n, by omega, e, fun i h1 h2 => absurd h1 (by omega)⟩
theorem vl_inj {f g : Nat → Int} {n : Nat} (hf : dig f n) (hg : dig g n) (h : vl f n = vl g n) : ∀ i, i < n → f i = g i := by
  rcases vl_split hf hg with q | ⟨k, h1, h2, h3⟩
  · exact q
  · rcases Int.lt_or_gt_of_ne h2 with q | q
    · have := vl_lt k h1 hf hg q h3; omega
    · have := vl_lt k h1 hg hf q (fun i a b => (h3 i a b).symm); omega
/-- what become leaves: quotients on the way, parts -/
def bcQ (v : Int) : Nat → Int
  | 0 => v
  | n + 1 => bcQ v n / 1000000000
def bcD (v : Int) (i : Nat) : Int := bcQ v i % 1000000000
theorem bcQ_in {v : Int} (h : 0 ≤ v) : ∀ n, 0 ≤ bcQ v n ∧ bcQ v n ≤ v
  | 0 => ⟨h, Int.le_refl _⟩
  | n + 1 => by
    have ih := bcQ_in h n
    show 0 ≤ bcQ v n / 1000000000 ∧ bcQ v n / 1000000000 ≤ v
    omega
theorem bc_dig (v : Int) (n : Nat) : dig (bcD v) n := fun i _ => by
  show 0 ≤ bcQ v i % 1000000000 ∧ bcQ v i % 1000000000 < 1000000000
  omega
theorem bc_val (v : Int) : ∀ n, vl (bcD v) n + bcQ v n * 1000000000 ^ n = v
  | 0 => by show (0 : Int) + v * 1 = v; omega
  | n + 1 => by
    have ih := bc_val v n
    have h := dm_B (bcQ v n) (1000000000 ^ n)
    show vl (bcD v) n + (bcQ v n % 1000000000) * 1000000000 ^ n + (bcQ v n / 1000000000) * 1000000000 ^ (n + 1) = v
    rw [Int.pow_succ]
    omega
theorem bc_all {v : Int} {n : Nat} (h0 : 0 ≤ v) (h : v < 1000000000 ^ n) : vl (bcD v) n = v := by
  have e := bc_val v n
  have b := vl_bound (bc_dig v n)
  have q := (bcQ_in h0 n).1
  have hp := Bpos n
  generalize (1000000000 : Int) ^ n = P at *
  have hq : bcQ v n = 0 := by
    rcases (show 0 < bcQ v n ∨ bcQ v n ≤ 0 by omega) with z | z
    · have h2 : 1 * P ≤ bcQ v n * P := Int.mul_le_mul_of_nonneg_right (by omega) (by omega)
      omega
    · omega
  rw [hq] at e
  omega
theorem bcQ_0 : ∀ n, bcQ 0 n = 0
  | 0 => rfl
  | n + 1 => by show bcQ 0 n / 1000000000 = 0; rw [bcQ_0 n]; rfl
theorem bcD_0 (i : Nat) : bcD 0 i = 0 := by show bcQ 0 i % 1000000000 = 0; rw [bcQ_0]; rfl
/-- a sum -/
def adC (f g : Nat → Int) : Nat → Int
  | 0 => 0
  | i + 1 => (f i + g i + adC f g i) / 1000000000
def adD (f g : Nat → Int) (i : Nat) : Int := (f i + g i + adC f g i) % 1000000000
theorem adC_in {f g : Nat → Int} {n : Nat} (hf : dig f n) (hg : dig g n) : ∀ i, i ≤ n → 0 ≤ adC f g i ∧ adC f g i ≤ 1
  | 0, _ => by show (0 : Int) ≤ 0 ∧ (0 : Int) ≤ 1; omega
  | i + 1, h => by
    have ih := adC_in hf hg i (by omega)
    have h1 := hf i (by omega)
    have h2 := hg i (by omega)
    show 0 ≤ (f i + g i + adC f g i) / 1000000000 ∧ (f i + g i + adC f g i) / 1000000000 ≤ 1
    omega
theorem ad_dig (f g : Nat → Int) (n : Nat) : dig (adD f g) n := fun i _ => by
  show 0 ≤ (f i + g i + adC f g i) % 1000000000 ∧ (f i + g i + adC f g i) % 1000000000 < 1000000000
  omega
theorem ad_val (f g : Nat → Int) : ∀ n, vl (adD f g) n + adC f g n * 1000000000 ^ n = vl f n + vl g n
  | 0 => rfl
  | n + 1 => by
    have ih := ad_val f g n
    have h := dm_B (f n + g n + adC f g n) (1000000000 ^ n)
    show vl (adD f g) n + ((f n + g n + adC f g n) % 1000000000) * 1000000000 ^ n + ((f n + g n + adC f g n) / 1000000000) * 1000000000 ^ (n + 1) = vl f n + f n * 1000000000 ^ n + (vl g n + g n * 1000000000 ^ n)
    rw [Int.pow_succ]
    rw [Int.add_mul, Int.add_mul] at h
    omega
theorem ad_all {f g : Nat → Int} {n : Nat} (hf : dig f n) (hg : dig g n) (h : vl f n + vl g n < 1000000000 ^ n) : vl (adD f g) n = vl f n + vl g n := by
  have e := ad_val f g n
  have b := vl_bound (ad_dig f g n)
  have q := adC_in hf hg n (Nat.le_refl n)
  have hp := Bpos n
  generalize (1000000000 : Int) ^ n = P at *
  rcases (show adC f g n = 0 ∨ adC f g n = 1 by omega) with z | z
  · rw [z] at e; omega
  · rw [z] at e; omega
/-- a number times a small one -/
def scC (g : Nat → Int) (k : Int) : Nat → Int
  | 0 => 0
  | i + 1 => (g i * k + scC g k i) / 1000000000
def scD (g : Nat → Int) (k : Int) (i : Nat) : Int := (g i * k + scC g k i) % 1000000000
theorem scC_in {g : Nat → Int} {k : Int} {n : Nat} (hg : dig g n) (hk : 0 ≤ k) : ∀ i, i ≤ n → 0 ≤ scC g k i ∧ scC g k i ≤ k
  | 0, _ => by show (0 : Int) ≤ 0 ∧ (0 : Int) ≤ k; omega
  | i + 1, h => by
    have ih := scC_in hg hk i (by omega)
    have h1 := hg i (by omega)
    have h2 : 0 ≤ g i * k := Int.mul_nonneg h1.1 hk
    have h3 : g i * k ≤ 999999999 * k := Int.mul_le_mul_of_nonneg_right (by omega) hk
    show 0 ≤ (g i * k + scC g k i) / 1000000000 ∧ (g i * k + scC g k i) / 1000000000 ≤ k
    omega
theorem sc_dig (g : Nat → Int) (k : Int) (n : Nat) : dig (scD g k) n := fun i _ => by
  show 0 ≤ (g i * k + scC g k i) % 1000000000 ∧ (g i * k + scC g k i) % 1000000000 < 1000000000
  omega
theorem sc_val (g : Nat → Int) (k : Int) : ∀ n, vl (scD g k) n + scC g k n * 1000000000 ^ n = vl g n * k
  | 0 => by show (0 : Int) + 0 * 1 = 0 * k; omega
  | n + 1 => by
    have ih := sc_val g k n
    have h := dm_B (g n * k + scC g k n) (1000000000 ^ n)
    show vl (scD g k) n + ((g n * k + scC g k n) % 1000000000) * 1000000000 ^ n + ((g n * k + scC g k n) / 1000000000) * 1000000000 ^ (n + 1) = (vl g n + g n * 1000000000 ^ n) * k
    rw [Int.pow_succ, Int.add_mul, Int.mul_right_comm (g n)]
    rw [Int.add_mul] at h
    omega
theorem sc_all {g : Nat → Int} {k : Int} {n : Nat} (hg : dig g n) (hk : 0 ≤ k) (h : vl g n * k < 1000000000 ^ n) : vl (scD g k) n = vl g n * k := by
  have e := sc_val g k n
  have b := vl_bound (sc_dig g k n)
  have q := scC_in hg hk n (Nat.le_refl n)
  have hp := Bpos n
  generalize (1000000000 : Int) ^ n = P at *
  have hq : scC g k n = 0 := by
    rcases (show 0 < scC g k n ∨ scC g k n ≤ 0 by omega) with z | z
    · have h2 : 1 * P ≤ scC g k n * P := Int.mul_le_mul_of_nonneg_right (by omega) (by omega)
      omega
    · omega
  rw [hq] at e
  omega
theorem vl_add (f : Nat → Int) (i : Nat) : ∀ n, vl f (i + n) = vl f i + 1000000000 ^ i * vl (fun j => f (i + j)) n
  | 0 => by show vl f i = vl f i + 1000000000 ^ i * 0; omega
  | n + 1 => by
    have ih := vl_add f i n
    show vl f (i + n) + f (i + n) * 1000000000 ^ (i + n) = vl f i + 1000000000 ^ i * (vl (fun j => f (i + j)) n + f (i + n) * 1000000000 ^ n)
    rw [ih, Int.mul_add, Int.pow_add, Int.mul_left_comm (1000000000 ^ i) (f (i + n))]
    omega
/-- a number by a small one: from the first part on; after k steps the rest so far -/
def dvR (q : Nat → Int) (u : Int) : Nat → Int
  | 0 => 0
  | k + 1 => (dvR q u k * 1000000000 + q (7 - k)) % u
def dvQ (q : Nat → Int) (u : Int) (i : Nat) : Int := (dvR q u (7 - i) * 1000000000 + q i) / u
def hk8 (f : Nat → Int) : Nat → Int
  | 0 => 0
  | k + 1 => hk8 f k * 1000000000 + f (7 - k)
theorem dvR_in {q : Nat → Int} {u : Int} (hu : 0 < u) : ∀ k, 0 ≤ dvR q u k ∧ dvR q u k < u
  | 0 => ⟨Int.le_refl 0, hu⟩
  | k + 1 => ⟨Int.emod_nonneg _ (by omega), Int.emod_lt_of_pos _ hu⟩
theorem dv_val {q : Nat → Int} {u : Int} : ∀ k, k ≤ 8 → hk8 (dvQ q u) k * u + dvR q u k = hk8 q k
  | 0, _ => by show (0 : Int) * u + 0 = 0; omega
  | k + 1, h => by
    have ih := dv_val (q := q) (u := u) k (by omega)
    have e : 7 - (7 - k) = k := by omega
    have h1 := Int.emod_add_mul_ediv (dvR q u k * 1000000000 + q (7 - k)) u
    show (hk8 (dvQ q u) k * 1000000000 + (dvR q u (7 - (7 - k)) * 1000000000 + q (7 - k)) / u) * u + (dvR q u k * 1000000000 + q (7 - k)) % u = hk8 q k * 1000000000 + q (7 - k)
    rw [e, Int.add_mul, Int.mul_right_comm, Int.mul_comm ((dvR q u k * 1000000000 + q (7 - k)) / u) u]
    omega
theorem dv_dig {q : Nat → Int} {u : Int} (hu : 0 < u) (hq : dig q 8) : dig (dvQ q u) 8 := fun i hi => by
  have h1 := dvR_in (q := q) hu (7 - i)
  have h2 := hq i hi
  show 0 ≤ (dvR q u (7 - i) * 1000000000 + q i) / u ∧ (dvR q u (7 - i) * 1000000000 + q i) / u < 1000000000
  refine ⟨Int.ediv_nonneg (by omega) (by omega), Int.ediv_lt_of_lt_mul hu (by omega)⟩
theorem hk8_vl (f : Nat → Int) : hk8 f 8 = vl f 8 := by
  simp only [hk8, vl]
  simp only [Nat.sub_zero, Nat.reduceSub, Int.reducePow, Int.zero_add, Int.zero_mul, Int.pow_zero, Int.mul_one, Int.pow_succ]
  omega
end
section
/-! CONTRACTS WHOSE METHOD RETURNS OR THROWS -/
def FEX (first t : State) (L : List Loc) (k n : Nat) : Prop := first.WarmedH t.vm ∧ first.sameButNew ({ t with vm := first.vm } : State) L k n
def MX (l : Launch) (y : MethodName) (ws : List Cond) (rm : Room) (Pc : Array Value → State → Prop) (Qc : Array Value → State → Outcome → State → Prop) (mc ms : Nat) (free : Addr → Prop) : Prop :=
  MetFree l y (headSpec ws rm) Pc (fun _ _ _ _ _ => True) (fun a st o t => Qc a st o t ∧ ∃ L, FEX st t L mc ms ∧ ∀ q ∈ L, free q.base)
def yGo (p : Program) (e : Env) (below : List Frame) (A B : State) (g : JFrame) (len : Nat) : Outcome → Prop
  | .returned v => Steps p.tables e below A (B.setTop { g with pc := g.pc + len, stack := v.toList ++ g.stack })
  | .threw x => Steps p.tables e below A ((B.setTop g).pushFrame (.throwing x))
theorem yGo.pre {p : Program} {e : Env} {below : List Frame} {A A' B : State} {g : JFrame} {len : Nat} {o : Outcome} (h : yGo p e below A B g len o) (hs : ∀ t, Steps p.tables e below A t → Steps p.tables e below A' t) : yGo p e below A' B g len o := by
  cases o with
  | returned v => exact hs _ h
  | threw x => exact hs _ h
def BackX (l : Launch) (R : Room) (p : Program) (e : Env) (below : List Frame) (s : State) (sargs : Array Value) (y : MethodName) (len W : Nat)
    (Pre : Pt → Array Value → Prop) (Post : Pt → Array Value → Outcome → Pt → Prop) : Prop :=
  ∀ (m : MethodId) (meth : Method) (c : Code) (A : Pt) (g : JFrame) (ig : ClassFile.Instr) (mk : MethodId) (a : Array Value),
    Stand p l e R s m sargs below meth c A.U A.locs A.cells A.slots → g.method = m → g.locals.size = c.maxLocals → decode c.code g.pc = .ok (ig, len) →
    2 * g.monitorRoom + (g.stack.map fun v => v.category).sum ≤ W → A.U.methodNamed? y = some mk → Pre A a →
    ∃ (o : Outcome) (B : Pt), Stand p l e R s m sargs below meth c B.U B.locs B.cells B.slots ∧ Post A a o B ∧ yGo p e below (doInvoke e (A.U.setTop g) [] mk a).1 B.U g len o
def PostX (Qc : Array Value → State → Outcome → State → Prop) (mc ms : Nat) (free : Addr → Prop) : Pt → Array Value → Outcome → Pt → Prop := fun A a o B =>
  ∃ (g : JFrame) (mk : MethodId) (t : State) (L : List Loc), B.U.heap = t.heap ∧ B.U.vm = t.vm ∧ Qc a (A.U.calling g mk a) o t ∧ B.locs = A.locs ++ L ∧ (∀ q ∈ L, free q.base) ∧ B.cells = A.cells + mc ∧ B.slots = A.slots + ms
section YBack
variable {l : Launch} {R : Room} {p : Program} {e : Env} {below : List Frame} {s : State} {sargs : Array Value} {y : MethodName} {len W : Nat}
set_option maxHeartbeats 1000000 in
theorem backX_of {ws : List Cond} {rm : Room} {Pc : Array Value → State → Prop} {Qc : Array Value → State → Outcome → State → Prop} {mc ms : Nat} {free : Addr → Prop} {bytes : ByteArray} {maxL : Nat} {ret : Option FieldType}
    (hM : MX l y ws rm Pc Qc mc ms free) (hblind : FrameBlind Pc) (hrc : rm.cells = mc) (hrs : rm.slots = ms)
    (hframes : rm.frames + 1 ≤ R.frames) (hlocals : W + (maxL + 11) + rm.locals ≤ R.locals)
    (hws : ∀ w ∈ ws, ∀ a' U, s.WarmedH U.vm → w.before a' U = true) (hcode : Cond.code y bytes maxL ret ∈ ws) (hinit : ∀ a' U, s.WarmedH U.vm → (Cond.initialized y.cls).before a' U = true) :
    BackX l R p e below s sargs y len W (PreOf R mc ms Pc) (PostX Qc mc ms free) := by
  intro m meth c A g ig mk a X hg hsize hdg hW hn hp
  obtain ⟨U, Ls, c0, s0⟩ := A
  dsimp only [Pt.U, Pt.locs, Pt.cells, Pt.slots] at X hn ⊢
  obtain ⟨h4, h5, hPc⟩ := hp
  dsimp only [Pt.U, Pt.locs, Pt.cells, Pt.slots] at h4 h5 hPc
  have h2 : (Cond.code y bytes maxL ret).before a U = true := hws _ hcode _ _ X.warmed
  have h3 : (Cond.initialized y.cls).before a U = true := hinit _ _ X.warmed
  have h1 : (headSpec ws rm).pre.before a U = true := atoms_intro fun w hw => hws w hw _ _ X.warmed
  obtain ⟨methY, cY, hmY, hcY, -, hlY, -, -, -, -⟩ := Cond.code_spec hn h2
  obtain ⟨kY, hkY, -⟩ := className_of_methodNamed hn
  have hinitY : kY.init = .initialized := Cond.initialized_spec (findClass_of_methodNamed hn) hkY h3
  have h : At U g.method c below := by rw [hg]; exact X.here
  have happ : (headSpec ws rm).appliesLoose y e.platform (U.calling g mk a) = true :=
    Spec.appliesLoose_calling (g := g) h hdg hn hkY hinitY
      (X.room_calling (g := g) (R' := rm) hsize hmY hcY hframes (by rw [hlY]; omega) (by rw [hrc]; exact h4) (by rw [hrs]; exact h5)) h1
  obtain ⟨mid, hmid⟩ := h.above
  have hfr : (U.setTop g).frames = (.java g :: mid) ++ below := by rw [State.frames_setTop' g h.top, hmid]; rfl
  obtain ⟨o, s₂, hsteps, -, hend, hq⟩ := Steps.callFree hM p X.admits X.cas X.clock (acts := []) hfr happ (hblind _ _ _ _ hPc) trivial
  have hq' : Qc a (U.calling g mk a) o s₂ ∧ ∃ L, FEX (U.calling g mk a) s₂ L mc ms ∧ ∀ q ∈ L, free q.base := hq
  obtain ⟨hqc, L, ⟨hW₂, hsm⟩, hL⟩ := hq'
  rw [State.frames_setTop' g h.top] at hend
  cases o with
  | threw x =>
    rw [X.tail] at hend
    obtain ⟨T', X', -, -, ht⟩ := X.outOfThrown hg (mk := mk) (a := a) hend hW₂ hsm
    refine ⟨.threw x, ⟨T', Ls ++ L, c0 + mc, s0 + ms⟩, X', ⟨g, mk, s₂, L, ?_, ?_, hqc, rfl, hL, rfl, rfl⟩, ?_⟩
    · rw [ht]; exact (Stand.throwing_heap T' g x).symm
    · rw [ht]; exact (Stand.throwing_vm T' g x).symm
    · show Steps p.tables e below _ ((T'.setTop g).pushFrame (.throwing x))
      rw [← ht]
      exact hsteps
  | returned v =>
    obtain ⟨e2, q2, q3, q4, q5, q6⟩ := hsm
    have e3 : s₂ = ({ (U.calling g mk a).setFrames s₂.frames with heap := s₂.heap, slotsUsed := s₂.slotsUsed } : State).setVm s₂.vm := by
      have : s₂ = ({ s₂ with vm := (U.calling g mk a).vm } : State).setVm s₂.vm := rfl
      rw [e2] at this
      exact this
    obtain ⟨c₂, i₂, len₂, hc₂, hd₂, hf₂⟩ := hend
    have hW' : U.WarmedH s₂.vm := hW₂
    have hcc : c₂ = c := by
      have h1 : s₂.code? g.method = U.code? g.method := by
        rw [State.code?_eq, State.code?_eq, hW'.alike.method?]
      exact Option.some.inj (hc₂.symm.trans (h1.trans h.code))
    subst hcc
    have hlen : len₂ = len := by rw [hdg] at hd₂; cases hd₂; rfl
    subst hlen
    obtain ⟨g₀, hg0⟩ := Option.isSome_iff_exists.mp h.top
    obtain ⟨r, hr⟩ := State.topJava?_eq_some.mp hg0
    have hs₂ : s₂ = (({ U with heap := s₂.heap, slotsUsed := s₂.slotsUsed } : State).setVm s₂.vm).setTop { g with pc := g.pc + len₂, stack := v.toList ++ g.stack } := by
      have hr' : (({ U with heap := s₂.heap, slotsUsed := s₂.slotsUsed } : State).setVm s₂.vm).frames = .java g₀ :: r := hr
      refine e3.trans ?_
      rw [hf₂, State.calling_eq h.top, State.setFrames_setFrames, State.setTop_of_frames _ hr', hr]
      rfl
    have hsame : U.sameButNew ({ U with heap := s₂.heap, slotsUsed := s₂.slotsUsed } : State) L mc ms := by
      refine ⟨?_, q2, q3, q4, q5, q6⟩
      obtain ⟨t, ht, -⟩ := State.frames_cons hr
      show ({ U with heap := s₂.heap, slotsUsed := s₂.slotsUsed } : State) = { U.setFrames U.frames with heap := s₂.heap, slotsUsed := s₂.slotsUsed }
      rw [State.setFrames_self ht]
    subst hg
    refine ⟨.returned v, ⟨(({ U with heap := s₂.heap, slotsUsed := s₂.slotsUsed } : State).setVm s₂.vm), Ls ++ L, c0 + mc, s0 + ms⟩,
      ⟨X.admits, X.cas, X.clock, X.frames, X.room, X.hears, X.method, X.code, (X.here.setHeapUsed s₂.heap s₂.slotsUsed).setVm hW'.alike, X.tail, State.WarmedH.trans X.warmed hW', X.limits, X.bytes, X.same.trans (hsame.setVm s.vm)⟩,
      ⟨g, mk, s₂, L, rfl, rfl, hqc, rfl, hL, rfl, rfl⟩, ?_⟩
    show Steps p.tables e below _ ((({ U with heap := s₂.heap, slotsUsed := s₂.slotsUsed } : State).setVm s₂.vm).setTop { g with pc := g.pc + len₂, stack := v.toList ++ g.stack })
    rw [← hs₂]
    exact hsteps
end YBack
section YCalls
variable {p : Program} {l : Launch} {e : Env} {R : Room} {s : State} {m : MethodId} {args : Array Value} {below : List Frame} {meth : Method} {c : Code} {T : State} {locs : List Loc} {cells slots : Nat}
variable {own C host : String} {index : Nat} {y : MethodName} {bytes : ByteArray} {maxL : Nat} {ret : Option FieldType} {W : Nat} {Pre : Pt → Array Value → Prop} {Post : Pt → Array Value → Outcome → Pt → Prop} {g : JFrame} {argsL rest : List Value}
theorem callVX (X : Stand p l e R s m args below meth c T locs cells slots) (hexec : p.tables.exec = Jvm.exec)
    (hown : s.vm.findClass own = some m.cls) (hlink : (Cond.methodLink own index y).before args s = true) (hinst : (Cond.instanceMethod y).before args s = true) (hsel : (Cond.selects C y y).before args s = true)
    (hcode : (Cond.code y bytes maxL ret).before args s = true) (hy : y.cls ≠ "java/lang/invoke/MethodHandle" ∧ y.cls ≠ "java/lang/invoke/VarHandle")
    (hK : BackX l R p e below s args y 3 W Pre Post)
    {b : Addr} {cellB : Cell} (hcell : T.heap[b]? = some cellB) (hobj : cellB.vm.isStatics = false) (hcls : s.vm.findClass C = some cellB.cls)
    (hg : g.method = m) (hsize : g.locals.size = c.maxLocals) (hlen : ∀ sig, parseMethodDescriptor y.desc = some sig → argsL.length = sig.parameters.length)
    (hstack : g.stack = argsL.reverse ++ .ref b :: rest) (hW : 2 * g.monitorRoom + (rest.map fun v => v.category).sum ≤ W) (hdg : decode c.code g.pc = .ok (.invokevirtual index, 3))
    (hpre : ∀ vm₁, s.WarmedH vm₁ → Pre ⟨T.setVm vm₁, locs, cells, slots⟩ (Value.ref b :: argsL).toArray) :
    ∃ (o : Outcome) (vm₁ : Vm) (B : Pt), s.WarmedH vm₁ ∧ Stand p l e R s m args below meth c B.U B.locs B.cells B.slots ∧ Post ⟨T.setVm vm₁, locs, cells, slots⟩ (Value.ref b :: argsL).toArray o B ∧
      yGo p e below (T.setTop g) B.U { g with stack := rest } 3 o := by
  obtain ⟨mk, methM, hnamed, hmethM, hstM, habM⟩ := Cond.instanceMethod_spec hinst
  obtain ⟨methM', cM, hmethM', -, -, -, -, -, -, hsigM⟩ := Cond.code_spec hnamed hcode
  cases hmethM.symm.trans hmethM'
  obtain ⟨c2, r2, m2, q1, q2, q3, q4, kP, hkP, hkPi⟩ := Cond.selects_spec hsel
  cases hcls.symm.trans q1
  cases (State.methodFound?_of_named hnamed hy).symm.trans q2
  cases hnamed.symm.trans q3
  have hselP : selectMethod e.platform s.vm cellB.cls mk = .method mk := by rw [Launch.admits_selectMethod X.admits]; exact q4
  obtain ⟨vm₁, X₁, hstep₁⟩ := X.invokevirtual hexec hown hlink hnamed hmethM hstM hkP hkPi hy (a := b) (cell := cellB) hcell
    (fun z h => by rw [h] at hobj; cases hobj) hselP hmethM habM hkP hkPi (g := g) hg (argsL := argsL) (rest := rest) (hlen _ hsigM) hstack hdg
  obtain ⟨o, B, X', hpost, hsteps⟩ := hK m meth c ⟨T.setVm vm₁, locs, cells, slots⟩ { g with stack := rest } (.invokevirtual index) mk (Value.ref b :: argsL).toArray X₁ hg hsize hdg hW (X₁.named hnamed) (hpre vm₁ X₁.warmed)
  exact ⟨o, vm₁, B, X₁.warmed, X', hpost, hsteps.pre fun t h => hstep₁ _ fun acts => by rw [doInvoke_state]; exact h⟩
theorem callSX (X : Stand p l e R s m args below meth c T locs cells slots) (hexec : p.tables.exec = Jvm.exec)
    (hown : s.vm.findClass own = some m.cls) (hlink : (Cond.methodLink own index y).before args s = true) (hstat : (Cond.static y).before args s = true) (hinit : (Cond.initialized y.cls).before args s = true)
    (hcode : (Cond.code y bytes maxL ret).before args s = true) (hy : y.cls ≠ "java/lang/invoke/MethodHandle" ∧ y.cls ≠ "java/lang/invoke/VarHandle")
    (hK : BackX l R p e below s args y 3 W Pre Post)
    (hg : g.method = m) (hsize : g.locals.size = c.maxLocals) (hlen : ∀ sig, parseMethodDescriptor y.desc = some sig → argsL.length = sig.parameters.length)
    (hstack : g.stack = argsL.reverse ++ rest) (hW : 2 * g.monitorRoom + (rest.map fun v => v.category).sum ≤ W) (hdg : decode c.code g.pc = .ok (.invokestatic index, 3))
    (hpre : ∀ vm₁, s.WarmedH vm₁ → Pre ⟨T.setVm vm₁, locs, cells, slots⟩ argsL.toArray) :
    ∃ (o : Outcome) (vm₁ : Vm) (B : Pt), s.WarmedH vm₁ ∧ Stand p l e R s m args below meth c B.U B.locs B.cells B.slots ∧ Post ⟨T.setVm vm₁, locs, cells, slots⟩ argsL.toArray o B ∧
      yGo p e below (T.setTop g) B.U { g with stack := rest } 3 o := by
  obtain ⟨mk, hnamed⟩ := Cond.code_named hcode
  obtain ⟨methM, cM, hmethM, -, -, -, -, -, -, hsigM⟩ := Cond.code_spec hnamed hcode
  have hstatic : methM.isStatic = true := Cond.static_spec hnamed hmethM hstat
  obtain ⟨kP, hkP, -⟩ := className_of_methodNamed hnamed
  have hinitP : kP.init = .initialized := Cond.initialized_spec (findClass_of_methodNamed hnamed) hkP hinit
  obtain ⟨vm₁, X₁, hstep₁⟩ := X.invokestatic hexec hown hlink hnamed hmethM hstatic hkP hinitP hy (g := g) hg (argsL := argsL) (rest := rest) (hlen _ hsigM) hstack hdg
  obtain ⟨o, B, X', hpost, hsteps⟩ := hK m meth c ⟨T.setVm vm₁, locs, cells, slots⟩ { g with stack := rest } (.invokestatic index) mk argsL.toArray X₁ hg hsize hdg hW (X₁.named hnamed) (hpre vm₁ X₁.warmed)
  exact ⟨o, vm₁, B, X₁.warmed, X', hpost, hsteps.pre fun t h => hstep₁ _ fun acts => by rw [doInvoke_state]; exact h⟩
theorem callIX (X : Stand p l e R s m args below meth c T locs cells slots) (hexec : p.tables.exec = Jvm.exec)
    (hown : s.vm.findClass own = some m.cls) (hy1 : y.name = "<init>") (hlink : (Cond.methodLink own index y).before args s = true) (hinst : (Cond.instanceMethod y).before args s = true)
    (hcode : (Cond.code y bytes maxL none).before args s = true) (hy : y.cls ≠ "java/lang/invoke/MethodHandle" ∧ y.cls ≠ "java/lang/invoke/VarHandle")
    (hK : BackX l R p e below s args y 3 W Pre Post)
    (hg : g.method = m) (hsize : g.locals.size = c.maxLocals) {a : Addr} (hlen : ∀ sig, parseMethodDescriptor y.desc = some sig → argsL.length = sig.parameters.length)
    (hstack : g.stack = argsL.reverse ++ .ref a :: rest) (hW : 2 * g.monitorRoom + (rest.map fun v => v.category).sum ≤ W) (hdg : decode c.code g.pc = .ok (.invokespecial index, 3))
    (hpre : ∀ vm₁, s.WarmedH vm₁ → Pre ⟨T.setVm vm₁, locs, cells, slots⟩ (Value.ref a :: argsL).toArray) :
    ∃ (o : Outcome) (vm₁ : Vm) (B : Pt), s.WarmedH vm₁ ∧ Stand p l e R s m args below meth c B.U B.locs B.cells B.slots ∧ Post ⟨T.setVm vm₁, locs, cells, slots⟩ (Value.ref a :: argsL).toArray o B ∧
      yGo p e below (T.setTop g) B.U { g with stack := rest } 3 o := by
  subst hg
  have hpl : e.platform.magicAccessors = ({} : Platform).magicAccessors := by rw [X.admits.platform]
  obtain ⟨mk, methM, cM, kP, vm₁, hnamed, hmethM, hcodeM, -, hlocalsM, -, hkP, -, hW₁, hstep₁⟩ := Steps.initColdArgs (e := e) X.here hexec X.warmed hpl hown hy1 hy hlink hinst hcode (f := g) rfl hlen hstack hdg
  have X₁ := X.noted hW₁
  obtain ⟨o, B, X', hpost, hsteps⟩ := hK g.method meth c ⟨T.setVm vm₁, locs, cells, slots⟩ { g with stack := rest } (.invokespecial index) mk (Value.ref a :: argsL).toArray X₁ rfl hsize hdg hW (X₁.named hnamed) (hpre vm₁ X₁.warmed)
  exact ⟨o, vm₁, B, X₁.warmed, X', hpost, hsteps.pre fun t h => hstep₁ _ fun acts => by rw [doInvoke_state]; exact h⟩
theorem callINX (X : Stand p l e R s m args below meth c T locs cells slots) (hexec : p.tables.exec = Jvm.exec)
    (hown : s.vm.findClass own = some m.cls) (hy1 : y.name = "<init>") (hlink : (Cond.methodLinkNest own index y host).before args s = true) (hinst : (Cond.instanceMethod y).before args s = true)
    (hcode : (Cond.code y bytes maxL none).before args s = true) (hy : y.cls ≠ "java/lang/invoke/MethodHandle" ∧ y.cls ≠ "java/lang/invoke/VarHandle")
    (hK : BackX l R p e below s args y 3 W Pre Post)
    (hg : g.method = m) (hsize : g.locals.size = c.maxLocals) {a : Addr} (hlen : ∀ sig, parseMethodDescriptor y.desc = some sig → argsL.length = sig.parameters.length)
    (hstack : g.stack = argsL.reverse ++ .ref a :: rest) (hW : 2 * g.monitorRoom + (rest.map fun v => v.category).sum ≤ W) (hdg : decode c.code g.pc = .ok (.invokespecial index, 3))
    (hpre : ∀ vm₁, s.WarmedH vm₁ → Pre ⟨T.setVm vm₁, locs, cells, slots⟩ (Value.ref a :: argsL).toArray) :
    ∃ (o : Outcome) (vm₁ : Vm) (B : Pt), s.WarmedH vm₁ ∧ Stand p l e R s m args below meth c B.U B.locs B.cells B.slots ∧ Post ⟨T.setVm vm₁, locs, cells, slots⟩ (Value.ref a :: argsL).toArray o B ∧
      yGo p e below (T.setTop g) B.U { g with stack := rest } 3 o := by
  subst hg
  have hpl : e.platform.magicAccessors = ({} : Platform).magicAccessors := by rw [X.admits.platform]
  obtain ⟨mk, methM, cM, kP, vm₁, hnamed, hmethM, hcodeM, -, hlocalsM, -, hkP, -, hW₁, hstep₁⟩ := Steps.initColdArgsNest (e := e) X.here hexec X.warmed hpl hown hy1 hy hlink hinst hcode (f := g) rfl hlen hstack hdg
  have X₁ := X.noted hW₁
  obtain ⟨o, B, X', hpost, hsteps⟩ := hK g.method meth c ⟨T.setVm vm₁, locs, cells, slots⟩ { g with stack := rest } (.invokespecial index) mk (Value.ref a :: argsL).toArray X₁ rfl hsize hdg hW (X₁.named hnamed) (hpre vm₁ X₁.warmed)
  exact ⟨o, vm₁, B, X₁.warmed, X', hpost, hsteps.pre fun t h => hstep₁ _ fun acts => by rw [doInvoke_state]; exact h⟩
end YCalls
end
section
/-! NAMES, by program (wip/whole/tools/names.py): methods, fields, words -/
def R_Cal : String := "YearFractions$Calendars"
def R_Set : String := "YearFractions$LeastSet"
def R_Row : String := "YearFractions$Row"
def R_Who : String := "YearFractions$Whole"
def R_Yf : String := "YearFractions"
def R_Mod : String := "YearFractionsModel"
def R_Law : String := "YearFractionsLaw"
abbrev b_Yf_init : ByteArray := prog_1_method_1_code
def y_Yf_init : MethodName := ⟨"YearFractions", "<init>", "()V"⟩
abbrev b_Yf_row : ByteArray := prog_1_method_2_code
def y_Yf_row : MethodName := ⟨"YearFractions", "row", "(II)I"⟩
abbrev b_Yf_weight : ByteArray := prog_1_method_3_code
def y_Yf_weight : MethodName := ⟨"YearFractions", "weight", "(IIJ)Z"⟩
abbrev b_Yf_add : ByteArray := prog_1_method_4_code
def y_Yf_add : MethodName := ⟨"YearFractions", "add", "(II)I"⟩
abbrev b_Yf_times : ByteArray := prog_1_method_5_code
def y_Yf_times : MethodName := ⟨"YearFractions", "times", "(III)I"⟩
abbrev b_Yf_rest : ByteArray := prog_1_method_6_code
def y_Yf_rest : MethodName := ⟨"YearFractions", "rest", "()J"⟩
abbrev b_Yf_least : ByteArray := prog_1_method_7_code
def y_Yf_least : MethodName := ⟨"YearFractions", "least", "(III)I"⟩
abbrev b_Yf_span : ByteArray := prog_1_method_8_code
def y_Yf_span : MethodName := ⟨"YearFractions", "span", "(II)I"⟩
abbrev b_Yf_digit : ByteArray := prog_1_method_9_code
def y_Yf_digit : MethodName := ⟨"YearFractions", "digit", "(III)I"⟩
abbrev b_Yf_total : ByteArray := prog_1_method_10_code
def y_Yf_total : MethodName := ⟨"YearFractions", "total", "(II)I"⟩
abbrev b_Yf_compare : ByteArray := prog_1_method_11_code
def y_Yf_compare : MethodName := ⟨"YearFractions", "compare", "(IIII)I"⟩
abbrev b_Yf_about : ByteArray := prog_1_method_12_code
def y_Yf_about : MethodName := ⟨"YearFractions", "about", "(II)I"⟩
abbrev b_Yf_over : ByteArray := prog_1_method_13_code
def y_Yf_over : MethodName := ⟨"YearFractions", "over", "(JJ)J"⟩
abbrev b_Yf_written : ByteArray := prog_1_method_14_code
def y_Yf_written : MethodName := ⟨"YearFractions", "written", "(I)J"⟩
abbrev b_Yf_day : ByteArray := prog_1_method_15_code
def y_Yf_day : MethodName := ⟨"YearFractions", "day", "(IIII)I"⟩
abbrev b_Yf_date : ByteArray := prog_1_method_16_code
def y_Yf_date : MethodName := ⟨"YearFractions", "date", "(III)I"⟩
abbrev b_Yf_clear : ByteArray := prog_1_method_17_code
def y_Yf_clear : MethodName := ⟨"YearFractions", "clear", "()I"⟩
abbrev b_Yf_knownRow : ByteArray := prog_1_method_18_code
def y_Yf_knownRow : MethodName := ⟨"YearFractions", "knownRow", "(I)LYearFractions$Row;"⟩
abbrev b_Yf_knownRowWith : ByteArray := prog_1_method_19_code
def y_Yf_knownRowWith : MethodName := ⟨"YearFractions", "knownRowWith", "(II)LYearFractions$Row;"⟩
abbrev b_Yf_freeRow : ByteArray := prog_1_method_20_code
def y_Yf_freeRow : MethodName := ⟨"YearFractions", "freeRow", "()LYearFractions$Row;"⟩
abbrev b_Yf_keepFreeRow : ByteArray := prog_1_method_21_code
def y_Yf_keepFreeRow : MethodName := ⟨"YearFractions", "keepFreeRow", "()I"⟩
abbrev b_Yf_requireDigit : ByteArray := prog_1_method_22_code
def y_Yf_requireDigit : MethodName := ⟨"YearFractions", "requireDigit", "(II)V"⟩
abbrev b_Yf_requireCalendar : ByteArray := prog_1_method_23_code
def y_Yf_requireCalendar : MethodName := ⟨"YearFractions", "requireCalendar", "(I)V"⟩
abbrev b_Yf_storeWeight : ByteArray := prog_1_method_24_code
def y_Yf_storeWeight : MethodName := ⟨"YearFractions", "storeWeight", "(LYearFractions$Row;ILYearFractions$Whole;)V"⟩
abbrev b_Yf_gather : ByteArray := prog_1_method_25_code
def y_Yf_gather : MethodName := ⟨"YearFractions", "gather", "(LYearFractions$Row;LYearFractions$Whole;LYearFractions$Whole;)V"⟩
abbrev b_Yf_countWeighted : ByteArray := prog_1_method_26_code
def y_Yf_countWeighted : MethodName := ⟨"YearFractions", "countWeighted", "(LYearFractions$Row;)I"⟩
abbrev b_Yf_takeUntilEnough : ByteArray := prog_1_method_27_code
def y_Yf_takeUntilEnough : MethodName := ⟨"YearFractions", "takeUntilEnough", "(LYearFractions$Row;I)V"⟩
abbrev b_Mod_init : ByteArray := prog_7_method_1_code
def y_Mod_init : MethodName := ⟨"YearFractionsModel", "<init>", "()V"⟩
abbrev b_Mod_thrown : ByteArray := prog_7_method_2_code
def y_Mod_thrown : MethodName := ⟨"YearFractionsModel", "thrown", "()I"⟩
abbrev b_Mod_goes : ByteArray := prog_7_method_3_code
def y_Mod_goes : MethodName := ⟨"YearFractionsModel", "goes", "(ZZZZ)Z"⟩
abbrev b_Mod_within : ByteArray := prog_7_method_4_code
def y_Mod_within : MethodName := ⟨"YearFractionsModel", "within", "(III)Z"⟩
abbrev b_Mod_isRow : ByteArray := prog_7_method_5_code
def y_Mod_isRow : MethodName := ⟨"YearFractionsModel", "isRow", "(I)Z"⟩
abbrev b_Mod_has : ByteArray := prog_7_method_6_code
def y_Mod_has : MethodName := ⟨"YearFractionsModel", "has", "(II)Z"⟩
abbrev b_Mod_at : ByteArray := prog_7_method_7_code
def y_Mod_at : MethodName := ⟨"YearFractionsModel", "at", "(II)I"⟩
abbrev b_Mod_open : ByteArray := prog_7_method_8_code
def y_Mod_open : MethodName := ⟨"YearFractionsModel", "open", "(II)V"⟩
abbrev b_Mod_row : ByteArray := prog_7_method_9_code
def y_Mod_row : MethodName := ⟨"YearFractionsModel", "row", "(II)I"⟩
abbrev b_Mod_weight : ByteArray := prog_7_method_10_code
def y_Mod_weight : MethodName := ⟨"YearFractionsModel", "weight", "(IIJ)Z"⟩
abbrev b_Mod_blank : ByteArray := prog_7_method_11_code
def y_Mod_blank : MethodName := ⟨"YearFractionsModel", "blank", "()V"⟩
abbrev b_Mod_plus : ByteArray := prog_7_method_12_code
def y_Mod_plus : MethodName := ⟨"YearFractionsModel", "plus", "(II)V"⟩
abbrev b_Mod_keep : ByteArray := prog_7_method_13_code
def y_Mod_keep : MethodName := ⟨"YearFractionsModel", "keep", "(II)Z"⟩
abbrev b_Mod_add : ByteArray := prog_7_method_14_code
def y_Mod_add : MethodName := ⟨"YearFractionsModel", "add", "(II)I"⟩
abbrev b_Mod_multiply : ByteArray := prog_7_method_15_code
def y_Mod_multiply : MethodName := ⟨"YearFractionsModel", "multiply", "(II)V"⟩
abbrev b_Mod_divide : ByteArray := prog_7_method_16_code
def y_Mod_divide : MethodName := ⟨"YearFractionsModel", "divide", "(I)J"⟩
abbrev b_Mod_times : ByteArray := prog_7_method_17_code
def y_Mod_times : MethodName := ⟨"YearFractionsModel", "times", "(III)I"⟩
abbrev b_Mod_rest : ByteArray := prog_7_method_18_code
def y_Mod_rest : MethodName := ⟨"YearFractionsModel", "rest", "()J"⟩
abbrev b_Mod_compared : ByteArray := prog_7_method_19_code
def y_Mod_compared : MethodName := ⟨"YearFractionsModel", "compared", "(II)I"⟩
abbrev b_Mod_sumUp : ByteArray := prog_7_method_20_code
def y_Mod_sumUp : MethodName := ⟨"YearFractionsModel", "sumUp", "(IZ)V"⟩
abbrev b_Mod_grow : ByteArray := prog_7_method_21_code
def y_Mod_grow : MethodName := ⟨"YearFractionsModel", "grow", "(I)V"⟩
abbrev b_Mod_enough : ByteArray := prog_7_method_22_code
def y_Mod_enough : MethodName := ⟨"YearFractionsModel", "enough", "(III)Z"⟩
abbrev b_Mod_isNothing : ByteArray := prog_7_method_23_code
def y_Mod_isNothing : MethodName := ⟨"YearFractionsModel", "isNothing", "(I)Z"⟩
abbrev b_Mod_least : ByteArray := prog_7_method_24_code
def y_Mod_least : MethodName := ⟨"YearFractionsModel", "least", "(III)I"⟩
abbrev b_Mod_span : ByteArray := prog_7_method_25_code
def y_Mod_span : MethodName := ⟨"YearFractionsModel", "span", "(II)I"⟩
abbrev b_Mod_digit : ByteArray := prog_7_method_26_code
def y_Mod_digit : MethodName := ⟨"YearFractionsModel", "digit", "(III)I"⟩
abbrev b_Mod_total : ByteArray := prog_7_method_27_code
def y_Mod_total : MethodName := ⟨"YearFractionsModel", "total", "(II)I"⟩
abbrev b_Mod_compare : ByteArray := prog_7_method_28_code
def y_Mod_compare : MethodName := ⟨"YearFractionsModel", "compare", "(IIII)I"⟩
abbrev b_Mod_about : ByteArray := prog_7_method_29_code
def y_Mod_about : MethodName := ⟨"YearFractionsModel", "about", "(II)I"⟩
abbrev b_Mod_over : ByteArray := prog_7_method_30_code
def y_Mod_over : MethodName := ⟨"YearFractionsModel", "over", "(JJ)J"⟩
abbrev b_Mod_written : ByteArray := prog_7_method_31_code
def y_Mod_written : MethodName := ⟨"YearFractionsModel", "written", "(I)J"⟩
abbrev b_Mod_rest_2 : ByteArray := prog_7_method_32_code
def y_Mod_rest_2 : MethodName := ⟨"YearFractionsModel", "rest", "(II)I"⟩
abbrev b_Mod_isLeap : ByteArray := prog_7_method_33_code
def y_Mod_isLeap : MethodName := ⟨"YearFractionsModel", "isLeap", "(II)Z"⟩
abbrev b_Mod_yearDays : ByteArray := prog_7_method_34_code
def y_Mod_yearDays : MethodName := ⟨"YearFractionsModel", "yearDays", "(II)I"⟩
abbrev b_Mod_months : ByteArray := prog_7_method_35_code
def y_Mod_months : MethodName := ⟨"YearFractionsModel", "months", "(I)I"⟩
abbrev b_Mod_monthDays : ByteArray := prog_7_method_36_code
def y_Mod_monthDays : MethodName := ⟨"YearFractionsModel", "monthDays", "(III)I"⟩
abbrev b_Mod_cycle : ByteArray := prog_7_method_37_code
def y_Mod_cycle : MethodName := ⟨"YearFractionsModel", "cycle", "(I)I"⟩
abbrev b_Mod_cycleDays : ByteArray := prog_7_method_38_code
def y_Mod_cycleDays : MethodName := ⟨"YearFractionsModel", "cycleDays", "(I)I"⟩
abbrev b_Mod_origin : ByteArray := prog_7_method_39_code
def y_Mod_origin : MethodName := ⟨"YearFractionsModel", "origin", "(I)I"⟩
abbrev b_Mod_behind : ByteArray := prog_7_method_40_code
def y_Mod_behind : MethodName := ⟨"YearFractionsModel", "behind", "(II)I"⟩
abbrev b_Mod_firstOf : ByteArray := prog_7_method_41_code
def y_Mod_firstOf : MethodName := ⟨"YearFractionsModel", "firstOf", "(II)I"⟩
abbrev b_Mod_day : ByteArray := prog_7_method_42_code
def y_Mod_day : MethodName := ⟨"YearFractionsModel", "day", "(IIII)I"⟩
abbrev b_Mod_date : ByteArray := prog_7_method_43_code
def y_Mod_date : MethodName := ⟨"YearFractionsModel", "date", "(III)I"⟩
abbrev b_Mod_clear : ByteArray := prog_7_method_44_code
def y_Mod_clear : MethodName := ⟨"YearFractionsModel", "clear", "()I"⟩
abbrev b_Cal_months : ByteArray := prog_2_method_2_code
def y_Cal_months : MethodName := ⟨"YearFractions$Calendars", "months", "(I)I"⟩
abbrev b_Cal_isLeap : ByteArray := prog_2_method_3_code
def y_Cal_isLeap : MethodName := ⟨"YearFractions$Calendars", "isLeap", "(II)Z"⟩
abbrev b_Cal_isLunarLeap : ByteArray := prog_2_method_4_code
def y_Cal_isLunarLeap : MethodName := ⟨"YearFractions$Calendars", "isLunarLeap", "(I)Z"⟩
abbrev b_Cal_lunarLeapsTo : ByteArray := prog_2_method_5_code
def y_Cal_lunarLeapsTo : MethodName := ⟨"YearFractions$Calendars", "lunarLeapsTo", "(I)I"⟩
abbrev b_Cal_monthDays : ByteArray := prog_2_method_6_code
def y_Cal_monthDays : MethodName := ⟨"YearFractions$Calendars", "monthDays", "(III)I"⟩
abbrev b_Cal_daysAhead : ByteArray := prog_2_method_7_code
def y_Cal_daysAhead : MethodName := ⟨"YearFractions$Calendars", "daysAhead", "(III)I"⟩
abbrev b_Cal_newYear : ByteArray := prog_2_method_8_code
def y_Cal_newYear : MethodName := ⟨"YearFractions$Calendars", "newYear", "(II)I"⟩
abbrev b_Cal_yearOf : ByteArray := prog_2_method_9_code
def y_Cal_yearOf : MethodName := ⟨"YearFractions$Calendars", "yearOf", "(II)I"⟩
abbrev b_Cal_monthOf : ByteArray := prog_2_method_10_code
def y_Cal_monthOf : MethodName := ⟨"YearFractions$Calendars", "monthOf", "(III)I"⟩
abbrev b_Set_init : ByteArray := prog_3_method_1_code
def y_Set_init : MethodName := ⟨"YearFractions$LeastSet", "<init>", "()V"⟩
abbrev b_Set_rank : ByteArray := prog_3_method_2_code
def y_Set_rank : MethodName := ⟨"YearFractions$LeastSet", "rank", "(LYearFractions$Row;)V"⟩
abbrev b_Set_take : ByteArray := prog_3_method_3_code
def y_Set_take : MethodName := ⟨"YearFractions$LeastSet", "take", "(LYearFractions$Row;I)I"⟩
abbrev b_Set_findSpans : ByteArray := prog_3_method_4_code
def y_Set_findSpans : MethodName := ⟨"YearFractions$LeastSet", "findSpans", "(LYearFractions$Row;)V"⟩
abbrev b_Row_init : ByteArray := prog_4_method_1_code
def y_Row_init : MethodName := ⟨"YearFractions$Row", "<init>", "()V"⟩
abbrev b_Row_open : ByteArray := prog_4_method_2_code
def y_Row_open : MethodName := ⟨"YearFractions$Row", "open", "(II)V"⟩
abbrev b_Row_last : ByteArray := prog_4_method_3_code
def y_Row_last : MethodName := ⟨"YearFractions$Row", "last", "()I"⟩
abbrev b_Row_has : ByteArray := prog_4_method_4_code
def y_Row_has : MethodName := ⟨"YearFractions$Row", "has", "(I)Z"⟩
abbrev b_Row_read : ByteArray := prog_4_method_5_code
def y_Row_read : MethodName := ⟨"YearFractions$Row", "read", "(ILYearFractions$Whole;)V"⟩
abbrev b_Row_write : ByteArray := prog_4_method_6_code
def y_Row_write : MethodName := ⟨"YearFractions$Row", "write", "(ILYearFractions$Whole;)V"⟩
abbrev b_Row_isLess : ByteArray := prog_4_method_7_code
def y_Row_isLess : MethodName := ⟨"YearFractions$Row", "isLess", "(II)Z"⟩
abbrev b_Who_init : ByteArray := prog_5_method_1_code
def y_Who_init : MethodName := ⟨"YearFractions$Whole", "<init>", "()V"⟩
abbrev b_Who_become : ByteArray := prog_5_method_2_code
def y_Who_become : MethodName := ⟨"YearFractions$Whole", "become", "(J)V"⟩
abbrev b_Who_increase : ByteArray := prog_5_method_3_code
def y_Who_increase : MethodName := ⟨"YearFractions$Whole", "increase", "(LYearFractions$Whole;)V"⟩
abbrev b_Who_becomeScaled : ByteArray := prog_5_method_4_code
def y_Who_becomeScaled : MethodName := ⟨"YearFractions$Whole", "becomeScaled", "(LYearFractions$Whole;J)V"⟩
abbrev b_Who_becomeProduct : ByteArray := prog_5_method_5_code
def y_Who_becomeProduct : MethodName := ⟨"YearFractions$Whole", "becomeProduct", "(LYearFractions$Whole;LYearFractions$Whole;)V"⟩
abbrev b_Who_divide : ByteArray := prog_5_method_6_code
def y_Who_divide : MethodName := ⟨"YearFractions$Whole", "divide", "(I)J"⟩
abbrev b_Who_order : ByteArray := prog_5_method_7_code
def y_Who_order : MethodName := ⟨"YearFractions$Whole", "order", "(LYearFractions$Whole;)I"⟩
abbrev b_Who_isZero : ByteArray := prog_5_method_8_code
def y_Who_isZero : MethodName := ⟨"YearFractions$Whole", "isZero", "()Z"⟩
abbrev b_Who_isWeight : ByteArray := prog_5_method_9_code
def y_Who_isWeight : MethodName := ⟨"YearFractions$Whole", "isWeight", "()Z"⟩
abbrev b_Who_digitAt : ByteArray := prog_5_method_10_code
def y_Who_digitAt : MethodName := ⟨"YearFractions$Whole", "digitAt", "(I)I"⟩
abbrev b_Law_row : ByteArray := method_3_code
def y_Law_row : MethodName := ⟨"YearFractionsLaw", "row", "(LYearFractions;II[J)I"⟩
abbrev b_Law_weight : ByteArray := method_4_code
def y_Law_weight : MethodName := ⟨"YearFractionsLaw", "weight", "(LYearFractions;IIJ[J)I"⟩
abbrev b_Law_add : ByteArray := method_5_code
def y_Law_add : MethodName := ⟨"YearFractionsLaw", "add", "(LYearFractions;II[J)I"⟩
abbrev b_Law_times : ByteArray := method_6_code
def y_Law_times : MethodName := ⟨"YearFractionsLaw", "times", "(LYearFractions;III[J)I"⟩
abbrev b_Law_least : ByteArray := method_7_code
def y_Law_least : MethodName := ⟨"YearFractionsLaw", "least", "(LYearFractions;III[J)I"⟩
abbrev b_Law_span : ByteArray := method_8_code
def y_Law_span : MethodName := ⟨"YearFractionsLaw", "span", "(LYearFractions;II[J)I"⟩
abbrev b_Law_digit : ByteArray := method_9_code
def y_Law_digit : MethodName := ⟨"YearFractionsLaw", "digit", "(LYearFractions;III[J)I"⟩
abbrev b_Law_total : ByteArray := method_10_code
def y_Law_total : MethodName := ⟨"YearFractionsLaw", "total", "(LYearFractions;II[J)I"⟩
abbrev b_Law_compare : ByteArray := method_11_code
def y_Law_compare : MethodName := ⟨"YearFractionsLaw", "compare", "(LYearFractions;IIII[J)I"⟩
abbrev b_Law_about : ByteArray := method_12_code
def y_Law_about : MethodName := ⟨"YearFractionsLaw", "about", "(LYearFractions;II[J)I"⟩
abbrev b_Law_over : ByteArray := method_13_code
def y_Law_over : MethodName := ⟨"YearFractionsLaw", "over", "(LYearFractions;JJ[J)I"⟩
abbrev b_Law_day : ByteArray := method_14_code
def y_Law_day : MethodName := ⟨"YearFractionsLaw", "day", "(LYearFractions;IIII[J)I"⟩
abbrev b_Law_date : ByteArray := method_15_code
def y_Law_date : MethodName := ⟨"YearFractionsLaw", "date", "(LYearFractions;III[J)I"⟩
def F_Set : u_T := fun k => match k with
  | 0 => ("YearFractions$LeastSet", "ranked", "[I", true)
  | 1 => ("YearFractions$LeastSet", "taken", "[Z", true)
  | 2 => ("YearFractions$LeastSet", "spans", "I", false)
  | 3 => ("YearFractions$LeastSet", "firsts", "[I", true)
  | _ => ("YearFractions$LeastSet", "lasts", "[I", true)
def t_Set : Nat → FieldType := fun k => match k with
  | 0 => (.array .int)
  | 1 => (.array .boolean)
  | 2 => .int
  | 3 => (.array .int)
  | _ => (.array .int)
theorem nm_Set : ∀ a, a < 5 → ∀ b, b < 5 → a ≠ b → (F_Set a).2.1 ≠ (F_Set b).2.1 := by decide +kernel
theorem tok_Set : ∀ k, k < 5 → parseFieldDescriptor (F_Set k).2.2.1 = some (t_Set k) := by decide +kernel
theorem in_Set : ∀ w ∈ u_ws R_Set F_Set 5, w ∈ yW := by decide +kernel
def F_Row : u_T := fun k => match k with
  | 0 => ("YearFractions$Row", "first", "I", false)
  | 1 => ("YearFractions$Row", "many", "I", false)
  | _ => ("YearFractions$Row", "parts", "[J", true)
def t_Row : Nat → FieldType := fun k => match k with
  | 0 => .int
  | 1 => .int
  | _ => (.array .long)
theorem nm_Row : ∀ a, a < 3 → ∀ b, b < 3 → a ≠ b → (F_Row a).2.1 ≠ (F_Row b).2.1 := by decide +kernel
theorem tok_Row : ∀ k, k < 3 → parseFieldDescriptor (F_Row k).2.2.1 = some (t_Row k) := by decide +kernel
theorem in_Row : ∀ w ∈ u_ws R_Row F_Row 3, w ∈ yW := by decide +kernel
def F_Who : u_T := fun k => match k with
  | _ => ("YearFractions$Whole", "parts", "[J", true)
def t_Who : Nat → FieldType := fun k => match k with
  | _ => (.array .long)
theorem nm_Who : ∀ a, a < 1 → ∀ b, b < 1 → a ≠ b → (F_Who a).2.1 ≠ (F_Who b).2.1 := by decide +kernel
theorem tok_Who : ∀ k, k < 1 → parseFieldDescriptor (F_Who k).2.2.1 = some (t_Who k) := by decide +kernel
theorem in_Who : ∀ w ∈ u_ws R_Who F_Who 1, w ∈ yW := by decide +kernel
def F_Yf : u_T := fun k => match k with
  | 0 => ("YearFractions", "rows", "[LYearFractions$Row;", true)
  | 1 => ("YearFractions", "rowCount", "I", false)
  | 2 => ("YearFractions", "rests", "J", false)
  | 3 => ("YearFractions", "latestSet", "LYearFractions$LeastSet;", true)
  | 4 => ("YearFractions", "left", "LYearFractions$Whole;", true)
  | 5 => ("YearFractions", "right", "LYearFractions$Whole;", true)
  | _ => ("YearFractions", "result", "LYearFractions$Whole;", true)
def t_Yf : Nat → FieldType := fun k => match k with
  | 0 => (.array (.object "YearFractions$Row"))
  | 1 => .int
  | 2 => .long
  | 3 => (.object "YearFractions$LeastSet")
  | 4 => (.object "YearFractions$Whole")
  | 5 => (.object "YearFractions$Whole")
  | _ => (.object "YearFractions$Whole")
theorem nm_Yf : ∀ a, a < 7 → ∀ b, b < 7 → a ≠ b → (F_Yf a).2.1 ≠ (F_Yf b).2.1 := by decide +kernel
theorem tok_Yf : ∀ k, k < 7 → parseFieldDescriptor (F_Yf k).2.2.1 = some (t_Yf k) := by decide +kernel
theorem in_Yf : ∀ w ∈ u_ws R_Yf F_Yf 7, w ∈ yW := by decide +kernel
def F_Mod : u_T := fun k => match k with
  | 0 => ("YearFractionsModel", "thrown", "I", false)
  | 1 => ("YearFractionsModel", "rows", "I", false)
  | 2 => ("YearFractionsModel", "firsts", "[I", true)
  | 3 => ("YearFractionsModel", "sizes", "[I", true)
  | 4 => ("YearFractionsModel", "digits", "[I", true)
  | 5 => ("YearFractionsModel", "rests", "J", false)
  | 6 => ("YearFractionsModel", "spans", "I", false)
  | 7 => ("YearFractionsModel", "starts", "[I", true)
  | 8 => ("YearFractionsModel", "ends", "[I", true)
  | 9 => ("YearFractionsModel", "wide", "[I", true)
  | 10 => ("YearFractionsModel", "other", "[I", true)
  | _ => ("YearFractionsModel", "chosen", "[Z", true)
def t_Mod : Nat → FieldType := fun k => match k with
  | 0 => .int
  | 1 => .int
  | 2 => (.array .int)
  | 3 => (.array .int)
  | 4 => (.array .int)
  | 5 => .long
  | 6 => .int
  | 7 => (.array .int)
  | 8 => (.array .int)
  | 9 => (.array .int)
  | 10 => (.array .int)
  | _ => (.array .boolean)
theorem nm_Mod : ∀ a, a < 12 → ∀ b, b < 12 → a ≠ b → (F_Mod a).2.1 ≠ (F_Mod b).2.1 := by decide +kernel
theorem tok_Mod : ∀ k, k < 12 → parseFieldDescriptor (F_Mod k).2.2.1 = some (t_Mod k) := by decide +kernel
theorem in_Mod : ∀ w ∈ u_ws R_Mod F_Mod 12, w ∈ yW := by decide +kernel
abbrev vwCl : List vw_C := [(R_Set, F_Set, 5), (R_Row, F_Row, 3), (R_Who, F_Who, 1), (R_Yf, F_Yf, 7), (R_Mod, F_Mod, 12)]
end
section
/-! WHAT STANDS THROUGHOUT THE RUN, beside the words yW: words that are kept in another way, texts, static tables -/
abbrev yD : Type := va_G × (Nat → ClassId) × (Nat → Nat)
def yT (d : yD) : List (ClassId × FieldType) := [(d.2.1 0, .int), (d.2.1 1, .long), (d.2.1 2, .boolean), (d.2.1 3, .object "YearFractions$Row")]
def yL (l : Launch) : Prop := l.stackTraces = false
def yNk : Cond → Bool
  | .fieldLinkNest .. | .methodLinkNest .. | .castable .. | .declares _ => true
  | _ => false
def yNs : List Cond := lw_tbl.filter yNk
theorem yNs_of {w : Cond} (i : Nat) (h : lw_tbl[i]? = some w) (hg : yNk w = true) : w ∈ yNs := List.mem_filter.mpr ⟨List.mem_of_getElem? h, hg⟩
theorem yNs_on {w : Cond} (h : w ∈ yNs) : w.onTables = true := by
  have h1 := (List.mem_filter.mp h).2
  cases w <;> first | rfl | (simp [yNk] at h1)
theorem yNs_warm {w : Cond} (h : w ∈ yNs) {s U : State} (hW : s.WarmedH U.vm) (hw : va_Nw w s) : va_Nw w U := by
  have h1 := (List.mem_filter.mp h).2
  cases w with
  | fieldLinkNest => exact va_Nw.warmF hW hw
  | methodLinkNest => exact va_Nw.warmM hW hw
  | castable => exact va_Nw.warmC hW hw
  | declares => exact va_Nw.warmD hW hw
  | _ => simp [yNk] at h1
def yStr : List (String × Nat × String) := [("YearFractions", 235, "there are eight rows"), ("YearFractions", 50, "a row has 1 to 48 years"), ("YearFractions", 55, "years are -9999 to 9999"), ("YearFractions", 225, "no such row"), ("YearFractions", 231, "the year is not in the row"), ("YearFractions", 69, "a weight is not below 0"), ("YearFractions", 105, "the sum would have more than 48 years"), ("YearFractions", 245, "a weight would be too great"), ("YearFractions", 116, "the unit is 1 to 1000000000"), ("YearFractions", 118, "the rows have no year together"), ("YearFractions", 129, "below is 1 to 1000000"), ("YearFractions", 131, "above is 0 to below"), ("YearFractions", 143, "all weights of the row are 0"), ("YearFractions", 163, "no such span"), ("YearFractions", 166, "a span's end is 0 or 1"), ("YearFractions", 238, "no such digit"), ("YearFractions", 186, "a row is asked for 0, 1 or 2"), ("YearFractions", 188, "nothing is divided by 0"), ("YearFractions", 240, "no such calendar"), ("YearFractions", 199, "no such month"), ("YearFractions", 205, "no such day"), ("YearFractions", 213, "a day is asked for 0, 1 or 2"), ("YearFractions", 217, "days are -4000000 to 4000000")]
def yTab : List (String × List Int) := [("MONTH_DAYS", [31, 28, 31, 30, 31, 30, 31, 31, 30, 31, 30, 31]), ("LUNAR_LEAPS", [2, 5, 7, 10, 13, 16, 18, 21, 24, 26, 29]), ("FIRST_DAY", [0, -2, 227014, -272788]), ("CYCLE_YEARS", [400, 4, 30, 1]), ("CYCLE_DAYS", [146097, 1461, 10631, 365])]
def yEx : List String := ["java/lang/IndexOutOfBoundsException", "java/lang/IllegalStateException", "java/lang/IllegalArgumentException", "java/lang/ArithmeticException"]
def yGt (d : yD) (b : Nat) (U : State) : Prop := ∀ (i : Nat) (q : String × List Int), yTab[i]? = some q → va_Z "YearFractions$Calendars" q.1 "[I" (.ref (d.2.2 i)) (fun q => b ≤ q) U U.heap ∧ va_T .int (d.2.2 i) q.2.length (fun j => vi (q.2.getD j 0)) (fun q => b ≤ q) U U.heap
def yG (d : yD) (b : Nat) (U : State) : Prop :=
  (∀ w ∈ yNs, va_Nw w U) ∧ (∀ q ∈ yStr, ∃ a, vk_R q.1 q.2.1 q.2.2 a U) ∧ yGt d b U ∧
  vx_Zq Bundle.tN "UNASSIGNED_STACK" Bundle.steD (fun q => b ≤ q) U U.heap ∧ vx_Zq Bundle.tN "SUPPRESSED_SENTINEL" Bundle.listD (fun q => b ≤ q) U U.heap ∧
  va_AO "YearFractions$Row" U ∧ ∀ E ∈ yEx, ∀ N ∈ yEx, E ≠ N → va_Nc E N U
theorem yNc_moved {C T : String} {u U : State} (hvm : u.vm.Alike U.vm) (h : va_Nc C T u) : va_Nc C T U := by
  obtain ⟨c, t, h1, h2, h3⟩ := h
  exact ⟨c, t, by rw [hvm.findClass]; exact h1, by rw [hvm.findClass]; exact h2, by rw [hvm.assignable]; exact h3⟩
theorem yG_to {d : yD} {b : Nat} {s U : State} (hW : s.WarmedH U.vm) (hq : ∀ q : Nat, q < s.heap.size → ¬ b ≤ q → U.heap[q]? = s.heap[q]?) (h : yG d b s) : yG d b U := by
  obtain ⟨h1, h2, h3, h4, h5, h6, h7⟩ := h
  refine ⟨fun w hw => yNs_warm hw hW (h1 w hw), fun q hq1 => ?_, fun i q hi => ⟨va_Z.moved hW.alike ((h3 i q hi).1.kept hq), va_T.moved hW.alike ((h3 i q hi).2.kept hq)⟩, vx_Zq.moved hW.alike (h4.kept hq), vx_Zq.moved hW.alike (h5.kept hq), va_AO.moved hW.alike h6, fun E hE N hN hne => yNc_moved hW.alike (h7 E hE N hN hne)⟩
  obtain ⟨a, ha⟩ := h2 q hq1
  exact ⟨a, ha.warm hW⟩
end
section
/-! THE WORLD: cells from b on, by their places; h k = none: nothing is known of the cell b + k -/
abbrev yH : Type := Nat → Option va_E
def yP (D : va_G) (b : Nat) (h : yH) (H : Heap) : Prop := ∀ (k : Nat) (e : va_E), h k = some e → va_at D vwCl (b + k, e) H
def hs (h : yH) (k : Nat) (e : va_E) : yH := fun j => if j = k then some e else h j
theorem hs_eq (h : yH) (k : Nat) (e : va_E) : hs h k e k = some e := by simp [hs]
theorem hs_ne (h : yH) {k j : Nat} (e : va_E) (hn : j ≠ k) : hs h k e j = h j := by simp [hs, hn]
def oI (d : yD) (n : Nat) (F : Nat → Int) : va_E := .inl (d.2.1 0, n, .inl (fun i => iI (F i)))
def oJ (d : yD) (n : Nat) (F : Nat → Int) : va_E := .inl (d.2.1 1, n, .inr (.inl (fun i => jI (F i))))
def oZ (d : yD) (n : Nat) (F : Nat → Int) : va_E := .inl (d.2.1 2, n, .inl (fun i => iI (F i)))
def oA (d : yD) (t n : Nat) (g : Nat → Option Nat) : va_E := .inl (d.2.1 t, n, .inr (.inr (.inr (.inr g))))
abbrev oO (ci : Nat) (fs : List Value) : va_E := .inr (ci, fs)
def fu {α : Type} (f : Nat → α) (k : Nat) (x : α) : Nat → α := fun j => if j = k then x else f j
theorem fu_eq {α : Type} (f : Nat → α) (k : Nat) (x : α) : fu f k x k = x := by simp [fu]
theorem fu_ne {α : Type} (f : Nat → α) {k j : Nat} (x : α) (h : j ≠ k) : fu f k x j = f j := by simp [fu, h]
/-- what a method finds -/
def yPre (d : yD) (b n : Nat) (h : yH) (U : State) : Prop := U.heap.size = b + n ∧ yP d.1 b h U.heap ∧ va_K d.1 vwCl (yT d) U ∧ yG d b U
def yThr (C : String) (a : Nat) (t : State) : Prop := ∃ cell : Cell, t.heap[a]? = some cell ∧ cell.vm.isStatics = false ∧ t.vm.findClass C = some cell.cls
def yOut (post : Option Value → Nat → yH → Prop) (thr : String → Nat → yH → Prop) (n : Nat) (h : yH) (t : State) : Outcome → Prop
  | .returned v => post v n h
  | .threw a => ∃ C, thr C n h ∧ yThr C a t
def yQc (d : yD) (b : Nat) (post : Option Value → Nat → yH → Prop) (thr : String → Nat → yH → Prop) : Array Value → State → Outcome → State → Prop := fun _ st o t =>
  ∃ (n : Nat) (h : yH), yPre d b n h t ∧ va_F (fun q => b ≤ q) st t ∧ yOut post thr n h t o
abbrev yRm (fr lo mc ms : Nat) : Room := { frames := fr, cells := mc, slots := ms, locals := lo }
/-- A CONTRACT -/
def yM (l : Launch) (y : MethodName) (cc : ByteArray) (maxL : Nat) (ret : Option FieldType) (fr lo mc ms : Nat) (d : yD) (b n : Nat) (h : yH) (As : List Value) (post : Option Value → Nat → yH → Prop) (thr : String → Nat → yH → Prop) : Prop :=
  MX l y (.code y cc maxL ret :: yW) (yRm fr lo mc ms) (va_Pc As (yPre d b n h)) (yQc d b post thr) mc ms (fun q => b ≤ q)
abbrev noT : String → Nat → yH → Prop := fun _ _ _ => False
def yEnd (below : List Frame) (s : State) (args : Array Value) (d : yD) (b : Nat) (post : Option Value → Nat → yH → Prop) (thr : String → Nat → yH → Prop) (mc ms : Nat) : State → Prop := fun t =>
  ∃ o, t.status = .running ∧ Ended t below o ∧ yQc d b post thr args s o t ∧ ∃ L, FEX s t L mc ms ∧ ∀ q ∈ L, b ≤ q.base
/-- what stands throughout a method -/
def yC (p : Program) (l : Launch) (s : State) (m : MethodId) (args : Array Value) (meth : Method) (c : Code) (y : MethodName) (cc : ByteArray) (nL : Nat) (ret : Option FieldType) (tb : List ClassFile.ExceptionTableEntry) (d : yD) (b : Nat) : Prop :=
  p.tables.exec = Jvm.exec ∧ c.code = cc ∧ c.maxLocals = nL ∧ meth.sig.returnType = ret ∧ s.vm.findClass y.cls = some m.cls ∧ (∀ w ∈ yW, w.before args s = true) ∧ meth.locks = false ∧ va_K d.1 vwCl (yT d) s ∧ yG d b s ∧ b ≤ s.heap.size ∧ meth.name = y.name ∧ c.exceptionTable.toList = tb ∧ yL l
def V (p : Program) (l : Launch) (e : Env) (R : Room) (s : State) (m : MethodId) (args : Array Value) (below : List Frame) (meth : Method) (c : Code) (nL : Nat) (d : yD) (b : Nat) (Q : State → Prop) (cells slots n : Nat) (h : yH) (pc : Nat) (lv : List (Nat × Value)) (st : List Value) : Prop :=
  ∀ (H : Heap) (locs : List Loc) (ls : Array Slot), H.size = b + n → yP d.1 b h H → va_S (fun q => b ≤ q) s.heap H locs → lv_has ls nL lv → W p l e R s m args below meth c H locs cells slots Q (F0 m pc ls st)
section YV
variable {p : Program} {l : Launch} {e : Env} {R : Room} {s : State} {m : MethodId} {args : Array Value} {below : List Frame} {meth : Method} {c : Code} {nL : Nat} {d : yD} {b : Nat} {Q : State → Prop} {cells slots n : Nat} {h : yH} {pc : Nat} {lv : List (Nat × Value)} {st : List Value}
variable {y : MethodName} {cc : ByteArray} {ret : Option FieldType} {tb : List ClassFile.ExceptionTableEntry}
theorem V_loc {lv' : List (Nat × Value)} (hl : lsub lv' lv) (k : V p l e R s m args below meth c nL d b Q cells slots n h pc lv' st) : V p l e R s m args below meth c nL d b Q cells slots n h pc lv st :=
  fun H locs ls h1 h2 h4 h5 => k H locs ls h1 h2 h4 (lsub_has h5 hl)
theorem V_heap {h' : yH} (hh : ∀ k e, h' k = some e → h k = some e) (k : V p l e R s m args below meth c nL d b Q cells slots n h' pc lv st) : V p l e R s m args below meth c nL d b Q cells slots n h pc lv st :=
  fun H locs ls h1 h2 h4 h5 => k H locs ls h1 (fun j e0 he => h2 j e0 (hh j e0 he)) h4 h5
theorem V_pc {pc' : Nat} (hp : pc = pc') (k : V p l e R s m args below meth c nL d b Q cells slots n h pc' lv st) : V p l e R s m args below meth c nL d b Q cells slots n h pc lv st := hp ▸ k
theorem V_widen {k0 n0 : Nat} (h1 : cells ≤ k0) (h2 : slots ≤ n0) (k : V p l e R s m args below meth c nL d b Q k0 n0 n h pc lv st) : V p l e R s m args below meth c nL d b Q cells slots n h pc lv st :=
  fun H locs ls a1 a2 a4 a5 => W.widen (k := k0) (n := n0) h1 h2 (k H locs ls a1 a2 a4 a5)
-- constants
theorem V_iconst (C : yC p l s m args meth c y cc nL ret tb d b) {k : Int} {z : Int} (hdg : decode cc pc = .ok (.iconst k, 1)) (hz : k = z) (kk : V p l e R s m args below meth c nL d b Q cells slots n h (pc + 1) lv (vi z :: st)) : V p l e R s m args below meth c nL d b Q cells slots n h pc lv st := by
  subst hz
  exact fun H locs ls a1 a2 a4 a5 => lv_iconst (v := iI k) C.1 C.2.1 hdg rfl (kk H locs ls a1 a2 a4 a5)
theorem V_bipush (C : yC p l s m args meth c y cc nL ret tb d b) {k : Int} {z : Int} (hdg : decode cc pc = .ok (.bipush k, 2)) (hz : (Int8.ofInt k).toInt32 = iI z) (kk : V p l e R s m args below meth c nL d b Q cells slots n h (pc + 2) lv (vi z :: st)) : V p l e R s m args below meth c nL d b Q cells slots n h pc lv st :=
  fun H locs ls a1 a2 a4 a5 => lv_bipush C.1 C.2.1 hdg hz (kk H locs ls a1 a2 a4 a5)
theorem V_sipush (C : yC p l s m args meth c y cc nL ret tb d b) {k : Int} {z : Int} (hdg : decode cc pc = .ok (.sipush k, 3)) (hz : (Int16.ofInt k).toInt32 = iI z) (kk : V p l e R s m args below meth c nL d b Q cells slots n h (pc + 3) lv (vi z :: st)) : V p l e R s m args below meth c nL d b Q cells slots n h pc lv st :=
  fun H locs ls a1 a2 a4 a5 => lv_sipush C.1 C.2.1 hdg hz (kk H locs ls a1 a2 a4 a5)
theorem V_lconst (C : yC p l s m args meth c y cc nL ret tb d b) {k : Fin 2} {z : Int} (hdg : decode cc pc = .ok (.lconst k, 1)) (hz : Int64.ofNat (k : Nat) = jI z) (kk : V p l e R s m args below meth c nL d b Q cells slots n h (pc + 1) lv (vj z :: st)) : V p l e R s m args below meth c nL d b Q cells slots n h pc lv st :=
  fun H locs ls a1 a2 a4 a5 => lv_lconst C.1 C.2.1 hdg hz (kk H locs ls a1 a2 a4 a5)
-- locals
theorem V_iload_n (C : yC p l s m args meth c y cc nL ret tb d b) {k : Fin 4} {i : Nat} {x : Int} (hdg : decode cc pc = .ok (.iload_n k, 1)) (hi : (k : Nat) = i) (hl : lk lv i = some (vi x)) (kk : V p l e R s m args below meth c nL d b Q cells slots n h (pc + 1) lv (vi x :: st)) : V p l e R s m args below meth c nL d b Q cells slots n h pc lv st :=
  fun H locs ls a1 a2 a4 a5 => lv_iload_n C.1 C.2.1 hdg hi (lk_has a5 hl) (kk H locs ls a1 a2 a4 a5)
theorem V_iload (C : yC p l s m args meth c y cc nL ret tb d b) {i : Nat} {x : Int} (hdg : decode cc pc = .ok (.iload i, 2)) (hl : lk lv i = some (vi x)) (kk : V p l e R s m args below meth c nL d b Q cells slots n h (pc + 2) lv (vi x :: st)) : V p l e R s m args below meth c nL d b Q cells slots n h pc lv st :=
  fun H locs ls a1 a2 a4 a5 => lv_iload C.1 C.2.1 hdg (lk_has a5 hl) (kk H locs ls a1 a2 a4 a5)
theorem V_lload_n (C : yC p l s m args meth c y cc nL ret tb d b) {k : Fin 4} {i : Nat} {x : Int} (hdg : decode cc pc = .ok (.lload_n k, 1)) (hi : (k : Nat) = i) (hl : lk lv i = some (vj x)) (kk : V p l e R s m args below meth c nL d b Q cells slots n h (pc + 1) lv (vj x :: st)) : V p l e R s m args below meth c nL d b Q cells slots n h pc lv st :=
  fun H locs ls a1 a2 a4 a5 => lv_lload_n C.1 C.2.1 hdg hi (lk_has a5 hl) (kk H locs ls a1 a2 a4 a5)
theorem V_lload (C : yC p l s m args meth c y cc nL ret tb d b) {i : Nat} {x : Int} (hdg : decode cc pc = .ok (.lload i, 2)) (hl : lk lv i = some (vj x)) (kk : V p l e R s m args below meth c nL d b Q cells slots n h (pc + 2) lv (vj x :: st)) : V p l e R s m args below meth c nL d b Q cells slots n h pc lv st :=
  fun H locs ls a1 a2 a4 a5 => lv_lload C.1 C.2.1 hdg (lk_has a5 hl) (kk H locs ls a1 a2 a4 a5)
theorem V_aload_n (C : yC p l s m args meth c y cc nL ret tb d b) {k : Fin 4} {i : Nat} {x : Nat} (hdg : decode cc pc = .ok (.aload_n k, 1)) (hi : (k : Nat) = i) (hl : lk lv i = some (.ref x)) (kk : V p l e R s m args below meth c nL d b Q cells slots n h (pc + 1) lv (.ref x :: st)) : V p l e R s m args below meth c nL d b Q cells slots n h pc lv st :=
  fun H locs ls a1 a2 a4 a5 => lv_aload_n C.1 C.2.1 hdg hi (lk_has a5 hl) (kk H locs ls a1 a2 a4 a5)
theorem V_aload (C : yC p l s m args meth c y cc nL ret tb d b) {i : Nat} {x : Nat} (hdg : decode cc pc = .ok (.aload i, 2)) (hl : lk lv i = some (.ref x)) (kk : V p l e R s m args below meth c nL d b Q cells slots n h (pc + 2) lv (.ref x :: st)) : V p l e R s m args below meth c nL d b Q cells slots n h pc lv st :=
  fun H locs ls a1 a2 a4 a5 => lv_aload C.1 C.2.1 hdg (lk_has a5 hl) (kk H locs ls a1 a2 a4 a5)
def ls1 (lv : List (Nat × Value)) (i : Nat) (v : Value) : List (Nat × Value) := (i, v) :: lv.filter (fun q => !(q.1 == i) && !(q.1 + 1 == i && q.2.category == 2))
def ls2 (lv : List (Nat × Value)) (i : Nat) (v : Value) : List (Nat × Value) := (i, v) :: lv.filter (fun q => !(q.1 == i) && (!(q.1 == i + 1) && !(q.1 + 1 == i && q.2.category == 2)))
theorem V_istore_n (C : yC p l s m args meth c y cc nL ret tb d b) {k : Fin 4} {i : Nat} {x : Int} {lv' : List (Nat × Value)} (hdg : decode cc pc = .ok (.istore_n k, 1)) (hi : (k : Nat) = i) (hn : i < nL) (hl : ls1 lv i (vi x) = lv') (kk : V p l e R s m args below meth c nL d b Q cells slots n h (pc + 1) lv' st) : V p l e R s m args below meth c nL d b Q cells slots n h pc lv (vi x :: st) :=
  fun H locs ls a1 a2 a4 a5 => lv_istore_n C.1 C.2.1 hdg hi a5 hn hl (fun ls' a6 => kk H locs ls' a1 a2 a4 a6)
theorem V_istore (C : yC p l s m args meth c y cc nL ret tb d b) {i : Nat} {x : Int} {lv' : List (Nat × Value)} (hdg : decode cc pc = .ok (.istore i, 2)) (hn : i < nL) (hl : ls1 lv i (vi x) = lv') (kk : V p l e R s m args below meth c nL d b Q cells slots n h (pc + 2) lv' st) : V p l e R s m args below meth c nL d b Q cells slots n h pc lv (vi x :: st) :=
  fun H locs ls a1 a2 a4 a5 => lv_istore C.1 C.2.1 hdg a5 hn hl (fun ls' a6 => kk H locs ls' a1 a2 a4 a6)
theorem V_astore_n (C : yC p l s m args meth c y cc nL ret tb d b) {k : Fin 4} {i : Nat} {x : Nat} {lv' : List (Nat × Value)} (hdg : decode cc pc = .ok (.astore_n k, 1)) (hi : (k : Nat) = i) (hn : i < nL) (hl : ls1 lv i (.ref x) = lv') (kk : V p l e R s m args below meth c nL d b Q cells slots n h (pc + 1) lv' st) : V p l e R s m args below meth c nL d b Q cells slots n h pc lv (.ref x :: st) :=
  fun H locs ls a1 a2 a4 a5 => lv_astore_n C.1 C.2.1 hdg hi a5 hn hl (fun ls' a6 => kk H locs ls' a1 a2 a4 a6)
theorem V_astore (C : yC p l s m args meth c y cc nL ret tb d b) {i : Nat} {x : Nat} {lv' : List (Nat × Value)} (hdg : decode cc pc = .ok (.astore i, 2)) (hn : i < nL) (hl : ls1 lv i (.ref x) = lv') (kk : V p l e R s m args below meth c nL d b Q cells slots n h (pc + 2) lv' st) : V p l e R s m args below meth c nL d b Q cells slots n h pc lv (.ref x :: st) :=
  fun H locs ls a1 a2 a4 a5 => lv_astore C.1 C.2.1 hdg a5 hn hl (fun ls' a6 => kk H locs ls' a1 a2 a4 a6)
theorem V_lstore_n (C : yC p l s m args meth c y cc nL ret tb d b) {k : Fin 4} {i : Nat} {x : Int} {lv' : List (Nat × Value)} (hdg : decode cc pc = .ok (.lstore_n k, 1)) (hi : (k : Nat) = i) (hn : i + 1 < nL) (hl : ls2 lv i (vj x) = lv') (kk : V p l e R s m args below meth c nL d b Q cells slots n h (pc + 1) lv' st) : V p l e R s m args below meth c nL d b Q cells slots n h pc lv (vj x :: st) :=
  fun H locs ls a1 a2 a4 a5 => lv_lstore_n C.1 C.2.1 hdg hi a5 hn hl (fun ls' a6 => kk H locs ls' a1 a2 a4 a6)
theorem V_lstore (C : yC p l s m args meth c y cc nL ret tb d b) {i : Nat} {x : Int} {lv' : List (Nat × Value)} (hdg : decode cc pc = .ok (.lstore i, 2)) (hn : i + 1 < nL) (hl : ls2 lv i (vj x) = lv') (kk : V p l e R s m args below meth c nL d b Q cells slots n h (pc + 2) lv' st) : V p l e R s m args below meth c nL d b Q cells slots n h pc lv (vj x :: st) :=
  fun H locs ls a1 a2 a4 a5 => lv_lstore C.1 C.2.1 hdg a5 hn hl (fun ls' a6 => kk H locs ls' a1 a2 a4 a6)
theorem V_iinc (C : yC p l s m args meth c y cc nL ret tb d b) {i : Nat} {k x z : Int} {lv' : List (Nat × Value)} (hdg : decode cc pc = .ok (.iinc i k, 3)) (hx : lk lv i = some (vi x)) (hz : x + k = z) (hn : i < nL) (hl : ls1 lv i (vi z) = lv') (kk : V p l e R s m args below meth c nL d b Q cells slots n h (pc + 3) lv' st) : V p l e R s m args below meth c nL d b Q cells slots n h pc lv st := by
  intro H locs ls a1 a2 a4 a5
  obtain ⟨j, hj⟩ := List.getElem?_of_mem (lk_mem hx)
  exact lv_iinc (v := iI z) C.1 C.2.1 hdg a5 (k := j) hj (by rw [← hz]; exact iI_add x k) hn hl (fun ls' a6 => kk H locs ls' a1 a2 a4 a6)
-- the operand stack
theorem V_dup (C : yC p l s m args meth c y cc nL ret tb d b) {v : Value} (hdg : decode cc pc = .ok (.dup, 1)) (hv : v.category = 1) (kk : V p l e R s m args below meth c nL d b Q cells slots n h (pc + 1) lv (v :: v :: st)) : V p l e R s m args below meth c nL d b Q cells slots n h pc lv (v :: st) :=
  fun H locs ls a1 a2 a4 a5 => lv_dup C.1 C.2.1 hdg hv (kk H locs ls a1 a2 a4 a5)
theorem V_dup2_11 (C : yC p l s m args meth c y cc nL ret tb d b) {v w : Value} (hdg : decode cc pc = .ok (.dup2, 1)) (hv : v.category = 1) (hw : w.category = 1) (kk : V p l e R s m args below meth c nL d b Q cells slots n h (pc + 1) lv (v :: w :: v :: w :: st)) : V p l e R s m args below meth c nL d b Q cells slots n h pc lv (v :: w :: st) :=
  fun H locs ls a1 a2 a4 a5 => lv_dup2_11 C.1 C.2.1 hdg hv hw (kk H locs ls a1 a2 a4 a5)
theorem V_dup_x1 (C : yC p l s m args meth c y cc nL ret tb d b) {v w : Value} (hdg : decode cc pc = .ok (.dup_x1, 1)) (hv : v.category = 1) (hw : w.category = 1) (kk : V p l e R s m args below meth c nL d b Q cells slots n h (pc + 1) lv (v :: w :: v :: st)) : V p l e R s m args below meth c nL d b Q cells slots n h pc lv (v :: w :: st) :=
  fun H locs ls a1 a2 a4 a5 => lv_dup_x1 C.1 C.2.1 hdg hv hw (kk H locs ls a1 a2 a4 a5)
theorem V_pop (C : yC p l s m args meth c y cc nL ret tb d b) {v : Value} (hdg : decode cc pc = .ok (.pop, 1)) (hv : v.category = 1) (kk : V p l e R s m args below meth c nL d b Q cells slots n h (pc + 1) lv st) : V p l e R s m args below meth c nL d b Q cells slots n h pc lv (v :: st) :=
  fun H locs ls a1 a2 a4 a5 => lv_pop C.1 C.2.1 hdg hv (kk H locs ls a1 a2 a4 a5)
-- arithmetic
theorem V_iadd (C : yC p l s m args meth c y cc nL ret tb d b) {x z : Int} (hdg : decode cc pc = .ok (.iadd, 1)) (kk : V p l e R s m args below meth c nL d b Q cells slots n h (pc + 1) lv (vi (x + z) :: st)) : V p l e R s m args below meth c nL d b Q cells slots n h pc lv (vi z :: vi x :: st) :=
  fun H locs ls a1 a2 a4 a5 => lv_iadd C.1 C.2.1 hdg (by rw [iI_add]; exact kk H locs ls a1 a2 a4 a5)
theorem V_isub (C : yC p l s m args meth c y cc nL ret tb d b) {x z : Int} (hdg : decode cc pc = .ok (.isub, 1)) (kk : V p l e R s m args below meth c nL d b Q cells slots n h (pc + 1) lv (vi (x - z) :: st)) : V p l e R s m args below meth c nL d b Q cells slots n h pc lv (vi z :: vi x :: st) :=
  fun H locs ls a1 a2 a4 a5 => lv_isub C.1 C.2.1 hdg (by rw [iI_sub]; exact kk H locs ls a1 a2 a4 a5)
theorem V_imul (C : yC p l s m args meth c y cc nL ret tb d b) {x z : Int} (hdg : decode cc pc = .ok (.imul, 1)) (kk : V p l e R s m args below meth c nL d b Q cells slots n h (pc + 1) lv (vi (x * z) :: st)) : V p l e R s m args below meth c nL d b Q cells slots n h pc lv (vi z :: vi x :: st) :=
  fun H locs ls a1 a2 a4 a5 => lv_imul C.1 C.2.1 hdg (by rw [iI_mul]; exact kk H locs ls a1 a2 a4 a5)
theorem V_ineg (C : yC p l s m args meth c y cc nL ret tb d b) {x : Int} (hdg : decode cc pc = .ok (.ineg, 1)) (kk : V p l e R s m args below meth c nL d b Q cells slots n h (pc + 1) lv (vi (-x) :: st)) : V p l e R s m args below meth c nL d b Q cells slots n h pc lv (vi x :: st) :=
  fun H locs ls a1 a2 a4 a5 => lv_ineg C.1 C.2.1 hdg (by rw [iI_neg]; exact kk H locs ls a1 a2 a4 a5)
theorem V_idiv (C : yC p l s m args meth c y cc nL ret tb d b) {x z : Int} (hdg : decode cc pc = .ok (.idiv, 1)) (hx : inI x) (hz : inI z) (h0 : z ≠ 0) (kk : V p l e R s m args below meth c nL d b Q cells slots n h (pc + 1) lv (vi (x.tdiv z) :: st)) : V p l e R s m args below meth c nL d b Q cells slots n h pc lv (vi z :: vi x :: st) :=
  fun H locs ls a1 a2 a4 a5 => lv_idiv C.1 C.2.1 hdg (fun q => h0 ((iI_eq hz inI_0).mp q)) (by rw [iI_div hx hz]; exact kk H locs ls a1 a2 a4 a5)
theorem V_irem (C : yC p l s m args meth c y cc nL ret tb d b) {x z : Int} (hdg : decode cc pc = .ok (.irem, 1)) (hx : inI x) (hz : inI z) (h0 : z ≠ 0) (kk : V p l e R s m args below meth c nL d b Q cells slots n h (pc + 1) lv (vi (x.tmod z) :: st)) : V p l e R s m args below meth c nL d b Q cells slots n h pc lv (vi z :: vi x :: st) :=
  fun H locs ls a1 a2 a4 a5 => lv_irem C.1 C.2.1 hdg (fun q => h0 ((iI_eq hz inI_0).mp q)) (by rw [iI_rem hx hz]; exact kk H locs ls a1 a2 a4 a5)
theorem V_ladd (C : yC p l s m args meth c y cc nL ret tb d b) {x z : Int} (hdg : decode cc pc = .ok (.ladd, 1)) (kk : V p l e R s m args below meth c nL d b Q cells slots n h (pc + 1) lv (vj (x + z) :: st)) : V p l e R s m args below meth c nL d b Q cells slots n h pc lv (vj z :: vj x :: st) :=
  fun H locs ls a1 a2 a4 a5 => lv_ladd C.1 C.2.1 hdg (by rw [jI_add]; exact kk H locs ls a1 a2 a4 a5)
theorem V_lsub (C : yC p l s m args meth c y cc nL ret tb d b) {x z : Int} (hdg : decode cc pc = .ok (.lsub, 1)) (kk : V p l e R s m args below meth c nL d b Q cells slots n h (pc + 1) lv (vj (x - z) :: st)) : V p l e R s m args below meth c nL d b Q cells slots n h pc lv (vj z :: vj x :: st) :=
  fun H locs ls a1 a2 a4 a5 => lv_lsub C.1 C.2.1 hdg (by rw [jI_sub]; exact kk H locs ls a1 a2 a4 a5)
theorem V_lmul (C : yC p l s m args meth c y cc nL ret tb d b) {x z : Int} (hdg : decode cc pc = .ok (.lmul, 1)) (kk : V p l e R s m args below meth c nL d b Q cells slots n h (pc + 1) lv (vj (x * z) :: st)) : V p l e R s m args below meth c nL d b Q cells slots n h pc lv (vj z :: vj x :: st) :=
  fun H locs ls a1 a2 a4 a5 => lv_lmul C.1 C.2.1 hdg (by rw [jI_mul]; exact kk H locs ls a1 a2 a4 a5)
theorem V_lneg (C : yC p l s m args meth c y cc nL ret tb d b) {x : Int} (hdg : decode cc pc = .ok (.lneg, 1)) (kk : V p l e R s m args below meth c nL d b Q cells slots n h (pc + 1) lv (vj (-x) :: st)) : V p l e R s m args below meth c nL d b Q cells slots n h pc lv (vj x :: st) :=
  fun H locs ls a1 a2 a4 a5 => lv_lneg C.1 C.2.1 hdg (by rw [jI_neg]; exact kk H locs ls a1 a2 a4 a5)
theorem V_ldiv (C : yC p l s m args meth c y cc nL ret tb d b) {x z : Int} (hdg : decode cc pc = .ok (.ldiv, 1)) (hx : inJ x) (hz : inJ z) (h0 : z ≠ 0) (kk : V p l e R s m args below meth c nL d b Q cells slots n h (pc + 1) lv (vj (x.tdiv z) :: st)) : V p l e R s m args below meth c nL d b Q cells slots n h pc lv (vj z :: vj x :: st) :=
  fun H locs ls a1 a2 a4 a5 => lv_ldiv C.1 C.2.1 hdg (fun q => h0 ((jI_eq hz inJ_0).mp q)) (by rw [jI_div hx hz]; exact kk H locs ls a1 a2 a4 a5)
theorem V_lrem (C : yC p l s m args meth c y cc nL ret tb d b) {x z : Int} (hdg : decode cc pc = .ok (.lrem, 1)) (hx : inJ x) (hz : inJ z) (h0 : z ≠ 0) (kk : V p l e R s m args below meth c nL d b Q cells slots n h (pc + 1) lv (vj (x.tmod z) :: st)) : V p l e R s m args below meth c nL d b Q cells slots n h pc lv (vj z :: vj x :: st) :=
  fun H locs ls a1 a2 a4 a5 => lv_lrem C.1 C.2.1 hdg (fun q => h0 ((jI_eq hz inJ_0).mp q)) (by rw [jI_rem hx hz]; exact kk H locs ls a1 a2 a4 a5)
theorem V_i2l (C : yC p l s m args meth c y cc nL ret tb d b) {x : Int} (hdg : decode cc pc = .ok (.i2l, 1)) (hx : inI x) (kk : V p l e R s m args below meth c nL d b Q cells slots n h (pc + 1) lv (vj x :: st)) : V p l e R s m args below meth c nL d b Q cells slots n h pc lv (vi x :: st) :=
  fun H locs ls a1 a2 a4 a5 => lv_i2l C.1 C.2.1 hdg (iI_l hx) (kk H locs ls a1 a2 a4 a5)
theorem V_l2i (C : yC p l s m args meth c y cc nL ret tb d b) {x : Int} (hdg : decode cc pc = .ok (.l2i, 1)) (kk : V p l e R s m args below meth c nL d b Q cells slots n h (pc + 1) lv (vi x :: st)) : V p l e R s m args below meth c nL d b Q cells slots n h pc lv (vj x :: st) :=
  fun H locs ls a1 a2 a4 a5 => lv_l2i C.1 C.2.1 hdg (jI_i x) (kk H locs ls a1 a2 a4 a5)
theorem V_icmp_eq (C : yC p l s m args meth c y cc nL ret tb d b) {x z : Int} {off : Int} {tgt : Nat} (hdg : decode cc pc = .ok (.if_icmp .eq off, 3)) (ht : (pc : Int) + off = (tgt : Int)) (hx : inI x) (hz : inI z) (kt : x = z → V p l e R s m args below meth c nL d b Q cells slots n h tgt lv st) (kf : ¬ x = z → V p l e R s m args below meth c nL d b Q cells slots n h (pc + 3) lv st) : V p l e R s m args below meth c nL d b Q cells slots n h pc lv (vi z :: vi x :: st) :=
  fun H locs ls a1 a2 a4 a5 => lv_icmp_eq C.1 C.2.1 hdg ht (fun q => kt ((iI_eq hx hz).mp q) H locs ls a1 a2 a4 a5) (fun q => kf (fun r => q ((iI_eq hx hz).mpr r)) H locs ls a1 a2 a4 a5)
theorem V_if_eq (C : yC p l s m args meth c y cc nL ret tb d b) {x : Int} {off : Int} {tgt : Nat} (hdg : decode cc pc = .ok (.ifCond .eq off, 3)) (ht : (pc : Int) + off = (tgt : Int)) (hx : inI x) (kt : x = 0 → V p l e R s m args below meth c nL d b Q cells slots n h tgt lv st) (kf : ¬ x = 0 → V p l e R s m args below meth c nL d b Q cells slots n h (pc + 3) lv st) : V p l e R s m args below meth c nL d b Q cells slots n h pc lv (vi x :: st) :=
  fun H locs ls a1 a2 a4 a5 => lv_if_eq C.1 C.2.1 hdg ht (fun q => kt ((iI_eq hx inI_0).mp q) H locs ls a1 a2 a4 a5) (fun q => kf (fun r => q ((iI_eq hx inI_0).mpr r)) H locs ls a1 a2 a4 a5)
theorem V_icmp_ne (C : yC p l s m args meth c y cc nL ret tb d b) {x z : Int} {off : Int} {tgt : Nat} (hdg : decode cc pc = .ok (.if_icmp .ne off, 3)) (ht : (pc : Int) + off = (tgt : Int)) (hx : inI x) (hz : inI z) (kt : ¬ x = z → V p l e R s m args below meth c nL d b Q cells slots n h tgt lv st) (kf : x = z → V p l e R s m args below meth c nL d b Q cells slots n h (pc + 3) lv st) : V p l e R s m args below meth c nL d b Q cells slots n h pc lv (vi z :: vi x :: st) :=
  fun H locs ls a1 a2 a4 a5 => lv_icmp_ne C.1 C.2.1 hdg ht (fun q => kt (fun r => q ((iI_eq hx hz).mpr r)) H locs ls a1 a2 a4 a5) (fun q => kf ((iI_eq hx hz).mp q) H locs ls a1 a2 a4 a5)
theorem V_if_ne (C : yC p l s m args meth c y cc nL ret tb d b) {x : Int} {off : Int} {tgt : Nat} (hdg : decode cc pc = .ok (.ifCond .ne off, 3)) (ht : (pc : Int) + off = (tgt : Int)) (hx : inI x) (kt : ¬ x = 0 → V p l e R s m args below meth c nL d b Q cells slots n h tgt lv st) (kf : x = 0 → V p l e R s m args below meth c nL d b Q cells slots n h (pc + 3) lv st) : V p l e R s m args below meth c nL d b Q cells slots n h pc lv (vi x :: st) :=
  fun H locs ls a1 a2 a4 a5 => lv_if_ne C.1 C.2.1 hdg ht (fun q => kt (fun r => q ((iI_eq hx inI_0).mpr r)) H locs ls a1 a2 a4 a5) (fun q => kf ((iI_eq hx inI_0).mp q) H locs ls a1 a2 a4 a5)
theorem V_icmp_lt (C : yC p l s m args meth c y cc nL ret tb d b) {x z : Int} {off : Int} {tgt : Nat} (hdg : decode cc pc = .ok (.if_icmp .lt off, 3)) (ht : (pc : Int) + off = (tgt : Int)) (hx : inI x) (hz : inI z) (kt : x < z → V p l e R s m args below meth c nL d b Q cells slots n h tgt lv st) (kf : ¬ x < z → V p l e R s m args below meth c nL d b Q cells slots n h (pc + 3) lv st) : V p l e R s m args below meth c nL d b Q cells slots n h pc lv (vi z :: vi x :: st) :=
  fun H locs ls a1 a2 a4 a5 => lv_icmp_lt C.1 C.2.1 hdg ht (fun q => kt ((iI_lt hx hz).mp q) H locs ls a1 a2 a4 a5) (fun q => kf (fun r => q ((iI_lt hx hz).mpr r)) H locs ls a1 a2 a4 a5)
theorem V_if_lt (C : yC p l s m args meth c y cc nL ret tb d b) {x : Int} {off : Int} {tgt : Nat} (hdg : decode cc pc = .ok (.ifCond .lt off, 3)) (ht : (pc : Int) + off = (tgt : Int)) (hx : inI x) (kt : x < 0 → V p l e R s m args below meth c nL d b Q cells slots n h tgt lv st) (kf : ¬ x < 0 → V p l e R s m args below meth c nL d b Q cells slots n h (pc + 3) lv st) : V p l e R s m args below meth c nL d b Q cells slots n h pc lv (vi x :: st) :=
  fun H locs ls a1 a2 a4 a5 => lv_if_lt C.1 C.2.1 hdg ht (fun q => kt ((iI_lt hx inI_0).mp q) H locs ls a1 a2 a4 a5) (fun q => kf (fun r => q ((iI_lt hx inI_0).mpr r)) H locs ls a1 a2 a4 a5)
theorem V_icmp_ge (C : yC p l s m args meth c y cc nL ret tb d b) {x z : Int} {off : Int} {tgt : Nat} (hdg : decode cc pc = .ok (.if_icmp .ge off, 3)) (ht : (pc : Int) + off = (tgt : Int)) (hx : inI x) (hz : inI z) (kt : z ≤ x → V p l e R s m args below meth c nL d b Q cells slots n h tgt lv st) (kf : ¬ z ≤ x → V p l e R s m args below meth c nL d b Q cells slots n h (pc + 3) lv st) : V p l e R s m args below meth c nL d b Q cells slots n h pc lv (vi z :: vi x :: st) :=
  fun H locs ls a1 a2 a4 a5 => lv_icmp_ge C.1 C.2.1 hdg ht (fun q => kt ((iI_le hz hx).mp q) H locs ls a1 a2 a4 a5) (fun q => kf (fun r => q ((iI_le hz hx).mpr r)) H locs ls a1 a2 a4 a5)
theorem V_if_ge (C : yC p l s m args meth c y cc nL ret tb d b) {x : Int} {off : Int} {tgt : Nat} (hdg : decode cc pc = .ok (.ifCond .ge off, 3)) (ht : (pc : Int) + off = (tgt : Int)) (hx : inI x) (kt : 0 ≤ x → V p l e R s m args below meth c nL d b Q cells slots n h tgt lv st) (kf : ¬ 0 ≤ x → V p l e R s m args below meth c nL d b Q cells slots n h (pc + 3) lv st) : V p l e R s m args below meth c nL d b Q cells slots n h pc lv (vi x :: st) :=
  fun H locs ls a1 a2 a4 a5 => lv_if_ge C.1 C.2.1 hdg ht (fun q => kt ((iI_le inI_0 hx).mp q) H locs ls a1 a2 a4 a5) (fun q => kf (fun r => q ((iI_le inI_0 hx).mpr r)) H locs ls a1 a2 a4 a5)
theorem V_icmp_gt (C : yC p l s m args meth c y cc nL ret tb d b) {x z : Int} {off : Int} {tgt : Nat} (hdg : decode cc pc = .ok (.if_icmp .gt off, 3)) (ht : (pc : Int) + off = (tgt : Int)) (hx : inI x) (hz : inI z) (kt : z < x → V p l e R s m args below meth c nL d b Q cells slots n h tgt lv st) (kf : ¬ z < x → V p l e R s m args below meth c nL d b Q cells slots n h (pc + 3) lv st) : V p l e R s m args below meth c nL d b Q cells slots n h pc lv (vi z :: vi x :: st) :=
  fun H locs ls a1 a2 a4 a5 => lv_icmp_gt C.1 C.2.1 hdg ht (fun q => kt ((iI_lt hz hx).mp q) H locs ls a1 a2 a4 a5) (fun q => kf (fun r => q ((iI_lt hz hx).mpr r)) H locs ls a1 a2 a4 a5)
theorem V_if_gt (C : yC p l s m args meth c y cc nL ret tb d b) {x : Int} {off : Int} {tgt : Nat} (hdg : decode cc pc = .ok (.ifCond .gt off, 3)) (ht : (pc : Int) + off = (tgt : Int)) (hx : inI x) (kt : 0 < x → V p l e R s m args below meth c nL d b Q cells slots n h tgt lv st) (kf : ¬ 0 < x → V p l e R s m args below meth c nL d b Q cells slots n h (pc + 3) lv st) : V p l e R s m args below meth c nL d b Q cells slots n h pc lv (vi x :: st) :=
  fun H locs ls a1 a2 a4 a5 => lv_if_gt C.1 C.2.1 hdg ht (fun q => kt ((iI_lt inI_0 hx).mp q) H locs ls a1 a2 a4 a5) (fun q => kf (fun r => q ((iI_lt inI_0 hx).mpr r)) H locs ls a1 a2 a4 a5)
theorem V_icmp_le (C : yC p l s m args meth c y cc nL ret tb d b) {x z : Int} {off : Int} {tgt : Nat} (hdg : decode cc pc = .ok (.if_icmp .le off, 3)) (ht : (pc : Int) + off = (tgt : Int)) (hx : inI x) (hz : inI z) (kt : x ≤ z → V p l e R s m args below meth c nL d b Q cells slots n h tgt lv st) (kf : ¬ x ≤ z → V p l e R s m args below meth c nL d b Q cells slots n h (pc + 3) lv st) : V p l e R s m args below meth c nL d b Q cells slots n h pc lv (vi z :: vi x :: st) :=
  fun H locs ls a1 a2 a4 a5 => lv_icmp_le C.1 C.2.1 hdg ht (fun q => kt ((iI_le hx hz).mp q) H locs ls a1 a2 a4 a5) (fun q => kf (fun r => q ((iI_le hx hz).mpr r)) H locs ls a1 a2 a4 a5)
theorem V_if_le (C : yC p l s m args meth c y cc nL ret tb d b) {x : Int} {off : Int} {tgt : Nat} (hdg : decode cc pc = .ok (.ifCond .le off, 3)) (ht : (pc : Int) + off = (tgt : Int)) (hx : inI x) (kt : x ≤ 0 → V p l e R s m args below meth c nL d b Q cells slots n h tgt lv st) (kf : ¬ x ≤ 0 → V p l e R s m args below meth c nL d b Q cells slots n h (pc + 3) lv st) : V p l e R s m args below meth c nL d b Q cells slots n h pc lv (vi x :: st) :=
  fun H locs ls a1 a2 a4 a5 => lv_if_le C.1 C.2.1 hdg ht (fun q => kt ((iI_le hx inI_0).mp q) H locs ls a1 a2 a4 a5) (fun q => kf (fun r => q ((iI_le hx inI_0).mpr r)) H locs ls a1 a2 a4 a5)
theorem V_goto (C : yC p l s m args meth c y cc nL ret tb d b) {off : Int} {tgt : Nat} (hdg : decode cc pc = .ok (.goto off, 3)) (ht : (pc : Int) + off = (tgt : Int)) (kk : V p l e R s m args below meth c nL d b Q cells slots n h tgt lv st) : V p l e R s m args below meth c nL d b Q cells slots n h pc lv st :=
  fun H locs ls a1 a2 a4 a5 => lv_goto C.1 C.2.1 hdg ht (kk H locs ls a1 a2 a4 a5)
-- of numbers that are not below 0
theorem V_ldivP (C : yC p l s m args meth c y cc nL ret tb d b) {x z : Int} (hdg : decode cc pc = .ok (.ldiv, 1)) (h0 : 0 ≤ x) (hx : x ≤ 9223372036854775807) (hz0 : 0 < z) (hz : z ≤ 9223372036854775807) (kk : V p l e R s m args below meth c nL d b Q cells slots n h (pc + 1) lv (vj (x / z) :: st)) : V p l e R s m args below meth c nL d b Q cells slots n h pc lv (vj z :: vj x :: st) :=
  V_ldiv C hdg ⟨by omega, hx⟩ ⟨by omega, hz⟩ (by omega) (by rw [Int.tdiv_eq_ediv_of_nonneg h0]; exact kk)
theorem V_lremP (C : yC p l s m args meth c y cc nL ret tb d b) {x z : Int} (hdg : decode cc pc = .ok (.lrem, 1)) (h0 : 0 ≤ x) (hx : x ≤ 9223372036854775807) (hz0 : 0 < z) (hz : z ≤ 9223372036854775807) (kk : V p l e R s m args below meth c nL d b Q cells slots n h (pc + 1) lv (vj (x % z) :: st)) : V p l e R s m args below meth c nL d b Q cells slots n h pc lv (vj z :: vj x :: st) :=
  V_lrem C hdg ⟨by omega, hx⟩ ⟨by omega, hz⟩ (by omega) (by rw [Int.tmod_eq_emod_of_nonneg h0]; exact kk)
theorem V_idivP (C : yC p l s m args meth c y cc nL ret tb d b) {x z : Int} (hdg : decode cc pc = .ok (.idiv, 1)) (h0 : 0 ≤ x) (hx : x ≤ 2147483647) (hz0 : 0 < z) (hz : z ≤ 2147483647) (kk : V p l e R s m args below meth c nL d b Q cells slots n h (pc + 1) lv (vi (x / z) :: st)) : V p l e R s m args below meth c nL d b Q cells slots n h pc lv (vi z :: vi x :: st) :=
  V_idiv C hdg ⟨by omega, hx⟩ ⟨by omega, hz⟩ (by omega) (by rw [Int.tdiv_eq_ediv_of_nonneg h0]; exact kk)
theorem V_iremP (C : yC p l s m args meth c y cc nL ret tb d b) {x z : Int} (hdg : decode cc pc = .ok (.irem, 1)) (h0 : 0 ≤ x) (hx : x ≤ 2147483647) (hz0 : 0 < z) (hz : z ≤ 2147483647) (kk : V p l e R s m args below meth c nL d b Q cells slots n h (pc + 1) lv (vi (x % z) :: st)) : V p l e R s m args below meth c nL d b Q cells slots n h pc lv (vi z :: vi x :: st) :=
  V_irem C hdg ⟨by omega, hx⟩ ⟨by omega, hz⟩ (by omega) (by rw [Int.tmod_eq_emod_of_nonneg h0]; exact kk)
-- heaps
theorem yP_set {D : va_G} {H H1 : Heap} {k : Nat} {e0 : va_E} (hP : yP D b h H) (he : va_at D vwCl (b + k, e0) H1) (oq : ∀ q : Nat, q ≠ b + k → H1[q]? = H[q]?) : yP D b (hs h k e0) H1 := by
  intro j e1 hj
  by_cases hjk : j = k
  · subst hjk
    rw [hs_eq] at hj
    cases hj
    exact he
  · rw [hs_ne h e0 hjk] at hj
    exact (hP j e1 hj).kept (oq (b + j) (by omega))
theorem yP_push {D : va_G} {H H1 : Heap} {e0 : va_E} (hP : yP D b h H) (z : H.size = b + n) (he : va_at D vwCl (b + n, e0) H1) (oq : ∀ q : Nat, q < b + n → H1[q]? = H[q]?) : yP D b (hs h n e0) H1 := by
  intro j e1 hj
  by_cases hjk : j = n
  · subst hjk
    rw [hs_eq] at hj
    cases hj
    exact he
  · rw [hs_ne h e0 hjk] at hj
    have hl : b + j < H.size := (hP j e1 hj).lt
    exact (hP j e1 hj).kept (oq (b + j) (by omega))
theorem yS_push {H0 H H1 : Heap} {locs : List Loc} {a : Nat} (hS : va_S (fun q => b ≤ q) H0 H locs) (z : H.size = a) (z1 : H1.size = a + 1) (oq : ∀ q : Nat, q < a → H1[q]? = H[q]?) : va_S (fun q => b ≤ q) H0 H1 locs :=
  ⟨Nat.le_trans hS.1 (by omega), fun x h1 h2 => (oq x (by have := hS.1; omega)).trans (hS.2.1 x h1 h2), hS.2.2⟩
-- arrays: reading
theorem V_iaload (C : yC p l s m args meth c y cc nL ret tb d b) {k N : Nat} {F : Nat → Int} {i : Int} (ha : h k = some (oI d N F)) (h0 : 0 ≤ i) (h1 : i < N) (hN : N < 2 ^ 31) (hdg : decode cc pc = .ok (.iaload, 1)) (kk : V p l e R s m args below meth c nL d b Q cells slots n h (pc + 1) lv (vi (F i.toNat) :: st)) : V p l e R s m args below meth c nL d b Q cells slots n h pc lv (vi i :: .ref (b + k) :: st) := by
  intro H locs ls a1 a2 a4 a5
  have hcl : (iI i).toNatClampNeg = i.toNat := iI_cl ⟨by omega, by omega⟩
  have hP : va_P d.1 vwCl [(b + k, oI d N F)] H := fun j q hj => by
    match j, hj with
    | 0, hj => cases hj; exact a2 k _ ha
  refine va_iald (tys := yT d) (n := N) (f := fun i => iI (F i)) C.1 C.2.1 C.2.2.2.2.2.2.2.1 hP 0 0 rfl rfl (iI_in h0 h1 hN) hdg ?_
  rw [hcl]
  exact kk H locs ls a1 a2 a4 a5
theorem V_laload (C : yC p l s m args meth c y cc nL ret tb d b) {k N : Nat} {F : Nat → Int} {i : Int} (ha : h k = some (oJ d N F)) (h0 : 0 ≤ i) (h1 : i < N) (hN : N < 2 ^ 31) (hdg : decode cc pc = .ok (.laload, 1)) (kk : V p l e R s m args below meth c nL d b Q cells slots n h (pc + 1) lv (vj (F i.toNat) :: st)) : V p l e R s m args below meth c nL d b Q cells slots n h pc lv (vi i :: .ref (b + k) :: st) := by
  intro H locs ls a1 a2 a4 a5
  have hcl : (iI i).toNatClampNeg = i.toNat := iI_cl ⟨by omega, by omega⟩
  have hP : va_P d.1 vwCl [(b + k, oJ d N F)] H := fun j q hj => by
    match j, hj with
    | 0, hj => cases hj; exact a2 k _ ha
  refine va_lald (tys := yT d) (n := N) (f := fun i => jI (F i)) C.1 C.2.1 C.2.2.2.2.2.2.2.1 hP 0 1 rfl rfl (iI_in h0 h1 hN) hdg ?_
  rw [hcl]
  exact kk H locs ls a1 a2 a4 a5
theorem V_zaload (C : yC p l s m args meth c y cc nL ret tb d b) {k N : Nat} {F : Nat → Int} {i : Int} (ha : h k = some (oZ d N F)) (h0 : 0 ≤ i) (h1 : i < N) (hN : N < 2 ^ 31) (hdg : decode cc pc = .ok (.baload, 1)) (kk : V p l e R s m args below meth c nL d b Q cells slots n h (pc + 1) lv (vi (F i.toNat) :: st)) : V p l e R s m args below meth c nL d b Q cells slots n h pc lv (vi i :: .ref (b + k) :: st) := by
  intro H locs ls a1 a2 a4 a5
  have hcl : (iI i).toNatClampNeg = i.toNat := iI_cl ⟨by omega, by omega⟩
  have hP : va_P d.1 vwCl [(b + k, oZ d N F)] H := fun j q hj => by
    match j, hj with
    | 0, hj => cases hj; exact a2 k _ ha
  refine va_zald (tys := yT d) (n := N) (f := fun i => iI (F i)) C.1 C.2.1 C.2.2.2.2.2.2.2.1 hP 0 2 rfl rfl (iI_in h0 h1 hN) hdg ?_
  rw [hcl]
  exact kk H locs ls a1 a2 a4 a5
theorem V_aaload (C : yC p l s m args meth c y cc nL ret tb d b) {k N t : Nat} {g : Nat → Option Nat} {i : Int} {Cn : String} {a : Nat} (ha : h k = some (oA d t N g)) (ht : (yT d)[t]? = some (d.2.1 t, .object Cn)) (h0 : 0 ≤ i) (h1 : i < N) (hN : N < 2 ^ 31) (hg : g i.toNat = some a) (hdg : decode cc pc = .ok (.aaload, 1)) (kk : V p l e R s m args below meth c nL d b Q cells slots n h (pc + 1) lv (.ref a :: st)) : V p l e R s m args below meth c nL d b Q cells slots n h pc lv (vi i :: .ref (b + k) :: st) := by
  intro H locs ls a1 a2 a4 a5
  have hcl : (iI i).toNatClampNeg = i.toNat := iI_cl ⟨by omega, by omega⟩
  have hP : va_P d.1 vwCl [(b + k, oA d t N g)] H := fun j q hj => by
    match j, hj with
    | 0, hj => cases hj; exact a2 k _ ha
  refine va_aldq (tys := yT d) (n := N) (f := g) C.1 C.2.1 C.2.2.2.2.2.2.2.1 hP 0 t rfl ht (iI_in h0 h1 hN) hdg ?_
  rw [hcl, hg]
  exact kk H locs ls a1 a2 a4 a5
theorem V_alen (C : yC p l s m args meth c y cc nL ret tb d b) {k t : Nat} {x : vp_A} {ty : FieldType} {z : Int} (ha : h k = some (.inl (d.2.1 t, x))) (ht : (yT d)[t]? = some (d.2.1 t, ty)) (hz : (x.1 : Int) = z) (hdg : decode cc pc = .ok (.arraylength, 1)) (kk : V p l e R s m args below meth c nL d b Q cells slots n h (pc + 1) lv (vi z :: st)) : V p l e R s m args below meth c nL d b Q cells slots n h pc lv (.ref (b + k) :: st) := by
  intro H locs ls a1 a2 a4 a5
  have hP : va_P d.1 vwCl [(b + k, .inl (d.2.1 t, x))] H := fun j q hj => by
    match j, hj with
    | 0, hj => cases hj; exact a2 k _ ha
  refine va_alen (tys := yT d) (v := iI z) C.1 C.2.1 C.2.2.2.2.2.2.2.1 hP 0 t rfl ht (by rw [iI_nat, hz]) hdg ?_
  exact kk H locs ls a1 a2 a4 a5
-- arrays: writing
theorem V_iastore (C : yC p l s m args meth c y cc nL ret tb d b) {k N : Nat} {F : Nat → Int} {i x : Int} (ha : h k = some (oI d N F)) (h0 : 0 ≤ i) (h1 : i < N) (hN : N < 2 ^ 31) (hdg : decode cc pc = .ok (.iastore, 1)) (kk : V p l e R s m args below meth c nL d b Q cells slots n (hs h k (oI d N (fu F i.toNat x))) (pc + 1) lv st) : V p l e R s m args below meth c nL d b Q cells slots n h pc lv (vi x :: vi i :: .ref (b + k) :: st) := by
  intro H locs ls a1 a2 a4 a5
  have hcl : (iI i).toNatClampNeg = i.toNat := iI_cl ⟨by omega, by omega⟩
  have hc : H[b + k]? = some (arrV (d.2.1 0) N (fun j => .int (iI (F j)))) := a2 k _ ha
  refine W.iast C.1 C.2.1 hc ((C.2.2.2.2.2.2.2.1.2 0 _ rfl).1 N (fun j => .int (iI (F j)))) (fun q => by cases q) (by rw [arrV_size]; exact iI_in h0 h1 hN) rfl rfl hdg fun H1 e1 z oq => ?_
  refine kk H1 _ ls (z.trans a1) (yP_set a2 ?_ oq) (a4.put z oq (Nat.le_add_right b k)) a5
  show H1[b + k]? = some (arrV (d.2.1 0) N (fun j => .int (iI (fu F i.toNat x j))))
  rw [e1, arrV_store, hcl]
  congr 2
  funext q
  by_cases hq : q = i.toNat
  · subst hq
    simp [updV, fu]
  · simp [updV, fu, hq]
theorem V_lastore (C : yC p l s m args meth c y cc nL ret tb d b) {k N : Nat} {F : Nat → Int} {i x : Int} (ha : h k = some (oJ d N F)) (h0 : 0 ≤ i) (h1 : i < N) (hN : N < 2 ^ 31) (hdg : decode cc pc = .ok (.lastore, 1)) (kk : V p l e R s m args below meth c nL d b Q cells slots n (hs h k (oJ d N (fu F i.toNat x))) (pc + 1) lv st) : V p l e R s m args below meth c nL d b Q cells slots n h pc lv (vj x :: vi i :: .ref (b + k) :: st) := by
  intro H locs ls a1 a2 a4 a5
  have hcl : (iI i).toNatClampNeg = i.toNat := iI_cl ⟨by omega, by omega⟩
  have hc : H[b + k]? = some (arrV (d.2.1 1) N (fun j => .long (jI (F j)))) := a2 k _ ha
  refine W.last C.1 C.2.1 hc ((C.2.2.2.2.2.2.2.1.2 1 _ rfl).1 N (fun j => .long (jI (F j)))) (fun q => by cases q) (by rw [arrV_size]; exact iI_in h0 h1 hN) rfl rfl hdg fun H1 e1 z oq => ?_
  refine kk H1 _ ls (z.trans a1) (yP_set a2 ?_ oq) (a4.put z oq (Nat.le_add_right b k)) a5
  show H1[b + k]? = some (arrV (d.2.1 1) N (fun j => .long (jI (fu F i.toNat x j))))
  rw [e1, arrV_store, hcl]
  congr 2
  funext q
  by_cases hq : q = i.toNat
  · subst hq
    simp [updV, fu]
  · simp [updV, fu, hq]
theorem V_zastore (C : yC p l s m args meth c y cc nL ret tb d b) {k N : Nat} {F : Nat → Int} {i x : Int} (ha : h k = some (oZ d N F)) (hx : x = 0 ∨ x = 1) (h0 : 0 ≤ i) (h1 : i < N) (hN : N < 2 ^ 31) (hdg : decode cc pc = .ok (.bastore, 1)) (kk : V p l e R s m args below meth c nL d b Q cells slots n (hs h k (oZ d N (fu F i.toNat x))) (pc + 1) lv st) : V p l e R s m args below meth c nL d b Q cells slots n h pc lv (vi x :: vi i :: .ref (b + k) :: st) := by
  intro H locs ls a1 a2 a4 a5
  have hcl : (iI i).toNatClampNeg = i.toNat := iI_cl ⟨by omega, by omega⟩
  have hnar : narrow .boolean (.int (iI x)) = .int (iI x) := by rcases hx with rfl | rfl <;> rfl
  have hc : H[b + k]? = some (arrV (d.2.1 2) N (fun j => .int (iI (F j)))) := a2 k _ ha
  refine W.zast C.1 C.2.1 hc ((C.2.2.2.2.2.2.2.1.2 2 _ rfl).1 N (fun j => .int (iI (F j)))) (fun q => by cases q) (by rw [arrV_size]; exact iI_in h0 h1 hN) rfl rfl hdg fun H1 e1 z oq => ?_
  refine kk H1 _ ls (z.trans a1) (yP_set a2 ?_ oq) (a4.put z oq (Nat.le_add_right b k)) a5
  show H1[b + k]? = some (arrV (d.2.1 2) N (fun j => .int (iI (fu F i.toNat x j))))
  rw [e1, arrV_store, hcl, hnar]
  congr 2
  funext q
  by_cases hq : q = i.toNat
  · subst hq
    simp [updV, fu]
  · simp [updV, fu, hq]
theorem V_aastore (C : yC p l s m args meth c y cc nL ret tb d b) {k N t ci a : Nat} {r : vw_C} {fs : List Value} {g : Nat → Option Nat} {i : Int} (ha : h k = some (oA d t N g)) (ht : (yT d)[t]? = some (d.2.1 t, .object r.1)) (hv : h a = some (.inr (ci, fs))) (hci : vwCl[ci]? = some r) (h0 : 0 ≤ i) (h1 : i < N) (hN : N < 2 ^ 31) (hdg : decode cc pc = .ok (.aastore, 1)) (kk : V p l e R s m args below meth c nL d b Q cells slots n (hs h k (oA d t N (fu g i.toNat (some (b + a))))) (pc + 1) lv st) : V p l e R s m args below meth c nL d b Q cells slots n h pc lv (.ref (b + a) :: vi i :: .ref (b + k) :: st) := by
  intro H locs ls a1 a2 a4 a5
  have hcl : (iI i).toNatClampNeg = i.toNat := iI_cl ⟨by omega, by omega⟩
  have hin := iI_in h0 h1 hN
  have hlt : (iI i).toNatClampNeg < N := Nat.not_le.mp fun q => hin (Or.inr q)
  have hi0 : ¬ iI i < 0 := fun q => hin (Or.inl q)
  have hc : H[b + k]? = some (arrV (d.2.1 t) N (fun j => va_rf (g j))) := a2 k _ ha
  obtain ⟨r', hr', cellV, g1, g2, g3, -⟩ := a2 a _ hv
  have hK := C.2.2.2.2.2.2.2.1
  have hcls := (hK.1 ci r hci).2
  obtain ⟨kA, comp, k1, k2, k3, -⟩ := (hK.2 t _ ht).2
  have hcomp : comp = d.1.1 ci := Option.some.inj (k3.symm.trans hcls.1)
  subst hcomp
  obtain ⟨kC, hkC, -⟩ := hcls.2
  refine W.aast C.1 C.2.1 hc (fun q h => by cases h) (fun h => by cases h) k1 k2 rfl hkC ⟨hi0, by rw [arrV_size]; exact hlt⟩ g1 (fun q h => by rw [g3] at h; cases h) (by rw [g2]; exact hkC) (by rw [g2]; exact va_assign hcls) rfl rfl hdg fun H1 e1 z oq => ?_
  refine kk H1 _ ls (z.trans a1) (yP_set a2 ?_ oq) (a4.put z oq (Nat.le_add_right b k)) a5
  show H1[b + k]? = some (arrV (d.2.1 t) N (fun j => va_rf (fu g i.toNat (some (b + a)) j)))
  rw [e1, arrV_store, hcl]
  congr 2
  funext q
  by_cases hq : q = i.toNat
  · subst hq
    simp [updV, fu, va_rf]
  · simp [updV, fu, hq]
-- fields
theorem V_get (C : yC p l s m args meth c y cc nL ret tb d b) (ci kf : Nat) {k index N : Nat} {fs : List Value} {Cn ref : String} {T : u_T} {v : Value} (he : h k = some (.inr (ci, fs))) (hc : vwCl[ci]? = some (Cn, T, N)) (hin : ∀ w ∈ u_ws Cn T N, w ∈ yW) (hk : kf < N) (hlink : Cond.fieldLink y.cls index ref (T kf).2.1 (T kf).2.2.1 ∈ yW) (hsame : (T kf).1 = ref) (hv : fs[kf]? = some v) (hdg : decode cc pc = .ok (.getfield index, 3)) (kk : V p l e R s m args below meth c nL d b Q cells slots n h (pc + 3) lv (v :: st)) : V p l e R s m args below meth c nL d b Q cells slots n h pc lv (.ref (b + k) :: st) := by
  intro H locs ls a1 a2 a4 a5
  have hP : va_P d.1 vwCl [(b + k, .inr (ci, fs))] H := fun j q hj => by
    match j, hj with
    | 0, hj => cases hj; exact a2 k _ he
  exact va_get (D := d.1) (v := v) C.1 C.2.1 C.2.2.2.2.2.1 hin C.2.2.2.2.1 C.2.2.2.2.2.2.2.1 hP 0 rfl hc kf hk (C.2.2.2.2.2.1 _ hlink) (fun x hx => by rw [← hsame]; exact hx) hv hdg (kk H locs ls a1 a2 a4 a5)
theorem V_getN (C : yC p l s m args meth c y cc nL ret tb d b) (ci kf : Nat) {k index N : Nat} {fs : List Value} {Cn ref host : String} {T : u_T} {v : Value} (he : h k = some (.inr (ci, fs))) (hc : vwCl[ci]? = some (Cn, T, N)) (hin : ∀ w ∈ u_ws Cn T N, w ∈ yW) (hk : kf < N) (hlink : Cond.fieldLinkNest y.cls index ref (T kf).2.1 (T kf).2.2.1 host ∈ yNs) (hsame : (T kf).1 = ref) (hv : fs[kf]? = some v) (hdg : decode cc pc = .ok (.getfield index, 3)) (kk : V p l e R s m args below meth c nL d b Q cells slots n h (pc + 3) lv (v :: st)) : V p l e R s m args below meth c nL d b Q cells slots n h pc lv (.ref (b + k) :: st) := by
  intro H locs ls a1 a2 a4 a5
  have hP : va_P d.1 vwCl [(b + k, .inr (ci, fs))] H := fun j q hj => by
    match j, hj with
    | 0, hj => cases hj; exact a2 k _ he
  exact va_getN (D := d.1) (v := v) C.1 C.2.1 C.2.2.2.2.2.1 hin C.2.2.2.2.1 C.2.2.2.2.2.2.2.1 hP 0 rfl hc kf hk (va_Nw.use (yNs_on hlink) (C.2.2.2.2.2.2.2.2.1.1 _ hlink)) (fun x hx => by rw [← hsame]; exact hx) hv hdg (kk H locs ls a1 a2 a4 a5)
theorem V_put (C : yC p l s m args meth c y cc nL ret tb d b) (ci kf : Nat) {k index N : Nat} {fs : List Value} {Cn ref : String} {T : u_T} {ty : FieldType} {v : Value} (he : h k = some (.inr (ci, fs))) (hc : vwCl[ci]? = some (Cn, T, N)) (hin : ∀ w ∈ u_ws Cn T N, w ∈ yW) (ty0 : Nat → FieldType) (hty : ∀ k, k < N → parseFieldDescriptor (T k).2.2.1 = some (ty0 k)) (hnm : ∀ a, a < N → ∀ b, b < N → a ≠ b → (T a).2.1 ≠ (T b).2.1) (hk : kf < N) (hlink : Cond.fieldLink y.cls index ref (T kf).2.1 (T kf).2.2.1 ∈ yW) (hsame : (T kf).1 = ref) (hfin : (T kf).2.2.2 = false) (hd : parseFieldDescriptor (T kf).2.2.1 = some ty) (hn : narrow ty v = v) (hfit : fits ty v = true) (hl : kf < fs.length) (hdg : decode cc pc = .ok (.putfield index, 3)) (kk : V p l e R s m args below meth c nL d b Q cells slots n (hs h k (.inr (ci, fs.set kf v))) (pc + 3) lv st) : V p l e R s m args below meth c nL d b Q cells slots n h pc lv (v :: .ref (b + k) :: st) := by
  intro H locs ls a1 a2 a4 a5
  have hK := C.2.2.2.2.2.2.2.1
  have hts := C.2.2.2.2.2.1
  have hap := va_apart (own := y.cls) hts hin ty0 hty hnm hK hc
  obtain ⟨r, h1, cell, q1, q2, q3, q4⟩ := a2 k _ he
  have hr : r = (Cn, T, N) := Option.some.inj (h1.symm.trans hc)
  subst hr
  obtain ⟨hS, hfc, kC, hkC, hkind⟩ := hK.1 ci _ hc
  obtain ⟨cf, kf', fi, f, hi, hsl⟩ := hS kf hk
  have hlay := hts _ (hin _ (u_in_lay hk))
  unfold u_lay at hlay
  rw [if_neg (by rw [hfin]; decide)] at hlay
  have hst := (u_facts hfc hkC (u_lays hts hin hk) hi).1
  have h6 := u_store hfc hkC hkind hlay hi hd hn hfit
  refine W.putK C.1 C.2.1 (f := f) ⟨C.2.2.2.2.1, hts _ hlink, ⟨_, _, _, by rw [← hsame]; exact hi⟩, hst⟩ (by rw [q2]; exact h6) q1 q3 (by rw [hsl]; exact k2_hasslot (q4 kf hk)) rfl rfl hdg fun H1 e1 e2 e3 => ?_
  rw [hsl] at e1 ⊢
  exact kk H1 _ ls (e2.trans a1) (yP_set a2 ⟨_, hc, t_OB.to (V := updV (vp_V fs) kf v) ⟨_, e1, q2, q3, t_set q4 hap hk v⟩ (fun j _ => vp_updV_set hl v j)⟩ e3) (a4.put e2 e3 (Nat.le_add_right b k)) a5
theorem V_putN (C : yC p l s m args meth c y cc nL ret tb d b) (ci kf : Nat) {k index N : Nat} {fs : List Value} {Cn ref host : String} {T : u_T} {ty : FieldType} {v : Value} (he : h k = some (.inr (ci, fs))) (hc : vwCl[ci]? = some (Cn, T, N)) (hin : ∀ w ∈ u_ws Cn T N, w ∈ yW) (ty0 : Nat → FieldType) (hty : ∀ k, k < N → parseFieldDescriptor (T k).2.2.1 = some (ty0 k)) (hnm : ∀ a, a < N → ∀ b, b < N → a ≠ b → (T a).2.1 ≠ (T b).2.1) (hk : kf < N) (hlink : Cond.fieldLinkNest y.cls index ref (T kf).2.1 (T kf).2.2.1 host ∈ yNs) (hsame : (T kf).1 = ref) (hfin : (T kf).2.2.2 = false) (hd : parseFieldDescriptor (T kf).2.2.1 = some ty) (hn : narrow ty v = v) (hfit : fits ty v = true) (hl : kf < fs.length) (hdg : decode cc pc = .ok (.putfield index, 3)) (kk : V p l e R s m args below meth c nL d b Q cells slots n (hs h k (.inr (ci, fs.set kf v))) (pc + 3) lv st) : V p l e R s m args below meth c nL d b Q cells slots n h pc lv (v :: .ref (b + k) :: st) := by
  intro H locs ls a1 a2 a4 a5
  have hK := C.2.2.2.2.2.2.2.1
  have hts := C.2.2.2.2.2.1
  have hap := va_apart (own := y.cls) hts hin ty0 hty hnm hK hc
  obtain ⟨r, h1, cell, q1, q2, q3, q4⟩ := a2 k _ he
  have hr : r = (Cn, T, N) := Option.some.inj (h1.symm.trans hc)
  subst hr
  obtain ⟨hS, hfc, kC, hkC, hkind⟩ := hK.1 ci _ hc
  obtain ⟨cf, kf', fi, f, hi, hsl⟩ := hS kf hk
  have hlay := hts _ (hin _ (u_in_lay hk))
  unfold u_lay at hlay
  rw [if_neg (by rw [hfin]; decide)] at hlay
  have hst := (u_facts hfc hkC (u_lays hts hin hk) hi).1
  have h6 := u_store hfc hkC hkind hlay hi hd hn hfit
  refine va_WputK C.1 C.2.1 (f := f) C.2.2.2.2.1 (va_Nw.use (yNs_on hlink) (C.2.2.2.2.2.2.2.2.1.1 _ hlink)) (by rw [← hsame]; exact hi) hst (by rw [q2]; exact h6) q1 q3 (by rw [hsl]; exact k2_hasslot (q4 kf hk)) rfl rfl hdg fun H1 e1 e2 e3 => ?_
  rw [hsl] at e1 ⊢
  exact kk H1 _ ls (e2.trans a1) (yP_set a2 ⟨_, hc, t_OB.to (V := updV (vp_V fs) kf v) ⟨_, e1, q2, q3, t_set q4 hap hk v⟩ (fun j _ => vp_updV_set hl v j)⟩ e3) (a4.put e2 e3 (Nat.le_add_right b k)) a5
theorem V_putF (C : yC p l s m args meth c y cc nL ret tb d b) (ci kf : Nat) {k index N : Nat} {fs : List Value} {Cn ref : String} {T : u_T} {ty : FieldType} {v : Value} (he : h k = some (.inr (ci, fs))) (hc : vwCl[ci]? = some (Cn, T, N)) (hin : ∀ w ∈ u_ws Cn T N, w ∈ yW) (ty0 : Nat → FieldType) (hty : ∀ k, k < N → parseFieldDescriptor (T k).2.2.1 = some (ty0 k)) (hnm : ∀ a, a < N → ∀ b, b < N → a ≠ b → (T a).2.1 ≠ (T b).2.1) (hk : kf < N) (hlink : Cond.fieldLink y.cls index ref (T kf).2.1 (T kf).2.2.1 ∈ yW) (hsame : (T kf).1 = ref) (hfin : (T kf).2.2.2 = true) (hname : y.name = "<init>") (hdecl : (T kf).1 = y.cls) (hd : parseFieldDescriptor (T kf).2.2.1 = some ty) (hn : narrow ty v = v) (hfit : fits ty v = true) (hl : kf < fs.length) (hdg : decode cc pc = .ok (.putfield index, 3)) (kk : V p l e R s m args below meth c nL d b Q cells slots n (hs h k (.inr (ci, fs.set kf v))) (pc + 3) lv st) : V p l e R s m args below meth c nL d b Q cells slots n h pc lv (v :: .ref (b + k) :: st) := by
  intro H locs ls a1 a2 a4 a5
  have hK := C.2.2.2.2.2.2.2.1
  have hts := C.2.2.2.2.2.1
  have hown := C.2.2.2.2.1
  have hap := va_apart (own := y.cls) hts hin ty0 hty hnm hK hc
  obtain ⟨r, h1, cell, q1, q2, q3, q4⟩ := a2 k _ he
  have hr : r = (Cn, T, N) := Option.some.inj (h1.symm.trans hc)
  subst hr
  obtain ⟨hS, hfc, kC, hkC, hkind⟩ := hK.1 ci _ hc
  obtain ⟨cf, kf', fi, f, hi, hsl⟩ := hS kf hk
  have hlay := hts _ (hin _ (u_in_lay hk))
  unfold u_lay at hlay
  rw [if_pos hfin] at hlay
  have hst := (u_facts hfc hkC (u_lays hts hin hk) hi).1
  have hcf : m.cls = cf := by
    obtain ⟨_, _, c', _, _, _, -, -, hf', -, -, -, hown2, -⟩ := Cond.laysFinal_spec hlay
    have e1 : c' = cf := by have := hi.symm.trans hf'; simp at this; exact this.1.symm
    rw [hdecl] at hown2
    rw [← e1]; exact Option.some.inj (hown.symm.trans hown2)
  have h6 := u_fits hfc hkC hkind (Or.inr hlay) hi hd hn hfit
  refine W.putFinK C.1 C.2.1 hown (hts _ hlink) (by rw [← hsame]; exact hi) hst hcf (C.2.2.2.2.2.2.2.2.2.2.1.trans hname) (by rw [q2]; exact h6) q1 q3 (by rw [hsl]; exact k2_hasslot (q4 kf hk)) rfl rfl hdg fun H1 e1 e2 e3 => ?_
  rw [hsl] at e1 ⊢
  exact kk H1 _ ls (e2.trans a1) (yP_set a2 ⟨_, hc, t_OB.to (V := updV (vp_V fs) kf v) ⟨_, e1, q2, q3, t_set q4 hap hk v⟩ (fun j _ => vp_updV_set hl v j)⟩ e3) (a4.put e2 e3 (Nat.le_add_right b k)) a5
-- making
theorem V_new (C : yC p l s m args meth c y cc nL ret tb d b) (ci : Nat) {index N : Nat} {fs : List Value} {Cn : String} {T : u_T} (hc : vwCl[ci]? = some (Cn, T, N)) (hin : ∀ w ∈ u_ws Cn T N, w ∈ yW) (ty0 : Nat → FieldType) (hty : ∀ k, k < N → parseFieldDescriptor (T k).2.2.1 = some (ty0 k)) (hw : ∀ w ∈ [Cond.classLink y.cls index Cn, .instantiable Cn N, .initialized Cn], w ∈ yW) (hfs : ∀ j, j < N → defaultValue (ty0 j) = vp_V fs j) (hcells : cells + 1 ≤ R.cells) (hslots : slots + N ≤ R.slots) (hdg : decode cc pc = .ok (.new index, 3)) (kk : V p l e R s m args below meth c nL d b Q (cells + 1) (slots + N) (n + 1) (hs h n (.inr (ci, fs))) (pc + 3) lv (.ref (b + n) :: st)) : V p l e R s m args below meth c nL d b Q cells slots n h pc lv st := by
  intro H locs ls a1 a2 a4 a5
  have hts := C.2.2.2.2.2.1
  have hKn := C.2.2.2.2.2.2.2.1.1 ci _ hc
  refine W.newcK C.1 C.2.1 C.2.2.2.2.1 (hts _ (hw (.classLink y.cls index Cn) (by simp))) (hts _ (hw (.instantiable Cn N) (by simp))) (hts _ (hw (.initialized Cn) (by simp))) rfl hdg hcells hslots hKn.2.1 a1 fun H1 kC hkC e1 z1 o1 => ?_
  exact kk H1 locs ls z1 (yP_push a2 a1 ⟨_, hc, (u_born ty0 hts hin hKn hkC e1 hty).to hfs⟩ o1) (yS_push a4 a1 z1 o1) a5
theorem V_newI (C : yC p l s m args meth c y cc nL ret tb d b) {z : Int} {N : Nat} (hz : z = N) (hN : N ≤ 100000) (hw : Cond.arrayClass .int ∈ yW) (hcells : cells + 1 ≤ R.cells) (hslots : slots + N ≤ R.slots) (hdg : decode cc pc = .ok (.newarray .int, 2)) (kk : V p l e R s m args below meth c nL d b Q (cells + 1) (slots + N) (n + 1) (hs h n (oI d N (fun _ => 0))) (pc + 2) lv (.ref (b + n) :: st)) : V p l e R s m args below meth c nL d b Q cells slots n h pc lv (vi z :: st) := by
  intro H locs ls a1 a2 a4 a5
  subst hz
  have hin : inI (N : Int) := ⟨by omega, by omega⟩
  refine va_newaK (atype := .int) (N := N) C.1 C.2.1 (C.2.2.2.2.2.1 _ hw) rfl hdg rfl (by rw [show (0 : Int32) = iI 0 from rfl, iI_lt hin inI_0]; omega) (by rw [iI_cl hin]; omega) (by show N * 4 ≤ _; omega) hcells hslots a1 fun H1 cA e1 z1 o1 hAr hNm => ?_
  have hc : cA = d.2.1 0 := Option.some.inj (hNm.symm.trans (C.2.2.2.2.2.2.2.1.2 0 _ rfl).2)
  subst hc
  exact kk H1 locs ls z1 (yP_push a2 a1 e1 o1) (yS_push a4 a1 z1 o1) a5
theorem V_newJ (C : yC p l s m args meth c y cc nL ret tb d b) {z : Int} {N : Nat} (hz : z = N) (hN : N ≤ 100000) (hw : Cond.arrayClass .long ∈ yW) (hcells : cells + 1 ≤ R.cells) (hslots : slots + N ≤ R.slots) (hdg : decode cc pc = .ok (.newarray .long, 2)) (kk : V p l e R s m args below meth c nL d b Q (cells + 1) (slots + N) (n + 1) (hs h n (oJ d N (fun _ => 0))) (pc + 2) lv (.ref (b + n) :: st)) : V p l e R s m args below meth c nL d b Q cells slots n h pc lv (vi z :: st) := by
  intro H locs ls a1 a2 a4 a5
  subst hz
  have hin : inI (N : Int) := ⟨by omega, by omega⟩
  refine va_newaK (atype := .long) (N := N) C.1 C.2.1 (C.2.2.2.2.2.1 _ hw) rfl hdg rfl (by rw [show (0 : Int32) = iI 0 from rfl, iI_lt hin inI_0]; omega) (by rw [iI_cl hin]; omega) (by show N * 8 ≤ _; omega) hcells hslots a1 fun H1 cA e1 z1 o1 hAr hNm => ?_
  have hc : cA = d.2.1 1 := Option.some.inj (hNm.symm.trans (C.2.2.2.2.2.2.2.1.2 1 _ rfl).2)
  subst hc
  exact kk H1 locs ls z1 (yP_push a2 a1 e1 o1) (yS_push a4 a1 z1 o1) a5
theorem V_newZ (C : yC p l s m args meth c y cc nL ret tb d b) {z : Int} {N : Nat} (hz : z = N) (hN : N ≤ 100000) (hw : Cond.arrayClass .boolean ∈ yW) (hcells : cells + 1 ≤ R.cells) (hslots : slots + N ≤ R.slots) (hdg : decode cc pc = .ok (.newarray .boolean, 2)) (kk : V p l e R s m args below meth c nL d b Q (cells + 1) (slots + N) (n + 1) (hs h n (oZ d N (fun _ => 0))) (pc + 2) lv (.ref (b + n) :: st)) : V p l e R s m args below meth c nL d b Q cells slots n h pc lv (vi z :: st) := by
  intro H locs ls a1 a2 a4 a5
  subst hz
  have hin : inI (N : Int) := ⟨by omega, by omega⟩
  refine va_newaK (atype := .boolean) (N := N) C.1 C.2.1 (C.2.2.2.2.2.1 _ hw) rfl hdg rfl (by rw [show (0 : Int32) = iI 0 from rfl, iI_lt hin inI_0]; omega) (by rw [iI_cl hin]; omega) (by show N * 1 ≤ _; omega) hcells hslots a1 fun H1 cA e1 z1 o1 hAr hNm => ?_
  have hc : cA = d.2.1 2 := Option.some.inj (hNm.symm.trans (C.2.2.2.2.2.2.2.1.2 2 _ rfl).2)
  subst hc
  exact kk H1 locs ls z1 (yP_push a2 a1 e1 o1) (yS_push a4 a1 z1 o1) a5
theorem V_newA (C : yC p l s m args meth c y cc nL ret tb d b) {z : Int} {N t index : Nat} {Cn : String} (hz : z = N) (hN : N ≤ 100000) (ht : (yT d)[t]? = some (d.2.1 t, .object Cn)) (hw : Cond.classLink y.cls index Cn ∈ yW) (hC : Cn = "YearFractions$Row") (hcells : cells + 1 ≤ R.cells) (hslots : slots + N ≤ R.slots) (hdg : decode cc pc = .ok (.anewarray index, 3)) (kk : V p l e R s m args below meth c nL d b Q (cells + 1) (slots + N) (n + 1) (hs h n (oA d t N (fun _ => none))) (pc + 3) lv (.ref (b + n) :: st)) : V p l e R s m args below meth c nL d b Q cells slots n h pc lv (vi z :: st) := by
  intro H locs ls a1 a2 a4 a5
  subst hz
  have hts := C.2.2.2.2.2.1
  have hin : inI (N : Int) := ⟨by omega, by omega⟩
  have hcl : (iI (N : Int)).toNatClampNeg = N := by rw [iI_cl hin]; omega
  refine W.anew C.1 C.2.1 C.2.2.2.2.1 (hts _ hw) (va_AO.use (by rw [hC]; exact C.2.2.2.2.2.2.2.2.1.2.2.2.2.2.1)) rfl hdg rfl (by rw [show (0 : Int32) = iI 0 from rfl, iI_lt hin inI_0]; omega) (by rw [hcl]; omega) hcells (by rw [hcl]; exact hslots) fun cA kA comp f1 f2 f3 f4 => ?_
  rw [hcl]
  generalize hH1 : H.push ({ cls := cA, slots := Array.replicate N .null, vm := .none } : Cell) = H1
  have z1 : H1.size = b + n + 1 := by rw [← hH1, Array.size_push, a1]
  have e1 : H1[b + n]? = some (arrV cA N (fun _ => .null)) := by rw [← hH1, ← a1, Array.getElem?_push_size, ← arrV_new]
  have o1 : ∀ q : Nat, q < b + n → H1[q]? = H[q]? := fun q hq => by rw [← hH1, Array.getElem?_push, if_neg (by omega)]
  obtain ⟨kA', comp', k1, k2, k3, k4⟩ := (C.2.2.2.2.2.2.2.1.2 t _ ht).2
  have hc : cA = d.2.1 t := Option.some.inj (f1.symm.trans k4)
  subst hc
  rw [a1]
  exact kk H1 locs ls z1 (yP_push a2 a1 e1 o1) (yS_push a4 a1 z1 o1) a5
-- Object's own maker
theorem V_objInit (C : yC p l s m args meth c y cc nL ret tb d b) {idx a : Nat} (hw : ∀ w ∈ [Cond.methodLink y.cls idx objectInit, .instanceMethod objectInit], w ∈ yW) (hcode : Cond.code objectInit ⟨#[0xb1]⟩ 1 none ∈ yW) (hst : (st.map fun v => v.category).sum + 12 ≤ R.locals) (hfr : 1 ≤ R.frames) (hdg : decode cc pc = .ok (.invokespecial idx, 3)) (kk : V p l e R s m args below meth c nL d b Q cells slots n h (pc + 3) lv st) : V p l e R s m args below meth c nL d b Q cells slots n h pc lv (.ref a :: st) := by
  intro H locs ls a1 a2 a4 a5
  have hts := C.2.2.2.2.2.1
  refine W.objInit C.1 C.2.1 C.2.2.2.2.1 (hts _ (hw (.methodLink y.cls idx objectInit) (by simp))) (hts _ (hw (.instanceMethod objectInit) (by simp))) (hts _ hcode) rfl (by rw [C.2.2.1]; exact a5.1) rfl hdg hfr (by show 2 * 0 + _ + 12 ≤ _; omega) ?_
  exact kk H locs ls a1 a2 a4 a5
-- constants of the pool
theorem V_ldc (C : yC p l s m args meth c y cc nL ret tb d b) {index : Nat} {v : Int32} {z : Int} (hw : Cond.constant y.cls index v ∈ yW) (hz : v = iI z) (hdg : decode cc pc = .ok (.ldc index, 2)) (kk : V p l e R s m args below meth c nL d b Q cells slots n h (pc + 2) lv (vi z :: st)) : V p l e R s m args below meth c nL d b Q cells slots n h pc lv st := by
  subst hz
  exact fun H locs ls a1 a2 a4 a5 => lv_ldc C.1 C.2.1 C.2.2.2.2.1 (C.2.2.2.2.2.1 _ hw) hdg (kk H locs ls a1 a2 a4 a5)
theorem V_ldc2 (C : yC p l s m args meth c y cc nL ret tb d b) {index : Nat} {v : Int64} {z : Int} (hw : Cond.constantLong y.cls index v ∈ yW) (hz : v = jI z) (hdg : decode cc pc = .ok (.ldc2_w index, 3)) (kk : V p l e R s m args below meth c nL d b Q cells slots n h (pc + 3) lv (vj z :: st)) : V p l e R s m args below meth c nL d b Q cells slots n h pc lv st := by
  subst hz
  exact fun H locs ls a1 a2 a4 a5 => lv_ldc2 C.1 C.2.1 C.2.2.2.2.1 (C.2.2.2.2.2.1 _ hw) hdg (kk H locs ls a1 a2 a4 a5)
-- longs compared
def cz (x z : Int) : Int := if z < x then 1 else if x = z then 0 else -1
theorem cz_in (x z : Int) : inI (cz x z) := by unfold cz; split <;> first | (constructor <;> omega) | (split <;> constructor <;> omega)
theorem V_lcmp (C : yC p l s m args meth c y cc nL ret tb d b) {x z : Int} (hdg : decode cc pc = .ok (.lcmp, 1)) (hx : inJ x) (hz : inJ z) (kk : V p l e R s m args below meth c nL d b Q cells slots n h (pc + 1) lv (vi (cz x z) :: st)) : V p l e R s m args below meth c nL d b Q cells slots n h pc lv (vj z :: vj x :: st) := by
  intro H locs ls a1 a2 a4 a5
  have e1 : lg_cmp (jI x) (jI z) = iI (cz x z) := by
    unfold lg_cmp cz
    by_cases h1 : z < x
    · rw [if_pos ((jI_lt hz hx).mpr h1), if_pos h1]; rfl
    · rw [if_neg (fun q => h1 ((jI_lt hz hx).mp q)), if_neg h1]
      by_cases h2 : x = z
      · rw [if_pos ((jI_eq hx hz).mpr h2), if_pos h2]; rfl
      · rw [if_neg (fun q => h2 ((jI_eq hx hz).mp q)), if_neg h2]; rfl
  refine W.lcmp C.1 C.2.1 hdg ?_
  rw [e1]
  exact kk H locs ls a1 a2 a4 a5
theorem cz_lt {x z : Int} : cz x z < 0 ↔ x < z := by unfold cz; split <;> (try split) <;> omega
theorem cz_gt {x z : Int} : 0 < cz x z ↔ z < x := by unfold cz; split <;> (try split) <;> omega
theorem cz_le {x z : Int} : cz x z ≤ 0 ↔ x ≤ z := by unfold cz; split <;> (try split) <;> omega
theorem cz_ge {x z : Int} : 0 ≤ cz x z ↔ z ≤ x := by unfold cz; split <;> (try split) <;> omega
theorem cz_eq {x z : Int} : cz x z = 0 ↔ x = z := by unfold cz; split <;> (try split) <;> omega
-- the ends
theorem W_mono {H : Heap} {locs : List Loc} {Q' : State → Prop} {g : JFrame} (hq : ∀ t, Q' t → Q t) (k : W p l e R s m args below meth c H locs cells slots Q' g) : W p l e R s m args below meth c H locs cells slots Q g := by
  intro T hT X
  obtain ⟨t, h1, h2⟩ := k T hT X
  exact ⟨t, h1, hq t h2⟩
theorem yG_now {H : Heap} {locs : List Loc} {U : State} (hG : yG d b s) (hS : va_S (fun q => b ≤ q) s.heap H locs) (hH : U.heap = H) (hW : s.WarmedH U.vm) : yG d b U :=
  yG_to hW (fun q h1 h2 => by rw [hH]; exact hS.2.1 q h1 h2) hG
theorem yPre_now (C : yC p l s m args meth c y cc nL ret tb d b) {H : Heap} {locs : List Loc} {U : State} (a1 : H.size = b + n) (a2 : yP d.1 b h H) (a4 : va_S (fun q => b ≤ q) s.heap H locs) (hH : U.heap = H) (hW : s.WarmedH U.vm) : yPre d b n h U :=
  ⟨by rw [hH]; exact a1, by rw [hH]; exact a2, va_K.moved hW.alike C.2.2.2.2.2.2.2.1, yG_now C.2.2.2.2.2.2.2.2.1 a4 hH hW⟩
variable {post : Option Value → Nat → yH → Prop} {thr : String → Nat → yH → Prop} {mc ms : Nat}
theorem yEnd_of {H : Heap} {locs : List Loc} {g : JFrame} {v : Option Value} (C : yC p l s m args meth c y cc nL ret tb d b) (a1 : H.size = b + n) (a2 : yP d.1 b h H) (a4 : va_S (fun q => b ≤ q) s.heap H locs) (hp : post v n h)
    (k : (∀ t : State, t.heap = H → s.WarmedH t.vm → yQc d b post thr args s (.returned v) t) → W p l e R s m args below meth c H locs mc ms (MQ below (yQc d b post thr) args s mc ms (fun q => b ≤ q)) g) : W p l e R s m args below meth c H locs mc ms (yEnd below s args d b post thr mc ms) g := by
  refine W_mono (fun t ht => ?_) (k (fun t hH hW => ⟨n, h, yPre_now C a1 a2 a4 hH hW, a4.F hH, hp⟩))
  obtain ⟨o, h1, h2, h3, L, h4, h5⟩ := ht
  exact ⟨o, h1, h2, h3, L, h4.2, h5⟩
theorem V_ireturn (C : yC p l s m args meth c y cc nL (some .int) tb d b) {v : Int} (hdg : decode cc pc = .ok (.ireturn, 1)) (h1 : cells ≤ mc) (h2 : slots ≤ ms) (hp : post (some (vi v)) n h) : V p l e R s m args below meth c nL d b (yEnd below s args d b post thr mc ms) cells slots n h pc lv [vi v] :=
  fun H locs ls a1 a2 a4 a5 => W.widen h1 h2 (yEnd_of C a1 a2 a4 hp (fun hq => W.iret C.1 C.2.1 C.2.2.2.1 hq a4.2.2 hdg C.2.2.2.2.2.2.1))
theorem V_zreturn (C : yC p l s m args meth c y cc nL (some .boolean) tb d b) {v : Int} (hdg : decode cc pc = .ok (.ireturn, 1)) (hv : v = 0 ∨ v = 1) (h1 : cells ≤ mc) (h2 : slots ≤ ms) (hp : post (some (vi v)) n h) : V p l e R s m args below meth c nL d b (yEnd below s args d b post thr mc ms) cells slots n h pc lv [vi v] :=
  fun H locs ls a1 a2 a4 a5 => W.widen h1 h2 (yEnd_of C a1 a2 a4 hp (fun hq => W.zret C.1 C.2.1 C.2.2.2.1 (by rcases hv with rfl | rfl <;> rfl) hq a4.2.2 hdg C.2.2.2.2.2.2.1))
theorem V_lreturn (C : yC p l s m args meth c y cc nL (some .long) tb d b) {v : Int} (hdg : decode cc pc = .ok (.lreturn, 1)) (h1 : cells ≤ mc) (h2 : slots ≤ ms) (hp : post (some (vj v)) n h) : V p l e R s m args below meth c nL d b (yEnd below s args d b post thr mc ms) cells slots n h pc lv [vj v] :=
  fun H locs ls a1 a2 a4 a5 => W.widen h1 h2 (yEnd_of C a1 a2 a4 hp (fun hq => W.lret C.1 C.2.1 C.2.2.2.1 hq a4.2.2 hdg C.2.2.2.2.2.2.1))
theorem V_return (C : yC p l s m args meth c y cc nL none tb d b) (hdg : decode cc pc = .ok (.return_, 1)) (h1 : cells ≤ mc) (h2 : slots ≤ ms) (hp : post none n h) : V p l e R s m args below meth c nL d b (yEnd below s args d b post thr mc ms) cells slots n h pc lv [] :=
  fun H locs ls a1 a2 a4 a5 => W.widen h1 h2 (yEnd_of C a1 a2 a4 hp (fun hq => W.vret C.1 C.2.1 C.2.2.2.1 hq a4.2.2 hdg C.2.2.2.2.2.2.1))
theorem V_areturn {Cn : String} (C : yC p l s m args meth c y cc nL (some (.object Cn)) tb d b) {a : Nat} (hdg : decode cc pc = .ok (.areturn, 1)) (h1 : cells ≤ mc) (h2 : slots ≤ ms) (hp : post (some (.ref a)) n h) : V p l e R s m args below meth c nL d b (yEnd below s args d b post thr mc ms) cells slots n h pc lv [.ref a] :=
  fun H locs ls a1 a2 a4 a5 => W.widen h1 h2 (yEnd_of C a1 a2 a4 hp (fun hq => W.aret C.1 C.2.1 C.2.2.2.1 (Or.inl ⟨Cn, rfl⟩) (Or.inr ⟨a, rfl⟩) hq a4.2.2 hdg C.2.2.2.2.2.2.1))
-- a throw under way
def WT (p : Program) (l : Launch) (e : Env) (R : Room) (s : State) (m : MethodId) (args : Array Value) (below : List Frame) (meth : Method) (c : Code) (H : Heap) (locs : List Loc) (cells slots : Nat) (Q : State → Prop) (g : JFrame) (a : Nat) : Prop :=
  ∀ T : State, T.heap = H → Stand p l e R s m args below meth c T locs cells slots → ∃ t, Steps p.tables e below ((T.setTop g).pushFrame (.throwing a)) t ∧ Q t
def VT (p : Program) (l : Launch) (e : Env) (R : Room) (s : State) (m : MethodId) (args : Array Value) (below : List Frame) (meth : Method) (c : Code) (nL : Nat) (d : yD) (b : Nat) (Q : State → Prop) (cells slots n : Nat) (h : yH) (pc : Nat) (lv : List (Nat × Value)) (Cx : String) : Prop :=
  ∀ (H : Heap) (locs : List Loc) (ls : Array Slot) (st : List Value) (a : Nat), H.size = b + n → yP d.1 b h H → va_S (fun q => b ≤ q) s.heap H locs → lv_has ls nL lv → (∃ cell : Cell, H[a]? = some cell ∧ cell.vm.isStatics = false ∧ s.vm.findClass Cx = some cell.cls) → WT p l e R s m args below meth c H locs cells slots Q (F0 m pc ls st) a
theorem VT_leave (C : yC p l s m args meth c y cc nL ret tb d b) {Cx : String} (hout : ∀ x ∈ tb, covers x pc = false) (h1 : cells ≤ mc) (h2 : slots ≤ ms) (hp : thr Cx n h) : VT p l e R s m args below meth c nL d b (yEnd below s args d b post thr mc ms) cells slots n h pc lv Cx := by
  intro H locs ls st a a1 a2 a4 a5 ⟨ce, g1, g2, g3⟩ T hT X
  obtain ⟨st1, hrun, hend, hW, hsame⟩ := X.leaveThrown a (g := F0 m pc ls st) rfl rfl rfl (by rw [C.2.2.2.2.2.2.2.2.2.2.2.1]; exact hout) C.2.2.2.2.2.2.1
  have hH : (T.setFrames (.throwing a :: below)).heap = H := hT
  refine ⟨_, st1, .threw a, hrun, hend, ⟨n, h, yPre_now C a1 a2 a4 hH hW, a4.F hH, Cx, hp, ce, by rw [hH]; exact g1, g2, ?_⟩, locs, ⟨hW, hsame.mono h1 h2⟩, a4.2.2⟩
  rw [hW.alike.findClass]
  exact g3
-- calls
def yGd (w : Cond) : Prop := (w.onTables && w.keeps) = true ∨ ∃ ty, w = .arrayClass ty
theorem yWords {ws0 : Cond} (C : yC p l s m args meth c y cc nL ret tb d b) (h0 : ws0 ∈ yW) : ∀ w ∈ ws0 :: yW, ∀ (a' : Array Value) (U : State), s.WarmedH U.vm → w.before a' U = true := by
  intro w hw a' U hW
  have hw' : w ∈ yW := by
    rcases List.mem_cons.mp hw with e1 | e1
    · rw [e1]; exact h0
    · exact e1
  exact word_at hW (yW_good hw') (C.2.2.2.2.2.1 w hw')
theorem yBlind {As : List Value} : FrameBlind (va_Pc As (yPre d b n h)) := by
  intro a U g mk ⟨q0, q1, q2, q4, q5⟩
  exact ⟨q0, q1, q2, va_K.moved (u := U) (U := U.calling g mk a) (Vm.Alike.refl U.vm) q4, yG_to (s := U) (U := U.calling g mk a) (State.WarmedH.refl U) (fun _ _ _ => rfl) q5⟩
theorem yBackX (C : yC p l s m args meth c y cc nL ret tb d b) {yy : MethodName} {bytes : ByteArray} {maxL fr lo mc0 ms0 : Nat} {ret0 : Option FieldType} {n0 : Nat} {h0 : yH} {As : List Value} {post0 : Option Value → Nat → yH → Prop} {thr0 : String → Nat → yH → Prop}
    (hM : yM l yy bytes maxL ret0 fr lo mc0 ms0 d b n0 h0 As post0 thr0) (hcode : Cond.code yy bytes maxL ret0 ∈ yW) (hini : Cond.initialized yy.cls ∈ yW) (hfr : fr + 1 ≤ R.frames) (hlo : 8 + (maxL + 11) + lo ≤ R.locals) :
    BackX l R p e below s args yy 3 8 (PreOf R mc0 ms0 (va_Pc As (yPre d b n0 h0))) (PostX (yQc d b post0 thr0) mc0 ms0 (fun q => b ≤ q)) :=
  backX_of (bytes := bytes) (maxL := maxL) (ret := ret0) hM yBlind rfl rfl hfr hlo (yWords C hcode) List.mem_cons_self (fun a' U hW => word_at hW (yW_good hini) (C.2.2.2.2.2.1 _ hini))
theorem yCall_go (C : yC p l s m args meth c y cc nL ret tb d b) {H : Heap} {locs : List Loc} {ls : Array Slot} {stk : List Value} {mc0 ms0 : Nat} {post0 : Option Value → Nat → yH → Prop} {thr0 : String → Nat → yH → Prop} {av : Array Value}
    (a4 : va_S (fun q => b ≤ q) s.heap H locs) (a5 : lv_has ls nL lv) {T : State} (hT : T.heap = H) {o : Outcome} {vm₁ : Vm} {B : Pt} (X' : Stand p l e R s m args below meth c B.U B.locs B.cells B.slots)
    (hpost : PostX (yQc d b post0 thr0) mc0 ms0 (fun q => b ≤ q) ⟨T.setVm vm₁, locs, cells, slots⟩ av o B) (hgo : yGo p e below (T.setTop (F0 m pc ls stk)) B.U (F0 m pc ls st) 3 o)
    (kR : ∀ v n' h', post0 v n' h' → V p l e R s m args below meth c nL d b Q (cells + mc0) (slots + ms0) n' h' (pc + 3) lv (v.toList ++ st))
    (kT : ∀ Cx n' h', thr0 Cx n' h' → VT p l e R s m args below meth c nL d b Q (cells + mc0) (slots + ms0) n' h' pc lv Cx) :
    ∃ t, Steps p.tables e below (T.setTop (F0 m pc ls stk)) t ∧ Q t := by
  obtain ⟨U', l2, c2, s2⟩ := B
  obtain ⟨g', mk, t, L, e1, e2, ⟨n', h', ⟨q1, q2, q4, q5⟩, hF, ho⟩, h1, hL, h2, h3⟩ := hpost
  dsimp only [Pt.U, Pt.locs, Pt.cells, Pt.slots] at X' e1 e2 h1 h2 h3 hgo
  subst h1; subst h2; subst h3
  have hF1 : H.size ≤ t.heap.size := by have := hF.1; rw [show ((T.setVm vm₁).calling g' mk av).heap = H from hT] at this; exact this
  have hF2 : ∀ q : Nat, q < H.size → ¬ b ≤ q → t.heap[q]? = H[q]? := by
    intro q g1 g2
    have := hF.2 q (by rw [show ((T.setVm vm₁).calling g' mk av).heap = H from hT]; exact g1) g2
    rw [show ((T.setVm vm₁).calling g' mk av).heap = H from hT] at this
    exact this
  have b4 : va_S (fun q => b ≤ q) s.heap U'.heap (locs ++ L) := by
    rw [e1]
    refine ⟨Nat.le_trans a4.1 hF1, fun q g1 g2 => (hF2 q (by have := a4.1; omega) g2).trans (a4.2.1 q g1 g2), fun q hq => ?_⟩
    rcases List.mem_append.mp hq with z | z
    · exact a4.2.2 q z
    · exact hL q z
  cases o with
  | returned v =>
    obtain ⟨tt, g1, g2⟩ := kR v n' h' ho U'.heap (locs ++ L) ls (by rw [e1]; exact q1) (by rw [e1]; exact q2) b4 a5 U' rfl X'
    exact ⟨tt, Steps.trans hgo g1, g2⟩
  | threw x =>
    obtain ⟨Cx, hx, cell, g1, g2, g3⟩ := ho
    obtain ⟨tt, k1, k2⟩ := kT Cx n' h' hx U'.heap (locs ++ L) ls st x (by rw [e1]; exact q1) (by rw [e1]; exact q2) b4 a5 ⟨cell, by rw [e1]; exact g1, g2, by
      have hw := X'.warmed.alike.findClass (name := Cx)
      rw [e2] at hw
      rw [← hw]
      exact g3⟩ U' rfl X'
    exact ⟨tt, Steps.trans hgo k1, k2⟩
theorem V_callV (C : yC p l s m args meth c y cc nL ret tb d b) {yy : MethodName} {bytes : ByteArray} {maxL fr lo mc0 ms0 index k ci : Nat} {ret0 : Option FieldType} {As stk fs : List Value} {post0 : Option Value → Nat → yH → Prop} {thr0 : String → Nat → yH → Prop} {r : vw_C}
    (hM : yM l yy bytes maxL ret0 fr lo mc0 ms0 d b n h (.ref (b + k) :: As) post0 thr0) (hcm : Cond.code yy bytes maxL ret0 ∈ yW) (hw : ∀ w ∈ [Cond.methodLink y.cls index yy, .instanceMethod yy, .selects r.1 yy yy, .initialized yy.cls], w ∈ yW)
    (hy : yy.cls ≠ "java/lang/invoke/MethodHandle" ∧ yy.cls ≠ "java/lang/invoke/VarHandle" ∧ (parseMethodDescriptor yy.desc).map (fun d => d.parameters.length) = some As.length)
    (hR : fr + 1 ≤ R.frames ∧ 8 + (maxL + 11) + lo ≤ R.locals ∧ cells + mc0 ≤ R.cells ∧ slots + ms0 ≤ R.slots) (he : h k = some (.inr (ci, fs))) (hci : vwCl[ci]? = some r)
    (hs : stk = As.reverse ++ .ref (b + k) :: st) (hst : (st.map fun v => v.category).sum ≤ 8) (hdg : decode cc pc = .ok (.invokevirtual index, 3))
    (kR : ∀ v n' h', post0 v n' h' → V p l e R s m args below meth c nL d b Q (cells + mc0) (slots + ms0) n' h' (pc + 3) lv (v.toList ++ st))
    (kT : ∀ Cx n' h', thr0 Cx n' h' → VT p l e R s m args below meth c nL d b Q (cells + mc0) (slots + ms0) n' h' pc lv Cx) : V p l e R s m args below meth c nL d b Q cells slots n h pc lv stk := by
  intro H locs ls a1 a2 a4 a5 T hT X
  have hts := C.2.2.2.2.2.1
  obtain ⟨q', h1, cell, g1, g2, g3, -⟩ := a2 k _ he
  have hlen : ∀ sig, parseMethodDescriptor yy.desc = some sig → As.length = sig.parameters.length := fun sig hsig => by
    have h9 := hy.2.2
    rw [hsig] at h9
    exact (Option.some.inj h9).symm
  obtain ⟨o, vm₁, B, hW₁, X', hpost, hgo⟩ := callVX (g := F0 m pc ls stk) (argsL := As) (rest := st) X C.1 C.2.2.2.2.1 (hts _ (hw (.methodLink y.cls index yy) (by simp))) (hts _ (hw (.instanceMethod yy) (by simp))) (hts _ (hw (.selects r.1 yy yy) (by simp))) (hts _ hcm) ⟨hy.1, hy.2.1⟩
    (yBackX C hM hcm (hw (.initialized yy.cls) (by simp)) hR.1 hR.2.1) (b := b + k) (cellB := cell) (by rw [hT]; exact g1) (by rw [g3]; rfl) (by rw [g2]; exact (C.2.2.2.2.2.2.2.1.1 ci r hci).2.1) rfl (by rw [C.2.2.1]; exact a5.1) hlen hs (by show 2 * 0 + _ ≤ 8; omega) (by rw [C.2.1]; exact hdg)
    (fun vm₁ hW₁ => ⟨hR.2.2.1, hR.2.2.2, rfl, yPre_now C a1 a2 a4 (U := T.setVm vm₁) hT hW₁⟩)
  exact yCall_go C a4 a5 hT X' hpost hgo kR kT
theorem V_callS (C : yC p l s m args meth c y cc nL ret tb d b) {yy : MethodName} {bytes : ByteArray} {maxL fr lo mc0 ms0 index : Nat} {ret0 : Option FieldType} {As stk : List Value} {post0 : Option Value → Nat → yH → Prop} {thr0 : String → Nat → yH → Prop}
    (hM : yM l yy bytes maxL ret0 fr lo mc0 ms0 d b n h As post0 thr0) (hcm : Cond.code yy bytes maxL ret0 ∈ yW) (hw : ∀ w ∈ [Cond.methodLink y.cls index yy, .static yy, .initialized yy.cls], w ∈ yW)
    (hy : yy.cls ≠ "java/lang/invoke/MethodHandle" ∧ yy.cls ≠ "java/lang/invoke/VarHandle" ∧ (parseMethodDescriptor yy.desc).map (fun d => d.parameters.length) = some As.length)
    (hR : fr + 1 ≤ R.frames ∧ 8 + (maxL + 11) + lo ≤ R.locals ∧ cells + mc0 ≤ R.cells ∧ slots + ms0 ≤ R.slots)
    (hs : stk = As.reverse ++ st) (hst : (st.map fun v => v.category).sum ≤ 8) (hdg : decode cc pc = .ok (.invokestatic index, 3))
    (kR : ∀ v n' h', post0 v n' h' → V p l e R s m args below meth c nL d b Q (cells + mc0) (slots + ms0) n' h' (pc + 3) lv (v.toList ++ st))
    (kT : ∀ Cx n' h', thr0 Cx n' h' → VT p l e R s m args below meth c nL d b Q (cells + mc0) (slots + ms0) n' h' pc lv Cx) : V p l e R s m args below meth c nL d b Q cells slots n h pc lv stk := by
  intro H locs ls a1 a2 a4 a5 T hT X
  have hts := C.2.2.2.2.2.1
  have hlen : ∀ sig, parseMethodDescriptor yy.desc = some sig → As.length = sig.parameters.length := fun sig hsig => by
    have h9 := hy.2.2
    rw [hsig] at h9
    exact (Option.some.inj h9).symm
  obtain ⟨o, vm₁, B, hW₁, X', hpost, hgo⟩ := callSX (g := F0 m pc ls stk) (argsL := As) (rest := st) X C.1 C.2.2.2.2.1 (hts _ (hw (.methodLink y.cls index yy) (by simp))) (hts _ (hw (.static yy) (by simp))) (hts _ (hw (.initialized yy.cls) (by simp))) (hts _ hcm) ⟨hy.1, hy.2.1⟩
    (yBackX C hM hcm (hw (.initialized yy.cls) (by simp)) hR.1 hR.2.1) rfl (by rw [C.2.2.1]; exact a5.1) hlen hs (by show 2 * 0 + _ ≤ 8; omega) (by rw [C.2.1]; exact hdg)
    (fun vm₁ hW₁ => ⟨hR.2.2.1, hR.2.2.2, rfl, yPre_now C a1 a2 a4 (U := T.setVm vm₁) hT hW₁⟩)
  exact yCall_go C a4 a5 hT X' hpost hgo kR kT
theorem V_callI (C : yC p l s m args meth c y cc nL ret tb d b) {yy : MethodName} {bytes : ByteArray} {maxL fr lo mc0 ms0 index a : Nat} {As stk : List Value} {post0 : Option Value → Nat → yH → Prop} {thr0 : String → Nat → yH → Prop}
    (hM : yM l yy bytes maxL none fr lo mc0 ms0 d b n h (.ref a :: As) post0 thr0) (hcm : Cond.code yy bytes maxL none ∈ yW) (hw : ∀ w ∈ [Cond.methodLink y.cls index yy, .instanceMethod yy, .initialized yy.cls], w ∈ yW)
    (hy : yy.cls ≠ "java/lang/invoke/MethodHandle" ∧ yy.cls ≠ "java/lang/invoke/VarHandle" ∧ (parseMethodDescriptor yy.desc).map (fun d => d.parameters.length) = some As.length) (hname : yy.name = "<init>")
    (hR : fr + 1 ≤ R.frames ∧ 8 + (maxL + 11) + lo ≤ R.locals ∧ cells + mc0 ≤ R.cells ∧ slots + ms0 ≤ R.slots)
    (hs : stk = As.reverse ++ .ref a :: st) (hst : (st.map fun v => v.category).sum ≤ 8) (hdg : decode cc pc = .ok (.invokespecial index, 3))
    (kR : ∀ v n' h', post0 v n' h' → V p l e R s m args below meth c nL d b Q (cells + mc0) (slots + ms0) n' h' (pc + 3) lv (v.toList ++ st))
    (kT : ∀ Cx n' h', thr0 Cx n' h' → VT p l e R s m args below meth c nL d b Q (cells + mc0) (slots + ms0) n' h' pc lv Cx) : V p l e R s m args below meth c nL d b Q cells slots n h pc lv stk := by
  intro H locs ls a1 a2 a4 a5 T hT X
  have hts := C.2.2.2.2.2.1
  have hlen : ∀ sig, parseMethodDescriptor yy.desc = some sig → As.length = sig.parameters.length := fun sig hsig => by
    have h9 := hy.2.2
    rw [hsig] at h9
    exact (Option.some.inj h9).symm
  obtain ⟨o, vm₁, B, hW₁, X', hpost, hgo⟩ := callIX (g := F0 m pc ls stk) (argsL := As) (rest := st) X C.1 C.2.2.2.2.1 hname (hts _ (hw (.methodLink y.cls index yy) (by simp))) (hts _ (hw (.instanceMethod yy) (by simp))) (hts _ hcm) ⟨hy.1, hy.2.1⟩
    (yBackX C hM hcm (hw (.initialized yy.cls) (by simp)) hR.1 hR.2.1) rfl (by rw [C.2.2.1]; exact a5.1) (a := a) hlen hs (by show 2 * 0 + _ ≤ 8; omega) (by rw [C.2.1]; exact hdg)
    (fun vm₁ hW₁ => ⟨hR.2.2.1, hR.2.2.2, rfl, yPre_now C a1 a2 a4 (U := T.setVm vm₁) hT hW₁⟩)
  exact yCall_go C a4 a5 hT X' hpost hgo kR kT
theorem V_callIN (C : yC p l s m args meth c y cc nL ret tb d b) {yy : MethodName} {bytes : ByteArray} {maxL fr lo mc0 ms0 index a : Nat} {host : String} {As stk : List Value} {post0 : Option Value → Nat → yH → Prop} {thr0 : String → Nat → yH → Prop}
    (hM : yM l yy bytes maxL none fr lo mc0 ms0 d b n h (.ref a :: As) post0 thr0) (hcm : Cond.code yy bytes maxL none ∈ yW) (hlink : Cond.methodLinkNest y.cls index yy host ∈ yNs) (hw : ∀ w ∈ [Cond.instanceMethod yy, .initialized yy.cls], w ∈ yW)
    (hy : yy.cls ≠ "java/lang/invoke/MethodHandle" ∧ yy.cls ≠ "java/lang/invoke/VarHandle" ∧ (parseMethodDescriptor yy.desc).map (fun d => d.parameters.length) = some As.length) (hname : yy.name = "<init>")
    (hR : fr + 1 ≤ R.frames ∧ 8 + (maxL + 11) + lo ≤ R.locals ∧ cells + mc0 ≤ R.cells ∧ slots + ms0 ≤ R.slots)
    (hs : stk = As.reverse ++ .ref a :: st) (hst : (st.map fun v => v.category).sum ≤ 8) (hdg : decode cc pc = .ok (.invokespecial index, 3))
    (kR : ∀ v n' h', post0 v n' h' → V p l e R s m args below meth c nL d b Q (cells + mc0) (slots + ms0) n' h' (pc + 3) lv (v.toList ++ st))
    (kT : ∀ Cx n' h', thr0 Cx n' h' → VT p l e R s m args below meth c nL d b Q (cells + mc0) (slots + ms0) n' h' pc lv Cx) : V p l e R s m args below meth c nL d b Q cells slots n h pc lv stk := by
  intro H locs ls a1 a2 a4 a5 T hT X
  have hts := C.2.2.2.2.2.1
  have hlen : ∀ sig, parseMethodDescriptor yy.desc = some sig → As.length = sig.parameters.length := fun sig hsig => by
    have h9 := hy.2.2
    rw [hsig] at h9
    exact (Option.some.inj h9).symm
  obtain ⟨o, vm₁, B, hW₁, X', hpost, hgo⟩ := callINX (g := F0 m pc ls stk) (argsL := As) (rest := st) X C.1 C.2.2.2.2.1 hname (va_Nw.use (yNs_on hlink) (C.2.2.2.2.2.2.2.2.1.1 _ hlink)) (hts _ (hw (.instanceMethod yy) (by simp))) (hts _ hcm) ⟨hy.1, hy.2.1⟩
    (yBackX C hM hcm (hw (.initialized yy.cls) (by simp)) hR.1 hR.2.1) rfl (by rw [C.2.2.1]; exact a5.1) (a := a) hlen hs (by show 2 * 0 + _ ≤ 8; omega) (by rw [C.2.1]; exact hdg)
    (fun vm₁ hW₁ => ⟨hR.2.2.1, hR.2.2.2, rfl, yPre_now C a1 a2 a4 (U := T.setVm vm₁) hT hW₁⟩)
  exact yCall_go C a4 a5 hT X' hpost hgo kR kT
end YV
/-- A CONTRACT OUT OF THE WALK OF ITS BODY -/
theorem yM_of {l : Launch} (hl : yL l) {y : MethodName} {cc : ByteArray} {maxL fr lo mc ms : Nat} {ret : Option FieldType} {d : yD} {b n : Nat} {h : yH} {As : List Value} {post : Option Value → Nat → yH → Prop} {thr : String → Nat → yH → Prop}
    (hy : plainName y.cls = true) (hA : (lg_sl As).length ≤ maxL)
    (body : ∀ (p : Program) (e : Env) (s : State) (m : MethodId) (args : Array Value) (below : List Frame) (meth : Method) (c : Code), yC p l s m args meth c y cc maxL ret [] d b → V p l e (yRm fr lo mc ms) s m args below meth c maxL d b (yEnd below s args d b post thr mc ms) 0 0 n h 0 (lv_args 0 As) []) :
    yM l y cc maxL ret fr lo mc ms d b n h As post thr := by
  unfold yM MX
  refine MetFree.of_bodyS (code := cc) (maxLocals := maxL) (ret := ret) hy ?_ ?_
  · intro args s m hh hn
    obtain ⟨meth, c, h1, h2, h3, h4, h5, h6, -, -⟩ := Cond.code_spec hn (atoms_spec (ws := .code y cc maxL ret :: yW) hh _ List.mem_cons_self)
    exact ⟨meth, c, h1, h2, h3, h4, h5, h6⟩
  · intro p e s m args below meth c s₁ B hml hP _
    have hh0 : s₁.heap = s.heap := by rw [B.state]; rfl
    obtain ⟨rfl, q1, q2, q4, q5⟩ := hP
    have hts := atoms_spec (ws := .code y cc maxL ret :: yW) B.pre
    have hex : c.exceptionTable.toList = [] := by
      have h9 := B.noHandlers (hts _ List.mem_cons_self)
      have h8 : c.exceptionTable.size = 0 := by simpa [Array.isEmpty] using h9
      exact List.eq_nil_of_length_eq_zero (by simpa using h8)
    have C : yC p l s m As.toArray meth c y cc maxL ret [] d b := ⟨B.exec, B.bytes, hml, B.returns, findClass_of_methodNamed B.named, fun w hw => hts w (List.mem_cons_of_mem _ hw), B.notSynchronized, q4, q5, by omega, (name_of_methodNamed B.named B.method).1, hex, hl⟩
    have K := body p e s m As.toArray below meth c C s.heap [] _ q1 q2 va_S.rf (lv_entry As hA)
    rw [← lg_entry_eq] at K
    obtain ⟨t, g1, o, g2, g3, g4⟩ := K s₁ hh0 (Stand.of_body B)
    exact ⟨t, o, g1, g2, g3, g4.1, g4.2⟩
end
