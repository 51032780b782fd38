/-! METHODS WITH A TABLE OF HANDLERS -/
def yMW (l : Launch) (y : MethodName) (cc : ByteArray) (maxL : Nat) (ret : Option FieldType) (hh : List (Nat × Nat × Nat × Nat)) (fr lo mc ms : Nat) (d : yD) (b n : Nat) (h : yH) (As : List Value) (post : Option Value → Nat → yH → Prop) (thr : String → Nat → yH → Prop) : Prop :=
  MX l y (.codeWith y cc maxL ret hh :: yW) (yRm fr lo mc ms) (va_Pc As (yPre d b n h)) (yQc d b post thr) mc ms (fun q => b ≤ q)
section YBackW
variable {l : Launch} {R : Room} {p : Program} {e : Env} {below : List Frame} {s : State} {sargs : Array Value} {y : MethodName} {len W : Nat}
set_option maxHeartbeats 1000000 in
theorem backX_ofW {ws : List Cond} {rm : Room} {Pc : Array Value → State → Prop} {Qc : Array Value → State → Outcome → State → Prop} {mc ms : Nat} {free : Addr → Prop} {bytes : ByteArray} {maxL : Nat} {ret : Option FieldType} {hh : List (Nat × Nat × Nat × Nat)}
    (hM : MX l y ws rm Pc Qc mc ms free) (hblind : FrameBlind Pc) (hrc : rm.cells = mc) (hrs : rm.slots = ms)
    (hframes : rm.frames + 1 ≤ R.frames) (hlocals : W + (maxL + 11) + rm.locals ≤ R.locals)
    (hws : ∀ w ∈ ws, ∀ a' U, s.WarmedH U.vm → w.before a' U = true) (hcode : Cond.codeWith y bytes maxL ret hh ∈ ws) (hinit : ∀ a' U, s.WarmedH U.vm → (Cond.initialized y.cls).before a' U = true) :
    BackX l R p e below s sargs y len W (PreOf R mc ms Pc) (PostX Qc mc ms free) := by
  intro m meth c A g ig mk a X hg hsize hdg hW hn hp
  obtain ⟨U, Ls, c0, s0⟩ := A
  dsimp only [Pt.U, Pt.locs, Pt.cells, Pt.slots] at X hn ⊢
  obtain ⟨h4, h5, hPc⟩ := hp
  dsimp only [Pt.U, Pt.locs, Pt.cells, Pt.slots] at h4 h5 hPc
  have h2 : (Cond.codeWith y bytes maxL ret hh).before a U = true := hws _ hcode _ _ X.warmed
  have h3 : (Cond.initialized y.cls).before a U = true := hinit _ _ X.warmed
  have h1 : (headSpec ws rm).pre.before a U = true := atoms_intro fun w hw => hws w hw _ _ X.warmed
  obtain ⟨mY9, methY, cY, hnY9, hmY, hcY, -, hlY, -⟩ := Cond.codeWith_spec h2
  cases Option.some.inj (hnY9.symm.trans hn)
  obtain ⟨kY, hkY, -⟩ := className_of_methodNamed hn
  have hinitY : kY.init = .initialized := Cond.initialized_spec (findClass_of_methodNamed hn) hkY h3
  have h : At U g.method c below := by rw [hg]; exact X.here
  have happ : (headSpec ws rm).appliesLoose y e.platform (U.calling g mk a) = true :=
    Spec.appliesLoose_calling (g := g) h hdg hn hkY hinitY
      (X.room_calling (g := g) (R' := rm) hsize hmY hcY hframes (by rw [hlY]; omega) (by rw [hrc]; exact h4) (by rw [hrs]; exact h5)) h1
  obtain ⟨mid, hmid⟩ := h.above
  have hfr : (U.setTop g).frames = (.java g :: mid) ++ below := by rw [State.frames_setTop' g h.top, hmid]; rfl
  obtain ⟨o, s₂, hsteps, -, hend, hq⟩ := Steps.callFree hM p X.admits X.cas X.clock (acts := []) hfr happ (hblind _ _ _ _ hPc) trivial
  have hq' : Qc a (U.calling g mk a) o s₂ ∧ ∃ L, FEX (U.calling g mk a) s₂ L mc ms ∧ ∀ q ∈ L, free q.base := hq
  obtain ⟨hqc, L, ⟨hW₂, hsm⟩, hL⟩ := hq'
  rw [State.frames_setTop' g h.top] at hend
  cases o with
  | threw x =>
    rw [X.tail] at hend
    obtain ⟨T', X', -, -, ht⟩ := X.outOfThrown hg (mk := mk) (a := a) hend hW₂ hsm
    refine ⟨.threw x, ⟨T', Ls ++ L, c0 + mc, s0 + ms⟩, X', ⟨g, mk, s₂, L, ?_, ?_, hqc, rfl, hL, rfl, rfl⟩, ?_⟩
    · rw [ht]; exact (Stand.throwing_heap T' g x).symm
    · rw [ht]; exact (Stand.throwing_vm T' g x).symm
    · show Steps p.tables e below _ ((T'.setTop g).pushFrame (.throwing x))
      rw [← ht]
      exact hsteps
  | returned v =>
    obtain ⟨e2, q2, q3, q4, q5, q6⟩ := hsm
    have e3 : s₂ = ({ (U.calling g mk a).setFrames s₂.frames with heap := s₂.heap, slotsUsed := s₂.slotsUsed } : State).setVm s₂.vm := by
      have : s₂ = ({ s₂ with vm := (U.calling g mk a).vm } : State).setVm s₂.vm := rfl
      rw [e2] at this
      exact this
    obtain ⟨c₂, i₂, len₂, hc₂, hd₂, hf₂⟩ := hend
    have hW' : U.WarmedH s₂.vm := hW₂
    have hcc : c₂ = c := by
      have h1 : s₂.code? g.method = U.code? g.method := by
        rw [State.code?_eq, State.code?_eq, hW'.alike.method?]
      exact Option.some.inj (hc₂.symm.trans (h1.trans h.code))
    subst hcc
    have hlen : len₂ = len := by rw [hdg] at hd₂; cases hd₂; rfl
    subst hlen
    obtain ⟨g₀, hg0⟩ := Option.isSome_iff_exists.mp h.top
    obtain ⟨r, hr⟩ := State.topJava?_eq_some.mp hg0
    have hs₂ : s₂ = (({ U with heap := s₂.heap, slotsUsed := s₂.slotsUsed } : State).setVm s₂.vm).setTop { g with pc := g.pc + len₂, stack := v.toList ++ g.stack } := by
      have hr' : (({ U with heap := s₂.heap, slotsUsed := s₂.slotsUsed } : State).setVm s₂.vm).frames = .java g₀ :: r := hr
      refine e3.trans ?_
      rw [hf₂, State.calling_eq h.top, State.setFrames_setFrames, State.setTop_of_frames _ hr', hr]
      rfl
    have hsame : U.sameButNew ({ U with heap := s₂.heap, slotsUsed := s₂.slotsUsed } : State) L mc ms := by
      refine ⟨?_, q2, q3, q4, q5, q6⟩
      obtain ⟨t, ht, -⟩ := State.frames_cons hr
      show ({ U with heap := s₂.heap, slotsUsed := s₂.slotsUsed } : State) = { U.setFrames U.frames with heap := s₂.heap, slotsUsed := s₂.slotsUsed }
      rw [State.setFrames_self ht]
    subst hg
    refine ⟨.returned v, ⟨(({ U with heap := s₂.heap, slotsUsed := s₂.slotsUsed } : State).setVm s₂.vm), Ls ++ L, c0 + mc, s0 + ms⟩,
      ⟨X.admits, X.cas, X.clock, X.frames, X.room, X.hears, X.method, X.code, (X.here.setHeapUsed s₂.heap s₂.slotsUsed).setVm hW'.alike, X.tail, State.WarmedH.trans X.warmed hW', X.limits, X.bytes, X.same.trans (hsame.setVm s.vm)⟩,
      ⟨g, mk, s₂, L, rfl, rfl, hqc, rfl, hL, rfl, rfl⟩, ?_⟩
    show Steps p.tables e below _ ((({ U with heap := s₂.heap, slotsUsed := s₂.slotsUsed } : State).setVm s₂.vm).setTop { g with pc := g.pc + len₂, stack := v.toList ++ g.stack })
    rw [← hs₂]
    exact hsteps
end YBackW
section YCallsW
variable {p : Program} {l : Launch} {e : Env} {R : Room} {s : State} {m : MethodId} {args : Array Value} {below : List Frame} {meth : Method} {c : Code} {T : State} {locs : List Loc} {cells slots : Nat}
variable {own C host : String} {index : Nat} {y : MethodName} {bytes : ByteArray} {maxL : Nat} {hh : List (Nat × Nat × Nat × Nat)} {ret : Option FieldType} {W : Nat} {Pre : Pt → Array Value → Prop} {Post : Pt → Array Value → Outcome → Pt → Prop} {g : JFrame} {argsL rest : List Value}
theorem callSXW (X : Stand p l e R s m args below meth c T locs cells slots) (hexec : p.tables.exec = Jvm.exec)
    (hown : s.vm.findClass own = some m.cls) (hlink : (Cond.methodLink own index y).before args s = true) (hstat : (Cond.static y).before args s = true) (hinit : (Cond.initialized y.cls).before args s = true)
    (hcode : (Cond.codeWith y bytes maxL ret hh).before args s = true) (hy : y.cls ≠ "java/lang/invoke/MethodHandle" ∧ y.cls ≠ "java/lang/invoke/VarHandle")
    (hK : BackX l R p e below s args y 3 W Pre Post)
    (hg : g.method = m) (hsize : g.locals.size = c.maxLocals) (hlen : ∀ sig, parseMethodDescriptor y.desc = some sig → argsL.length = sig.parameters.length)
    (hstack : g.stack = argsL.reverse ++ rest) (hW : 2 * g.monitorRoom + (rest.map fun v => v.category).sum ≤ W) (hdg : decode c.code g.pc = .ok (.invokestatic index, 3))
    (hpre : ∀ vm₁, s.WarmedH vm₁ → Pre ⟨T.setVm vm₁, locs, cells, slots⟩ argsL.toArray) :
    ∃ (o : Outcome) (vm₁ : Vm) (B : Pt), s.WarmedH vm₁ ∧ Stand p l e R s m args below meth c B.U B.locs B.cells B.slots ∧ Post ⟨T.setVm vm₁, locs, cells, slots⟩ argsL.toArray o B ∧
      yGo p e below (T.setTop g) B.U { g with stack := rest } 3 o := by
  obtain ⟨mk, methM, cM, hnamed, hmethM, -, -, -, -, -, -, hsigM⟩ := Cond.codeWith_spec hcode
  have hstatic : methM.isStatic = true := Cond.static_spec hnamed hmethM hstat
  obtain ⟨kP, hkP, -⟩ := className_of_methodNamed hnamed
  have hinitP : kP.init = .initialized := Cond.initialized_spec (findClass_of_methodNamed hnamed) hkP hinit
  obtain ⟨vm₁, X₁, hstep₁⟩ := X.invokestatic hexec hown hlink hnamed hmethM hstatic hkP hinitP hy (g := g) hg (argsL := argsL) (rest := rest) (hlen _ hsigM) hstack hdg
  obtain ⟨o, B, X', hpost, hsteps⟩ := hK m meth c ⟨T.setVm vm₁, locs, cells, slots⟩ { g with stack := rest } (.invokestatic index) mk argsL.toArray X₁ hg hsize hdg hW (X₁.named hnamed) (hpre vm₁ X₁.warmed)
  exact ⟨o, vm₁, B, X₁.warmed, X', hpost, hsteps.pre fun t h => hstep₁ _ fun acts => by rw [doInvoke_state]; exact h⟩
end YCallsW
section YVW
variable {p : Program} {l : Launch} {e : Env} {R : Room} {s : State} {m : MethodId} {args : Array Value} {below : List Frame} {meth : Method} {c : Code} {nL : Nat} {d : yD} {b : Nat} {Q : State → Prop} {cells slots n : Nat} {h : yH} {pc : Nat} {lv : List (Nat × Value)} {st : List Value}
variable {y : MethodName} {cc : ByteArray} {ret : Option FieldType} {tb : List ClassFile.ExceptionTableEntry}
theorem yBackXW (C : yC p l s m args meth c y cc nL ret tb d b) {yy : MethodName} {bytes : ByteArray} {hh : List (Nat × Nat × Nat × Nat)} {maxL fr lo mc0 ms0 : Nat} {ret0 : Option FieldType} {n0 : Nat} {h0 : yH} {As : List Value} {post0 : Option Value → Nat → yH → Prop} {thr0 : String → Nat → yH → Prop}
    (hM : yMW l yy bytes maxL ret0 hh fr lo mc0 ms0 d b n0 h0 As post0 thr0) (hcode : Cond.codeWith yy bytes maxL ret0 hh ∈ yW) (hini : Cond.initialized yy.cls ∈ yW) (hfr : fr + 1 ≤ R.frames) (hlo : 8 + (maxL + 11) + lo ≤ R.locals) :
    BackX l R p e below s args yy 3 8 (PreOf R mc0 ms0 (va_Pc As (yPre d b n0 h0))) (PostX (yQc d b post0 thr0) mc0 ms0 (fun q => b ≤ q)) :=
  backX_ofW (bytes := bytes) (maxL := maxL) (ret := ret0) (hh := hh) hM yBlind rfl rfl hfr hlo (yWords C hcode) List.mem_cons_self (fun a' U hW => word_at hW (yW_good hini) (C.2.2.2.2.2.1 _ hini))
theorem V_callSW (C : yC p l s m args meth c y cc nL ret tb d b) {yy : MethodName} {bytes : ByteArray} {hh : List (Nat × Nat × Nat × Nat)} {maxL fr lo mc0 ms0 index : Nat} {ret0 : Option FieldType} {As stk : List Value} {post0 : Option Value → Nat → yH → Prop} {thr0 : String → Nat → yH → Prop}
    (hM : yMW l yy bytes maxL ret0 hh fr lo mc0 ms0 d b n h As post0 thr0) (hcm : Cond.codeWith yy bytes maxL ret0 hh ∈ yW) (hw : ∀ w ∈ [Cond.methodLink y.cls index yy, .static yy, .initialized yy.cls], w ∈ yW)
    (hy : yy.cls ≠ "java/lang/invoke/MethodHandle" ∧ yy.cls ≠ "java/lang/invoke/VarHandle" ∧ (parseMethodDescriptor yy.desc).map (fun d => d.parameters.length) = some As.length)
    (hR : fr + 1 ≤ R.frames ∧ 8 + (maxL + 11) + lo ≤ R.locals ∧ cells + mc0 ≤ R.cells ∧ slots + ms0 ≤ R.slots)
    (hs : stk = As.reverse ++ st) (hst : (st.map fun v => v.category).sum ≤ 8) (hdg : decode cc pc = .ok (.invokestatic index, 3))
    (kR : ∀ v n' h', post0 v n' h' → V p l e R s m args below meth c nL d b Q (cells + mc0) (slots + ms0) n' h' (pc + 3) lv (v.toList ++ st))
    (kT : ∀ Cx n' h', thr0 Cx n' h' → VT p l e R s m args below meth c nL d b Q (cells + mc0) (slots + ms0) n' h' pc lv Cx) : V p l e R s m args below meth c nL d b Q cells slots n h pc lv stk := by
  intro H locs ls a1 a2 a4 a5 T hT X
  have hts := C.2.2.2.2.2.1
  have hlen : ∀ sig, parseMethodDescriptor yy.desc = some sig → As.length = sig.parameters.length := fun sig hsig => by
    have h9 := hy.2.2
    rw [hsig] at h9
    exact (Option.some.inj h9).symm
  obtain ⟨o, vm₁, B, hW₁, X', hpost, hgo⟩ := callSXW (g := F0 m pc ls stk) (argsL := As) (rest := st) X C.1 C.2.2.2.2.1 (hts _ (hw (.methodLink y.cls index yy) (by simp))) (hts _ (hw (.static yy) (by simp))) (hts _ (hw (.initialized yy.cls) (by simp))) (hts _ hcm) ⟨hy.1, hy.2.1⟩
    (yBackXW C hM hcm (hw (.initialized yy.cls) (by simp)) hR.1 hR.2.1) rfl (by rw [C.2.2.1]; exact a5.1) hlen hs (by show 2 * 0 + _ ≤ 8; omega) (by rw [C.2.1]; exact hdg)
    (fun vm₁ hW₁ => ⟨hR.2.2.1, hR.2.2.2, rfl, yPre_now C a1 a2 a4 (U := T.setVm vm₁) hT hW₁⟩)
  exact yCall_go C a4 a5 hT X' hpost hgo kR kT
end YVW
/-- A CONTRACT OUT OF THE WALK OF ITS BODY -/
theorem yM_ofW {l : Launch} (hl : yL l) {y : MethodName} {cc : ByteArray} {maxL fr lo mc ms : Nat} {ret : Option FieldType} {hh : List (Nat × Nat × Nat × Nat)} {d : yD} {b n : Nat} {h : yH} {As : List Value} {post : Option Value → Nat → yH → Prop} {thr : String → Nat → yH → Prop}
    (hy : plainName y.cls = true) (hA : (lg_sl As).length ≤ maxL)
    (body : ∀ (p : Program) (e : Env) (s : State) (m : MethodId) (args : Array Value) (below : List Frame) (meth : Method) (c : Code), yC p l s m args meth c y cc maxL ret (tableOf hh) d b → V p l e (yRm fr lo mc ms) s m args below meth c maxL d b (yEnd below s args d b post thr mc ms) 0 0 n h 0 (lv_args 0 As) []) :
    yMW l y cc maxL ret hh fr lo mc ms d b n h As post thr := by
  unfold yMW MX
  refine MetFree.of_bodyS (code := cc) (maxLocals := maxL) (ret := ret) hy ?_ ?_
  · intro args s m hh0 hn
    obtain ⟨m9, meth, c, h0, h1, h2, h3, h4, -, h5, h6, -⟩ := Cond.codeWith_spec (atoms_spec (ws := .codeWith y cc maxL ret hh :: yW) hh0 _ List.mem_cons_self)
    cases Option.some.inj (h0.symm.trans hn)
    exact ⟨meth, c, h1, h2, h3, h4, h5, h6⟩
  · intro p e s m args below meth c s₁ B hml hP _
    have hh0 : s₁.heap = s.heap := by rw [B.state]; rfl
    obtain ⟨rfl, q1, q2, q4, q5⟩ := hP
    have hts := atoms_spec (ws := .codeWith y cc maxL ret hh :: yW) B.pre
    have hex : c.exceptionTable.toList = tableOf hh := vx_table (x := y) B (hts _ List.mem_cons_self)
    have C : yC p l s m As.toArray meth c y cc maxL ret (tableOf hh) d b := ⟨B.exec, B.bytes, hml, B.returns, findClass_of_methodNamed B.named, fun w hw => hts w (List.mem_cons_of_mem _ hw), B.notSynchronized, q4, q5, by omega, (name_of_methodNamed B.named B.method).1, hex, hl⟩
    have K := body p e s m As.toArray below meth c C s.heap [] _ q1 q2 va_S.rf (lv_entry As hA)
    rw [← lg_entry_eq] at K
    obtain ⟨t, g1, o, g2, g3, g4⟩ := K s₁ hh0 (Stand.of_body B)
    exact ⟨t, o, g1, g2, g3, g4.1, g4.2⟩

theorem xk_ : ∀ E ∈ yEx, Cond.castable E E ∈ yNs := by decide +kernel
theorem xl_S : Cond.classLink "YearFractionsLaw" 13 xnS ∈ yW := (yW_m (lm_1 120 rfl) rfl)
theorem xl_A : Cond.classLink "YearFractionsLaw" 15 xnA ∈ yW := (yW_m (lm_1 121 rfl) rfl)
theorem xl_I : Cond.classLink "YearFractionsLaw" 21 xnI ∈ yW := (yW_m (lm_1 227 rfl) rfl)
theorem xl_M : Cond.classLink "YearFractionsLaw" 26 xnM ∈ yW := (yW_m (lm_2 48 rfl) rfl)
/-- the classes that the law's handlers name -/
def xc_ (k : Nat) : String := if k = 13 then xnS else if k = 15 then xnA else if k = 21 then xnI else xnM
section YCatch
variable {p : Program} {l : Launch} {e : Env} {R : Room} {s : State} {m : MethodId} {args : Array Value} {below : List Frame} {meth : Method} {c : Code} {nL : Nat} {d : yD} {b : Nat} {Q : State → Prop} {cells slots n : Nat} {h : yH} {pc : Nat} {lv : List (Nat × Value)} {st : List Value}
variable {y : MethodName} {cc : ByteArray} {ret : Option FieldType} {tb : List ClassFile.ExceptionTableEntry}

/-- caught by the row x of this method's table; the rows ahead don't take it -/
theorem VT_catch (C : yC p l s m args meth c y cc nL ret tb d b) (pre : List ClassFile.ExceptionTableEntry) (x : ClassFile.ExceptionTableEntry) (suf : List ClassFile.ExceptionTableEntry) {Cx : String} (hsplit : tb = pre ++ x :: suf) (hCx : Cx ∈ yEx)
    (hpass : ∀ z ∈ pre, z.catchType ≠ 0 ∧ ∃ nm ∈ yEx, Cond.classLink y.cls z.catchType nm ∈ yW ∧ Cx ≠ nm) (hx : covers x pc = true) (h0 : x.catchType ≠ 0)
    (hlink : Cond.classLink y.cls x.catchType Cx ∈ yW) (kk : ∀ a, V p l e R s m args below meth c nL d b Q cells slots n h x.handlerPc lv [.ref a]) : VT p l e R s m args below meth c nL d b Q cells slots n h pc lv Cx := by
  intro H locs ls st a a1 a2 a4 a5 ⟨ce, g1, g2, g3⟩ T hT X
  have hG := C.2.2.2.2.2.2.2.2.1
  have hts := C.2.2.2.2.2.1
  have hown := C.2.2.2.2.1
  have hpl : e.platform.magicAccessors = ({} : Platform).magicAccessors := by rw [X.admits.platform]
  have hcast : (Cond.castable Cx Cx).before args s = true := va_Nw.use (yNs_on (xk_ Cx hCx)) (hG.1 _ (xk_ Cx hCx))
  obtain ⟨c3, c4, hc3, hc4, hasg⟩ := Cond.castable_spec hcast
  cases Option.some.inj (hc3.symm.trans g3)
  obtain ⟨c5, hc5, hcl5⟩ := Cond.classLink_spec hown (hts _ hlink) e.platform hpl
  cases Option.some.inj (hc4.symm.trans hc5)
  obtain ⟨vm', X', st⟩ := X.thenCaughtThrough a (g := F0 m pc ls st) rfl (Steps.refl _) (by rw [hT]; exact g1) g2 (by obtain ⟨k9, h9, -⟩ := Vm.findClass_spec g3; exact ⟨k9, h9⟩) pre x suf (by rw [C.2.2.2.2.2.2.2.2.2.2.2.1]; exact hsplit)
    (fun z hz => by
      obtain ⟨hz0, nm, hnm, hl1, hn1⟩ := hpass z hz
      obtain ⟨c6, hc6, hcl6⟩ := Cond.classLink_spec hown (hts _ hl1) e.platform hpl
      obtain ⟨a8, b8, h1, h2, h3⟩ := hG.2.2.2.2.2.2 Cx hCx nm hnm hn1
      cases Option.some.inj (h1.symm.trans g3)
      cases Option.some.inj (h2.symm.trans hc6)
      exact Or.inr ⟨hz0, _, hcl6, h3⟩) hx (Or.inr ⟨h0, c4, hcl5, hasg⟩)
  obtain ⟨t, b1, b2⟩ := kk a H locs ls a1 a2 a4 a5 (T.setVm vm') hT X'
  exact ⟨t, st.trans b1, b2⟩
end YCatch
