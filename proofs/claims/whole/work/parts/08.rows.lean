/-! THE WORLD: cells from b on, by their places; h k = none: nothing is known of the cell b + k -/
abbrev yH : Type := Nat → Option va_E
def yP (D : va_G) (b : Nat) (h : yH) (H : Heap) : Prop := ∀ (k : Nat) (e : va_E), h k = some e → va_at D vwCl (b + k, e) H
def hs (h : yH) (k : Nat) (e : va_E) : yH := fun j => if j = k then some e else h j
theorem hs_eq (h : yH) (k : Nat) (e : va_E) : hs h k e k = some e := by simp [hs]
theorem hs_ne (h : yH) {k j : Nat} (e : va_E) (hn : j ≠ k) : hs h k e j = h j := by simp [hs, hn]
def oI (d : yD) (n : Nat) (F : Nat → Int) : va_E := .inl (d.2.1 0, n, .inl (fun i => iI (F i)))
def oJ (d : yD) (n : Nat) (F : Nat → Int) : va_E := .inl (d.2.1 1, n, .inr (.inl (fun i => jI (F i))))
def oZ (d : yD) (n : Nat) (F : Nat → Int) : va_E := .inl (d.2.1 2, n, .inl (fun i => iI (F i)))
def oA (d : yD) (t n : Nat) (g : Nat → Option Nat) : va_E := .inl (d.2.1 t, n, .inr (.inr (.inr (.inr g))))
abbrev oO (ci : Nat) (fs : List Value) : va_E := .inr (ci, fs)
def fu {α : Type} (f : Nat → α) (k : Nat) (x : α) : Nat → α := fun j => if j = k then x else f j
theorem fu_eq {α : Type} (f : Nat → α) (k : Nat) (x : α) : fu f k x k = x := by simp [fu]
theorem fu_ne {α : Type} (f : Nat → α) {k j : Nat} (x : α) (h : j ≠ k) : fu f k x j = f j := by simp [fu, h]
/-- what a method finds -/
def yPre (d : yD) (b n : Nat) (h : yH) (U : State) : Prop := U.heap.size = b + n ∧ yP d.1 b h U.heap ∧ va_K d.1 vwCl (yT d) U ∧ yG d b U
def yThr (C : String) (a : Nat) (t : State) : Prop := ∃ cell : Cell, t.heap[a]? = some cell ∧ cell.vm.isStatics = false ∧ t.vm.findClass C = some cell.cls
def yOut (post : Option Value → Nat → yH → Prop) (thr : String → Nat → yH → Prop) (n : Nat) (h : yH) (t : State) : Outcome → Prop
  | .returned v => post v n h
  | .threw a => ∃ C, thr C n h ∧ yThr C a t
def yQc (d : yD) (b : Nat) (post : Option Value → Nat → yH → Prop) (thr : String → Nat → yH → Prop) : Array Value → State → Outcome → State → Prop := fun _ st o t =>
  ∃ (n : Nat) (h : yH), yPre d b n h t ∧ va_F (fun q => b ≤ q) st t ∧ yOut post thr n h t o
abbrev yRm (fr lo mc ms : Nat) : Room := { frames := fr, cells := mc, slots := ms, locals := lo }
/-- A CONTRACT -/
def yM (l : Launch) (y : MethodName) (cc : ByteArray) (maxL : Nat) (ret : Option FieldType) (fr lo mc ms : Nat) (d : yD) (b n : Nat) (h : yH) (As : List Value) (post : Option Value → Nat → yH → Prop) (thr : String → Nat → yH → Prop) : Prop :=
  MX l y (.code y cc maxL ret :: yW) (yRm fr lo mc ms) (va_Pc As (yPre d b n h)) (yQc d b post thr) mc ms (fun q => b ≤ q)
abbrev noT : String → Nat → yH → Prop := fun _ _ _ => False
def yEnd (below : List Frame) (s : State) (args : Array Value) (d : yD) (b : Nat) (post : Option Value → Nat → yH → Prop) (thr : String → Nat → yH → Prop) (mc ms : Nat) : State → Prop := fun t =>
  ∃ o, t.status = .running ∧ Ended t below o ∧ yQc d b post thr args s o t ∧ ∃ L, FEX s t L mc ms ∧ ∀ q ∈ L, b ≤ q.base
/-- what stands throughout a method -/
def yC (p : Program) (l : Launch) (s : State) (m : MethodId) (args : Array Value) (meth : Method) (c : Code) (y : MethodName) (cc : ByteArray) (nL : Nat) (ret : Option FieldType) (tb : List ClassFile.ExceptionTableEntry) (d : yD) (b : Nat) : Prop :=
  p.tables.exec = Jvm.exec ∧ c.code = cc ∧ c.maxLocals = nL ∧ meth.sig.returnType = ret ∧ s.vm.findClass y.cls = some m.cls ∧ (∀ w ∈ yW, w.before args s = true) ∧ meth.locks = false ∧ va_K d.1 vwCl (yT d) s ∧ yG d b s ∧ b ≤ s.heap.size ∧ meth.name = y.name ∧ c.exceptionTable.toList = tb ∧ yL l
def V (p : Program) (l : Launch) (e : Env) (R : Room) (s : State) (m : MethodId) (args : Array Value) (below : List Frame) (meth : Method) (c : Code) (nL : Nat) (d : yD) (b : Nat) (Q : State → Prop) (cells slots n : Nat) (h : yH) (pc : Nat) (lv : List (Nat × Value)) (st : List Value) : Prop :=
  ∀ (H : Heap) (locs : List Loc) (ls : Array Slot), H.size = b + n → yP d.1 b h H → va_S (fun q => b ≤ q) s.heap H locs → lv_has ls nL lv → W p l e R s m args below meth c H locs cells slots Q (F0 m pc ls st)
section YV
variable {p : Program} {l : Launch} {e : Env} {R : Room} {s : State} {m : MethodId} {args : Array Value} {below : List Frame} {meth : Method} {c : Code} {nL : Nat} {d : yD} {b : Nat} {Q : State → Prop} {cells slots n : Nat} {h : yH} {pc : Nat} {lv : List (Nat × Value)} {st : List Value}
variable {y : MethodName} {cc : ByteArray} {ret : Option FieldType} {tb : List ClassFile.ExceptionTableEntry}
theorem V_loc {lv' : List (Nat × Value)} (hl : lsub lv' lv) (k : V p l e R s m args below meth c nL d b Q cells slots n h pc lv' st) : V p l e R s m args below meth c nL d b Q cells slots n h pc lv st :=
  fun H locs ls h1 h2 h4 h5 => k H locs ls h1 h2 h4 (lsub_has h5 hl)
theorem V_heap {h' : yH} (hh : ∀ k e, h' k = some e → h k = some e) (k : V p l e R s m args below meth c nL d b Q cells slots n h' pc lv st) : V p l e R s m args below meth c nL d b Q cells slots n h pc lv st :=
  fun H locs ls h1 h2 h4 h5 => k H locs ls h1 (fun j e0 he => h2 j e0 (hh j e0 he)) h4 h5
theorem V_pc {pc' : Nat} (hp : pc = pc') (k : V p l e R s m args below meth c nL d b Q cells slots n h pc' lv st) : V p l e R s m args below meth c nL d b Q cells slots n h pc lv st := hp ▸ k
theorem V_widen {k0 n0 : Nat} (h1 : cells ≤ k0) (h2 : slots ≤ n0) (k : V p l e R s m args below meth c nL d b Q k0 n0 n h pc lv st) : V p l e R s m args below meth c nL d b Q cells slots n h pc lv st :=
  fun H locs ls a1 a2 a4 a5 => W.widen (k := k0) (n := n0) h1 h2 (k H locs ls a1 a2 a4 a5)
-- constants
theorem V_iconst (C : yC p l s m args meth c y cc nL ret tb d b) {k : Int} {z : Int} (hdg : decode cc pc = .ok (.iconst k, 1)) (hz : k = z) (kk : V p l e R s m args below meth c nL d b Q cells slots n h (pc + 1) lv (vi z :: st)) : V p l e R s m args below meth c nL d b Q cells slots n h pc lv st := by
  subst hz
  exact fun H locs ls a1 a2 a4 a5 => lv_iconst (v := iI k) C.1 C.2.1 hdg rfl (kk H locs ls a1 a2 a4 a5)
theorem V_bipush (C : yC p l s m args meth c y cc nL ret tb d b) {k : Int} {z : Int} (hdg : decode cc pc = .ok (.bipush k, 2)) (hz : (Int8.ofInt k).toInt32 = iI z) (kk : V p l e R s m args below meth c nL d b Q cells slots n h (pc + 2) lv (vi z :: st)) : V p l e R s m args below meth c nL d b Q cells slots n h pc lv st :=
  fun H locs ls a1 a2 a4 a5 => lv_bipush C.1 C.2.1 hdg hz (kk H locs ls a1 a2 a4 a5)
theorem V_sipush (C : yC p l s m args meth c y cc nL ret tb d b) {k : Int} {z : Int} (hdg : decode cc pc = .ok (.sipush k, 3)) (hz : (Int16.ofInt k).toInt32 = iI z) (kk : V p l e R s m args below meth c nL d b Q cells slots n h (pc + 3) lv (vi z :: st)) : V p l e R s m args below meth c nL d b Q cells slots n h pc lv st :=
  fun H locs ls a1 a2 a4 a5 => lv_sipush C.1 C.2.1 hdg hz (kk H locs ls a1 a2 a4 a5)
theorem V_lconst (C : yC p l s m args meth c y cc nL ret tb d b) {k : Fin 2} {z : Int} (hdg : decode cc pc = .ok (.lconst k, 1)) (hz : Int64.ofNat (k : Nat) = jI z) (kk : V p l e R s m args below meth c nL d b Q cells slots n h (pc + 1) lv (vj z :: st)) : V p l e R s m args below meth c nL d b Q cells slots n h pc lv st :=
  fun H locs ls a1 a2 a4 a5 => lv_lconst C.1 C.2.1 hdg hz (kk H locs ls a1 a2 a4 a5)
-- locals
theorem V_iload_n (C : yC p l s m args meth c y cc nL ret tb d b) {k : Fin 4} {i : Nat} {x : Int} (hdg : decode cc pc = .ok (.iload_n k, 1)) (hi : (k : Nat) = i) (hl : lk lv i = some (vi x)) (kk : V p l e R s m args below meth c nL d b Q cells slots n h (pc + 1) lv (vi x :: st)) : V p l e R s m args below meth c nL d b Q cells slots n h pc lv st :=
  fun H locs ls a1 a2 a4 a5 => lv_iload_n C.1 C.2.1 hdg hi (lk_has a5 hl) (kk H locs ls a1 a2 a4 a5)
theorem V_iload (C : yC p l s m args meth c y cc nL ret tb d b) {i : Nat} {x : Int} (hdg : decode cc pc = .ok (.iload i, 2)) (hl : lk lv i = some (vi x)) (kk : V p l e R s m args below meth c nL d b Q cells slots n h (pc + 2) lv (vi x :: st)) : V p l e R s m args below meth c nL d b Q cells slots n h pc lv st :=
  fun H locs ls a1 a2 a4 a5 => lv_iload C.1 C.2.1 hdg (lk_has a5 hl) (kk H locs ls a1 a2 a4 a5)
theorem V_lload_n (C : yC p l s m args meth c y cc nL ret tb d b) {k : Fin 4} {i : Nat} {x : Int} (hdg : decode cc pc = .ok (.lload_n k, 1)) (hi : (k : Nat) = i) (hl : lk lv i = some (vj x)) (kk : V p l e R s m args below meth c nL d b Q cells slots n h (pc + 1) lv (vj x :: st)) : V p l e R s m args below meth c nL d b Q cells slots n h pc lv st :=
  fun H locs ls a1 a2 a4 a5 => lv_lload_n C.1 C.2.1 hdg hi (lk_has a5 hl) (kk H locs ls a1 a2 a4 a5)
theorem V_lload (C : yC p l s m args meth c y cc nL ret tb d b) {i : Nat} {x : Int} (hdg : decode cc pc = .ok (.lload i, 2)) (hl : lk lv i = some (vj x)) (kk : V p l e R s m args below meth c nL d b Q cells slots n h (pc + 2) lv (vj x :: st)) : V p l e R s m args below meth c nL d b Q cells slots n h pc lv st :=
  fun H locs ls a1 a2 a4 a5 => lv_lload C.1 C.2.1 hdg (lk_has a5 hl) (kk H locs ls a1 a2 a4 a5)
theorem V_aload_n (C : yC p l s m args meth c y cc nL ret tb d b) {k : Fin 4} {i : Nat} {x : Nat} (hdg : decode cc pc = .ok (.aload_n k, 1)) (hi : (k : Nat) = i) (hl : lk lv i = some (.ref x)) (kk : V p l e R s m args below meth c nL d b Q cells slots n h (pc + 1) lv (.ref x :: st)) : V p l e R s m args below meth c nL d b Q cells slots n h pc lv st :=
  fun H locs ls a1 a2 a4 a5 => lv_aload_n C.1 C.2.1 hdg hi (lk_has a5 hl) (kk H locs ls a1 a2 a4 a5)
theorem V_aload (C : yC p l s m args meth c y cc nL ret tb d b) {i : Nat} {x : Nat} (hdg : decode cc pc = .ok (.aload i, 2)) (hl : lk lv i = some (.ref x)) (kk : V p l e R s m args below meth c nL d b Q cells slots n h (pc + 2) lv (.ref x :: st)) : V p l e R s m args below meth c nL d b Q cells slots n h pc lv st :=
  fun H locs ls a1 a2 a4 a5 => lv_aload C.1 C.2.1 hdg (lk_has a5 hl) (kk H locs ls a1 a2 a4 a5)
def ls1 (lv : List (Nat × Value)) (i : Nat) (v : Value) : List (Nat × Value) := (i, v) :: lv.filter (fun q => !(q.1 == i) && !(q.1 + 1 == i && q.2.category == 2))
def ls2 (lv : List (Nat × Value)) (i : Nat) (v : Value) : List (Nat × Value) := (i, v) :: lv.filter (fun q => !(q.1 == i) && (!(q.1 == i + 1) && !(q.1 + 1 == i && q.2.category == 2)))
theorem V_istore_n (C : yC p l s m args meth c y cc nL ret tb d b) {k : Fin 4} {i : Nat} {x : Int} {lv' : List (Nat × Value)} (hdg : decode cc pc = .ok (.istore_n k, 1)) (hi : (k : Nat) = i) (hn : i < nL) (hl : ls1 lv i (vi x) = lv') (kk : V p l e R s m args below meth c nL d b Q cells slots n h (pc + 1) lv' st) : V p l e R s m args below meth c nL d b Q cells slots n h pc lv (vi x :: st) :=
  fun H locs ls a1 a2 a4 a5 => lv_istore_n C.1 C.2.1 hdg hi a5 hn hl (fun ls' a6 => kk H locs ls' a1 a2 a4 a6)
theorem V_istore (C : yC p l s m args meth c y cc nL ret tb d b) {i : Nat} {x : Int} {lv' : List (Nat × Value)} (hdg : decode cc pc = .ok (.istore i, 2)) (hn : i < nL) (hl : ls1 lv i (vi x) = lv') (kk : V p l e R s m args below meth c nL d b Q cells slots n h (pc + 2) lv' st) : V p l e R s m args below meth c nL d b Q cells slots n h pc lv (vi x :: st) :=
  fun H locs ls a1 a2 a4 a5 => lv_istore C.1 C.2.1 hdg a5 hn hl (fun ls' a6 => kk H locs ls' a1 a2 a4 a6)
theorem V_astore_n (C : yC p l s m args meth c y cc nL ret tb d b) {k : Fin 4} {i : Nat} {x : Nat} {lv' : List (Nat × Value)} (hdg : decode cc pc = .ok (.astore_n k, 1)) (hi : (k : Nat) = i) (hn : i < nL) (hl : ls1 lv i (.ref x) = lv') (kk : V p l e R s m args below meth c nL d b Q cells slots n h (pc + 1) lv' st) : V p l e R s m args below meth c nL d b Q cells slots n h pc lv (.ref x :: st) :=
  fun H locs ls a1 a2 a4 a5 => lv_astore_n C.1 C.2.1 hdg hi a5 hn hl (fun ls' a6 => kk H locs ls' a1 a2 a4 a6)
theorem V_astore (C : yC p l s m args meth c y cc nL ret tb d b) {i : Nat} {x : Nat} {lv' : List (Nat × Value)} (hdg : decode cc pc = .ok (.astore i, 2)) (hn : i < nL) (hl : ls1 lv i (.ref x) = lv') (kk : V p l e R s m args below meth c nL d b Q cells slots n h (pc + 2) lv' st) : V p l e R s m args below meth c nL d b Q cells slots n h pc lv (.ref x :: st) :=
  fun H locs ls a1 a2 a4 a5 => lv_astore C.1 C.2.1 hdg a5 hn hl (fun ls' a6 => kk H locs ls' a1 a2 a4 a6)
theorem V_lstore_n (C : yC p l s m args meth c y cc nL ret tb d b) {k : Fin 4} {i : Nat} {x : Int} {lv' : List (Nat × Value)} (hdg : decode cc pc = .ok (.lstore_n k, 1)) (hi : (k : Nat) = i) (hn : i + 1 < nL) (hl : ls2 lv i (vj x) = lv') (kk : V p l e R s m args below meth c nL d b Q cells slots n h (pc + 1) lv' st) : V p l e R s m args below meth c nL d b Q cells slots n h pc lv (vj x :: st) :=
  fun H locs ls a1 a2 a4 a5 => lv_lstore_n C.1 C.2.1 hdg hi a5 hn hl (fun ls' a6 => kk H locs ls' a1 a2 a4 a6)
theorem V_lstore (C : yC p l s m args meth c y cc nL ret tb d b) {i : Nat} {x : Int} {lv' : List (Nat × Value)} (hdg : decode cc pc = .ok (.lstore i, 2)) (hn : i + 1 < nL) (hl : ls2 lv i (vj x) = lv') (kk : V p l e R s m args below meth c nL d b Q cells slots n h (pc + 2) lv' st) : V p l e R s m args below meth c nL d b Q cells slots n h pc lv (vj x :: st) :=
  fun H locs ls a1 a2 a4 a5 => lv_lstore C.1 C.2.1 hdg a5 hn hl (fun ls' a6 => kk H locs ls' a1 a2 a4 a6)
theorem V_iinc (C : yC p l s m args meth c y cc nL ret tb d b) {i : Nat} {k x z : Int} {lv' : List (Nat × Value)} (hdg : decode cc pc = .ok (.iinc i k, 3)) (hx : lk lv i = some (vi x)) (hz : x + k = z) (hn : i < nL) (hl : ls1 lv i (vi z) = lv') (kk : V p l e R s m args below meth c nL d b Q cells slots n h (pc + 3) lv' st) : V p l e R s m args below meth c nL d b Q cells slots n h pc lv st := by
  intro H locs ls a1 a2 a4 a5
  obtain ⟨j, hj⟩ := List.getElem?_of_mem (lk_mem hx)
  exact lv_iinc (v := iI z) C.1 C.2.1 hdg a5 (k := j) hj (by rw [← hz]; exact iI_add x k) hn hl (fun ls' a6 => kk H locs ls' a1 a2 a4 a6)
-- the operand stack
theorem V_dup (C : yC p l s m args meth c y cc nL ret tb d b) {v : Value} (hdg : decode cc pc = .ok (.dup, 1)) (hv : v.category = 1) (kk : V p l e R s m args below meth c nL d b Q cells slots n h (pc + 1) lv (v :: v :: st)) : V p l e R s m args below meth c nL d b Q cells slots n h pc lv (v :: st) :=
  fun H locs ls a1 a2 a4 a5 => lv_dup C.1 C.2.1 hdg hv (kk H locs ls a1 a2 a4 a5)
theorem V_dup2_11 (C : yC p l s m args meth c y cc nL ret tb d b) {v w : Value} (hdg : decode cc pc = .ok (.dup2, 1)) (hv : v.category = 1) (hw : w.category = 1) (kk : V p l e R s m args below meth c nL d b Q cells slots n h (pc + 1) lv (v :: w :: v :: w :: st)) : V p l e R s m args below meth c nL d b Q cells slots n h pc lv (v :: w :: st) :=
  fun H locs ls a1 a2 a4 a5 => lv_dup2_11 C.1 C.2.1 hdg hv hw (kk H locs ls a1 a2 a4 a5)
theorem V_dup_x1 (C : yC p l s m args meth c y cc nL ret tb d b) {v w : Value} (hdg : decode cc pc = .ok (.dup_x1, 1)) (hv : v.category = 1) (hw : w.category = 1) (kk : V p l e R s m args below meth c nL d b Q cells slots n h (pc + 1) lv (v :: w :: v :: st)) : V p l e R s m args below meth c nL d b Q cells slots n h pc lv (v :: w :: st) :=
  fun H locs ls a1 a2 a4 a5 => lv_dup_x1 C.1 C.2.1 hdg hv hw (kk H locs ls a1 a2 a4 a5)
theorem V_pop (C : yC p l s m args meth c y cc nL ret tb d b) {v : Value} (hdg : decode cc pc = .ok (.pop, 1)) (hv : v.category = 1) (kk : V p l e R s m args below meth c nL d b Q cells slots n h (pc + 1) lv st) : V p l e R s m args below meth c nL d b Q cells slots n h pc lv (v :: st) :=
  fun H locs ls a1 a2 a4 a5 => lv_pop C.1 C.2.1 hdg hv (kk H locs ls a1 a2 a4 a5)
-- arithmetic
theorem V_iadd (C : yC p l s m args meth c y cc nL ret tb d b) {x z : Int} (hdg : decode cc pc = .ok (.iadd, 1)) (kk : V p l e R s m args below meth c nL d b Q cells slots n h (pc + 1) lv (vi (x + z) :: st)) : V p l e R s m args below meth c nL d b Q cells slots n h pc lv (vi z :: vi x :: st) :=
  fun H locs ls a1 a2 a4 a5 => lv_iadd C.1 C.2.1 hdg (by rw [iI_add]; exact kk H locs ls a1 a2 a4 a5)
theorem V_isub (C : yC p l s m args meth c y cc nL ret tb d b) {x z : Int} (hdg : decode cc pc = .ok (.isub, 1)) (kk : V p l e R s m args below meth c nL d b Q cells slots n h (pc + 1) lv (vi (x - z) :: st)) : V p l e R s m args below meth c nL d b Q cells slots n h pc lv (vi z :: vi x :: st) :=
  fun H locs ls a1 a2 a4 a5 => lv_isub C.1 C.2.1 hdg (by rw [iI_sub]; exact kk H locs ls a1 a2 a4 a5)
theorem V_imul (C : yC p l s m args meth c y cc nL ret tb d b) {x z : Int} (hdg : decode cc pc = .ok (.imul, 1)) (kk : V p l e R s m args below meth c nL d b Q cells slots n h (pc + 1) lv (vi (x * z) :: st)) : V p l e R s m args below meth c nL d b Q cells slots n h pc lv (vi z :: vi x :: st) :=
  fun H locs ls a1 a2 a4 a5 => lv_imul C.1 C.2.1 hdg (by rw [iI_mul]; exact kk H locs ls a1 a2 a4 a5)
theorem V_ineg (C : yC p l s m args meth c y cc nL ret tb d b) {x : Int} (hdg : decode cc pc = .ok (.ineg, 1)) (kk : V p l e R s m args below meth c nL d b Q cells slots n h (pc + 1) lv (vi (-x) :: st)) : V p l e R s m args below meth c nL d b Q cells slots n h pc lv (vi x :: st) :=
  fun H locs ls a1 a2 a4 a5 => lv_ineg C.1 C.2.1 hdg (by rw [iI_neg]; exact kk H locs ls a1 a2 a4 a5)
theorem V_idiv (C : yC p l s m args meth c y cc nL ret tb d b) {x z : Int} (hdg : decode cc pc = .ok (.idiv, 1)) (hx : inI x) (hz : inI z) (h0 : z ≠ 0) (kk : V p l e R s m args below meth c nL d b Q cells slots n h (pc + 1) lv (vi (x.tdiv z) :: st)) : V p l e R s m args below meth c nL d b Q cells slots n h pc lv (vi z :: vi x :: st) :=
  fun H locs ls a1 a2 a4 a5 => lv_idiv C.1 C.2.1 hdg (fun q => h0 ((iI_eq hz inI_0).mp q)) (by rw [iI_div hx hz]; exact kk H locs ls a1 a2 a4 a5)
theorem V_irem (C : yC p l s m args meth c y cc nL ret tb d b) {x z : Int} (hdg : decode cc pc = .ok (.irem, 1)) (hx : inI x) (hz : inI z) (h0 : z ≠ 0) (kk : V p l e R s m args below meth c nL d b Q cells slots n h (pc + 1) lv (vi (x.tmod z) :: st)) : V p l e R s m args below meth c nL d b Q cells slots n h pc lv (vi z :: vi x :: st) :=
  fun H locs ls a1 a2 a4 a5 => lv_irem C.1 C.2.1 hdg (fun q => h0 ((iI_eq hz inI_0).mp q)) (by rw [iI_rem hx hz]; exact kk H locs ls a1 a2 a4 a5)
theorem V_ladd (C : yC p l s m args meth c y cc nL ret tb d b) {x z : Int} (hdg : decode cc pc = .ok (.ladd, 1)) (kk : V p l e R s m args below meth c nL d b Q cells slots n h (pc + 1) lv (vj (x + z) :: st)) : V p l e R s m args below meth c nL d b Q cells slots n h pc lv (vj z :: vj x :: st) :=
  fun H locs ls a1 a2 a4 a5 => lv_ladd C.1 C.2.1 hdg (by rw [jI_add]; exact kk H locs ls a1 a2 a4 a5)
theorem V_lsub (C : yC p l s m args meth c y cc nL ret tb d b) {x z : Int} (hdg : decode cc pc = .ok (.lsub, 1)) (kk : V p l e R s m args below meth c nL d b Q cells slots n h (pc + 1) lv (vj (x - z) :: st)) : V p l e R s m args below meth c nL d b Q cells slots n h pc lv (vj z :: vj x :: st) :=
  fun H locs ls a1 a2 a4 a5 => lv_lsub C.1 C.2.1 hdg (by rw [jI_sub]; exact kk H locs ls a1 a2 a4 a5)
theorem V_lmul (C : yC p l s m args meth c y cc nL ret tb d b) {x z : Int} (hdg : decode cc pc = .ok (.lmul, 1)) (kk : V p l e R s m args below meth c nL d b Q cells slots n h (pc + 1) lv (vj (x * z) :: st)) : V p l e R s m args below meth c nL d b Q cells slots n h pc lv (vj z :: vj x :: st) :=
  fun H locs ls a1 a2 a4 a5 => lv_lmul C.1 C.2.1 hdg (by rw [jI_mul]; exact kk H locs ls a1 a2 a4 a5)
theorem V_lneg (C : yC p l s m args meth c y cc nL ret tb d b) {x : Int} (hdg : decode cc pc = .ok (.lneg, 1)) (kk : V p l e R s m args below meth c nL d b Q cells slots n h (pc + 1) lv (vj (-x) :: st)) : V p l e R s m args below meth c nL d b Q cells slots n h pc lv (vj x :: st) :=
  fun H locs ls a1 a2 a4 a5 => lv_lneg C.1 C.2.1 hdg (by rw [jI_neg]; exact kk H locs ls a1 a2 a4 a5)
theorem V_ldiv (C : yC p l s m args meth c y cc nL ret tb d b) {x z : Int} (hdg : decode cc pc = .ok (.ldiv, 1)) (hx : inJ x) (hz : inJ z) (h0 : z ≠ 0) (kk : V p l e R s m args below meth c nL d b Q cells slots n h (pc + 1) lv (vj (x.tdiv z) :: st)) : V p l e R s m args below meth c nL d b Q cells slots n h pc lv (vj z :: vj x :: st) :=
  fun H locs ls a1 a2 a4 a5 => lv_ldiv C.1 C.2.1 hdg (fun q => h0 ((jI_eq hz inJ_0).mp q)) (by rw [jI_div hx hz]; exact kk H locs ls a1 a2 a4 a5)
theorem V_lrem (C : yC p l s m args meth c y cc nL ret tb d b) {x z : Int} (hdg : decode cc pc = .ok (.lrem, 1)) (hx : inJ x) (hz : inJ z) (h0 : z ≠ 0) (kk : V p l e R s m args below meth c nL d b Q cells slots n h (pc + 1) lv (vj (x.tmod z) :: st)) : V p l e R s m args below meth c nL d b Q cells slots n h pc lv (vj z :: vj x :: st) :=
  fun H locs ls a1 a2 a4 a5 => lv_lrem C.1 C.2.1 hdg (fun q => h0 ((jI_eq hz inJ_0).mp q)) (by rw [jI_rem hx hz]; exact kk H locs ls a1 a2 a4 a5)
theorem V_i2l (C : yC p l s m args meth c y cc nL ret tb d b) {x : Int} (hdg : decode cc pc = .ok (.i2l, 1)) (hx : inI x) (kk : V p l e R s m args below meth c nL d b Q cells slots n h (pc + 1) lv (vj x :: st)) : V p l e R s m args below meth c nL d b Q cells slots n h pc lv (vi x :: st) :=
  fun H locs ls a1 a2 a4 a5 => lv_i2l C.1 C.2.1 hdg (iI_l hx) (kk H locs ls a1 a2 a4 a5)
theorem V_l2i (C : yC p l s m args meth c y cc nL ret tb d b) {x : Int} (hdg : decode cc pc = .ok (.l2i, 1)) (kk : V p l e R s m args below meth c nL d b Q cells slots n h (pc + 1) lv (vi x :: st)) : V p l e R s m args below meth c nL d b Q cells slots n h pc lv (vj x :: st) :=
  fun H locs ls a1 a2 a4 a5 => lv_l2i C.1 C.2.1 hdg (jI_i x) (kk H locs ls a1 a2 a4 a5)
theorem V_icmp_eq (C : yC p l s m args meth c y cc nL ret tb d b) {x z : Int} {off : Int} {tgt : Nat} (hdg : decode cc pc = .ok (.if_icmp .eq off, 3)) (ht : (pc : Int) + off = (tgt : Int)) (hx : inI x) (hz : inI z) (kt : x = z → V p l e R s m args below meth c nL d b Q cells slots n h tgt lv st) (kf : ¬ x = z → V p l e R s m args below meth c nL d b Q cells slots n h (pc + 3) lv st) : V p l e R s m args below meth c nL d b Q cells slots n h pc lv (vi z :: vi x :: st) :=
  fun H locs ls a1 a2 a4 a5 => lv_icmp_eq C.1 C.2.1 hdg ht (fun q => kt ((iI_eq hx hz).mp q) H locs ls a1 a2 a4 a5) (fun q => kf (fun r => q ((iI_eq hx hz).mpr r)) H locs ls a1 a2 a4 a5)
theorem V_if_eq (C : yC p l s m args meth c y cc nL ret tb d b) {x : Int} {off : Int} {tgt : Nat} (hdg : decode cc pc = .ok (.ifCond .eq off, 3)) (ht : (pc : Int) + off = (tgt : Int)) (hx : inI x) (kt : x = 0 → V p l e R s m args below meth c nL d b Q cells slots n h tgt lv st) (kf : ¬ x = 0 → V p l e R s m args below meth c nL d b Q cells slots n h (pc + 3) lv st) : V p l e R s m args below meth c nL d b Q cells slots n h pc lv (vi x :: st) :=
  fun H locs ls a1 a2 a4 a5 => lv_if_eq C.1 C.2.1 hdg ht (fun q => kt ((iI_eq hx inI_0).mp q) H locs ls a1 a2 a4 a5) (fun q => kf (fun r => q ((iI_eq hx inI_0).mpr r)) H locs ls a1 a2 a4 a5)
theorem V_icmp_ne (C : yC p l s m args meth c y cc nL ret tb d b) {x z : Int} {off : Int} {tgt : Nat} (hdg : decode cc pc = .ok (.if_icmp .ne off, 3)) (ht : (pc : Int) + off = (tgt : Int)) (hx : inI x) (hz : inI z) (kt : ¬ x = z → V p l e R s m args below meth c nL d b Q cells slots n h tgt lv st) (kf : x = z → V p l e R s m args below meth c nL d b Q cells slots n h (pc + 3) lv st) : V p l e R s m args below meth c nL d b Q cells slots n h pc lv (vi z :: vi x :: st) :=
  fun H locs ls a1 a2 a4 a5 => lv_icmp_ne C.1 C.2.1 hdg ht (fun q => kt (fun r => q ((iI_eq hx hz).mpr r)) H locs ls a1 a2 a4 a5) (fun q => kf ((iI_eq hx hz).mp q) H locs ls a1 a2 a4 a5)
theorem V_if_ne (C : yC p l s m args meth c y cc nL ret tb d b) {x : Int} {off : Int} {tgt : Nat} (hdg : decode cc pc = .ok (.ifCond .ne off, 3)) (ht : (pc : Int) + off = (tgt : Int)) (hx : inI x) (kt : ¬ x = 0 → V p l e R s m args below meth c nL d b Q cells slots n h tgt lv st) (kf : x = 0 → V p l e R s m args below meth c nL d b Q cells slots n h (pc + 3) lv st) : V p l e R s m args below meth c nL d b Q cells slots n h pc lv (vi x :: st) :=
  fun H locs ls a1 a2 a4 a5 => lv_if_ne C.1 C.2.1 hdg ht (fun q => kt (fun r => q ((iI_eq hx inI_0).mpr r)) H locs ls a1 a2 a4 a5) (fun q => kf ((iI_eq hx inI_0).mp q) H locs ls a1 a2 a4 a5)
theorem V_icmp_lt (C : yC p l s m args meth c y cc nL ret tb d b) {x z : Int} {off : Int} {tgt : Nat} (hdg : decode cc pc = .ok (.if_icmp .lt off, 3)) (ht : (pc : Int) + off = (tgt : Int)) (hx : inI x) (hz : inI z) (kt : x < z → V p l e R s m args below meth c nL d b Q cells slots n h tgt lv st) (kf : ¬ x < z → V p l e R s m args below meth c nL d b Q cells slots n h (pc + 3) lv st) : V p l e R s m args below meth c nL d b Q cells slots n h pc lv (vi z :: vi x :: st) :=
  fun H locs ls a1 a2 a4 a5 => lv_icmp_lt C.1 C.2.1 hdg ht (fun q => kt ((iI_lt hx hz).mp q) H locs ls a1 a2 a4 a5) (fun q => kf (fun r => q ((iI_lt hx hz).mpr r)) H locs ls a1 a2 a4 a5)
theorem V_if_lt (C : yC p l s m args meth c y cc nL ret tb d b) {x : Int} {off : Int} {tgt : Nat} (hdg : decode cc pc = .ok (.ifCond .lt off, 3)) (ht : (pc : Int) + off = (tgt : Int)) (hx : inI x) (kt : x < 0 → V p l e R s m args below meth c nL d b Q cells slots n h tgt lv st) (kf : ¬ x < 0 → V p l e R s m args below meth c nL d b Q cells slots n h (pc + 3) lv st) : V p l e R s m args below meth c nL d b Q cells slots n h pc lv (vi x :: st) :=
  fun H locs ls a1 a2 a4 a5 => lv_if_lt C.1 C.2.1 hdg ht (fun q => kt ((iI_lt hx inI_0).mp q) H locs ls a1 a2 a4 a5) (fun q => kf (fun r => q ((iI_lt hx inI_0).mpr r)) H locs ls a1 a2 a4 a5)
theorem V_icmp_ge (C : yC p l s m args meth c y cc nL ret tb d b) {x z : Int} {off : Int} {tgt : Nat} (hdg : decode cc pc = .ok (.if_icmp .ge off, 3)) (ht : (pc : Int) + off = (tgt : Int)) (hx : inI x) (hz : inI z) (kt : z ≤ x → V p l e R s m args below meth c nL d b Q cells slots n h tgt lv st) (kf : ¬ z ≤ x → V p l e R s m args below meth c nL d b Q cells slots n h (pc + 3) lv st) : V p l e R s m args below meth c nL d b Q cells slots n h pc lv (vi z :: vi x :: st) :=
  fun H locs ls a1 a2 a4 a5 => lv_icmp_ge C.1 C.2.1 hdg ht (fun q => kt ((iI_le hz hx).mp q) H locs ls a1 a2 a4 a5) (fun q => kf (fun r => q ((iI_le hz hx).mpr r)) H locs ls a1 a2 a4 a5)
theorem V_if_ge (C : yC p l s m args meth c y cc nL ret tb d b) {x : Int} {off : Int} {tgt : Nat} (hdg : decode cc pc = .ok (.ifCond .ge off, 3)) (ht : (pc : Int) + off = (tgt : Int)) (hx : inI x) (kt : 0 ≤ x → V p l e R s m args below meth c nL d b Q cells slots n h tgt lv st) (kf : ¬ 0 ≤ x → V p l e R s m args below meth c nL d b Q cells slots n h (pc + 3) lv st) : V p l e R s m args below meth c nL d b Q cells slots n h pc lv (vi x :: st) :=
  fun H locs ls a1 a2 a4 a5 => lv_if_ge C.1 C.2.1 hdg ht (fun q => kt ((iI_le inI_0 hx).mp q) H locs ls a1 a2 a4 a5) (fun q => kf (fun r => q ((iI_le inI_0 hx).mpr r)) H locs ls a1 a2 a4 a5)
theorem V_icmp_gt (C : yC p l s m args meth c y cc nL ret tb d b) {x z : Int} {off : Int} {tgt : Nat} (hdg : decode cc pc = .ok (.if_icmp .gt off, 3)) (ht : (pc : Int) + off = (tgt : Int)) (hx : inI x) (hz : inI z) (kt : z < x → V p l e R s m args below meth c nL d b Q cells slots n h tgt lv st) (kf : ¬ z < x → V p l e R s m args below meth c nL d b Q cells slots n h (pc + 3) lv st) : V p l e R s m args below meth c nL d b Q cells slots n h pc lv (vi z :: vi x :: st) :=
  fun H locs ls a1 a2 a4 a5 => lv_icmp_gt C.1 C.2.1 hdg ht (fun q => kt ((iI_lt hz hx).mp q) H locs ls a1 a2 a4 a5) (fun q => kf (fun r => q ((iI_lt hz hx).mpr r)) H locs ls a1 a2 a4 a5)
theorem V_if_gt (C : yC p l s m args meth c y cc nL ret tb d b) {x : Int} {off : Int} {tgt : Nat} (hdg : decode cc pc = .ok (.ifCond .gt off, 3)) (ht : (pc : Int) + off = (tgt : Int)) (hx : inI x) (kt : 0 < x → V p l e R s m args below meth c nL d b Q cells slots n h tgt lv st) (kf : ¬ 0 < x → V p l e R s m args below meth c nL d b Q cells slots n h (pc + 3) lv st) : V p l e R s m args below meth c nL d b Q cells slots n h pc lv (vi x :: st) :=
  fun H locs ls a1 a2 a4 a5 => lv_if_gt C.1 C.2.1 hdg ht (fun q => kt ((iI_lt inI_0 hx).mp q) H locs ls a1 a2 a4 a5) (fun q => kf (fun r => q ((iI_lt inI_0 hx).mpr r)) H locs ls a1 a2 a4 a5)
theorem V_icmp_le (C : yC p l s m args meth c y cc nL ret tb d b) {x z : Int} {off : Int} {tgt : Nat} (hdg : decode cc pc = .ok (.if_icmp .le off, 3)) (ht : (pc : Int) + off = (tgt : Int)) (hx : inI x) (hz : inI z) (kt : x ≤ z → V p l e R s m args below meth c nL d b Q cells slots n h tgt lv st) (kf : ¬ x ≤ z → V p l e R s m args below meth c nL d b Q cells slots n h (pc + 3) lv st) : V p l e R s m args below meth c nL d b Q cells slots n h pc lv (vi z :: vi x :: st) :=
  fun H locs ls a1 a2 a4 a5 => lv_icmp_le C.1 C.2.1 hdg ht (fun q => kt ((iI_le hx hz).mp q) H locs ls a1 a2 a4 a5) (fun q => kf (fun r => q ((iI_le hx hz).mpr r)) H locs ls a1 a2 a4 a5)
theorem V_if_le (C : yC p l s m args meth c y cc nL ret tb d b) {x : Int} {off : Int} {tgt : Nat} (hdg : decode cc pc = .ok (.ifCond .le off, 3)) (ht : (pc : Int) + off = (tgt : Int)) (hx : inI x) (kt : x ≤ 0 → V p l e R s m args below meth c nL d b Q cells slots n h tgt lv st) (kf : ¬ x ≤ 0 → V p l e R s m args below meth c nL d b Q cells slots n h (pc + 3) lv st) : V p l e R s m args below meth c nL d b Q cells slots n h pc lv (vi x :: st) :=
  fun H locs ls a1 a2 a4 a5 => lv_if_le C.1 C.2.1 hdg ht (fun q => kt ((iI_le hx inI_0).mp q) H locs ls a1 a2 a4 a5) (fun q => kf (fun r => q ((iI_le hx inI_0).mpr r)) H locs ls a1 a2 a4 a5)
theorem V_goto (C : yC p l s m args meth c y cc nL ret tb d b) {off : Int} {tgt : Nat} (hdg : decode cc pc = .ok (.goto off, 3)) (ht : (pc : Int) + off = (tgt : Int)) (kk : V p l e R s m args below meth c nL d b Q cells slots n h tgt lv st) : V p l e R s m args below meth c nL d b Q cells slots n h pc lv st :=
  fun H locs ls a1 a2 a4 a5 => lv_goto C.1 C.2.1 hdg ht (kk H locs ls a1 a2 a4 a5)
-- of numbers that are not below 0
theorem V_ldivP (C : yC p l s m args meth c y cc nL ret tb d b) {x z : Int} (hdg : decode cc pc = .ok (.ldiv, 1)) (h0 : 0 ≤ x) (hx : x ≤ 9223372036854775807) (hz0 : 0 < z) (hz : z ≤ 9223372036854775807) (kk : V p l e R s m args below meth c nL d b Q cells slots n h (pc + 1) lv (vj (x / z) :: st)) : V p l e R s m args below meth c nL d b Q cells slots n h pc lv (vj z :: vj x :: st) :=
  V_ldiv C hdg ⟨by omega, hx⟩ ⟨by omega, hz⟩ (by omega) (by rw [Int.tdiv_eq_ediv_of_nonneg h0]; exact kk)
theorem V_lremP (C : yC p l s m args meth c y cc nL ret tb d b) {x z : Int} (hdg : decode cc pc = .ok (.lrem, 1)) (h0 : 0 ≤ x) (hx : x ≤ 9223372036854775807) (hz0 : 0 < z) (hz : z ≤ 9223372036854775807) (kk : V p l e R s m args below meth c nL d b Q cells slots n h (pc + 1) lv (vj (x % z) :: st)) : V p l e R s m args below meth c nL d b Q cells slots n h pc lv (vj z :: vj x :: st) :=
  V_lrem C hdg ⟨by omega, hx⟩ ⟨by omega, hz⟩ (by omega) (by rw [Int.tmod_eq_emod_of_nonneg h0]; exact kk)
theorem V_idivP (C : yC p l s m args meth c y cc nL ret tb d b) {x z : Int} (hdg : decode cc pc = .ok (.idiv, 1)) (h0 : 0 ≤ x) (hx : x ≤ 2147483647) (hz0 : 0 < z) (hz : z ≤ 2147483647) (kk : V p l e R s m args below meth c nL d b Q cells slots n h (pc + 1) lv (vi (x / z) :: st)) : V p l e R s m args below meth c nL d b Q cells slots n h pc lv (vi z :: vi x :: st) :=
  V_idiv C hdg ⟨by omega, hx⟩ ⟨by omega, hz⟩ (by omega) (by rw [Int.tdiv_eq_ediv_of_nonneg h0]; exact kk)
theorem V_iremP (C : yC p l s m args meth c y cc nL ret tb d b) {x z : Int} (hdg : decode cc pc = .ok (.irem, 1)) (h0 : 0 ≤ x) (hx : x ≤ 2147483647) (hz0 : 0 < z) (hz : z ≤ 2147483647) (kk : V p l e R s m args below meth c nL d b Q cells slots n h (pc + 1) lv (vi (x % z) :: st)) : V p l e R s m args below meth c nL d b Q cells slots n h pc lv (vi z :: vi x :: st) :=
  V_irem C hdg ⟨by omega, hx⟩ ⟨by omega, hz⟩ (by omega) (by rw [Int.tmod_eq_emod_of_nonneg h0]; exact kk)
-- heaps
theorem yP_set {D : va_G} {H H1 : Heap} {k : Nat} {e0 : va_E} (hP : yP D b h H) (he : va_at D vwCl (b + k, e0) H1) (oq : ∀ q : Nat, q ≠ b + k → H1[q]? = H[q]?) : yP D b (hs h k e0) H1 := by
  intro j e1 hj
  by_cases hjk : j = k
  · subst hjk
    rw [hs_eq] at hj
    cases hj
    exact he
  · rw [hs_ne h e0 hjk] at hj
    exact (hP j e1 hj).kept (oq (b + j) (by omega))
theorem yP_push {D : va_G} {H H1 : Heap} {e0 : va_E} (hP : yP D b h H) (z : H.size = b + n) (he : va_at D vwCl (b + n, e0) H1) (oq : ∀ q : Nat, q < b + n → H1[q]? = H[q]?) : yP D b (hs h n e0) H1 := by
  intro j e1 hj
  by_cases hjk : j = n
  · subst hjk
    rw [hs_eq] at hj
    cases hj
    exact he
  · rw [hs_ne h e0 hjk] at hj
    have hl : b + j < H.size := (hP j e1 hj).lt
    exact (hP j e1 hj).kept (oq (b + j) (by omega))
theorem yS_push {H0 H H1 : Heap} {locs : List Loc} {a : Nat} (hS : va_S (fun q => b ≤ q) H0 H locs) (z : H.size = a) (z1 : H1.size = a + 1) (oq : ∀ q : Nat, q < a → H1[q]? = H[q]?) : va_S (fun q => b ≤ q) H0 H1 locs :=
  ⟨Nat.le_trans hS.1 (by omega), fun x h1 h2 => (oq x (by have := hS.1; omega)).trans (hS.2.1 x h1 h2), hS.2.2⟩
-- arrays: reading
theorem V_iaload (C : yC p l s m args meth c y cc nL ret tb d b) {k N : Nat} {F : Nat → Int} {i : Int} (ha : h k = some (oI d N F)) (h0 : 0 ≤ i) (h1 : i < N) (hN : N < 2 ^ 31) (hdg : decode cc pc = .ok (.iaload, 1)) (kk : V p l e R s m args below meth c nL d b Q cells slots n h (pc + 1) lv (vi (F i.toNat) :: st)) : V p l e R s m args below meth c nL d b Q cells slots n h pc lv (vi i :: .ref (b + k) :: st) := by
  intro H locs ls a1 a2 a4 a5
  have hcl : (iI i).toNatClampNeg = i.toNat := iI_cl ⟨by omega, by omega⟩
  have hP : va_P d.1 vwCl [(b + k, oI d N F)] H := fun j q hj => by
    match j, hj with
    | 0, hj => cases hj; exact a2 k _ ha
  refine va_iald (tys := yT d) (n := N) (f := fun i => iI (F i)) C.1 C.2.1 C.2.2.2.2.2.2.2.1 hP 0 0 rfl rfl (iI_in h0 h1 hN) hdg ?_
  rw [hcl]
  exact kk H locs ls a1 a2 a4 a5
theorem V_laload (C : yC p l s m args meth c y cc nL ret tb d b) {k N : Nat} {F : Nat → Int} {i : Int} (ha : h k = some (oJ d N F)) (h0 : 0 ≤ i) (h1 : i < N) (hN : N < 2 ^ 31) (hdg : decode cc pc = .ok (.laload, 1)) (kk : V p l e R s m args below meth c nL d b Q cells slots n h (pc + 1) lv (vj (F i.toNat) :: st)) : V p l e R s m args below meth c nL d b Q cells slots n h pc lv (vi i :: .ref (b + k) :: st) := by
  intro H locs ls a1 a2 a4 a5
  have hcl : (iI i).toNatClampNeg = i.toNat := iI_cl ⟨by omega, by omega⟩
  have hP : va_P d.1 vwCl [(b + k, oJ d N F)] H := fun j q hj => by
    match j, hj with
    | 0, hj => cases hj; exact a2 k _ ha
  refine va_lald (tys := yT d) (n := N) (f := fun i => jI (F i)) C.1 C.2.1 C.2.2.2.2.2.2.2.1 hP 0 1 rfl rfl (iI_in h0 h1 hN) hdg ?_
  rw [hcl]
  exact kk H locs ls a1 a2 a4 a5
theorem V_zaload (C : yC p l s m args meth c y cc nL ret tb d b) {k N : Nat} {F : Nat → Int} {i : Int} (ha : h k = some (oZ d N F)) (h0 : 0 ≤ i) (h1 : i < N) (hN : N < 2 ^ 31) (hdg : decode cc pc = .ok (.baload, 1)) (kk : V p l e R s m args below meth c nL d b Q cells slots n h (pc + 1) lv (vi (F i.toNat) :: st)) : V p l e R s m args below meth c nL d b Q cells slots n h pc lv (vi i :: .ref (b + k) :: st) := by
  intro H locs ls a1 a2 a4 a5
  have hcl : (iI i).toNatClampNeg = i.toNat := iI_cl ⟨by omega, by omega⟩
  have hP : va_P d.1 vwCl [(b + k, oZ d N F)] H := fun j q hj => by
    match j, hj with
    | 0, hj => cases hj; exact a2 k _ ha
  refine va_zald (tys := yT d) (n := N) (f := fun i => iI (F i)) C.1 C.2.1 C.2.2.2.2.2.2.2.1 hP 0 2 rfl rfl (iI_in h0 h1 hN) hdg ?_
  rw [hcl]
  exact kk H locs ls a1 a2 a4 a5
theorem V_aaload (C : yC p l s m args meth c y cc nL ret tb d b) {k N t : Nat} {g : Nat → Option Nat} {i : Int} {Cn : String} {a : Nat} (ha : h k = some (oA d t N g)) (ht : (yT d)[t]? = some (d.2.1 t, .object Cn)) (h0 : 0 ≤ i) (h1 : i < N) (hN : N < 2 ^ 31) (hg : g i.toNat = some a) (hdg : decode cc pc = .ok (.aaload, 1)) (kk : V p l e R s m args below meth c nL d b Q cells slots n h (pc + 1) lv (.ref a :: st)) : V p l e R s m args below meth c nL d b Q cells slots n h pc lv (vi i :: .ref (b + k) :: st) := by
  intro H locs ls a1 a2 a4 a5
  have hcl : (iI i).toNatClampNeg = i.toNat := iI_cl ⟨by omega, by omega⟩
  have hP : va_P d.1 vwCl [(b + k, oA d t N g)] H := fun j q hj => by
    match j, hj with
    | 0, hj => cases hj; exact a2 k _ ha
  refine va_aldq (tys := yT d) (n := N) (f := g) C.1 C.2.1 C.2.2.2.2.2.2.2.1 hP 0 t rfl ht (iI_in h0 h1 hN) hdg ?_
  rw [hcl, hg]
  exact kk H locs ls a1 a2 a4 a5
theorem V_alen (C : yC p l s m args meth c y cc nL ret tb d b) {k t : Nat} {x : vp_A} {ty : FieldType} {z : Int} (ha : h k = some (.inl (d.2.1 t, x))) (ht : (yT d)[t]? = some (d.2.1 t, ty)) (hz : (x.1 : Int) = z) (hdg : decode cc pc = .ok (.arraylength, 1)) (kk : V p l e R s m args below meth c nL d b Q cells slots n h (pc + 1) lv (vi z :: st)) : V p l e R s m args below meth c nL d b Q cells slots n h pc lv (.ref (b + k) :: st) := by
  intro H locs ls a1 a2 a4 a5
  have hP : va_P d.1 vwCl [(b + k, .inl (d.2.1 t, x))] H := fun j q hj => by
    match j, hj with
    | 0, hj => cases hj; exact a2 k _ ha
  refine va_alen (tys := yT d) (v := iI z) C.1 C.2.1 C.2.2.2.2.2.2.2.1 hP 0 t rfl ht (by rw [iI_nat, hz]) hdg ?_
  exact kk H locs ls a1 a2 a4 a5
-- arrays: writing
theorem V_iastore (C : yC p l s m args meth c y cc nL ret tb d b) {k N : Nat} {F : Nat → Int} {i x : Int} (ha : h k = some (oI d N F)) (h0 : 0 ≤ i) (h1 : i < N) (hN : N < 2 ^ 31) (hdg : decode cc pc = .ok (.iastore, 1)) (kk : V p l e R s m args below meth c nL d b Q cells slots n (hs h k (oI d N (fu F i.toNat x))) (pc + 1) lv st) : V p l e R s m args below meth c nL d b Q cells slots n h pc lv (vi x :: vi i :: .ref (b + k) :: st) := by
  intro H locs ls a1 a2 a4 a5
  have hcl : (iI i).toNatClampNeg = i.toNat := iI_cl ⟨by omega, by omega⟩
  have hc : H[b + k]? = some (arrV (d.2.1 0) N (fun j => .int (iI (F j)))) := a2 k _ ha
  refine W.iast C.1 C.2.1 hc ((C.2.2.2.2.2.2.2.1.2 0 _ rfl).1 N (fun j => .int (iI (F j)))) (fun q => by cases q) (by rw [arrV_size]; exact iI_in h0 h1 hN) rfl rfl hdg fun H1 e1 z oq => ?_
  refine kk H1 _ ls (z.trans a1) (yP_set a2 ?_ oq) (a4.put z oq (Nat.le_add_right b k)) a5
  show H1[b + k]? = some (arrV (d.2.1 0) N (fun j => .int (iI (fu F i.toNat x j))))
  rw [e1, arrV_store, hcl]
  congr 2
  funext q
  by_cases hq : q = i.toNat
  · subst hq
    simp [updV, fu]
  · simp [updV, fu, hq]
theorem V_lastore (C : yC p l s m args meth c y cc nL ret tb d b) {k N : Nat} {F : Nat → Int} {i x : Int} (ha : h k = some (oJ d N F)) (h0 : 0 ≤ i) (h1 : i < N) (hN : N < 2 ^ 31) (hdg : decode cc pc = .ok (.lastore, 1)) (kk : V p l e R s m args below meth c nL d b Q cells slots n (hs h k (oJ d N (fu F i.toNat x))) (pc + 1) lv st) : V p l e R s m args below meth c nL d b Q cells slots n h pc lv (vj x :: vi i :: .ref (b + k) :: st) := by
  intro H locs ls a1 a2 a4 a5
  have hcl : (iI i).toNatClampNeg = i.toNat := iI_cl ⟨by omega, by omega⟩
  have hc : H[b + k]? = some (arrV (d.2.1 1) N (fun j => .long (jI (F j)))) := a2 k _ ha
  refine W.last C.1 C.2.1 hc ((C.2.2.2.2.2.2.2.1.2 1 _ rfl).1 N (fun j => .long (jI (F j)))) (fun q => by cases q) (by rw [arrV_size]; exact iI_in h0 h1 hN) rfl rfl hdg fun H1 e1 z oq => ?_
  refine kk H1 _ ls (z.trans a1) (yP_set a2 ?_ oq) (a4.put z oq (Nat.le_add_right b k)) a5
  show H1[b + k]? = some (arrV (d.2.1 1) N (fun j => .long (jI (fu F i.toNat x j))))
  rw [e1, arrV_store, hcl]
  congr 2
  funext q
  by_cases hq : q = i.toNat
  · subst hq
    simp [updV, fu]
  · simp [updV, fu, hq]
theorem V_zastore (C : yC p l s m args meth c y cc nL ret tb d b) {k N : Nat} {F : Nat → Int} {i x : Int} (ha : h k = some (oZ d N F)) (hx : x = 0 ∨ x = 1) (h0 : 0 ≤ i) (h1 : i < N) (hN : N < 2 ^ 31) (hdg : decode cc pc = .ok (.bastore, 1)) (kk : V p l e R s m args below meth c nL d b Q cells slots n (hs h k (oZ d N (fu F i.toNat x))) (pc + 1) lv st) : V p l e R s m args below meth c nL d b Q cells slots n h pc lv (vi x :: vi i :: .ref (b + k) :: st) := by
  intro H locs ls a1 a2 a4 a5
  have hcl : (iI i).toNatClampNeg = i.toNat := iI_cl ⟨by omega, by omega⟩
  have hnar : narrow .boolean (.int (iI x)) = .int (iI x) := by rcases hx with rfl | rfl <;> rfl
  have hc : H[b + k]? = some (arrV (d.2.1 2) N (fun j => .int (iI (F j)))) := a2 k _ ha
  refine W.zast C.1 C.2.1 hc ((C.2.2.2.2.2.2.2.1.2 2 _ rfl).1 N (fun j => .int (iI (F j)))) (fun q => by cases q) (by rw [arrV_size]; exact iI_in h0 h1 hN) rfl rfl hdg fun H1 e1 z oq => ?_
  refine kk H1 _ ls (z.trans a1) (yP_set a2 ?_ oq) (a4.put z oq (Nat.le_add_right b k)) a5
  show H1[b + k]? = some (arrV (d.2.1 2) N (fun j => .int (iI (fu F i.toNat x j))))
  rw [e1, arrV_store, hcl, hnar]
  congr 2
  funext q
  by_cases hq : q = i.toNat
  · subst hq
    simp [updV, fu]
  · simp [updV, fu, hq]
theorem V_aastore (C : yC p l s m args meth c y cc nL ret tb d b) {k N t ci a : Nat} {r : vw_C} {fs : List Value} {g : Nat → Option Nat} {i : Int} (ha : h k = some (oA d t N g)) (ht : (yT d)[t]? = some (d.2.1 t, .object r.1)) (hv : h a = some (.inr (ci, fs))) (hci : vwCl[ci]? = some r) (h0 : 0 ≤ i) (h1 : i < N) (hN : N < 2 ^ 31) (hdg : decode cc pc = .ok (.aastore, 1)) (kk : V p l e R s m args below meth c nL d b Q cells slots n (hs h k (oA d t N (fu g i.toNat (some (b + a))))) (pc + 1) lv st) : V p l e R s m args below meth c nL d b Q cells slots n h pc lv (.ref (b + a) :: vi i :: .ref (b + k) :: st) := by
  intro H locs ls a1 a2 a4 a5
  have hcl : (iI i).toNatClampNeg = i.toNat := iI_cl ⟨by omega, by omega⟩
  have hin := iI_in h0 h1 hN
  have hlt : (iI i).toNatClampNeg < N := Nat.not_le.mp fun q => hin (Or.inr q)
  have hi0 : ¬ iI i < 0 := fun q => hin (Or.inl q)
  have hc : H[b + k]? = some (arrV (d.2.1 t) N (fun j => va_rf (g j))) := a2 k _ ha
  obtain ⟨r', hr', cellV, g1, g2, g3, -⟩ := a2 a _ hv
  have hK := C.2.2.2.2.2.2.2.1
  have hcls := (hK.1 ci r hci).2
  obtain ⟨kA, comp, k1, k2, k3, -⟩ := (hK.2 t _ ht).2
  have hcomp : comp = d.1.1 ci := Option.some.inj (k3.symm.trans hcls.1)
  subst hcomp
  obtain ⟨kC, hkC, -⟩ := hcls.2
  refine W.aast C.1 C.2.1 hc (fun q h => by cases h) (fun h => by cases h) k1 k2 rfl hkC ⟨hi0, by rw [arrV_size]; exact hlt⟩ g1 (fun q h => by rw [g3] at h; cases h) (by rw [g2]; exact hkC) (by rw [g2]; exact va_assign hcls) rfl rfl hdg fun H1 e1 z oq => ?_
  refine kk H1 _ ls (z.trans a1) (yP_set a2 ?_ oq) (a4.put z oq (Nat.le_add_right b k)) a5
  show H1[b + k]? = some (arrV (d.2.1 t) N (fun j => va_rf (fu g i.toNat (some (b + a)) j)))
  rw [e1, arrV_store, hcl]
  congr 2
  funext q
  by_cases hq : q = i.toNat
  · subst hq
    simp [updV, fu, va_rf]
  · simp [updV, fu, hq]
-- fields
theorem V_get (C : yC p l s m args meth c y cc nL ret tb d b) (ci kf : Nat) {k index N : Nat} {fs : List Value} {Cn ref : String} {T : u_T} {v : Value} (he : h k = some (.inr (ci, fs))) (hc : vwCl[ci]? = some (Cn, T, N)) (hin : ∀ w ∈ u_ws Cn T N, w ∈ yW) (hk : kf < N) (hlink : Cond.fieldLink y.cls index ref (T kf).2.1 (T kf).2.2.1 ∈ yW) (hsame : (T kf).1 = ref) (hv : fs[kf]? = some v) (hdg : decode cc pc = .ok (.getfield index, 3)) (kk : V p l e R s m args below meth c nL d b Q cells slots n h (pc + 3) lv (v :: st)) : V p l e R s m args below meth c nL d b Q cells slots n h pc lv (.ref (b + k) :: st) := by
  intro H locs ls a1 a2 a4 a5
  have hP : va_P d.1 vwCl [(b + k, .inr (ci, fs))] H := fun j q hj => by
    match j, hj with
    | 0, hj => cases hj; exact a2 k _ he
  exact va_get (D := d.1) (v := v) C.1 C.2.1 C.2.2.2.2.2.1 hin C.2.2.2.2.1 C.2.2.2.2.2.2.2.1 hP 0 rfl hc kf hk (C.2.2.2.2.2.1 _ hlink) (fun x hx => by rw [← hsame]; exact hx) hv hdg (kk H locs ls a1 a2 a4 a5)
theorem V_getN (C : yC p l s m args meth c y cc nL ret tb d b) (ci kf : Nat) {k index N : Nat} {fs : List Value} {Cn ref host : String} {T : u_T} {v : Value} (he : h k = some (.inr (ci, fs))) (hc : vwCl[ci]? = some (Cn, T, N)) (hin : ∀ w ∈ u_ws Cn T N, w ∈ yW) (hk : kf < N) (hlink : Cond.fieldLinkNest y.cls index ref (T kf).2.1 (T kf).2.2.1 host ∈ yNs) (hsame : (T kf).1 = ref) (hv : fs[kf]? = some v) (hdg : decode cc pc = .ok (.getfield index, 3)) (kk : V p l e R s m args below meth c nL d b Q cells slots n h (pc + 3) lv (v :: st)) : V p l e R s m args below meth c nL d b Q cells slots n h pc lv (.ref (b + k) :: st) := by
  intro H locs ls a1 a2 a4 a5
  have hP : va_P d.1 vwCl [(b + k, .inr (ci, fs))] H := fun j q hj => by
    match j, hj with
    | 0, hj => cases hj; exact a2 k _ he
  exact va_getN (D := d.1) (v := v) C.1 C.2.1 C.2.2.2.2.2.1 hin C.2.2.2.2.1 C.2.2.2.2.2.2.2.1 hP 0 rfl hc kf hk (va_Nw.use (yNs_on hlink) (C.2.2.2.2.2.2.2.2.1.1 _ hlink)) (fun x hx => by rw [← hsame]; exact hx) hv hdg (kk H locs ls a1 a2 a4 a5)
theorem V_put (C : yC p l s m args meth c y cc nL ret tb d b) (ci kf : Nat) {k index N : Nat} {fs : List Value} {Cn ref : String} {T : u_T} {ty : FieldType} {v : Value} (he : h k = some (.inr (ci, fs))) (hc : vwCl[ci]? = some (Cn, T, N)) (hin : ∀ w ∈ u_ws Cn T N, w ∈ yW) (ty0 : Nat → FieldType) (hty : ∀ k, k < N → parseFieldDescriptor (T k).2.2.1 = some (ty0 k)) (hnm : ∀ a, a < N → ∀ b, b < N → a ≠ b → (T a).2.1 ≠ (T b).2.1) (hk : kf < N) (hlink : Cond.fieldLink y.cls index ref (T kf).2.1 (T kf).2.2.1 ∈ yW) (hsame : (T kf).1 = ref) (hfin : (T kf).2.2.2 = false) (hd : parseFieldDescriptor (T kf).2.2.1 = some ty) (hn : narrow ty v = v) (hfit : fits ty v = true) (hl : kf < fs.length) (hdg : decode cc pc = .ok (.putfield index, 3)) (kk : V p l e R s m args below meth c nL d b Q cells slots n (hs h k (.inr (ci, fs.set kf v))) (pc + 3) lv st) : V p l e R s m args below meth c nL d b Q cells slots n h pc lv (v :: .ref (b + k) :: st) := by
  intro H locs ls a1 a2 a4 a5
  have hK := C.2.2.2.2.2.2.2.1
  have hts := C.2.2.2.2.2.1
  have hap := va_apart (own := y.cls) hts hin ty0 hty hnm hK hc
  obtain ⟨r, h1, cell, q1, q2, q3, q4⟩ := a2 k _ he
  have hr : r = (Cn, T, N) := Option.some.inj (h1.symm.trans hc)
  subst hr
  obtain ⟨hS, hfc, kC, hkC, hkind⟩ := hK.1 ci _ hc
  obtain ⟨cf, kf', fi, f, hi, hsl⟩ := hS kf hk
  have hlay := hts _ (hin _ (u_in_lay hk))
  unfold u_lay at hlay
  rw [if_neg (by rw [hfin]; decide)] at hlay
  have hst := (u_facts hfc hkC (u_lays hts hin hk) hi).1
  have h6 := u_store hfc hkC hkind hlay hi hd hn hfit
  refine W.putK C.1 C.2.1 (f := f) ⟨C.2.2.2.2.1, hts _ hlink, ⟨_, _, _, by rw [← hsame]; exact hi⟩, hst⟩ (by rw [q2]; exact h6) q1 q3 (by rw [hsl]; exact k2_hasslot (q4 kf hk)) rfl rfl hdg fun H1 e1 e2 e3 => ?_
  rw [hsl] at e1 ⊢
  exact kk H1 _ ls (e2.trans a1) (yP_set a2 ⟨_, hc, t_OB.to (V := updV (vp_V fs) kf v) ⟨_, e1, q2, q3, t_set q4 hap hk v⟩ (fun j _ => vp_updV_set hl v j)⟩ e3) (a4.put e2 e3 (Nat.le_add_right b k)) a5
theorem V_putN (C : yC p l s m args meth c y cc nL ret tb d b) (ci kf : Nat) {k index N : Nat} {fs : List Value} {Cn ref host : String} {T : u_T} {ty : FieldType} {v : Value} (he : h k = some (.inr (ci, fs))) (hc : vwCl[ci]? = some (Cn, T, N)) (hin : ∀ w ∈ u_ws Cn T N, w ∈ yW) (ty0 : Nat → FieldType) (hty : ∀ k, k < N → parseFieldDescriptor (T k).2.2.1 = some (ty0 k)) (hnm : ∀ a, a < N → ∀ b, b < N → a ≠ b → (T a).2.1 ≠ (T b).2.1) (hk : kf < N) (hlink : Cond.fieldLinkNest y.cls index ref (T kf).2.1 (T kf).2.2.1 host ∈ yNs) (hsame : (T kf).1 = ref) (hfin : (T kf).2.2.2 = false) (hd : parseFieldDescriptor (T kf).2.2.1 = some ty) (hn : narrow ty v = v) (hfit : fits ty v = true) (hl : kf < fs.length) (hdg : decode cc pc = .ok (.putfield index, 3)) (kk : V p l e R s m args below meth c nL d b Q cells slots n (hs h k (.inr (ci, fs.set kf v))) (pc + 3) lv st) : V p l e R s m args below meth c nL d b Q cells slots n h pc lv (v :: .ref (b + k) :: st) := by
  intro H locs ls a1 a2 a4 a5
  have hK := C.2.2.2.2.2.2.2.1
  have hts := C.2.2.2.2.2.1
  have hap := va_apart (own := y.cls) hts hin ty0 hty hnm hK hc
  obtain ⟨r, h1, cell, q1, q2, q3, q4⟩ := a2 k _ he
  have hr : r = (Cn, T, N) := Option.some.inj (h1.symm.trans hc)
  subst hr
  obtain ⟨hS, hfc, kC, hkC, hkind⟩ := hK.1 ci _ hc
  obtain ⟨cf, kf', fi, f, hi, hsl⟩ := hS kf hk
  have hlay := hts _ (hin _ (u_in_lay hk))
  unfold u_lay at hlay
  rw [if_neg (by rw [hfin]; decide)] at hlay
  have hst := (u_facts hfc hkC (u_lays hts hin hk) hi).1
  have h6 := u_store hfc hkC hkind hlay hi hd hn hfit
  refine va_WputK C.1 C.2.1 (f := f) C.2.2.2.2.1 (va_Nw.use (yNs_on hlink) (C.2.2.2.2.2.2.2.2.1.1 _ hlink)) (by rw [← hsame]; exact hi) hst (by rw [q2]; exact h6) q1 q3 (by rw [hsl]; exact k2_hasslot (q4 kf hk)) rfl rfl hdg fun H1 e1 e2 e3 => ?_
  rw [hsl] at e1 ⊢
  exact kk H1 _ ls (e2.trans a1) (yP_set a2 ⟨_, hc, t_OB.to (V := updV (vp_V fs) kf v) ⟨_, e1, q2, q3, t_set q4 hap hk v⟩ (fun j _ => vp_updV_set hl v j)⟩ e3) (a4.put e2 e3 (Nat.le_add_right b k)) a5
theorem V_putF (C : yC p l s m args meth c y cc nL ret tb d b) (ci kf : Nat) {k index N : Nat} {fs : List Value} {Cn ref : String} {T : u_T} {ty : FieldType} {v : Value} (he : h k = some (.inr (ci, fs))) (hc : vwCl[ci]? = some (Cn, T, N)) (hin : ∀ w ∈ u_ws Cn T N, w ∈ yW) (ty0 : Nat → FieldType) (hty : ∀ k, k < N → parseFieldDescriptor (T k).2.2.1 = some (ty0 k)) (hnm : ∀ a, a < N → ∀ b, b < N → a ≠ b → (T a).2.1 ≠ (T b).2.1) (hk : kf < N) (hlink : Cond.fieldLink y.cls index ref (T kf).2.1 (T kf).2.2.1 ∈ yW) (hsame : (T kf).1 = ref) (hfin : (T kf).2.2.2 = true) (hname : y.name = "<init>") (hdecl : (T kf).1 = y.cls) (hd : parseFieldDescriptor (T kf).2.2.1 = some ty) (hn : narrow ty v = v) (hfit : fits ty v = true) (hl : kf < fs.length) (hdg : decode cc pc = .ok (.putfield index, 3)) (kk : V p l e R s m args below meth c nL d b Q cells slots n (hs h k (.inr (ci, fs.set kf v))) (pc + 3) lv st) : V p l e R s m args below meth c nL d b Q cells slots n h pc lv (v :: .ref (b + k) :: st) := by
  intro H locs ls a1 a2 a4 a5
  have hK := C.2.2.2.2.2.2.2.1
  have hts := C.2.2.2.2.2.1
  have hown := C.2.2.2.2.1
  have hap := va_apart (own := y.cls) hts hin ty0 hty hnm hK hc
  obtain ⟨r, h1, cell, q1, q2, q3, q4⟩ := a2 k _ he
  have hr : r = (Cn, T, N) := Option.some.inj (h1.symm.trans hc)
  subst hr
  obtain ⟨hS, hfc, kC, hkC, hkind⟩ := hK.1 ci _ hc
  obtain ⟨cf, kf', fi, f, hi, hsl⟩ := hS kf hk
  have hlay := hts _ (hin _ (u_in_lay hk))
  unfold u_lay at hlay
  rw [if_pos hfin] at hlay
  have hst := (u_facts hfc hkC (u_lays hts hin hk) hi).1
  have hcf : m.cls = cf := by
    obtain ⟨_, _, c', _, _, _, -, -, hf', -, -, -, hown2, -⟩ := Cond.laysFinal_spec hlay
    have e1 : c' = cf := by have := hi.symm.trans hf'; simp at this; exact this.1.symm
    rw [hdecl] at hown2
    rw [← e1]; exact Option.some.inj (hown.symm.trans hown2)
  have h6 := u_fits hfc hkC hkind (Or.inr hlay) hi hd hn hfit
  refine W.putFinK C.1 C.2.1 hown (hts _ hlink) (by rw [← hsame]; exact hi) hst hcf (C.2.2.2.2.2.2.2.2.2.2.1.trans hname) (by rw [q2]; exact h6) q1 q3 (by rw [hsl]; exact k2_hasslot (q4 kf hk)) rfl rfl hdg fun H1 e1 e2 e3 => ?_
  rw [hsl] at e1 ⊢
  exact kk H1 _ ls (e2.trans a1) (yP_set a2 ⟨_, hc, t_OB.to (V := updV (vp_V fs) kf v) ⟨_, e1, q2, q3, t_set q4 hap hk v⟩ (fun j _ => vp_updV_set hl v j)⟩ e3) (a4.put e2 e3 (Nat.le_add_right b k)) a5
-- making
theorem V_new (C : yC p l s m args meth c y cc nL ret tb d b) (ci : Nat) {index N : Nat} {fs : List Value} {Cn : String} {T : u_T} (hc : vwCl[ci]? = some (Cn, T, N)) (hin : ∀ w ∈ u_ws Cn T N, w ∈ yW) (ty0 : Nat → FieldType) (hty : ∀ k, k < N → parseFieldDescriptor (T k).2.2.1 = some (ty0 k)) (hw : ∀ w ∈ [Cond.classLink y.cls index Cn, .instantiable Cn N, .initialized Cn], w ∈ yW) (hfs : ∀ j, j < N → defaultValue (ty0 j) = vp_V fs j) (hcells : cells + 1 ≤ R.cells) (hslots : slots + N ≤ R.slots) (hdg : decode cc pc = .ok (.new index, 3)) (kk : V p l e R s m args below meth c nL d b Q (cells + 1) (slots + N) (n + 1) (hs h n (.inr (ci, fs))) (pc + 3) lv (.ref (b + n) :: st)) : V p l e R s m args below meth c nL d b Q cells slots n h pc lv st := by
  intro H locs ls a1 a2 a4 a5
  have hts := C.2.2.2.2.2.1
  have hKn := C.2.2.2.2.2.2.2.1.1 ci _ hc
  refine W.newcK C.1 C.2.1 C.2.2.2.2.1 (hts _ (hw (.classLink y.cls index Cn) (by simp))) (hts _ (hw (.instantiable Cn N) (by simp))) (hts _ (hw (.initialized Cn) (by simp))) rfl hdg hcells hslots hKn.2.1 a1 fun H1 kC hkC e1 z1 o1 => ?_
  exact kk H1 locs ls z1 (yP_push a2 a1 ⟨_, hc, (u_born ty0 hts hin hKn hkC e1 hty).to hfs⟩ o1) (yS_push a4 a1 z1 o1) a5
theorem V_newI (C : yC p l s m args meth c y cc nL ret tb d b) {z : Int} {N : Nat} (hz : z = N) (hN : N ≤ 100000) (hw : Cond.arrayClass .int ∈ yW) (hcells : cells + 1 ≤ R.cells) (hslots : slots + N ≤ R.slots) (hdg : decode cc pc = .ok (.newarray .int, 2)) (kk : V p l e R s m args below meth c nL d b Q (cells + 1) (slots + N) (n + 1) (hs h n (oI d N (fun _ => 0))) (pc + 2) lv (.ref (b + n) :: st)) : V p l e R s m args below meth c nL d b Q cells slots n h pc lv (vi z :: st) := by
  intro H locs ls a1 a2 a4 a5
  subst hz
  have hin : inI (N : Int) := ⟨by omega, by omega⟩
  refine va_newaK (atype := .int) (N := N) C.1 C.2.1 (C.2.2.2.2.2.1 _ hw) rfl hdg rfl (by rw [show (0 : Int32) = iI 0 from rfl, iI_lt hin inI_0]; omega) (by rw [iI_cl hin]; omega) (by show N * 4 ≤ _; omega) hcells hslots a1 fun H1 cA e1 z1 o1 hAr hNm => ?_
  have hc : cA = d.2.1 0 := Option.some.inj (hNm.symm.trans (C.2.2.2.2.2.2.2.1.2 0 _ rfl).2)
  subst hc
  exact kk H1 locs ls z1 (yP_push a2 a1 e1 o1) (yS_push a4 a1 z1 o1) a5
theorem V_newJ (C : yC p l s m args meth c y cc nL ret tb d b) {z : Int} {N : Nat} (hz : z = N) (hN : N ≤ 100000) (hw : Cond.arrayClass .long ∈ yW) (hcells : cells + 1 ≤ R.cells) (hslots : slots + N ≤ R.slots) (hdg : decode cc pc = .ok (.newarray .long, 2)) (kk : V p l e R s m args below meth c nL d b Q (cells + 1) (slots + N) (n + 1) (hs h n (oJ d N (fun _ => 0))) (pc + 2) lv (.ref (b + n) :: st)) : V p l e R s m args below meth c nL d b Q cells slots n h pc lv (vi z :: st) := by
  intro H locs ls a1 a2 a4 a5
  subst hz
  have hin : inI (N : Int) := ⟨by omega, by omega⟩
  refine va_newaK (atype := .long) (N := N) C.1 C.2.1 (C.2.2.2.2.2.1 _ hw) rfl hdg rfl (by rw [show (0 : Int32) = iI 0 from rfl, iI_lt hin inI_0]; omega) (by rw [iI_cl hin]; omega) (by show N * 8 ≤ _; omega) hcells hslots a1 fun H1 cA e1 z1 o1 hAr hNm => ?_
  have hc : cA = d.2.1 1 := Option.some.inj (hNm.symm.trans (C.2.2.2.2.2.2.2.1.2 1 _ rfl).2)
  subst hc
  exact kk H1 locs ls z1 (yP_push a2 a1 e1 o1) (yS_push a4 a1 z1 o1) a5
theorem V_newZ (C : yC p l s m args meth c y cc nL ret tb d b) {z : Int} {N : Nat} (hz : z = N) (hN : N ≤ 100000) (hw : Cond.arrayClass .boolean ∈ yW) (hcells : cells + 1 ≤ R.cells) (hslots : slots + N ≤ R.slots) (hdg : decode cc pc = .ok (.newarray .boolean, 2)) (kk : V p l e R s m args below meth c nL d b Q (cells + 1) (slots + N) (n + 1) (hs h n (oZ d N (fun _ => 0))) (pc + 2) lv (.ref (b + n) :: st)) : V p l e R s m args below meth c nL d b Q cells slots n h pc lv (vi z :: st) := by
  intro H locs ls a1 a2 a4 a5
  subst hz
  have hin : inI (N : Int) := ⟨by omega, by omega⟩
  refine va_newaK (atype := .boolean) (N := N) C.1 C.2.1 (C.2.2.2.2.2.1 _ hw) rfl hdg rfl (by rw [show (0 : Int32) = iI 0 from rfl, iI_lt hin inI_0]; omega) (by rw [iI_cl hin]; omega) (by show N * 1 ≤ _; omega) hcells hslots a1 fun H1 cA e1 z1 o1 hAr hNm => ?_
  have hc : cA = d.2.1 2 := Option.some.inj (hNm.symm.trans (C.2.2.2.2.2.2.2.1.2 2 _ rfl).2)
  subst hc
  exact kk H1 locs ls z1 (yP_push a2 a1 e1 o1) (yS_push a4 a1 z1 o1) a5
theorem V_newA (C : yC p l s m args meth c y cc nL ret tb d b) {z : Int} {N t index : Nat} {Cn : String} (hz : z = N) (hN : N ≤ 100000) (ht : (yT d)[t]? = some (d.2.1 t, .object Cn)) (hw : Cond.classLink y.cls index Cn ∈ yW) (hC : Cn = "YearFractions$Row") (hcells : cells + 1 ≤ R.cells) (hslots : slots + N ≤ R.slots) (hdg : decode cc pc = .ok (.anewarray index, 3)) (kk : V p l e R s m args below meth c nL d b Q (cells + 1) (slots + N) (n + 1) (hs h n (oA d t N (fun _ => none))) (pc + 3) lv (.ref (b + n) :: st)) : V p l e R s m args below meth c nL d b Q cells slots n h pc lv (vi z :: st) := by
  intro H locs ls a1 a2 a4 a5
  subst hz
  have hts := C.2.2.2.2.2.1
  have hin : inI (N : Int) := ⟨by omega, by omega⟩
  have hcl : (iI (N : Int)).toNatClampNeg = N := by rw [iI_cl hin]; omega
  refine W.anew C.1 C.2.1 C.2.2.2.2.1 (hts _ hw) (va_AO.use (by rw [hC]; exact C.2.2.2.2.2.2.2.2.1.2.2.2.2.2.1)) rfl hdg rfl (by rw [show (0 : Int32) = iI 0 from rfl, iI_lt hin inI_0]; omega) (by rw [hcl]; omega) hcells (by rw [hcl]; exact hslots) fun cA kA comp f1 f2 f3 f4 => ?_
  rw [hcl]
  generalize hH1 : H.push ({ cls := cA, slots := Array.replicate N .null, vm := .none } : Cell) = H1
  have z1 : H1.size = b + n + 1 := by rw [← hH1, Array.size_push, a1]
  have e1 : H1[b + n]? = some (arrV cA N (fun _ => .null)) := by rw [← hH1, ← a1, Array.getElem?_push_size, ← arrV_new]
  have o1 : ∀ q : Nat, q < b + n → H1[q]? = H[q]? := fun q hq => by rw [← hH1, Array.getElem?_push, if_neg (by omega)]
  obtain ⟨kA', comp', k1, k2, k3, k4⟩ := (C.2.2.2.2.2.2.2.1.2 t _ ht).2
  have hc : cA = d.2.1 t := Option.some.inj (f1.symm.trans k4)
  subst hc
  rw [a1]
  exact kk H1 locs ls z1 (yP_push a2 a1 e1 o1) (yS_push a4 a1 z1 o1) a5
-- Object's own maker
theorem V_objInit (C : yC p l s m args meth c y cc nL ret tb d b) {idx a : Nat} (hw : ∀ w ∈ [Cond.methodLink y.cls idx objectInit, .instanceMethod objectInit], w ∈ yW) (hcode : Cond.code objectInit ⟨#[0xb1]⟩ 1 none ∈ yW) (hst : (st.map fun v => v.category).sum + 12 ≤ R.locals) (hfr : 1 ≤ R.frames) (hdg : decode cc pc = .ok (.invokespecial idx, 3)) (kk : V p l e R s m args below meth c nL d b Q cells slots n h (pc + 3) lv st) : V p l e R s m args below meth c nL d b Q cells slots n h pc lv (.ref a :: st) := by
  intro H locs ls a1 a2 a4 a5
  have hts := C.2.2.2.2.2.1
  refine W.objInit C.1 C.2.1 C.2.2.2.2.1 (hts _ (hw (.methodLink y.cls idx objectInit) (by simp))) (hts _ (hw (.instanceMethod objectInit) (by simp))) (hts _ hcode) rfl (by rw [C.2.2.1]; exact a5.1) rfl hdg hfr (by show 2 * 0 + _ + 12 ≤ _; omega) ?_
  exact kk H locs ls a1 a2 a4 a5
-- constants of the pool
theorem V_ldc (C : yC p l s m args meth c y cc nL ret tb d b) {index : Nat} {v : Int32} {z : Int} (hw : Cond.constant y.cls index v ∈ yW) (hz : v = iI z) (hdg : decode cc pc = .ok (.ldc index, 2)) (kk : V p l e R s m args below meth c nL d b Q cells slots n h (pc + 2) lv (vi z :: st)) : V p l e R s m args below meth c nL d b Q cells slots n h pc lv st := by
  subst hz
  exact fun H locs ls a1 a2 a4 a5 => lv_ldc C.1 C.2.1 C.2.2.2.2.1 (C.2.2.2.2.2.1 _ hw) hdg (kk H locs ls a1 a2 a4 a5)
theorem V_ldc2 (C : yC p l s m args meth c y cc nL ret tb d b) {index : Nat} {v : Int64} {z : Int} (hw : Cond.constantLong y.cls index v ∈ yW) (hz : v = jI z) (hdg : decode cc pc = .ok (.ldc2_w index, 3)) (kk : V p l e R s m args below meth c nL d b Q cells slots n h (pc + 3) lv (vj z :: st)) : V p l e R s m args below meth c nL d b Q cells slots n h pc lv st := by
  subst hz
  exact fun H locs ls a1 a2 a4 a5 => lv_ldc2 C.1 C.2.1 C.2.2.2.2.1 (C.2.2.2.2.2.1 _ hw) hdg (kk H locs ls a1 a2 a4 a5)
-- longs compared
def cz (x z : Int) : Int := if z < x then 1 else if x = z then 0 else -1
theorem cz_in (x z : Int) : inI (cz x z) := by unfold cz; split <;> first | (constructor <;> omega) | (split <;> constructor <;> omega)
theorem V_lcmp (C : yC p l s m args meth c y cc nL ret tb d b) {x z : Int} (hdg : decode cc pc = .ok (.lcmp, 1)) (hx : inJ x) (hz : inJ z) (kk : V p l e R s m args below meth c nL d b Q cells slots n h (pc + 1) lv (vi (cz x z) :: st)) : V p l e R s m args below meth c nL d b Q cells slots n h pc lv (vj z :: vj x :: st) := by
  intro H locs ls a1 a2 a4 a5
  have e1 : lg_cmp (jI x) (jI z) = iI (cz x z) := by
    unfold lg_cmp cz
    by_cases h1 : z < x
    · rw [if_pos ((jI_lt hz hx).mpr h1), if_pos h1]; rfl
    · rw [if_neg (fun q => h1 ((jI_lt hz hx).mp q)), if_neg h1]
      by_cases h2 : x = z
      · rw [if_pos ((jI_eq hx hz).mpr h2), if_pos h2]; rfl
      · rw [if_neg (fun q => h2 ((jI_eq hx hz).mp q)), if_neg h2]; rfl
  refine W.lcmp C.1 C.2.1 hdg ?_
  rw [e1]
  exact kk H locs ls a1 a2 a4 a5
theorem cz_lt {x z : Int} : cz x z < 0 ↔ x < z := by unfold cz; split <;> (try split) <;> omega
theorem cz_gt {x z : Int} : 0 < cz x z ↔ z < x := by unfold cz; split <;> (try split) <;> omega
theorem cz_le {x z : Int} : cz x z ≤ 0 ↔ x ≤ z := by unfold cz; split <;> (try split) <;> omega
theorem cz_ge {x z : Int} : 0 ≤ cz x z ↔ z ≤ x := by unfold cz; split <;> (try split) <;> omega
theorem cz_eq {x z : Int} : cz x z = 0 ↔ x = z := by unfold cz; split <;> (try split) <;> omega
-- the ends
theorem W_mono {H : Heap} {locs : List Loc} {Q' : State → Prop} {g : JFrame} (hq : ∀ t, Q' t → Q t) (k : W p l e R s m args below meth c H locs cells slots Q' g) : W p l e R s m args below meth c H locs cells slots Q g := by
  intro T hT X
  obtain ⟨t, h1, h2⟩ := k T hT X
  exact ⟨t, h1, hq t h2⟩
theorem yG_now {H : Heap} {locs : List Loc} {U : State} (hG : yG d b s) (hS : va_S (fun q => b ≤ q) s.heap H locs) (hH : U.heap = H) (hW : s.WarmedH U.vm) : yG d b U :=
  yG_to hW (fun q h1 h2 => by rw [hH]; exact hS.2.1 q h1 h2) hG
theorem yPre_now (C : yC p l s m args meth c y cc nL ret tb d b) {H : Heap} {locs : List Loc} {U : State} (a1 : H.size = b + n) (a2 : yP d.1 b h H) (a4 : va_S (fun q => b ≤ q) s.heap H locs) (hH : U.heap = H) (hW : s.WarmedH U.vm) : yPre d b n h U :=
  ⟨by rw [hH]; exact a1, by rw [hH]; exact a2, va_K.moved hW.alike C.2.2.2.2.2.2.2.1, yG_now C.2.2.2.2.2.2.2.2.1 a4 hH hW⟩
variable {post : Option Value → Nat → yH → Prop} {thr : String → Nat → yH → Prop} {mc ms : Nat}
theorem yEnd_of {H : Heap} {locs : List Loc} {g : JFrame} {v : Option Value} (C : yC p l s m args meth c y cc nL ret tb d b) (a1 : H.size = b + n) (a2 : yP d.1 b h H) (a4 : va_S (fun q => b ≤ q) s.heap H locs) (hp : post v n h)
    (k : (∀ t : State, t.heap = H → s.WarmedH t.vm → yQc d b post thr args s (.returned v) t) → W p l e R s m args below meth c H locs mc ms (MQ below (yQc d b post thr) args s mc ms (fun q => b ≤ q)) g) : W p l e R s m args below meth c H locs mc ms (yEnd below s args d b post thr mc ms) g := by
  refine W_mono (fun t ht => ?_) (k (fun t hH hW => ⟨n, h, yPre_now C a1 a2 a4 hH hW, a4.F hH, hp⟩))
  obtain ⟨o, h1, h2, h3, L, h4, h5⟩ := ht
  exact ⟨o, h1, h2, h3, L, h4.2, h5⟩
theorem V_ireturn (C : yC p l s m args meth c y cc nL (some .int) tb d b) {v : Int} (hdg : decode cc pc = .ok (.ireturn, 1)) (h1 : cells ≤ mc) (h2 : slots ≤ ms) (hp : post (some (vi v)) n h) : V p l e R s m args below meth c nL d b (yEnd below s args d b post thr mc ms) cells slots n h pc lv [vi v] :=
  fun H locs ls a1 a2 a4 a5 => W.widen h1 h2 (yEnd_of C a1 a2 a4 hp (fun hq => W.iret C.1 C.2.1 C.2.2.2.1 hq a4.2.2 hdg C.2.2.2.2.2.2.1))
theorem V_zreturn (C : yC p l s m args meth c y cc nL (some .boolean) tb d b) {v : Int} (hdg : decode cc pc = .ok (.ireturn, 1)) (hv : v = 0 ∨ v = 1) (h1 : cells ≤ mc) (h2 : slots ≤ ms) (hp : post (some (vi v)) n h) : V p l e R s m args below meth c nL d b (yEnd below s args d b post thr mc ms) cells slots n h pc lv [vi v] :=
  fun H locs ls a1 a2 a4 a5 => W.widen h1 h2 (yEnd_of C a1 a2 a4 hp (fun hq => W.zret C.1 C.2.1 C.2.2.2.1 (by rcases hv with rfl | rfl <;> rfl) hq a4.2.2 hdg C.2.2.2.2.2.2.1))
theorem V_lreturn (C : yC p l s m args meth c y cc nL (some .long) tb d b) {v : Int} (hdg : decode cc pc = .ok (.lreturn, 1)) (h1 : cells ≤ mc) (h2 : slots ≤ ms) (hp : post (some (vj v)) n h) : V p l e R s m args below meth c nL d b (yEnd below s args d b post thr mc ms) cells slots n h pc lv [vj v] :=
  fun H locs ls a1 a2 a4 a5 => W.widen h1 h2 (yEnd_of C a1 a2 a4 hp (fun hq => W.lret C.1 C.2.1 C.2.2.2.1 hq a4.2.2 hdg C.2.2.2.2.2.2.1))
theorem V_return (C : yC p l s m args meth c y cc nL none tb d b) (hdg : decode cc pc = .ok (.return_, 1)) (h1 : cells ≤ mc) (h2 : slots ≤ ms) (hp : post none n h) : V p l e R s m args below meth c nL d b (yEnd below s args d b post thr mc ms) cells slots n h pc lv [] :=
  fun H locs ls a1 a2 a4 a5 => W.widen h1 h2 (yEnd_of C a1 a2 a4 hp (fun hq => W.vret C.1 C.2.1 C.2.2.2.1 hq a4.2.2 hdg C.2.2.2.2.2.2.1))
theorem V_areturn {Cn : String} (C : yC p l s m args meth c y cc nL (some (.object Cn)) tb d b) {a : Nat} (hdg : decode cc pc = .ok (.areturn, 1)) (h1 : cells ≤ mc) (h2 : slots ≤ ms) (hp : post (some (.ref a)) n h) : V p l e R s m args below meth c nL d b (yEnd below s args d b post thr mc ms) cells slots n h pc lv [.ref a] :=
  fun H locs ls a1 a2 a4 a5 => W.widen h1 h2 (yEnd_of C a1 a2 a4 hp (fun hq => W.aret C.1 C.2.1 C.2.2.2.1 (Or.inl ⟨Cn, rfl⟩) (Or.inr ⟨a, rfl⟩) hq a4.2.2 hdg C.2.2.2.2.2.2.1))
-- a throw under way
def WT (p : Program) (l : Launch) (e : Env) (R : Room) (s : State) (m : MethodId) (args : Array Value) (below : List Frame) (meth : Method) (c : Code) (H : Heap) (locs : List Loc) (cells slots : Nat) (Q : State → Prop) (g : JFrame) (a : Nat) : Prop :=
  ∀ T : State, T.heap = H → Stand p l e R s m args below meth c T locs cells slots → ∃ t, Steps p.tables e below ((T.setTop g).pushFrame (.throwing a)) t ∧ Q t
def VT (p : Program) (l : Launch) (e : Env) (R : Room) (s : State) (m : MethodId) (args : Array Value) (below : List Frame) (meth : Method) (c : Code) (nL : Nat) (d : yD) (b : Nat) (Q : State → Prop) (cells slots n : Nat) (h : yH) (pc : Nat) (lv : List (Nat × Value)) (Cx : String) : Prop :=
  ∀ (H : Heap) (locs : List Loc) (ls : Array Slot) (st : List Value) (a : Nat), H.size = b + n → yP d.1 b h H → va_S (fun q => b ≤ q) s.heap H locs → lv_has ls nL lv → (∃ cell : Cell, H[a]? = some cell ∧ cell.vm.isStatics = false ∧ s.vm.findClass Cx = some cell.cls) → WT p l e R s m args below meth c H locs cells slots Q (F0 m pc ls st) a
theorem VT_leave (C : yC p l s m args meth c y cc nL ret tb d b) {Cx : String} (hout : ∀ x ∈ tb, covers x pc = false) (h1 : cells ≤ mc) (h2 : slots ≤ ms) (hp : thr Cx n h) : VT p l e R s m args below meth c nL d b (yEnd below s args d b post thr mc ms) cells slots n h pc lv Cx := by
  intro H locs ls st a a1 a2 a4 a5 ⟨ce, g1, g2, g3⟩ T hT X
  obtain ⟨st1, hrun, hend, hW, hsame⟩ := X.leaveThrown a (g := F0 m pc ls st) rfl rfl rfl (by rw [C.2.2.2.2.2.2.2.2.2.2.2.1]; exact hout) C.2.2.2.2.2.2.1
  have hH : (T.setFrames (.throwing a :: below)).heap = H := hT
  refine ⟨_, st1, .threw a, hrun, hend, ⟨n, h, yPre_now C a1 a2 a4 hH hW, a4.F hH, Cx, hp, ce, by rw [hH]; exact g1, g2, ?_⟩, locs, ⟨hW, hsame.mono h1 h2⟩, a4.2.2⟩
  rw [hW.alike.findClass]
  exact g3
-- calls
def yGd (w : Cond) : Prop := (w.onTables && w.keeps) = true ∨ ∃ ty, w = .arrayClass ty
theorem yWords {ws0 : Cond} (C : yC p l s m args meth c y cc nL ret tb d b) (h0 : ws0 ∈ yW) : ∀ w ∈ ws0 :: yW, ∀ (a' : Array Value) (U : State), s.WarmedH U.vm → w.before a' U = true := by
  intro w hw a' U hW
  have hw' : w ∈ yW := by
    rcases List.mem_cons.mp hw with e1 | e1
    · rw [e1]; exact h0
    · exact e1
  exact word_at hW (yW_good hw') (C.2.2.2.2.2.1 w hw')
theorem yBlind {As : List Value} : FrameBlind (va_Pc As (yPre d b n h)) := by
  intro a U g mk ⟨q0, q1, q2, q4, q5⟩
  exact ⟨q0, q1, q2, va_K.moved (u := U) (U := U.calling g mk a) (Vm.Alike.refl U.vm) q4, yG_to (s := U) (U := U.calling g mk a) (State.WarmedH.refl U) (fun _ _ _ => rfl) q5⟩
theorem yBackX (C : yC p l s m args meth c y cc nL ret tb d b) {yy : MethodName} {bytes : ByteArray} {maxL fr lo mc0 ms0 : Nat} {ret0 : Option FieldType} {n0 : Nat} {h0 : yH} {As : List Value} {post0 : Option Value → Nat → yH → Prop} {thr0 : String → Nat → yH → Prop}
    (hM : yM l yy bytes maxL ret0 fr lo mc0 ms0 d b n0 h0 As post0 thr0) (hcode : Cond.code yy bytes maxL ret0 ∈ yW) (hini : Cond.initialized yy.cls ∈ yW) (hfr : fr + 1 ≤ R.frames) (hlo : 8 + (maxL + 11) + lo ≤ R.locals) :
    BackX l R p e below s args yy 3 8 (PreOf R mc0 ms0 (va_Pc As (yPre d b n0 h0))) (PostX (yQc d b post0 thr0) mc0 ms0 (fun q => b ≤ q)) :=
  backX_of (bytes := bytes) (maxL := maxL) (ret := ret0) hM yBlind rfl rfl hfr hlo (yWords C hcode) List.mem_cons_self (fun a' U hW => word_at hW (yW_good hini) (C.2.2.2.2.2.1 _ hini))
theorem yCall_go (C : yC p l s m args meth c y cc nL ret tb d b) {H : Heap} {locs : List Loc} {ls : Array Slot} {stk : List Value} {mc0 ms0 : Nat} {post0 : Option Value → Nat → yH → Prop} {thr0 : String → Nat → yH → Prop} {av : Array Value}
    (a4 : va_S (fun q => b ≤ q) s.heap H locs) (a5 : lv_has ls nL lv) {T : State} (hT : T.heap = H) {o : Outcome} {vm₁ : Vm} {B : Pt} (X' : Stand p l e R s m args below meth c B.U B.locs B.cells B.slots)
    (hpost : PostX (yQc d b post0 thr0) mc0 ms0 (fun q => b ≤ q) ⟨T.setVm vm₁, locs, cells, slots⟩ av o B) (hgo : yGo p e below (T.setTop (F0 m pc ls stk)) B.U (F0 m pc ls st) 3 o)
    (kR : ∀ v n' h', post0 v n' h' → V p l e R s m args below meth c nL d b Q (cells + mc0) (slots + ms0) n' h' (pc + 3) lv (v.toList ++ st))
    (kT : ∀ Cx n' h', thr0 Cx n' h' → VT p l e R s m args below meth c nL d b Q (cells + mc0) (slots + ms0) n' h' pc lv Cx) :
    ∃ t, Steps p.tables e below (T.setTop (F0 m pc ls stk)) t ∧ Q t := by
  obtain ⟨U', l2, c2, s2⟩ := B
  obtain ⟨g', mk, t, L, e1, e2, ⟨n', h', ⟨q1, q2, q4, q5⟩, hF, ho⟩, h1, hL, h2, h3⟩ := hpost
  dsimp only [Pt.U, Pt.locs, Pt.cells, Pt.slots] at X' e1 e2 h1 h2 h3 hgo
  subst h1; subst h2; subst h3
  have hF1 : H.size ≤ t.heap.size := by have := hF.1; rw [show ((T.setVm vm₁).calling g' mk av).heap = H from hT] at this; exact this
  have hF2 : ∀ q : Nat, q < H.size → ¬ b ≤ q → t.heap[q]? = H[q]? := by
    intro q g1 g2
    have := hF.2 q (by rw [show ((T.setVm vm₁).calling g' mk av).heap = H from hT]; exact g1) g2
    rw [show ((T.setVm vm₁).calling g' mk av).heap = H from hT] at this
    exact this
  have b4 : va_S (fun q => b ≤ q) s.heap U'.heap (locs ++ L) := by
    rw [e1]
    refine ⟨Nat.le_trans a4.1 hF1, fun q g1 g2 => (hF2 q (by have := a4.1; omega) g2).trans (a4.2.1 q g1 g2), fun q hq => ?_⟩
    rcases List.mem_append.mp hq with z | z
    · exact a4.2.2 q z
    · exact hL q z
  cases o with
  | returned v =>
    obtain ⟨tt, g1, g2⟩ := kR v n' h' ho U'.heap (locs ++ L) ls (by rw [e1]; exact q1) (by rw [e1]; exact q2) b4 a5 U' rfl X'
    exact ⟨tt, Steps.trans hgo g1, g2⟩
  | threw x =>
    obtain ⟨Cx, hx, cell, g1, g2, g3⟩ := ho
    obtain ⟨tt, k1, k2⟩ := kT Cx n' h' hx U'.heap (locs ++ L) ls st x (by rw [e1]; exact q1) (by rw [e1]; exact q2) b4 a5 ⟨cell, by rw [e1]; exact g1, g2, by
      have hw := X'.warmed.alike.findClass (name := Cx)
      rw [e2] at hw
      rw [← hw]
      exact g3⟩ U' rfl X'
    exact ⟨tt, Steps.trans hgo k1, k2⟩
theorem V_callV (C : yC p l s m args meth c y cc nL ret tb d b) {yy : MethodName} {bytes : ByteArray} {maxL fr lo mc0 ms0 index k ci : Nat} {ret0 : Option FieldType} {As stk fs : List Value} {post0 : Option Value → Nat → yH → Prop} {thr0 : String → Nat → yH → Prop} {Cn : String} {Tn : u_T} {Nn : Nat}
    (hM : yM l yy bytes maxL ret0 fr lo mc0 ms0 d b n h (.ref (b + k) :: As) post0 thr0) (hcm : Cond.code yy bytes maxL ret0 ∈ yW) (hw : ∀ w ∈ [Cond.methodLink y.cls index yy, .instanceMethod yy, .selects Cn yy yy, .initialized yy.cls], w ∈ yW)
    (hy : yy.cls ≠ "java/lang/invoke/MethodHandle" ∧ yy.cls ≠ "java/lang/invoke/VarHandle" ∧ (parseMethodDescriptor yy.desc).map (fun d => d.parameters.length) = some As.length)
    (hR : fr + 1 ≤ R.frames ∧ 8 + (maxL + 11) + lo ≤ R.locals ∧ cells + mc0 ≤ R.cells ∧ slots + ms0 ≤ R.slots) (he : h k = some (.inr (ci, fs))) (hci : vwCl[ci]? = some (Cn, Tn, Nn))
    (hs : stk = As.reverse ++ .ref (b + k) :: st) (hst : (st.map fun v => v.category).sum ≤ 8) (hdg : decode cc pc = .ok (.invokevirtual index, 3))
    (kR : ∀ v n' h', post0 v n' h' → V p l e R s m args below meth c nL d b Q (cells + mc0) (slots + ms0) n' h' (pc + 3) lv (v.toList ++ st))
    (kT : ∀ Cx n' h', thr0 Cx n' h' → VT p l e R s m args below meth c nL d b Q (cells + mc0) (slots + ms0) n' h' pc lv Cx) : V p l e R s m args below meth c nL d b Q cells slots n h pc lv stk := by
  intro H locs ls a1 a2 a4 a5 T hT X
  have hts := C.2.2.2.2.2.1
  obtain ⟨q', h1, cell, g1, g2, g3, -⟩ := a2 k _ he
  have hlen : ∀ sig, parseMethodDescriptor yy.desc = some sig → As.length = sig.parameters.length := fun sig hsig => by
    have h9 := hy.2.2
    rw [hsig] at h9
    exact (Option.some.inj h9).symm
  obtain ⟨o, vm₁, B, hW₁, X', hpost, hgo⟩ := callVX (g := F0 m pc ls stk) (argsL := As) (rest := st) X C.1 C.2.2.2.2.1 (hts _ (hw (.methodLink y.cls index yy) (by simp))) (hts _ (hw (.instanceMethod yy) (by simp))) (hts _ (hw (.selects Cn yy yy) (by simp))) (hts _ hcm) ⟨hy.1, hy.2.1⟩
    (yBackX C hM hcm (hw (.initialized yy.cls) (by simp)) hR.1 hR.2.1) (b := b + k) (cellB := cell) (by rw [hT]; exact g1) (by rw [g3]; rfl) (by rw [g2]; exact (C.2.2.2.2.2.2.2.1.1 ci _ hci).2.1) rfl (by rw [C.2.2.1]; exact a5.1) hlen hs (by show 2 * 0 + _ ≤ 8; omega) (by rw [C.2.1]; exact hdg)
    (fun vm₁ hW₁ => ⟨hR.2.2.1, hR.2.2.2, rfl, yPre_now C a1 a2 a4 (U := T.setVm vm₁) hT hW₁⟩)
  exact yCall_go C a4 a5 hT X' hpost hgo kR kT
theorem V_callS (C : yC p l s m args meth c y cc nL ret tb d b) {yy : MethodName} {bytes : ByteArray} {maxL fr lo mc0 ms0 index : Nat} {ret0 : Option FieldType} {As stk : List Value} {post0 : Option Value → Nat → yH → Prop} {thr0 : String → Nat → yH → Prop}
    (hM : yM l yy bytes maxL ret0 fr lo mc0 ms0 d b n h As post0 thr0) (hcm : Cond.code yy bytes maxL ret0 ∈ yW) (hw : ∀ w ∈ [Cond.methodLink y.cls index yy, .static yy, .initialized yy.cls], w ∈ yW)
    (hy : yy.cls ≠ "java/lang/invoke/MethodHandle" ∧ yy.cls ≠ "java/lang/invoke/VarHandle" ∧ (parseMethodDescriptor yy.desc).map (fun d => d.parameters.length) = some As.length)
    (hR : fr + 1 ≤ R.frames ∧ 8 + (maxL + 11) + lo ≤ R.locals ∧ cells + mc0 ≤ R.cells ∧ slots + ms0 ≤ R.slots)
    (hs : stk = As.reverse ++ st) (hst : (st.map fun v => v.category).sum ≤ 8) (hdg : decode cc pc = .ok (.invokestatic index, 3))
    (kR : ∀ v n' h', post0 v n' h' → V p l e R s m args below meth c nL d b Q (cells + mc0) (slots + ms0) n' h' (pc + 3) lv (v.toList ++ st))
    (kT : ∀ Cx n' h', thr0 Cx n' h' → VT p l e R s m args below meth c nL d b Q (cells + mc0) (slots + ms0) n' h' pc lv Cx) : V p l e R s m args below meth c nL d b Q cells slots n h pc lv stk := by
  intro H locs ls a1 a2 a4 a5 T hT X
  have hts := C.2.2.2.2.2.1
  have hlen : ∀ sig, parseMethodDescriptor yy.desc = some sig → As.length = sig.parameters.length := fun sig hsig => by
    have h9 := hy.2.2
    rw [hsig] at h9
    exact (Option.some.inj h9).symm
  obtain ⟨o, vm₁, B, hW₁, X', hpost, hgo⟩ := callSX (g := F0 m pc ls stk) (argsL := As) (rest := st) X C.1 C.2.2.2.2.1 (hts _ (hw (.methodLink y.cls index yy) (by simp))) (hts _ (hw (.static yy) (by simp))) (hts _ (hw (.initialized yy.cls) (by simp))) (hts _ hcm) ⟨hy.1, hy.2.1⟩
    (yBackX C hM hcm (hw (.initialized yy.cls) (by simp)) hR.1 hR.2.1) rfl (by rw [C.2.2.1]; exact a5.1) hlen hs (by show 2 * 0 + _ ≤ 8; omega) (by rw [C.2.1]; exact hdg)
    (fun vm₁ hW₁ => ⟨hR.2.2.1, hR.2.2.2, rfl, yPre_now C a1 a2 a4 (U := T.setVm vm₁) hT hW₁⟩)
  exact yCall_go C a4 a5 hT X' hpost hgo kR kT
theorem V_callI (C : yC p l s m args meth c y cc nL ret tb d b) {yy : MethodName} {bytes : ByteArray} {maxL fr lo mc0 ms0 index a : Nat} {As stk : List Value} {post0 : Option Value → Nat → yH → Prop} {thr0 : String → Nat → yH → Prop}
    (hM : yM l yy bytes maxL none fr lo mc0 ms0 d b n h (.ref a :: As) post0 thr0) (hcm : Cond.code yy bytes maxL none ∈ yW) (hw : ∀ w ∈ [Cond.methodLink y.cls index yy, .instanceMethod yy, .initialized yy.cls], w ∈ yW)
    (hy : yy.cls ≠ "java/lang/invoke/MethodHandle" ∧ yy.cls ≠ "java/lang/invoke/VarHandle" ∧ (parseMethodDescriptor yy.desc).map (fun d => d.parameters.length) = some As.length) (hname : yy.name = "<init>")
    (hR : fr + 1 ≤ R.frames ∧ 8 + (maxL + 11) + lo ≤ R.locals ∧ cells + mc0 ≤ R.cells ∧ slots + ms0 ≤ R.slots)
    (hs : stk = As.reverse ++ .ref a :: st) (hst : (st.map fun v => v.category).sum ≤ 8) (hdg : decode cc pc = .ok (.invokespecial index, 3))
    (kR : ∀ v n' h', post0 v n' h' → V p l e R s m args below meth c nL d b Q (cells + mc0) (slots + ms0) n' h' (pc + 3) lv (v.toList ++ st))
    (kT : ∀ Cx n' h', thr0 Cx n' h' → VT p l e R s m args below meth c nL d b Q (cells + mc0) (slots + ms0) n' h' pc lv Cx) : V p l e R s m args below meth c nL d b Q cells slots n h pc lv stk := by
  intro H locs ls a1 a2 a4 a5 T hT X
  have hts := C.2.2.2.2.2.1
  have hlen : ∀ sig, parseMethodDescriptor yy.desc = some sig → As.length = sig.parameters.length := fun sig hsig => by
    have h9 := hy.2.2
    rw [hsig] at h9
    exact (Option.some.inj h9).symm
  obtain ⟨o, vm₁, B, hW₁, X', hpost, hgo⟩ := callIX (g := F0 m pc ls stk) (argsL := As) (rest := st) X C.1 C.2.2.2.2.1 hname (hts _ (hw (.methodLink y.cls index yy) (by simp))) (hts _ (hw (.instanceMethod yy) (by simp))) (hts _ hcm) ⟨hy.1, hy.2.1⟩
    (yBackX C hM hcm (hw (.initialized yy.cls) (by simp)) hR.1 hR.2.1) rfl (by rw [C.2.2.1]; exact a5.1) (a := a) hlen hs (by show 2 * 0 + _ ≤ 8; omega) (by rw [C.2.1]; exact hdg)
    (fun vm₁ hW₁ => ⟨hR.2.2.1, hR.2.2.2, rfl, yPre_now C a1 a2 a4 (U := T.setVm vm₁) hT hW₁⟩)
  exact yCall_go C a4 a5 hT X' hpost hgo kR kT
theorem V_callIN (C : yC p l s m args meth c y cc nL ret tb d b) {yy : MethodName} {bytes : ByteArray} {maxL fr lo mc0 ms0 index a : Nat} {host : String} {As stk : List Value} {post0 : Option Value → Nat → yH → Prop} {thr0 : String → Nat → yH → Prop}
    (hM : yM l yy bytes maxL none fr lo mc0 ms0 d b n h (.ref a :: As) post0 thr0) (hcm : Cond.code yy bytes maxL none ∈ yW) (hlink : Cond.methodLinkNest y.cls index yy host ∈ yNs) (hw : ∀ w ∈ [Cond.instanceMethod yy, .initialized yy.cls], w ∈ yW)
    (hy : yy.cls ≠ "java/lang/invoke/MethodHandle" ∧ yy.cls ≠ "java/lang/invoke/VarHandle" ∧ (parseMethodDescriptor yy.desc).map (fun d => d.parameters.length) = some As.length) (hname : yy.name = "<init>")
    (hR : fr + 1 ≤ R.frames ∧ 8 + (maxL + 11) + lo ≤ R.locals ∧ cells + mc0 ≤ R.cells ∧ slots + ms0 ≤ R.slots)
    (hs : stk = As.reverse ++ .ref a :: st) (hst : (st.map fun v => v.category).sum ≤ 8) (hdg : decode cc pc = .ok (.invokespecial index, 3))
    (kR : ∀ v n' h', post0 v n' h' → V p l e R s m args below meth c nL d b Q (cells + mc0) (slots + ms0) n' h' (pc + 3) lv (v.toList ++ st))
    (kT : ∀ Cx n' h', thr0 Cx n' h' → VT p l e R s m args below meth c nL d b Q (cells + mc0) (slots + ms0) n' h' pc lv Cx) : V p l e R s m args below meth c nL d b Q cells slots n h pc lv stk := by
  intro H locs ls a1 a2 a4 a5 T hT X
  have hts := C.2.2.2.2.2.1
  have hlen : ∀ sig, parseMethodDescriptor yy.desc = some sig → As.length = sig.parameters.length := fun sig hsig => by
    have h9 := hy.2.2
    rw [hsig] at h9
    exact (Option.some.inj h9).symm
  obtain ⟨o, vm₁, B, hW₁, X', hpost, hgo⟩ := callINX (g := F0 m pc ls stk) (argsL := As) (rest := st) X C.1 C.2.2.2.2.1 hname (va_Nw.use (yNs_on hlink) (C.2.2.2.2.2.2.2.2.1.1 _ hlink)) (hts _ (hw (.instanceMethod yy) (by simp))) (hts _ hcm) ⟨hy.1, hy.2.1⟩
    (yBackX C hM hcm (hw (.initialized yy.cls) (by simp)) hR.1 hR.2.1) rfl (by rw [C.2.2.1]; exact a5.1) (a := a) hlen hs (by show 2 * 0 + _ ≤ 8; omega) (by rw [C.2.1]; exact hdg)
    (fun vm₁ hW₁ => ⟨hR.2.2.1, hR.2.2.2, rfl, yPre_now C a1 a2 a4 (U := T.setVm vm₁) hT hW₁⟩)
  exact yCall_go C a4 a5 hT X' hpost hgo kR kT
end YV
/-- A CONTRACT OUT OF THE WALK OF ITS BODY -/
theorem yM_of {l : Launch} (hl : yL l) {y : MethodName} {cc : ByteArray} {maxL fr lo mc ms : Nat} {ret : Option FieldType} {d : yD} {b n : Nat} {h : yH} {As : List Value} {post : Option Value → Nat → yH → Prop} {thr : String → Nat → yH → Prop}
    (hy : plainName y.cls = true) (hA : (lg_sl As).length ≤ maxL)
    (body : ∀ (p : Program) (e : Env) (s : State) (m : MethodId) (args : Array Value) (below : List Frame) (meth : Method) (c : Code), yC p l s m args meth c y cc maxL ret [] d b → V p l e (yRm fr lo mc ms) s m args below meth c maxL d b (yEnd below s args d b post thr mc ms) 0 0 n h 0 (lv_args 0 As) []) :
    yM l y cc maxL ret fr lo mc ms d b n h As post thr := by
  unfold yM MX
  refine MetFree.of_bodyS (code := cc) (maxLocals := maxL) (ret := ret) hy ?_ ?_
  · intro args s m hh hn
    obtain ⟨meth, c, h1, h2, h3, h4, h5, h6, -, -⟩ := Cond.code_spec hn (atoms_spec (ws := .code y cc maxL ret :: yW) hh _ List.mem_cons_self)
    exact ⟨meth, c, h1, h2, h3, h4, h5, h6⟩
  · intro p e s m args below meth c s₁ B hml hP _
    have hh0 : s₁.heap = s.heap := by rw [B.state]; rfl
    obtain ⟨rfl, q1, q2, q4, q5⟩ := hP
    have hts := atoms_spec (ws := .code y cc maxL ret :: yW) B.pre
    have hex : c.exceptionTable.toList = [] := by
      have h9 := B.noHandlers (hts _ List.mem_cons_self)
      have h8 : c.exceptionTable.size = 0 := by simpa [Array.isEmpty] using h9
      exact List.eq_nil_of_length_eq_zero (by simpa using h8)
    have C : yC p l s m As.toArray meth c y cc maxL ret [] d b := ⟨B.exec, B.bytes, hml, B.returns, findClass_of_methodNamed B.named, fun w hw => hts w (List.mem_cons_of_mem _ hw), B.notSynchronized, q4, q5, by omega, (name_of_methodNamed B.named B.method).1, hex, hl⟩
    have K := body p e s m As.toArray below meth c C s.heap [] _ q1 q2 va_S.rf (lv_entry As hA)
    rw [← lg_entry_eq] at K
    obtain ⟨t, g1, o, g2, g3, g4⟩ := K s₁ hh0 (Stand.of_body B)
    exact ⟨t, o, g1, g2, g3, g4.1, g4.2⟩
