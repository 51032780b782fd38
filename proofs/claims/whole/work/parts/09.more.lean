section YX
variable {p : Program} {l : Launch} {e : Env} {R : Room} {s : State} {m : MethodId} {args : Array Value} {below : List Frame} {meth : Method} {c : Code} {nL : Nat} {d : yD} {b : Nat} {Q : State → Prop} {cells slots n : Nat} {h : yH} {pc : Nat} {lv : List (Nat × Value)} {st : List Value}
variable {y : MethodName} {cc : ByteArray} {ret : Option FieldType} {tb : List ClassFile.ExceptionTableEntry} {post : Option Value → Nat → yH → Prop} {thr : String → Nat → yH → Prop} {mc ms : Nat}
/-- a new exception with a text, thrown out of the method -/
theorem V_throwS (C : yC p l s m args meth c y cc nL ret tb d b) {ik is ic : Nat} {cls text : String} (hstr : (y.cls, is, text) ∈ yStr) (hk : Cond.classLink y.cls ik cls ∈ yW) (hini : Cond.initialized cls ∈ yW)
    (hat : ∀ w ∈ vx_atS y.cls ic cls ["java/lang/RuntimeException", "java/lang/Exception"], w ∈ yW ∨ w ∈ yNs) (hgood : ∀ w ∈ Cond.classLink y.cls ik cls :: Cond.initialized cls :: vx_atS y.cls ic cls ["java/lang/RuntimeException", "java/lang/Exception"], vx_ot w = true) (hcls : Bundle.fit cls = true)
    (d0 : decode cc pc = .ok (.new ik, 3)) (d3 : decode cc (pc + 3) = .ok (.dup, 1)) (d4 : decode cc (pc + 4) = .ok (.ldc is, 2)) (d6 : decode cc (pc + 6) = .ok (.invokespecial ic, 3)) (d9 : decode cc (pc + 9) = .ok (.athrow, 1))
    (hout : ∀ x ∈ tb, covers x (pc + 9) = false) (hR : 5 < R.frames ∧ (st.map fun v => v.category).sum + 82 ≤ R.locals ∧ cells + 1 ≤ R.cells ∧ slots + 6 ≤ R.slots) (h1 : cells + 1 ≤ mc) (h2 : slots + 6 ≤ ms) (hp : ∀ n', n ≤ n' → thr cls n' h) :
    V p l e R s m args below meth c nL d b (yEnd below s args d b post thr mc ms) cells slots n h pc lv st := by
  intro H locs ls a1 a2 a4 a5
  have hG := C.2.2.2.2.2.2.2.2.1
  have hts := C.2.2.2.2.2.1
  obtain ⟨sa, hsa⟩ := hG.2.1 _ hstr
  refine W_mono (Q' := vx_MQ below (fun _ _ _ _ => False) (fun E _ t => E = cls ∧ s.vm.Alike t.vm ∧ H.size ≤ t.heap.size ∧ ∀ q : Nat, q < H.size → t.heap[q]? = H[q]?) args s mc ms (fun q => b ≤ q)) (fun t ht => ?_)
    (vx_throwS (names := ["java/lang/RuntimeException", "java/lang/Exception"]) (A := fun q => b ≤ q) C.1 C.2.1 C.2.2.2.2.2.2.2.2.2.2.2.2 C.2.2.2.2.1 hcls (by decide +kernel) (hts _ hk) (hts _ hini) hsa (fun w hw => ?_) hgood hG.2.2.2.1 hG.2.2.2.2.1 a4 (by rw [C.2.2.1]; exact a5.1) d0 d3 d4 d6 d9 (by rw [C.2.2.2.2.2.2.2.2.2.2.2.1]; exact hout) hR.1 hR.2.1 hR.2.2.1 hR.2.2.2 C.2.2.2.2.2.2.1 (fun t x1 x2 x3 => ⟨rfl, x1, x2, x3⟩) a4.2.2 h1 h2)
  · obtain ⟨o, k1, k2, k3⟩ := ht
    rcases k3 with ⟨hf, _⟩ | ⟨q, rfl, E, ce, L, ⟨rfl, x1, x2, x3⟩, g1, g2, g3, g4, g5, g6⟩
    · exact hf.elim
    · have hb : b + n ≤ t.heap.size := by rw [← a1]; exact x2
      refine ⟨.threw q, k1, k2, ⟨t.heap.size - b, h, ⟨by omega, fun j e0 he => ?_, va_K.moved g4.alike C.2.2.2.2.2.2.2.1, yG_to g4 (fun q h3 h4 => (x3 q (by have := a4.1; omega)).trans (a4.2.1 q h3 h4)) hG⟩, ⟨Nat.le_trans a4.1 x2, fun q h3 h4 => (x3 q (by have := a4.1; omega)).trans (a4.2.1 q h3 h4)⟩, E, hp _ (by omega), ce, g1, by rw [g2]; rfl, by rw [x1.findClass]; exact g3⟩, L, ⟨g4, g5⟩, g6⟩
      exact (a2 j e0 he).kept (x3 (b + j) (a2 j e0 he).lt)
  · rcases hat w hw with h3 | h3
    · exact hts _ h3
    · exact va_Nw.use (yNs_on h3) (hG.1 _ h3)
/-- a static table -/
theorem V_getT (C : yC p l s m args meth c y cc nL ret tb d b) {index i : Nat} {q : String × List Int} (hq : yTab[i]? = some q) (hlink : Cond.fieldLink y.cls index "YearFractions$Calendars" q.1 "[I" ∈ yW) (hdg : decode cc pc = .ok (.getstatic index, 3)) (kk : V p l e R s m args below meth c nL d b Q cells slots n h (pc + 3) lv (.ref (d.2.2 i) :: st)) : V p l e R s m args below meth c nL d b Q cells slots n h pc lv st :=
  fun H locs ls a1 a2 a4 a5 => va_gets C.1 C.2.1 (C.2.2.2.2.2.2.2.2.1.2.2.1 i q hq).1 a4 C.2.2.2.2.1 (C.2.2.2.2.2.1 _ hlink) (fun x hx => hx) hdg (kk H locs ls a1 a2 a4 a5)
theorem V_ldT (C : yC p l s m args meth c y cc nL ret tb d b) {i : Nat} {q : String × List Int} {z : Int} (hq : yTab[i]? = some q) (h0 : 0 ≤ z) (h1 : z < q.2.length) (hN : q.2.length < 2 ^ 31) (hdg : decode cc pc = .ok (.iaload, 1)) (kk : V p l e R s m args below meth c nL d b Q cells slots n h (pc + 1) lv (vi (q.2.getD z.toNat 0) :: st)) : V p l e R s m args below meth c nL d b Q cells slots n h pc lv (vi z :: .ref (d.2.2 i) :: st) :=
  fun H locs ls a1 a2 a4 a5 => va_ti (v := vi (q.2.getD z.toNat 0)) C.1 C.2.1 (C.2.2.2.2.2.2.2.2.1.2.2.1 i q hq).2 a4 (iI_in h0 h1 hN) (by rw [iI_cl ⟨by omega, by omega⟩]) hdg (kk H locs ls a1 a2 a4 a5)
theorem V_lenT (C : yC p l s m args meth c y cc nL ret tb d b) {i : Nat} {q : String × List Int} {z : Int} (hq : yTab[i]? = some q) (hz : (q.2.length : Int) = z) (hdg : decode cc pc = .ok (.arraylength, 1)) (kk : V p l e R s m args below meth c nL d b Q cells slots n h (pc + 1) lv (vi z :: st)) : V p l e R s m args below meth c nL d b Q cells slots n h pc lv (.ref (d.2.2 i) :: st) :=
  fun H locs ls a1 a2 a4 a5 => va_tlen C.1 C.2.1 (C.2.2.2.2.2.2.2.2.1.2.2.1 i q hq).2 a4 (by rw [iI_nat, hz]) hdg (kk H locs ls a1 a2 a4 a5)
end YX
