theorem d_Jmin_0 : decode b_Jmin 0 = .ok (.iload_n 0, 1) := by decide +kernel
theorem d_Jmin_1 : decode b_Jmin 1 = .ok (.iload_n 1, 1) := by decide +kernel
theorem d_Jmin_2 : decode b_Jmin 2 = .ok (.if_icmp .gt 7, 3) := by decide +kernel
theorem d_Jmin_5 : decode b_Jmin 5 = .ok (.iload_n 0, 1) := by decide +kernel
theorem d_Jmin_6 : decode b_Jmin 6 = .ok (.goto 4, 3) := by decide +kernel
theorem d_Jmin_9 : decode b_Jmin 9 = .ok (.iload_n 1, 1) := by decide +kernel
theorem d_Jmin_10 : decode b_Jmin 10 = .ok (.ireturn, 1) := by decide +kernel
theorem d_Jmax_0 : decode b_Jmax 0 = .ok (.iload_n 0, 1) := by decide +kernel
theorem d_Jmax_1 : decode b_Jmax 1 = .ok (.iload_n 1, 1) := by decide +kernel
theorem d_Jmax_2 : decode b_Jmax 2 = .ok (.if_icmp .lt 7, 3) := by decide +kernel
theorem d_Jmax_5 : decode b_Jmax 5 = .ok (.iload_n 0, 1) := by decide +kernel
theorem d_Jmax_6 : decode b_Jmax 6 = .ok (.goto 4, 3) := by decide +kernel
theorem d_Jmax_9 : decode b_Jmax 9 = .ok (.iload_n 1, 1) := by decide +kernel
theorem d_Jmax_10 : decode b_Jmax 10 = .ok (.ireturn, 1) := by decide +kernel
theorem d_JfloorMod_0 : decode b_JfloorMod 0 = .ok (.iload_n 0, 1) := by decide +kernel
theorem d_JfloorMod_1 : decode b_JfloorMod 1 = .ok (.iload_n 1, 1) := by decide +kernel
theorem d_JfloorMod_2 : decode b_JfloorMod 2 = .ok (.irem, 1) := by decide +kernel
theorem d_JfloorMod_3 : decode b_JfloorMod 3 = .ok (.istore_n 2, 1) := by decide +kernel
theorem d_JfloorMod_4 : decode b_JfloorMod 4 = .ok (.iload_n 0, 1) := by decide +kernel
theorem d_JfloorMod_5 : decode b_JfloorMod 5 = .ok (.iload_n 1, 1) := by decide +kernel
theorem d_JfloorMod_6 : decode b_JfloorMod 6 = .ok (.ixor, 1) := by decide +kernel
theorem d_JfloorMod_7 : decode b_JfloorMod 7 = .ok (.ifCond .ge 11, 3) := by decide +kernel
theorem d_JfloorMod_10 : decode b_JfloorMod 10 = .ok (.iload_n 2, 1) := by decide +kernel
theorem d_JfloorMod_11 : decode b_JfloorMod 11 = .ok (.ifCond .eq 7, 3) := by decide +kernel
theorem d_JfloorMod_14 : decode b_JfloorMod 14 = .ok (.iload_n 2, 1) := by decide +kernel
theorem d_JfloorMod_15 : decode b_JfloorMod 15 = .ok (.iload_n 1, 1) := by decide +kernel
theorem d_JfloorMod_16 : decode b_JfloorMod 16 = .ok (.iadd, 1) := by decide +kernel
theorem d_JfloorMod_17 : decode b_JfloorMod 17 = .ok (.ireturn, 1) := by decide +kernel
theorem d_JfloorMod_18 : decode b_JfloorMod 18 = .ok (.iload_n 2, 1) := by decide +kernel
theorem d_JfloorMod_19 : decode b_JfloorMod 19 = .ok (.ireturn, 1) := by decide +kernel
theorem d_JfloorDiv_0 : decode b_JfloorDiv 0 = .ok (.iload_n 0, 1) := by decide +kernel
theorem d_JfloorDiv_1 : decode b_JfloorDiv 1 = .ok (.iload_n 1, 1) := by decide +kernel
theorem d_JfloorDiv_2 : decode b_JfloorDiv 2 = .ok (.idiv, 1) := by decide +kernel
theorem d_JfloorDiv_3 : decode b_JfloorDiv 3 = .ok (.istore_n 2, 1) := by decide +kernel
theorem d_JfloorDiv_4 : decode b_JfloorDiv 4 = .ok (.iload_n 0, 1) := by decide +kernel
theorem d_JfloorDiv_5 : decode b_JfloorDiv 5 = .ok (.iload_n 1, 1) := by decide +kernel
theorem d_JfloorDiv_6 : decode b_JfloorDiv 6 = .ok (.ixor, 1) := by decide +kernel
theorem d_JfloorDiv_7 : decode b_JfloorDiv 7 = .ok (.ifCond .ge 14, 3) := by decide +kernel
theorem d_JfloorDiv_10 : decode b_JfloorDiv 10 = .ok (.iload_n 2, 1) := by decide +kernel
theorem d_JfloorDiv_11 : decode b_JfloorDiv 11 = .ok (.iload_n 1, 1) := by decide +kernel
theorem d_JfloorDiv_12 : decode b_JfloorDiv 12 = .ok (.imul, 1) := by decide +kernel
theorem d_JfloorDiv_13 : decode b_JfloorDiv 13 = .ok (.iload_n 0, 1) := by decide +kernel
theorem d_JfloorDiv_14 : decode b_JfloorDiv 14 = .ok (.if_icmp .eq 7, 3) := by decide +kernel
theorem d_JfloorDiv_17 : decode b_JfloorDiv 17 = .ok (.iload_n 2, 1) := by decide +kernel
theorem d_JfloorDiv_18 : decode b_JfloorDiv 18 = .ok (.iconst 1, 1) := by decide +kernel
theorem d_JfloorDiv_19 : decode b_JfloorDiv 19 = .ok (.isub, 1) := by decide +kernel
theorem d_JfloorDiv_20 : decode b_JfloorDiv 20 = .ok (.ireturn, 1) := by decide +kernel
theorem d_JfloorDiv_21 : decode b_JfloorDiv 21 = .ok (.iload_n 2, 1) := by decide +kernel
theorem d_JfloorDiv_22 : decode b_JfloorDiv 22 = .ok (.ireturn, 1) := by decide +kernel
theorem d_JfloorDivL_0 : decode b_JfloorDivL 0 = .ok (.lload_n 0, 1) := by decide +kernel
theorem d_JfloorDivL_1 : decode b_JfloorDivL 1 = .ok (.lload_n 2, 1) := by decide +kernel
theorem d_JfloorDivL_2 : decode b_JfloorDivL 2 = .ok (.ldiv, 1) := by decide +kernel
theorem d_JfloorDivL_3 : decode b_JfloorDivL 3 = .ok (.lstore 4, 2) := by decide +kernel
theorem d_JfloorDivL_5 : decode b_JfloorDivL 5 = .ok (.lload_n 0, 1) := by decide +kernel
theorem d_JfloorDivL_6 : decode b_JfloorDivL 6 = .ok (.lload_n 2, 1) := by decide +kernel
theorem d_JfloorDivL_7 : decode b_JfloorDivL 7 = .ok (.lxor, 1) := by decide +kernel
theorem d_JfloorDivL_8 : decode b_JfloorDivL 8 = .ok (.lconst 0, 1) := by decide +kernel
theorem d_JfloorDivL_9 : decode b_JfloorDivL 9 = .ok (.lcmp, 1) := by decide +kernel
theorem d_JfloorDivL_10 : decode b_JfloorDivL 10 = .ok (.ifCond .ge 17, 3) := by decide +kernel
theorem d_JfloorDivL_13 : decode b_JfloorDivL 13 = .ok (.lload 4, 2) := by decide +kernel
theorem d_JfloorDivL_15 : decode b_JfloorDivL 15 = .ok (.lload_n 2, 1) := by decide +kernel
theorem d_JfloorDivL_16 : decode b_JfloorDivL 16 = .ok (.lmul, 1) := by decide +kernel
theorem d_JfloorDivL_17 : decode b_JfloorDivL 17 = .ok (.lload_n 0, 1) := by decide +kernel
theorem d_JfloorDivL_18 : decode b_JfloorDivL 18 = .ok (.lcmp, 1) := by decide +kernel
theorem d_JfloorDivL_19 : decode b_JfloorDivL 19 = .ok (.ifCond .eq 8, 3) := by decide +kernel
theorem d_JfloorDivL_22 : decode b_JfloorDivL 22 = .ok (.lload 4, 2) := by decide +kernel
theorem d_JfloorDivL_24 : decode b_JfloorDivL 24 = .ok (.lconst 1, 1) := by decide +kernel
theorem d_JfloorDivL_25 : decode b_JfloorDivL 25 = .ok (.lsub, 1) := by decide +kernel
theorem d_JfloorDivL_26 : decode b_JfloorDivL 26 = .ok (.lreturn, 1) := by decide +kernel
theorem d_JfloorDivL_27 : decode b_JfloorDivL 27 = .ok (.lload 4, 2) := by decide +kernel
theorem d_JfloorDivL_29 : decode b_JfloorDivL 29 = .ok (.lreturn, 1) := by decide +kernel
/-! java/lang/Math: min, max, floorMod, floorDiv; switches; the sign of an exclusive or -/
theorem ixor_lt {x z : Int} (hx : inI x) (hz : inI z) (h0 : 0 < z) : (iI x ^^^ iI z).toInt < 0 ↔ x < 0 := by
  have e1 : (iI x ^^^ iI z).toInt = ((iI x).toBitVec ^^^ (iI z).toBitVec).toInt := rfl
  have e2 : (iI x).toBitVec.toInt = x := iI_int hx
  have e3 : (iI z).toBitVec.toInt = z := iI_int hz
  have m1 := BitVec.msb_eq_toInt (x := (iI x).toBitVec ^^^ (iI z).toBitVec)
  have m2 := BitVec.msb_eq_toInt (x := (iI x).toBitVec)
  have m3 := BitVec.msb_eq_toInt (x := (iI z).toBitVec)
  rw [BitVec.msb_xor, m2, m3, e2, e3, decide_eq_false (show ¬ z < 0 by omega), Bool.xor_false] at m1
  rw [e1]
  constructor
  · intro q
    rw [decide_eq_true q] at m1
    exact of_decide_eq_true m1
  · intro q
    rw [decide_eq_true q] at m1
    exact of_decide_eq_true m1.symm
theorem lxor_lt {x z : Int} (hx : inJ x) (hz : inJ z) (h0 : 0 < z) : (jI x ^^^ jI z).toInt < 0 ↔ x < 0 := by
  have e1 : (jI x ^^^ jI z).toInt = ((jI x).toBitVec ^^^ (jI z).toBitVec).toInt := rfl
  have e2 : (jI x).toBitVec.toInt = x := jI_int hx
  have e3 : (jI z).toBitVec.toInt = z := jI_int hz
  have m1 := BitVec.msb_eq_toInt (x := (jI x).toBitVec ^^^ (jI z).toBitVec)
  have m2 := BitVec.msb_eq_toInt (x := (jI x).toBitVec)
  have m3 := BitVec.msb_eq_toInt (x := (jI z).toBitVec)
  rw [BitVec.msb_xor, m2, m3, e2, e3, decide_eq_false (show ¬ z < 0 by omega), Bool.xor_false] at m1
  rw [e1]
  constructor
  · intro q
    rw [decide_eq_true q] at m1
    exact of_decide_eq_true m1
  · intro q
    rw [decide_eq_true q] at m1
    exact of_decide_eq_true m1.symm
/-- a contract of a method that no entry runs, of a class that has such -/
theorem yM_ofF {l : Launch} (hl : yL l) {y : MethodName} {cc : ByteArray} {maxL fr lo mc ms : Nat} {ret : Option FieldType} {d : yD} {b n : Nat} {h : yH} {As : List Value} {post : Option Value → Nat → yH → Prop} {thr : String → Nat → yH → Prop}
    (hy : plainFor y = true) (hA : (lg_sl As).length ≤ maxL)
    (body : ∀ (p : Program) (e : Env) (s : State) (m : MethodId) (args : Array Value) (below : List Frame) (meth : Method) (c : Code), yC p l s m args meth c y cc maxL ret [] d b → V p l e (yRm fr lo mc ms) s m args below meth c maxL d b (yEnd below s args d b post thr mc ms) 0 0 n h 0 (lv_args 0 As) []) :
    yM l y cc maxL ret fr lo mc ms d b n h As post thr := by
  unfold yM MX
  refine MetFree.of_bodySF (code := cc) (maxLocals := maxL) (ret := ret) hy ?_ ?_
  · intro args s m hh hn
    obtain ⟨meth, c, h1, h2, h3, h4, h5, h6, -, -⟩ := Cond.code_spec hn (atoms_spec (ws := .code y cc maxL ret :: yW) hh _ List.mem_cons_self)
    exact ⟨meth, c, h1, h2, h3, h4, h5, h6⟩
  · intro p e s m args below meth c s₁ B hml hP _
    have hh0 : s₁.heap = s.heap := by rw [B.state]; rfl
    obtain ⟨rfl, q1, q2, q4, q5⟩ := hP
    have hts := atoms_spec (ws := .code y cc maxL ret :: yW) B.pre
    have hex : c.exceptionTable.toList = [] := by
      have h9 := B.noHandlers (hts _ List.mem_cons_self)
      have h8 : c.exceptionTable.size = 0 := by simpa [Array.isEmpty] using h9
      exact List.eq_nil_of_length_eq_zero (by simpa using h8)
    have C : yC p l s m As.toArray meth c y cc maxL ret [] d b := ⟨B.exec, B.bytes, hml, B.returns, findClass_of_methodNamed B.named, fun w hw => hts w (List.mem_cons_of_mem _ hw), B.notSynchronized, q4, q5, by omega, (name_of_methodNamed B.named B.method).1, hex, hl⟩
    have K := body p e s m As.toArray below meth c C s.heap [] _ q1 q2 va_S.rf (lv_entry As hA)
    rw [← lg_entry_eq] at K
    obtain ⟨t, g1, o, g2, g3, g4⟩ := K s₁ hh0 (Stand.of_body B)
    exact ⟨t, o, g1, g2, g3, g4.1, g4.2⟩
section JX
variable {p : Program} {l : Launch} {e : Env} {R : Room} {s : State} {m : MethodId} {args : Array Value} {below : List Frame} {meth : Method} {c : Code} {d : yD} {b : Nat} {Q : State → Prop} {cells slots n : Nat} {h : yH}
variable {nL pc : Nat} {lv : List (Nat × Value)} {st : List Value} {y : MethodName} {cc : ByteArray} {ret : Option FieldType} {tb : List ClassFile.ExceptionTableEntry}
theorem V_ixor (C : yC p l s m args meth c y cc nL ret tb d b) {x z : Int} (hdg : decode cc pc = .ok (.ixor, 1)) (kk : V p l e R s m args below meth c nL d b Q cells slots n h (pc + 1) lv (vi ((iI x ^^^ iI z).toInt) :: st)) : V p l e R s m args below meth c nL d b Q cells slots n h pc lv (vi z :: vi x :: st) := by
  intro H locs ls a1 a2 a4 a5
  have := kk H locs ls a1 a2 a4 a5
  unfold vi at this
  rw [iI_eta] at this
  exact lv_ixor C.1 C.2.1 hdg this
theorem V_lxor (C : yC p l s m args meth c y cc nL ret tb d b) {x z : Int} (hdg : decode cc pc = .ok (.lxor, 1)) (kk : V p l e R s m args below meth c nL d b Q cells slots n h (pc + 1) lv (vj ((jI x ^^^ jI z).toInt) :: st)) : V p l e R s m args below meth c nL d b Q cells slots n h pc lv (vj z :: vj x :: st) := by
  intro H locs ls a1 a2 a4 a5
  have := kk H locs ls a1 a2 a4 a5
  unfold vj at this
  rw [jI_eta] at this
  exact lv_lxor C.1 C.2.1 hdg this
theorem V_tsw (C : yC p l s m args meth c y cc nL ret tb d b) {dflt lo hi : Int} {offs : Array Int} {len : Nat} {x : Int} (hx : inI x) (hdg : decode cc pc = .ok (.tableswitch dflt lo hi offs, len))
    (kin : lo ≤ x → x ≤ hi → ∃ (off : Int) (tgt : Nat), offs[(x - lo).toNat]? = some off ∧ (pc : Int) + off = (tgt : Int) ∧ V p l e R s m args below meth c nL d b Q cells slots n h tgt lv st)
    (kout : x < lo ∨ hi < x → ∃ tgt : Nat, (pc : Int) + dflt = (tgt : Int) ∧ V p l e R s m args below meth c nL d b Q cells slots n h tgt lv st) : V p l e R s m args below meth c nL d b Q cells slots n h pc lv (vi x :: st) := by
  intro H locs ls a1 a2 a4 a5
  have e1 := iI_int hx
  by_cases q : x < lo ∨ hi < x
  · obtain ⟨tgt, h1, h2⟩ := kout q
    exact lv_tableOut C.1 C.2.1 hdg (by rw [e1]; exact q) h1 (h2 H locs ls a1 a2 a4 a5)
  · obtain ⟨off, tgt, h1, h2, h3⟩ := kin (by omega) (by omega)
    exact lv_tableIn C.1 C.2.1 hdg (by rw [e1]; omega) (by rw [e1]; omega) (by rw [e1]; exact h1) h2 (h3 H locs ls a1 a2 a4 a5)
theorem V_lsw (C : yC p l s m args meth c y cc nL ret tb d b) {dflt : Int} {ps : Array (Int × Int)} {len : Nat} {x : Int} (hx : inI x) (hdg : decode cc pc = .ok (.lookupswitch dflt ps, len)) (hp : (ps.toList.zip (ps.toList.drop 1)).all (fun (a, next) => a.1 < next.1) = true)
    {off : Int} {tgt : Nat} (ho : Op.lookupswitch.offset ps.toList dflt x = off) (ht : (pc : Int) + off = (tgt : Int)) (kk : V p l e R s m args below meth c nL d b Q cells slots n h tgt lv st) : V p l e R s m args below meth c nL d b Q cells slots n h pc lv (vi x :: st) :=
  fun H locs ls a1 a2 a4 a5 => lv_lookup C.1 C.2.1 hdg hp (by rw [iI_int hx]; exact ho) ht (kk H locs ls a1 a2 a4 a5)
set_option maxHeartbeats 4000000 in
theorem c_Jmin (hl : yL l) {x z : Int} (hx : inI x) (hz : inI z) : yM l y_Jmin b_Jmin 2 (some .int) 0 0 0 0 d b n h [vi x, vi z] (fun q n' h' => n' = n ∧ h' = h ∧ q = some (vi (min x z))) noT := by
  refine yM_ofF hl (by decide +kernel) (Nat.le_of_ble_eq_true rfl) (fun p e s m args below meth c C => ?_)
  refine V_iload_n C d_Jmin_0 rfl rfl ?_
  refine V_iload_n C d_Jmin_1 rfl rfl ?_
  refine V_icmp_gt (tgt := 9) C d_Jmin_2 (by decide) hx hz (fun q2 => ?_) (fun q2 => ?_)
  · refine V_iload_n C d_Jmin_9 rfl rfl ?_
    exact V_ireturn C d_Jmin_10 (Nat.le_refl _) (Nat.le_refl _) ⟨rfl, rfl, by rw [show min x z = z by omega]⟩
  · refine V_iload_n C d_Jmin_5 rfl rfl ?_
    refine V_goto (tgt := 10) C d_Jmin_6 (by decide) ?_
    exact V_ireturn C d_Jmin_10 (Nat.le_refl _) (Nat.le_refl _) ⟨rfl, rfl, by rw [show min x z = x by omega]⟩
set_option maxHeartbeats 4000000 in
theorem c_Jmax (hl : yL l) {x z : Int} (hx : inI x) (hz : inI z) : yM l y_Jmax b_Jmax 2 (some .int) 0 0 0 0 d b n h [vi x, vi z] (fun q n' h' => n' = n ∧ h' = h ∧ q = some (vi (max x z))) noT := by
  refine yM_ofF hl (by decide +kernel) (Nat.le_of_ble_eq_true rfl) (fun p e s m args below meth c C => ?_)
  refine V_iload_n C d_Jmax_0 rfl rfl ?_
  refine V_iload_n C d_Jmax_1 rfl rfl ?_
  refine V_icmp_lt (tgt := 9) C d_Jmax_2 (by decide) hx hz (fun q2 => ?_) (fun q2 => ?_)
  · refine V_iload_n C d_Jmax_9 rfl rfl ?_
    exact V_ireturn C d_Jmax_10 (Nat.le_refl _) (Nat.le_refl _) ⟨rfl, rfl, by rw [show max x z = z by omega]⟩
  · refine V_iload_n C d_Jmax_5 rfl rfl ?_
    refine V_goto (tgt := 10) C d_Jmax_6 (by decide) ?_
    exact V_ireturn C d_Jmax_10 (Nat.le_refl _) (Nat.le_refl _) ⟨rfl, rfl, by rw [show max x z = x by omega]⟩
/-- for a divisor above 0 the floor quotient is Int's own -/
theorem td_fl {x z : Int} (h0 : 0 < z) : x / z = if x < 0 ∧ x.tdiv z * z ≠ x then x.tdiv z - 1 else x.tdiv z := by
  have e1 := Int.mul_tdiv_add_tmod x z
  have e2 := Int.tmod_lt_of_pos x h0
  have e4 := Int.mul_ediv_add_emod x z
  have e5 := Int.emod_nonneg x (show z ≠ 0 by omega)
  have e6 := Int.emod_lt_of_pos x h0
  have e3 : -z < x.tmod z := by
    rw [← Int.neg_neg (x.tmod z), ← Int.neg_tmod]
    have := Int.tmod_lt_of_pos (-x) h0
    omega
  by_cases q : x < 0
  · have e7 : x.tmod z ≤ 0 := by
      rw [← Int.neg_neg (x.tmod z), ← Int.neg_tmod]
      have := Int.tmod_nonneg (a := -x) z (by omega)
      omega
    by_cases q2 : x.tdiv z * z = x
    · rw [if_neg (fun w => w.2 q2)]
      exact Int.ediv_eq_of_eq_mul_left (by omega) q2.symm
    · rw [if_pos ⟨q, q2⟩]
      have h8 : x.tmod z ≠ 0 := fun w => q2 (by rw [w, Int.add_zero, Int.mul_comm] at e1; exact e1)
      refine (Int.ediv_emod_unique h0 (r := x.tmod z + z)).mpr ⟨?_, by omega, by omega⟩ |>.1
      rw [Int.mul_sub, Int.mul_one]; omega
  · rw [if_neg (fun w => q w.1)]
    exact (Int.tdiv_eq_ediv_of_nonneg (by omega)).symm
theorem tm_fl {x z : Int} (h0 : 0 < z) : x % z = if x.tmod z < 0 then x.tmod z + z else x.tmod z := by
  have e1 := Int.mul_tdiv_add_tmod x z
  have e2 := Int.tmod_lt_of_pos x h0
  have e3 : -z < x.tmod z := by
    rw [← Int.neg_neg (x.tmod z), ← Int.neg_tmod]
    have := Int.tmod_lt_of_pos (-x) h0
    omega
  by_cases q : x.tmod z < 0
  · rw [if_pos q]
    refine ((Int.ediv_emod_unique h0 (q := x.tdiv z - 1) (r := x.tmod z + z)).mpr ⟨?_, by omega, by omega⟩).2
    rw [Int.mul_sub, Int.mul_one]; omega
  · rw [if_neg q]
    refine ((Int.ediv_emod_unique h0 (q := x.tdiv z) (r := x.tmod z)).mpr ⟨?_, by omega, by omega⟩).2
    omega
theorem td_in {x z B : Int} (hx : -B - 1 ≤ x ∧ x ≤ B) (hB : 0 ≤ B) (h0 : 0 < z) : (-B - 1 ≤ x.tdiv z ∧ x.tdiv z ≤ B) ∧ (-B - 1 ≤ x.tmod z ∧ x.tmod z ≤ B) ∧ (-B - 1 ≤ x.tdiv z * z ∧ x.tdiv z * z ≤ B) ∧ (0 ≤ x → 0 ≤ x.tdiv z) ∧ (x.tmod z < 0 → x < 0) ∧ (0 < x.tmod z → 0 ≤ x) ∧ (-z < x.tmod z ∧ x.tmod z < z) := by
  have e1 := Int.mul_tdiv_add_tmod x z
  rw [Int.mul_comm] at e1
  by_cases q : 0 ≤ x
  · have m0 := Int.tmod_nonneg z q
    have m1 := Int.tmod_lt_of_pos x h0
    have m2 : 0 ≤ x.tdiv z := Int.tdiv_nonneg q (by omega)
    have m3 := Int.mul_le_mul_of_nonneg_left (show (1 : Int) ≤ z by omega) m2
    rw [Int.mul_one] at m3
    omega
  · have m0 := Int.tmod_nonneg (a := -x) z (by omega)
    have m1 := Int.tmod_lt_of_pos (-x) h0
    have m2 : 0 ≤ (-x).tdiv z := Int.tdiv_nonneg (by omega) (by omega)
    have m3 := Int.mul_le_mul_of_nonneg_left (show (1 : Int) ≤ z by omega) m2
    rw [Int.mul_one, Int.neg_tdiv, Int.neg_mul] at m3
    rw [Int.neg_tmod] at m0 m1
    rw [Int.neg_tdiv] at m2
    omega
set_option maxHeartbeats 4000000 in
theorem c_JfloorDiv (hl : yL l) {x z : Int} (hx : inI x) (hz : inI z) (h0 : 0 < z) : yM l y_JfloorDiv b_JfloorDiv 3 (some .int) 0 0 0 0 d b n h [vi x, vi z] (fun q n' h' => n' = n ∧ h' = h ∧ q = some (vi (x / z))) noT := by
  refine yM_ofF hl (by decide +kernel) (Nat.le_of_ble_eq_true rfl) (fun p e s m args below meth c C => ?_)
  obtain ⟨i1, i2, i3, i4, -⟩ := td_in (B := 2147483647) hx (by omega) h0
  have e1 := td_fl (x := x) h0
  refine V_iload_n C d_JfloorDiv_0 rfl rfl ?_
  refine V_iload_n C d_JfloorDiv_1 rfl rfl ?_
  refine V_idiv C d_JfloorDiv_2 hx hz (by omega) ?_
  refine V_istore_n C d_JfloorDiv_3 rfl (by decide) rfl ?_
  refine V_iload_n C d_JfloorDiv_4 rfl rfl ?_
  refine V_iload_n C d_JfloorDiv_5 rfl rfl ?_
  refine V_ixor C d_JfloorDiv_6 ?_
  refine V_if_ge (tgt := 21) C d_JfloorDiv_7 (by decide) (inI_x _) (fun q7 => ?_) (fun q7 => ?_)
  · have hn : ¬ x < 0 := fun q => by have := (ixor_lt hx hz h0).mpr q; omega
    rw [if_neg (fun w => hn w.1)] at e1
    refine V_iload_n C d_JfloorDiv_21 rfl rfl ?_
    exact V_ireturn C d_JfloorDiv_22 (Nat.le_refl _) (Nat.le_refl _) ⟨rfl, rfl, by rw [e1]⟩
  · have hn : x < 0 := (ixor_lt hx hz h0).mp (by omega)
    refine V_iload_n C d_JfloorDiv_10 rfl rfl ?_
    refine V_iload_n C d_JfloorDiv_11 rfl rfl ?_
    refine V_imul C d_JfloorDiv_12 ?_
    refine V_iload_n C d_JfloorDiv_13 rfl rfl ?_
    refine V_icmp_eq (tgt := 21) C d_JfloorDiv_14 (by decide) i3 hx (fun q14 => ?_) (fun q14 => ?_)
    · rw [if_neg (fun w => w.2 q14)] at e1
      refine V_iload_n C d_JfloorDiv_21 rfl rfl ?_
      exact V_ireturn C d_JfloorDiv_22 (Nat.le_refl _) (Nat.le_refl _) ⟨rfl, rfl, by rw [e1]⟩
    · rw [if_pos ⟨hn, q14⟩] at e1
      refine V_iload_n C d_JfloorDiv_17 rfl rfl ?_
      refine V_iconst C d_JfloorDiv_18 rfl ?_
      refine V_isub C d_JfloorDiv_19 ?_
      exact V_ireturn C d_JfloorDiv_20 (Nat.le_refl _) (Nat.le_refl _) ⟨rfl, rfl, by rw [e1]⟩
set_option maxHeartbeats 4000000 in
theorem c_JfloorDivL (hl : yL l) {x z : Int} (hx : inJ x) (hz : inJ z) (h0 : 0 < z) : yM l y_JfloorDivL b_JfloorDivL 6 (some .long) 0 0 0 0 d b n h [vj x, vj z] (fun q n' h' => n' = n ∧ h' = h ∧ q = some (vj (x / z))) noT := by
  refine yM_ofF hl (by decide +kernel) (Nat.le_of_ble_eq_true rfl) (fun p e s m args below meth c C => ?_)
  obtain ⟨i1, i2, i3, i4, -⟩ := td_in (B := 9223372036854775807) hx (by omega) h0
  have e1 := td_fl (x := x) h0
  refine V_lload_n C d_JfloorDivL_0 rfl rfl ?_
  refine V_lload_n C d_JfloorDivL_1 rfl rfl ?_
  refine V_ldiv C d_JfloorDivL_2 hx hz (by omega) ?_
  refine V_lstore C d_JfloorDivL_3 (by decide) rfl ?_
  refine V_lload_n C d_JfloorDivL_5 rfl rfl ?_
  refine V_lload_n C d_JfloorDivL_6 rfl rfl ?_
  refine V_lxor C d_JfloorDivL_7 ?_
  refine V_lconst (z := 0) C d_JfloorDivL_8 rfl ?_
  refine V_lcmp C d_JfloorDivL_9 (inJ_x _) inJ_0 ?_
  refine V_if_ge (tgt := 27) C d_JfloorDivL_10 (by decide) (cz_in _ _) (fun q7 => ?_) (fun q7 => ?_)
  · have hn : ¬ x < 0 := fun q => by have := (lxor_lt hx hz h0).mpr q; have := cz_ge.mp q7; omega
    rw [if_neg (fun w => hn w.1)] at e1
    refine V_lload C d_JfloorDivL_27 rfl ?_
    exact V_lreturn C d_JfloorDivL_29 (Nat.le_refl _) (Nat.le_refl _) ⟨rfl, rfl, by rw [e1]⟩
  · have hn : x < 0 := (lxor_lt hx hz h0).mp (Int.not_le.mp fun w => q7 (cz_ge.mpr w))
    refine V_lload C d_JfloorDivL_13 rfl ?_
    refine V_lload_n C d_JfloorDivL_15 rfl rfl ?_
    refine V_lmul C d_JfloorDivL_16 ?_
    refine V_lload_n C d_JfloorDivL_17 rfl rfl ?_
    refine V_lcmp C d_JfloorDivL_18 i3 hx ?_
    refine V_if_eq (tgt := 27) C d_JfloorDivL_19 (by decide) (cz_in _ _) (fun q19 => ?_) (fun q19 => ?_)
    · rw [if_neg (fun w => w.2 (cz_eq.mp q19))] at e1
      refine V_lload C d_JfloorDivL_27 rfl ?_
      exact V_lreturn C d_JfloorDivL_29 (Nat.le_refl _) (Nat.le_refl _) ⟨rfl, rfl, by rw [e1]⟩
    · rw [if_pos ⟨hn, fun w => q19 (cz_eq.mpr w)⟩] at e1
      refine V_lload C d_JfloorDivL_22 rfl ?_
      refine V_lconst (z := 1) C d_JfloorDivL_24 rfl ?_
      refine V_lsub C d_JfloorDivL_25 ?_
      exact V_lreturn C d_JfloorDivL_26 (Nat.le_refl _) (Nat.le_refl _) ⟨rfl, rfl, by rw [e1]⟩
set_option maxHeartbeats 4000000 in
theorem c_JfloorMod (hl : yL l) {x z : Int} (hx : inI x) (hz : inI z) (h0 : 0 < z) : yM l y_JfloorMod b_JfloorMod 3 (some .int) 0 0 0 0 d b n h [vi x, vi z] (fun q n' h' => n' = n ∧ h' = h ∧ q = some (vi (x % z))) noT := by
  refine yM_ofF hl (by decide +kernel) (Nat.le_of_ble_eq_true rfl) (fun p e s m args below meth c C => ?_)
  obtain ⟨i1, i2, i3, i4, i5, i6, i7⟩ := td_in (B := 2147483647) hx (by omega) h0
  have e1 := tm_fl (x := x) h0
  refine V_iload_n C d_JfloorMod_0 rfl rfl ?_
  refine V_iload_n C d_JfloorMod_1 rfl rfl ?_
  refine V_irem C d_JfloorMod_2 hx hz (by omega) ?_
  refine V_istore_n C d_JfloorMod_3 rfl (by decide) rfl ?_
  refine V_iload_n C d_JfloorMod_4 rfl rfl ?_
  refine V_iload_n C d_JfloorMod_5 rfl rfl ?_
  refine V_ixor C d_JfloorMod_6 ?_
  refine V_if_ge (tgt := 18) C d_JfloorMod_7 (by decide) (inI_x _) (fun q7 => ?_) (fun q7 => ?_)
  · have hn : ¬ x < 0 := fun q => by have := (ixor_lt hx hz h0).mpr q; omega
    rw [if_neg (fun w => hn (i5 w))] at e1
    refine V_iload_n C d_JfloorMod_18 rfl rfl ?_
    exact V_ireturn C d_JfloorMod_19 (Nat.le_refl _) (Nat.le_refl _) ⟨rfl, rfl, by rw [e1]⟩
  · have hn : x < 0 := (ixor_lt hx hz h0).mp (by omega)
    refine V_iload_n C d_JfloorMod_10 rfl rfl ?_
    refine V_if_eq (tgt := 18) C d_JfloorMod_11 (by decide) i2 (fun q11 => ?_) (fun q11 => ?_)
    · rw [if_neg (by omega)] at e1
      refine V_iload_n C d_JfloorMod_18 rfl rfl ?_
      exact V_ireturn C d_JfloorMod_19 (Nat.le_refl _) (Nat.le_refl _) ⟨rfl, rfl, by rw [e1]⟩
    · have hneg : x.tmod z < 0 := by
        by_cases q : 0 < x.tmod z
        · have := i6 q; omega
        · omega
      rw [if_pos hneg] at e1
      refine V_iload_n C d_JfloorMod_14 rfl rfl ?_
      refine V_iload_n C d_JfloorMod_15 rfl rfl ?_
      refine V_iadd C d_JfloorMod_16 ?_
      exact V_ireturn C d_JfloorMod_17 (Nat.le_refl _) (Nat.le_refl _) ⟨rfl, rfl, by rw [e1]⟩
end JX
