/-! ROWS OF THE LAW'S BODY -/
abbrev yl_ : MethodName := ⟨"YearFractionsLaw", "law", "([I)Z"⟩
def yS (s : State) (b sa L : Nat) (xs : Nat → Int32) : Prop := va_X sa L xs s s.heap ∧ sa < s.heap.size ∧ sa < b ∧ L ≤ 2560
/-- the script's int at place z -/
def sx (xs : Nat → Int32) (z : Int) : Int := (xs z.toNat).toInt
/-- two of them as a long -/
def sj (a c : Int) : Int := ((jI a <<< ((iI 32).toInt64 &&& 63)) ||| (jI c &&& jI 4294967295)).toInt
theorem sx_in (xs : Nat → Int32) (z : Int) : inI (sx xs z) := inI_x _
theorem sj_in (a c : Int) : inJ (sj a c) := inJ_x _
theorem sx_and (a : Int) : ∃ k : Nat, k < 16 ∧ Value.int (iI a &&& iI 15) = vi (k : Int) := by
  refine ⟨((iI a).toBitVec &&& 15#32).toNat, ?_, ?_⟩
  · have : ((iI a).toBitVec &&& 15#32).toNat ≤ 15 := by
      rw [BitVec.toNat_and]; exact Nat.and_le_right
    omega
  · show Value.int (iI a &&& iI 15) = Value.int (Int32.ofInt _)
    congr 1
    apply Int32.toBitVec_inj.mp
    rw [Int32.toBitVec_and, Int32.toBitVec_ofInt]
    apply BitVec.eq_of_toNat_eq
    rw [BitVec.ofInt_natCast, BitVec.toNat_ofNat, Nat.mod_eq_of_lt (BitVec.isLt _)]
    rfl
abbrev lvH (sa b : Nat) (i : Int) : List (Nat × Value) := [(0, .ref sa), (1, .ref (b + 0)), (2, .ref (b + 29)), (3, .ref (b + 38)), (4, vi i)]
section LRows2
variable {p : Program} {l : Launch} {e : Env} {R : Room} {s : State} {m : MethodId} {args : Array Value} {below : List Frame} {meth : Method} {c : Code} {nL : Nat} {d : yD} {b : Nat} {Q : State → Prop} {cells slots n : Nat} {h : yH} {pc : Nat} {lv : List (Nat × Value)} {st : List Value}
variable {y : MethodName} {cc : ByteArray} {tb : List ClassFile.ExceptionTableEntry} {sa L : Nat} {xs : Nat → Int32}
variable {ret0 : Option FieldType}
theorem V_sld (C : yC p l s m args meth c y cc nL ret0 tb d b) (S : yS s b sa L xs) {z a : Int} (hz : 0 ≤ z ∧ z < L) (ha : sx xs z = a) (hdg : decode cc pc = .ok (.iaload, 1)) (kk : V p l e R s m args below meth c nL d b Q cells slots n h (pc + 1) lv (vi a :: st)) : V p l e R s m args below meth c nL d b Q cells slots n h pc lv (vi z :: .ref sa :: st) := by
  intro H locs ls a1 a2 a4 a5
  have hcl : (iI z).toNatClampNeg = z.toNat := iI_cl ⟨by omega, by have := S.2.2.2; omega⟩
  refine va_sld (b := sa) (L := L) (xs := xs) C.1 C.2.1 S.1 S.2.1 (fun q => absurd q (by have := S.2.2.1; omega)) a4 (iI_in hz.1 hz.2 (by have := S.2.2.2; omega)) hdg ?_
  rw [hcl]
  have := kk H locs ls a1 a2 a4 a5
  rw [← ha] at this
  unfold vi sx at this
  rw [iI_eta] at this
  exact this
theorem V_slen (C : yC p l s m args meth c y cc nL ret0 tb d b) (S : yS s b sa L xs) (hdg : decode cc pc = .ok (.arraylength, 1)) (kk : V p l e R s m args below meth c nL d b Q cells slots n h (pc + 1) lv (vi (L : Int) :: st)) : V p l e R s m args below meth c nL d b Q cells slots n h pc lv (.ref sa :: st) := by
  intro H locs ls a1 a2 a4 a5
  refine va_slen (b := sa) (L := L) (xs := xs) C.1 C.2.1 S.1 S.2.1 (fun q => absurd q (by have := S.2.2.1; omega)) a4 hdg ?_
  rw [iI_nat]
  exact kk H locs ls a1 a2 a4 a5
theorem V_arg (C : yC p l s m args meth c y cc nL ret0 tb d b) (S : yS s b sa L xs) {i j a : Int} (d0 : decode cc pc = .ok (.aload_n 0, 1)) (d1 : decode cc (pc + 1) = .ok (.iload 4, 2)) (d2 : decode cc (pc + 3) = .ok (.iconst j, 1)) (d3 : decode cc (pc + 4) = .ok (.iadd, 1)) (d4 : decode cc (pc + 5) = .ok (.iaload, 1)) (l0 : lk lv 0 = some (.ref sa)) (l4 : lk lv 4 = some (vi i)) (hz : 0 ≤ i + j ∧ i + j < L) (ha : sx xs (i + j) = a)
    (kk : V p l e R s m args below meth c nL d b Q cells slots n h (pc + 6) lv (vi a :: st)) : V p l e R s m args below meth c nL d b Q cells slots n h pc lv st := by
  refine V_aload_n C d0 rfl l0 ?_
  refine V_iload C d1 l4 ?_
  refine V_iconst C d2 rfl ?_
  refine V_iadd C d3 ?_
  exact V_sld C S hz ha d4 kk
theorem V_land (C : yC p l s m args meth c y cc nL ret0 tb d b) {x z : Int} (hdg : decode cc pc = .ok (.land, 1)) (kk : V p l e R s m args below meth c nL d b Q cells slots n h (pc + 1) lv (.long (jI x &&& jI z) :: st)) : V p l e R s m args below meth c nL d b Q cells slots n h pc lv (vj z :: vj x :: st) :=
  fun H locs ls a1 a2 a4 a5 => lv_land C.1 C.2.1 hdg (kk H locs ls a1 a2 a4 a5)
theorem V_lor (C : yC p l s m args meth c y cc nL ret0 tb d b) {x z : Int64} (hdg : decode cc pc = .ok (.lor, 1)) (kk : V p l e R s m args below meth c nL d b Q cells slots n h (pc + 1) lv (.long (x ||| z) :: st)) : V p l e R s m args below meth c nL d b Q cells slots n h pc lv (.long z :: .long x :: st) :=
  fun H locs ls a1 a2 a4 a5 => lv_lor C.1 C.2.1 hdg (kk H locs ls a1 a2 a4 a5)
theorem V_lshl (C : yC p l s m args meth c y cc nL ret0 tb d b) {x z : Int} (hdg : decode cc pc = .ok (.lshl, 1)) (kk : V p l e R s m args below meth c nL d b Q cells slots n h (pc + 1) lv (.long (jI x <<< ((iI z).toInt64 &&& 63)) :: st)) : V p l e R s m args below meth c nL d b Q cells slots n h pc lv (vi z :: vj x :: st) :=
  fun H locs ls a1 a2 a4 a5 => lv_lshl C.1 C.2.1 hdg rfl (kk H locs ls a1 a2 a4 a5)
theorem V_iand15 (C : yC p l s m args meth c y cc nL ret0 tb d b) {x : Int} (hdg : decode cc pc = .ok (.iand, 1)) (kk : ∀ k : Nat, k < 16 → V p l e R s m args below meth c nL d b Q cells slots n h (pc + 1) lv (vi (k : Int) :: st)) : V p l e R s m args below meth c nL d b Q cells slots n h pc lv (vi 15 :: vi x :: st) := by
  intro H locs ls a1 a2 a4 a5
  obtain ⟨k, hk, e⟩ := sx_and x
  refine lv_iand C.1 C.2.1 hdg ?_
  rw [e]
  exact kk k hk H locs ls a1 a2 a4 a5
theorem V_argJ (C : yC p l s m args meth c yl_ cc nL ret0 tb d b) (S : yS s b sa L xs) {i j j2 a a2 : Int} (d0 : decode cc pc = .ok (.aload_n 0, 1)) (d1 : decode cc (pc + 1) = .ok (.iload 4, 2)) (d2 : decode cc (pc + 3) = .ok (.iconst j, 1)) (d3 : decode cc (pc + 4) = .ok (.iadd, 1)) (d4 : decode cc (pc + 5) = .ok (.iaload, 1))
    (d6 : decode cc (pc + 6) = .ok (.i2l, 1)) (d7 : decode cc (pc + 7) = .ok (.bipush 32, 2)) (d9 : decode cc (pc + 9) = .ok (.lshl, 1))
    (f0 : decode cc (pc + 10) = .ok (.aload_n 0, 1)) (f1 : decode cc (pc + 11) = .ok (.iload 4, 2)) (f2 : decode cc (pc + 13) = .ok (.iconst j2, 1)) (f3 : decode cc (pc + 14) = .ok (.iadd, 1)) (f4 : decode cc (pc + 15) = .ok (.iaload, 1))
    (f6 : decode cc (pc + 16) = .ok (.i2l, 1)) (f7 : decode cc (pc + 17) = .ok (.ldc2_w 75, 3)) (f9 : decode cc (pc + 20) = .ok (.land, 1)) (f10 : decode cc (pc + 21) = .ok (.lor, 1))
    (l0 : lk lv 0 = some (.ref sa)) (l4 : lk lv 4 = some (vi i)) (hz : (0 ≤ i + j ∧ i + j < L) ∧ 0 ≤ i + j2 ∧ i + j2 < L) (ha : sx xs (i + j) = a) (ha2 : sx xs (i + j2) = a2)
    (kk : V p l e R s m args below meth c nL d b Q cells slots n h (pc + 22) lv (vj (sj a a2) :: st)) : V p l e R s m args below meth c nL d b Q cells slots n h pc lv st := by
  refine V_arg C S d0 d1 d2 d3 d4 l0 l4 hz.1 ha ?_
  refine V_i2l C d6 (by rw [← ha]; exact sx_in _ _) ?_
  refine V_bipush (z := 32) C d7 rfl ?_
  refine V_lshl C d9 ?_
  refine V_arg C S f0 f1 f2 f3 f4 l0 l4 hz.2 ha2 ?_
  refine V_i2l C f6 (by rw [← ha2]; exact sx_in _ _) ?_
  refine V_ldc2 (z := 4294967295) C w_Law_law_214 rfl f7 ?_
  refine V_land C f9 ?_
  refine V_lor C f10 ?_
  have kk2 := kk
  unfold vj sj at kk2
  rw [jI_eta] at kk2
  exact kk2
/-- behind the reference's answer -/
theorem L_tail (hl : yL l) (C : yC p l s m args meth c yl_ code 8 ret tb d b) {t : Nat} {off : Int} (D0 : decode code t = .ok (.istore 6, 2)) (D2 : decode code (t + 2) = .ok (.aload_n 2, 1)) (D3 : decode code (t + 3) = .ok (.invokevirtual 71, 3)) (D6 : decode code (t + 6) = .ok (.iload 5, 2)) (D8 : decode code (t + 8) = .ok (.if_icmp .eq 5, 3))
    (D13 : decode code (t + 13) = .ok (.iload 5, 2)) (D15 : decode code (t + 15) = .ok (.ifCond .ne 15, 3)) (D18 : decode code (t + 18) = .ok (.aload_n 3, 1)) (D19 : decode code (t + 19) = .ok (.iconst 0, 1)) (D20 : decode code (t + 20) = .ok (.laload, 1)) (D21 : decode code (t + 21) = .ok (.iload 6, 2)) (D23 : decode code (t + 23) = .ok (.i2l, 1)) (D24 : decode code (t + 24) = .ok (.lcmp, 1)) (D25 : decode code (t + 25) = .ok (.ifCond .eq 5, 3)) (D30 : decode code (t + 30) = .ok (.goto off, 3)) (ht : ((t + 30 : Nat) : Int) + off = (1263 : Nat))
    {k : Nat} {a i : Int} {F : Nat → Int} {w : Vw} (k4 : k ≤ 4) (hM : RepM d b h w (k : Int)) (f38 : h 38 = some (oJ d 1 F)) (hz : k = 0 → F 0 = cI a) (hc : cells ≤ room_1.cells) (hs1 : slots ≤ room_1.slots) (kk : V p l e room_1 s m args below meth c 8 d b Q cells slots n h 1263 (lvH sa b i) []) : V p l e room_1 s m args below meth c 8 d b Q cells slots n h t ((5, vi (k : Int)) :: lvH sa b i) [vi a] := by
  obtain ⟨y0, B, P, e1⟩ := hM
  refine V_istore C D0 (by decide) rfl ?_
  refine V_aload_n C D2 rfl rfl ?_
  refine V_callV C (c_Mod_thrown hl B) wc_Mod_thrown w_Law_law_154 np_Mod_thrown ⟨by decide, by decide, hc, hs1⟩ B.o rfl rfl (Nat.le_of_ble_eq_true rfl) D3 (fun q n1 h1 hp => ?_) (fun Cx n1 h1 hp => hp.elim)
  obtain ⟨rfl, rfl, rfl⟩ := hp
  rw [e1]
  refine V_iload C D6 rfl ?_
  refine V_icmp_eqE (tgt := t + 13) C D8 (by omega) ?_
  refine V_iload C D13 rfl ?_
  have K2 : V p l e room_1 s m args below meth c 8 d b Q cells slots n1 h1 (t + 30) ((6, vi a) :: (5, vi (k : Int)) :: lvH sa b i) [] := by
    refine V_goto (tgt := 1263) C D30 ht ?_
    exact V_loc (lv' := lvH sa b i) ⟨rfl, rfl, rfl, rfl, rfl, trivial⟩ kk
  refine V_if_ne (tgt := t + 30) C D15 (by omega) (by unfold inI; omega) (fun q => K2) (fun q => ?_)
  refine V_aload_n C D18 rfl rfl ?_
  refine V_iconst C D19 rfl ?_
  refine V_laload C f38 (by omega) (by omega) (by decide) D20 ?_
  refine V_iload C D21 rfl ?_
  refine V_i2lC C D23 ?_
  rw [show F (0 : Int).toNat = cI a from hz (by omega)]
  refine V_lcmpE C D24 ?_
  exact V_if_eq (tgt := t + 30) C D25 (by omega) inI_0 (fun _ => K2) (fun q => absurd rfl q)
end LRows2
