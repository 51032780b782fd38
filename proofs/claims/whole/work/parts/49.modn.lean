section ModN
variable {p : Program} {l : Launch} {e : Env} {R : Room} {s : State} {m : MethodId} {args : Array Value} {below : List Frame} {meth : Method} {c : Code} {d : yD} {b : Nat} {Q : State → Prop} {cells slots n : Nat} {h : yH}
variable {y0 : YS} {v : Vw}
/-- what least leaves -/
abbrev mL (d : yD) (b : Nat) (h : yH) (v : Vw) (r u w a : Int) (h' : yH) : Prop := FrM h h' ∧ (kLs v r u w = 0 → ∃ k, lsOk (v.W r.toNat) (v.M r.toNat) u w k ∧ RepM d b h' (vLs v r.toNat k) 0 ∧ a = (vLs v r.toNat k).sn) ∧ (kLs v r u w ≠ 0 → RepM d b h' v (kLs v r u w : Nat))
set_option maxHeartbeats 1000000 in
theorem Mod_least_go (C : yC p l s m args meth c y_Mod_least b_Mod_least 7 (some .int) [] d b) (hl : yL l) (hv : OkV v) (A : AtM d b y0 h) (O : OkM y0 v) {r u w z1 z2 z3 : Int} (hr : inI r) (hu : inI u) (hw : inI w) (h1 : z1 = bi (isR v r)) (h2 : z2 = bi ((1 ≤ w ∧ w ≤ 1000000) ∧ 0 ≤ u ∧ u ≤ w)) (h3 : isR v r → z3 = bi (¬ sumW (v.W r.toNat) (v.M r.toNat) = 0)) (i3 : inI z3) :
    V p l e (yRm 5 160 0 0) s m args below meth c 7 d b (yEnd below s args d b (fun q n' h' => n' = n ∧ ∃ a, q = some (vi a) ∧ mL d b h v r u w a h') noT 0 0) 0 0 n h 51 [(0, .ref (b + 29)), (1, vi r), (2, vi u), (3, vi w)] [vi z3, vi z2, vi z1, .ref (b + 29)] := by
  have hrc := hv.rc
  have kk : kG z1 z2 z3 1 = (kLs v r u w : Nat) := by
    rw [h1, h2]
    by_cases q1 : isR v r
    · rw [h3 q1, kG_b3]
      unfold kLs
      rw [if_neg (c := ¬ isR v r) (fun w => w q1), if_neg (c := ¬ isR v r) (fun w => w q1)]
      by_cases q2 : (1 ≤ w ∧ w ≤ 1000000) ∧ 0 ≤ u ∧ u ≤ w
      · rw [if_neg (c := ¬ ((1 ≤ w ∧ w ≤ 1000000) ∧ 0 ≤ u ∧ u ≤ w)) (fun w => w q2), if_neg (c := ¬ ((1 ≤ w ∧ w ≤ 1000000) ∧ 0 ≤ u ∧ u ≤ w)) (fun w => w q2)]
        by_cases q3 : sumW (v.W r.toNat) (v.M r.toNat) = 0
        · rw [if_pos (c := ¬ ¬ sumW (v.W r.toNat) (v.M r.toNat) = 0) (fun w => w q3), if_pos q3]
        · rw [if_neg (c := ¬ ¬ sumW (v.W r.toNat) (v.M r.toNat) = 0) (fun w => w q3), if_neg q3]
      · rw [if_pos (c := ¬ ((1 ≤ w ∧ w ≤ 1000000) ∧ 0 ≤ u ∧ u ≤ w)) q2, if_pos (c := ¬ ((1 ≤ w ∧ w ≤ 1000000) ∧ 0 ≤ u ∧ u ≤ w)) q2]
    · unfold kG kLs
      rw [if_pos (bi_n q1), if_pos q1]; rfl
  refine V_iconst C d_Mod_least_51 rfl ?_
  refine V_callV C (c_Mod_goes hl A (bi_z h1) (bi_z h2) i3 (z4 := 1) (by unfold inI; omega)) wc_Mod_goes w_Mod_least_52 np_Mod_goes (by decide) A.o rfl rfl (Nat.le_of_ble_eq_true rfl) d_Mod_least_52 (fun v0 n1 h5 hp => ?_) (fun Cx n1 h1 hp => hp.elim)
  obtain ⟨rfl, rfl, A1, F1⟩ := hp
  rw [kk] at A1 ⊢
  have O1 := O.sTh ((kLs v r u w : Nat) : Int)
  have t1 : (y0.s_th ((kLs v r u w : Nat) : Int)).th = (kLs v r u w : Nat) := rfl
  generalize y0.s_th ((kLs v r u w : Nat) : Int) = y1 at A1 O1 t1
  refine V_if_ne (tgt := 60) C d_Mod_least_55 (by decide) (bi_z rfl) (fun q55 => ?_) (fun q55 => ?_)
  · have k0 : kLs v r u w = 0 := by
      by_cases q : ((kLs v r u w : Nat) : Int) = 0
      · omega
      · exact absurd (bi_n q) q55
    have q1 : isR v r := by
      by_cases q : isR v r
      · exact q
      · unfold kLs at k0; rw [if_pos q] at k0; omega
    have q2 : (1 ≤ w ∧ w ≤ 1000000) ∧ 0 ≤ u ∧ u ≤ w := by
      by_cases q : (1 ≤ w ∧ w ≤ 1000000) ∧ 0 ≤ u ∧ u ≤ w
      · exact q
      · unfold kLs at k0; rw [if_neg (c := ¬ isR v r) (fun w => w q1), if_pos q] at k0; omega
    have hi : r.toNat < v.rc := by have := q1.1; have := q1.2; omega
    have hri : r = (r.toNat : Nat) := by have := q1.1; omega
    obtain ⟨f1, f2, f3, f4⟩ := hv.ok _ hi
    refine V_iconst C d_Mod_least_60 rfl ?_
    refine V_istore C d_Mod_least_61 (by decide) rfl ?_
    refine V_loc2 (Mod_wipe_loop (y0 := y1) (h := h) C (fun G h' g1 A2 F2 => ?_) 48 0 y1.ch h5 (by omega) (fun t ht => absurd ht (by omega)) A1 F1) ⟨rfl, rfl, rfl, rfl, rfl, trivial⟩
    refine Mod_pick_loop (h := h) C hl hv hri hi rfl q2.2 q2.1 (fun k y2 h2 ls A3 O3 t3 c3 F3 => ?_) (v.M r.toNat) 0 _ h' (by omega) (fun q hq => absurd hq (by omega)) A2 (O1.sC G) (by show y1.th = 0; rw [t1]; omega) (fun x hx => by show G x = _; rw [g1 x (by omega), if_neg (by show ¬ false = true; decide)]) F2
    refine V_aload_n C d_Mod_least_192 rfl rfl ?_
    refine V_iconst C d_Mod_least_193 rfl ?_
    refine V_put (ty := .int) C 4 6 A3.o rfl in_Mod t_Mod tok_Mod nm_Mod (by decide) w_Mod_least_194 rfl rfl (by decide +kernel) rfl rfl (Nat.le_of_ble_eq_true rfl) d_Mod_least_194 ?_
    refine V_iconst C d_Mod_least_197 rfl ?_
    refine V_istore C d_Mod_least_198 (by decide) rfl ?_
    refine V_loc2 (Mod_spans_loop (y0 := y2) (h := h) C hv O3 hri hi rfl c3 (fun h4 A5 F5 => ?_) (v.M r.toNat) 0 _ (by omega) (A3.setSp 0) (F3.set (by omega) _)) ⟨rfl, rfl, rfl, trivial⟩
    refine V_aload_n C d_Mod_least_302 rfl rfl ?_
    refine V_get C 4 6 A5.o rfl in_Mod (by decide) w_Mod_least_303 rfl rfl d_Mod_least_303 ?_
    refine V_ireturn C d_Mod_least_306 (Nat.le_refl _) (Nat.le_refl _) ⟨rfl, _, rfl, F5, fun _ => ⟨k, ls, ⟨_, A5, ?_, t3⟩, rfl⟩, fun q => absurd k0 q⟩
    exact ⟨O3.rc, O3.rs, rfl, O3.ff, O3.fm, O3.ww, O3.dg, fun j hj => spA_congr (fun _ _ => rfl) j hj, fun j hj => spB_congr (fun _ _ => rfl) j hj⟩
  · have k0 : kLs v r u w ≠ 0 := fun q => by rw [q] at q55; exact absurd q55 (by decide)
    refine V_iconst C d_Mod_least_58 rfl ?_
    exact V_ireturn C d_Mod_least_59 (Nat.le_refl _) (Nat.le_refl _) ⟨rfl, _, rfl, F1, fun q => absurd q k0, fun _ => ⟨_, A1, O1, t1⟩⟩
set_option maxHeartbeats 1000000 in
theorem c_Mod_least (hl : yL l) (hv : OkV v) (A : AtM d b y0 h) (O : OkM y0 v) {r u w : Int} (hr : inI r) (hu : inI u) (hw : inI w) : yM l y_Mod_least b_Mod_least 7 (some .int) 5 160 0 0 d b n h [.ref (b + 29), vi r, vi u, vi w] (fun q n' h' => n' = n ∧ ∃ a, q = some (vi a) ∧ mL d b h v r u w a h') noT := by
  refine yM_of hl (by decide +kernel) (Nat.le_of_ble_eq_true rfl) (fun p e s m args below meth c C => ?_)
  have mid : ∀ z2 : Int, z2 = bi ((1 ≤ w ∧ w ≤ 1000000) ∧ 0 ≤ u ∧ u ≤ w) → V p l e (yRm 5 160 0 0) s m args below meth c 7 d b (yEnd below s args d b (fun q n' h' => n' = n ∧ ∃ a, q = some (vi a) ∧ mL d b h v r u w a h') noT 0 0) 0 0 n h 30 [(0, .ref (b + 29)), (1, vi r), (2, vi u), (3, vi w)] [vi z2, vi (bi (isR v r)), .ref (b + 29)] := fun z2 hz2 => by
    refine V_aload_n C d_Mod_least_30 rfl rfl ?_
    refine V_iload_n C d_Mod_least_31 rfl rfl ?_
    refine V_callV C (c_Mod_isRow hl hv A O hr) wc_Mod_isRow w_Mod_least_32 np_Mod_isRow (by decide) A.o rfl rfl (Nat.le_of_ble_eq_true rfl) d_Mod_least_32 (fun v n1 h1 hp => ?_) (fun Cx n1 h1 hp => hp.elim)
    obtain ⟨rfl, rfl, rfl⟩ := hp
    refine V_if_eq (tgt := 50) C d_Mod_least_35 (by decide) (bi_z rfl) (fun q35 => ?_) (fun q35 => ?_)
    · have hno := bi_0.mp q35
      refine V_iconst C d_Mod_least_50 rfl ?_
      exact Mod_least_go C hl hv A O hr hu hw rfl hz2 (fun q => absurd q hno) inI_0
    · have g1 : isR v r := by
        by_cases q : isR v r
        · exact q
        · exact absurd (bi_n q) q35
      refine V_aload_n C d_Mod_least_38 rfl rfl ?_
      refine V_iload_n C d_Mod_least_39 rfl rfl ?_
      refine V_callV C (c_Mod_isNothing hl hv A O g1) wc_Mod_isNothing w_Mod_least_40 np_Mod_isNothing (by decide) A.o rfl rfl (Nat.le_of_ble_eq_true rfl) d_Mod_least_40 (fun v n1 h1 hp => ?_) (fun Cx n1 h1 hp => hp.elim)
      obtain ⟨rfl, rfl, rfl⟩ := hp
      refine V_if_ne (tgt := 50) C d_Mod_least_43 (by decide) (bi_z rfl) (fun q43 => ?_) (fun q43 => ?_)
      · have hs0 : sumW (v.W r.toNat) (v.M r.toNat) = 0 := by
          by_cases q : sumW (v.W r.toNat) (v.M r.toNat) = 0
          · exact q
          · exact absurd (bi_n q) q43
        refine V_iconst C d_Mod_least_50 rfl ?_
        exact Mod_least_go C hl hv A O hr hu hw rfl hz2 (fun _ => (bi_n (fun w => w hs0)).symm) inI_0
      · have hs0 := bi_0.mp q43
        refine V_iconst C d_Mod_least_46 rfl ?_
        refine V_goto (tgt := 51) C d_Mod_least_47 (by decide) ?_
        exact Mod_least_go C hl hv A O hr hu hw rfl hz2 (fun _ => (bi_1 hs0).symm) ⟨by omega, by omega⟩
  refine V_aload_n C d_Mod_least_0 rfl rfl ?_
  refine V_aload_n C d_Mod_least_1 rfl rfl ?_
  refine V_iload_n C d_Mod_least_2 rfl rfl ?_
  refine V_callV C (c_Mod_isRow hl hv A O hr) wc_Mod_isRow w_Mod_least_3 np_Mod_isRow (by decide) A.o rfl rfl (Nat.le_of_ble_eq_true rfl) d_Mod_least_3 (fun v n1 h1 hp => ?_) (fun Cx n1 h1 hp => hp.elim)
  obtain ⟨rfl, rfl, rfl⟩ := hp
  refine V_iload_n C d_Mod_least_6 rfl rfl ?_
  refine V_iconst C d_Mod_least_7 rfl ?_
  refine V_ldc (z := 1000000) C w_Mod_least_8 rfl d_Mod_least_8 ?_
  refine V_callS C (c_Mod_within hl hw (lo := 1) (hi := 1000000) (by unfold inI; omega) (by unfold inI; omega)) wc_Mod_within w_Mod_least_10 np_Mod_within (by decide) rfl (Nat.le_of_ble_eq_true rfl) d_Mod_least_10 (fun v n1 h1 hp => ?_) (fun Cx n1 h1 hp => hp.elim)
  obtain ⟨rfl, rfl, rfl⟩ := hp
  refine V_if_eq (tgt := 29) C d_Mod_least_13 (by decide) (bi_z rfl) (fun q13 => ?_) (fun q13 => ?_)
  · have := bi_0.mp q13
    refine V_iconst C d_Mod_least_29 rfl ?_
    exact mid 0 (bi_n (by omega)).symm
  · have : 1 ≤ w ∧ w ≤ 1000000 := by
      by_cases q : 1 ≤ w ∧ w ≤ 1000000
      · exact q
      · exact absurd (bi_n q) q13
    refine V_iload_n C d_Mod_least_16 rfl rfl ?_
    refine V_if_lt (tgt := 29) C d_Mod_least_17 (by decide) hu (fun q17 => ?_) (fun q17 => ?_)
    · refine V_iconst C d_Mod_least_29 rfl ?_
      exact mid 0 (bi_n (by omega)).symm
    · refine V_iload_n C d_Mod_least_20 rfl rfl ?_
      refine V_iload_n C d_Mod_least_21 rfl rfl ?_
      refine V_icmp_gt (tgt := 29) C d_Mod_least_22 (by decide) hu (by unfold inI; omega) (fun q22 => ?_) (fun q22 => ?_)
      · refine V_iconst C d_Mod_least_29 rfl ?_
        exact mid 0 (bi_n (by omega)).symm
      · refine V_iconst C d_Mod_least_25 rfl ?_
        refine V_goto (tgt := 30) C d_Mod_least_26 (by decide) ?_
        exact mid 1 (bi_1 (by omega)).symm
end ModN
