section ModP
variable {p : Program} {l : Launch} {e : Env} {R : Room} {s : State} {m : MethodId} {args : Array Value} {below : List Frame} {meth : Method} {c : Code} {d : yD} {b : Nat} {Q : State → Prop} {cells slots n : Nat} {h : yH}
variable {y0 : YS} {v : Vw}
set_option maxHeartbeats 1000000 in
theorem Mod_bh3 (C : yC p l s m args meth c y_Mod_behind b_Mod_behind 6 (some .int) [] d b) (hl : yL l) {c0 z q0 : Int} {mm : Nat} (h0 : 0 ≤ c0) (h3 : c0 ≤ 3) (hm : mm ≤ 400) {post : Option Value → Nat → yH → Prop} (hp : post (some (vi (q0 + (ny c0 ((mm : Int) + 1) - ny c0 1)))) n h) :
    ∀ (j i : Nat), i + j = mm → V p l e (yRm 4 120 0 0) s m args below meth c 6 d b (yEnd below s args d b post noT 0 0) 0 0 n h 54 [(0, vi c0), (3, vi ((mm : Int) + 1)), (4, vi (q0 + (ny c0 ((i : Int) + 1) - ny c0 1))), (5, vi ((i : Int) + 1))] [] := by
  intro j
  induction j with
  | zero =>
    intro i hi
    have e0 : i = mm := by omega
    subst e0
    refine V_iload C d_Mod_behind_54 rfl ?_
    refine V_iload_n C d_Mod_behind_56 rfl rfl ?_
    refine V_icmp_ge (tgt := 77) C d_Mod_behind_57 (by decide) (by unfold inI; omega) (by unfold inI; omega) (fun q57 => ?_) (fun q57 => ?_)
    · refine V_iload C d_Mod_behind_77 rfl ?_
      exact V_ireturn C d_Mod_behind_79 (Nat.le_refl _) (Nat.le_refl _) hp
    · exact absurd q57 (by omega)
  | succ j ih =>
    intro i hi
    have e1 := ny_next h0 h3 ((i : Int) + 1)
    refine V_iload C d_Mod_behind_54 rfl ?_
    refine V_iload_n C d_Mod_behind_56 rfl rfl ?_
    refine V_icmp_ge (tgt := 77) C d_Mod_behind_57 (by decide) (by unfold inI; omega) (by unfold inI; omega) (fun q57 => ?_) (fun q57 => ?_)
    · exact absurd q57 (by omega)
    · refine V_iload C d_Mod_behind_60 rfl ?_
      refine V_iload_n C d_Mod_behind_62 rfl rfl ?_
      refine V_iload C d_Mod_behind_63 rfl ?_
      refine V_callS C (c_Mod_yearDays hl h0 h3 (y1 := (i : Int) + 1) ⟨by omega, by omega⟩) wc_Mod_yearDays w_Mod_behind_65 np_Mod_yearDays (by decide) rfl (Nat.le_of_ble_eq_true rfl) d_Mod_behind_65 (fun v n1 h1 hq => ?_) (fun Cx n1 h1 hp => hp.elim)
      obtain ⟨rfl, rfl, rfl⟩ := hq
      refine V_iadd C d_Mod_behind_68 ?_
      refine V_istore C d_Mod_behind_69 (by decide) rfl ?_
      refine V_iinc C d_Mod_behind_71 rfl rfl (by decide) rfl ?_
      refine V_goto (tgt := 54) C d_Mod_behind_74 (by decide) ?_
      refine V_loc2 (ih (i + 1) (by omega)) ⟨rfl, rfl, ?_, rfl, trivial⟩
      show some (vi (q0 + (ny c0 ((i : Int) + 1) - ny c0 1) + yd c0 ((i : Int) + 1))) = some (vi (q0 + (ny c0 (((i + 1 : Nat) : Int) + 1) - ny c0 1)))
      rw [show ((i + 1 : Nat) : Int) + 1 = (i : Int) + 1 + 1 by omega, e1]
      congr 2
      omega
set_option maxHeartbeats 1000000 in
theorem Mod_bh2 (C : yC p l s m args meth c y_Mod_behind b_Mod_behind 6 (some .int) [] d b) (hl : yL l) {c0 N : Int} (h0 : 0 ≤ c0) (h3 : c0 ≤ 3) {post : Option Value → Nat → yH → Prop} (hp : post (some (vi (N - ny c0 1))) n h) :
    ∀ (k : Nat) (z q0 : Int), z ≤ k → 1 ≤ z → z ≤ 1000000 → ny c0 z + q0 * cyD c0 = N → V p l e (yRm 4 120 0 0) s m args below meth c 6 d b (yEnd below s args d b post noT 0 0) 0 0 n h 22 [(0, vi c0), (2, vi q0), (3, vi z)] [] := by
  obtain ⟨⟨k1, k2⟩, ⟨k3, k4⟩, k5, k6⟩ := cy_in h0 h3
  intro k
  induction k with
  | zero => intro z q0 h1 h2; exact absurd h1 (by omega)
  | succ k ih =>
    intro z q0 hz h1 h2 hN
    refine V_iload_n C d_Mod_behind_22 rfl rfl ?_
    refine V_iload_n C d_Mod_behind_23 rfl rfl ?_
    refine V_callS C (c_Mod_cycle hl (c0 := c0) ⟨by omega, by omega⟩) wc_Mod_cycle w_Mod_behind_24 np_Mod_cycle (by decide) rfl (Nat.le_of_ble_eq_true rfl) d_Mod_behind_24 (fun v n1 h1 hq => ?_) (fun Cx n1 h1 hp => hp.elim)
    obtain ⟨rfl, rfl, rfl⟩ := hq
    refine V_icmp_le (tgt := 43) C d_Mod_behind_27 (by decide) (by unfold inI; omega) (by unfold inI; omega) (fun q27 => ?_) (fun q27 => ?_)
    · refine V_iload_n C d_Mod_behind_43 rfl rfl ?_
      refine V_iload_n C d_Mod_behind_44 rfl rfl ?_
      refine V_callS C (c_Mod_cycleDays hl h0 h3) wc_Mod_cycleDays w_Mod_behind_45 np_Mod_cycleDays (by decide) rfl (Nat.le_of_ble_eq_true rfl) d_Mod_behind_45 (fun v n1 h1 hq => ?_) (fun Cx n1 h1 hp => hp.elim)
      obtain ⟨rfl, rfl, rfl⟩ := hq
      refine V_imul C d_Mod_behind_48 ?_
      refine V_istore C d_Mod_behind_49 (by decide) rfl ?_
      refine V_iconst C d_Mod_behind_51 rfl ?_
      refine V_istore C d_Mod_behind_52 (by decide) rfl ?_
      refine V_loc2 (Mod_bh3 C hl h0 h3 (z := 0) (q0 := q0 * cyD c0) (mm := (z - 1).toNat) (by omega) ?_ (z - 1).toNat 0 (by omega)) ⟨rfl, ?_, ?_, rfl, trivial⟩
      · rw [show (((z - 1).toNat : Nat) : Int) + 1 = z by omega, show q0 * cyD c0 + (ny c0 z - ny c0 1) = N - ny c0 1 by omega]
        exact hp
      · show some (vi z) = some (vi ((((z - 1).toNat : Nat) : Int) + 1))
        rw [show (((z - 1).toNat : Nat) : Int) + 1 = z by omega]
      · show some (vi (q0 * cyD c0)) = some (vi (q0 * cyD c0 + (ny c0 (((0 : Nat) : Int) + 1) - ny c0 1)))
        rw [show ((0 : Nat) : Int) + 1 = 1 from rfl, Int.sub_self, Int.add_zero]
    · refine V_iload_n C d_Mod_behind_30 rfl rfl ?_
      refine V_iload_n C d_Mod_behind_31 rfl rfl ?_
      refine V_callS C (c_Mod_cycle hl (c0 := c0) ⟨by omega, by omega⟩) wc_Mod_cycle w_Mod_behind_32 np_Mod_cycle (by decide) rfl (Nat.le_of_ble_eq_true rfl) d_Mod_behind_32 (fun v n1 h1 hq => ?_) (fun Cx n1 h1 hp => hp.elim)
      obtain ⟨rfl, rfl, rfl⟩ := hq
      refine V_isub C d_Mod_behind_35 ?_
      refine V_istore_n C d_Mod_behind_36 rfl (by decide) rfl ?_
      refine V_iinc C d_Mod_behind_37 rfl rfl (by decide) rfl ?_
      refine V_goto (tgt := 22) C d_Mod_behind_40 (by decide) ?_
      have e1 := ny_cyc h0 h3 (z - cyN c0)
      rw [show z - cyN c0 + cyN c0 = z by omega] at e1
      exact V_loc2 (ih (z - cyN c0) (q0 + 1) (by omega) (by omega) (by omega) (by rw [Int.add_mul, Int.one_mul]; omega)) ⟨rfl, rfl, rfl, trivial⟩
set_option maxHeartbeats 1000000 in
theorem Mod_bh1 (C : yC p l s m args meth c y_Mod_behind b_Mod_behind 6 (some .int) [] d b) (hl : yL l) {c0 N : Int} (h0 : 0 ≤ c0) (h3 : c0 ≤ 3) {post : Option Value → Nat → yH → Prop} (hp : post (some (vi (N - ny c0 1))) n h) :
    ∀ (k : Nat) (z q0 : Int), 1 - z ≤ k → -1000000 ≤ z → z ≤ 1000000 → ny c0 z + q0 * cyD c0 = N → V p l e (yRm 4 120 0 0) s m args below meth c 6 d b (yEnd below s args d b post noT 0 0) 0 0 n h 4 [(0, vi c0), (2, vi q0), (3, vi z)] [] := by
  obtain ⟨⟨k1, k2⟩, ⟨k3, k4⟩, k5, k6⟩ := cy_in h0 h3
  intro k
  induction k with
  | zero =>
    intro z q0 h1 h2 h4 hN
    refine V_iload_n C d_Mod_behind_4 rfl rfl ?_
    refine V_iconst C d_Mod_behind_5 rfl ?_
    refine V_icmp_ge (tgt := 22) C d_Mod_behind_6 (by decide) (by unfold inI; omega) (by unfold inI; omega) (fun q6 => ?_) (fun q6 => ?_)
    · exact V_loc2 (Mod_bh2 C hl h0 h3 hp z.toNat z q0 (by omega) (by omega) (by omega) hN) ⟨rfl, rfl, rfl, trivial⟩
    · exact absurd q6 (by omega)
  | succ k ih =>
    intro z q0 h1 h2 h4 hN
    refine V_iload_n C d_Mod_behind_4 rfl rfl ?_
    refine V_iconst C d_Mod_behind_5 rfl ?_
    refine V_icmp_ge (tgt := 22) C d_Mod_behind_6 (by decide) (by unfold inI; omega) (by unfold inI; omega) (fun q6 => ?_) (fun q6 => ?_)
    · exact V_loc2 (Mod_bh2 C hl h0 h3 hp z.toNat z q0 (by omega) (by omega) (by omega) hN) ⟨rfl, rfl, rfl, trivial⟩
    · refine V_iload_n C d_Mod_behind_9 rfl rfl ?_
      refine V_iload_n C d_Mod_behind_10 rfl rfl ?_
      refine V_callS C (c_Mod_cycle hl (c0 := c0) ⟨by omega, by omega⟩) wc_Mod_cycle w_Mod_behind_11 np_Mod_cycle (by decide) rfl (Nat.le_of_ble_eq_true rfl) d_Mod_behind_11 (fun v n1 h1 hq => ?_) (fun Cx n1 h1 hp => hp.elim)
      obtain ⟨rfl, rfl, rfl⟩ := hq
      refine V_iadd C d_Mod_behind_14 ?_
      refine V_istore_n C d_Mod_behind_15 rfl (by decide) rfl ?_
      refine V_iinc C d_Mod_behind_16 rfl rfl (by decide) rfl ?_
      refine V_goto (tgt := 4) C d_Mod_behind_19 (by decide) ?_
      have e1 := ny_cyc h0 h3 z
      exact V_loc2 (ih (z + cyN c0) (q0 + -1) (by omega) (by omega) (by omega) (by rw [Int.add_mul, Int.neg_mul, Int.one_mul]; omega)) ⟨rfl, rfl, rfl, trivial⟩
set_option maxHeartbeats 1000000 in
theorem c_Mod_behind (hl : yL l) {c0 z : Int} (h0 : 0 ≤ c0) (h3 : c0 ≤ 3) (hz : -100000 ≤ z ∧ z ≤ 100000) : yM l y_Mod_behind b_Mod_behind 6 (some .int) 4 120 0 0 d b n h [vi c0, vi z] (fun q n' h' => n' = n ∧ h' = h ∧ q = some (vi (ny c0 z - ny c0 1))) noT := by
  refine yM_of hl (by decide +kernel) (Nat.le_of_ble_eq_true rfl) (fun p e s m args below meth c C => ?_)
  refine V_iconst C d_Mod_behind_0 rfl ?_
  refine V_istore_n C d_Mod_behind_1 rfl (by decide) rfl ?_
  refine V_iload_n C d_Mod_behind_2 rfl rfl ?_
  refine V_istore_n C d_Mod_behind_3 rfl (by decide) rfl ?_
  exact V_loc2 (Mod_bh1 C hl h0 h3 ⟨rfl, rfl, rfl⟩ (1 - z).toNat z 0 (by omega) (by omega) (by omega) (by rw [Int.zero_mul, Int.add_zero])) ⟨rfl, rfl, rfl, trivial⟩
set_option maxHeartbeats 1000000 in
theorem c_Mod_firstOf (hl : yL l) {z : Int} (hz : -100000 ≤ z ∧ z ≤ 100000) : yM l y_Mod_firstOf b_Mod_firstOf 2 (some .int) 5 150 0 0 d b n h [vi 1, vi z] (fun q n' h' => n' = n ∧ h' = h ∧ q = some (vi (ny 1 z))) noT := by
  refine yM_of hl (by decide +kernel) (Nat.le_of_ble_eq_true rfl) (fun p e s m args below meth c C => ?_)
  refine V_iload_n C d_Mod_firstOf_0 rfl rfl ?_
  refine V_iconst C d_Mod_firstOf_1 rfl ?_
  refine V_icmp_ne (tgt := 15) C d_Mod_firstOf_2 (by decide) (by unfold inI; omega) (by unfold inI; omega) (fun q2 => ?_) (fun q2 => ?_)
  · exact absurd rfl q2
  · refine V_iconst C d_Mod_firstOf_5 rfl ?_
    refine V_iload_n C d_Mod_firstOf_6 rfl rfl ?_
    refine V_callS C (c_Mod_behind hl (c0 := 1) (by omega) (by omega) hz) wc_Mod_behind w_Mod_firstOf_7 np_Mod_behind (by decide) rfl (Nat.le_of_ble_eq_true rfl) d_Mod_firstOf_7 (fun v n1 h1 hp => ?_) (fun Cx n1 h1 hp => hp.elim)
    obtain ⟨rfl, rfl, rfl⟩ := hp
    refine V_iconst C d_Mod_firstOf_10 rfl ?_
    refine V_isub C d_Mod_firstOf_11 ?_
    refine V_goto (tgt := 20) C d_Mod_firstOf_12 (by decide) ?_
    have e1 : ny 1 1 = -2 := rfl
    exact V_ireturn C d_Mod_firstOf_20 (Nat.le_refl _) (Nat.le_refl _) ⟨rfl, rfl, by rw [e1, show ny 1 z - -2 - 2 = ny 1 z by omega]⟩
set_option maxHeartbeats 1000000 in
theorem c_Mod_origin (hl : yL l) {c0 : Int} (h0 : 0 ≤ c0) (h3 : c0 ≤ 3) : yM l y_Mod_origin b_Mod_origin 1 (some .int) 6 180 0 0 d b n h [vi c0] (fun q n' h' => n' = n ∧ h' = h ∧ q = some (vi (ny c0 1))) noT := by
  refine yM_of hl (by decide +kernel) (Nat.le_of_ble_eq_true rfl) (fun p e s m args below meth c C => ?_)
  refine V_iload_n C d_Mod_origin_0 rfl rfl ?_
  refine V_if_ne (tgt := 6) C d_Mod_origin_1 (by decide) (by unfold inI; omega) (fun q1 => ?_) (fun q1 => ?_)
  · refine V_iload_n C d_Mod_origin_6 rfl rfl ?_
    refine V_iconst C d_Mod_origin_7 rfl ?_
    refine V_icmp_ne (tgt := 14) C d_Mod_origin_8 (by decide) (by unfold inI; omega) (by unfold inI; omega) (fun q8 => ?_) (fun q8 => ?_)
    · refine V_iload_n C d_Mod_origin_14 rfl rfl ?_
      refine V_iconst C d_Mod_origin_15 rfl ?_
      refine V_icmp_ne (tgt := 33) C d_Mod_origin_16 (by decide) (by unfold inI; omega) (by unfold inI; omega) (fun q16 => ?_) (fun q16 => ?_)
      · have e3 : c0 = 3 := by omega
        subst e3
        refine V_iconst C d_Mod_origin_33 rfl ?_
        refine V_sipush (z := (-746)) C d_Mod_origin_34 rfl ?_
        refine V_callS C (c_Mod_firstOf hl (z := -746) ⟨by omega, by omega⟩) wc_Mod_firstOf w_Mod_origin_37 np_Mod_firstOf (by decide) rfl (Nat.le_of_ble_eq_true rfl) d_Mod_origin_37 (fun v n1 h1 hp => ?_) (fun Cx n1 h1 hp => hp.elim)
        obtain ⟨rfl, rfl, rfl⟩ := hp
        refine V_bipush (z := 56) C d_Mod_origin_40 rfl ?_
        refine V_iadd C d_Mod_origin_42 ?_
        exact V_ireturn C d_Mod_origin_43 (Nat.le_refl _) (Nat.le_refl _) ⟨rfl, rfl, rfl⟩
      · subst q16
        refine V_iconst C d_Mod_origin_19 rfl ?_
        refine V_sipush (z := 622) C d_Mod_origin_20 rfl ?_
        refine V_callS C (c_Mod_firstOf hl (z := 622) ⟨by omega, by omega⟩) wc_Mod_firstOf w_Mod_origin_23 np_Mod_firstOf (by decide) rfl (Nat.le_of_ble_eq_true rfl) d_Mod_origin_23 (fun v n1 h1 hp => ?_) (fun Cx n1 h1 hp => hp.elim)
        obtain ⟨rfl, rfl, rfl⟩ := hp
        refine V_sipush (z := 196) C d_Mod_origin_26 rfl ?_
        refine V_iadd C d_Mod_origin_29 ?_
        refine V_goto (tgt := 43) C d_Mod_origin_30 (by decide) ?_
        exact V_ireturn C d_Mod_origin_43 (Nat.le_refl _) (Nat.le_refl _) ⟨rfl, rfl, rfl⟩
    · subst q8
      refine V_bipush (z := (-2)) C d_Mod_origin_11 rfl ?_
      exact V_ireturn C d_Mod_origin_13 (Nat.le_refl _) (Nat.le_refl _) ⟨rfl, rfl, rfl⟩
  · subst q1
    refine V_iconst C d_Mod_origin_4 rfl ?_
    exact V_ireturn C d_Mod_origin_5 (Nat.le_refl _) (Nat.le_refl _) ⟨rfl, rfl, rfl⟩
set_option maxHeartbeats 1000000 in
theorem Mod_day_loop (C : yC p l s m args meth c y_Mod_day b_Mod_day 9 (some .int) [] d b) (hl : yL l) {c0 y1 q0 : Int} {mm : Nat} (h0 : 0 ≤ c0) (h3 : c0 ≤ 3) (hy : inI y1) (hm : mm ≤ 13) {post : Option Value → Nat → yH → Prop} (hp : post (some (vi (q0 + dah c0 y1 mm))) n h) :
    ∀ (j i : Nat), i + j = mm → V p l e (yRm 7 220 0 0) s m args below meth c 9 d b (yEnd below s args d b post noT 0 0) 0 0 n h 98 [(1, vi c0), (2, vi y1), (3, vi ((mm : Int) + 1)), (7, vi (q0 + dah c0 y1 i)), (8, vi ((i : Int) + 1))] [] := by
  intro j
  induction j with
  | zero =>
    intro i hi
    have e0 : i = mm := by omega
    subst e0
    refine V_iload C d_Mod_day_98 rfl ?_
    refine V_iload_n C d_Mod_day_100 rfl rfl ?_
    refine V_icmp_ge (tgt := 122) C d_Mod_day_101 (by decide) (by unfold inI; omega) (by unfold inI; omega) (fun q101 => ?_) (fun q101 => ?_)
    · refine V_iload C d_Mod_day_122 rfl ?_
      exact V_ireturn C d_Mod_day_124 (Nat.le_refl _) (Nat.le_refl _) hp
    · exact absurd q101 (by omega)
  | succ j ih =>
    intro i hi
    have e1 : dah c0 y1 (i + 1) = dah c0 y1 i + md c0 y1 ((i : Int) + 1) := rfl
    refine V_iload C d_Mod_day_98 rfl ?_
    refine V_iload_n C d_Mod_day_100 rfl rfl ?_
    refine V_icmp_ge (tgt := 122) C d_Mod_day_101 (by decide) (by unfold inI; omega) (by unfold inI; omega) (fun q101 => ?_) (fun q101 => ?_)
    · exact absurd q101 (by omega)
    · refine V_iload C d_Mod_day_104 rfl ?_
      refine V_iload_n C d_Mod_day_106 rfl rfl ?_
      refine V_iload_n C d_Mod_day_107 rfl rfl ?_
      refine V_iload C d_Mod_day_108 rfl ?_
      refine V_callS C (c_Mod_monthDays hl h0 h3 hy (k := (i : Int) + 1) (by omega) (by omega)) wc_Mod_monthDays w_Mod_day_110 np_Mod_monthDays (by decide) rfl (Nat.le_of_ble_eq_true rfl) d_Mod_day_110 (fun v n1 h1 hq => ?_) (fun Cx n1 h1 hp => hp.elim)
      obtain ⟨rfl, rfl, rfl⟩ := hq
      refine V_iadd C d_Mod_day_113 ?_
      refine V_istore C d_Mod_day_114 (by decide) rfl ?_
      refine V_iinc C d_Mod_day_116 rfl rfl (by decide) rfl ?_
      refine V_goto (tgt := 98) C d_Mod_day_119 (by decide) ?_
      refine V_loc2 (ih (i + 1) (by omega)) ⟨rfl, rfl, rfl, ?_, rfl, trivial⟩
      rw [e1, ← Int.add_assoc]
      rfl
set_option maxHeartbeats 1000000 in
theorem c_Mod_day (hl : yL l) (A : AtM d b y0 h) (O : OkM y0 v) {c0 y1 k z : Int} (hc : inI c0) (hy : inI y1) (hk : inI k) (hz : inI z) : yM l y_Mod_day b_Mod_day 9 (some .int) 7 220 0 0 d b n h [.ref (b + 29), vi c0, vi y1, vi k, vi z] (fun q n' h' => n' = n ∧ ∃ a, q = some (vi a) ∧ mR d b h v (kDay c0 y1 k z) v a (aDay c0 y1 k z) h') noT := by
  refine yM_of hl (by decide +kernel) (Nat.le_of_ble_eq_true rfl) (fun p e s m args below meth c C => ?_)
  have hmo : 12 ≤ mo c0 ∧ mo c0 ≤ 13 := by unfold mo; split <;> omega
  have go : ∀ z6 : Int, (0 ≤ c0 ∧ c0 ≤ 3 → z6 = bi ((-9999 ≤ y1 ∧ y1 ≤ 9999) ∧ (1 ≤ k ∧ k ≤ mo c0) ∧ 1 ≤ z ∧ z ≤ md c0 y1 k)) → inI z6 → V p l e (yRm 7 220 0 0) s m args below meth c 9 d b (yEnd below s args d b (fun q n' h' => n' = n ∧ ∃ a, q = some (vi a) ∧ mR d b h v (kDay c0 y1 k z) v a (aDay c0 y1 k z) h') noT 0 0) 0 0 n h 61 [(0, .ref (b + 29)), (1, vi c0), (2, vi y1), (3, vi k), (4, vi z), (5, vi (bi (0 ≤ c0 ∧ c0 ≤ 3)))] [vi z6] := fun z6 hz6 i6 => by
    have kk : kG (bi (0 ≤ c0 ∧ c0 ≤ 3)) z6 1 1 = (kDay c0 y1 k z : Nat) := by
      by_cases q1 : 0 ≤ c0 ∧ c0 ≤ 3
      · rw [hz6 q1, kG_b2]
        unfold kDay
        rw [if_neg (c := ¬ (0 ≤ c0 ∧ c0 ≤ 3)) (fun w => w q1), if_neg (c := ¬ (0 ≤ c0 ∧ c0 < 4)) (by omega)]
        by_cases q2 : (-9999 ≤ y1 ∧ y1 ≤ 9999) ∧ (1 ≤ k ∧ k ≤ mo c0) ∧ 1 ≤ z ∧ z ≤ md c0 y1 k
        · rw [if_neg (fun w => w q2), if_pos q2]
        · rw [if_pos q2, if_neg q2]
      · unfold kG kDay
        rw [if_pos (bi_n q1), if_pos (by omega)]; rfl
    refine V_istore C d_Mod_day_61 (by decide) rfl ?_
    refine V_aload_n C d_Mod_day_63 rfl rfl ?_
    refine V_iload C d_Mod_day_64 rfl ?_
    refine V_iload C d_Mod_day_66 rfl ?_
    refine V_iconst C d_Mod_day_68 rfl ?_
    refine V_iconst C d_Mod_day_69 rfl ?_
    refine V_callV C (c_Mod_goes hl A (bi_z (p := 0 ≤ c0 ∧ c0 ≤ 3) rfl) i6 (z3 := 1) (z4 := 1) (by unfold inI; omega) (by unfold inI; omega)) wc_Mod_goes w_Mod_day_70 np_Mod_goes (by decide) A.o rfl rfl (Nat.le_of_ble_eq_true rfl) d_Mod_day_70 (fun v0 n1 h5 hp => ?_) (fun Cx n1 h1 hp => hp.elim)
    obtain ⟨rfl, rfl, A1, F1⟩ := hp
    rw [kk] at A1 ⊢
    refine V_if_ne (tgt := 78) C d_Mod_day_73 (by decide) (bi_z rfl) (fun q73 => ?_) (fun q73 => ?_)
    · have k0 : kDay c0 y1 k z = 0 := by
        by_cases q : ((kDay c0 y1 k z : Nat) : Int) = 0
        · omega
        · exact absurd (bi_n q) q73
      have q1 : 0 ≤ c0 ∧ c0 < 4 := by
        by_cases q : 0 ≤ c0 ∧ c0 < 4
        · exact q
        · unfold kDay at k0; rw [if_pos q] at k0; omega
      have q2 : (-9999 ≤ y1 ∧ y1 ≤ 9999) ∧ (1 ≤ k ∧ k ≤ mo c0) ∧ 1 ≤ z ∧ z ≤ md c0 y1 k := by
        by_cases q : (-9999 ≤ y1 ∧ y1 ≤ 9999) ∧ (1 ≤ k ∧ k ≤ mo c0) ∧ 1 ≤ z ∧ z ≤ md c0 y1 k
        · exact q
        · unfold kDay at k0; rw [if_neg (c := ¬ (0 ≤ c0 ∧ c0 < 4)) (fun w => w q1), if_neg q] at k0; omega
      have t1 : (y0.s_th ((kDay c0 y1 k z : Nat) : Int)).th = 0 := by show ((kDay c0 y1 k z : Nat) : Int) = 0; omega
      refine V_iload_n C d_Mod_day_78 rfl rfl ?_
      refine V_callS C (c_Mod_origin hl (c0 := c0) (by omega) (by omega)) wc_Mod_origin w_Mod_day_79 np_Mod_origin (by decide) rfl (Nat.le_of_ble_eq_true rfl) d_Mod_day_79 (fun v0 n2 h6 hp => ?_) (fun Cx n1 h1 hp => hp.elim)
      obtain ⟨rfl, rfl, rfl⟩ := hp
      refine V_iload_n C d_Mod_day_82 rfl rfl ?_
      refine V_iload_n C d_Mod_day_83 rfl rfl ?_
      refine V_callS C (c_Mod_behind hl (c0 := c0) (z := y1) (by omega) (by omega) ⟨by omega, by omega⟩) wc_Mod_behind w_Mod_day_84 np_Mod_behind (by decide) rfl (Nat.le_of_ble_eq_true rfl) d_Mod_day_84 (fun v0 n2 h6 hp => ?_) (fun Cx n1 h1 hp => hp.elim)
      obtain ⟨rfl, rfl, rfl⟩ := hp
      refine V_iadd C d_Mod_day_87 ?_
      refine V_iload C d_Mod_day_88 rfl ?_
      refine V_iadd C d_Mod_day_90 ?_
      refine V_iconst C d_Mod_day_91 rfl ?_
      refine V_isub C d_Mod_day_92 ?_
      refine V_istore C d_Mod_day_93 (by decide) rfl ?_
      refine V_iconst C d_Mod_day_95 rfl ?_
      refine V_istore C d_Mod_day_96 (by decide) rfl ?_
      refine V_loc2 (Mod_day_loop C hl (c0 := c0) (y1 := y1) (q0 := ny c0 1 + (ny c0 y1 - ny c0 1) + z - 1) (mm := (k - 1).toNat) (by omega) (by omega) hy (by omega) ⟨rfl, _, rfl, F1, fun _ => ⟨⟨_, A1, O.sTh _, t1⟩, ?_⟩, fun q => absurd k0 q⟩ (k - 1).toNat 0 (by omega)) ⟨rfl, rfl, ?_, ?_, rfl, trivial⟩
      · show some (vi k) = some (vi ((((k - 1).toNat : Nat) : Int) + 1))
        rw [show (((k - 1).toNat : Nat) : Int) + 1 = k by omega]
      · show some (vi (ny c0 1 + (ny c0 y1 - ny c0 1) + z - 1)) = some (vi (ny c0 1 + (ny c0 y1 - ny c0 1) + z - 1 + 0))
        rw [Int.add_zero]
      · unfold aDay; omega
    · have k0 : kDay c0 y1 k z ≠ 0 := fun q => by rw [q] at q73; exact absurd q73 (by decide)
      refine V_iconst C d_Mod_day_76 rfl ?_
      exact V_ireturn C d_Mod_day_77 (Nat.le_refl _) (Nat.le_refl _) ⟨rfl, _, rfl, F1, fun q => absurd q k0, fun _ => ⟨_, A1, O.sTh _, rfl⟩⟩
  have no : (0 ≤ c0 ∧ c0 ≤ 3 → ¬ ((-9999 ≤ y1 ∧ y1 ≤ 9999) ∧ (1 ≤ k ∧ k ≤ mo c0) ∧ 1 ≤ z ∧ z ≤ md c0 y1 k)) → V p l e (yRm 7 220 0 0) s m args below meth c 9 d b (yEnd below s args d b (fun q n' h' => n' = n ∧ ∃ a, q = some (vi a) ∧ mR d b h v (kDay c0 y1 k z) v a (aDay c0 y1 k z) h') noT 0 0) 0 0 n h 60 [(0, .ref (b + 29)), (1, vi c0), (2, vi y1), (3, vi k), (4, vi z), (5, vi (bi (0 ≤ c0 ∧ c0 ≤ 3)))] [] := fun q => by
    refine V_iconst C d_Mod_day_60 rfl ?_
    exact go 0 (fun w => (bi_n (q w)).symm) inI_0
  refine V_iload_n C d_Mod_day_0 rfl rfl ?_
  refine V_iconst C d_Mod_day_1 rfl ?_
  refine V_iconst C d_Mod_day_2 rfl ?_
  refine V_callS C (c_Mod_within hl hc (lo := 0) (hi := 3) (by unfold inI; omega) (by unfold inI; omega)) wc_Mod_within w_Mod_day_3 np_Mod_within (by decide) rfl (Nat.le_of_ble_eq_true rfl) d_Mod_day_3 (fun v n1 h1 hp => ?_) (fun Cx n1 h1 hp => hp.elim)
  obtain ⟨rfl, rfl, rfl⟩ := hp
  refine V_istore C d_Mod_day_6 (by decide) rfl ?_
  refine V_iload C d_Mod_day_8 rfl ?_
  refine V_if_eq (tgt := 60) C d_Mod_day_10 (by decide) (bi_z rfl) (fun q10 => ?_) (fun q10 => ?_)
  · have hno := bi_0.mp q10
    exact V_loc2 (no (fun w => absurd w hno)) ⟨rfl, rfl, rfl, rfl, rfl, rfl, trivial⟩
  · have g1 : 0 ≤ c0 ∧ c0 ≤ 3 := by
      by_cases q : 0 ≤ c0 ∧ c0 ≤ 3
      · exact q
      · exact absurd (bi_n q) q10
    refine V_iload_n C d_Mod_day_13 rfl rfl ?_
    refine V_sipush (z := (-9999)) C d_Mod_day_14 rfl ?_
    refine V_sipush (z := 9999) C d_Mod_day_17 rfl ?_
    refine V_callS C (c_Mod_within hl hy (lo := -9999) (hi := 9999) (by unfold inI; omega) (by unfold inI; omega)) wc_Mod_within w_Mod_day_20 np_Mod_within (by decide) rfl (Nat.le_of_ble_eq_true rfl) d_Mod_day_20 (fun v n1 h1 hp => ?_) (fun Cx n1 h1 hp => hp.elim)
    obtain ⟨rfl, rfl, rfl⟩ := hp
    refine V_if_eq (tgt := 60) C d_Mod_day_23 (by decide) (bi_z rfl) (fun q23 => ?_) (fun q23 => ?_)
    · have hno := bi_0.mp q23
      exact V_loc2 (no (fun _ w => hno w.1)) ⟨rfl, rfl, rfl, rfl, rfl, rfl, trivial⟩
    · have g2 : -9999 ≤ y1 ∧ y1 ≤ 9999 := by
        by_cases q : -9999 ≤ y1 ∧ y1 ≤ 9999
        · exact q
        · exact absurd (bi_n q) q23
      refine V_iload_n C d_Mod_day_26 rfl rfl ?_
      refine V_iconst C d_Mod_day_27 rfl ?_
      refine V_icmp_lt (tgt := 60) C d_Mod_day_28 (by decide) hk (by unfold inI; omega) (fun q28 => ?_) (fun q28 => ?_)
      · exact V_loc2 (no (fun _ w => by omega)) ⟨rfl, rfl, rfl, rfl, rfl, rfl, trivial⟩
      · refine V_iload_n C d_Mod_day_31 rfl rfl ?_
        refine V_iload_n C d_Mod_day_32 rfl rfl ?_
        refine V_callS C (c_Mod_months hl hc) wc_Mod_months w_Mod_day_33 np_Mod_months (by decide) rfl (Nat.le_of_ble_eq_true rfl) d_Mod_day_33 (fun v n1 h1 hp => ?_) (fun Cx n1 h1 hp => hp.elim)
        obtain ⟨rfl, rfl, rfl⟩ := hp
        refine V_icmp_gt (tgt := 60) C d_Mod_day_36 (by decide) hk (by unfold inI; omega) (fun q36 => ?_) (fun q36 => ?_)
        · exact V_loc2 (no (fun _ w => by omega)) ⟨rfl, rfl, rfl, rfl, rfl, rfl, trivial⟩
        · have mi := md_in c0 y1 k
          refine V_iload C d_Mod_day_39 rfl ?_
          refine V_iconst C d_Mod_day_41 rfl ?_
          refine V_icmp_lt (tgt := 60) C d_Mod_day_42 (by decide) hz (by unfold inI; omega) (fun q42 => ?_) (fun q42 => ?_)
          · exact V_loc2 (no (fun _ w => by omega)) ⟨rfl, rfl, rfl, rfl, rfl, rfl, trivial⟩
          · refine V_iload C d_Mod_day_45 rfl ?_
            refine V_iload_n C d_Mod_day_47 rfl rfl ?_
            refine V_iload_n C d_Mod_day_48 rfl rfl ?_
            refine V_iload_n C d_Mod_day_49 rfl rfl ?_
            refine V_callS C (c_Mod_monthDays hl g1.1 g1.2 hy (k := k) (by omega) (by omega)) wc_Mod_monthDays w_Mod_day_50 np_Mod_monthDays (by decide) rfl (Nat.le_of_ble_eq_true rfl) d_Mod_day_50 (fun v n1 h1 hp => ?_) (fun Cx n1 h1 hp => hp.elim)
            obtain ⟨rfl, rfl, rfl⟩ := hp
            refine V_icmp_gt (tgt := 60) C d_Mod_day_53 (by decide) hz (by unfold inI; omega) (fun q53 => ?_) (fun q53 => ?_)
            · exact V_loc2 (no (fun _ w => by omega)) ⟨rfl, rfl, rfl, rfl, rfl, rfl, trivial⟩
            · refine V_iconst C d_Mod_day_56 rfl ?_
              refine V_goto (tgt := 61) C d_Mod_day_57 (by decide) ?_
              exact V_loc2 (go 1 (fun _ => (bi_1 ⟨g2, ⟨by omega, by omega⟩, by omega, by omega⟩).symm) ⟨by omega, by omega⟩) ⟨rfl, rfl, rfl, rfl, rfl, rfl, trivial⟩
end ModP
