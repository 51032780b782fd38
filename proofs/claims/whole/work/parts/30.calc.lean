def lcP (r : Int) : Nat → Int
  | 0 => 0
  | k + 1 => lcP r k + (if [2, 5, 7, 10, 13, 16, 18, 21, 24, 26, 29].getD k 0 ≤ r then 1 else 0)
theorem lcP_11 (r : Int) : lcP r 11 = lcN r := by
  show 0 + _ + _ + _ + _ + _ + _ + _ + _ + _ + _ + _ = lcN r
  unfold lcN
  rw [Int.zero_add]
  rfl
theorem n11 {k : Nat} (h : k < 11) : k = 0 ∨ k = 1 ∨ k = 2 ∨ k = 3 ∨ k = 4 ∨ k = 5 ∨ k = 6 ∨ k = 7 ∨ k = 8 ∨ k = 9 ∨ k = 10 := by omega
theorem tab_in {k : Nat} (h : k < 11) : 2 ≤ [2, 5, 7, 10, 13, 16, 18, 21, 24, 26, (29 : Int)].getD k 0 ∧ [2, 5, 7, 10, 13, 16, 18, 21, 24, 26, (29 : Int)].getD k 0 ≤ 29 ∧ lun ([2, 5, 7, 10, 13, 16, 18, 21, 24, 26, (29 : Int)].getD k 0) := by
  rcases n11 h with e | e | e | e | e | e | e | e | e | e | e <;> subst e <;> decide
theorem tab_no {r : Int} (h : ∀ k, k < 11 → ¬ [2, 5, 7, 10, 13, 16, 18, 21, 24, 26, (29 : Int)].getD k 0 = r) : ¬ lun r := fun q => by
  rcases q with e | e | e | e | e | e | e | e | e | e | e
  · exact h 0 (by omega) e.symm
  · exact h 1 (by omega) e.symm
  · exact h 2 (by omega) e.symm
  · exact h 3 (by omega) e.symm
  · exact h 4 (by omega) e.symm
  · exact h 5 (by omega) e.symm
  · exact h 6 (by omega) e.symm
  · exact h 7 (by omega) e.symm
  · exact h 8 (by omega) e.symm
  · exact h 9 (by omega) e.symm
  · exact h 10 (by omega) e.symm
section CalA
variable {p : Program} {l : Launch} {e : Env} {R : Room} {s : State} {m : MethodId} {args : Array Value} {below : List Frame} {meth : Method} {c : Code} {d : yD} {b : Nat} {Q : State → Prop} {cells slots n : Nat} {h : yH}
set_option maxHeartbeats 1000000 in
theorem c_Cal_months (hl : yL l) {c0 : Int} (hc : inI c0) : yM l y_Cal_months b_Cal_months 1 (some .int) 0 0 0 0 d b n h [vi c0] (fun q n' h' => n' = n ∧ h' = h ∧ q = some (vi (mo c0))) noT := by
  refine yM_of hl (by decide +kernel) (Nat.le_of_ble_eq_true rfl) (fun p e s m args below meth c C => ?_)
  refine V_iload_n C d_Cal_months_0 rfl rfl ?_
  refine V_iconst C d_Cal_months_1 rfl ?_
  refine V_icmp_ne (tgt := 10) C d_Cal_months_2 (by decide) hc (by unfold inI; omega) (fun q2 => ?_) (fun q2 => ?_)
  · refine V_bipush (z := 12) C d_Cal_months_10 rfl ?_
    exact V_ireturn C d_Cal_months_12 (Nat.le_refl _) (Nat.le_refl _) ⟨rfl, rfl, by unfold mo; rw [if_neg q2]⟩
  · refine V_bipush (z := 13) C d_Cal_months_5 rfl ?_
    refine V_goto (tgt := 12) C d_Cal_months_7 (by decide) ?_
    exact V_ireturn C d_Cal_months_12 (Nat.le_refl _) (Nat.le_refl _) ⟨rfl, rfl, by unfold mo; rw [if_pos q2]⟩
set_option maxHeartbeats 1000000 in
theorem Cal_lun_loop (C : yC p l s m args meth c y_Cal_isLunarLeap b_Cal_isLunarLeap 5 (some .boolean) [] d b) {r : Int} (hr : inI r) {post : Option Value → Nat → yH → Prop} (hp : post (some (vi (if lun r then 1 else 0))) n h) :
    ∀ (j i : Nat), i + j = 11 → (∀ k, k < i → ¬ [2, 5, 7, 10, 13, 16, 18, 21, 24, 26, (29 : Int)].getD k 0 = r) → V p l e R s m args below meth c 5 d b (yEnd below s args d b post noT 0 0) 0 0 n h 9 [(0, vi r), (1, .ref (d.2.2 1)), (2, vi 11), (3, vi i)] [] := by
  intro j
  induction j with
  | zero =>
    intro i hi hno
    refine V_iload_n C d_Cal_isLunarLeap_9 rfl rfl ?_
    refine V_iload_n C d_Cal_isLunarLeap_10 rfl rfl ?_
    refine V_icmp_ge (tgt := 33) C d_Cal_isLunarLeap_11 (by decide) (by unfold inI; omega) (by unfold inI; omega) (fun q11 => ?_) (fun q11 => ?_)
    · rw [if_neg (tab_no (fun k hk => hno k (by omega)))] at hp
      refine V_iconst C d_Cal_isLunarLeap_33 rfl ?_
      exact V_zreturn C d_Cal_isLunarLeap_34 (by omega) (Nat.le_refl _) (Nat.le_refl _) hp
    · exact absurd q11 (by omega)
  | succ j ih =>
    intro i hi hno
    have t1 := tab_in (show i < 11 by omega)
    refine V_iload_n C d_Cal_isLunarLeap_9 rfl rfl ?_
    refine V_iload_n C d_Cal_isLunarLeap_10 rfl rfl ?_
    refine V_icmp_ge (tgt := 33) C d_Cal_isLunarLeap_11 (by decide) (by unfold inI; omega) (by unfold inI; omega) (fun q11 => ?_) (fun q11 => ?_)
    · exact absurd q11 (by omega)
    · refine V_aload_n C d_Cal_isLunarLeap_14 rfl rfl ?_
      refine V_iload_n C d_Cal_isLunarLeap_15 rfl rfl ?_
      refine V_ldT (i := 1) C rfl (by omega) (by show _ < (11 : Int); omega) (by decide) d_Cal_isLunarLeap_16 ?_
      rw [Int.toNat_natCast]
      refine V_istore C d_Cal_isLunarLeap_17 (by decide) rfl ?_
      refine V_iload C d_Cal_isLunarLeap_19 rfl ?_
      refine V_iload_n C d_Cal_isLunarLeap_21 rfl rfl ?_
      refine V_icmp_ne (tgt := 27) C d_Cal_isLunarLeap_22 (by decide) ⟨by show _ ≤ [2, 5, 7, 10, 13, 16, 18, 21, 24, 26, (29 : Int)].getD i 0; omega, by show [2, 5, 7, 10, 13, 16, 18, 21, 24, 26, (29 : Int)].getD i 0 ≤ _; omega⟩ hr (fun q22 => ?_) (fun q22 => ?_)
      · refine V_iinc C d_Cal_isLunarLeap_27 rfl rfl (by decide) rfl ?_
        refine V_goto (tgt := 9) C d_Cal_isLunarLeap_30 (by decide) ?_
        refine V_loc2 (ih (i + 1) (by omega) (fun k hk => ?_)) ⟨rfl, rfl, rfl, rfl, trivial⟩
        by_cases e1 : k = i
        · rw [e1]; exact q22
        · exact hno k (by omega)
      · have hy : lun r := by
          have t2 := t1.2.2
          rw [show [2, 5, 7, 10, 13, 16, 18, 21, 24, 26, (29 : Int)].getD i 0 = r from q22] at t2
          exact t2
        rw [if_pos hy] at hp
        refine V_iconst C d_Cal_isLunarLeap_25 rfl ?_
        exact V_zreturn C d_Cal_isLunarLeap_26 (by omega) (Nat.le_refl _) (Nat.le_refl _) hp
set_option maxHeartbeats 1000000 in
theorem c_Cal_isLunarLeap (hl : yL l) {r : Int} (hr : inI r) : yM l y_Cal_isLunarLeap b_Cal_isLunarLeap 5 (some .boolean) 0 0 0 0 d b n h [vi r] (fun q n' h' => n' = n ∧ h' = h ∧ q = some (vi (if lun r then 1 else 0))) noT := by
  refine yM_of hl (by decide +kernel) (Nat.le_of_ble_eq_true rfl) (fun p e s m args below meth c C => ?_)
  refine V_getT (i := 1) C rfl w_Cal_isLunarLeap_0 d_Cal_isLunarLeap_0 ?_
  refine V_astore_n C d_Cal_isLunarLeap_3 rfl (by decide) rfl ?_
  refine V_aload_n C d_Cal_isLunarLeap_4 rfl rfl ?_
  refine V_lenT (i := 1) C rfl rfl d_Cal_isLunarLeap_5 ?_
  refine V_istore_n C d_Cal_isLunarLeap_6 rfl (by decide) rfl ?_
  refine V_iconst C d_Cal_isLunarLeap_7 rfl ?_
  refine V_istore_n C d_Cal_isLunarLeap_8 rfl (by decide) rfl ?_
  exact V_loc2 (Cal_lun_loop C hr ⟨rfl, rfl, rfl⟩ 11 0 (by omega) (fun k hk => absurd hk (by omega))) ⟨rfl, rfl, rfl, rfl, trivial⟩
set_option maxHeartbeats 1000000 in
theorem Cal_to_loop (C : yC p l s m args meth c y_Cal_lunarLeapsTo b_Cal_lunarLeapsTo 6 (some .int) [] d b) {r : Int} (hr : inI r) {post : Option Value → Nat → yH → Prop} (hp : post (some (vi (lcN r))) n h) :
    ∀ (j i : Nat), i + j = 11 → V p l e R s m args below meth c 6 d b (yEnd below s args d b post noT 0 0) 0 0 n h 12 [(0, vi r), (1, vi (lcP r i)), (2, .ref (d.2.2 1)), (3, vi 11), (4, vi i)] [] := by
  intro j
  induction j with
  | zero =>
    intro i hi
    have e0 : i = 11 := by omega
    subst e0
    refine V_iload C d_Cal_lunarLeapsTo_12 rfl ?_
    refine V_iload_n C d_Cal_lunarLeapsTo_14 rfl rfl ?_
    refine V_icmp_ge (tgt := 39) C d_Cal_lunarLeapsTo_15 (by decide) (by unfold inI; omega) (by unfold inI; omega) (fun q15 => ?_) (fun q15 => ?_)
    · rw [← lcP_11] at hp
      refine V_iload_n C d_Cal_lunarLeapsTo_39 rfl rfl ?_
      exact V_ireturn C d_Cal_lunarLeapsTo_40 (Nat.le_refl _) (Nat.le_refl _) hp
    · exact absurd q15 (by omega)
  | succ j ih =>
    intro i hi
    have t1 := tab_in (show i < 11 by omega)
    have en : lcP r (i + 1) = lcP r i + (if [2, 5, 7, 10, 13, 16, 18, 21, 24, 26, (29 : Int)].getD i 0 ≤ r then 1 else 0) := rfl
    refine V_iload C d_Cal_lunarLeapsTo_12 rfl ?_
    refine V_iload_n C d_Cal_lunarLeapsTo_14 rfl rfl ?_
    refine V_icmp_ge (tgt := 39) C d_Cal_lunarLeapsTo_15 (by decide) (by unfold inI; omega) (by unfold inI; omega) (fun q15 => ?_) (fun q15 => ?_)
    · exact absurd q15 (by omega)
    · refine V_aload_n C d_Cal_lunarLeapsTo_18 rfl rfl ?_
      refine V_iload C d_Cal_lunarLeapsTo_19 rfl ?_
      refine V_ldT (i := 1) C rfl (by omega) (by show _ < (11 : Int); omega) (by decide) d_Cal_lunarLeapsTo_21 ?_
      rw [Int.toNat_natCast]
      refine V_istore C d_Cal_lunarLeapsTo_22 (by decide) rfl ?_
      refine V_iload C d_Cal_lunarLeapsTo_24 rfl ?_
      refine V_iload_n C d_Cal_lunarLeapsTo_26 rfl rfl ?_
      refine V_icmp_gt (tgt := 33) C d_Cal_lunarLeapsTo_27 (by decide) ⟨by show _ ≤ [2, 5, 7, 10, 13, 16, 18, 21, 24, 26, (29 : Int)].getD i 0; omega, by show [2, 5, 7, 10, 13, 16, 18, 21, 24, 26, (29 : Int)].getD i 0 ≤ _; omega⟩ hr (fun q27 => ?_) (fun q27 => ?_)
      · rw [if_neg (fun w => by have q28 : r < [2, 5, 7, 10, 13, 16, 18, 21, 24, 26, (29 : Int)].getD i 0 := q27; omega)] at en
        refine V_iinc C d_Cal_lunarLeapsTo_33 rfl rfl (by decide) rfl ?_
        refine V_goto (tgt := 12) C d_Cal_lunarLeapsTo_36 (by decide) ?_
        refine V_loc2 (ih (i + 1) (by omega)) ⟨rfl, ?_, rfl, rfl, rfl, trivial⟩
        rw [en, Int.add_zero]; rfl
      · rw [if_pos (by have q28 : ¬ r < [2, 5, 7, 10, 13, 16, 18, 21, 24, 26, (29 : Int)].getD i 0 := q27; omega)] at en
        refine V_iinc C d_Cal_lunarLeapsTo_30 rfl rfl (by decide) rfl ?_
        refine V_iinc C d_Cal_lunarLeapsTo_33 rfl rfl (by decide) rfl ?_
        refine V_goto (tgt := 12) C d_Cal_lunarLeapsTo_36 (by decide) ?_
        refine V_loc2 (ih (i + 1) (by omega)) ⟨rfl, ?_, rfl, rfl, rfl, trivial⟩
        rw [en]; rfl
set_option maxHeartbeats 1000000 in
theorem c_Cal_lunarLeapsTo (hl : yL l) {r : Int} (hr : inI r) : yM l y_Cal_lunarLeapsTo b_Cal_lunarLeapsTo 6 (some .int) 0 0 0 0 d b n h [vi r] (fun q n' h' => n' = n ∧ h' = h ∧ q = some (vi (lcN r))) noT := by
  refine yM_of hl (by decide +kernel) (Nat.le_of_ble_eq_true rfl) (fun p e s m args below meth c C => ?_)
  refine V_iconst C d_Cal_lunarLeapsTo_0 rfl ?_
  refine V_istore_n C d_Cal_lunarLeapsTo_1 rfl (by decide) rfl ?_
  refine V_getT (i := 1) C rfl w_Cal_lunarLeapsTo_2 d_Cal_lunarLeapsTo_2 ?_
  refine V_astore_n C d_Cal_lunarLeapsTo_5 rfl (by decide) rfl ?_
  refine V_aload_n C d_Cal_lunarLeapsTo_6 rfl rfl ?_
  refine V_lenT (i := 1) C rfl rfl d_Cal_lunarLeapsTo_7 ?_
  refine V_istore_n C d_Cal_lunarLeapsTo_8 rfl (by decide) rfl ?_
  refine V_iconst C d_Cal_lunarLeapsTo_9 rfl ?_
  refine V_istore C d_Cal_lunarLeapsTo_10 (by decide) rfl ?_
  exact V_loc2 (Cal_to_loop C hr ⟨rfl, rfl, rfl⟩ 11 0 (by omega)) ⟨rfl, rfl, rfl, rfl, rfl, trivial⟩
set_option maxHeartbeats 1000000 in
theorem c_Cal_isLeap (hl : yL l) {c0 y0 : Int} (h0 : 0 ≤ c0) (h3 : c0 ≤ 3) (hy : inI y0) : yM l y_Cal_isLeap b_Cal_isLeap 2 (some .boolean) 1 30 0 0 d b n h [vi c0, vi y0] (fun q n' h' => n' = n ∧ h' = h ∧ q = some (vi (lp c0 y0))) noT := by
  refine yM_of hl (by decide +kernel) (Nat.le_of_ble_eq_true rfl) (fun p e s m args below meth c C => ?_)
  refine V_iload_n C d_Cal_isLeap_0 rfl rfl ?_
  rcases c4 h0 h3 with rfl | rfl | rfl | rfl
  · refine V_tsw C (by unfold inI; omega) d_Cal_isLeap_1 (fun q1 q2 => ⟨27, 28, rfl, rfl, ?_⟩) (fun q => absurd q (by omega))
    refine V_iload_n C d_Cal_isLeap_28 rfl rfl ?_
    refine V_iconst C d_Cal_isLeap_29 rfl ?_
    refine V_callS C (c_JfloorMod hl (x := y0) (z := 4) hy (by unfold inI; omega) (by omega)) wc_JfloorMod w_Cal_isLeap_30 np_JfloorMod (by decide) rfl (Nat.le_of_ble_eq_true rfl) d_Cal_isLeap_30 (fun v n1 h1 hp => ?_) (fun Cx n1 h1 hp => hp.elim)
    obtain ⟨rfl, rfl, rfl⟩ := hp
    refine V_if_ne (tgt := 59) C d_Cal_isLeap_33 (by decide) (by unfold inI; omega) (fun q33 => ?_) (fun q33 => ?_)
    · refine V_iconst C d_Cal_isLeap_59 rfl ?_
      exact V_zreturn C d_Cal_isLeap_60 (by omega) (Nat.le_refl _) (Nat.le_refl _) ⟨rfl, rfl, by rw [lpc0, if_neg (fun w => q33 w.1)]⟩
    · refine V_iload_n C d_Cal_isLeap_36 rfl rfl ?_
      refine V_bipush (z := 100) C d_Cal_isLeap_37 rfl ?_
      refine V_callS C (c_JfloorMod hl (x := y0) (z := 100) hy (by unfold inI; omega) (by omega)) wc_JfloorMod w_Cal_isLeap_39 np_JfloorMod (by decide) rfl (Nat.le_of_ble_eq_true rfl) d_Cal_isLeap_39 (fun v n1 h1 hp => ?_) (fun Cx n1 h1 hp => hp.elim)
      obtain ⟨rfl, rfl, rfl⟩ := hp
      refine V_if_ne (tgt := 55) C d_Cal_isLeap_42 (by decide) (by unfold inI; omega) (fun q42 => ?_) (fun q42 => ?_)
      · refine V_iconst C d_Cal_isLeap_55 rfl ?_
        refine V_goto (tgt := 60) C d_Cal_isLeap_56 (by decide) ?_
        exact V_zreturn C d_Cal_isLeap_60 (by omega) (Nat.le_refl _) (Nat.le_refl _) ⟨rfl, rfl, by rw [lpc0, if_pos ⟨q33, Or.inl q42⟩]⟩
      · refine V_iload_n C d_Cal_isLeap_45 rfl rfl ?_
        refine V_sipush (z := 400) C d_Cal_isLeap_46 rfl ?_
        refine V_callS C (c_JfloorMod hl (x := y0) (z := 400) hy (by unfold inI; omega) (by omega)) wc_JfloorMod w_Cal_isLeap_49 np_JfloorMod (by decide) rfl (Nat.le_of_ble_eq_true rfl) d_Cal_isLeap_49 (fun v n1 h1 hp => ?_) (fun Cx n1 h1 hp => hp.elim)
        obtain ⟨rfl, rfl, rfl⟩ := hp
        refine V_if_ne (tgt := 59) C d_Cal_isLeap_52 (by decide) (by unfold inI; omega) (fun q52 => ?_) (fun q52 => ?_)
        · refine V_iconst C d_Cal_isLeap_59 rfl ?_
          exact V_zreturn C d_Cal_isLeap_60 (by omega) (Nat.le_refl _) (Nat.le_refl _) ⟨rfl, rfl, by rw [lpc0, if_neg (fun w => by rcases w.2 with z | z; exact z q42; exact q52 z)]⟩
        · refine V_iconst C d_Cal_isLeap_55 rfl ?_
          refine V_goto (tgt := 60) C d_Cal_isLeap_56 (by decide) ?_
          exact V_zreturn C d_Cal_isLeap_60 (by omega) (Nat.le_refl _) (Nat.le_refl _) ⟨rfl, rfl, by rw [lpc0, if_pos ⟨q33, Or.inr q52⟩]⟩
  · refine V_tsw C (by unfold inI; omega) d_Cal_isLeap_1 (fun q1 q2 => ⟨60, 61, rfl, rfl, ?_⟩) (fun q => absurd q (by omega))
    refine V_iload_n C d_Cal_isLeap_61 rfl rfl ?_
    refine V_iconst C d_Cal_isLeap_62 rfl ?_
    refine V_callS C (c_JfloorMod hl (x := y0) (z := 4) hy (by unfold inI; omega) (by omega)) wc_JfloorMod w_Cal_isLeap_63 np_JfloorMod (by decide) rfl (Nat.le_of_ble_eq_true rfl) d_Cal_isLeap_63 (fun v n1 h1 hp => ?_) (fun Cx n1 h1 hp => hp.elim)
    obtain ⟨rfl, rfl, rfl⟩ := hp
    refine V_if_ne (tgt := 73) C d_Cal_isLeap_66 (by decide) (by unfold inI; omega) (fun q66 => ?_) (fun q66 => ?_)
    · refine V_iconst C d_Cal_isLeap_73 rfl ?_
      exact V_zreturn C d_Cal_isLeap_74 (by omega) (Nat.le_refl _) (Nat.le_refl _) ⟨rfl, rfl, by rw [lpc1, if_neg q66]⟩
    · refine V_iconst C d_Cal_isLeap_69 rfl ?_
      refine V_goto (tgt := 74) C d_Cal_isLeap_70 (by decide) ?_
      exact V_zreturn C d_Cal_isLeap_74 (by omega) (Nat.le_refl _) (Nat.le_refl _) ⟨rfl, rfl, by rw [lpc1, if_pos q66]⟩
  · refine V_tsw C (by unfold inI; omega) d_Cal_isLeap_1 (fun q1 q2 => ⟨74, 75, rfl, rfl, ?_⟩) (fun q => absurd q (by omega))
    refine V_iload_n C d_Cal_isLeap_75 rfl rfl ?_
    refine V_bipush (z := 30) C d_Cal_isLeap_76 rfl ?_
    refine V_callS C (c_JfloorMod hl (x := y0) (z := 30) hy (by unfold inI; omega) (by omega)) wc_JfloorMod w_Cal_isLeap_78 np_JfloorMod (by decide) rfl (Nat.le_of_ble_eq_true rfl) d_Cal_isLeap_78 (fun v n1 h1 hp => ?_) (fun Cx n1 h1 hp => hp.elim)
    obtain ⟨rfl, rfl, rfl⟩ := hp
    refine V_callS C (c_Cal_isLunarLeap hl (r := y0 % 30) (by unfold inI; omega)) wc_Cal_isLunarLeap w_Cal_isLeap_81 np_Cal_isLunarLeap (by decide) rfl (Nat.le_of_ble_eq_true rfl) d_Cal_isLeap_81 (fun v n1 h1 hp => ?_) (fun Cx n1 h1 hp => hp.elim)
    obtain ⟨rfl, rfl, rfl⟩ := hp
    rw [← lpc2]
    have := lp_in 2 y0
    exact V_zreturn C d_Cal_isLeap_84 (by omega) (Nat.le_refl _) (Nat.le_refl _) ⟨rfl, rfl, rfl⟩
  · refine V_tsw C (by unfold inI; omega) d_Cal_isLeap_1 (fun q1 q2 => absurd q2 (by omega)) (fun q => ⟨85, rfl, ?_⟩)
    refine V_iconst C d_Cal_isLeap_85 rfl ?_
    exact V_zreturn C d_Cal_isLeap_86 (by omega) (Nat.le_refl _) (Nat.le_refl _) ⟨rfl, rfl, by rw [lpc3]⟩
end CalA
