theorem n12 {k : Int} (h : 1 ≤ k) (h2 : k ≤ 12) : k = 1 ∨ k = 2 ∨ k = 3 ∨ k = 4 ∨ k = 5 ∨ k = 6 ∨ k = 7 ∨ k = 8 ∨ k = 9 ∨ k = 10 ∨ k = 11 ∨ k = 12 := by omega
theorem mT_tab {k : Int} (h : 1 ≤ k) (h2 : k ≤ 12) : [31, 28, 31, 30, 31, 30, 31, 31, 30, 31, 30, (31 : Int)].getD (k - 1).toNat 0 = mT k := by
  rcases n12 h h2 with e | e | e | e | e | e | e | e | e | e | e | e <;> subst e <;> rfl
theorem lp_01 {c y : Int} (h : ¬ lp c y = 0) : leap c y := by
  by_cases q : leap c y
  · exact q
  · exact absurd (lp_of.2 q) h
theorem lp_00 {c y : Int} (h : lp c y = 0) : ¬ leap c y := fun q => by rw [lp_of.1 q] at h; omega
theorem fD_tab {c : Int} (h0 : 0 ≤ c) (h3 : c ≤ 3) : [0, -2, 227014, (-272788 : Int)].getD c.toNat 0 = ny c 1 := by
  rcases c4 h0 h3 with rfl | rfl | rfl | rfl <;> rfl
theorem cN_tab {c : Int} (h0 : 0 ≤ c) (h3 : c ≤ 3) : [400, 4, 30, (1 : Int)].getD c.toNat 0 = cyN c := by
  rcases c4 h0 h3 with rfl | rfl | rfl | rfl <;> rfl
theorem cD_tab {c : Int} (h0 : 0 ≤ c) (h3 : c ≤ 3) : [146097, 1461, 10631, (365 : Int)].getD c.toNat 0 = cyD c := by
  rcases c4 h0 h3 with rfl | rfl | rfl | rfl <;> rfl
theorem cy_in {c : Int} (h0 : 0 ≤ c) (h3 : c ≤ 3) : (1 ≤ cyN c ∧ cyN c ≤ 400) ∧ (365 ≤ cyD c ∧ cyD c ≤ 146097) ∧ -272788 ≤ ny c 1 ∧ ny c 1 ≤ 227014 := by
  rcases c4 h0 h3 with rfl | rfl | rfl | rfl <;> decide
section CalB
variable {p : Program} {l : Launch} {e : Env} {R : Room} {s : State} {m : MethodId} {args : Array Value} {below : List Frame} {meth : Method} {c : Code} {d : yD} {b : Nat} {Q : State → Prop} {cells slots n : Nat} {h : yH}
set_option maxHeartbeats 1000000 in
theorem c_Cal_monthDays (hl : yL l) {c0 y0 k : Int} (h0 : 0 ≤ c0) (h3 : c0 ≤ 3) (hy : inI y0) (hk : 1 ≤ k) (hk2 : k ≤ mo c0) : yM l y_Cal_monthDays b_Cal_monthDays 3 (some .int) 2 60 0 0 d b n h [vi c0, vi y0, vi k] (fun q n' h' => n' = n ∧ h' = h ∧ q = some (vi (md c0 y0 k))) noT := by
  refine yM_of hl (by decide +kernel) (Nat.le_of_ble_eq_true rfl) (fun p e s m args below meth c C => ?_)
  have hm : mo c0 ≤ 13 := by unfold mo; split <;> omega
  have hlp := lp_in c0 y0
  have tail : ∀ z : Nat, (z = 0 ∨ z = 1) → c0 = z → V p l e (yRm 2 60 0 0) s m args below meth c 3 d b (yEnd below s args d b (fun q n' h' => n' = n ∧ h' = h ∧ q = some (vi (md c0 y0 k))) noT 0 0) 0 0 n h 70 [(0, vi c0), (1, vi y0), (2, vi k)] [] := fun z hz hcz => by
    have n3 : ¬ c0 = 3 := by omega
    have n2 : ¬ c0 = 2 := by omega
    have hk12 : k ≤ 12 := by unfold mo at hk2; rw [if_neg n3] at hk2; exact hk2
    have e1 : md c0 y0 k = if k = 2 ∧ leap c0 y0 then 29 else mT k := by unfold md; rw [if_neg n3, if_neg n2]
    have tb : ¬ (k = 2 ∧ leap c0 y0) → V p l e (yRm 2 60 0 0) s m args below meth c 3 d b (yEnd below s args d b (fun q n' h' => n' = n ∧ h' = h ∧ q = some (vi (md c0 y0 k))) noT 0 0) 0 0 n h 88 [(0, vi c0), (1, vi y0), (2, vi k)] [] := fun hno => by
      refine V_getT (i := 0) C rfl w_Cal_monthDays_88 d_Cal_monthDays_88 ?_
      refine V_iload_n C d_Cal_monthDays_91 rfl rfl ?_
      refine V_iconst C d_Cal_monthDays_92 rfl ?_
      refine V_isub C d_Cal_monthDays_93 ?_
      refine V_ldT (i := 0) C rfl (by omega) (by show _ < (12 : Int); omega) (by decide) d_Cal_monthDays_94 ?_
      rw [show (["MONTH_DAYS"].head?.getD "", [31, 28, 31, 30, 31, 30, 31, 31, 30, 31, 30, (31 : Int)]).2.getD (k - 1).toNat 0 = mT k from mT_tab hk hk12]
      exact V_ireturn C d_Cal_monthDays_95 (Nat.le_refl _) (Nat.le_refl _) ⟨rfl, rfl, by rw [e1, if_neg hno]⟩
    refine V_iload_n C d_Cal_monthDays_70 rfl rfl ?_
    refine V_iconst C d_Cal_monthDays_71 rfl ?_
    refine V_icmp_ne (tgt := 88) C d_Cal_monthDays_72 (by decide) (by unfold inI; omega) (by unfold inI; omega) (fun q72 => ?_) (fun q72 => ?_)
    · exact tb (fun w => q72 w.1)
    · refine V_iload_n C d_Cal_monthDays_75 rfl rfl ?_
      refine V_iload_n C d_Cal_monthDays_76 rfl rfl ?_
      refine V_callS C (c_Cal_isLeap hl h0 h3 hy) wc_Cal_isLeap w_Cal_monthDays_77 np_Cal_isLeap (by decide) rfl (Nat.le_of_ble_eq_true rfl) d_Cal_monthDays_77 (fun v n1 h1 hp => ?_) (fun Cx n1 h1 hp => hp.elim)
      obtain ⟨rfl, rfl, rfl⟩ := hp
      refine V_if_eq (tgt := 88) C d_Cal_monthDays_80 (by decide) (by unfold inI; omega) (fun q80 => ?_) (fun q80 => ?_)
      · exact tb (fun w => lp_00 q80 w.2)
      · refine V_bipush (z := 29) C d_Cal_monthDays_83 rfl ?_
        refine V_goto (tgt := 95) C d_Cal_monthDays_85 (by decide) ?_
        exact V_ireturn C d_Cal_monthDays_95 (Nat.le_refl _) (Nat.le_refl _) ⟨rfl, rfl, by rw [e1, if_pos ⟨q72, lp_01 q80⟩]⟩
  refine V_iload_n C d_Cal_monthDays_0 rfl rfl ?_
  rcases c4 h0 h3 with e | e | e | e
  · subst e
    exact V_lsw C (by unfold inI; omega) d_Cal_monthDays_1 (by decide) (off := 69) (tgt := 70) rfl rfl (tail 0 (Or.inl rfl) rfl)
  · subst e
    exact V_lsw C (by unfold inI; omega) d_Cal_monthDays_1 (by decide) (off := 69) (tgt := 70) rfl rfl (tail 1 (Or.inr rfl) rfl)
  · subst e
    have e1 : md 2 y0 k = if k % 2 = 1 ∨ (k = 12 ∧ leap 2 y0) then 30 else 29 := rfl
    refine V_lsw C (by unfold inI; omega) d_Cal_monthDays_1 (by decide) (off := 27) (tgt := 28) rfl rfl ?_
    refine V_iload_n C d_Cal_monthDays_28 rfl rfl ?_
    refine V_iconst C d_Cal_monthDays_29 rfl ?_
    refine V_iremP C d_Cal_monthDays_30 (by omega) (by omega) (by omega) (by omega) ?_
    refine V_iconst C d_Cal_monthDays_31 rfl ?_
    refine V_icmp_eq (tgt := 49) C d_Cal_monthDays_32 (by decide) (by unfold inI; omega) (by unfold inI; omega) (fun q32 => ?_) (fun q32 => ?_)
    · refine V_bipush (z := 30) C d_Cal_monthDays_49 rfl ?_
      refine V_goto (tgt := 56) C d_Cal_monthDays_51 (by decide) ?_
      exact V_ireturn C d_Cal_monthDays_56 (Nat.le_refl _) (Nat.le_refl _) ⟨rfl, rfl, by rw [e1, if_pos (Or.inl q32)]⟩
    · refine V_iload_n C d_Cal_monthDays_35 rfl rfl ?_
      refine V_bipush (z := 12) C d_Cal_monthDays_36 rfl ?_
      refine V_icmp_ne (tgt := 54) C d_Cal_monthDays_38 (by decide) (by unfold inI; omega) (by unfold inI; omega) (fun q38 => ?_) (fun q38 => ?_)
      · refine V_bipush (z := 29) C d_Cal_monthDays_54 rfl ?_
        exact V_ireturn C d_Cal_monthDays_56 (Nat.le_refl _) (Nat.le_refl _) ⟨rfl, rfl, by rw [e1, if_neg (fun w => by rcases w with w | w; exact q32 w; exact q38 w.1)]⟩
      · refine V_iload_n C d_Cal_monthDays_41 rfl rfl ?_
        refine V_iload_n C d_Cal_monthDays_42 rfl rfl ?_
        refine V_callS C (c_Cal_isLeap hl h0 h3 hy) wc_Cal_isLeap w_Cal_monthDays_43 np_Cal_isLeap (by decide) rfl (Nat.le_of_ble_eq_true rfl) d_Cal_monthDays_43 (fun v n1 h1 hp => ?_) (fun Cx n1 h1 hp => hp.elim)
        obtain ⟨rfl, rfl, rfl⟩ := hp
        refine V_if_eq (tgt := 54) C d_Cal_monthDays_46 (by decide) (by unfold inI; omega) (fun q46 => ?_) (fun q46 => ?_)
        · refine V_bipush (z := 29) C d_Cal_monthDays_54 rfl ?_
          exact V_ireturn C d_Cal_monthDays_56 (Nat.le_refl _) (Nat.le_refl _) ⟨rfl, rfl, by rw [e1, if_neg (fun w => by rcases w with w | w; exact q32 w; exact lp_00 q46 w.2)]⟩
        · refine V_bipush (z := 30) C d_Cal_monthDays_49 rfl ?_
          refine V_goto (tgt := 56) C d_Cal_monthDays_51 (by decide) ?_
          exact V_ireturn C d_Cal_monthDays_56 (Nat.le_refl _) (Nat.le_refl _) ⟨rfl, rfl, by rw [e1, if_pos (Or.inr ⟨q38, lp_01 q46⟩)]⟩
  · subst e
    have e1 : md 3 y0 k = if k = 13 then 5 else 30 := rfl
    refine V_lsw C (by unfold inI; omega) d_Cal_monthDays_1 (by decide) (off := 56) (tgt := 57) rfl rfl ?_
    refine V_iload_n C d_Cal_monthDays_57 rfl rfl ?_
    refine V_bipush (z := 13) C d_Cal_monthDays_58 rfl ?_
    refine V_icmp_ne (tgt := 67) C d_Cal_monthDays_60 (by decide) (by unfold inI; omega) (by unfold inI; omega) (fun q60 => ?_) (fun q60 => ?_)
    · refine V_bipush (z := 30) C d_Cal_monthDays_67 rfl ?_
      exact V_ireturn C d_Cal_monthDays_69 (Nat.le_refl _) (Nat.le_refl _) ⟨rfl, rfl, by rw [e1, if_neg q60]⟩
    · refine V_iconst C d_Cal_monthDays_63 rfl ?_
      refine V_goto (tgt := 69) C d_Cal_monthDays_64 (by decide) ?_
      exact V_ireturn C d_Cal_monthDays_69 (Nat.le_refl _) (Nat.le_refl _) ⟨rfl, rfl, by rw [e1, if_pos q60]⟩
set_option maxHeartbeats 1000000 in
theorem Cal_ahead_loop (C : yC p l s m args meth c y_Cal_daysAhead b_Cal_daysAhead 5 (some .int) [] d b) (hl : yL l) {c0 y0 : Int} {mm : Nat} (h0 : 0 ≤ c0) (h3 : c0 ≤ 3) (hy : inI y0) (hk2 : (mm : Int) < mo c0) {post : Option Value → Nat → yH → Prop} (hp : post (some (vi (dah c0 y0 mm))) n h) :
    ∀ (j i : Nat), i + j = mm → V p l e (yRm 3 90 0 0) s m args below meth c 5 d b (yEnd below s args d b post noT 0 0) 0 0 n h 5 [(0, vi c0), (1, vi y0), (2, vi ((mm : Int) + 1)), (3, vi (dah c0 y0 i)), (4, vi ((i : Int) + 1))] [] := by
  have hm : mo c0 ≤ 13 := by unfold mo; split <;> omega
  intro j
  induction j with
  | zero =>
    intro i hi
    have e0 : i = mm := by omega
    subst e0
    refine V_iload C d_Cal_daysAhead_5 rfl ?_
    refine V_iload_n C d_Cal_daysAhead_7 rfl rfl ?_
    refine V_icmp_ge (tgt := 27) C d_Cal_daysAhead_8 (by decide) (by unfold inI; omega) (by unfold inI; omega) (fun q8 => ?_) (fun q8 => ?_)
    · refine V_iload_n C d_Cal_daysAhead_27 rfl rfl ?_
      exact V_ireturn C d_Cal_daysAhead_28 (Nat.le_refl _) (Nat.le_refl _) hp
    · exact absurd q8 (by omega)
  | succ j ih =>
    intro i hi
    refine V_iload C d_Cal_daysAhead_5 rfl ?_
    refine V_iload_n C d_Cal_daysAhead_7 rfl rfl ?_
    refine V_icmp_ge (tgt := 27) C d_Cal_daysAhead_8 (by decide) (by unfold inI; omega) (by unfold inI; omega) (fun q8 => ?_) (fun q8 => ?_)
    · exact absurd q8 (by omega)
    · refine V_iload_n C d_Cal_daysAhead_11 rfl rfl ?_
      refine V_iload_n C d_Cal_daysAhead_12 rfl rfl ?_
      refine V_iload_n C d_Cal_daysAhead_13 rfl rfl ?_
      refine V_iload C d_Cal_daysAhead_14 rfl ?_
      refine V_callS C (c_Cal_monthDays hl h0 h3 hy (k := (i : Int) + 1) (by omega) (by omega)) wc_Cal_monthDays w_Cal_daysAhead_16 np_Cal_monthDays (by decide) rfl (Nat.le_of_ble_eq_true rfl) d_Cal_daysAhead_16 (fun v n1 h1 hq => ?_) (fun Cx n1 h1 hp => hp.elim)
      obtain ⟨rfl, rfl, rfl⟩ := hq
      refine V_iadd C d_Cal_daysAhead_19 ?_
      refine V_istore_n C d_Cal_daysAhead_20 rfl (by decide) rfl ?_
      refine V_iinc C d_Cal_daysAhead_21 rfl rfl (by decide) rfl ?_
      refine V_goto (tgt := 5) C d_Cal_daysAhead_24 (by decide) ?_
      exact V_loc2 (ih (i + 1) (by omega)) ⟨rfl, rfl, rfl, rfl, rfl, trivial⟩
set_option maxHeartbeats 1000000 in
theorem c_Cal_daysAhead (hl : yL l) {c0 y0 k : Int} (h0 : 0 ≤ c0) (h3 : c0 ≤ 3) (hy : inI y0) (hk : 1 ≤ k) (hk2 : k ≤ mo c0) : yM l y_Cal_daysAhead b_Cal_daysAhead 5 (some .int) 3 90 0 0 d b n h [vi c0, vi y0, vi k] (fun q n' h' => n' = n ∧ h' = h ∧ q = some (vi (dah c0 y0 (k - 1).toNat))) noT := by
  refine yM_of hl (by decide +kernel) (Nat.le_of_ble_eq_true rfl) (fun p e s m args below meth c C => ?_)
  refine V_iconst C d_Cal_daysAhead_0 rfl ?_
  refine V_istore_n C d_Cal_daysAhead_1 rfl (by decide) rfl ?_
  refine V_iconst C d_Cal_daysAhead_2 rfl ?_
  refine V_istore C d_Cal_daysAhead_3 (by decide) rfl ?_
  refine V_loc2 (Cal_ahead_loop C hl h0 h3 hy (mm := (k - 1).toNat) (by omega) ⟨rfl, rfl, rfl⟩ (k - 1).toNat 0 (by omega)) ⟨rfl, rfl, ?_, rfl, rfl, trivial⟩
  show some (vi k) = some (vi ((((k - 1).toNat : Nat) : Int) + 1))
  rw [show (((k - 1).toNat : Nat) : Int) + 1 = k by omega]
set_option maxHeartbeats 1000000 in
theorem c_Cal_newYear (hl : yL l) {c0 y0 : Int} (h0 : 0 ≤ c0) (h3 : c0 ≤ 3) (hy : -100000 ≤ y0 ∧ y0 ≤ 100000) : yM l y_Cal_newYear b_Cal_newYear 4 (some .int) 1 40 0 0 d b n h [vi c0, vi y0] (fun q n' h' => n' = n ∧ h' = h ∧ q = some (vi (ny c0 y0))) noT := by
  refine yM_of hl (by decide +kernel) (Nat.le_of_ble_eq_true rfl) (fun p e s m args below meth c C => ?_)
  refine V_iload_n C d_Cal_newYear_0 rfl rfl ?_
  refine V_iconst C d_Cal_newYear_1 rfl ?_
  refine V_isub C d_Cal_newYear_2 ?_
  refine V_istore_n C d_Cal_newYear_3 rfl (by decide) rfl ?_
  refine V_getT (i := 2) C rfl w_Cal_newYear_4 d_Cal_newYear_4 ?_
  refine V_iload_n C d_Cal_newYear_7 rfl rfl ?_
  refine V_ldT (i := 2) C rfl (by omega) (by show _ < (4 : Int); omega) (by decide) d_Cal_newYear_8 ?_
  refine V_istore_n C d_Cal_newYear_9 rfl (by decide) rfl ?_
  refine V_iload_n C d_Cal_newYear_10 rfl rfl ?_
  have hin : inI (y0 - 1) := ⟨by omega, by omega⟩
  rcases c4 h0 h3 with rfl | rfl | rfl | rfl
  · refine V_tsw C (by unfold inI; omega) d_Cal_newYear_11 (fun q1 q2 => ⟨25, 36, rfl, rfl, ?_⟩) (fun q => absurd q (by omega))
    refine V_iload_n C d_Cal_newYear_36 rfl rfl ?_
    refine V_sipush (z := 365) C d_Cal_newYear_37 rfl ?_
    refine V_iload_n C d_Cal_newYear_40 rfl rfl ?_
    refine V_imul C d_Cal_newYear_41 ?_
    refine V_iadd C d_Cal_newYear_42 ?_
    refine V_iload_n C d_Cal_newYear_43 rfl rfl ?_
    refine V_iconst C d_Cal_newYear_44 rfl ?_
    refine V_callS C (c_JfloorDiv hl (x := y0 - 1) (z := 4) hin (by unfold inI; omega) (by omega)) wc_JfloorDiv w_Cal_newYear_45 np_JfloorDiv (by decide) rfl (Nat.le_of_ble_eq_true rfl) d_Cal_newYear_45 (fun v n1 h1 hp => ?_) (fun Cx n1 h1 hp => hp.elim)
    obtain ⟨rfl, rfl, rfl⟩ := hp
    refine V_iadd C d_Cal_newYear_48 ?_
    refine V_iload_n C d_Cal_newYear_49 rfl rfl ?_
    refine V_bipush (z := 100) C d_Cal_newYear_50 rfl ?_
    refine V_callS C (c_JfloorDiv hl (x := y0 - 1) (z := 100) hin (by unfold inI; omega) (by omega)) wc_JfloorDiv w_Cal_newYear_52 np_JfloorDiv (by decide) rfl (Nat.le_of_ble_eq_true rfl) d_Cal_newYear_52 (fun v n1 h1 hp => ?_) (fun Cx n1 h1 hp => hp.elim)
    obtain ⟨rfl, rfl, rfl⟩ := hp
    refine V_isub C d_Cal_newYear_55 ?_
    refine V_iload_n C d_Cal_newYear_56 rfl rfl ?_
    refine V_sipush (z := 400) C d_Cal_newYear_57 rfl ?_
    refine V_callS C (c_JfloorDiv hl (x := y0 - 1) (z := 400) hin (by unfold inI; omega) (by omega)) wc_JfloorDiv w_Cal_newYear_60 np_JfloorDiv (by decide) rfl (Nat.le_of_ble_eq_true rfl) d_Cal_newYear_60 (fun v n1 h1 hp => ?_) (fun Cx n1 h1 hp => hp.elim)
    obtain ⟨rfl, rfl, rfl⟩ := hp
    refine V_iadd C d_Cal_newYear_63 ?_
    refine V_ireturn C d_Cal_newYear_64 (Nat.le_refl _) (Nat.le_refl _) ⟨rfl, rfl, ?_⟩
    rw [ny0]
    show some (vi (0 + 365 * (y0 - 1) + (y0 - 1) / 4 - (y0 - 1) / 100 + (y0 - 1) / 400)) = _
    rw [Int.zero_add]
  · refine V_tsw C (by unfold inI; omega) d_Cal_newYear_11 (fun q1 q2 => ⟨54, 65, rfl, rfl, ?_⟩) (fun q => absurd q (by omega))
    refine V_iload_n C d_Cal_newYear_65 rfl rfl ?_
    refine V_sipush (z := 365) C d_Cal_newYear_66 rfl ?_
    refine V_iload_n C d_Cal_newYear_69 rfl rfl ?_
    refine V_imul C d_Cal_newYear_70 ?_
    refine V_iadd C d_Cal_newYear_71 ?_
    refine V_iload_n C d_Cal_newYear_72 rfl rfl ?_
    refine V_iconst C d_Cal_newYear_73 rfl ?_
    refine V_callS C (c_JfloorDiv hl (x := y0 - 1) (z := 4) hin (by unfold inI; omega) (by omega)) wc_JfloorDiv w_Cal_newYear_74 np_JfloorDiv (by decide) rfl (Nat.le_of_ble_eq_true rfl) d_Cal_newYear_74 (fun v n1 h1 hp => ?_) (fun Cx n1 h1 hp => hp.elim)
    obtain ⟨rfl, rfl, rfl⟩ := hp
    refine V_iadd C d_Cal_newYear_77 ?_
    exact V_ireturn C d_Cal_newYear_78 (Nat.le_refl _) (Nat.le_refl _) ⟨rfl, rfl, rfl⟩
  · refine V_tsw C (by unfold inI; omega) d_Cal_newYear_11 (fun q1 q2 => ⟨68, 79, rfl, rfl, ?_⟩) (fun q => absurd q (by omega))
    refine V_iload_n C d_Cal_newYear_79 rfl rfl ?_
    refine V_sipush (z := 354) C d_Cal_newYear_80 rfl ?_
    refine V_iload_n C d_Cal_newYear_83 rfl rfl ?_
    refine V_imul C d_Cal_newYear_84 ?_
    refine V_iadd C d_Cal_newYear_85 ?_
    refine V_getT (i := 1) C rfl w_Cal_newYear_86 d_Cal_newYear_86 ?_
    refine V_lenT (i := 1) C rfl rfl d_Cal_newYear_89 ?_
    refine V_iload_n C d_Cal_newYear_90 rfl rfl ?_
    refine V_bipush (z := 30) C d_Cal_newYear_91 rfl ?_
    refine V_callS C (c_JfloorDiv hl (x := y0 - 1) (z := 30) hin (by unfold inI; omega) (by omega)) wc_JfloorDiv w_Cal_newYear_93 np_JfloorDiv (by decide) rfl (Nat.le_of_ble_eq_true rfl) d_Cal_newYear_93 (fun v n1 h1 hp => ?_) (fun Cx n1 h1 hp => hp.elim)
    obtain ⟨rfl, rfl, rfl⟩ := hp
    refine V_imul C d_Cal_newYear_96 ?_
    refine V_iadd C d_Cal_newYear_97 ?_
    refine V_iload_n C d_Cal_newYear_98 rfl rfl ?_
    refine V_bipush (z := 30) C d_Cal_newYear_99 rfl ?_
    refine V_callS C (c_JfloorMod hl (x := y0 - 1) (z := 30) hin (by unfold inI; omega) (by omega)) wc_JfloorMod w_Cal_newYear_101 np_JfloorMod (by decide) rfl (Nat.le_of_ble_eq_true rfl) d_Cal_newYear_101 (fun v n1 h1 hp => ?_) (fun Cx n1 h1 hp => hp.elim)
    obtain ⟨rfl, rfl, rfl⟩ := hp
    refine V_callS C (c_Cal_lunarLeapsTo hl (r := (y0 - 1) % 30) (by unfold inI; omega)) wc_Cal_lunarLeapsTo w_Cal_newYear_104 np_Cal_lunarLeapsTo (by decide) rfl (Nat.le_of_ble_eq_true rfl) d_Cal_newYear_104 (fun v n1 h1 hp => ?_) (fun Cx n1 h1 hp => hp.elim)
    obtain ⟨rfl, rfl, rfl⟩ := hp
    refine V_iadd C d_Cal_newYear_107 ?_
    exact V_ireturn C d_Cal_newYear_108 (Nat.le_refl _) (Nat.le_refl _) ⟨rfl, rfl, rfl⟩
  · refine V_tsw C (by unfold inI; omega) d_Cal_newYear_11 (fun q1 q2 => absurd q2 (by omega)) (fun q => ⟨109, rfl, ?_⟩)
    refine V_iload_n C d_Cal_newYear_109 rfl rfl ?_
    refine V_sipush (z := 365) C d_Cal_newYear_110 rfl ?_
    refine V_iload_n C d_Cal_newYear_113 rfl rfl ?_
    refine V_imul C d_Cal_newYear_114 ?_
    refine V_iadd C d_Cal_newYear_115 ?_
    exact V_ireturn C d_Cal_newYear_116 (Nat.le_refl _) (Nat.le_refl _) ⟨rfl, rfl, rfl⟩
end CalB
