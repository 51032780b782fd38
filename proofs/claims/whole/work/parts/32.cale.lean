theorem mean_in {c n : Int} (h0 : 0 ≤ c) (h3 : c ≤ 3) (h1 : -4000000 ≤ n) (h2 : n ≤ 4000000) : -20000 ≤ mean c n ∧ mean c n ≤ 20000 := by
  obtain ⟨a1, a2⟩ := mean_ok h0 h3 n
  have e0 := cy_in h0 h3
  constructor
  · by_cases q : mean c n + 1 + 1 < 1
    · have := ny_lt h0 h3 (mean c n + 1 + 1) (1 - (mean c n + 1 + 1)).toNat
      rw [show mean c n + 1 + 1 + (((1 - (mean c n + 1 + 1)).toNat : Nat) : Int) = 1 by omega] at this
      omega
    · omega
  · by_cases q : 1 < mean c n
    · have := ny_lt h0 h3 1 (mean c n - 1).toNat
      rw [show 1 + (((mean c n - 1).toNat : Nat) : Int) = mean c n by omega] at this
      omega
    · omega
section CalC
variable {p : Program} {l : Launch} {e : Env} {R : Room} {s : State} {m : MethodId} {args : Array Value} {below : List Frame} {meth : Method} {c : Code} {d : yD} {b : Nat} {Q : State → Prop} {cells slots n : Nat} {h : yH}
variable {x : XS} {v : Vw}
set_option maxHeartbeats 1000000 in
theorem c_Cal_yearOf (hl : yL l) {c0 z : Int} (h0 : 0 ≤ c0) (h3 : c0 ≤ 3) (h1 : -4000000 ≤ z) (h2 : z ≤ 4000000) : yM l y_Cal_yearOf b_Cal_yearOf 5 (some .int) 2 70 0 0 d b n h [vi c0, vi z] (fun q n' h' => n' = n ∧ h' = h ∧ ∃ y, q = some (vi y) ∧ isY c0 z y ∧ -20000 ≤ y ∧ y ≤ 20001) noT := by
  refine yM_of hl (by decide +kernel) (Nat.le_of_ble_eq_true rfl) (fun p e s m args below meth c C => ?_)
  obtain ⟨⟨k1, k2⟩, ⟨k3, k4⟩, k5, k6⟩ := cy_in h0 h3
  have mi := mean_in h0 h3 h1 h2
  have mk := mean_ok h0 h3 z
  have p1 : -10000000 * 400 ≤ (z - ny c0 1) * cyN c0 ∧ (z - ny c0 1) * cyN c0 ≤ 10000000 * 400 := by
    constructor
    · have e1 : 0 ≤ (z - ny c0 1 + 10000000) * cyN c0 := Int.mul_nonneg (by omega) (by omega)
      rw [Int.add_mul] at e1
      omega
    · have e1 : 0 ≤ (10000000 - (z - ny c0 1)) * cyN c0 := Int.mul_nonneg (by omega) (by omega)
      rw [Int.sub_mul] at e1
      omega
  refine V_iload_n C d_Cal_yearOf_0 rfl rfl ?_
  refine V_getT (i := 2) C rfl w_Cal_yearOf_1 d_Cal_yearOf_1 ?_
  refine V_iload_n C d_Cal_yearOf_4 rfl rfl ?_
  refine V_ldT (i := 2) C rfl (by omega) (by show _ < (4 : Int); omega) (by decide) d_Cal_yearOf_5 ?_
  rw [show ("FIRST_DAY", [0, -2, 227014, (-272788 : Int)]).2.getD c0.toNat 0 = ny c0 1 from fD_tab h0 h3]
  refine V_isub C d_Cal_yearOf_6 ?_
  refine V_i2l C d_Cal_yearOf_7 (by unfold inI; omega) ?_
  refine V_lstore_n C d_Cal_yearOf_8 rfl (by decide) rfl ?_
  refine V_lload_n C d_Cal_yearOf_9 rfl rfl ?_
  refine V_getT (i := 3) C rfl w_Cal_yearOf_10 d_Cal_yearOf_10 ?_
  refine V_iload_n C d_Cal_yearOf_13 rfl rfl ?_
  refine V_ldT (i := 3) C rfl (by omega) (by show _ < (4 : Int); omega) (by decide) d_Cal_yearOf_14 ?_
  rw [show ("CYCLE_YEARS", [400, 4, 30, (1 : Int)]).2.getD c0.toNat 0 = cyN c0 from cN_tab h0 h3]
  refine V_i2l C d_Cal_yearOf_15 (by unfold inI; omega) ?_
  refine V_lmul C d_Cal_yearOf_16 ?_
  refine V_getT (i := 4) C rfl w_Cal_yearOf_17 d_Cal_yearOf_17 ?_
  refine V_iload_n C d_Cal_yearOf_20 rfl rfl ?_
  refine V_ldT (i := 4) C rfl (by omega) (by show _ < (4 : Int); omega) (by decide) d_Cal_yearOf_21 ?_
  rw [show ("CYCLE_DAYS", [146097, 1461, 10631, (365 : Int)]).2.getD c0.toNat 0 = cyD c0 from cD_tab h0 h3]
  refine V_i2l C d_Cal_yearOf_22 (by unfold inI; omega) ?_
  refine V_callS C (c_JfloorDivL hl (x := (z - ny c0 1) * cyN c0) (z := cyD c0) (by unfold inJ; omega) (by unfold inJ; omega) (by omega)) wc_JfloorDivL w_Cal_yearOf_23 np_JfloorDivL (by decide) rfl (Nat.le_of_ble_eq_true rfl) d_Cal_yearOf_23 (fun v n1 h1 hp => ?_) (fun Cx n1 h1 hp => hp.elim)
  obtain ⟨rfl, rfl, rfl⟩ := hp
  refine V_l2i C d_Cal_yearOf_26 ?_
  refine V_iconst C d_Cal_yearOf_27 rfl ?_
  refine V_iadd C d_Cal_yearOf_28 ?_
  refine V_istore C d_Cal_yearOf_29 (by decide) rfl ?_
  refine V_iload_n C d_Cal_yearOf_31 rfl rfl ?_
  refine V_iload C d_Cal_yearOf_32 rfl ?_
  refine V_iconst C d_Cal_yearOf_34 rfl ?_
  refine V_iadd C d_Cal_yearOf_35 ?_
  rw [show (z - ny c0 1) * cyN c0 / cyD c0 + 1 = mean c0 z from rfl]
  refine V_callS C (c_Cal_newYear hl h0 h3 (y0 := mean c0 z + 1) ⟨by omega, by omega⟩) wc_Cal_newYear w_Cal_yearOf_36 np_Cal_newYear (by decide) rfl (Nat.le_of_ble_eq_true rfl) d_Cal_yearOf_36 (fun v n1 h1 hp => ?_) (fun Cx n1 h1 hp => hp.elim)
  obtain ⟨rfl, rfl, rfl⟩ := hp
  have hin : inI (ny c0 (mean c0 z + 1)) := by
    have e1 := ny_next h0 h3 (mean c0 z)
    have e2 := ny_next h0 h3 (mean c0 z + 1)
    have e3 := yd_in c0 (mean c0 z)
    have e4 := yd_in c0 (mean c0 z + 1)
    exact ⟨by omega, by omega⟩
  refine V_iload_n C d_Cal_yearOf_39 rfl rfl ?_
  refine V_icmp_gt (tgt := 50) C d_Cal_yearOf_40 (by decide) hin (by unfold inI; omega) (fun q40 => ?_) (fun q40 => ?_)
  · refine V_iload C d_Cal_yearOf_50 rfl ?_
    exact V_ireturn C d_Cal_yearOf_52 (Nat.le_refl _) (Nat.le_refl _) ⟨rfl, rfl, _, rfl, ⟨mk.1, q40⟩, by omega, by omega⟩
  · refine V_iload C d_Cal_yearOf_43 rfl ?_
    refine V_iconst C d_Cal_yearOf_45 rfl ?_
    refine V_iadd C d_Cal_yearOf_46 ?_
    refine V_goto (tgt := 52) C d_Cal_yearOf_47 (by decide) ?_
    exact V_ireturn C d_Cal_yearOf_52 (Nat.le_refl _) (Nat.le_refl _) ⟨rfl, rfl, _, rfl, ⟨by omega, mk.2⟩, by omega, by omega⟩
set_option maxHeartbeats 1000000 in
theorem Cal_month_loop (C : yC p l s m args meth c y_Cal_monthOf b_Cal_monthOf 5 (some .int) [] d b) (hl : yL l) {c0 y0 lf : Int} (h0 : 0 ≤ c0) (h3 : c0 ≤ 3) (hy : inI y0) (hl0 : 0 ≤ lf) (hl1 : lf < yd c0 y0) {post : Option Value → Nat → yH → Prop} (hp : ∀ (k : Nat) (rem : Int), isM c0 y0 lf k rem → post (some (vi ((k : Int) + 1))) n h) :
    ∀ (j i : Nat) (rem : Int), (i : Int) + j + 1 = mo c0 → dah c0 y0 i + rem = lf → 0 ≤ rem → V p l e (yRm 3 90 0 0) s m args below meth c 5 d b (yEnd below s args d b post noT 0 0) 0 0 n h 11 [(0, vi c0), (1, vi y0), (3, vi rem), (4, vi ((i : Int) + 1))] [] := by
  have hm : 12 ≤ mo c0 ∧ mo c0 ≤ 13 := by unfold mo; split <;> omega
  have hall := dah_all h0 h3 y0
  have hyd := yd_in c0 y0
  have mth : inI (mo c0) := ⟨by omega, by omega⟩
  intro j
  induction j with
  | zero =>
    intro i rem hi hd hr
    have e1 : (mo c0).toNat = i + 1 := by omega
    rw [e1] at hall
    have e2 : dah c0 y0 (i + 1) = dah c0 y0 i + md c0 y0 ((i : Int) + 1) := rfl
    refine V_iload C d_Cal_monthOf_11 rfl ?_
    refine V_iload_n C d_Cal_monthOf_13 rfl rfl ?_
    refine V_callS C (c_Cal_months hl (c0 := c0) ⟨by omega, by omega⟩) wc_Cal_months w_Cal_monthOf_14 np_Cal_months (by decide) rfl (Nat.le_of_ble_eq_true rfl) d_Cal_monthOf_14 (fun v n1 h1 hq => ?_) (fun Cx n1 h1 hp => hp.elim)
    obtain ⟨rfl, rfl, rfl⟩ := hq
    refine V_icmp_ge (tgt := 47) C d_Cal_monthOf_17 (by decide) (by unfold inI; omega) (by unfold inI; omega) (fun q17 => ?_) (fun q17 => ?_)
    · have hp := hp i rem ⟨by omega, hd, hr, by omega⟩
      refine V_iload C d_Cal_monthOf_47 rfl ?_
      exact V_ireturn C d_Cal_monthOf_49 (Nat.le_refl _) (Nat.le_refl _) hp
    · exact absurd q17 (by omega)
  | succ j ih =>
    intro i rem hi hd hr
    have e2 : dah c0 y0 (i + 1) = dah c0 y0 i + md c0 y0 ((i : Int) + 1) := rfl
    have mi := md_in c0 y0 ((i : Int) + 1)
    have di := dah_in c0 y0 i
    refine V_iload C d_Cal_monthOf_11 rfl ?_
    refine V_iload_n C d_Cal_monthOf_13 rfl rfl ?_
    refine V_callS C (c_Cal_months hl (c0 := c0) ⟨by omega, by omega⟩) wc_Cal_months w_Cal_monthOf_14 np_Cal_months (by decide) rfl (Nat.le_of_ble_eq_true rfl) d_Cal_monthOf_14 (fun v n1 h1 hq => ?_) (fun Cx n1 h1 hp => hp.elim)
    obtain ⟨rfl, rfl, rfl⟩ := hq
    refine V_icmp_ge (tgt := 47) C d_Cal_monthOf_17 (by decide) (by unfold inI; omega) (by unfold inI; omega) (fun q17 => ?_) (fun q17 => ?_)
    · exact absurd q17 (by omega)
    · refine V_iload_n C d_Cal_monthOf_20 rfl rfl ?_
      refine V_iload_n C d_Cal_monthOf_21 rfl rfl ?_
      refine V_iload_n C d_Cal_monthOf_22 rfl rfl ?_
      refine V_iload C d_Cal_monthOf_23 rfl ?_
      refine V_callS C (c_Cal_monthDays hl h0 h3 hy (k := (i : Int) + 1) (by omega) (by omega)) wc_Cal_monthDays w_Cal_monthOf_25 np_Cal_monthDays (by decide) rfl (Nat.le_of_ble_eq_true rfl) d_Cal_monthOf_25 (fun v n1 h1 hq => ?_) (fun Cx n1 h1 hp => hp.elim)
      obtain ⟨rfl, rfl, rfl⟩ := hq
      refine V_icmp_lt (tgt := 47) C d_Cal_monthOf_28 (by decide) (by unfold inI; omega) (by unfold inI; omega) (fun q28 => ?_) (fun q28 => ?_)
      · have hp := hp i rem ⟨by omega, hd, hr, q28⟩
        refine V_iload C d_Cal_monthOf_47 rfl ?_
        exact V_ireturn C d_Cal_monthOf_49 (Nat.le_refl _) (Nat.le_refl _) hp
      · refine V_iload_n C d_Cal_monthOf_31 rfl rfl ?_
        refine V_iload_n C d_Cal_monthOf_32 rfl rfl ?_
        refine V_iload_n C d_Cal_monthOf_33 rfl rfl ?_
        refine V_iload C d_Cal_monthOf_34 rfl ?_
        refine V_callS C (c_Cal_monthDays hl h0 h3 hy (k := (i : Int) + 1) (by omega) (by omega)) wc_Cal_monthDays w_Cal_monthOf_36 np_Cal_monthDays (by decide) rfl (Nat.le_of_ble_eq_true rfl) d_Cal_monthOf_36 (fun v n1 h1 hq => ?_) (fun Cx n1 h1 hp => hp.elim)
        obtain ⟨rfl, rfl, rfl⟩ := hq
        refine V_isub C d_Cal_monthOf_39 ?_
        refine V_istore_n C d_Cal_monthOf_40 rfl (by decide) rfl ?_
        refine V_iinc C d_Cal_monthOf_41 rfl rfl (by decide) rfl ?_
        refine V_goto (tgt := 11) C d_Cal_monthOf_44 (by decide) ?_
        exact V_loc2 (ih (i + 1) (rem - md c0 y0 ((i : Int) + 1)) (by omega) (by omega) (by omega)) ⟨rfl, rfl, rfl, rfl, trivial⟩
set_option maxHeartbeats 1000000 in
theorem c_Cal_monthOf (hl : yL l) {c0 y0 z : Int} (h0 : 0 ≤ c0) (h3 : c0 ≤ 3) (hY : isY c0 z y0) (hy : -100000 ≤ y0 ∧ y0 ≤ 100000) : yM l y_Cal_monthOf b_Cal_monthOf 5 (some .int) 3 90 0 0 d b n h [vi c0, vi y0, vi z] (fun q n' h' => n' = n ∧ h' = h ∧ ∃ (k : Nat) (rem : Int), q = some (vi ((k : Int) + 1)) ∧ isM c0 y0 (z - ny c0 y0) k rem) noT := by
  refine yM_of hl (by decide +kernel) (Nat.le_of_ble_eq_true rfl) (fun p e s m args below meth c C => ?_)
  have hn := ny_next h0 h3 y0
  have hm : 12 ≤ mo c0 ∧ mo c0 ≤ 13 := by unfold mo; split <;> omega
  obtain ⟨z1, z2⟩ := hY
  refine V_iload_n C d_Cal_monthOf_0 rfl rfl ?_
  refine V_iload_n C d_Cal_monthOf_1 rfl rfl ?_
  refine V_iload_n C d_Cal_monthOf_2 rfl rfl ?_
  refine V_callS C (c_Cal_newYear hl h0 h3 hy) wc_Cal_newYear w_Cal_monthOf_3 np_Cal_newYear (by decide) rfl (Nat.le_of_ble_eq_true rfl) d_Cal_monthOf_3 (fun v n1 h1 hp => ?_) (fun Cx n1 h1 hp => hp.elim)
  obtain ⟨rfl, rfl, rfl⟩ := hp
  refine V_isub C d_Cal_monthOf_6 ?_
  refine V_istore_n C d_Cal_monthOf_7 rfl (by decide) rfl ?_
  refine V_iconst C d_Cal_monthOf_8 rfl ?_
  refine V_istore C d_Cal_monthOf_9 (by decide) rfl ?_
  exact V_loc2 (Cal_month_loop C hl h0 h3 ⟨by omega, by omega⟩ (by omega) (by omega) (fun k rem hk => ⟨rfl, rfl, k, rem, rfl, hk⟩) ((mo c0).toNat - 1) 0 (z - ny c0 y0) (by omega) (by show (0 : Int) + _ = _; omega) (by omega)) ⟨rfl, rfl, rfl, rfl, trivial⟩
set_option maxHeartbeats 1000000 in
theorem c_Yf_day (hl : yL l) (hv : OkV v) (A : AtX d b x h) (O : OkX x v) {c0 y0 k z : Int} (hc : inI c0) (hy : inI y0) (hk : inI k) (hz : inI z) :
    yM l y_Yf_day b_Yf_day 5 (some .int) 8 160 64 512 d b n h [.ref (b + 0), vi c0, vi y0, vi k, vi z] (fun q n' h' => kDay c0 y0 k z = 0 ∧ n' = n ∧ q = some (vi (aDay c0 y0 k z)) ∧ PX d b h h' v) (tX d b n h v (fun C => (kDay c0 y0 k z = 1 ∧ C = xnI) ∨ (kDay c0 y0 k z = 2 ∧ C = xnA))) := by
  refine yM_of hl (by decide +kernel) (Nat.le_of_ble_eq_true rfl) (fun p e s m args below meth c C => ?_)
  refine V_iload_n C d_Yf_day_0 rfl rfl ?_
  refine V_callS C (c_Yf_requireCalendar hl hc) wc_Yf_requireCalendar w_Yf_day_1 np_Yf_requireCalendar (by decide) rfl (Nat.le_of_ble_eq_true rfl) d_Yf_day_1 (fun v n1 h1 hp => ?_) (fun Cx n1 h1 hp => ?_)
  · obtain ⟨hcal, rfl, rfl, rfl⟩ := hp
    have hm : 12 ≤ mo c0 ∧ mo c0 ≤ 13 := by unfold mo; split <;> omega
    have no : ∀ q : Prop, ¬ ((-9999 ≤ y0 ∧ y0 ≤ 9999) ∧ (1 ≤ k ∧ k ≤ mo c0) ∧ 1 ≤ z ∧ z ≤ md c0 y0 k) → kDay c0 y0 k z = 2 := fun _ q => by unfold kDay; rw [if_neg (fun w => w hcal), if_neg q]
    refine V_iload_n C d_Yf_day_4 rfl rfl ?_
    refine V_sipush (z := (-9999)) C d_Yf_day_5 rfl ?_
    refine V_icmp_lt (tgt := 18) C d_Yf_day_8 (by decide) hy (by unfold inI; omega) (fun q8 => ?_) (fun q8 => ?_)
    · exact V_throwS (text := "years are -9999 to 9999") C (by decide) w_Yf_day_18 xi_A xa_A xg_A (by decide +kernel) d_Yf_day_18 d_Yf_day_21 d_Yf_day_22 d_Yf_day_24 d_Yf_day_27 (fun x hx => absurd hx List.not_mem_nil) (by decide) (by omega) (by omega) (fun n' hn => ⟨Or.inr ⟨no True (by omega), rfl⟩, hn, ⟨x, A, O⟩, FrX.rfl⟩)
    · refine V_iload_n C d_Yf_day_11 rfl rfl ?_
      refine V_sipush (z := 9999) C d_Yf_day_12 rfl ?_
      refine V_icmp_le (tgt := 28) C d_Yf_day_15 (by decide) hy (by unfold inI; omega) (fun q15 => ?_) (fun q15 => ?_)
      · refine V_iload_n C d_Yf_day_28 rfl rfl ?_
        refine V_iconst C d_Yf_day_29 rfl ?_
        refine V_icmp_lt (tgt := 41) C d_Yf_day_30 (by decide) hk (by unfold inI; omega) (fun q30 => ?_) (fun q30 => ?_)
        · exact V_throwS (text := "no such month") C (by decide) w_Yf_day_41 xi_A xa_A xg_A (by decide +kernel) d_Yf_day_41 d_Yf_day_44 d_Yf_day_45 d_Yf_day_47 d_Yf_day_50 (fun x hx => absurd hx List.not_mem_nil) (by decide) (by omega) (by omega) (fun n' hn => ⟨Or.inr ⟨no True (by omega), rfl⟩, hn, ⟨x, A, O⟩, FrX.rfl⟩)
        · refine V_iload_n C d_Yf_day_33 rfl rfl ?_
          refine V_iload_n C d_Yf_day_34 rfl rfl ?_
          refine V_callS C (c_Cal_months hl hc) wc_Cal_months w_Yf_day_35 np_Cal_months (by decide) rfl (Nat.le_of_ble_eq_true rfl) d_Yf_day_35 (fun v n1 h1 hp => ?_) (fun Cx n1 h1 hp => hp.elim)
          obtain ⟨rfl, rfl, rfl⟩ := hp
          refine V_icmp_le (tgt := 51) C d_Yf_day_38 (by decide) hk (by unfold inI; omega) (fun q38 => ?_) (fun q38 => ?_)
          · have mi := md_in c0 y0 k
            refine V_iload C d_Yf_day_51 rfl ?_
            refine V_iconst C d_Yf_day_53 rfl ?_
            refine V_icmp_lt (tgt := 68) C d_Yf_day_54 (by decide) hz (by unfold inI; omega) (fun q54 => ?_) (fun q54 => ?_)
            · exact V_throwS (text := "no such day") C (by decide) w_Yf_day_68 xi_A xa_A xg_A (by decide +kernel) d_Yf_day_68 d_Yf_day_71 d_Yf_day_72 d_Yf_day_74 d_Yf_day_77 (fun x hx => absurd hx List.not_mem_nil) (by decide) (by omega) (by omega) (fun n' hn => ⟨Or.inr ⟨no True (by omega), rfl⟩, hn, ⟨x, A, O⟩, FrX.rfl⟩)
            · refine V_iload C d_Yf_day_57 rfl ?_
              refine V_iload_n C d_Yf_day_59 rfl rfl ?_
              refine V_iload_n C d_Yf_day_60 rfl rfl ?_
              refine V_iload_n C d_Yf_day_61 rfl rfl ?_
              refine V_callS C (c_Cal_monthDays hl (by omega) (by omega) hy (k := k) (by omega) (by omega)) wc_Cal_monthDays w_Yf_day_62 np_Cal_monthDays (by decide) rfl (Nat.le_of_ble_eq_true rfl) d_Yf_day_62 (fun v n1 h1 hp => ?_) (fun Cx n1 h1 hp => hp.elim)
              obtain ⟨rfl, rfl, rfl⟩ := hp
              refine V_icmp_le (tgt := 78) C d_Yf_day_65 (by decide) hz (by unfold inI; omega) (fun q65 => ?_) (fun q65 => ?_)
              · refine V_iload_n C d_Yf_day_78 rfl rfl ?_
                refine V_iload_n C d_Yf_day_79 rfl rfl ?_
                refine V_callS C (c_Cal_newYear hl (by omega) (by omega) (c0 := c0) (y0 := y0) ⟨by omega, by omega⟩) wc_Cal_newYear w_Yf_day_80 np_Cal_newYear (by decide) rfl (Nat.le_of_ble_eq_true rfl) d_Yf_day_80 (fun v n1 h1 hp => ?_) (fun Cx n1 h1 hp => hp.elim)
                obtain ⟨rfl, rfl, rfl⟩ := hp
                refine V_iload_n C d_Yf_day_83 rfl rfl ?_
                refine V_iload_n C d_Yf_day_84 rfl rfl ?_
                refine V_iload_n C d_Yf_day_85 rfl rfl ?_
                refine V_callS C (c_Cal_daysAhead hl (by omega) (by omega) hy (k := k) (by omega) (by omega)) wc_Cal_daysAhead w_Yf_day_86 np_Cal_daysAhead (by decide) rfl (Nat.le_of_ble_eq_true rfl) d_Yf_day_86 (fun v n1 h1 hp => ?_) (fun Cx n1 h1 hp => hp.elim)
                obtain ⟨rfl, rfl, rfl⟩ := hp
                refine V_iadd C d_Yf_day_89 ?_
                refine V_iload C d_Yf_day_90 rfl ?_
                refine V_iconst C d_Yf_day_92 rfl ?_
                refine V_isub C d_Yf_day_93 ?_
                refine V_iadd C d_Yf_day_94 ?_
                exact V_ireturn C d_Yf_day_95 (by omega) (by omega) ⟨by unfold kDay; rw [if_neg (fun w => w hcal), if_pos ⟨⟨by omega, by omega⟩, ⟨by omega, by omega⟩, by omega, by omega⟩], rfl, rfl, ⟨x, A, O⟩, FrX.rfl⟩
              · exact V_throwS (text := "no such day") C (by decide) w_Yf_day_68 xi_A xa_A xg_A (by decide +kernel) d_Yf_day_68 d_Yf_day_71 d_Yf_day_72 d_Yf_day_74 d_Yf_day_77 (fun x hx => absurd hx List.not_mem_nil) (by decide) (by omega) (by omega) (fun n' hn => ⟨Or.inr ⟨no True (by omega), rfl⟩, hn, ⟨x, A, O⟩, FrX.rfl⟩)
          · exact V_throwS (text := "no such month") C (by decide) w_Yf_day_41 xi_A xa_A xg_A (by decide +kernel) d_Yf_day_41 d_Yf_day_44 d_Yf_day_45 d_Yf_day_47 d_Yf_day_50 (fun x hx => absurd hx List.not_mem_nil) (by decide) (by omega) (by omega) (fun n' hn => ⟨Or.inr ⟨no True (by omega), rfl⟩, hn, ⟨x, A, O⟩, FrX.rfl⟩)
      · exact V_throwS (text := "years are -9999 to 9999") C (by decide) w_Yf_day_18 xi_A xa_A xg_A (by decide +kernel) d_Yf_day_18 d_Yf_day_21 d_Yf_day_22 d_Yf_day_24 d_Yf_day_27 (fun x hx => absurd hx List.not_mem_nil) (by decide) (by omega) (by omega) (fun n' hn => ⟨Or.inr ⟨no True (by omega), rfl⟩, hn, ⟨x, A, O⟩, FrX.rfl⟩)
  · obtain ⟨h1, rfl, h3, rfl⟩ := hp
    exact VT_leave C (fun x hx => absurd hx List.not_mem_nil) (by omega) (by omega) ⟨Or.inl ⟨by unfold kDay; rw [if_pos h1], rfl⟩, h3, ⟨x, A, O⟩, FrX.rfl⟩
set_option maxHeartbeats 1000000 in
theorem c_Yf_date (hl : yL l) (hv : OkV v) (A : AtX d b x h) (O : OkX x v) {c0 z w : Int} (hc : inI c0) (hz : inI z) (hw : inI w) :
    yM l y_Yf_date b_Yf_date 6 (some .int) 8 160 64 512 d b n h [.ref (b + 0), vi c0, vi z, vi w] (fun q n' h' => kDt c0 z w = 0 ∧ n' = n ∧ (∃ a, q = some (vi a) ∧ aDt c0 z w a) ∧ PX d b h h' v) (tX d b n h v (fun C => (kDt c0 z w = 1 ∧ C = xnI) ∨ (kDt c0 z w = 2 ∧ C = xnA))) := by
  refine yM_of hl (by decide +kernel) (Nat.le_of_ble_eq_true rfl) (fun p e s m args below meth c C => ?_)
  refine V_iload_n C d_Yf_date_0 rfl rfl ?_
  refine V_callS C (c_Yf_requireCalendar hl hc) wc_Yf_requireCalendar w_Yf_date_1 np_Yf_requireCalendar (by decide) rfl (Nat.le_of_ble_eq_true rfl) d_Yf_date_1 (fun v n1 h1 hp => ?_) (fun Cx n1 h1 hp => ?_)
  · obtain ⟨hcal, rfl, rfl, rfl⟩ := hp
    have hm : 12 ≤ mo c0 ∧ mo c0 ≤ 13 := by unfold mo; split <;> omega
    have no : ∀ q : Prop, ¬ ((0 ≤ w ∧ w ≤ 2) ∧ -4000000 ≤ z ∧ z ≤ 4000000) → kDt c0 z w = 2 := fun _ q => by unfold kDt; rw [if_neg (fun w => w hcal), if_neg q]
    refine V_iload_n C d_Yf_date_4 rfl rfl ?_
    refine V_if_lt (tgt := 13) C d_Yf_date_5 (by decide) hw (fun q5 => ?_) (fun q5 => ?_)
    · exact V_throwS (text := "a day is asked for 0, 1 or 2") C (by decide) w_Yf_date_13 xi_A xa_A xg_A (by decide +kernel) d_Yf_date_13 d_Yf_date_16 d_Yf_date_17 d_Yf_date_19 d_Yf_date_22 (fun x hx => absurd hx List.not_mem_nil) (by decide) (by omega) (by omega) (fun n' hn => ⟨Or.inr ⟨no True (by omega), rfl⟩, hn, ⟨x, A, O⟩, FrX.rfl⟩)
    · refine V_iload_n C d_Yf_date_8 rfl rfl ?_
      refine V_iconst C d_Yf_date_9 rfl ?_
      refine V_icmp_le (tgt := 23) C d_Yf_date_10 (by decide) hw (by unfold inI; omega) (fun q10 => ?_) (fun q10 => ?_)
      · refine V_iload_n C d_Yf_date_23 rfl rfl ?_
        refine V_ldc (z := (-4000000)) C w_Yf_date_24 rfl d_Yf_date_24 ?_
        refine V_icmp_lt (tgt := 35) C d_Yf_date_26 (by decide) hz (by unfold inI; omega) (fun q26 => ?_) (fun q26 => ?_)
        · exact V_throwS (text := "days are -4000000 to 4000000") C (by decide) w_Yf_date_35 xi_A xa_A xg_A (by decide +kernel) d_Yf_date_35 d_Yf_date_38 d_Yf_date_39 d_Yf_date_41 d_Yf_date_44 (fun x hx => absurd hx List.not_mem_nil) (by decide) (by omega) (by omega) (fun n' hn => ⟨Or.inr ⟨no True (by omega), rfl⟩, hn, ⟨x, A, O⟩, FrX.rfl⟩)
        · refine V_iload_n C d_Yf_date_29 rfl rfl ?_
          refine V_ldc (z := 4000000) C w_Yf_date_30 rfl d_Yf_date_30 ?_
          refine V_icmp_le (tgt := 45) C d_Yf_date_32 (by decide) hz (by unfold inI; omega) (fun q32 => ?_) (fun q32 => ?_)
          · have k0 : kDt c0 z w = 0 := by unfold kDt; rw [if_neg (fun w => w hcal), if_pos ⟨⟨by omega, by omega⟩, by omega, by omega⟩]
            refine V_iload_n C d_Yf_date_45 rfl rfl ?_
            refine V_iload_n C d_Yf_date_46 rfl rfl ?_
            refine V_callS C (c_Cal_yearOf hl (by omega) (by omega) (c0 := c0) (z := z) (by omega) (by omega)) wc_Cal_yearOf w_Yf_date_47 np_Cal_yearOf (by decide) rfl (Nat.le_of_ble_eq_true rfl) d_Yf_date_47 (fun v n1 h1 hp => ?_) (fun Cx n1 h1 hp => hp.elim)
            obtain ⟨rfl, rfl, y0, rfl, hY, y1, y2⟩ := hp
            refine V_istore C d_Yf_date_50 (by decide) rfl ?_
            refine V_iload_n C d_Yf_date_52 rfl rfl ?_
            refine V_if_ne (tgt := 59) C d_Yf_date_53 (by decide) hw (fun q53 => ?_) (fun q53 => ?_)
            · refine V_iload_n C d_Yf_date_59 rfl rfl ?_
              refine V_iload C d_Yf_date_60 rfl ?_
              refine V_iload_n C d_Yf_date_62 rfl rfl ?_
              refine V_callS C (c_Cal_monthOf hl (by omega) (by omega) hY ⟨by omega, by omega⟩) wc_Cal_monthOf w_Yf_date_63 np_Cal_monthOf (by decide) rfl (Nat.le_of_ble_eq_true rfl) d_Yf_date_63 (fun v n1 h1 hp => ?_) (fun Cx n1 h1 hp => hp.elim)
              obtain ⟨rfl, rfl, k, rem, rfl, hM⟩ := hp
              have hM' := id hM
              obtain ⟨m1, m2, m3, m4⟩ := hM'
              refine V_istore C d_Yf_date_66 (by decide) rfl ?_
              refine V_iload_n C d_Yf_date_68 rfl rfl ?_
              refine V_iconst C d_Yf_date_69 rfl ?_
              refine V_icmp_ne (tgt := 76) C d_Yf_date_70 (by decide) hw (by unfold inI; omega) (fun q70 => ?_) (fun q70 => ?_)
              · refine V_iload_n C d_Yf_date_76 rfl rfl ?_
                refine V_iload_n C d_Yf_date_77 rfl rfl ?_
                refine V_iload C d_Yf_date_78 rfl ?_
                refine V_callS C (c_Cal_newYear hl (by omega) (by omega) (c0 := c0) (y0 := y0) ⟨by omega, by omega⟩) wc_Cal_newYear w_Yf_date_80 np_Cal_newYear (by decide) rfl (Nat.le_of_ble_eq_true rfl) d_Yf_date_80 (fun v n1 h1 hp => ?_) (fun Cx n1 h1 hp => hp.elim)
                obtain ⟨rfl, rfl, rfl⟩ := hp
                refine V_isub C d_Yf_date_83 ?_
                refine V_iload_n C d_Yf_date_84 rfl rfl ?_
                refine V_iload C d_Yf_date_85 rfl ?_
                refine V_iload C d_Yf_date_87 rfl ?_
                refine V_callS C (c_Cal_daysAhead hl (by omega) (by omega) (c0 := c0) (y0 := y0) (k := (k : Int) + 1) ⟨by omega, by omega⟩ (by omega) (by omega)) wc_Cal_daysAhead w_Yf_date_89 np_Cal_daysAhead (by decide) rfl (Nat.le_of_ble_eq_true rfl) d_Yf_date_89 (fun v n1 h1 hp => ?_) (fun Cx n1 h1 hp => hp.elim)
                obtain ⟨rfl, rfl, rfl⟩ := hp
                rw [show ((k : Int) + 1 - 1).toNat = k by omega]
                refine V_isub C d_Yf_date_92 ?_
                refine V_iconst C d_Yf_date_93 rfl ?_
                refine V_iadd C d_Yf_date_94 ?_
                exact V_ireturn C d_Yf_date_95 (by omega) (by omega) ⟨k0, rfl, ⟨_, rfl, y0, hY, Or.inr ⟨q53, k, rem, hM, by rw [if_neg q70]; omega⟩⟩, ⟨x, A, O⟩, FrX.rfl⟩
              · refine V_iload C d_Yf_date_73 rfl ?_
                exact V_ireturn C d_Yf_date_75 (by omega) (by omega) ⟨k0, rfl, ⟨_, rfl, y0, hY, Or.inr ⟨q53, k, rem, hM, by rw [if_pos q70]⟩⟩, ⟨x, A, O⟩, FrX.rfl⟩
            · refine V_iload C d_Yf_date_56 rfl ?_
              exact V_ireturn C d_Yf_date_58 (by omega) (by omega) ⟨k0, rfl, ⟨_, rfl, y0, hY, Or.inl ⟨q53, rfl⟩⟩, ⟨x, A, O⟩, FrX.rfl⟩
          · exact V_throwS (text := "days are -4000000 to 4000000") C (by decide) w_Yf_date_35 xi_A xa_A xg_A (by decide +kernel) d_Yf_date_35 d_Yf_date_38 d_Yf_date_39 d_Yf_date_41 d_Yf_date_44 (fun x hx => absurd hx List.not_mem_nil) (by decide) (by omega) (by omega) (fun n' hn => ⟨Or.inr ⟨no True (by omega), rfl⟩, hn, ⟨x, A, O⟩, FrX.rfl⟩)
      · exact V_throwS (text := "a day is asked for 0, 1 or 2") C (by decide) w_Yf_date_13 xi_A xa_A xg_A (by decide +kernel) d_Yf_date_13 d_Yf_date_16 d_Yf_date_17 d_Yf_date_19 d_Yf_date_22 (fun x hx => absurd hx List.not_mem_nil) (by decide) (by omega) (by omega) (fun n' hn => ⟨Or.inr ⟨no True (by omega), rfl⟩, hn, ⟨x, A, O⟩, FrX.rfl⟩)
  · obtain ⟨h1, rfl, h3, rfl⟩ := hp
    exact VT_leave C (fun x hx => absurd hx List.not_mem_nil) (by omega) (by omega) ⟨Or.inl ⟨by unfold kDt; rw [if_pos h1], rfl⟩, h3, ⟨x, A, O⟩, FrX.rfl⟩
end CalC
