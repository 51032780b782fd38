section YfG
variable {p : Program} {l : Launch} {e : Env} {R : Room} {s : State} {m : MethodId} {args : Array Value} {below : List Frame} {meth : Method} {c : Code} {d : yD} {b : Nat} {Q : State → Prop} {cells slots n : Nat} {h : yH}
variable {x : XS} {v : Vw}
set_option maxHeartbeats 1000000 in
theorem c_Yf_rest (hl : yL l) (A : AtX d b x h) (O : OkX x v) :
    yM l y_Yf_rest b_Yf_rest 1 (some .long) 0 0 0 0 d b n h [.ref (b + 0)] (fun q n' h' => n' = n ∧ h' = h ∧ q = some (vj v.rs)) noT := by
  refine yM_of hl (by decide +kernel) (Nat.le_of_ble_eq_true rfl) (fun p e s m args below meth c C => ?_)
  have e1 := O.rs
  refine V_aload_n C d_Yf_rest_0 rfl rfl ?_
  refine V_get C 3 2 A.o rfl in_Yf (by decide) w_Yf_rest_1 rfl rfl d_Yf_rest_1 ?_
  exact V_lreturn C d_Yf_rest_4 (Nat.le_refl _) (Nat.le_refl _) ⟨rfl, rfl, by rw [← e1]⟩
set_option maxHeartbeats 1000000 in
theorem c_Yf_clear (hl : yL l) (A : AtX d b x h) (O : OkX x v) :
    yM l y_Yf_clear b_Yf_clear 2 (some .int) 0 0 0 0 d b n h [.ref (b + 0)] (fun q n' h' => n' = n ∧ q = some (vi v.rc) ∧ PX d b h h' (vCl v)) noT := by
  refine yM_of hl (by decide +kernel) (Nat.le_of_ble_eq_true rfl) (fun p e s m args below meth c C => ?_)
  have e1 := O.rc
  refine V_aload_n C d_Yf_clear_0 rfl rfl ?_
  refine V_get C 3 1 A.o rfl in_Yf (by decide) w_Yf_clear_1 rfl rfl d_Yf_clear_1 ?_
  refine V_istore_n C d_Yf_clear_4 rfl (by decide) rfl ?_
  refine V_aload_n C d_Yf_clear_5 rfl rfl ?_
  refine V_iconst C d_Yf_clear_6 rfl ?_
  refine V_put (ty := .int) C 3 1 A.o rfl in_Yf t_Yf tok_Yf nm_Yf (by decide) w_Yf_clear_7 rfl rfl (by decide +kernel) rfl rfl (Nat.le_of_ble_eq_true rfl) d_Yf_clear_7 ?_
  have B := A.setRc 0
  refine V_aload_n C d_Yf_clear_10 rfl rfl ?_
  refine V_lconst (z := 0) C d_Yf_clear_11 rfl ?_
  refine V_put (ty := .long) C 3 2 B.o rfl in_Yf t_Yf tok_Yf nm_Yf (by decide) w_Yf_clear_12 rfl rfl (by decide +kernel) rfl rfl (Nat.le_of_ble_eq_true rfl) d_Yf_clear_12 ?_
  have B2 := B.setRs 0
  refine V_aload_n C d_Yf_clear_15 rfl rfl ?_
  refine V_get C 3 3 B2.o rfl in_Yf (by decide) w_Yf_clear_16 rfl rfl d_Yf_clear_16 ?_
  refine V_iconst C d_Yf_clear_19 rfl ?_
  refine V_putN (ty := .int) C 0 2 B2.s rfl in_Set t_Set tok_Set nm_Set (by decide) w_Yf_clear_20 rfl rfl (by decide +kernel) rfl rfl (Nat.le_of_ble_eq_true rfl) d_Yf_clear_20 ?_
  have B3 := B2.setSp 0
  refine V_iload_n C d_Yf_clear_23 rfl rfl ?_
  exact V_ireturn C d_Yf_clear_24 (Nat.le_refl _) (Nat.le_refl _) ⟨rfl, by rw [← e1], ⟨_, B3, rfl, rfl, rfl, fun i hi => absurd hi (Nat.not_lt_zero _), fun i hi => absurd hi (Nat.not_lt_zero _), fun i hi => absurd hi (Nat.not_lt_zero _), O.dg, fun i hi => absurd hi (Nat.not_lt_zero _), fun i hi => absurd hi (Nat.not_lt_zero _)⟩, ((FrX.rfl.set (by omega) _).set (by omega) _).set (by omega) _⟩
set_option maxHeartbeats 1000000 in
theorem c_Yf_written (hl : yL l) {z : Int} (hz : inI z) :
    yM l y_Yf_written b_Yf_written 2 (some .long) 0 0 0 0 d b n h [.ref (b + 0), vi z] (fun q n' h' => n' = n ∧ h' = h ∧ q = some (vj (aWr z))) noT := by
  refine yM_of hl (by decide +kernel) (Nat.le_of_ble_eq_true rfl) (fun p e s m args below meth c C => ?_)
  refine V_iload_n C d_Yf_written_0 rfl rfl ?_
  refine V_if_le (tgt := 9) C d_Yf_written_1 (by decide) hz (fun q1 => ?_) (fun q1 => ?_)
  · refine V_iload_n C d_Yf_written_9 rfl rfl ?_
    refine V_i2l C d_Yf_written_10 hz ?_
    refine V_lconst (z := 1) C d_Yf_written_11 rfl ?_
    refine V_lsub C d_Yf_written_12 ?_
    exact V_lreturn C d_Yf_written_13 (Nat.le_refl _) (Nat.le_refl _) ⟨rfl, rfl, by unfold aWr; rw [if_neg (by omega)]⟩
  · refine V_iload_n C d_Yf_written_4 rfl rfl ?_
    refine V_i2l C d_Yf_written_5 hz ?_
    refine V_goto (tgt := 13) C d_Yf_written_6 (by decide) ?_
    exact V_lreturn C d_Yf_written_13 (Nat.le_refl _) (Nat.le_refl _) ⟨rfl, rfl, by unfold aWr; rw [if_pos (by omega)]⟩
set_option maxHeartbeats 1000000 in
theorem c_Yf_over (hl : yL l) (hv : OkV v) (A : AtX d b x h) (O : OkX x v) {a c0 : Int} (ha : inJ a) (hc : inJ c0) :
    yM l y_Yf_over b_Yf_over 5 (some .long) 8 160 64 512 d b n h [.ref (b + 0), vj a, vj c0] (fun q n' h' => kOv c0 = 0 ∧ n' = n ∧ q = some (vj (a.tdiv c0)) ∧ PX d b h h' v) (tX d b n h v (fun C => kOv c0 = 1 ∧ C = xnM)) := by
  refine yM_of hl (by decide +kernel) (Nat.le_of_ble_eq_true rfl) (fun p e s m args below meth c C => ?_)
  refine V_lload_n C d_Yf_over_0 rfl rfl ?_
  refine V_lconst (z := 0) C d_Yf_over_1 rfl ?_
  refine V_lcmp C d_Yf_over_2 hc inJ_0 ?_
  refine V_if_ne (tgt := 16) C d_Yf_over_3 (by decide) (cz_in _ _) (fun q3 => ?_) (fun q3 => ?_)
  · have h0 : c0 ≠ 0 := fun q => q3 (cz_eq.mpr q)
    refine V_lload_n C d_Yf_over_16 rfl rfl ?_
    refine V_lload_n C d_Yf_over_17 rfl rfl ?_
    refine V_ldiv C d_Yf_over_18 ha hc h0 ?_
    exact V_lreturn C d_Yf_over_19 (by omega) (by omega) ⟨if_neg h0, rfl, rfl, ⟨x, A, O⟩, FrX.rfl⟩
  · exact V_throwS (text := "nothing is divided by 0") C (by decide) w_Yf_over_6 xi_M xa_M xg_M (by decide +kernel) d_Yf_over_6 d_Yf_over_9 d_Yf_over_10 d_Yf_over_12 d_Yf_over_15 (fun x hx => absurd hx List.not_mem_nil) (by decide) (by omega) (by omega) (fun n' hn => ⟨⟨if_pos (cz_eq.mp q3), rfl⟩, hn, ⟨x, A, O⟩, FrX.rfl⟩)
set_option maxHeartbeats 1000000 in
theorem c_Yf_span (hl : yL l) (hv : OkV v) (A : AtX d b x h) (O : OkX x v) {k w : Int} (hk : inI k) (hw : inI w) :
    yM l y_Yf_span b_Yf_span 3 (some .int) 8 160 64 512 d b n h [.ref (b + 0), vi k, vi w] (fun q n' h' => kSp v k w = 0 ∧ n' = n ∧ q = some (vi (aSp v k w)) ∧ PX d b h h' v) (tX d b n h v (fun C => kSp v k w = 1 ∧ C = xnI)) := by
  refine yM_of hl (by decide +kernel) (Nat.le_of_ble_eq_true rfl) (fun p e s m args below meth c C => ?_)
  have e1 := O.sp
  have e2 := hv.sn
  refine V_iload_n C d_Yf_span_0 rfl rfl ?_
  refine V_if_lt (tgt := 15) C d_Yf_span_1 (by decide) hk (fun q1 => ?_) (fun q1 => ?_)
  · exact V_throwS (text := "no such span") C (by decide) w_Yf_span_15 xi_I xa_I xg_I (by decide +kernel) d_Yf_span_15 d_Yf_span_18 d_Yf_span_19 d_Yf_span_21 d_Yf_span_24 (fun x hx => absurd hx List.not_mem_nil) (by decide) (by omega) (by omega) (fun n' hn => ⟨⟨if_neg (fun q => by have := q.1.1; omega), rfl⟩, hn, ⟨x, A, O⟩, FrX.rfl⟩)
  · refine V_iload_n C d_Yf_span_4 rfl rfl ?_
    refine V_aload_n C d_Yf_span_5 rfl rfl ?_
    refine V_get C 3 3 A.o rfl in_Yf (by decide) w_Yf_span_6 rfl rfl d_Yf_span_6 ?_
    refine V_getN C 0 2 A.s rfl in_Set (by decide) w_Yf_span_9 rfl rfl d_Yf_span_9 ?_
    refine V_icmp_lt (tgt := 25) C d_Yf_span_12 (by decide) hk (by unfold inI; omega) (fun q12 => ?_) (fun q12 => ?_)
    · have hin : k.toNat < v.sn := by omega
      have fa : (if w = 0 then x.A k.toNat else x.B k.toNat) = aSp v k w := by
        unfold aSp
        rw [O.sa _ hin, O.sb _ hin]
      refine V_iload_n C d_Yf_span_25 rfl rfl ?_
      refine V_if_eq (tgt := 44) C d_Yf_span_26 (by decide) hw (fun q26 => ?_) (fun q26 => ?_)
      · refine V_iload_n C d_Yf_span_44 rfl rfl ?_
        refine V_if_ne (tgt := 60) C d_Yf_span_45 (by decide) hw (fun q45 => ?_) (fun q45 => ?_)
        · exact absurd q26 q45
        · refine V_aload_n C d_Yf_span_48 rfl rfl ?_
          refine V_get C 3 3 A.o rfl in_Yf (by decide) w_Yf_span_49 rfl rfl d_Yf_span_49 ?_
          refine V_getN C 0 3 A.s rfl in_Set (by decide) w_Yf_span_52 rfl rfl d_Yf_span_52 ?_
          refine V_iload_n C d_Yf_span_55 rfl rfl ?_
          refine V_iaload C A.a (by omega) (by omega) (by decide) d_Yf_span_56 ?_
          refine V_goto (tgt := 69) C d_Yf_span_57 (by decide) ?_
          rw [if_pos q45] at fa
          exact V_ireturn C d_Yf_span_69 (by omega) (by omega) ⟨if_pos ⟨⟨by omega, by omega⟩, Or.inl q26⟩, rfl, by rw [fa], ⟨x, A, O⟩, FrX.rfl⟩
      · refine V_iload_n C d_Yf_span_29 rfl rfl ?_
        refine V_iconst C d_Yf_span_30 rfl ?_
        refine V_icmp_eq (tgt := 44) C d_Yf_span_31 (by decide) hw (by unfold inI; omega) (fun q31 => ?_) (fun q31 => ?_)
        · refine V_iload_n C d_Yf_span_44 rfl rfl ?_
          refine V_if_ne (tgt := 60) C d_Yf_span_45 (by decide) hw (fun q45 => ?_) (fun q45 => ?_)
          · refine V_aload_n C d_Yf_span_60 rfl rfl ?_
            refine V_get C 3 3 A.o rfl in_Yf (by decide) w_Yf_span_61 rfl rfl d_Yf_span_61 ?_
            refine V_getN C 0 4 A.s rfl in_Set (by decide) w_Yf_span_64 rfl rfl d_Yf_span_64 ?_
            refine V_iload_n C d_Yf_span_67 rfl rfl ?_
            refine V_iaload C A.c (by omega) (by omega) (by decide) d_Yf_span_68 ?_
            rw [if_neg q45] at fa
            exact V_ireturn C d_Yf_span_69 (by omega) (by omega) ⟨if_pos ⟨⟨by omega, by omega⟩, Or.inr q31⟩, rfl, by rw [fa], ⟨x, A, O⟩, FrX.rfl⟩
          · exact absurd q45 q26
        · exact V_throwS (text := "a span\'s end is 0 or 1") C (by decide) w_Yf_span_34 xi_I xa_I xg_I (by decide +kernel) d_Yf_span_34 d_Yf_span_37 d_Yf_span_38 d_Yf_span_40 d_Yf_span_43 (fun x hx => absurd hx List.not_mem_nil) (by decide) (by omega) (by omega) (fun n' hn => ⟨⟨if_neg (fun q => by rcases q.2 with z | z; exact q26 z; exact q31 z), rfl⟩, hn, ⟨x, A, O⟩, FrX.rfl⟩)
    · exact V_throwS (text := "no such span") C (by decide) w_Yf_span_15 xi_I xa_I xg_I (by decide +kernel) d_Yf_span_15 d_Yf_span_18 d_Yf_span_19 d_Yf_span_21 d_Yf_span_24 (fun x hx => absurd hx List.not_mem_nil) (by decide) (by omega) (by omega) (fun n' hn => ⟨⟨if_neg (fun q => by have := q.1.2; omega), rfl⟩, hn, ⟨x, A, O⟩, FrX.rfl⟩)
set_option maxHeartbeats 1000000 in
theorem c_Yf_digit (hl : yL l) (hv : OkV v) (A : AtX d b x h) (O : OkX x v) {r z i : Int} (hr : inI r) (hz : inI z) (hi0 : inI i) :
    yM l y_Yf_digit b_Yf_digit 5 (some .int) 8 160 64 512 d b n h [.ref (b + 0), vi r, vi z, vi i] (fun q n' h' => kDg v r z i = 0 ∧ n' = n ∧ q = some (vi (aDg v r z i)) ∧ PX d b h h' v) (tX d b n h v (fun C => kDg v r z i = 1 ∧ C = xnI)) := by
  refine yM_of hl (by decide +kernel) (Nat.le_of_ble_eq_true rfl) (fun p e s m args below meth c C => ?_)
  have hrc := hv.rc
  refine V_aload_n C d_Yf_digit_0 rfl rfl ?_
  refine V_iload_n C d_Yf_digit_1 rfl rfl ?_
  refine V_iload_n C d_Yf_digit_2 rfl rfl ?_
  refine V_callV C (c_Yf_knownRowWith hl hv A O hr hz) wc_Yf_knownRowWith w_Yf_digit_3 np_Yf_knownRowWith (by decide) A.o rfl rfl (Nat.le_of_ble_eq_true rfl) d_Yf_digit_3 (fun v n1 h1 hp => ?_) (fun Cx n1 h1 hp => ?_)
  · obtain ⟨hy, rfl, rfl, rfl⟩ := hp
    have hi : r.toNat < v.rc := by have := hy.1.1; have := hy.1.2; omega
    have h8 : r.toNat < 8 := by omega
    refine V_astore C d_Yf_digit_6 (by decide) rfl ?_
    refine V_iload_n C d_Yf_digit_8 rfl rfl ?_
    refine V_bipush (z := 36) C d_Yf_digit_9 rfl ?_
    refine V_callS C (c_Yf_requireDigit hl hi0 (k := 36) (by unfold inI; omega)) wc_Yf_requireDigit w_Yf_digit_11 np_Yf_requireDigit (by decide) rfl (Nat.le_of_ble_eq_true rfl) d_Yf_digit_11 (fun v n1 h1 hp => ?_) (fun Cx n1 h1 hp => ?_)
    · obtain ⟨hd, rfl, rfl, rfl⟩ := hp
      refine V_aload C d_Yf_digit_14 rfl ?_
      refine V_iload_n C d_Yf_digit_16 rfl rfl ?_
      refine V_aload_n C d_Yf_digit_17 rfl rfl ?_
      refine V_get C 3 4 A.o rfl in_Yf (by decide) w_Yf_digit_18 rfl rfl d_Yf_digit_18 ?_
      refine V_callV C (c_Row_read hl (A.w _ h8) (A.p _ h8) A.o1 A.p1 (by omega) (O.row hv hi) hz (O.dg _ h8)) wc_Row_read w_Yf_digit_21 np_Row_read (by decide) (A.w _ h8) rfl rfl (Nat.le_of_ble_eq_true rfl) d_Yf_digit_21 (fun v n1 h1 hp => ?_) (fun Cx n1 h1 hp => hp.elim)
      obtain ⟨rfl, rfl, G, g1, g2, g3, rfl⟩ := hp
      rw [O.rd hv hi, show wY v r.toNat z = v.W r.toNat (z - v.F r.toNat).toNat from if_pos hy.2] at g3
      have B := A.set1 G
      refine V_aload_n C d_Yf_digit_24 rfl rfl ?_
      refine V_get C 3 4 B.o rfl in_Yf (by decide) w_Yf_digit_25 rfl rfl d_Yf_digit_25 ?_
      refine V_iload_n C d_Yf_digit_28 rfl rfl ?_
      rw [show i = ((i.toNat : Nat) : Int) by omega]
      refine V_callV C (c_Who_digitAt (z := i.toNat) hl B.o1 (hs_eq _ _ _) g1 (by omega)) wc_Who_digitAt w_Yf_digit_29 np_Who_digitAt (by decide) B.o1 rfl rfl (Nat.le_of_ble_eq_true rfl) d_Yf_digit_29 (fun v n1 h1 hp => ?_) (fun Cx n1 h1 hp => hp.elim)
      obtain ⟨rfl, rfl, rfl⟩ := hp
      rw [show ((i.toNat : Nat) : Int) = i by omega, g3]
      exact V_ireturn C d_Yf_digit_32 (by omega) (by omega) ⟨if_pos ⟨hy, hd⟩, rfl, rfl, ⟨_, B, O.s1 G⟩, FrX.rfl.set (by omega) _⟩
    · obtain ⟨h1, rfl, h3, rfl⟩ := hp
      exact VT_leave C (fun x hx => absurd hx List.not_mem_nil) (by omega) (by omega) ⟨⟨if_neg (fun q => h1 q.2), rfl⟩, h3, ⟨x, A, O⟩, FrX.rfl⟩
  · obtain ⟨h1, rfl, h3, rfl⟩ := hp
    exact VT_leave C (fun x hx => absurd hx List.not_mem_nil) (by omega) (by omega) ⟨⟨if_neg (fun q => h1 q.1), rfl⟩, h3, ⟨x, A, O⟩, FrX.rfl⟩
set_option maxHeartbeats 1000000 in
theorem c_Yf_total (hl : yL l) (hv : OkV v) (A : AtX d b x h) (O : OkX x v) {r i : Int} (hr : inI r) (hi0 : inI i) :
    yM l y_Yf_total b_Yf_total 4 (some .int) 8 160 64 512 d b n h [.ref (b + 0), vi r, vi i] (fun q n' h' => kTo v r i = 0 ∧ n' = n ∧ q = some (vi (aTo v r i)) ∧ PX d b h h' v) (tX d b n h v (fun C => kTo v r i = 1 ∧ C = xnI)) := by
  refine yM_of hl (by decide +kernel) (Nat.le_of_ble_eq_true rfl) (fun p e s m args below meth c C => ?_)
  have hrc := hv.rc
  refine V_aload_n C d_Yf_total_0 rfl rfl ?_
  refine V_iload_n C d_Yf_total_1 rfl rfl ?_
  refine V_callV C (c_Yf_knownRow hl hv A O hr) wc_Yf_knownRow w_Yf_total_2 np_Yf_knownRow (by decide) A.o rfl rfl (Nat.le_of_ble_eq_true rfl) d_Yf_total_2 (fun v n1 h1 hp => ?_) (fun Cx n1 h1 hp => ?_)
  · obtain ⟨hy, rfl, rfl, rfl⟩ := hp
    have hi : r.toNat < v.rc := by have := hy.1; have := hy.2; omega
    have h8 : r.toNat < 8 := by omega
    refine V_astore_n C d_Yf_total_5 rfl (by decide) rfl ?_
    refine V_iload_n C d_Yf_total_6 rfl rfl ?_
    refine V_bipush (z := 38) C d_Yf_total_7 rfl ?_
    refine V_callS C (c_Yf_requireDigit hl hi0 (k := 38) (by unfold inI; omega)) wc_Yf_requireDigit w_Yf_total_9 np_Yf_requireDigit (by decide) rfl (Nat.le_of_ble_eq_true rfl) d_Yf_total_9 (fun v n1 h1 hp => ?_) (fun Cx n1 h1 hp => ?_)
    · obtain ⟨hd, rfl, rfl, rfl⟩ := hp
      refine V_aload_n C d_Yf_total_12 rfl rfl ?_
      refine V_aload_n C d_Yf_total_13 rfl rfl ?_
      refine V_get C 3 4 A.o rfl in_Yf (by decide) w_Yf_total_14 rfl rfl d_Yf_total_14 ?_
      refine V_aload_n C d_Yf_total_17 rfl rfl ?_
      refine V_get C 3 5 A.o rfl in_Yf (by decide) w_Yf_total_18 rfl rfl d_Yf_total_18 ?_
      refine V_callS C (c_Yf_gather hl A h8 (O.fm _ hi) (O.row hv hi) (O.dg _ h8)) wc_Yf_gather w_Yf_total_21 np_Yf_gather (by decide) rfl (Nat.le_of_ble_eq_true rfl) d_Yf_total_21 (fun v n1 h1 hp => ?_) (fun Cx n1 h1 hp => hp.elim)
      obtain ⟨rfl, rfl, F, G1, G2, g1, g2, B⟩ := hp
      rw [sumW_congr (O.ww _ hi)] at g2
      have p1 : h1 24 = some (oJ d 8 G1) := B.p1
      refine V_aload_n C d_Yf_total_24 rfl rfl ?_
      refine V_get C 3 4 B.o rfl in_Yf (by decide) w_Yf_total_25 rfl rfl d_Yf_total_25 ?_
      refine V_iload_n C d_Yf_total_28 rfl rfl ?_
      rw [show i = ((i.toNat : Nat) : Int) by omega]
      refine V_callV C (c_Who_digitAt (z := i.toNat) hl B.o1 p1 g1 (by omega)) wc_Who_digitAt w_Yf_total_29 np_Who_digitAt (by decide) B.o1 rfl rfl (Nat.le_of_ble_eq_true rfl) d_Yf_total_29 (fun v n1 h1 hp => ?_) (fun Cx n1 h1 hp => hp.elim)
      obtain ⟨rfl, rfl, rfl⟩ := hp
      rw [show ((i.toNat : Nat) : Int) = i by omega, g2]
      exact V_ireturn C d_Yf_total_32 (by omega) (by omega) ⟨if_pos ⟨hy, hd⟩, rfl, rfl, ⟨_, B, (O.s1 G1).s2 G2⟩, F⟩
    · obtain ⟨h1, rfl, h3, rfl⟩ := hp
      exact VT_leave C (fun x hx => absurd hx List.not_mem_nil) (by omega) (by omega) ⟨⟨if_neg (fun q => h1 q.2), rfl⟩, h3, ⟨x, A, O⟩, FrX.rfl⟩
  · obtain ⟨h1, rfl, h3, rfl⟩ := hp
    exact VT_leave C (fun x hx => absurd hx List.not_mem_nil) (by omega) (by omega) ⟨⟨if_neg (fun q => h1 q.1), rfl⟩, h3, ⟨x, A, O⟩, FrX.rfl⟩
set_option maxHeartbeats 1000000 in
theorem c_Yf_compare (hl : yL l) (hv : OkV v) (A : AtX d b x h) (O : OkX x v) {r z r2 z2 : Int} (hr : inI r) (hz : inI z) (hr2 : inI r2) (hz2 : inI z2) :
    yM l y_Yf_compare b_Yf_compare 5 (some .int) 8 160 64 512 d b n h [.ref (b + 0), vi r, vi z, vi r2, vi z2] (fun q n' h' => kCo v r z r2 z2 = 0 ∧ n' = n ∧ q = some (vi (aCo v r z r2 z2)) ∧ PX d b h h' v) (tX d b n h v (fun C => kCo v r z r2 z2 = 1 ∧ C = xnI)) := by
  refine yM_of hl (by decide +kernel) (Nat.le_of_ble_eq_true rfl) (fun p e s m args below meth c C => ?_)
  have hrc := hv.rc
  refine V_aload_n C d_Yf_compare_0 rfl rfl ?_
  refine V_iload_n C d_Yf_compare_1 rfl rfl ?_
  refine V_iload_n C d_Yf_compare_2 rfl rfl ?_
  refine V_callV C (c_Yf_knownRowWith hl hv A O hr hz) wc_Yf_knownRowWith w_Yf_compare_3 np_Yf_knownRowWith (by decide) A.o rfl rfl (Nat.le_of_ble_eq_true rfl) d_Yf_compare_3 (fun v n1 h1 hp => ?_) (fun Cx n1 h1 hp => ?_)
  · obtain ⟨hy, rfl, rfl, rfl⟩ := hp
    have hi : r.toNat < v.rc := by have := hy.1.1; have := hy.1.2; omega
    have h8 : r.toNat < 8 := by omega
    refine V_iload_n C d_Yf_compare_6 rfl rfl ?_
    refine V_aload_n C d_Yf_compare_7 rfl rfl ?_
    refine V_get C 3 4 A.o rfl in_Yf (by decide) w_Yf_compare_8 rfl rfl d_Yf_compare_8 ?_
    refine V_callV C (c_Row_read hl (A.w _ h8) (A.p _ h8) A.o1 A.p1 (by omega) (O.row hv hi) hz (O.dg _ h8)) wc_Row_read w_Yf_compare_11 np_Row_read (by decide) (A.w _ h8) rfl rfl (Nat.le_of_ble_eq_true rfl) d_Yf_compare_11 (fun v n1 h1 hp => ?_) (fun Cx n1 h1 hp => hp.elim)
    obtain ⟨rfl, rfl, G, g1, g2, g3, rfl⟩ := hp
    rw [O.rd hv hi, show wY v r.toNat z = v.W r.toNat (z - v.F r.toNat).toNat from if_pos hy.2] at g3
    have B := A.set1 G
    have O2 := O.s1 G
    have p1 : hs h1 24 (oJ d 8 G) 24 = some (oJ d 8 G) := hs_eq _ _ _
    generalize x.s_l1 G = x2 at B O2
    refine V_aload_n C d_Yf_compare_14 rfl rfl ?_
    refine V_iload_n C d_Yf_compare_15 rfl rfl ?_
    refine V_iload C d_Yf_compare_16 rfl ?_
    refine V_callV C (c_Yf_knownRowWith hl hv B O2 hr2 hz2) wc_Yf_knownRowWith w_Yf_compare_18 np_Yf_knownRowWith (by decide) B.o rfl rfl (Nat.le_of_ble_eq_true rfl) d_Yf_compare_18 (fun w n2 h2 hp => ?_) (fun Cx n1 h1 hp => ?_)
    · obtain ⟨hy2, rfl, rfl, rfl⟩ := hp
      have hi2 : r2.toNat < v.rc := by have := hy2.1.1; have := hy2.1.2; omega
      have h82 : r2.toNat < 8 := by omega
      refine V_iload C d_Yf_compare_21 rfl ?_
      refine V_aload_n C d_Yf_compare_23 rfl rfl ?_
      refine V_get C 3 5 B.o rfl in_Yf (by decide) w_Yf_compare_24 rfl rfl d_Yf_compare_24 ?_
      refine V_callV C (c_Row_read hl (B.w _ h82) (B.p _ h82) B.o2 B.p2 (by omega) (O2.row hv hi2) hz2 (O2.dg _ h82)) wc_Row_read w_Yf_compare_27 np_Row_read (by decide) (B.w _ h82) rfl rfl (Nat.le_of_ble_eq_true rfl) d_Yf_compare_27 (fun w n3 h3 hp => ?_) (fun Cx n1 h1 hp => hp.elim)
      obtain ⟨rfl, rfl, G2, g4, g5, g6, rfl⟩ := hp
      rw [O2.rd hv hi2, show wY v r2.toNat z2 = v.W r2.toNat (z2 - v.F r2.toNat).toNat from if_pos hy2.2] at g6
      have B2 := B.set2 G2
      have p1' : hs (hs h1 24 (oJ d 8 G)) 26 (oJ d 8 G2) 24 = some (oJ d 8 G) := hs2a (by omega)
      refine V_aload_n C d_Yf_compare_30 rfl rfl ?_
      refine V_get C 3 4 B2.o rfl in_Yf (by decide) w_Yf_compare_31 rfl rfl d_Yf_compare_31 ?_
      refine V_aload_n C d_Yf_compare_34 rfl rfl ?_
      refine V_get C 3 5 B2.o rfl in_Yf (by decide) w_Yf_compare_35 rfl rfl d_Yf_compare_35 ?_
      refine V_callV C (c_Who_order hl B2.o1 p1' B2.o2 (hs_eq _ _ _) g1 g4) wc_Who_order w_Yf_compare_38 np_Who_order (by decide) B2.o1 rfl rfl (Nat.le_of_ble_eq_true rfl) d_Yf_compare_38 (fun w n3 h3 hp => ?_) (fun Cx n1 h1 hp => hp.elim)
      obtain ⟨rfl, rfl, rfl⟩ := hp
      rw [g3, g6]
      exact V_ireturn C d_Yf_compare_41 (by omega) (by omega) ⟨if_pos ⟨hy, hy2⟩, rfl, rfl, ⟨_, B2, O2.s2 G2⟩, (FrX.rfl.set (by omega) _).set (by omega) _⟩
    · obtain ⟨h1, rfl, h3, rfl⟩ := hp
      exact VT_leave C (fun x hx => absurd hx List.not_mem_nil) (by omega) (by omega) ⟨⟨if_neg (fun q => h1 q.2), rfl⟩, h3, ⟨x2, B, O2⟩, FrX.rfl.set (by omega) _⟩
  · obtain ⟨h1, rfl, h3, rfl⟩ := hp
    exact VT_leave C (fun x hx => absurd hx List.not_mem_nil) (by omega) (by omega) ⟨⟨if_neg (fun q => h1 q.1), rfl⟩, h3, ⟨x, A, O⟩, FrX.rfl⟩
set_option maxHeartbeats 1000000 in
theorem c_Yf_about (hl : yL l) (hv : OkV v) (A : AtX d b x h) (O : OkX x v) {r w : Int} (hr : inI r) (hw : inI w) :
    yM l y_Yf_about b_Yf_about 4 (some .int) 8 160 64 512 d b n h [.ref (b + 0), vi r, vi w] (fun q n' h' => kAb v r w = 0 ∧ n' = n ∧ q = some (vi (aAb v r w)) ∧ PX d b h h' v) (tX d b n h v (fun C => (kAb v r w = 1 ∧ C = xnI) ∨ (kAb v r w = 2 ∧ C = xnA))) := by
  refine yM_of hl (by decide +kernel) (Nat.le_of_ble_eq_true rfl) (fun p e s m args below meth c C => ?_)
  have hrc := hv.rc
  refine V_aload_n C d_Yf_about_0 rfl rfl ?_
  refine V_iload_n C d_Yf_about_1 rfl rfl ?_
  refine V_callV C (c_Yf_knownRow hl hv A O hr) wc_Yf_knownRow w_Yf_about_2 np_Yf_knownRow (by decide) A.o rfl rfl (Nat.le_of_ble_eq_true rfl) d_Yf_about_2 (fun v n1 h1 hp => ?_) (fun Cx n1 h1 hp => ?_)
  · obtain ⟨hy, rfl, rfl, rfl⟩ := hp
    have hi : r.toNat < v.rc := by have := hy.1; have := hy.2; omega
    have h8 : r.toNat < 8 := by omega
    have hw0 := A.w _ h8
    rw [O.ff _ hi, O.fm _ hi] at hw0
    have k0 : 0 ≤ w → w ≤ 2 → kAb v r w = 0 := fun q1 q2 => by unfold kAb; rw [if_neg (fun q => q hy), if_pos ⟨q1, q2⟩]
    refine V_astore_n C d_Yf_about_5 rfl (by decide) rfl ?_
    refine V_iload_n C d_Yf_about_6 rfl rfl ?_
    refine V_tsw C hw d_Yf_about_7 (fun q1 q2 => ?_) (fun q => ⟨48, rfl, ?_⟩)
    · by_cases w0 : w = 0
      · subst w0
        refine ⟨25, 32, rfl, rfl, ?_⟩
        refine V_aload_n C d_Yf_about_32 rfl rfl ?_
        refine V_getN C 1 0 hw0 rfl in_Row (by decide) w_Yf_about_33 rfl rfl d_Yf_about_33 ?_
        exact V_ireturn C d_Yf_about_36 (by omega) (by omega) ⟨k0 q1 q2, rfl, rfl, ⟨x, A, O⟩, FrX.rfl⟩
      · by_cases w1 : w = 1
        · subst w1
          refine ⟨30, 37, rfl, rfl, ?_⟩
          refine V_aload_n C d_Yf_about_37 rfl rfl ?_
          refine V_callV C (c_Row_last hl hw0) wc_Row_last w_Yf_about_38 np_Row_last (by decide) hw0 rfl rfl (Nat.le_of_ble_eq_true rfl) d_Yf_about_38 (fun v n1 h1 hp => ?_) (fun Cx n1 h1 hp => hp.elim)
          obtain ⟨rfl, rfl, rfl⟩ := hp
          exact V_ireturn C d_Yf_about_41 (by omega) (by omega) ⟨k0 q1 q2, rfl, rfl, ⟨x, A, O⟩, FrX.rfl⟩
        · have w2 : w = 2 := by omega
          subst w2
          refine ⟨35, 42, rfl, rfl, ?_⟩
          refine V_aload_n C d_Yf_about_42 rfl rfl ?_
          refine V_aload_n C d_Yf_about_43 rfl rfl ?_
          refine V_callV C (c_Yf_countWeighted hl A h8 (O.fm _ hi) (O.row hv hi) (O.dg _ h8)) wc_Yf_countWeighted w_Yf_about_44 np_Yf_countWeighted (by decide) A.o rfl rfl (Nat.le_of_ble_eq_true rfl) d_Yf_about_44 (fun v n1 h1 hp => ?_) (fun Cx n1 h1 hp => hp.elim)
          obtain ⟨rfl, rfl, F, G1, B⟩ := hp
          rw [nzW_congr (O.ww _ hi)]
          exact V_ireturn C d_Yf_about_47 (by omega) (by omega) ⟨k0 q1 q2, rfl, rfl, ⟨_, B, O.s1 G1⟩, F⟩
    · exact V_throwS (text := "a row is asked for 0, 1 or 2") C (by decide) w_Yf_about_48 xi_A xa_A xg_A (by decide +kernel) d_Yf_about_48 d_Yf_about_51 d_Yf_about_52 d_Yf_about_54 d_Yf_about_57 (fun x hx => absurd hx List.not_mem_nil) (by decide) (by omega) (by omega) (fun n' hn => ⟨Or.inr ⟨by unfold kAb; rw [if_neg (fun q => q hy), if_neg (by omega)], rfl⟩, hn, ⟨x, A, O⟩, FrX.rfl⟩)
  · obtain ⟨h1, rfl, h3, rfl⟩ := hp
    exact VT_leave C (fun x hx => absurd hx List.not_mem_nil) (by omega) (by omega) ⟨Or.inl ⟨by unfold kAb; rw [if_pos h1], rfl⟩, h3, ⟨x, A, O⟩, FrX.rfl⟩
end YfG
