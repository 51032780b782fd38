section ModK
variable {p : Program} {l : Launch} {e : Env} {R : Room} {s : State} {m : MethodId} {args : Array Value} {below : List Frame} {meth : Method} {c : Code} {d : yD} {b : Nat} {Q : State → Prop} {cells slots n : Nat} {h : yH}
variable {y0 : YS} {v : Vw}
set_option maxHeartbeats 1000000 in
theorem c_Mod_rest (hl : yL l) (A : AtM d b y0 h) (O : OkM y0 v) : yM l y_Mod_rest b_Mod_rest 1 (some .long) 0 0 0 0 d b n h [.ref (b + 29)] (fun q n' h' => n' = n ∧ q = some (vj v.rs) ∧ FrM h h' ∧ RepM d b h' v 0) noT := by
  refine yM_of hl (by decide +kernel) (Nat.le_of_ble_eq_true rfl) (fun p e s m args below meth c C => ?_)
  have B := A.setTh 0
  have e1 := O.rs
  refine V_aload_n C d_Mod_rest_0 rfl rfl ?_
  refine V_iconst C d_Mod_rest_1 rfl ?_
  refine V_put (ty := .int) C 4 0 A.o rfl in_Mod t_Mod tok_Mod nm_Mod (by decide) w_Mod_rest_2 rfl rfl (by decide +kernel) rfl rfl (Nat.le_of_ble_eq_true rfl) d_Mod_rest_2 ?_
  refine V_aload_n C d_Mod_rest_5 rfl rfl ?_
  refine V_get C 4 5 (hs_eq _ _ _) rfl in_Mod (by decide) w_Mod_rest_6 rfl rfl d_Mod_rest_6 ?_
  exact V_lreturn C d_Mod_rest_9 (Nat.le_refl _) (Nat.le_refl _) ⟨rfl, by rw [← e1], FrM.rfl.set (by omega) _, _, B, O.sTh 0, rfl⟩
set_option maxHeartbeats 1000000 in
theorem c_Mod_clear (hl : yL l) (A : AtM d b y0 h) (O : OkM y0 v) : yM l y_Mod_clear b_Mod_clear 2 (some .int) 0 0 0 0 d b n h [.ref (b + 29)] (fun q n' h' => n' = n ∧ q = some (vi v.rc) ∧ FrM h h' ∧ RepM d b h' (vCl v) 0) noT := by
  refine yM_of hl (by decide +kernel) (Nat.le_of_ble_eq_true rfl) (fun p e s m args below meth c C => ?_)
  have e1 := O.rc
  have B := A.setTh 0
  refine V_aload_n C d_Mod_clear_0 rfl rfl ?_
  refine V_iconst C d_Mod_clear_1 rfl ?_
  refine V_put (ty := .int) C 4 0 A.o rfl in_Mod t_Mod tok_Mod nm_Mod (by decide) w_Mod_clear_2 rfl rfl (by decide +kernel) rfl rfl (Nat.le_of_ble_eq_true rfl) d_Mod_clear_2 ?_
  refine V_aload_n C d_Mod_clear_5 rfl rfl ?_
  refine V_get C 4 1 B.o rfl in_Mod (by decide) w_Mod_clear_6 rfl rfl d_Mod_clear_6 ?_
  refine V_istore_n C d_Mod_clear_9 rfl (by decide) rfl ?_
  have B2 := B.setRc 0
  refine V_aload_n C d_Mod_clear_10 rfl rfl ?_
  refine V_iconst C d_Mod_clear_11 rfl ?_
  refine V_put (ty := .int) C 4 1 B.o rfl in_Mod t_Mod tok_Mod nm_Mod (by decide) w_Mod_clear_12 rfl rfl (by decide +kernel) rfl rfl (Nat.le_of_ble_eq_true rfl) d_Mod_clear_12 ?_
  have B3 := B2.setSp 0
  refine V_aload_n C d_Mod_clear_15 rfl rfl ?_
  refine V_iconst C d_Mod_clear_16 rfl ?_
  refine V_put (ty := .int) C 4 6 B2.o rfl in_Mod t_Mod tok_Mod nm_Mod (by decide) w_Mod_clear_17 rfl rfl (by decide +kernel) rfl rfl (Nat.le_of_ble_eq_true rfl) d_Mod_clear_17 ?_
  have B4 := B3.setRs 0
  refine V_aload_n C d_Mod_clear_20 rfl rfl ?_
  refine V_lconst (z := 0) C d_Mod_clear_21 rfl ?_
  refine V_put (ty := .long) C 4 5 B3.o rfl in_Mod t_Mod tok_Mod nm_Mod (by decide) w_Mod_clear_22 rfl rfl (by decide +kernel) rfl rfl (Nat.le_of_ble_eq_true rfl) d_Mod_clear_22 ?_
  refine V_iload_n C d_Mod_clear_25 rfl rfl ?_
  exact V_ireturn C d_Mod_clear_26 (Nat.le_refl _) (Nat.le_refl _) ⟨rfl, by rw [← e1]; rfl, (((FrM.rfl.set (by omega) _).set (by omega) _).set (by omega) _).set (by omega) _, _, B4, ⟨rfl, rfl, rfl, fun i hi => absurd hi (Nat.not_lt_zero _), fun i hi => absurd hi (Nat.not_lt_zero _), fun i hi => absurd hi (Nat.not_lt_zero _), O.dg, fun i hi => absurd hi (Nat.not_lt_zero _), fun i hi => absurd hi (Nat.not_lt_zero _)⟩, rfl⟩
set_option maxHeartbeats 1000000 in
theorem c_Mod_written (hl : yL l) (A : AtM d b y0 h) (O : OkM y0 v) {z : Int} (hz : inI z) : yM l y_Mod_written b_Mod_written 2 (some .long) 0 0 0 0 d b n h [.ref (b + 29), vi z] (fun q n' h' => n' = n ∧ q = some (vj (aWr z)) ∧ FrM h h' ∧ RepM d b h' v 0) noT := by
  refine yM_of hl (by decide +kernel) (Nat.le_of_ble_eq_true rfl) (fun p e s m args below meth c C => ?_)
  have B := A.setTh 0
  refine V_aload_n C d_Mod_written_0 rfl rfl ?_
  refine V_iconst C d_Mod_written_1 rfl ?_
  refine V_put (ty := .int) C 4 0 A.o rfl in_Mod t_Mod tok_Mod nm_Mod (by decide) w_Mod_written_2 rfl rfl (by decide +kernel) rfl rfl (Nat.le_of_ble_eq_true rfl) d_Mod_written_2 ?_
  refine V_iload_n C d_Mod_written_5 rfl rfl ?_
  refine V_if_le (tgt := 14) C d_Mod_written_6 (by decide) hz (fun q6 => ?_) (fun q6 => ?_)
  · refine V_iload_n C d_Mod_written_14 rfl rfl ?_
    refine V_i2l C d_Mod_written_15 hz ?_
    refine V_lconst (z := 1) C d_Mod_written_16 rfl ?_
    refine V_lsub C d_Mod_written_17 ?_
    exact V_lreturn C d_Mod_written_18 (Nat.le_refl _) (Nat.le_refl _) ⟨rfl, by unfold aWr; rw [if_neg (by omega)], FrM.rfl.set (by omega) _, _, B, O.sTh 0, rfl⟩
  · refine V_iload_n C d_Mod_written_9 rfl rfl ?_
    refine V_i2l C d_Mod_written_10 hz ?_
    refine V_goto (tgt := 18) C d_Mod_written_11 (by decide) ?_
    exact V_lreturn C d_Mod_written_18 (Nat.le_refl _) (Nat.le_refl _) ⟨rfl, by unfold aWr; rw [if_pos (by omega)], FrM.rfl.set (by omega) _, _, B, O.sTh 0, rfl⟩
set_option maxHeartbeats 1000000 in
theorem c_Mod_over (hl : yL l) (A : AtM d b y0 h) (O : OkM y0 v) {a c0 : Int} (ha : inJ a) (hc : inJ c0) : yM l y_Mod_over b_Mod_over 5 (some .long) 1 40 0 0 d b n h [.ref (b + 29), vj a, vj c0] (fun q n' h' => n' = n ∧ ∃ z, q = some (vj z) ∧ mR d b h v (kOv c0) v z (a.tdiv c0) h') noT := by
  refine yM_of hl (by decide +kernel) (Nat.le_of_ble_eq_true rfl) (fun p e s m args below meth c C => ?_)
  have tail : ∀ z : Int, z = bi (c0 ≠ 0) → V p l e (yRm 1 40 0 0) s m args below meth c 5 d b (yEnd below s args d b (fun q n' h' => n' = n ∧ ∃ z, q = some (vj z) ∧ mR d b h v (kOv c0) v z (a.tdiv c0) h') noT 0 0) 0 0 n h 12 [(1, vj a), (3, vj c0)] [vi z, .ref (b + 29)] := fun z hz => by
    refine V_iconst C d_Mod_over_12 rfl ?_
    refine V_iconst C d_Mod_over_13 rfl ?_
    refine V_iconst C d_Mod_over_14 rfl ?_
    refine V_callV C (c_Mod_goes hl A (bi_z hz) (z2 := 1) (z3 := 1) (z4 := 1) (by unfold inI; omega) (by unfold inI; omega) (by unfold inI; omega)) wc_Mod_goes w_Mod_over_15 np_Mod_goes (by decide) A.o rfl rfl (Nat.le_of_ble_eq_true rfl) d_Mod_over_15 (fun v n1 h1 hp => ?_) (fun Cx n1 h1 hp => hp.elim)
    obtain ⟨rfl, rfl, A1, F1⟩ := hp
    rw [hz, kG_b1] at A1 ⊢
    by_cases q : c0 ≠ 0
    · rw [if_neg (c := ¬ c0 ≠ 0) (fun w => w q)] at A1 ⊢
      refine V_if_eq (tgt := 27) C d_Mod_over_18 (by decide) (bi_z rfl) (fun q18 => ?_) (fun q18 => ?_)
      · exact absurd q18 (by decide)
      · refine V_lload_n C d_Mod_over_21 rfl rfl ?_
        refine V_lload_n C d_Mod_over_22 rfl rfl ?_
        refine V_ldiv C d_Mod_over_23 ha hc q ?_
        refine V_goto (tgt := 28) C d_Mod_over_24 (by decide) ?_
        exact V_lreturn C d_Mod_over_28 (Nat.le_refl _) (Nat.le_refl _) ⟨rfl, _, rfl, F1, fun _ => ⟨⟨_, A1, O.sTh _, rfl⟩, rfl⟩, fun w => absurd (if_neg q) w⟩
    · rw [if_pos (c := ¬ c0 ≠ 0) q] at A1 ⊢
      have k1 : kOv c0 = 1 := if_pos (Classical.not_not.mp q)
      refine V_if_eq (tgt := 27) C d_Mod_over_18 (by decide) (bi_z rfl) (fun q18 => ?_) (fun q18 => ?_)
      · refine V_lconst (z := 0) C d_Mod_over_27 rfl ?_
        exact V_lreturn C d_Mod_over_28 (Nat.le_refl _) (Nat.le_refl _) ⟨rfl, _, rfl, F1, fun w => absurd w (by omega), fun _ => by rw [k1]; exact ⟨_, A1, O.sTh _, rfl⟩⟩
      · exact absurd rfl q18
  refine V_aload_n C d_Mod_over_0 rfl rfl ?_
  refine V_lload_n C d_Mod_over_1 rfl rfl ?_
  refine V_lconst (z := 0) C d_Mod_over_2 rfl ?_
  refine V_lcmp C d_Mod_over_3 hc inJ_0 ?_
  refine V_if_eq (tgt := 11) C d_Mod_over_4 (by decide) (cz_in _ _) (fun q4 => ?_) (fun q4 => ?_)
  · have := cz_eq.mp q4
    refine V_iconst C d_Mod_over_11 rfl ?_
    exact V_loc2 (tail 0 (bi_n (by omega)).symm) ⟨rfl, rfl, trivial⟩
  · have : ¬ c0 = 0 := fun q => q4 (cz_eq.mpr q)
    refine V_iconst C d_Mod_over_7 rfl ?_
    refine V_goto (tgt := 12) C d_Mod_over_8 (by decide) ?_
    exact V_loc2 (tail 1 (bi_1 (by omega)).symm) ⟨rfl, rfl, trivial⟩
set_option maxHeartbeats 1000000 in
theorem c_Mod_span (hl : yL l) (hv : OkV v) (A : AtM d b y0 h) (O : OkM y0 v) {k w : Int} (hk : inI k) (hw : inI w) : yM l y_Mod_span b_Mod_span 3 (some .int) 1 40 0 0 d b n h [.ref (b + 29), vi k, vi w] (fun q n' h' => n' = n ∧ ∃ z, q = some (vi z) ∧ mR d b h v (kSp v k w) v z (aSp v k w) h') noT := by
  refine yM_of hl (by decide +kernel) (Nat.le_of_ble_eq_true rfl) (fun p e s m args below meth c C => ?_)
  have e1 := O.sp
  have e2 := hv.sn
  have tail : ∀ z : Int, z = bi ((0 ≤ k ∧ k < v.sn) ∧ (w = 0 ∨ w = 1)) → V p l e (yRm 1 40 0 0) s m args below meth c 3 d b (yEnd below s args d b (fun q n' h' => n' = n ∧ ∃ z, q = some (vi z) ∧ mR d b h v (kSp v k w) v z (aSp v k w) h') noT 0 0) 0 0 n h 27 [(0, .ref (b + 29)), (1, vi k), (2, vi w)] [vi z, .ref (b + 29)] := fun z hz => by
    refine V_iconst C d_Mod_span_27 rfl ?_
    refine V_iconst C d_Mod_span_28 rfl ?_
    refine V_iconst C d_Mod_span_29 rfl ?_
    refine V_callV C (c_Mod_goes hl A (bi_z hz) (z2 := 1) (z3 := 1) (z4 := 1) (by unfold inI; omega) (by unfold inI; omega) (by unfold inI; omega)) wc_Mod_goes w_Mod_span_30 np_Mod_goes (by decide) A.o rfl rfl (Nat.le_of_ble_eq_true rfl) d_Mod_span_30 (fun v n1 h1 hp => ?_) (fun Cx n1 h1 hp => hp.elim)
    obtain ⟨rfl, rfl, A1, F1⟩ := hp
    rw [hz, kG_b1] at A1 ⊢
    by_cases q : (0 ≤ k ∧ k < v.sn) ∧ (w = 0 ∨ w = 1)
    · rw [if_neg (c := ¬ ((0 ≤ k ∧ k < v.sn) ∧ (w = 0 ∨ w = 1))) (fun w => w q)] at A1 ⊢
      have k0 : kSp v k w = 0 := if_pos q
      have sa := O.sa k.toNat (by omega)
      have sb := O.sb k.toNat (by omega)
      have as : h1 33 = some (oI d 48 y0.st) := A1.s
      have ae : h1 34 = some (oI d 48 y0.en) := A1.e
      refine V_if_ne (tgt := 38) C d_Mod_span_33 (by decide) (bi_z rfl) (fun q33 => ?_) (fun q33 => ?_)
      · refine V_iload_n C d_Mod_span_38 rfl rfl ?_
        refine V_if_ne (tgt := 51) C d_Mod_span_39 (by decide) hw (fun q39 => ?_) (fun q39 => ?_)
        · refine V_aload_n C d_Mod_span_51 rfl rfl ?_
          refine V_get C 4 8 A1.o rfl in_Mod (by decide) w_Mod_span_52 rfl rfl d_Mod_span_52 ?_
          refine V_iload_n C d_Mod_span_55 rfl rfl ?_
          refine V_iaload C ae (by omega) (by omega) (by decide) d_Mod_span_56 ?_
          rw [sb]
          exact V_ireturn C d_Mod_span_57 (Nat.le_refl _) (Nat.le_refl _) ⟨rfl, _, rfl, F1, fun _ => ⟨⟨_, A1, O.sTh _, rfl⟩, by unfold aSp; rw [if_neg q39]⟩, fun w => absurd k0 w⟩
        · refine V_aload_n C d_Mod_span_42 rfl rfl ?_
          refine V_get C 4 7 A1.o rfl in_Mod (by decide) w_Mod_span_43 rfl rfl d_Mod_span_43 ?_
          refine V_iload_n C d_Mod_span_46 rfl rfl ?_
          refine V_iaload C as (by omega) (by omega) (by decide) d_Mod_span_47 ?_
          rw [sa]
          refine V_goto (tgt := 57) C d_Mod_span_48 (by decide) ?_
          exact V_ireturn C d_Mod_span_57 (Nat.le_refl _) (Nat.le_refl _) ⟨rfl, _, rfl, F1, fun _ => ⟨⟨_, A1, O.sTh _, rfl⟩, by unfold aSp; rw [if_pos q39]⟩, fun w => absurd k0 w⟩
      · exact absurd q33 (by decide)
    · rw [if_pos (c := ¬ ((0 ≤ k ∧ k < v.sn) ∧ (w = 0 ∨ w = 1))) q] at A1 ⊢
      have k1 : kSp v k w = 1 := if_neg q
      refine V_if_ne (tgt := 38) C d_Mod_span_33 (by decide) (bi_z rfl) (fun q33 => ?_) (fun q33 => ?_)
      · exact absurd rfl q33
      · refine V_iconst C d_Mod_span_36 rfl ?_
        exact V_ireturn C d_Mod_span_37 (Nat.le_refl _) (Nat.le_refl _) ⟨rfl, _, rfl, F1, fun w => absurd w (by omega), fun _ => by rw [k1]; exact ⟨_, A1, O.sTh _, rfl⟩⟩
  refine V_aload_n C d_Mod_span_0 rfl rfl ?_
  refine V_iload_n C d_Mod_span_1 rfl rfl ?_
  refine V_if_lt (tgt := 26) C d_Mod_span_2 (by decide) hk (fun q2 => ?_) (fun q2 => ?_)
  · refine V_iconst C d_Mod_span_26 rfl ?_
    exact tail 0 (bi_n (by omega)).symm
  · refine V_iload_n C d_Mod_span_5 rfl rfl ?_
    refine V_aload_n C d_Mod_span_6 rfl rfl ?_
    refine V_get C 4 6 A.o rfl in_Mod (by decide) w_Mod_span_7 rfl rfl d_Mod_span_7 ?_
    refine V_icmp_ge (tgt := 26) C d_Mod_span_10 (by decide) hk (by unfold inI; omega) (fun q10 => ?_) (fun q10 => ?_)
    · refine V_iconst C d_Mod_span_26 rfl ?_
      exact tail 0 (bi_n (by omega)).symm
    · refine V_iload_n C d_Mod_span_13 rfl rfl ?_
      refine V_if_eq (tgt := 22) C d_Mod_span_14 (by decide) hw (fun q14 => ?_) (fun q14 => ?_)
      · refine V_iconst C d_Mod_span_22 rfl ?_
        refine V_goto (tgt := 27) C d_Mod_span_23 (by decide) ?_
        exact tail 1 (bi_1 (by omega)).symm
      · refine V_iload_n C d_Mod_span_17 rfl rfl ?_
        refine V_iconst C d_Mod_span_18 rfl ?_
        refine V_icmp_ne (tgt := 26) C d_Mod_span_19 (by decide) hw (by unfold inI; omega) (fun q19 => ?_) (fun q19 => ?_)
        · refine V_iconst C d_Mod_span_26 rfl ?_
          exact tail 0 (bi_n (by omega)).symm
        · refine V_iconst C d_Mod_span_22 rfl ?_
          refine V_goto (tgt := 27) C d_Mod_span_23 (by decide) ?_
          exact tail 1 (bi_1 (by omega)).symm
set_option maxHeartbeats 1000000 in
theorem c_Mod_digit (hl : yL l) (hv : OkV v) (A : AtM d b y0 h) (O : OkM y0 v) {r z i : Int} (hr : inI r) (hz : inI z) (hi : inI i) : yM l y_Mod_digit b_Mod_digit 4 (some .int) 2 60 0 0 d b n h [.ref (b + 29), vi r, vi z, vi i] (fun q n' h' => n' = n ∧ ∃ a, q = some (vi a) ∧ mR d b h v (kDg v r z i) v a (aDg v r z i) h') noT := by
  refine yM_of hl (by decide +kernel) (Nat.le_of_ble_eq_true rfl) (fun p e s m args below meth c C => ?_)
  have hrc := hv.rc
  have tail : ∀ z1 : Int, z1 = bi (hasY v r z ∧ 0 ≤ i ∧ i < 36) → V p l e (yRm 2 60 0 0) s m args below meth c 4 d b (yEnd below s args d b (fun q n' h' => n' = n ∧ ∃ a, q = some (vi a) ∧ mR d b h v (kDg v r z i) v a (aDg v r z i) h') noT 0 0) 0 0 n h 25 [(0, .ref (b + 29)), (1, vi r), (2, vi z), (3, vi i)] [vi z1, .ref (b + 29)] := fun z1 hz1 => by
    refine V_iconst C d_Mod_digit_25 rfl ?_
    refine V_iconst C d_Mod_digit_26 rfl ?_
    refine V_iconst C d_Mod_digit_27 rfl ?_
    refine V_callV C (c_Mod_goes hl A (bi_z hz1) (z2 := 1) (z3 := 1) (z4 := 1) (by unfold inI; omega) (by unfold inI; omega) (by unfold inI; omega)) wc_Mod_goes w_Mod_digit_28 np_Mod_goes (by decide) A.o rfl rfl (Nat.le_of_ble_eq_true rfl) d_Mod_digit_28 (fun v n1 h1 hp => ?_) (fun Cx n1 h1 hp => hp.elim)
    obtain ⟨rfl, rfl, A1, F1⟩ := hp
    rw [hz1, kG_b1] at A1 ⊢
    by_cases q : hasY v r z ∧ 0 ≤ i ∧ i < 36
    · rw [if_neg (c := ¬ (hasY v r z ∧ 0 ≤ i ∧ i < 36)) (fun w => w q)] at A1 ⊢
      have k0 : kDg v r z i = 0 := if_pos q
      obtain ⟨p1, p2, p3, p4, p5⟩ := OkM.pl (y0 := y0) hv q.1
      have ff : y0.fs r.toNat = v.F r.toNat := O.ff _ p1
      have r0 := q.1.1.1
      have ag : h1 32 = some (oI d 13824 y0.D) := A1.g
      refine V_if_eq (tgt := 50) C d_Mod_digit_31 (by decide) (bi_z rfl) (fun q31 => ?_) (fun q31 => ?_)
      · exact absurd q31 (by decide)
      · refine V_aload_n C d_Mod_digit_34 rfl rfl ?_
        refine V_get C 4 4 A1.o rfl in_Mod (by decide) w_Mod_digit_35 rfl rfl d_Mod_digit_35 ?_
        refine V_aload_n C d_Mod_digit_38 rfl rfl ?_
        refine V_iload_n C d_Mod_digit_39 rfl rfl ?_
        refine V_iload_n C d_Mod_digit_40 rfl rfl ?_
        refine V_callV C (c_Mod_at hl A1 (r := r) (z := z) r0 (by omega) ff) wc_Mod_at w_Mod_digit_41 np_Mod_at (by decide) A1.o rfl rfl (Nat.le_of_ble_eq_true rfl) d_Mod_digit_41 (fun w n2 h2 hp => ?_) (fun Cx n1 h1 hp => hp.elim)
        obtain ⟨rfl, rfl, rfl⟩ := hp
        rw [p5]
        refine V_iload_n C d_Mod_digit_44 rfl rfl ?_
        refine V_iadd C d_Mod_digit_45 ?_
        refine V_iaload C ag (by omega) (by omega) (by decide) d_Mod_digit_46 ?_
        refine V_goto (tgt := 51) C d_Mod_digit_47 (by decide) ?_
        refine V_ireturn C d_Mod_digit_51 (Nat.le_refl _) (Nat.le_refl _) ⟨rfl, _, rfl, F1, fun _ => ⟨⟨_, A1, O.sTh _, rfl⟩, ?_⟩, fun w => absurd k0 w⟩
        unfold aDg
        rw [← O.ww _ p1 _ p2, wl_dgv (O.wD p4 p3) (show i.toNat < 36 by omega)]
        congr 1
        omega
    · rw [if_pos (c := ¬ (hasY v r z ∧ 0 ≤ i ∧ i < 36)) q] at A1 ⊢
      have k1 : kDg v r z i = 1 := if_neg q
      refine V_if_eq (tgt := 50) C d_Mod_digit_31 (by decide) (bi_z rfl) (fun q31 => ?_) (fun q31 => ?_)
      · refine V_iconst C d_Mod_digit_50 rfl ?_
        exact V_ireturn C d_Mod_digit_51 (Nat.le_refl _) (Nat.le_refl _) ⟨rfl, _, rfl, F1, fun w => absurd w (by omega), fun _ => by rw [k1]; exact ⟨_, A1, O.sTh _, rfl⟩⟩
      · exact absurd rfl q31
  refine V_aload_n C d_Mod_digit_0 rfl rfl ?_
  refine V_aload_n C d_Mod_digit_1 rfl rfl ?_
  refine V_iload_n C d_Mod_digit_2 rfl rfl ?_
  refine V_iload_n C d_Mod_digit_3 rfl rfl ?_
  refine V_callV C (c_Mod_has hl hv A O hr hz) wc_Mod_has w_Mod_digit_4 np_Mod_has (by decide) A.o rfl rfl (Nat.le_of_ble_eq_true rfl) d_Mod_digit_4 (fun v n1 h1 hp => ?_) (fun Cx n1 h1 hp => hp.elim)
  obtain ⟨rfl, rfl, rfl⟩ := hp
  refine V_if_eq (tgt := 24) C d_Mod_digit_7 (by decide) (bi_z rfl) (fun q7 => ?_) (fun q7 => ?_)
  · have := bi_0.mp q7
    refine V_iconst C d_Mod_digit_24 rfl ?_
    exact tail 0 (bi_n (fun w => this w.1)).symm
  · have g1 : hasY v r z := by
      by_cases q : hasY v r z
      · exact q
      · exact absurd (bi_n q) q7
    refine V_iload_n C d_Mod_digit_10 rfl rfl ?_
    refine V_iconst C d_Mod_digit_11 rfl ?_
    refine V_bipush (z := 35) C d_Mod_digit_12 rfl ?_
    refine V_callS C (c_Mod_within hl hi (lo := 0) (hi := 35) (by unfold inI; omega) (by unfold inI; omega)) wc_Mod_within w_Mod_digit_14 np_Mod_within (by decide) rfl (Nat.le_of_ble_eq_true rfl) d_Mod_digit_14 (fun v n1 h1 hp => ?_) (fun Cx n1 h1 hp => hp.elim)
    obtain ⟨rfl, rfl, rfl⟩ := hp
    refine V_if_eq (tgt := 24) C d_Mod_digit_17 (by decide) (bi_z rfl) (fun q17 => ?_) (fun q17 => ?_)
    · have := bi_0.mp q17
      refine V_iconst C d_Mod_digit_24 rfl ?_
      exact tail 0 (bi_n (fun w => this (by omega))).symm
    · have g2 : 0 ≤ i ∧ i ≤ 35 := by
        by_cases q : 0 ≤ i ∧ i ≤ 35
        · exact q
        · exact absurd (bi_n q) q17
      refine V_iconst C d_Mod_digit_20 rfl ?_
      refine V_goto (tgt := 25) C d_Mod_digit_21 (by decide) ?_
      exact tail 1 (bi_1 ⟨g1, by omega, by omega⟩).symm
set_option maxHeartbeats 1000000 in
theorem c_Mod_total (hl : yL l) (hv : OkV v) (A : AtM d b y0 h) (O : OkM y0 v) {r i : Int} (hr : inI r) (hi : inI i) : yM l y_Mod_total b_Mod_total 3 (some .int) 4 120 0 0 d b n h [.ref (b + 29), vi r, vi i] (fun q n' h' => n' = n ∧ ∃ a, q = some (vi a) ∧ mR d b h v (kTo v r i) v a (aTo v r i) h') noT := by
  refine yM_of hl (by decide +kernel) (Nat.le_of_ble_eq_true rfl) (fun p e s m args below meth c C => ?_)
  have hrc := hv.rc
  have tail : ∀ z1 : Int, z1 = bi (isR v r ∧ 0 ≤ i ∧ i < 38) → V p l e (yRm 4 120 0 0) s m args below meth c 3 d b (yEnd below s args d b (fun q n' h' => n' = n ∧ ∃ a, q = some (vi a) ∧ mR d b h v (kTo v r i) v a (aTo v r i) h') noT 0 0) 0 0 n h 24 [(0, .ref (b + 29)), (1, vi r), (2, vi i)] [vi z1, .ref (b + 29)] := fun z1 hz1 => by
    refine V_iconst C d_Mod_total_24 rfl ?_
    refine V_iconst C d_Mod_total_25 rfl ?_
    refine V_iconst C d_Mod_total_26 rfl ?_
    refine V_callV C (c_Mod_goes hl A (bi_z hz1) (z2 := 1) (z3 := 1) (z4 := 1) (by unfold inI; omega) (by unfold inI; omega) (by unfold inI; omega)) wc_Mod_goes w_Mod_total_27 np_Mod_goes (by decide) A.o rfl rfl (Nat.le_of_ble_eq_true rfl) d_Mod_total_27 (fun v n1 h1 hp => ?_) (fun Cx n1 h1 hp => hp.elim)
    obtain ⟨rfl, rfl, A1, F1⟩ := hp
    rw [hz1, kG_b1] at A1 ⊢
    by_cases q : isR v r ∧ 0 ≤ i ∧ i < 38
    · rw [if_neg (c := ¬ (isR v r ∧ 0 ≤ i ∧ i < 38)) (fun w => w q)] at A1 ⊢
      have k0 : kTo v r i = 0 := if_pos q
      have hi' : r.toNat < v.rc := by have := q.1.1; have := q.1.2; omega
      obtain ⟨f1, f2, f3, f4⟩ := hv.ok _ hi'
      refine V_if_ne (tgt := 35) C d_Mod_total_30 (by decide) (bi_z rfl) (fun q30 => ?_) (fun q30 => ?_)
      · refine V_aload_n C d_Mod_total_35 rfl rfl ?_
        refine V_iload_n C d_Mod_total_36 rfl rfl ?_
        refine V_iconst C d_Mod_total_37 rfl ?_
        refine V_callV C (c_Mod_sumUp hl hv A1 (O.sTh _) (r := r) (all := 1) (i := r.toNat) (by have := q.1.1; omega) hi' rfl (S := fun _ => true) (Or.inr rfl) (fun k hk => ⟨fun _ => Or.inl (by omega), fun _ => rfl⟩) (fun q => absurd q (by omega))) wc_Mod_sumUp w_Mod_total_38 np_Mod_sumUp (by decide) A1.o rfl rfl (Nat.le_of_ble_eq_true rfl) d_Mod_total_38 (fun w n2 h2 hp => ?_) (fun Cx n1 h1 hp => hp.elim)
        obtain ⟨rfl, rfl, F2, G, d2, v2, A2⟩ := hp
        rw [sumS_all (fun _ _ => rfl)] at v2
        have aw : h2 35 = some (oI d 80 G) := A2.w
        refine V_aload_n C d_Mod_total_41 rfl rfl ?_
        refine V_get C 4 9 A2.o rfl in_Mod (by decide) w_Mod_total_42 rfl rfl d_Mod_total_42 ?_
        refine V_iload_n C d_Mod_total_45 rfl rfl ?_
        refine V_iaload C aw (by omega) (by omega) (by decide) d_Mod_total_46 ?_
        refine V_ireturn C d_Mod_total_47 (Nat.le_refl _) (Nat.le_refl _) ⟨rfl, _, rfl, F1.tr F2, fun _ => ⟨⟨_, A2, (O.sTh _).sW G, rfl⟩, ?_⟩, fun w => absurd k0 w⟩
        unfold aTo
        rw [← v2, wl_dgv d2 (show i.toNat < 80 by omega)]
      · exact absurd q30 (by decide)
    · rw [if_pos (c := ¬ (isR v r ∧ 0 ≤ i ∧ i < 38)) q] at A1 ⊢
      have k1 : kTo v r i = 1 := if_neg q
      refine V_if_ne (tgt := 35) C d_Mod_total_30 (by decide) (bi_z rfl) (fun q30 => ?_) (fun q30 => ?_)
      · exact absurd rfl q30
      · refine V_iconst C d_Mod_total_33 rfl ?_
        exact V_ireturn C d_Mod_total_34 (Nat.le_refl _) (Nat.le_refl _) ⟨rfl, _, rfl, F1, fun w => absurd w (by omega), fun _ => by rw [k1]; exact ⟨_, A1, O.sTh _, rfl⟩⟩
  refine V_aload_n C d_Mod_total_0 rfl rfl ?_
  refine V_aload_n C d_Mod_total_1 rfl rfl ?_
  refine V_iload_n C d_Mod_total_2 rfl rfl ?_
  refine V_callV C (c_Mod_isRow hl hv A O hr) wc_Mod_isRow w_Mod_total_3 np_Mod_isRow (by decide) A.o rfl rfl (Nat.le_of_ble_eq_true rfl) d_Mod_total_3 (fun v n1 h1 hp => ?_) (fun Cx n1 h1 hp => hp.elim)
  obtain ⟨rfl, rfl, rfl⟩ := hp
  refine V_if_eq (tgt := 23) C d_Mod_total_6 (by decide) (bi_z rfl) (fun q6 => ?_) (fun q6 => ?_)
  · have := bi_0.mp q6
    refine V_iconst C d_Mod_total_23 rfl ?_
    exact tail 0 (bi_n (fun w => this w.1)).symm
  · have g1 : isR v r := by
      by_cases q : isR v r
      · exact q
      · exact absurd (bi_n q) q6
    refine V_iload_n C d_Mod_total_9 rfl rfl ?_
    refine V_iconst C d_Mod_total_10 rfl ?_
    refine V_bipush (z := 37) C d_Mod_total_11 rfl ?_
    refine V_callS C (c_Mod_within hl hi (lo := 0) (hi := 37) (by unfold inI; omega) (by unfold inI; omega)) wc_Mod_within w_Mod_total_13 np_Mod_within (by decide) rfl (Nat.le_of_ble_eq_true rfl) d_Mod_total_13 (fun v n1 h1 hp => ?_) (fun Cx n1 h1 hp => hp.elim)
    obtain ⟨rfl, rfl, rfl⟩ := hp
    refine V_if_eq (tgt := 23) C d_Mod_total_16 (by decide) (bi_z rfl) (fun q16 => ?_) (fun q16 => ?_)
    · have := bi_0.mp q16
      refine V_iconst C d_Mod_total_23 rfl ?_
      exact tail 0 (bi_n (fun w => this (by omega))).symm
    · have g2 : 0 ≤ i ∧ i ≤ 37 := by
        by_cases q : 0 ≤ i ∧ i ≤ 37
        · exact q
        · exact absurd (bi_n q) q16
      refine V_iconst C d_Mod_total_19 rfl ?_
      refine V_goto (tgt := 24) C d_Mod_total_20 (by decide) ?_
      exact tail 1 (bi_1 ⟨g1, by omega, by omega⟩).symm
set_option maxHeartbeats 1000000 in
theorem c_Mod_compare (hl : yL l) (hv : OkV v) (A : AtM d b y0 h) (O : OkM y0 v) {r z r2 z2 : Int} (hr : inI r) (hz : inI z) (hr2 : inI r2) (hz2 : inI z2) : yM l y_Mod_compare b_Mod_compare 5 (some .int) 2 60 0 0 d b n h [.ref (b + 29), vi r, vi z, vi r2, vi z2] (fun q n' h' => n' = n ∧ ∃ a, q = some (vi a) ∧ mR d b h v (kCo v r z r2 z2) v a (aCo v r z r2 z2) h') noT := by
  refine yM_of hl (by decide +kernel) (Nat.le_of_ble_eq_true rfl) (fun p e s m args below meth c C => ?_)
  have hrc := hv.rc
  have tail : ∀ z1 : Int, z1 = bi (hasY v r z ∧ hasY v r2 z2) → V p l e (yRm 2 60 0 0) s m args below meth c 5 d b (yEnd below s args d b (fun q n' h' => n' = n ∧ ∃ a, q = some (vi a) ∧ mR d b h v (kCo v r z r2 z2) v a (aCo v r z r2 z2) h') noT 0 0) 0 0 n h 25 [(0, .ref (b + 29)), (1, vi r), (2, vi z), (3, vi r2), (4, vi z2)] [vi z1, .ref (b + 29)] := fun z1 hz1 => by
    refine V_iconst C d_Mod_compare_25 rfl ?_
    refine V_iconst C d_Mod_compare_26 rfl ?_
    refine V_iconst C d_Mod_compare_27 rfl ?_
    refine V_callV C (c_Mod_goes hl A (bi_z hz1) (z2 := 1) (z3 := 1) (z4 := 1) (by unfold inI; omega) (by unfold inI; omega) (by unfold inI; omega)) wc_Mod_goes w_Mod_compare_28 np_Mod_goes (by decide) A.o rfl rfl (Nat.le_of_ble_eq_true rfl) d_Mod_compare_28 (fun v n1 h1 hp => ?_) (fun Cx n1 h1 hp => hp.elim)
    obtain ⟨rfl, rfl, A1, F1⟩ := hp
    rw [hz1, kG_b1] at A1 ⊢
    by_cases q : hasY v r z ∧ hasY v r2 z2
    · rw [if_neg (c := ¬ (hasY v r z ∧ hasY v r2 z2)) (fun w => w q)] at A1 ⊢
      have k0 : kCo v r z r2 z2 = 0 := if_pos q
      obtain ⟨p1, p2, p3, p4, p5⟩ := OkM.pl (y0 := y0) hv q.1
      obtain ⟨g1, g2, g3, g4, g5⟩ := OkM.pl (y0 := y0) hv q.2
      have ff : y0.fs r.toNat = v.F r.toNat := O.ff _ p1
      have ff2 : y0.fs r2.toNat = v.F r2.toNat := O.ff _ g1
      have r0 := q.1.1.1
      have s0 := q.2.1.1
      refine V_if_eq (tgt := 54) C d_Mod_compare_31 (by decide) (bi_z rfl) (fun q31 => ?_) (fun q31 => ?_)
      · exact absurd q31 (by decide)
      · refine V_aload_n C d_Mod_compare_34 rfl rfl ?_
        refine V_aload_n C d_Mod_compare_35 rfl rfl ?_
        refine V_iload_n C d_Mod_compare_36 rfl rfl ?_
        refine V_iload_n C d_Mod_compare_37 rfl rfl ?_
        refine V_callV C (c_Mod_at hl A1 (r := r) (z := z) r0 (by omega) ff) wc_Mod_at w_Mod_compare_38 np_Mod_at (by decide) A1.o rfl rfl (Nat.le_of_ble_eq_true rfl) d_Mod_compare_38 (fun w n2 h2 hp => ?_) (fun Cx n1 h1 hp => hp.elim)
        obtain ⟨rfl, rfl, rfl⟩ := hp
        refine V_aload_n C d_Mod_compare_41 rfl rfl ?_
        refine V_iload_n C d_Mod_compare_42 rfl rfl ?_
        refine V_iload C d_Mod_compare_43 rfl ?_
        refine V_callV C (c_Mod_at hl A1 (r := r2) (z := z2) s0 (by omega) ff2) wc_Mod_at w_Mod_compare_45 np_Mod_at (by decide) A1.o rfl rfl (Nat.le_of_ble_eq_true rfl) d_Mod_compare_45 (fun w n2 h2 hp => ?_) (fun Cx n1 h1 hp => hp.elim)
        obtain ⟨rfl, rfl, rfl⟩ := hp
        refine V_callV C (c_Mod_compared hl A1 O.dg p5 g5 (by omega) (by omega)) wc_Mod_compared w_Mod_compare_48 np_Mod_compared (by decide) A1.o rfl rfl (Nat.le_of_ble_eq_true rfl) d_Mod_compare_48 (fun w n2 h2 hp => ?_) (fun Cx n1 h1 hp => hp.elim)
        obtain ⟨rfl, rfl, rfl⟩ := hp
        refine V_goto (tgt := 55) C d_Mod_compare_51 (by decide) ?_
        refine V_ireturn C d_Mod_compare_55 (Nat.le_refl _) (Nat.le_refl _) ⟨rfl, _, rfl, F1, fun _ => ⟨⟨_, A1, O.sTh _, rfl⟩, ?_⟩, fun w => absurd k0 w⟩
        unfold aCo
        rw [← O.ww _ p1 _ p2, ← O.ww _ g1 _ g2]
        rfl
    · rw [if_pos (c := ¬ (hasY v r z ∧ hasY v r2 z2)) q] at A1 ⊢
      have k1 : kCo v r z r2 z2 = 1 := if_neg q
      refine V_if_eq (tgt := 54) C d_Mod_compare_31 (by decide) (bi_z rfl) (fun q31 => ?_) (fun q31 => ?_)
      · refine V_iconst C d_Mod_compare_54 rfl ?_
        exact V_ireturn C d_Mod_compare_55 (Nat.le_refl _) (Nat.le_refl _) ⟨rfl, _, rfl, F1, fun w => absurd w (by omega), fun _ => by rw [k1]; exact ⟨_, A1, O.sTh _, rfl⟩⟩
      · exact absurd rfl q31
  refine V_aload_n C d_Mod_compare_0 rfl rfl ?_
  refine V_aload_n C d_Mod_compare_1 rfl rfl ?_
  refine V_iload_n C d_Mod_compare_2 rfl rfl ?_
  refine V_iload_n C d_Mod_compare_3 rfl rfl ?_
  refine V_callV C (c_Mod_has hl hv A O hr hz) wc_Mod_has w_Mod_compare_4 np_Mod_has (by decide) A.o rfl rfl (Nat.le_of_ble_eq_true rfl) d_Mod_compare_4 (fun v n1 h1 hp => ?_) (fun Cx n1 h1 hp => hp.elim)
  obtain ⟨rfl, rfl, rfl⟩ := hp
  refine V_if_eq (tgt := 24) C d_Mod_compare_7 (by decide) (bi_z rfl) (fun q7 => ?_) (fun q7 => ?_)
  · have := bi_0.mp q7
    refine V_iconst C d_Mod_compare_24 rfl ?_
    exact tail 0 (bi_n (fun w => this w.1)).symm
  · have g1 : hasY v r z := by
      by_cases q : hasY v r z
      · exact q
      · exact absurd (bi_n q) q7
    refine V_aload_n C d_Mod_compare_10 rfl rfl ?_
    refine V_iload_n C d_Mod_compare_11 rfl rfl ?_
    refine V_iload C d_Mod_compare_12 rfl ?_
    refine V_callV C (c_Mod_has hl hv A O hr2 hz2) wc_Mod_has w_Mod_compare_14 np_Mod_has (by decide) A.o rfl rfl (Nat.le_of_ble_eq_true rfl) d_Mod_compare_14 (fun v n1 h1 hp => ?_) (fun Cx n1 h1 hp => hp.elim)
    obtain ⟨rfl, rfl, rfl⟩ := hp
    refine V_if_eq (tgt := 24) C d_Mod_compare_17 (by decide) (bi_z rfl) (fun q17 => ?_) (fun q17 => ?_)
    · have := bi_0.mp q17
      refine V_iconst C d_Mod_compare_24 rfl ?_
      exact tail 0 (bi_n (fun w => this w.2)).symm
    · have g2 : hasY v r2 z2 := by
        by_cases q : hasY v r2 z2
        · exact q
        · exact absurd (bi_n q) q17
      refine V_iconst C d_Mod_compare_20 rfl ?_
      refine V_goto (tgt := 25) C d_Mod_compare_21 (by decide) ?_
      exact tail 1 (bi_1 ⟨g1, g2⟩).symm
end ModK
