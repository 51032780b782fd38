section ModA
variable {p : Program} {l : Launch} {e : Env} {R : Room} {s : State} {m : MethodId} {args : Array Value} {below : List Frame} {meth : Method} {c : Code} {d : yD} {b : Nat} {Q : State → Prop} {cells slots n : Nat} {h : yH}
variable {y0 : YS} {v : Vw}
set_option maxHeartbeats 1000000 in
theorem c_Mod_thrown (hl : yL l) (A : AtM d b y0 h) : yM l y_Mod_thrown b_Mod_thrown 1 (some .int) 0 0 0 0 d b n h [.ref (b + 29)] (fun q n' h' => n' = n ∧ h' = h ∧ q = some (vi y0.th)) noT := by
  refine yM_of hl (by decide +kernel) (Nat.le_of_ble_eq_true rfl) (fun p e s m args below meth c C => ?_)
  refine V_aload_n C d_Mod_thrown_0 rfl rfl ?_
  refine V_get C 4 0 A.o rfl in_Mod (by decide) w_Mod_thrown_1 rfl rfl d_Mod_thrown_1 ?_
  exact V_ireturn C d_Mod_thrown_4 (Nat.le_refl _) (Nat.le_refl _) ⟨rfl, rfl, rfl⟩
set_option maxHeartbeats 1000000 in
theorem c_Mod_goes (hl : yL l) (A : AtM d b y0 h) {z1 z2 z3 z4 : Int} (h1 : inI z1) (h2 : inI z2) (h3 : inI z3) (h4 : inI z4) : yM l y_Mod_goes b_Mod_goes 5 (some .boolean) 0 0 0 0 d b n h [.ref (b + 29), vi z1, vi z2, vi z3, vi z4] (fun q n' h' => n' = n ∧ q = some (vi (bi (kG z1 z2 z3 z4 = 0))) ∧ AtM d b (y0.s_th (kG z1 z2 z3 z4)) h' ∧ FrM h h') noT := by
  refine yM_of hl (by decide +kernel) (Nat.le_of_ble_eq_true rfl) (fun p e s m args below meth c C => ?_)
  have tail : ∀ k : Int, inI k → k = kG z1 z2 z3 z4 → V p l e (yRm 0 0 0 0) s m args below meth c 5 d b (yEnd below s args d b (fun q n' h' => n' = n ∧ q = some (vi (bi (kG z1 z2 z3 z4 = 0))) ∧ AtM d b (y0.s_th (kG z1 z2 z3 z4)) h' ∧ FrM h h') noT 0 0) 0 0 n h 35 [(0, .ref (b + 29))] [vi k, .ref (b + 29)] := fun k hk e1 => by
    subst e1
    have B := A.setTh (kG z1 z2 z3 z4)
    refine V_put (ty := .int) C 4 0 A.o rfl in_Mod t_Mod tok_Mod nm_Mod (by decide) w_Mod_goes_35 rfl rfl (by decide +kernel) rfl rfl (Nat.le_of_ble_eq_true rfl) d_Mod_goes_35 ?_
    refine V_aload_n C d_Mod_goes_38 rfl rfl ?_
    refine V_get C 4 0 (hs_eq _ _ _) rfl in_Mod (by decide) w_Mod_goes_39 rfl rfl d_Mod_goes_39 ?_
    refine V_if_ne (tgt := 49) C d_Mod_goes_42 (by decide) hk (fun q42 => ?_) (fun q42 => ?_)
    · refine V_iconst C d_Mod_goes_49 rfl ?_
      exact V_zreturn C d_Mod_goes_50 (by omega) (Nat.le_refl _) (Nat.le_refl _) ⟨rfl, by rw [bi_n q42], B, FrM.rfl.set (by omega) _⟩
    · refine V_iconst C d_Mod_goes_45 rfl ?_
      refine V_goto (tgt := 50) C d_Mod_goes_46 (by decide) ?_
      exact V_zreturn C d_Mod_goes_50 (by omega) (Nat.le_refl _) (Nat.le_refl _) ⟨rfl, by rw [bi_1 q42], B, FrM.rfl.set (by omega) _⟩
  refine V_aload_n C d_Mod_goes_0 rfl rfl ?_
  refine V_iload_n C d_Mod_goes_1 rfl rfl ?_
  refine V_if_ne (tgt := 9) C d_Mod_goes_2 (by decide) h1 (fun q2 => ?_) (fun q2 => ?_)
  · refine V_iload_n C d_Mod_goes_9 rfl rfl ?_
    refine V_if_ne (tgt := 17) C d_Mod_goes_10 (by decide) h2 (fun q10 => ?_) (fun q10 => ?_)
    · refine V_iload_n C d_Mod_goes_17 rfl rfl ?_
      refine V_if_ne (tgt := 25) C d_Mod_goes_18 (by decide) h3 (fun q18 => ?_) (fun q18 => ?_)
      · refine V_iload C d_Mod_goes_25 rfl ?_
        refine V_if_ne (tgt := 34) C d_Mod_goes_27 (by decide) h4 (fun q27 => ?_) (fun q27 => ?_)
        · refine V_iconst C d_Mod_goes_34 rfl ?_
          exact V_loc2 (tail 0 inI_0 (by unfold kG; rw [if_neg q2, if_neg q10, if_neg q18, if_neg q27])) ⟨rfl, trivial⟩
        · refine V_iconst C d_Mod_goes_30 rfl ?_
          refine V_goto (tgt := 35) C d_Mod_goes_31 (by decide) ?_
          exact V_loc2 (tail 4 ⟨by omega, by omega⟩ (by unfold kG; rw [if_neg q2, if_neg q10, if_neg q18, if_pos q27])) ⟨rfl, trivial⟩
      · refine V_iconst C d_Mod_goes_21 rfl ?_
        refine V_goto (tgt := 35) C d_Mod_goes_22 (by decide) ?_
        exact V_loc2 (tail 3 ⟨by omega, by omega⟩ (by unfold kG; rw [if_neg q2, if_neg q10, if_pos q18])) ⟨rfl, trivial⟩
    · refine V_iconst C d_Mod_goes_13 rfl ?_
      refine V_goto (tgt := 35) C d_Mod_goes_14 (by decide) ?_
      exact V_loc2 (tail 2 ⟨by omega, by omega⟩ (by unfold kG; rw [if_neg q2, if_pos q10])) ⟨rfl, trivial⟩
  · refine V_iconst C d_Mod_goes_5 rfl ?_
    refine V_goto (tgt := 35) C d_Mod_goes_6 (by decide) ?_
    exact V_loc2 (tail 1 ⟨by omega, by omega⟩ (by unfold kG; rw [if_pos q2])) ⟨rfl, trivial⟩
set_option maxHeartbeats 1000000 in
theorem c_Mod_within (hl : yL l) {z lo hi : Int} (h1 : inI z) (h2 : inI lo) (h3 : inI hi) : yM l y_Mod_within b_Mod_within 3 (some .boolean) 0 0 0 0 d b n h [vi z, vi lo, vi hi] (fun q n' h' => n' = n ∧ h' = h ∧ q = some (vi (bi (lo ≤ z ∧ z ≤ hi)))) noT := by
  refine yM_of hl (by decide +kernel) (Nat.le_of_ble_eq_true rfl) (fun p e s m args below meth c C => ?_)
  refine V_iload_n C d_Mod_within_0 rfl rfl ?_
  refine V_iload_n C d_Mod_within_1 rfl rfl ?_
  refine V_icmp_lt (tgt := 14) C d_Mod_within_2 (by decide) h1 h2 (fun q2 => ?_) (fun q2 => ?_)
  · refine V_iconst C d_Mod_within_14 rfl ?_
    exact V_zreturn C d_Mod_within_15 (by omega) (Nat.le_refl _) (Nat.le_refl _) ⟨rfl, rfl, by rw [bi_n (by omega)]⟩
  · refine V_iload_n C d_Mod_within_5 rfl rfl ?_
    refine V_iload_n C d_Mod_within_6 rfl rfl ?_
    refine V_icmp_gt (tgt := 14) C d_Mod_within_7 (by decide) h1 h3 (fun q7 => ?_) (fun q7 => ?_)
    · refine V_iconst C d_Mod_within_14 rfl ?_
      exact V_zreturn C d_Mod_within_15 (by omega) (Nat.le_refl _) (Nat.le_refl _) ⟨rfl, rfl, by rw [bi_n (by omega)]⟩
    · refine V_iconst C d_Mod_within_10 rfl ?_
      refine V_goto (tgt := 15) C d_Mod_within_11 (by decide) ?_
      exact V_zreturn C d_Mod_within_15 (by omega) (Nat.le_refl _) (Nat.le_refl _) ⟨rfl, rfl, by rw [bi_1 (by omega)]⟩
set_option maxHeartbeats 1000000 in
theorem c_Mod_isRow (hl : yL l) (hv : OkV v) (A : AtM d b y0 h) (O : OkM y0 v) {r : Int} (hr : inI r) : yM l y_Mod_isRow b_Mod_isRow 2 (some .boolean) 0 0 0 0 d b n h [.ref (b + 29), vi r] (fun q n' h' => n' = n ∧ h' = h ∧ q = some (vi (bi (isR v r)))) noT := by
  refine yM_of hl (by decide +kernel) (Nat.le_of_ble_eq_true rfl) (fun p e s m args below meth c C => ?_)
  have e1 := O.rc
  have e2 := hv.rc
  refine V_iload_n C d_Mod_isRow_0 rfl rfl ?_
  refine V_if_lt (tgt := 16) C d_Mod_isRow_1 (by decide) hr (fun q1 => ?_) (fun q1 => ?_)
  · refine V_iconst C d_Mod_isRow_16 rfl ?_
    exact V_zreturn C d_Mod_isRow_17 (by omega) (Nat.le_refl _) (Nat.le_refl _) ⟨rfl, rfl, by rw [bi_n (by omega)]⟩
  · refine V_iload_n C d_Mod_isRow_4 rfl rfl ?_
    refine V_aload_n C d_Mod_isRow_5 rfl rfl ?_
    refine V_get C 4 1 A.o rfl in_Mod (by decide) w_Mod_isRow_6 rfl rfl d_Mod_isRow_6 ?_
    refine V_icmp_ge (tgt := 16) C d_Mod_isRow_9 (by decide) hr (by unfold inI; omega) (fun q9 => ?_) (fun q9 => ?_)
    · refine V_iconst C d_Mod_isRow_16 rfl ?_
      exact V_zreturn C d_Mod_isRow_17 (by omega) (Nat.le_refl _) (Nat.le_refl _) ⟨rfl, rfl, by rw [bi_n (by omega)]⟩
    · refine V_iconst C d_Mod_isRow_12 rfl ?_
      refine V_goto (tgt := 17) C d_Mod_isRow_13 (by decide) ?_
      exact V_zreturn C d_Mod_isRow_17 (by omega) (Nat.le_refl _) (Nat.le_refl _) ⟨rfl, rfl, by rw [bi_1 (by omega)]⟩
set_option maxHeartbeats 1000000 in
theorem c_Mod_has (hl : yL l) (hv : OkV v) (A : AtM d b y0 h) (O : OkM y0 v) {r z : Int} (hr : inI r) (hz : inI z) : yM l y_Mod_has b_Mod_has 3 (some .boolean) 1 30 0 0 d b n h [.ref (b + 29), vi r, vi z] (fun q n' h' => n' = n ∧ h' = h ∧ q = some (vi (bi (hasY v r z)))) noT := by
  refine yM_of hl (by decide +kernel) (Nat.le_of_ble_eq_true rfl) (fun p e s m args below meth c C => ?_)
  have e2 := hv.rc
  refine V_aload_n C d_Mod_has_0 rfl rfl ?_
  refine V_iload_n C d_Mod_has_1 rfl rfl ?_
  refine V_callV C (c_Mod_isRow hl hv A O hr) wc_Mod_isRow w_Mod_has_2 np_Mod_isRow (by decide) A.o rfl rfl (Nat.le_of_ble_eq_true rfl) d_Mod_has_2 (fun v n1 h1 hp => ?_) (fun Cx n1 h1 hp => hp.elim)
  obtain ⟨rfl, rfl, rfl⟩ := hp
  have hb := bi_in (isR v r)
  refine V_if_eq (tgt := 41) C d_Mod_has_5 (by decide) (by unfold inI; omega) (fun q5 => ?_) (fun q5 => ?_)
  · have hno := bi_0.mp q5
    refine V_iconst C d_Mod_has_41 rfl ?_
    exact V_zreturn C d_Mod_has_42 (by omega) (Nat.le_refl _) (Nat.le_refl _) ⟨rfl, rfl, by rw [bi_n (fun w => hno w.1)]⟩
  · have hi : isR v r := by
      by_cases q : isR v r
      · exact q
      · exact absurd (bi_n q) q5
    have hi' : r.toNat < v.rc := by have := hi.1; have := hi.2; omega
    obtain ⟨r1, r2, r3, r4⟩ := hv.ok _ hi'
    have f1 := O.ff _ hi'
    have f2 := O.fm _ hi'
    refine V_iload_n C d_Mod_has_8 rfl rfl ?_
    refine V_aload_n C d_Mod_has_9 rfl rfl ?_
    refine V_get C 4 2 A.o rfl in_Mod (by decide) w_Mod_has_10 rfl rfl d_Mod_has_10 ?_
    refine V_iload_n C d_Mod_has_13 rfl rfl ?_
    refine V_iaload C A.f (by omega) (by omega) (by decide) d_Mod_has_14 ?_
    rw [f1]
    refine V_icmp_lt (tgt := 41) C d_Mod_has_15 (by decide) hz (by unfold inI; omega) (fun q15 => ?_) (fun q15 => ?_)
    · refine V_iconst C d_Mod_has_41 rfl ?_
      exact V_zreturn C d_Mod_has_42 (by omega) (Nat.le_refl _) (Nat.le_refl _) ⟨rfl, rfl, by rw [bi_n (fun w => by have := w.2.1; omega)]⟩
    · refine V_iload_n C d_Mod_has_18 rfl rfl ?_
      refine V_aload_n C d_Mod_has_19 rfl rfl ?_
      refine V_get C 4 2 A.o rfl in_Mod (by decide) w_Mod_has_20 rfl rfl d_Mod_has_20 ?_
      refine V_iload_n C d_Mod_has_23 rfl rfl ?_
      refine V_iaload C A.f (by omega) (by omega) (by decide) d_Mod_has_24 ?_
      rw [f1]
      refine V_aload_n C d_Mod_has_25 rfl rfl ?_
      refine V_get C 4 3 A.o rfl in_Mod (by decide) w_Mod_has_26 rfl rfl d_Mod_has_26 ?_
      refine V_iload_n C d_Mod_has_29 rfl rfl ?_
      refine V_iaload C A.z (by omega) (by omega) (by decide) d_Mod_has_30 ?_
      rw [f2]
      refine V_iadd C d_Mod_has_31 ?_
      refine V_iconst C d_Mod_has_32 rfl ?_
      refine V_isub C d_Mod_has_33 ?_
      refine V_icmp_gt (tgt := 41) C d_Mod_has_34 (by decide) hz (by unfold inI; omega) (fun q34 => ?_) (fun q34 => ?_)
      · refine V_iconst C d_Mod_has_41 rfl ?_
        exact V_zreturn C d_Mod_has_42 (by omega) (Nat.le_refl _) (Nat.le_refl _) ⟨rfl, rfl, by rw [bi_n (fun w => by have := w.2.2; omega)]⟩
      · refine V_iconst C d_Mod_has_37 rfl ?_
        refine V_goto (tgt := 42) C d_Mod_has_38 (by decide) ?_
        exact V_zreturn C d_Mod_has_42 (by omega) (Nat.le_refl _) (Nat.le_refl _) ⟨rfl, rfl, by rw [bi_1 ⟨hi, by omega, by omega⟩]⟩
set_option maxHeartbeats 1000000 in
theorem c_Mod_at (hl : yL l) (A : AtM d b y0 h) {r z f : Int} (h0 : 0 ≤ r) (h8 : r < 8) (hf : y0.fs r.toNat = f) : yM l y_Mod_at b_Mod_at 3 (some .int) 0 0 0 0 d b n h [.ref (b + 29), vi r, vi z] (fun q n' h' => n' = n ∧ h' = h ∧ q = some (vi (36 * (48 * r + z - f)))) noT := by
  refine yM_of hl (by decide +kernel) (Nat.le_of_ble_eq_true rfl) (fun p e s m args below meth c C => ?_)
  refine V_bipush (z := 36) C d_Mod_at_0 rfl ?_
  refine V_bipush (z := 48) C d_Mod_at_2 rfl ?_
  refine V_iload_n C d_Mod_at_4 rfl rfl ?_
  refine V_imul C d_Mod_at_5 ?_
  refine V_iload_n C d_Mod_at_6 rfl rfl ?_
  refine V_iadd C d_Mod_at_7 ?_
  refine V_aload_n C d_Mod_at_8 rfl rfl ?_
  refine V_get C 4 2 A.o rfl in_Mod (by decide) w_Mod_at_9 rfl rfl d_Mod_at_9 ?_
  refine V_iload_n C d_Mod_at_12 rfl rfl ?_
  refine V_iaload C A.f (by omega) (by omega) (by decide) d_Mod_at_13 ?_
  rw [hf]
  refine V_isub C d_Mod_at_14 ?_
  refine V_imul C d_Mod_at_15 ?_
  exact V_ireturn C d_Mod_at_16 (Nat.le_refl _) (Nat.le_refl _) ⟨rfl, rfl, rfl⟩
end ModA
