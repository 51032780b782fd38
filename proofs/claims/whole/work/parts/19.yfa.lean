/-! YearFractions: what the calls do on the way -/
section YfA
variable {p : Program} {l : Launch} {e : Env} {R : Room} {s : State} {m : MethodId} {args : Array Value} {below : List Frame} {meth : Method} {c : Code} {d : yD} {b : Nat} {Q : State → Prop} {cells slots n : Nat} {h : yH}
variable {x : XS} {v : Vw}
set_option maxHeartbeats 4000000 in
theorem c_Yf_knownRow (hl : yL l) (hv : OkV v) (A : AtX d b x h) (O : OkX x v) {r : Int} (hr : inI r) :
    yM l y_Yf_knownRow b_Yf_knownRow 2 (some (.object "YearFractions$Row")) 6 90 1 6 d b n h [.ref (b + 0), vi r] (fun q n' h' => isR v r ∧ n' = n ∧ h' = h ∧ q = some (.ref (b + (2 + 2 * r.toNat)))) (fun C n' h' => ¬ isR v r ∧ C = xnI ∧ n ≤ n' ∧ h' = h) := by
  refine yM_of hl (by decide +kernel) (Nat.le_of_ble_eq_true rfl) (fun p e s m args below meth c C => ?_)
  have hrc := hv.rc
  have e0 := O.rc
  refine V_iload_n C d_Yf_knownRow_0 rfl rfl ?_
  refine V_if_lt (tgt := 12) C d_Yf_knownRow_1 (by decide) hr (fun q1 => ?_) (fun q1 => ?_)
  · exact V_throwS (text := "no such row") C (by decide) w_Yf_knownRow_12 xi_I xa_I xg_I (by decide +kernel) d_Yf_knownRow_12 d_Yf_knownRow_15 d_Yf_knownRow_16 d_Yf_knownRow_18 d_Yf_knownRow_21 (fun x hx => absurd hx List.not_mem_nil) (by decide) (Nat.le_refl _) (Nat.le_refl _) (fun n' hn => ⟨fun q => by have := q.1; omega, rfl, hn, rfl⟩)
  · refine V_iload_n C d_Yf_knownRow_4 rfl rfl ?_
    refine V_aload_n C d_Yf_knownRow_5 rfl rfl ?_
    refine V_get C 3 1 A.o rfl in_Yf (by decide) w_Yf_knownRow_6 rfl rfl d_Yf_knownRow_6 ?_
    refine V_icmp_lt (tgt := 22) C d_Yf_knownRow_9 (by decide) hr (by unfold inI; omega) (fun q9 => ?_) (fun q9 => ?_)
    · refine V_aload_n C d_Yf_knownRow_22 rfl rfl ?_
      refine V_get C 3 0 A.o rfl in_Yf (by decide) w_Yf_knownRow_23 rfl rfl d_Yf_knownRow_23 ?_
      refine V_iload_n C d_Yf_knownRow_26 rfl rfl ?_
      refine V_aaload C A.r rfl (by omega) (by omega) (by decide) (if_pos (by omega)) d_Yf_knownRow_27 ?_
      exact V_areturn C d_Yf_knownRow_28 (by omega) (by omega) ⟨⟨by omega, by omega⟩, rfl, rfl, rfl⟩
    · exact V_throwS (text := "no such row") C (by decide) w_Yf_knownRow_12 xi_I xa_I xg_I (by decide +kernel) d_Yf_knownRow_12 d_Yf_knownRow_15 d_Yf_knownRow_16 d_Yf_knownRow_18 d_Yf_knownRow_21 (fun x hx => absurd hx List.not_mem_nil) (by decide) (Nat.le_refl _) (Nat.le_refl _) (fun n' hn => ⟨fun q => by have := q.2; omega, rfl, hn, rfl⟩)
set_option maxHeartbeats 4000000 in
theorem c_Yf_knownRowWith (hl : yL l) (hv : OkV v) (A : AtX d b x h) (O : OkX x v) {r z : Int} (hr : inI r) (hz : inI z) :
    yM l y_Yf_knownRowWith b_Yf_knownRowWith 4 (some (.object "YearFractions$Row")) 7 120 2 12 d b n h [.ref (b + 0), vi r, vi z] (fun q n' h' => hasY v r z ∧ n' = n ∧ h' = h ∧ q = some (.ref (b + (2 + 2 * r.toNat)))) (fun C n' h' => ¬ hasY v r z ∧ C = xnI ∧ n ≤ n' ∧ h' = h) := by
  refine yM_of hl (by decide +kernel) (Nat.le_of_ble_eq_true rfl) (fun p e s m args below meth c C => ?_)
  have hrc := hv.rc
  refine V_aload_n C d_Yf_knownRowWith_0 rfl rfl ?_
  refine V_iload_n C d_Yf_knownRowWith_1 rfl rfl ?_
  refine V_callV C (c_Yf_knownRow hl hv A O hr) wc_Yf_knownRow w_Yf_knownRowWith_2 np_Yf_knownRow (by decide) A.o rfl rfl (Nat.le_of_ble_eq_true rfl) d_Yf_knownRowWith_2 (fun v n1 h1 hp => ?_) (fun Cx n1 h1 hp => ?_)
  · obtain ⟨hi, rfl, rfl, rfl⟩ := hp
    have hi' : r.toNat < v.rc := by have := hi.1; have := hi.2; omega
    have e1 := O.ff _ hi'
    have e2 := O.fm _ hi'
    refine V_astore_n C d_Yf_knownRowWith_5 rfl (by decide) rfl ?_
    refine V_aload_n C d_Yf_knownRowWith_6 rfl rfl ?_
    refine V_iload_n C d_Yf_knownRowWith_7 rfl rfl ?_
    refine V_callV C (c_Row_has hl (A.w _ (by omega)) (O.row hv hi') hz) wc_Row_has w_Yf_knownRowWith_8 np_Row_has (by decide) (A.w _ (by omega)) rfl rfl (Nat.le_of_ble_eq_true rfl) d_Yf_knownRowWith_8 (fun v n1 h1 hp => ?_) (fun Cx n1 h1 hp => hp.elim)
    obtain ⟨rfl, rfl, rfl⟩ := hp
    rw [e1, e2]
    refine V_if_ne (tgt := 24) C d_Yf_knownRowWith_11 (by decide) (by unfold inI; split <;> omega) (fun q11 => ?_) (fun q11 => ?_)
    · have hyes : v.F r.toNat ≤ z ∧ z ≤ v.F r.toNat + v.M r.toNat - 1 := by
        by_cases q : v.F r.toNat ≤ z ∧ z ≤ v.F r.toNat + v.M r.toNat - 1
        · exact q
        · rw [if_neg q] at q11; exact absurd rfl q11
      refine V_aload_n C d_Yf_knownRowWith_24 rfl rfl ?_
      exact V_areturn C d_Yf_knownRowWith_25 (by omega) (by omega) ⟨⟨hi, hyes⟩, rfl, rfl, rfl⟩
    · have hno : ¬ (v.F r.toNat ≤ z ∧ z ≤ v.F r.toNat + v.M r.toNat - 1) := fun q => by rw [if_pos q] at q11; omega
      exact V_throwS (text := "the year is not in the row") C (by decide) w_Yf_knownRowWith_14 xi_I xa_I xg_I (by decide +kernel) d_Yf_knownRowWith_14 d_Yf_knownRowWith_17 d_Yf_knownRowWith_18 d_Yf_knownRowWith_20 d_Yf_knownRowWith_23 (fun x hx => absurd hx List.not_mem_nil) (by decide) (by omega) (by omega) (fun n' hn => ⟨fun q => hno q.2, rfl, hn, rfl⟩)
  · obtain ⟨h1, rfl, h3, rfl⟩ := hp
    exact VT_leave C (fun x hx => absurd hx List.not_mem_nil) (by omega) (by omega) ⟨fun q => h1 q.1, rfl, h3, rfl⟩
set_option maxHeartbeats 4000000 in
theorem c_Yf_freeRow (hl : yL l) (hv : OkV v) (A : AtX d b x h) (O : OkX x v) :
    yM l y_Yf_freeRow b_Yf_freeRow 1 (some (.object "YearFractions$Row")) 6 90 1 6 d b n h [.ref (b + 0)] (fun q n' h' => v.rc < 8 ∧ n' = n ∧ h' = h ∧ q = some (.ref (b + (2 + 2 * v.rc)))) (fun C n' h' => ¬ v.rc < 8 ∧ C = xnS ∧ n ≤ n' ∧ h' = h) := by
  refine yM_of hl (by decide +kernel) (Nat.le_of_ble_eq_true rfl) (fun p e s m args below meth c C => ?_)
  have hrc := hv.rc
  have e0 := O.rc
  refine V_aload_n C d_Yf_freeRow_0 rfl rfl ?_
  refine V_get C 3 1 A.o rfl in_Yf (by decide) w_Yf_freeRow_1 rfl rfl d_Yf_freeRow_1 ?_
  refine V_bipush (z := 8) C d_Yf_freeRow_4 rfl ?_
  refine V_icmp_lt (tgt := 19) C d_Yf_freeRow_6 (by decide) (by unfold inI; omega) (by unfold inI; omega) (fun q6 => ?_) (fun q6 => ?_)
  · refine V_aload_n C d_Yf_freeRow_19 rfl rfl ?_
    refine V_get C 3 0 A.o rfl in_Yf (by decide) w_Yf_freeRow_20 rfl rfl d_Yf_freeRow_20 ?_
    refine V_aload_n C d_Yf_freeRow_23 rfl rfl ?_
    refine V_get C 3 1 A.o rfl in_Yf (by decide) w_Yf_freeRow_24 rfl rfl d_Yf_freeRow_24 ?_
    rw [e0]
    refine V_aaload C A.r rfl (by omega) (by omega) (by decide) (if_pos (by omega)) d_Yf_freeRow_27 ?_
    exact V_areturn C d_Yf_freeRow_28 (by omega) (by omega) ⟨by omega, rfl, rfl, rfl⟩
  · exact V_throwS (text := "there are eight rows") C (by decide) w_Yf_freeRow_9 xi_S xa_S xg_S (by decide +kernel) d_Yf_freeRow_9 d_Yf_freeRow_12 d_Yf_freeRow_13 d_Yf_freeRow_15 d_Yf_freeRow_18 (fun x hx => absurd hx List.not_mem_nil) (by decide) (Nat.le_refl _) (Nat.le_refl _) (fun n' hn => ⟨by omega, rfl, hn, rfl⟩)
set_option maxHeartbeats 4000000 in
theorem c_Yf_keepFreeRow (hl : yL l) (A : AtX d b x h) :
    yM l y_Yf_keepFreeRow b_Yf_keepFreeRow 2 (some .int) 0 0 0 0 d b n h [.ref (b + 0)] (fun q n' h' => n' = n ∧ q = some (vi x.rc) ∧ AtX d b (x.s_rc (x.rc + 1)) h' ∧ FrX h h') noT := by
  refine yM_of hl (by decide +kernel) (Nat.le_of_ble_eq_true rfl) (fun p e s m args below meth c C => ?_)
  refine V_aload_n C d_Yf_keepFreeRow_0 rfl rfl ?_
  refine V_get C 3 1 A.o rfl in_Yf (by decide) w_Yf_keepFreeRow_1 rfl rfl d_Yf_keepFreeRow_1 ?_
  refine V_istore_n C d_Yf_keepFreeRow_4 rfl (by decide) rfl ?_
  refine V_aload_n C d_Yf_keepFreeRow_5 rfl rfl ?_
  refine V_dup C d_Yf_keepFreeRow_6 rfl ?_
  refine V_get C 3 1 A.o rfl in_Yf (by decide) w_Yf_keepFreeRow_7 rfl rfl d_Yf_keepFreeRow_7 ?_
  refine V_iconst C d_Yf_keepFreeRow_10 rfl ?_
  refine V_iadd C d_Yf_keepFreeRow_11 ?_
  refine V_put (ty := .int) C 3 1 A.o rfl in_Yf t_Yf tok_Yf nm_Yf (by decide) w_Yf_keepFreeRow_12 rfl rfl (by decide +kernel) rfl rfl (Nat.le_of_ble_eq_true rfl) d_Yf_keepFreeRow_12 ?_
  refine V_iload_n C d_Yf_keepFreeRow_15 rfl rfl ?_
  exact V_ireturn C d_Yf_keepFreeRow_16 (Nat.le_refl _) (Nat.le_refl _) ⟨rfl, rfl, A.setRc _, FrX.rfl.set (by omega) _⟩
set_option maxHeartbeats 4000000 in
theorem c_Yf_requireDigit (hl : yL l) {i k : Int} (hi : inI i) (hk : inI k) :
    yM l y_Yf_requireDigit b_Yf_requireDigit 2 none 6 90 1 6 d b n h [vi i, vi k] (fun q n' h' => (0 ≤ i ∧ i < k) ∧ n' = n ∧ h' = h ∧ q = none) (fun C n' h' => ¬ (0 ≤ i ∧ i < k) ∧ C = xnI ∧ n ≤ n' ∧ h' = h) := by
  refine yM_of hl (by decide +kernel) (Nat.le_of_ble_eq_true rfl) (fun p e s m args below meth c C => ?_)
  refine V_iload_n C d_Yf_requireDigit_0 rfl rfl ?_
  refine V_if_lt (tgt := 9) C d_Yf_requireDigit_1 (by decide) hi (fun q1 => ?_) (fun q1 => ?_)
  · exact V_throwS (text := "no such digit") C (by decide) w_Yf_requireDigit_9 xi_I xa_I xg_I (by decide +kernel) d_Yf_requireDigit_9 d_Yf_requireDigit_12 d_Yf_requireDigit_13 d_Yf_requireDigit_15 d_Yf_requireDigit_18 (fun x hx => absurd hx List.not_mem_nil) (by decide) (Nat.le_refl _) (Nat.le_refl _) (fun n' hn => ⟨by omega, rfl, hn, rfl⟩)
  · refine V_iload_n C d_Yf_requireDigit_4 rfl rfl ?_
    refine V_iload_n C d_Yf_requireDigit_5 rfl rfl ?_
    refine V_icmp_lt (tgt := 19) C d_Yf_requireDigit_6 (by decide) hi hk (fun q6 => ?_) (fun q6 => ?_)
    · exact V_return C d_Yf_requireDigit_19 (by omega) (by omega) ⟨by omega, rfl, rfl, rfl⟩
    · exact V_throwS (text := "no such digit") C (by decide) w_Yf_requireDigit_9 xi_I xa_I xg_I (by decide +kernel) d_Yf_requireDigit_9 d_Yf_requireDigit_12 d_Yf_requireDigit_13 d_Yf_requireDigit_15 d_Yf_requireDigit_18 (fun x hx => absurd hx List.not_mem_nil) (by decide) (Nat.le_refl _) (Nat.le_refl _) (fun n' hn => ⟨by omega, rfl, hn, rfl⟩)
set_option maxHeartbeats 4000000 in
theorem c_Yf_requireCalendar (hl : yL l) {i : Int} (hi : inI i) :
    yM l y_Yf_requireCalendar b_Yf_requireCalendar 1 none 6 90 1 6 d b n h [vi i] (fun q n' h' => (0 ≤ i ∧ i < 4) ∧ n' = n ∧ h' = h ∧ q = none) (fun C n' h' => ¬ (0 ≤ i ∧ i < 4) ∧ C = xnI ∧ n ≤ n' ∧ h' = h) := by
  refine yM_of hl (by decide +kernel) (Nat.le_of_ble_eq_true rfl) (fun p e s m args below meth c C => ?_)
  refine V_iload_n C d_Yf_requireCalendar_0 rfl rfl ?_
  refine V_if_lt (tgt := 9) C d_Yf_requireCalendar_1 (by decide) hi (fun q1 => ?_) (fun q1 => ?_)
  · exact V_throwS (text := "no such calendar") C (by decide) w_Yf_requireCalendar_9 xi_I xa_I xg_I (by decide +kernel) d_Yf_requireCalendar_9 d_Yf_requireCalendar_12 d_Yf_requireCalendar_13 d_Yf_requireCalendar_15 d_Yf_requireCalendar_18 (fun x hx => absurd hx List.not_mem_nil) (by decide) (Nat.le_refl _) (Nat.le_refl _) (fun n' hn => ⟨by omega, rfl, hn, rfl⟩)
  · refine V_iload_n C d_Yf_requireCalendar_4 rfl rfl ?_
    refine V_iconst C d_Yf_requireCalendar_5 rfl ?_
    refine V_icmp_lt (tgt := 19) C d_Yf_requireCalendar_6 (by decide) hi (by unfold inI; omega) (fun q6 => ?_) (fun q6 => ?_)
    · exact V_return C d_Yf_requireCalendar_19 (by omega) (by omega) ⟨by omega, rfl, rfl, rfl⟩
    · exact V_throwS (text := "no such calendar") C (by decide) w_Yf_requireCalendar_9 xi_I xa_I xg_I (by decide +kernel) d_Yf_requireCalendar_9 d_Yf_requireCalendar_12 d_Yf_requireCalendar_13 d_Yf_requireCalendar_15 d_Yf_requireCalendar_18 (fun x hx => absurd hx List.not_mem_nil) (by decide) (Nat.le_refl _) (Nat.le_refl _) (fun n' hn => ⟨by omega, rfl, hn, rfl⟩)
set_option maxHeartbeats 4000000 in
/-- storeWeight: the number k2/a2 goes into row i, if it is a weight -/
theorem c_Yf_storeWeight (hl : yL l) (A : AtX d b x h) {i k2 a2 : Nat} (hi : i < 8) (hr : rowOk (x.ff i) (x.fm i)) (hP : dig (x.PP i) 192) {F2 : Nat → Int} (hk2 : h k2 = some (oO 2 [.ref (b + a2)])) (ha2 : h a2 = some (oJ d 8 F2)) (hne : a2 ≠ 3 + 2 * i) (hF2 : dig F2 8) {z : Int} (hz : x.ff i ≤ z ∧ z ≤ x.ff i + x.fm i - 1) :
    yM l y_Yf_storeWeight b_Yf_storeWeight 3 none 6 90 1 6 d b n h [.ref (b + (2 + 2 * i)), vi z, .ref (b + k2)]
      (fun q n' h' => vl F2 8 < 1000000000 ^ 4 ∧ q = none ∧ n' = n ∧ ∃ G, dig G 192 ∧ wt G (z - x.ff i).toNat = vl F2 8 ∧ (∀ t, t ≠ (z - x.ff i).toNat → wt G t = wt (x.PP i) t) ∧ h' = hs h (3 + 2 * i) (oJ d 192 G))
      (fun C n' h' => ¬ vl F2 8 < 1000000000 ^ 4 ∧ C = xnM ∧ n ≤ n' ∧ h' = h) := by
  refine yM_of hl (by decide +kernel) (Nat.le_of_ble_eq_true rfl) (fun p e s m args below meth c C => ?_)
  obtain ⟨r1, r2, r3, r4⟩ := id hr
  refine V_aload_n C d_Yf_storeWeight_0 rfl rfl ?_
  refine V_callV C (c_Who_isWeight hl hk2 ha2 hF2) wc_Who_isWeight w_Yf_storeWeight_1 np_Who_isWeight (by decide) hk2 rfl rfl (Nat.le_of_ble_eq_true rfl) d_Yf_storeWeight_1 (fun v n1 h1 hp => ?_) (fun Cx n1 h1 hp => hp.elim)
  obtain ⟨rfl, rfl, rfl⟩ := hp
  refine V_if_ne (tgt := 17) C d_Yf_storeWeight_4 (by decide) (by unfold inI; split <;> omega) (fun q4 => ?_) (fun q4 => ?_)
  · have hyes : vl F2 8 < 1000000000 ^ 4 := by
      by_cases q : vl F2 8 < 1000000000 ^ 4
      · exact q
      · rw [if_neg q] at q4; exact absurd rfl q4
    refine V_aload_n C d_Yf_storeWeight_17 rfl rfl ?_
    refine V_iload_n C d_Yf_storeWeight_18 rfl rfl ?_
    refine V_aload_n C d_Yf_storeWeight_19 rfl rfl ?_
    refine V_callV C (c_Row_write hl (A.w i hi) (A.p i hi) hk2 ha2 hne hr hz hP hF2) wc_Row_write w_Yf_storeWeight_20 np_Row_write (by decide) (A.w i hi) rfl rfl (Nat.le_of_ble_eq_true rfl) d_Yf_storeWeight_20 (fun v n1 h1 hp => ?_) (fun Cx n1 h1 hp => hp.elim)
    obtain ⟨rfl, rfl, G, g1, g2, g3, rfl⟩ := hp
    exact V_return C d_Yf_storeWeight_23 (by omega) (by omega) ⟨hyes, rfl, rfl, G, g1, by rw [g2, vl_high hF2 (vl_low hF2 hyes)], g3, rfl⟩
  · have hno : ¬ vl F2 8 < 1000000000 ^ 4 := fun q => by rw [if_pos q] at q4; omega
    exact V_throwS (text := "a weight would be too great") C (by decide) w_Yf_storeWeight_7 xi_M xa_M xg_M (by decide +kernel) d_Yf_storeWeight_7 d_Yf_storeWeight_10 d_Yf_storeWeight_11 d_Yf_storeWeight_13 d_Yf_storeWeight_16 (fun x hx => absurd hx List.not_mem_nil) (by decide) (Nat.le_refl _) (Nat.le_refl _) (fun n' hn => ⟨hno, rfl, hn, rfl⟩)
end YfA
