section ModO
variable {p : Program} {l : Launch} {e : Env} {R : Room} {s : State} {m : MethodId} {args : Array Value} {below : List Frame} {meth : Method} {c : Code} {d : yD} {b : Nat} {Q : State → Prop} {cells slots n : Nat} {h : yH}
set_option maxHeartbeats 1000000 in
theorem c_Mod_rest_2 (hl : yL l) {x z : Int} (hx : inI x) (hz : inI z) (h0 : 0 < z) : yM l y_Mod_rest_2 b_Mod_rest_2 3 (some .int) 0 0 0 0 d b n h [vi x, vi z] (fun q n' h' => n' = n ∧ h' = h ∧ q = some (vi (x % z))) noT := by
  refine yM_of hl (by decide +kernel) (Nat.le_of_ble_eq_true rfl) (fun p e s m args below meth c C => ?_)
  obtain ⟨i1, i2, i3, i4, i5, i6, i7⟩ := td_in (B := 2147483647) hx (by omega) h0
  have e1 := tm_fl (x := x) h0
  refine V_iload_n C d_Mod_rest_2_0 rfl rfl ?_
  refine V_iload_n C d_Mod_rest_2_1 rfl rfl ?_
  refine V_irem C d_Mod_rest_2_2 hx hz (by omega) ?_
  refine V_istore_n C d_Mod_rest_2_3 rfl (by decide) rfl ?_
  refine V_iload_n C d_Mod_rest_2_4 rfl rfl ?_
  refine V_if_ge (tgt := 14) C d_Mod_rest_2_5 (by decide) i2 (fun q5 => ?_) (fun q5 => ?_)
  · rw [if_neg (by omega)] at e1
    refine V_iload_n C d_Mod_rest_2_14 rfl rfl ?_
    exact V_ireturn C d_Mod_rest_2_15 (Nat.le_refl _) (Nat.le_refl _) ⟨rfl, rfl, by rw [e1]⟩
  · rw [if_pos (by omega)] at e1
    refine V_iload_n C d_Mod_rest_2_8 rfl rfl ?_
    refine V_iload_n C d_Mod_rest_2_9 rfl rfl ?_
    refine V_iadd C d_Mod_rest_2_10 ?_
    refine V_goto (tgt := 15) C d_Mod_rest_2_11 (by decide) ?_
    exact V_ireturn C d_Mod_rest_2_15 (Nat.le_refl _) (Nat.le_refl _) ⟨rfl, rfl, by rw [e1]⟩
set_option maxHeartbeats 1000000 in
theorem c_Mod_isLeap (hl : yL l) {c0 y1 : Int} (h0 : 0 ≤ c0) (h3 : c0 ≤ 3) (hy : inI y1) : yM l y_Mod_isLeap b_Mod_isLeap 3 (some .boolean) 1 30 0 0 d b n h [vi c0, vi y1] (fun q n' h' => n' = n ∧ h' = h ∧ q = some (vi (lp c0 y1))) noT := by
  refine yM_of hl (by decide +kernel) (Nat.le_of_ble_eq_true rfl) (fun p e s m args below meth c C => ?_)
  have two : ∀ P : Prop, 2 ≤ c0 → V p l e (yRm 1 30 0 0) s m args below meth c 3 d b (yEnd below s args d b (fun q n' h' => n' = n ∧ h' = h ∧ q = some (vi (lp c0 y1))) noT 0 0) 0 0 n h 43 [(0, vi c0), (1, vi y1)] [] := fun _ h2 => by
    refine V_iload_n C d_Mod_isLeap_43 rfl rfl ?_
    refine V_bipush (z := 30) C d_Mod_isLeap_44 rfl ?_
    refine V_callS C (c_Mod_rest_2 hl (x := y1) (z := 30) hy (by unfold inI; omega) (by omega)) wc_Mod_rest_2 w_Mod_isLeap_46 np_Mod_rest_2 (by decide) rfl (Nat.le_of_ble_eq_true rfl) d_Mod_isLeap_46 (fun v n1 h1 hp => ?_) (fun Cx n1 h1 hp => hp.elim)
    obtain ⟨rfl, rfl, rfl⟩ := hp
    have b1 := Int.emod_nonneg y1 (show (30 : Int) ≠ 0 by omega)
    have b2 := Int.emod_lt_of_pos y1 (show (0 : Int) < 30 by omega)
    refine V_istore_n C d_Mod_isLeap_49 rfl (by decide) rfl ?_
    refine V_iload_n C d_Mod_isLeap_50 rfl rfl ?_
    refine V_iconst C d_Mod_isLeap_51 rfl ?_
    refine V_icmp_ne (tgt := 123) C d_Mod_isLeap_52 (by decide) (by unfold inI; omega) (by unfold inI; omega) (fun q52 => ?_) (fun q52 => ?_)
    · have e3 : c0 = 3 := by omega
      subst e3
      refine V_iconst C d_Mod_isLeap_123 rfl ?_
      exact V_zreturn C d_Mod_isLeap_124 (by omega) (Nat.le_refl _) (Nat.le_refl _) ⟨rfl, rfl, by rw [lpc3]⟩
    · have e2 : c0 = 2 := by omega
      subst e2
      generalize hr : y1 % 30 = r at b1 b2 ⊢
      refine V_iload_n C d_Mod_isLeap_55 rfl rfl ?_
      refine V_iconst C d_Mod_isLeap_56 rfl ?_
      refine V_icmp_eq (tgt := 119) C d_Mod_isLeap_57 (by decide) (by unfold inI; omega) (by unfold inI; omega) (fun q57 => ?_) (fun q57 => ?_)
      · refine V_iconst C d_Mod_isLeap_119 rfl ?_
        refine V_goto (tgt := 124) C d_Mod_isLeap_120 (by decide) ?_
        exact V_zreturn C d_Mod_isLeap_124 (by omega) (Nat.le_refl _) (Nat.le_refl _) ⟨rfl, rfl, by rw [lpc2, if_pos (by omega)]⟩
      · refine V_iload_n C d_Mod_isLeap_60 rfl rfl ?_
        refine V_iconst C d_Mod_isLeap_61 rfl ?_
        refine V_icmp_eq (tgt := 119) C d_Mod_isLeap_62 (by decide) (by unfold inI; omega) (by unfold inI; omega) (fun q62 => ?_) (fun q62 => ?_)
        · refine V_iconst C d_Mod_isLeap_119 rfl ?_
          refine V_goto (tgt := 124) C d_Mod_isLeap_120 (by decide) ?_
          exact V_zreturn C d_Mod_isLeap_124 (by omega) (Nat.le_refl _) (Nat.le_refl _) ⟨rfl, rfl, by rw [lpc2, if_pos (by omega)]⟩
        · refine V_iload_n C d_Mod_isLeap_65 rfl rfl ?_
          refine V_bipush (z := 7) C d_Mod_isLeap_66 rfl ?_
          refine V_icmp_eq (tgt := 119) C d_Mod_isLeap_68 (by decide) (by unfold inI; omega) (by unfold inI; omega) (fun q68 => ?_) (fun q68 => ?_)
          · refine V_iconst C d_Mod_isLeap_119 rfl ?_
            refine V_goto (tgt := 124) C d_Mod_isLeap_120 (by decide) ?_
            exact V_zreturn C d_Mod_isLeap_124 (by omega) (Nat.le_refl _) (Nat.le_refl _) ⟨rfl, rfl, by rw [lpc2, if_pos (by omega)]⟩
          · refine V_iload_n C d_Mod_isLeap_71 rfl rfl ?_
            refine V_bipush (z := 10) C d_Mod_isLeap_72 rfl ?_
            refine V_icmp_eq (tgt := 119) C d_Mod_isLeap_74 (by decide) (by unfold inI; omega) (by unfold inI; omega) (fun q74 => ?_) (fun q74 => ?_)
            · refine V_iconst C d_Mod_isLeap_119 rfl ?_
              refine V_goto (tgt := 124) C d_Mod_isLeap_120 (by decide) ?_
              exact V_zreturn C d_Mod_isLeap_124 (by omega) (Nat.le_refl _) (Nat.le_refl _) ⟨rfl, rfl, by rw [lpc2, if_pos (by omega)]⟩
            · refine V_iload_n C d_Mod_isLeap_77 rfl rfl ?_
              refine V_bipush (z := 13) C d_Mod_isLeap_78 rfl ?_
              refine V_icmp_eq (tgt := 119) C d_Mod_isLeap_80 (by decide) (by unfold inI; omega) (by unfold inI; omega) (fun q80 => ?_) (fun q80 => ?_)
              · refine V_iconst C d_Mod_isLeap_119 rfl ?_
                refine V_goto (tgt := 124) C d_Mod_isLeap_120 (by decide) ?_
                exact V_zreturn C d_Mod_isLeap_124 (by omega) (Nat.le_refl _) (Nat.le_refl _) ⟨rfl, rfl, by rw [lpc2, if_pos (by omega)]⟩
              · refine V_iload_n C d_Mod_isLeap_83 rfl rfl ?_
                refine V_bipush (z := 16) C d_Mod_isLeap_84 rfl ?_
                refine V_icmp_eq (tgt := 119) C d_Mod_isLeap_86 (by decide) (by unfold inI; omega) (by unfold inI; omega) (fun q86 => ?_) (fun q86 => ?_)
                · refine V_iconst C d_Mod_isLeap_119 rfl ?_
                  refine V_goto (tgt := 124) C d_Mod_isLeap_120 (by decide) ?_
                  exact V_zreturn C d_Mod_isLeap_124 (by omega) (Nat.le_refl _) (Nat.le_refl _) ⟨rfl, rfl, by rw [lpc2, if_pos (by omega)]⟩
                · refine V_iload_n C d_Mod_isLeap_89 rfl rfl ?_
                  refine V_bipush (z := 18) C d_Mod_isLeap_90 rfl ?_
                  refine V_icmp_eq (tgt := 119) C d_Mod_isLeap_92 (by decide) (by unfold inI; omega) (by unfold inI; omega) (fun q92 => ?_) (fun q92 => ?_)
                  · refine V_iconst C d_Mod_isLeap_119 rfl ?_
                    refine V_goto (tgt := 124) C d_Mod_isLeap_120 (by decide) ?_
                    exact V_zreturn C d_Mod_isLeap_124 (by omega) (Nat.le_refl _) (Nat.le_refl _) ⟨rfl, rfl, by rw [lpc2, if_pos (by omega)]⟩
                  · refine V_iload_n C d_Mod_isLeap_95 rfl rfl ?_
                    refine V_bipush (z := 21) C d_Mod_isLeap_96 rfl ?_
                    refine V_icmp_eq (tgt := 119) C d_Mod_isLeap_98 (by decide) (by unfold inI; omega) (by unfold inI; omega) (fun q98 => ?_) (fun q98 => ?_)
                    · refine V_iconst C d_Mod_isLeap_119 rfl ?_
                      refine V_goto (tgt := 124) C d_Mod_isLeap_120 (by decide) ?_
                      exact V_zreturn C d_Mod_isLeap_124 (by omega) (Nat.le_refl _) (Nat.le_refl _) ⟨rfl, rfl, by rw [lpc2, if_pos (by omega)]⟩
                    · refine V_iload_n C d_Mod_isLeap_101 rfl rfl ?_
                      refine V_bipush (z := 24) C d_Mod_isLeap_102 rfl ?_
                      refine V_icmp_eq (tgt := 119) C d_Mod_isLeap_104 (by decide) (by unfold inI; omega) (by unfold inI; omega) (fun q104 => ?_) (fun q104 => ?_)
                      · refine V_iconst C d_Mod_isLeap_119 rfl ?_
                        refine V_goto (tgt := 124) C d_Mod_isLeap_120 (by decide) ?_
                        exact V_zreturn C d_Mod_isLeap_124 (by omega) (Nat.le_refl _) (Nat.le_refl _) ⟨rfl, rfl, by rw [lpc2, if_pos (by omega)]⟩
                      · refine V_iload_n C d_Mod_isLeap_107 rfl rfl ?_
                        refine V_bipush (z := 26) C d_Mod_isLeap_108 rfl ?_
                        refine V_icmp_eq (tgt := 119) C d_Mod_isLeap_110 (by decide) (by unfold inI; omega) (by unfold inI; omega) (fun q110 => ?_) (fun q110 => ?_)
                        · refine V_iconst C d_Mod_isLeap_119 rfl ?_
                          refine V_goto (tgt := 124) C d_Mod_isLeap_120 (by decide) ?_
                          exact V_zreturn C d_Mod_isLeap_124 (by omega) (Nat.le_refl _) (Nat.le_refl _) ⟨rfl, rfl, by rw [lpc2, if_pos (by omega)]⟩
                        · refine V_iload_n C d_Mod_isLeap_113 rfl rfl ?_
                          refine V_bipush (z := 29) C d_Mod_isLeap_114 rfl ?_
                          refine V_icmp_ne (tgt := 123) C d_Mod_isLeap_116 (by decide) (by unfold inI; omega) (by unfold inI; omega) (fun q116 => ?_) (fun q116 => ?_)
                          · refine V_iconst C d_Mod_isLeap_123 rfl ?_
                            exact V_zreturn C d_Mod_isLeap_124 (by omega) (Nat.le_refl _) (Nat.le_refl _) ⟨rfl, rfl, by rw [lpc2, if_neg (by omega)]⟩
                          · refine V_iconst C d_Mod_isLeap_119 rfl ?_
                            refine V_goto (tgt := 124) C d_Mod_isLeap_120 (by decide) ?_
                            exact V_zreturn C d_Mod_isLeap_124 (by omega) (Nat.le_refl _) (Nat.le_refl _) ⟨rfl, rfl, by rw [lpc2, if_pos (by omega)]⟩
  rcases c4 h0 h3 with e | e | e | e
  · subst e
    refine V_iload_n C d_Mod_isLeap_0 rfl rfl ?_
    refine V_iconst C d_Mod_isLeap_1 rfl ?_
    refine V_icmp_ge (tgt := 43) C d_Mod_isLeap_2 (by decide) (by unfold inI; omega) (by unfold inI; omega) (fun q2 => ?_) (fun q2 => ?_)
    · exact absurd q2 (by omega)
    · refine V_iload_n C d_Mod_isLeap_5 rfl rfl ?_
      refine V_iconst C d_Mod_isLeap_6 rfl ?_
      refine V_callS C (c_Mod_rest_2 hl (x := y1) (z := 4) hy (by unfold inI; omega) (by omega)) wc_Mod_rest_2 w_Mod_isLeap_7 np_Mod_rest_2 (by decide) rfl (Nat.le_of_ble_eq_true rfl) d_Mod_isLeap_7 (fun v n1 h1 hp => ?_) (fun Cx n1 h1 hp => hp.elim)
      obtain ⟨rfl, rfl, rfl⟩ := hp
      refine V_if_ne (tgt := 41) C d_Mod_isLeap_10 (by decide) (by unfold inI; omega) (fun q10 => ?_) (fun q10 => ?_)
      · refine V_iconst C d_Mod_isLeap_41 rfl ?_
        exact V_zreturn C d_Mod_isLeap_42 (by omega) (Nat.le_refl _) (Nat.le_refl _) ⟨rfl, rfl, by rw [lpc0, if_neg (fun w => q10 w.1)]⟩
      · refine V_iload_n C d_Mod_isLeap_13 rfl rfl ?_
        refine V_iconst C d_Mod_isLeap_14 rfl ?_
        refine V_icmp_eq (tgt := 37) C d_Mod_isLeap_15 (by decide) (by unfold inI; omega) (by unfold inI; omega) (fun q15 => ?_) (fun q15 => ?_)
        · exact absurd q15 (by omega)
        · refine V_iload_n C d_Mod_isLeap_18 rfl rfl ?_
          refine V_bipush (z := 100) C d_Mod_isLeap_19 rfl ?_
          refine V_callS C (c_Mod_rest_2 hl (x := y1) (z := 100) hy (by unfold inI; omega) (by omega)) wc_Mod_rest_2 w_Mod_isLeap_21 np_Mod_rest_2 (by decide) rfl (Nat.le_of_ble_eq_true rfl) d_Mod_isLeap_21 (fun v n1 h1 hp => ?_) (fun Cx n1 h1 hp => hp.elim)
          obtain ⟨rfl, rfl, rfl⟩ := hp
          refine V_if_ne (tgt := 37) C d_Mod_isLeap_24 (by decide) (by unfold inI; omega) (fun q24 => ?_) (fun q24 => ?_)
          · refine V_iconst C d_Mod_isLeap_37 rfl ?_
            refine V_goto (tgt := 42) C d_Mod_isLeap_38 (by decide) ?_
            exact V_zreturn C d_Mod_isLeap_42 (by omega) (Nat.le_refl _) (Nat.le_refl _) ⟨rfl, rfl, by rw [lpc0, if_pos ⟨q10, Or.inl q24⟩]⟩
          · refine V_iload_n C d_Mod_isLeap_27 rfl rfl ?_
            refine V_sipush (z := 400) C d_Mod_isLeap_28 rfl ?_
            refine V_callS C (c_Mod_rest_2 hl (x := y1) (z := 400) hy (by unfold inI; omega) (by omega)) wc_Mod_rest_2 w_Mod_isLeap_31 np_Mod_rest_2 (by decide) rfl (Nat.le_of_ble_eq_true rfl) d_Mod_isLeap_31 (fun v n1 h1 hp => ?_) (fun Cx n1 h1 hp => hp.elim)
            obtain ⟨rfl, rfl, rfl⟩ := hp
            refine V_if_ne (tgt := 41) C d_Mod_isLeap_34 (by decide) (by unfold inI; omega) (fun q34 => ?_) (fun q34 => ?_)
            · refine V_iconst C d_Mod_isLeap_41 rfl ?_
              exact V_zreturn C d_Mod_isLeap_42 (by omega) (Nat.le_refl _) (Nat.le_refl _) ⟨rfl, rfl, by rw [lpc0, if_neg (fun w => by rcases w.2 with z | z; exact z q24; exact q34 z)]⟩
            · refine V_iconst C d_Mod_isLeap_37 rfl ?_
              refine V_goto (tgt := 42) C d_Mod_isLeap_38 (by decide) ?_
              exact V_zreturn C d_Mod_isLeap_42 (by omega) (Nat.le_refl _) (Nat.le_refl _) ⟨rfl, rfl, by rw [lpc0, if_pos ⟨q10, Or.inr q34⟩]⟩
  · subst e
    refine V_iload_n C d_Mod_isLeap_0 rfl rfl ?_
    refine V_iconst C d_Mod_isLeap_1 rfl ?_
    refine V_icmp_ge (tgt := 43) C d_Mod_isLeap_2 (by decide) (by unfold inI; omega) (by unfold inI; omega) (fun q2 => ?_) (fun q2 => ?_)
    · exact absurd q2 (by omega)
    · refine V_iload_n C d_Mod_isLeap_5 rfl rfl ?_
      refine V_iconst C d_Mod_isLeap_6 rfl ?_
      refine V_callS C (c_Mod_rest_2 hl (x := y1) (z := 4) hy (by unfold inI; omega) (by omega)) wc_Mod_rest_2 w_Mod_isLeap_7 np_Mod_rest_2 (by decide) rfl (Nat.le_of_ble_eq_true rfl) d_Mod_isLeap_7 (fun v n1 h1 hp => ?_) (fun Cx n1 h1 hp => hp.elim)
      obtain ⟨rfl, rfl, rfl⟩ := hp
      refine V_if_ne (tgt := 41) C d_Mod_isLeap_10 (by decide) (by unfold inI; omega) (fun q10 => ?_) (fun q10 => ?_)
      · refine V_iconst C d_Mod_isLeap_41 rfl ?_
        exact V_zreturn C d_Mod_isLeap_42 (by omega) (Nat.le_refl _) (Nat.le_refl _) ⟨rfl, rfl, by rw [lpc1, if_neg q10]⟩
      · refine V_iload_n C d_Mod_isLeap_13 rfl rfl ?_
        refine V_iconst C d_Mod_isLeap_14 rfl ?_
        refine V_icmp_eq (tgt := 37) C d_Mod_isLeap_15 (by decide) (by unfold inI; omega) (by unfold inI; omega) (fun q15 => ?_) (fun q15 => ?_)
        · refine V_iconst C d_Mod_isLeap_37 rfl ?_
          refine V_goto (tgt := 42) C d_Mod_isLeap_38 (by decide) ?_
          exact V_zreturn C d_Mod_isLeap_42 (by omega) (Nat.le_refl _) (Nat.le_refl _) ⟨rfl, rfl, by rw [lpc1, if_pos q10]⟩
        · exact absurd rfl q15
  · refine V_iload_n C d_Mod_isLeap_0 rfl rfl ?_
    refine V_iconst C d_Mod_isLeap_1 rfl ?_
    refine V_icmp_ge (tgt := 43) C d_Mod_isLeap_2 (by decide) (by unfold inI; omega) (by unfold inI; omega) (fun q2 => ?_) (fun q2 => ?_)
    · exact two True (by omega)
    · exact absurd q2 (by omega)
  · refine V_iload_n C d_Mod_isLeap_0 rfl rfl ?_
    refine V_iconst C d_Mod_isLeap_1 rfl ?_
    refine V_icmp_ge (tgt := 43) C d_Mod_isLeap_2 (by decide) (by unfold inI; omega) (by unfold inI; omega) (fun q2 => ?_) (fun q2 => ?_)
    · exact two True (by omega)
    · exact absurd q2 (by omega)
set_option maxHeartbeats 1000000 in
theorem c_Mod_yearDays (hl : yL l) {c0 y1 : Int} (h0 : 0 ≤ c0) (h3 : c0 ≤ 3) (hy : inI y1) : yM l y_Mod_yearDays b_Mod_yearDays 2 (some .int) 2 60 0 0 d b n h [vi c0, vi y1] (fun q n' h' => n' = n ∧ h' = h ∧ q = some (vi (yd c0 y1))) noT := by
  refine yM_of hl (by decide +kernel) (Nat.le_of_ble_eq_true rfl) (fun p e s m args below meth c C => ?_)
  have lpi := lp_in c0 y1
  have tail : ∀ z : Int, z = (if c0 = 2 then 354 else 365) → V p l e (yRm 2 60 0 0) s m args below meth c 2 d b (yEnd below s args d b (fun q n' h' => n' = n ∧ h' = h ∧ q = some (vi (yd c0 y1))) noT 0 0) 0 0 n h 14 [(0, vi c0), (1, vi y1)] [vi z] := fun z hz => by
    refine V_iload_n C d_Mod_yearDays_14 rfl rfl ?_
    refine V_iload_n C d_Mod_yearDays_15 rfl rfl ?_
    refine V_callS C (c_Mod_isLeap hl h0 h3 hy) wc_Mod_isLeap w_Mod_yearDays_16 np_Mod_isLeap (by decide) rfl (Nat.le_of_ble_eq_true rfl) d_Mod_yearDays_16 (fun v n1 h1 hp => ?_) (fun Cx n1 h1 hp => hp.elim)
    obtain ⟨rfl, rfl, rfl⟩ := hp
    refine V_if_eq (tgt := 26) C d_Mod_yearDays_19 (by decide) (by unfold inI; omega) (fun q19 => ?_) (fun q19 => ?_)
    · refine V_iconst C d_Mod_yearDays_26 rfl ?_
      refine V_iadd C d_Mod_yearDays_27 ?_
      exact V_ireturn C d_Mod_yearDays_28 (Nat.le_refl _) (Nat.le_refl _) ⟨rfl, rfl, by unfold yd; rw [q19, ← hz]⟩
    · refine V_iconst C d_Mod_yearDays_22 rfl ?_
      refine V_goto (tgt := 27) C d_Mod_yearDays_23 (by decide) ?_
      refine V_iadd C d_Mod_yearDays_27 ?_
      exact V_ireturn C d_Mod_yearDays_28 (Nat.le_refl _) (Nat.le_refl _) ⟨rfl, rfl, by unfold yd; rw [show lp c0 y1 = 1 by omega, ← hz]⟩
  refine V_iload_n C d_Mod_yearDays_0 rfl rfl ?_
  refine V_iconst C d_Mod_yearDays_1 rfl ?_
  refine V_icmp_ne (tgt := 11) C d_Mod_yearDays_2 (by decide) (by unfold inI; omega) (by unfold inI; omega) (fun q2 => ?_) (fun q2 => ?_)
  · refine V_sipush (z := 365) C d_Mod_yearDays_11 rfl ?_
    exact tail 365 (by rw [if_neg q2])
  · refine V_sipush (z := 354) C d_Mod_yearDays_5 rfl ?_
    refine V_goto (tgt := 14) C d_Mod_yearDays_8 (by decide) ?_
    exact tail 354 (by rw [if_pos q2])
set_option maxHeartbeats 1000000 in
theorem c_Mod_months (hl : yL l) {c0 : Int} (hc : inI c0) : yM l y_Mod_months b_Mod_months 1 (some .int) 0 0 0 0 d b n h [vi c0] (fun q n' h' => n' = n ∧ h' = h ∧ q = some (vi (mo c0))) noT := by
  refine yM_of hl (by decide +kernel) (Nat.le_of_ble_eq_true rfl) (fun p e s m args below meth c C => ?_)
  refine V_iload_n C d_Mod_months_0 rfl rfl ?_
  refine V_iconst C d_Mod_months_1 rfl ?_
  refine V_icmp_ne (tgt := 10) C d_Mod_months_2 (by decide) hc (by unfold inI; omega) (fun q2 => ?_) (fun q2 => ?_)
  · refine V_bipush (z := 12) C d_Mod_months_10 rfl ?_
    exact V_ireturn C d_Mod_months_12 (Nat.le_refl _) (Nat.le_refl _) ⟨rfl, rfl, by unfold mo; rw [if_neg q2]⟩
  · refine V_bipush (z := 13) C d_Mod_months_5 rfl ?_
    refine V_goto (tgt := 12) C d_Mod_months_7 (by decide) ?_
    exact V_ireturn C d_Mod_months_12 (Nat.le_refl _) (Nat.le_refl _) ⟨rfl, rfl, by unfold mo; rw [if_pos q2]⟩
set_option maxHeartbeats 1000000 in
theorem c_Mod_monthDays (hl : yL l) {c0 y1 k : Int} (h0 : 0 ≤ c0) (h3 : c0 ≤ 3) (hy : inI y1) (hk : 1 ≤ k) (hk2 : k ≤ 100) : yM l y_Mod_monthDays b_Mod_monthDays 3 (some .int) 2 60 0 0 d b n h [vi c0, vi y1, vi k] (fun q n' h' => n' = n ∧ h' = h ∧ q = some (vi (md c0 y1 k))) noT := by
  refine yM_of hl (by decide +kernel) (Nat.le_of_ble_eq_true rfl) (fun p e s m args below meth c C => ?_)
  have lpi := lp_in c0 y1
  refine V_iload_n C d_Mod_monthDays_0 rfl rfl ?_
  refine V_iconst C d_Mod_monthDays_1 rfl ?_
  refine V_icmp_ne (tgt := 18) C d_Mod_monthDays_2 (by decide) (by unfold inI; omega) (by unfold inI; omega) (fun q2 => ?_) (fun q2 => ?_)
  · refine V_iload_n C d_Mod_monthDays_18 rfl rfl ?_
    refine V_iconst C d_Mod_monthDays_19 rfl ?_
    refine V_icmp_ne (tgt := 57) C d_Mod_monthDays_20 (by decide) (by unfold inI; omega) (by unfold inI; omega) (fun q20 => ?_) (fun q20 => ?_)
    · have e1 : md c0 y1 k = if k = 2 ∧ leap c0 y1 then 29 else mT k := by unfold md; rw [if_neg q2, if_neg q20]
      have n2 : k ≠ 2 → md c0 y1 k = mT k := fun w => by rw [e1, if_neg (fun z => w z.1)]
      refine V_iload_n C d_Mod_monthDays_57 rfl rfl ?_
      refine V_iconst C d_Mod_monthDays_58 rfl ?_
      refine V_icmp_ne (tgt := 78) C d_Mod_monthDays_59 (by decide) (by unfold inI; omega) (by unfold inI; omega) (fun q59 => ?_) (fun q59 => ?_)
      · have e5 := n2 q59
        refine V_iload_n C d_Mod_monthDays_78 rfl rfl ?_
        refine V_iconst C d_Mod_monthDays_79 rfl ?_
        refine V_icmp_eq (tgt := 101) C d_Mod_monthDays_80 (by decide) (by unfold inI; omega) (by unfold inI; omega) (fun q80 => ?_) (fun q80 => ?_)
        · refine V_bipush (z := 30) C d_Mod_monthDays_101 rfl ?_
          refine V_goto (tgt := 108) C d_Mod_monthDays_103 (by decide) ?_
          exact V_ireturn C d_Mod_monthDays_108 (Nat.le_refl _) (Nat.le_refl _) ⟨rfl, rfl, by rw [e5]; unfold mT; rw [if_neg q59, if_pos (by omega)]⟩
        · refine V_iload_n C d_Mod_monthDays_83 rfl rfl ?_
          refine V_bipush (z := 6) C d_Mod_monthDays_84 rfl ?_
          refine V_icmp_eq (tgt := 101) C d_Mod_monthDays_86 (by decide) (by unfold inI; omega) (by unfold inI; omega) (fun q86 => ?_) (fun q86 => ?_)
          · refine V_bipush (z := 30) C d_Mod_monthDays_101 rfl ?_
            refine V_goto (tgt := 108) C d_Mod_monthDays_103 (by decide) ?_
            exact V_ireturn C d_Mod_monthDays_108 (Nat.le_refl _) (Nat.le_refl _) ⟨rfl, rfl, by rw [e5]; unfold mT; rw [if_neg q59, if_pos (by omega)]⟩
          · refine V_iload_n C d_Mod_monthDays_89 rfl rfl ?_
            refine V_bipush (z := 9) C d_Mod_monthDays_90 rfl ?_
            refine V_icmp_eq (tgt := 101) C d_Mod_monthDays_92 (by decide) (by unfold inI; omega) (by unfold inI; omega) (fun q92 => ?_) (fun q92 => ?_)
            · refine V_bipush (z := 30) C d_Mod_monthDays_101 rfl ?_
              refine V_goto (tgt := 108) C d_Mod_monthDays_103 (by decide) ?_
              exact V_ireturn C d_Mod_monthDays_108 (Nat.le_refl _) (Nat.le_refl _) ⟨rfl, rfl, by rw [e5]; unfold mT; rw [if_neg q59, if_pos (by omega)]⟩
            · refine V_iload_n C d_Mod_monthDays_95 rfl rfl ?_
              refine V_bipush (z := 11) C d_Mod_monthDays_96 rfl ?_
              refine V_icmp_ne (tgt := 106) C d_Mod_monthDays_98 (by decide) (by unfold inI; omega) (by unfold inI; omega) (fun q98 => ?_) (fun q98 => ?_)
              · refine V_bipush (z := 31) C d_Mod_monthDays_106 rfl ?_
                exact V_ireturn C d_Mod_monthDays_108 (Nat.le_refl _) (Nat.le_refl _) ⟨rfl, rfl, by rw [e5]; unfold mT; rw [if_neg q59, if_neg (by omega)]⟩
              · refine V_bipush (z := 30) C d_Mod_monthDays_101 rfl ?_
                refine V_goto (tgt := 108) C d_Mod_monthDays_103 (by decide) ?_
                exact V_ireturn C d_Mod_monthDays_108 (Nat.le_refl _) (Nat.le_refl _) ⟨rfl, rfl, by rw [e5]; unfold mT; rw [if_neg q59, if_pos (by omega)]⟩
      · refine V_iload_n C d_Mod_monthDays_62 rfl rfl ?_
        refine V_iload_n C d_Mod_monthDays_63 rfl rfl ?_
        refine V_callS C (c_Mod_isLeap hl h0 h3 hy) wc_Mod_isLeap w_Mod_monthDays_64 np_Mod_isLeap (by decide) rfl (Nat.le_of_ble_eq_true rfl) d_Mod_monthDays_64 (fun v n1 h1 hp => ?_) (fun Cx n1 h1 hp => hp.elim)
        obtain ⟨rfl, rfl, rfl⟩ := hp
        refine V_if_eq (tgt := 75) C d_Mod_monthDays_67 (by decide) (by unfold inI; omega) (fun q67 => ?_) (fun q67 => ?_)
        · refine V_bipush (z := 28) C d_Mod_monthDays_75 rfl ?_
          exact V_ireturn C d_Mod_monthDays_77 (Nat.le_refl _) (Nat.le_refl _) ⟨rfl, rfl, by rw [e1, if_neg (fun z => lp_00 q67 z.2)]; unfold mT; rw [if_pos q59]⟩
        · refine V_bipush (z := 29) C d_Mod_monthDays_70 rfl ?_
          refine V_goto (tgt := 77) C d_Mod_monthDays_72 (by decide) ?_
          exact V_ireturn C d_Mod_monthDays_77 (Nat.le_refl _) (Nat.le_refl _) ⟨rfl, rfl, by rw [e1, if_pos ⟨q59, lp_01 q67⟩]⟩
    · subst q20
      have e1 : md 2 y1 k = if k % 2 = 1 ∨ (k = 12 ∧ leap 2 y1) then 30 else 29 := rfl
      have odd : ¬ (k = 12 ∧ leap 2 y1) → V p l e (yRm 2 60 0 0) s m args below meth c 3 d b (yEnd below s args d b (fun q n' h' => n' = n ∧ h' = h ∧ q = some (vi (md 2 y1 k))) noT 0 0) 0 0 n h 42 [(0, vi 2), (1, vi y1), (2, vi k)] [] := fun hno => by
        refine V_iload_n C d_Mod_monthDays_42 rfl rfl ?_
        refine V_iconst C d_Mod_monthDays_43 rfl ?_
        refine V_iremP C d_Mod_monthDays_44 (by omega) (by omega) (by omega) (by omega) ?_
        refine V_iconst C d_Mod_monthDays_45 rfl ?_
        refine V_icmp_ne (tgt := 54) C d_Mod_monthDays_46 (by decide) (by unfold inI; omega) (by unfold inI; omega) (fun q46 => ?_) (fun q46 => ?_)
        · refine V_bipush (z := 29) C d_Mod_monthDays_54 rfl ?_
          exact V_ireturn C d_Mod_monthDays_56 (Nat.le_refl _) (Nat.le_refl _) ⟨rfl, rfl, by rw [e1, if_neg (fun w => by rcases w with w | w; exact q46 w; exact hno w)]⟩
        · refine V_bipush (z := 30) C d_Mod_monthDays_49 rfl ?_
          refine V_goto (tgt := 56) C d_Mod_monthDays_51 (by decide) ?_
          exact V_ireturn C d_Mod_monthDays_56 (Nat.le_refl _) (Nat.le_refl _) ⟨rfl, rfl, by rw [e1, if_pos (Or.inl q46)]⟩
      refine V_iload_n C d_Mod_monthDays_23 rfl rfl ?_
      refine V_bipush (z := 12) C d_Mod_monthDays_24 rfl ?_
      refine V_icmp_ne (tgt := 42) C d_Mod_monthDays_26 (by decide) (by unfold inI; omega) (by unfold inI; omega) (fun q26 => ?_) (fun q26 => ?_)
      · exact odd (fun w => q26 w.1)
      · refine V_iconst C d_Mod_monthDays_29 rfl ?_
        refine V_iload_n C d_Mod_monthDays_30 rfl rfl ?_
        refine V_callS C (c_Mod_isLeap hl (c0 := 2) (by omega) (by omega) hy) wc_Mod_isLeap w_Mod_monthDays_31 np_Mod_isLeap (by decide) rfl (Nat.le_of_ble_eq_true rfl) d_Mod_monthDays_31 (fun v n1 h1 hp => ?_) (fun Cx n1 h1 hp => hp.elim)
        obtain ⟨rfl, rfl, rfl⟩ := hp
        refine V_if_eq (tgt := 42) C d_Mod_monthDays_34 (by decide) (by unfold inI; omega) (fun q34 => ?_) (fun q34 => ?_)
        · exact odd (fun w => lp_00 q34 w.2)
        · refine V_bipush (z := 30) C d_Mod_monthDays_37 rfl ?_
          refine V_goto (tgt := 56) C d_Mod_monthDays_39 (by decide) ?_
          exact V_ireturn C d_Mod_monthDays_56 (Nat.le_refl _) (Nat.le_refl _) ⟨rfl, rfl, by rw [e1, if_pos (Or.inr ⟨q26, lp_01 q34⟩)]⟩
  · subst q2
    have e1 : md 3 y1 k = if k = 13 then 5 else 30 := rfl
    refine V_iload_n C d_Mod_monthDays_5 rfl rfl ?_
    refine V_bipush (z := 13) C d_Mod_monthDays_6 rfl ?_
    refine V_icmp_ne (tgt := 15) C d_Mod_monthDays_8 (by decide) (by unfold inI; omega) (by unfold inI; omega) (fun q8 => ?_) (fun q8 => ?_)
    · refine V_bipush (z := 30) C d_Mod_monthDays_15 rfl ?_
      exact V_ireturn C d_Mod_monthDays_17 (Nat.le_refl _) (Nat.le_refl _) ⟨rfl, rfl, by rw [e1, if_neg q8]⟩
    · refine V_iconst C d_Mod_monthDays_11 rfl ?_
      refine V_goto (tgt := 17) C d_Mod_monthDays_12 (by decide) ?_
      exact V_ireturn C d_Mod_monthDays_17 (Nat.le_refl _) (Nat.le_refl _) ⟨rfl, rfl, by rw [e1, if_pos q8]⟩
set_option maxHeartbeats 1000000 in
theorem c_Mod_cycle (hl : yL l) {c0 : Int} (hc : inI c0) : yM l y_Mod_cycle b_Mod_cycle 1 (some .int) 0 0 0 0 d b n h [vi c0] (fun q n' h' => n' = n ∧ h' = h ∧ q = some (vi (cyN c0))) noT := by
  refine yM_of hl (by decide +kernel) (Nat.le_of_ble_eq_true rfl) (fun p e s m args below meth c C => ?_)
  refine V_iload_n C d_Mod_cycle_0 rfl rfl ?_
  refine V_if_ne (tgt := 10) C d_Mod_cycle_1 (by decide) hc (fun q1 => ?_) (fun q1 => ?_)
  · refine V_iload_n C d_Mod_cycle_10 rfl rfl ?_
    refine V_iconst C d_Mod_cycle_11 rfl ?_
    refine V_icmp_ne (tgt := 19) C d_Mod_cycle_12 (by decide) hc (by unfold inI; omega) (fun q12 => ?_) (fun q12 => ?_)
    · refine V_iload_n C d_Mod_cycle_19 rfl rfl ?_
      refine V_iconst C d_Mod_cycle_20 rfl ?_
      refine V_icmp_ne (tgt := 29) C d_Mod_cycle_21 (by decide) hc (by unfold inI; omega) (fun q21 => ?_) (fun q21 => ?_)
      · refine V_iconst C d_Mod_cycle_29 rfl ?_
        exact V_ireturn C d_Mod_cycle_30 (Nat.le_refl _) (Nat.le_refl _) ⟨rfl, rfl, by unfold cyN; rw [if_neg q1, if_neg q12, if_neg q21]⟩
      · refine V_bipush (z := 30) C d_Mod_cycle_24 rfl ?_
        refine V_goto (tgt := 30) C d_Mod_cycle_26 (by decide) ?_
        exact V_ireturn C d_Mod_cycle_30 (Nat.le_refl _) (Nat.le_refl _) ⟨rfl, rfl, by unfold cyN; rw [if_neg q1, if_neg q12, if_pos q21]⟩
    · refine V_iconst C d_Mod_cycle_15 rfl ?_
      refine V_goto (tgt := 30) C d_Mod_cycle_16 (by decide) ?_
      exact V_ireturn C d_Mod_cycle_30 (Nat.le_refl _) (Nat.le_refl _) ⟨rfl, rfl, by unfold cyN; rw [if_neg q1, if_pos q12]⟩
  · refine V_sipush (z := 400) C d_Mod_cycle_4 rfl ?_
    refine V_goto (tgt := 30) C d_Mod_cycle_7 (by decide) ?_
    exact V_ireturn C d_Mod_cycle_30 (Nat.le_refl _) (Nat.le_refl _) ⟨rfl, rfl, by unfold cyN; rw [if_pos q1]⟩
set_option maxHeartbeats 1000000 in
theorem Mod_cd_loop (C : yC p l s m args meth c y_Mod_cycleDays b_Mod_cycleDays 3 (some .int) [] d b) (hl : yL l) {c0 : Int} (h0 : 0 ≤ c0) (h3 : c0 ≤ 3) {post : Option Value → Nat → yH → Prop} (hp : post (some (vi (cyD c0))) n h) :
    ∀ (j i : Nat), (i : Int) + j = cyN c0 → V p l e (yRm 3 90 0 0) s m args below meth c 3 d b (yEnd below s args d b post noT 0 0) 0 0 n h 4 [(0, vi c0), (1, vi (ny c0 ((i : Int) + 1) - ny c0 1)), (2, vi ((i : Int) + 1))] [] := by
  obtain ⟨⟨k1, k2⟩, ⟨k3, k4⟩, k5, k6⟩ := cy_in h0 h3
  intro j
  induction j with
  | zero =>
    intro i hi
    have e1 := ny_cyc h0 h3 1
    have e2 : (i : Int) + 1 = 1 + cyN c0 := by omega
    refine V_iload_n C d_Mod_cycleDays_4 rfl rfl ?_
    refine V_iload_n C d_Mod_cycleDays_5 rfl rfl ?_
    refine V_callS C (c_Mod_cycle hl (c0 := c0) ⟨by omega, by omega⟩) wc_Mod_cycle w_Mod_cycleDays_6 np_Mod_cycle (by decide) rfl (Nat.le_of_ble_eq_true rfl) d_Mod_cycleDays_6 (fun v n1 h1 hq => ?_) (fun Cx n1 h1 hp => hp.elim)
    obtain ⟨rfl, rfl, rfl⟩ := hq
    refine V_icmp_gt (tgt := 26) C d_Mod_cycleDays_9 (by decide) (by unfold inI; omega) (by unfold inI; omega) (fun q9 => ?_) (fun q9 => ?_)
    · rw [show cyD c0 = ny c0 ((i : Int) + 1) - ny c0 1 by rw [e2, e1]; omega] at hp
      refine V_iload_n C d_Mod_cycleDays_26 rfl rfl ?_
      exact V_ireturn C d_Mod_cycleDays_27 (Nat.le_refl _) (Nat.le_refl _) hp
    · exact absurd q9 (by omega)
  | succ j ih =>
    intro i hi
    have e1 := ny_next h0 h3 ((i : Int) + 1)
    refine V_iload_n C d_Mod_cycleDays_4 rfl rfl ?_
    refine V_iload_n C d_Mod_cycleDays_5 rfl rfl ?_
    refine V_callS C (c_Mod_cycle hl (c0 := c0) ⟨by omega, by omega⟩) wc_Mod_cycle w_Mod_cycleDays_6 np_Mod_cycle (by decide) rfl (Nat.le_of_ble_eq_true rfl) d_Mod_cycleDays_6 (fun v n1 h1 hq => ?_) (fun Cx n1 h1 hp => hp.elim)
    obtain ⟨rfl, rfl, rfl⟩ := hq
    refine V_icmp_gt (tgt := 26) C d_Mod_cycleDays_9 (by decide) (by unfold inI; omega) (by unfold inI; omega) (fun q9 => ?_) (fun q9 => ?_)
    · exact absurd q9 (by omega)
    · refine V_iload_n C d_Mod_cycleDays_12 rfl rfl ?_
      refine V_iload_n C d_Mod_cycleDays_13 rfl rfl ?_
      refine V_iload_n C d_Mod_cycleDays_14 rfl rfl ?_
      refine V_callS C (c_Mod_yearDays hl h0 h3 (y1 := (i : Int) + 1) ⟨by omega, by omega⟩) wc_Mod_yearDays w_Mod_cycleDays_15 np_Mod_yearDays (by decide) rfl (Nat.le_of_ble_eq_true rfl) d_Mod_cycleDays_15 (fun v n1 h1 hq => ?_) (fun Cx n1 h1 hp => hp.elim)
      obtain ⟨rfl, rfl, rfl⟩ := hq
      refine V_iadd C d_Mod_cycleDays_18 ?_
      refine V_istore_n C d_Mod_cycleDays_19 rfl (by decide) rfl ?_
      refine V_iinc C d_Mod_cycleDays_20 rfl rfl (by decide) rfl ?_
      refine V_goto (tgt := 4) C d_Mod_cycleDays_23 (by decide) ?_
      refine V_loc2 (ih (i + 1) (by omega)) ⟨rfl, ?_, rfl, trivial⟩
      show some (vi (ny c0 ((i : Int) + 1) - ny c0 1 + yd c0 ((i : Int) + 1))) = some (vi (ny c0 (((i + 1 : Nat) : Int) + 1) - ny c0 1))
      rw [show ((i + 1 : Nat) : Int) + 1 = (i : Int) + 1 + 1 by omega, e1]
      congr 2
      omega
set_option maxHeartbeats 1000000 in
theorem c_Mod_cycleDays (hl : yL l) {c0 : Int} (h0 : 0 ≤ c0) (h3 : c0 ≤ 3) : yM l y_Mod_cycleDays b_Mod_cycleDays 3 (some .int) 3 90 0 0 d b n h [vi c0] (fun q n' h' => n' = n ∧ h' = h ∧ q = some (vi (cyD c0))) noT := by
  refine yM_of hl (by decide +kernel) (Nat.le_of_ble_eq_true rfl) (fun p e s m args below meth c C => ?_)
  obtain ⟨⟨k1, k2⟩, -⟩ := cy_in h0 h3
  refine V_iconst C d_Mod_cycleDays_0 rfl ?_
  refine V_istore_n C d_Mod_cycleDays_1 rfl (by decide) rfl ?_
  refine V_iconst C d_Mod_cycleDays_2 rfl ?_
  refine V_istore_n C d_Mod_cycleDays_3 rfl (by decide) rfl ?_
  refine V_loc2 (Mod_cd_loop C hl h0 h3 ⟨rfl, rfl, rfl⟩ (cyN c0).toNat 0 (by omega)) ⟨rfl, ?_, rfl, trivial⟩
  show some (vi 0) = some (vi (ny c0 (((0 : Nat) : Int) + 1) - ny c0 1))
  rw [show ((0 : Nat) : Int) + 1 = 1 from rfl, Int.sub_self]
end ModO
