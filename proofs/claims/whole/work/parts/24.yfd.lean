/-! YearFractions: the public calls -/
section YfD
variable {p : Program} {l : Launch} {e : Env} {R : Room} {s : State} {m : MethodId} {args : Array Value} {below : List Frame} {meth : Method} {c : Code} {d : yD} {b : Nat} {Q : State → Prop} {cells slots n : Nat} {h : yH}
variable {x : XS} {v : Vw}
/-- a new row behind the last one -/
theorem OkX.new {x' : XS} (O : OkX x v) (h8 : v.rc < 8) {f : Int} {mm : Nat} {W : Nat → Int} (h1 : x'.rc = x.rc + 1) (h2 : x'.rs = x.rs) (h3 : x'.sp = x.sp) (h4 : ∀ i, i ≠ v.rc → x'.ff i = x.ff i) (h5 : ∀ i, i ≠ v.rc → x'.fm i = x.fm i) (h6 : ∀ i, i ≠ v.rc → x'.PP i = x.PP i) (h7 : x'.ff v.rc = f) (h8' : x'.fm v.rc = mm) (h9 : dig (x'.PP v.rc) 192) (h10 : ∀ q, q < mm → wt (x'.PP v.rc) q = W q) (h11 : x'.A = x.A) (h12 : x'.B = x.B) : OkX x' (vNew v f mm W) := by
  have hF : (vNew v f mm W).F = fu v.F v.rc f := rfl
  have hM : (vNew v f mm W).M = fu v.M v.rc mm := rfl
  have hW : (vNew v f mm W).W = fu v.W v.rc W := rfl
  refine ⟨by rw [h1, O.rc]; rfl, by rw [h2, O.rs]; rfl, by rw [h3, O.sp]; rfl, fun i hi => ?_, fun i hi => ?_, fun i hi q hq => ?_, fun i hi => ?_, fun k hk => by rw [h11]; exact O.sa k hk, fun k hk => by rw [h12]; exact O.sb k hk⟩
  · have hi' : i < v.rc + 1 := hi
    rw [hF]
    by_cases e : i = v.rc
    · rw [e, h7, fu_eq]
    · rw [h4 i e, fu_ne _ _ e]; exact O.ff i (by omega)
  · have hi' : i < v.rc + 1 := hi
    rw [hM]
    by_cases e : i = v.rc
    · rw [e, h8', fu_eq]
    · rw [h5 i e, fu_ne _ _ e]; exact O.fm i (by omega)
  · have hi' : i < v.rc + 1 := hi
    rw [hM] at hq
    rw [hW]
    by_cases e : i = v.rc
    · rw [e, fu_eq] at hq
      rw [e, fu_eq]; exact h10 q hq
    · rw [fu_ne _ _ e] at hq
      rw [h6 i e, fu_ne _ _ e]; exact O.ww i (by omega) q hq
  · by_cases e : i = v.rc
    · rw [e]; exact h9
    · rw [h6 i e]; exact O.dg i hi
set_option maxHeartbeats 4000000 in
theorem c_Yf_row (hl : yL l) (hv : OkV v) (A : AtX d b x h) (O : OkX x v) {f k : Int} (hf : inI f) (hk : inI k) :
    yM l y_Yf_row b_Yf_row 4 (some .int) 8 160 64 512 d b n h [.ref (b + 0), vi f, vi k] (fun q n' h' => kRow v f k = 0 ∧ n' = n ∧ q = some (vi v.rc) ∧ PX d b h h' (vRow v f k)) (tX d b n h v (fun C => (kRow v f k = 1 ∧ C = xnS) ∨ (kRow v f k = 2 ∧ C = xnA))) := by
  refine yM_of hl (by decide +kernel) (Nat.le_of_ble_eq_true rfl) (fun p e s m args below meth c C => ?_)
  have hrc := hv.rc
  refine V_aload_n C d_Yf_row_0 rfl rfl ?_
  refine V_callV C (c_Yf_freeRow hl hv A O) wc_Yf_freeRow w_Yf_row_1 np_Yf_freeRow (by decide) A.o rfl rfl (Nat.le_of_ble_eq_true rfl) d_Yf_row_1 (fun v n1 h1 hp => ?_) (fun Cx n1 h1 hp => ?_)
  · obtain ⟨h8, rfl, rfl, rfl⟩ := hp
    have no : ∀ q : Prop, ¬ ((1 ≤ k ∧ k ≤ 48) ∧ -9999 ≤ f ∧ f ≤ 9999 - (k - 1)) → kRow v f k = 2 := fun _ q => by unfold kRow; rw [if_neg (by omega), if_neg q]
    refine V_astore_n C d_Yf_row_4 rfl (by decide) rfl ?_
    refine V_iload_n C d_Yf_row_5 rfl rfl ?_
    refine V_iconst C d_Yf_row_6 rfl ?_
    refine V_icmp_lt (tgt := 16) C d_Yf_row_7 (by decide) hk (by unfold inI; omega) (fun q7 => ?_) (fun q7 => ?_)
    · exact V_throwS (text := "a row has 1 to 48 years") C (by decide) w_Yf_row_16 xi_A xa_A xg_A (by decide +kernel) d_Yf_row_16 d_Yf_row_19 d_Yf_row_20 d_Yf_row_22 d_Yf_row_25 (fun x hx => absurd hx List.not_mem_nil) (by decide) (by omega) (by omega) (fun n' hn => ⟨Or.inr ⟨no True (by omega), rfl⟩, hn, ⟨x, A, O⟩, FrX.rfl⟩)
    · refine V_iload_n C d_Yf_row_10 rfl rfl ?_
      refine V_bipush (z := 48) C d_Yf_row_11 rfl ?_
      refine V_icmp_le (tgt := 26) C d_Yf_row_13 (by decide) hk (by unfold inI; omega) (fun q13 => ?_) (fun q13 => ?_)
      · refine V_iload_n C d_Yf_row_26 rfl rfl ?_
        refine V_sipush (z := (-9999)) C d_Yf_row_27 rfl ?_
        refine V_icmp_lt (tgt := 44) C d_Yf_row_30 (by decide) hf (by unfold inI; omega) (fun q30 => ?_) (fun q30 => ?_)
        · exact V_throwS (text := "years are -9999 to 9999") C (by decide) w_Yf_row_44 xi_A xa_A xg_A (by decide +kernel) d_Yf_row_44 d_Yf_row_47 d_Yf_row_48 d_Yf_row_50 d_Yf_row_53 (fun x hx => absurd hx List.not_mem_nil) (by decide) (by omega) (by omega) (fun n' hn => ⟨Or.inr ⟨no True (by omega), rfl⟩, hn, ⟨x, A, O⟩, FrX.rfl⟩)
        · refine V_iload_n C d_Yf_row_33 rfl rfl ?_
          refine V_sipush (z := 9999) C d_Yf_row_34 rfl ?_
          refine V_iload_n C d_Yf_row_37 rfl rfl ?_
          refine V_iconst C d_Yf_row_38 rfl ?_
          refine V_isub C d_Yf_row_39 ?_
          refine V_isub C d_Yf_row_40 ?_
          refine V_icmp_le (tgt := 54) C d_Yf_row_41 (by decide) hf (by unfold inI; omega) (fun q41 => ?_) (fun q41 => ?_)
          · have hyes : kRow v f k = 0 := by unfold kRow; rw [if_neg (by omega), if_pos ⟨⟨by omega, by omega⟩, by omega, by omega⟩]
            refine V_aload_n C d_Yf_row_54 rfl rfl ?_
            refine V_iload_n C d_Yf_row_55 rfl rfl ?_
            refine V_iload_n C d_Yf_row_56 rfl rfl ?_
            refine V_callV C (c_Row_open (f1 := f) (m1 := k) hl (A.w _ h8) (A.p _ h8)) wc_Row_open w_Yf_row_57 np_Row_open (by decide) (A.w _ h8) rfl rfl (Nat.le_of_ble_eq_true rfl) d_Yf_row_57 (fun v n1 h1 hp => ?_) (fun Cx n1 h1 hp => hp.elim)
            obtain ⟨rfl, rfl, G, g1, rfl⟩ := hp
            have B := (A.setW h8 f k).setP h8 G
            refine V_aload_n C d_Yf_row_60 rfl rfl ?_
            refine V_callV C (c_Yf_keepFreeRow hl B) wc_Yf_keepFreeRow w_Yf_row_61 np_Yf_keepFreeRow (by decide) B.o rfl rfl (Nat.le_of_ble_eq_true rfl) d_Yf_row_61 (fun v n1 h1 hp => ?_) (fun Cx n1 h1 hp => hp.elim)
            obtain ⟨rfl, rfl, B2, F2⟩ := hp
            have e1 := O.rc
            exact V_ireturn C d_Yf_row_64 (by omega) (by omega) ⟨hyes, rfl, by rw [← O.rc]; rfl, ⟨_, B2, O.new h8 rfl rfl rfl (fun i hi => fu_ne _ _ hi) (fun i hi => fu_ne _ _ hi) (fun i hi => fu_ne _ _ hi) (fu_eq _ _ _) ((fu_eq _ _ _).trans (by omega)) (by show dig (fu x.PP v.rc G v.rc) 192; rw [fu_eq]; exact fun t ht => by rw [g1 t ht]; omega) (fun q hq => by show wt (fu x.PP v.rc G v.rc) q = 0; rw [fu_eq]; exact vl_zero (fun j hj => g1 _ (by omega))) rfl rfl⟩, fun j hj => (F2 j hj).trans (((FrX.rfl.set (by omega) _).set (by omega) _) j hj)⟩
          · exact V_throwS (text := "years are -9999 to 9999") C (by decide) w_Yf_row_44 xi_A xa_A xg_A (by decide +kernel) d_Yf_row_44 d_Yf_row_47 d_Yf_row_48 d_Yf_row_50 d_Yf_row_53 (fun x hx => absurd hx List.not_mem_nil) (by decide) (by omega) (by omega) (fun n' hn => ⟨Or.inr ⟨no True (by omega), rfl⟩, hn, ⟨x, A, O⟩, FrX.rfl⟩)
      · exact V_throwS (text := "a row has 1 to 48 years") C (by decide) w_Yf_row_16 xi_A xa_A xg_A (by decide +kernel) d_Yf_row_16 d_Yf_row_19 d_Yf_row_20 d_Yf_row_22 d_Yf_row_25 (fun x hx => absurd hx List.not_mem_nil) (by decide) (by omega) (by omega) (fun n' hn => ⟨Or.inr ⟨no True (by omega), rfl⟩, hn, ⟨x, A, O⟩, FrX.rfl⟩)
  · obtain ⟨h1, rfl, h3, rfl⟩ := hp
    exact VT_leave C (fun x hx => absurd hx List.not_mem_nil) (by omega) (by omega) ⟨Or.inl ⟨by unfold kRow; rw [if_pos (by omega)], rfl⟩, h3, ⟨x, A, O⟩, FrX.rfl⟩
set_option maxHeartbeats 4000000 in
theorem c_Yf_weight (hl : yL l) (hv : OkV v) (A : AtX d b x h) (O : OkX x v) {r z w : Int} (hr : inI r) (hz : inI z) (hw : inJ w) :
    yM l y_Yf_weight b_Yf_weight 6 (some .boolean) 8 160 64 512 d b n h [.ref (b + 0), vi r, vi z, vj w] (fun q n' h' => kWt v r z w = 0 ∧ n' = n ∧ q = some (vi (if v.W r.toNat (z - v.F r.toNat).toNat = w then 0 else 1)) ∧ PX d b h h' (vWt v r z w)) (tX d b n h v (fun C => (kWt v r z w = 1 ∧ C = xnI) ∨ (kWt v r z w = 2 ∧ C = xnA))) := by
  refine yM_of hl (by decide +kernel) (Nat.le_of_ble_eq_true rfl) (fun p e s m args below meth c C => ?_)
  have hrc := hv.rc
  refine V_aload_n C d_Yf_weight_0 rfl rfl ?_
  refine V_iload_n C d_Yf_weight_1 rfl rfl ?_
  refine V_iload_n C d_Yf_weight_2 rfl rfl ?_
  refine V_callV C (c_Yf_knownRowWith hl hv A O hr hz) wc_Yf_knownRowWith w_Yf_weight_3 np_Yf_knownRowWith (by decide) A.o rfl rfl (Nat.le_of_ble_eq_true rfl) d_Yf_weight_3 (fun v n1 h1 hp => ?_) (fun Cx n1 h1 hp => ?_)
  · obtain ⟨hy, rfl, rfl, rfl⟩ := hp
    have hi : r.toNat < v.rc := by have := hy.1.1; have := hy.1.2; omega
    have h8 : r.toNat < 8 := by omega
    have e1 := O.ff _ hi
    have e2 := O.fm _ hi
    have hr0 := O.row hv hi
    have hP := O.dg _ h8
    refine V_astore C d_Yf_weight_6 (by decide) rfl ?_
    refine V_lload_n C d_Yf_weight_8 rfl rfl ?_
    refine V_lconst (z := 0) C d_Yf_weight_9 rfl ?_
    refine V_lcmp C d_Yf_weight_10 hw inJ_0 ?_
    refine V_if_ge (tgt := 24) C d_Yf_weight_11 (by decide) (cz_in _ _) (fun q11 => ?_) (fun q11 => ?_)
    · have hw0 : 0 ≤ w := cz_ge.mp q11
      refine V_aload C d_Yf_weight_24 rfl ?_
      refine V_iload_n C d_Yf_weight_26 rfl rfl ?_
      refine V_aload_n C d_Yf_weight_27 rfl rfl ?_
      refine V_get C 3 4 A.o rfl in_Yf (by decide) w_Yf_weight_28 rfl rfl d_Yf_weight_28 ?_
      refine V_callV C (c_Row_read hl (A.w _ h8) (A.p _ h8) A.o1 A.p1 (by omega) hr0 hz hP) wc_Row_read w_Yf_weight_31 np_Row_read (by decide) (A.w _ h8) rfl rfl (Nat.le_of_ble_eq_true rfl) d_Yf_weight_31 (fun v n1 h1 hp => ?_) (fun Cx n1 h1 hp => hp.elim)
      obtain ⟨rfl, rfl, G, g1, g2, g3, rfl⟩ := hp
      rw [O.rd hv hi] at g3
      have B := A.set1 G
      refine V_aload_n C d_Yf_weight_34 rfl rfl ?_
      refine V_get C 3 5 B.o rfl in_Yf (by decide) w_Yf_weight_35 rfl rfl d_Yf_weight_35 ?_
      refine V_lload_n C d_Yf_weight_38 rfl rfl ?_
      refine V_callV C (c_Who_become (v := w) hl B.o2 B.p2 hw0 hw.2) wc_Who_become w_Yf_weight_39 np_Who_become (by decide) B.o2 rfl rfl (Nat.le_of_ble_eq_true rfl) d_Yf_weight_39 (fun v n1 h1 hp => ?_) (fun Cx n1 h1 hp => hp.elim)
      obtain ⟨rfl, rfl, G2, g4, g5, rfl⟩ := hp
      have B2 := B.set2 G2
      have w2 : hs (hs h1 24 (oJ d 8 G)) 26 (oJ d 8 G2) (2 + 2 * r.toNat) = some (oO 1 [vi (x.ff r.toNat), vi (x.fm r.toNat), .ref (b + (3 + 2 * r.toNat))]) := B2.w _ h8
      have p2 : hs (hs h1 24 (oJ d 8 G)) 26 (oJ d 8 G2) (3 + 2 * r.toNat) = some (oJ d 192 (x.PP r.toNat)) := B2.p _ h8
      have p2r : hs (hs h1 24 (oJ d 8 G)) 26 (oJ d 8 G2) 26 = some (oJ d 8 G2) := B2.p2
      refine V_aload C d_Yf_weight_42 rfl ?_
      refine V_iload_n C d_Yf_weight_44 rfl rfl ?_
      refine V_aload_n C d_Yf_weight_45 rfl rfl ?_
      refine V_get C 3 5 B2.o rfl in_Yf (by decide) w_Yf_weight_46 rfl rfl d_Yf_weight_46 ?_
      refine V_callV C (c_Row_write (z := z) hl w2 p2 B2.o2 p2r (by omega) hr0 (by rw [e1, e2]; exact hy.2) hP g4) wc_Row_write w_Yf_weight_49 np_Row_write (by decide) w2 rfl rfl (Nat.le_of_ble_eq_true rfl) d_Yf_weight_49 (fun v n1 h1 hp => ?_) (fun Cx n1 h1 hp => hp.elim)
      obtain ⟨rfl, rfl, G3, g6, g7, g8, rfl⟩ := hp
      have B3 := B2.setP h8 G3
      have p31 : hs (hs (hs h1 24 (oJ d 8 G)) 26 (oJ d 8 G2)) (3 + 2 * r.toNat) (oJ d 192 G3) 24 = some (oJ d 8 G) := B3.p1
      have p32 : hs (hs (hs h1 24 (oJ d 8 G)) 26 (oJ d 8 G2)) (3 + 2 * r.toNat) (oJ d 192 G3) 26 = some (oJ d 8 G2) := B3.p2
      have hs4 := vl_low g4 (show vl G2 8 < 1000000000 ^ 4 by rw [g5]; have := hw.2; omega)
      rw [← vl_high g4 hs4, g5, e1] at g7
      have hold : wY v r.toNat z = v.W r.toNat (z - v.F r.toNat).toNat := if_pos hy.2
      have hk0 : kWt v r z w = 0 := by unfold kWt; rw [if_neg (fun q => q hy), if_neg (by omega)]
      have fin : PX d b h1 (hs (hs (hs h1 24 (oJ d 8 G)) 26 (oJ d 8 G2)) (3 + 2 * r.toNat) (oJ d 192 G3)) (vWt v r z w) := by
        refine ⟨⟨_, B3, O.rc, O.rs, O.sp, O.ff, O.fm, fun i hi2 q hq => ?_, fun i hi2 => ?_, O.sa, O.sb⟩, ((FrX.rfl.set (by omega) _).set (by omega) _).set (by omega) _⟩
        · show wt (fu x.PP r.toNat G3 i) q = fu v.W r.toNat (fu (v.W r.toNat) (z - v.F r.toNat).toNat w) i q
          by_cases e3 : i = r.toNat
          · rw [e3, fu_eq, fu_eq]
            by_cases e4 : q = (z - v.F r.toNat).toNat
            · rw [e4, fu_eq, g7]
            · rw [fu_ne _ _ e4, g8 q (by rw [e1]; exact e4)]
              exact O.ww _ hi q (by rw [← e3]; exact hq)
          · rw [fu_ne _ _ e3, fu_ne _ _ e3]; exact O.ww i hi2 q hq
        · show dig (fu x.PP r.toNat G3 i) 192
          by_cases e3 : i = r.toNat
          · rw [e3, fu_eq]; exact g6
          · rw [fu_ne _ _ e3]; exact O.dg i hi2
      refine V_aload_n C d_Yf_weight_52 rfl rfl ?_
      refine V_get C 3 4 B3.o rfl in_Yf (by decide) w_Yf_weight_53 rfl rfl d_Yf_weight_53 ?_
      refine V_aload_n C d_Yf_weight_56 rfl rfl ?_
      refine V_get C 3 5 B3.o rfl in_Yf (by decide) w_Yf_weight_57 rfl rfl d_Yf_weight_57 ?_
      refine V_callV C (c_Who_order hl B3.o1 p31 B3.o2 p32 g1 g4) wc_Who_order w_Yf_weight_60 np_Who_order (by decide) B3.o1 rfl rfl (Nat.le_of_ble_eq_true rfl) d_Yf_weight_60 (fun v n1 h1 hp => ?_) (fun Cx n1 h1 hp => hp.elim)
      obtain ⟨rfl, rfl, rfl⟩ := hp
      rw [g3, hold, g5]
      refine V_if_eq (tgt := 70) C d_Yf_weight_63 (by decide) (cz_in _ _) (fun q63 => ?_) (fun q63 => ?_)
      · refine V_iconst C d_Yf_weight_70 rfl ?_
        exact V_zreturn C d_Yf_weight_71 (by omega) (by omega) (by omega) ⟨hk0, rfl, by rw [if_pos (cz_eq.mp q63)], fin⟩
      · refine V_iconst C d_Yf_weight_66 rfl ?_
        refine V_goto (tgt := 71) C d_Yf_weight_67 (by decide) ?_
        exact V_zreturn C d_Yf_weight_71 (by omega) (by omega) (by omega) ⟨hk0, rfl, by rw [if_neg (fun q => q63 (cz_eq.mpr q))], fin⟩
    · have hw0 : w < 0 := Int.not_le.mp (fun q => q11 (cz_ge.mpr q))
      exact V_throwS (text := "a weight is not below 0") C (by decide) w_Yf_weight_14 xi_A xa_A xg_A (by decide +kernel) d_Yf_weight_14 d_Yf_weight_17 d_Yf_weight_18 d_Yf_weight_20 d_Yf_weight_23 (fun x hx => absurd hx List.not_mem_nil) (by decide) (by omega) (by omega) (fun n' hn => ⟨Or.inr ⟨by unfold kWt; rw [if_neg (fun q => q hy), if_pos hw0], rfl⟩, hn, ⟨x, A, O⟩, FrX.rfl⟩)
  · obtain ⟨h1, rfl, h3, rfl⟩ := hp
    exact VT_leave C (fun x hx => absurd hx List.not_mem_nil) (by omega) (by omega) ⟨Or.inl ⟨by unfold kWt; rw [if_pos h1], rfl⟩, h3, ⟨x, A, O⟩, FrX.rfl⟩
end YfD
