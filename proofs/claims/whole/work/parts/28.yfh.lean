section YfH
variable {p : Program} {l : Launch} {e : Env} {R : Room} {s : State} {m : MethodId} {args : Array Value} {below : List Frame} {meth : Method} {c : Code} {d : yD} {b : Nat} {Q : State → Prop} {cells slots n : Nat} {h : yH}
variable {x : XS} {v : Vw}
theorem OkX.sK (O : OkX x v) (G : Nat → Int) : OkX (x.s_K G) v := O
theorem OkX.sT (O : OkX x v) (G : Nat → Int) : OkX (x.s_T G) v := O
theorem AtX.spans (B : AtX d b x h) {h' : yH} {k : Nat} {P Q : Nat → Int} (g1 : h' 18 = some (oO 0 [.ref (b + 19), .ref (b + 20), vi k, .ref (b + 21), .ref (b + 22)])) (g2 : h' 21 = some (oI d 24 P)) (g3 : h' 22 = some (oI d 24 Q)) (g4 : ∀ j, j ≠ 18 → j ≠ 21 → j ≠ 22 → h' j = h j) : AtX d b (((x.s_sp k).s_A P).s_B Q) h' :=
  ⟨(g4 0 (by omega) (by omega) (by omega)).trans B.o, (g4 1 (by omega) (by omega) (by omega)).trans B.r, g1, (g4 19 (by omega) (by omega) (by omega)).trans B.k, (g4 20 (by omega) (by omega) (by omega)).trans B.t, g2, g3, (g4 23 (by omega) (by omega) (by omega)).trans B.o1, (g4 24 (by omega) (by omega) (by omega)).trans B.p1, (g4 25 (by omega) (by omega) (by omega)).trans B.o2, (g4 26 (by omega) (by omega) (by omega)).trans B.p2, (g4 27 (by omega) (by omega) (by omega)).trans B.o3, (g4 28 (by omega) (by omega) (by omega)).trans B.p3, fun i hi => (g4 _ (by omega) (by omega) (by omega)).trans (B.w i hi), fun i hi => (g4 _ (by omega) (by omega) (by omega)).trans (B.p i hi)⟩
theorem OkX.spans (O : OkX x v) {r k : Nat} (hr : r < v.rc) {S : Nat → Bool} (hS : S = selS (v.W r) (v.M r) k) : OkX (((x.s_sp (spN S (v.M r))).s_A (spA S (v.F r) x.A (v.M r))).s_B (spB S (v.F r) x.B (v.M r))) (vLs v r k) := by
  subst hS
  exact ⟨O.rc, O.rs, rfl, O.ff, O.fm, O.ww, O.dg, fun j hj => spA_congr (fun _ _ => rfl) j hj, fun j hj => spB_congr (fun _ _ => rfl) j hj⟩
set_option maxHeartbeats 1000000 in
theorem c_Yf_least (hl : yL l) (hv : OkV v) (A : AtX d b x h) (O : OkX x v) {r u w : Int} (hr : inI r) (hu : inI u) (hw : inI w) :
    yM l y_Yf_least b_Yf_least 5 (some .int) 8 160 64 512 d b n h [.ref (b + 0), vi r, vi u, vi w] (fun q n' h' => kLs v r u w = 0 ∧ n' = n ∧ ∃ k, lsOk (v.W r.toNat) (v.M r.toNat) u w k ∧ q = some (vi (vLs v r.toNat k).sn) ∧ PX d b h h' (vLs v r.toNat k)) (tX d b n h v (fun C => (kLs v r u w = 1 ∧ C = xnI) ∨ (kLs v r u w = 2 ∧ C = xnA) ∨ (kLs v r u w = 3 ∧ C = xnM))) := by
  refine yM_of hl (by decide +kernel) (Nat.le_of_ble_eq_true rfl) (fun p e s m args below meth c C => ?_)
  have hrc := hv.rc
  refine V_aload_n C d_Yf_least_0 rfl rfl ?_
  refine V_iload_n C d_Yf_least_1 rfl rfl ?_
  refine V_callV C (c_Yf_knownRow hl hv A O hr) wc_Yf_knownRow w_Yf_least_2 np_Yf_knownRow (by decide) A.o rfl rfl (Nat.le_of_ble_eq_true rfl) d_Yf_least_2 (fun v n1 h1 hp => ?_) (fun Cx n1 h1 hp => ?_)
  · obtain ⟨hy, rfl, rfl, rfl⟩ := hp
    have hi : r.toNat < v.rc := by have := hy.1; have := hy.2; omega
    have h8 : r.toNat < 8 := by omega
    have no : ∀ q : Prop, ¬ ((1 ≤ w ∧ w ≤ 1000000) ∧ 0 ≤ u ∧ u ≤ w) → kLs v r u w = 2 := fun _ q => by unfold kLs; rw [if_neg (fun q => q hy), if_pos q]
    obtain ⟨r1, r2, r3, r4⟩ := hv.ok _ hi
    refine V_astore C d_Yf_least_5 (by decide) rfl ?_
    refine V_iload_n C d_Yf_least_7 rfl rfl ?_
    refine V_iconst C d_Yf_least_8 rfl ?_
    refine V_icmp_lt (tgt := 18) C d_Yf_least_9 (by decide) hw (by unfold inI; omega) (fun q9 => ?_) (fun q9 => ?_)
    · exact V_throwS (text := "below is 1 to 1000000") C (by decide) w_Yf_least_18 xi_A xa_A xg_A (by decide +kernel) d_Yf_least_18 d_Yf_least_21 d_Yf_least_22 d_Yf_least_24 d_Yf_least_27 (fun x hx => absurd hx List.not_mem_nil) (by decide) (by omega) (by omega) (fun n' hn => ⟨Or.inr (Or.inl ⟨no True (by omega), rfl⟩), hn, ⟨x, A, O⟩, FrX.rfl⟩)
    · refine V_iload_n C d_Yf_least_12 rfl rfl ?_
      refine V_ldc (z := 1000000) C w_Yf_least_13 rfl d_Yf_least_13 ?_
      refine V_icmp_le (tgt := 28) C d_Yf_least_15 (by decide) hw (by unfold inI; omega) (fun q15 => ?_) (fun q15 => ?_)
      · refine V_iload_n C d_Yf_least_28 rfl rfl ?_
        refine V_if_lt (tgt := 37) C d_Yf_least_29 (by decide) hu (fun q29 => ?_) (fun q29 => ?_)
        · exact V_throwS (text := "above is 0 to below") C (by decide) w_Yf_least_37 xi_A xa_A xg_A (by decide +kernel) d_Yf_least_37 d_Yf_least_40 d_Yf_least_41 d_Yf_least_43 d_Yf_least_46 (fun x hx => absurd hx List.not_mem_nil) (by decide) (by omega) (by omega) (fun n' hn => ⟨Or.inr (Or.inl ⟨no True (by omega), rfl⟩), hn, ⟨x, A, O⟩, FrX.rfl⟩)
        · refine V_iload_n C d_Yf_least_32 rfl rfl ?_
          refine V_iload_n C d_Yf_least_33 rfl rfl ?_
          refine V_icmp_le (tgt := 47) C d_Yf_least_34 (by decide) hu hw (fun q34 => ?_) (fun q34 => ?_)
          · refine V_aload C d_Yf_least_47 rfl ?_
            refine V_aload_n C d_Yf_least_49 rfl rfl ?_
            refine V_get C 3 4 A.o rfl in_Yf (by decide) w_Yf_least_50 rfl rfl d_Yf_least_50 ?_
            refine V_aload_n C d_Yf_least_53 rfl rfl ?_
            refine V_get C 3 5 A.o rfl in_Yf (by decide) w_Yf_least_54 rfl rfl d_Yf_least_54 ?_
            refine V_callS C (c_Yf_gather hl A h8 (O.fm _ hi) (O.row hv hi) (O.dg _ h8)) wc_Yf_gather w_Yf_least_57 np_Yf_gather (by decide) rfl (Nat.le_of_ble_eq_true rfl) d_Yf_least_57 (fun v n1 h1 hp => ?_) (fun Cx n1 h1 hp => hp.elim)
            obtain ⟨rfl, rfl, F, G1, G2, g1, g2, B⟩ := hp
            rw [sumW_congr (O.ww _ hi)] at g2
            have p1 : h1 24 = some (oJ d 8 G1) := B.p1
            have O2 := (O.s1 G1).s2 G2
            generalize (x.s_l1 G1).s_l2 G2 = x2 at B O2
            have sm := sumW_in (W := v.W r.toNat) (B := 1000000000 ^ 4) (k := v.M r.toNat) (hv.ww _ hi)
            refine V_aload_n C d_Yf_least_60 rfl rfl ?_
            refine V_get C 3 4 B.o rfl in_Yf (by decide) w_Yf_least_61 rfl rfl d_Yf_least_61 ?_
            refine V_callV C (c_Who_isZero hl B.o1 p1 g1) wc_Who_isZero w_Yf_least_64 np_Who_isZero (by decide) B.o1 rfl rfl (Nat.le_of_ble_eq_true rfl) d_Yf_least_64 (fun v n1 h1 hp => ?_) (fun Cx n1 h1 hp => hp.elim)
            obtain ⟨rfl, rfl, rfl⟩ := hp
            rw [g2]
            refine V_if_eq (tgt := 80) C d_Yf_least_67 (by decide) (by unfold inI; split <;> omega) (fun q67 => ?_) (fun q67 => ?_)
            · have hnz : ¬ sumW (v.W r.toNat) (v.M r.toNat) = 0 := fun q => by rw [if_pos q] at q67; omega
              have k0 : kLs v r u w = 0 := by unfold kLs; rw [if_neg (fun q => q hy), if_neg (by omega), if_neg hnz]
              have hsm : vl G1 8 * u < 1000000000 ^ 8 := by
                rw [g2]
                have := Int.mul_le_mul (show sumW (v.W r.toNat) (v.M r.toNat) ≤ 48 * 1000000000 ^ 4 by omega) (show u ≤ 1000000 by omega) (by omega) (by omega)
                omega
              refine V_aload_n C d_Yf_least_80 rfl rfl ?_
              refine V_get C 3 6 B.o rfl in_Yf (by decide) w_Yf_least_81 rfl rfl d_Yf_least_81 ?_
              refine V_aload_n C d_Yf_least_84 rfl rfl ?_
              refine V_get C 3 4 B.o rfl in_Yf (by decide) w_Yf_least_85 rfl rfl d_Yf_least_85 ?_
              refine V_iload_n C d_Yf_least_88 rfl rfl ?_
              refine V_i2l C d_Yf_least_89 hu ?_
              refine V_callV C (c_Who_becomeScaled hl B.o3 B.p3 B.o1 p1 (by omega) g1 (by omega) (by omega) hsm) wc_Who_becomeScaled w_Yf_least_90 np_Who_becomeScaled (by decide) B.o3 rfl rfl (Nat.le_of_ble_eq_true rfl) d_Yf_least_90 (fun v n1 h1 hp => ?_) (fun Cx n1 h1 hp => hp.elim)
              obtain ⟨rfl, rfl, G3, g3, g4, rfl⟩ := hp
              have B3 := B.set3 G3
              have O3 := O2.s3 G3
              have e3 : (x2.s_l3 G3).l3 = G3 := rfl
              generalize x2.s_l3 G3 = x3 at B3 O3 e3
              refine V_aload_n C d_Yf_least_93 rfl rfl ?_
              refine V_aload C d_Yf_least_94 rfl ?_
              refine V_iload_n C d_Yf_least_96 rfl rfl ?_
              refine V_callV C (c_Yf_takeUntilEnough (u := u) (w := w) hl B3 h8 (O3.fm _ hi) (O3.row hv hi) (O3.dg _ h8) (by omega) (by omega) (by omega) (by rw [e3]; exact g3) (by rw [e3, g4, g2, sumW_congr (O3.ww _ hi)])) wc_Yf_takeUntilEnough w_Yf_least_97 np_Yf_takeUntilEnough (by decide) B3.o rfl rfl (Nat.le_of_ble_eq_true rfl) d_Yf_least_97 (fun w0 n2 h2 hp => ?_) (fun Cx n1 h1 hp => hp.elim)
              obtain ⟨rfl, rfl, F4, k, K, T, H1, H2, c1, c2, B4⟩ := hp
              have t4 : h2 20 = some (oZ d 48 T) := B4.t
              have O4 := (((O3.sK K).sT T).s1 H1).s2 H2
              have hwr : h2 (2 + 2 * r.toNat) = some (oO 1 [vi (v.F r.toNat), vi (v.M r.toNat), .ref (b + (3 + 2 * r.toNat))]) := by
                have := B4.w _ h8
                rw [O4.ff _ hi, O4.fm _ hi] at this
                exact this
              generalize (((x3.s_K K).s_T T).s_l1 H1).s_l2 H2 = x4 at B4 O4
              have c3 := lsOk_congr (O3.ww _ hi) c1
              rw [selS_congr (O3.ww _ hi)] at c2
              refine V_aload_n C d_Yf_least_100 rfl rfl ?_
              refine V_get C 3 3 B4.o rfl in_Yf (by decide) w_Yf_least_101 rfl rfl d_Yf_least_101 ?_
              refine V_aload C d_Yf_least_104 rfl ?_
              refine V_callV C (c_Set_findSpans hl (by omega) (by omega) (by omega) (by omega) B4.s t4 B4.a B4.c hwr (by omega) c2) wc_Set_findSpans w_Yf_least_106 np_Set_findSpans (by decide) B4.s rfl rfl (Nat.le_of_ble_eq_true rfl) d_Yf_least_106 (fun w0 n3 h3 hp => ?_) (fun Cx n1 h1 hp => hp.elim)
              obtain ⟨rfl, rfl, s1, s2, s3, s4⟩ := hp
              have B5 := B4.spans s1 s2 s3 s4
              have O5 := O4.spans (k := k) hi rfl
              refine V_aload_n C d_Yf_least_109 rfl rfl ?_
              refine V_get C 3 3 B5.o rfl in_Yf (by decide) w_Yf_least_110 rfl rfl d_Yf_least_110 ?_
              refine V_getN C 0 2 B5.s rfl in_Set (by decide) w_Yf_least_113 rfl rfl d_Yf_least_113 ?_
              exact V_ireturn C d_Yf_least_116 (by omega) (by omega) ⟨k0, rfl, k, c3, rfl, ⟨_, B5, O5⟩, fun j hj => (s4 j (by omega) (by omega) (by omega)).trans ((F4 j hj).trans ((F.set (by omega) _) j hj))⟩
            · have hz : sumW (v.W r.toNat) (v.M r.toNat) = 0 := by
                by_cases q : sumW (v.W r.toNat) (v.M r.toNat) = 0
                · exact q
                · rw [if_neg q] at q67; exact absurd rfl q67
              exact V_throwS (text := "all weights of the row are 0") C (by decide) w_Yf_least_70 xi_M xa_M xg_M (by decide +kernel) d_Yf_least_70 d_Yf_least_73 d_Yf_least_74 d_Yf_least_76 d_Yf_least_79 (fun x hx => absurd hx List.not_mem_nil) (by decide) (by omega) (by omega) (fun n' hn => ⟨Or.inr (Or.inr ⟨by unfold kLs; rw [if_neg (fun q => q hy), if_neg (by omega), if_pos hz], rfl⟩), hn, ⟨x2, B, O2⟩, F⟩)
          · exact V_throwS (text := "above is 0 to below") C (by decide) w_Yf_least_37 xi_A xa_A xg_A (by decide +kernel) d_Yf_least_37 d_Yf_least_40 d_Yf_least_41 d_Yf_least_43 d_Yf_least_46 (fun x hx => absurd hx List.not_mem_nil) (by decide) (by omega) (by omega) (fun n' hn => ⟨Or.inr (Or.inl ⟨no True (by omega), rfl⟩), hn, ⟨x, A, O⟩, FrX.rfl⟩)
      · exact V_throwS (text := "below is 1 to 1000000") C (by decide) w_Yf_least_18 xi_A xa_A xg_A (by decide +kernel) d_Yf_least_18 d_Yf_least_21 d_Yf_least_22 d_Yf_least_24 d_Yf_least_27 (fun x hx => absurd hx List.not_mem_nil) (by decide) (by omega) (by omega) (fun n' hn => ⟨Or.inr (Or.inl ⟨no True (by omega), rfl⟩), hn, ⟨x, A, O⟩, FrX.rfl⟩)
  · obtain ⟨h1, rfl, h3, rfl⟩ := hp
    exact VT_leave C (fun x hx => absurd hx List.not_mem_nil) (by omega) (by omega) ⟨Or.inl ⟨by unfold kLs; rw [if_pos h1], rfl⟩, h3, ⟨x, A, O⟩, FrX.rfl⟩
end YfH
