theorem sel_next {W : Nat → Int} {c : Nat → Nat} {m r : Nat} (h : rkOk W c m) (hr : r < m) : selS W m (r + 1) (c r) = true ∧ (∀ z, z ≠ c r → selS W m (r + 1) z = selS W m r z) ∧ selS W m r (c r) = false := by
  obtain ⟨h1, h2⟩ := sel_rk h r (by omega)
  have h3 := h2 hr
  refine ⟨?_, fun z hz => ?_, ?_⟩
  · show (selS W m r (c r) || (pkL W (selS W m r) m == some (c r))) = true
    rw [h3]; simp
  · show (selS W m r z || (pkL W (selS W m r) m == some z)) = _
    rw [h3]
    have : (some (c r) == some z) = false := by
      rw [beq_eq_false_iff_ne]
      intro q
      exact hz (Option.some.inj q).symm
    rw [this, Bool.or_false]
  · cases hq : selS W m r (c r) with
    | false => rfl
    | true =>
      obtain ⟨i, hi, e⟩ := (h1 (c r)).mp hq
      have := rk_inj h (by omega) hr e
      omega
section YfC
variable {p : Program} {l : Launch} {e : Env} {R : Room} {s : State} {m : MethodId} {args : Array Value} {below : List Frame} {meth : Method} {c : Code} {d : yD} {b : Nat} {Q : State → Prop} {cells slots n : Nat} {h : yH}
variable {x : XS} {v : Vw}
set_option maxHeartbeats 4000000 in
theorem Yf_take_loop (C : yC p l s m args meth c y_Yf_takeUntilEnough b_Yf_takeUntilEnough 4 none [] d b) (hl : yL l) {i mm : Nat} (hi : i < 8) (hm : x.fm i = mm) (hr : rowOk (x.ff i) (x.fm i)) (hP : dig (x.PP i) 192) (hR : 3 ≤ R.frames ∧ 90 ≤ R.locals ∧ cells ≤ R.cells ∧ slots ≤ R.slots)
    {u w : Int} (hu : u ≤ w) (hw1 : 1 ≤ w) (hw2 : w ≤ 1000000) (d3 : dig x.l3 8) (v3 : vl x.l3 8 = sumW (wt (x.PP i)) mm * u) {K : Nat → Int} {cc : Nat → Nat} (hK : ∀ q, q < mm → K q = cc q) (hc : rkOk (wt (x.PP i)) cc mm)
    (kk : ∀ (r : Nat) (T G1 G2 : Nat → Int) (h' : yH) (lv : List (Nat × Value)), lsOk (wt (x.PP i)) mm u w r → (∀ z, z < mm → T z = if selS (wt (x.PP i)) mm r z = true then 1 else 0) → AtX d b ((((x.s_K K).s_T T).s_l1 G1).s_l2 G2) h' → FrX h h' → V p l e R s m args below meth c 4 d b Q cells slots n h' 95 lv []) :
    ∀ (j r : Nat) (T G1 G2 : Nat → Int) (h' : yH), r + j = mm → dig G1 8 → dig G2 8 → vl G2 8 = sumS (wt (x.PP i)) (selS (wt (x.PP i)) mm r) mm → vl G1 8 = vl G2 8 * w → (∀ z, z < mm → T z = if selS (wt (x.PP i)) mm r z = true then 1 else 0) → (∀ q, q < r → ¬ sumW (wt (x.PP i)) mm * u ≤ sumS (wt (x.PP i)) (selS (wt (x.PP i)) mm q) mm * w) → AtX d b ((((x.s_K K).s_T T).s_l1 G1).s_l2 G2) h' → FrX h h' →
      V p l e R s m args below meth c 4 d b Q cells slots n h' 26 [(0, .ref (b + 0)), (1, .ref (b + (2 + 2 * i))), (2, vi w), (3, vi r)] [] := by
  obtain ⟨r1, r2, r3, r4⟩ := id hr
  obtain ⟨R1, R2, R3, R4⟩ := hR
  intro j
  induction j with
  | zero =>
    intro r T G1 G2 h' hj d1 d2 v2 v1 hT hq B F
    have hw : h' (2 + 2 * i) = some (oO 1 [vi (x.ff i), vi (x.fm i), .ref (b + (3 + 2 * i))]) := B.w i hi
    refine V_iload_n C d_Yf_takeUntilEnough_26 rfl rfl ?_
    refine V_aload_n C d_Yf_takeUntilEnough_27 rfl rfl ?_
    refine V_getN C 1 1 hw rfl in_Row (by decide) w_Yf_takeUntilEnough_28 rfl rfl d_Yf_takeUntilEnough_28 ?_
    refine V_icmp_ge (tgt := 95) C d_Yf_takeUntilEnough_31 (by decide) (by unfold inI; omega) (by unfold inI; omega) (fun q31 => ?_) (fun q31 => ?_)
    · have e0 : r = mm := by omega
      subst e0
      refine kk r T G1 G2 _ _ ⟨Nat.le_refl _, ?_, hq⟩ hT B F
      rw [sumS_all (fun z hz => ((sel_rk hc r (Nat.le_refl _)).1 z).mpr (hc.2.2 z hz))]
      exact Int.mul_le_mul_of_nonneg_left hu (sumW_in (W := wt (x.PP i)) (B := 1000000000 ^ 4) (k := r) (fun q hq => wt_in hP (by omega))).1
    · exact absurd q31 (by omega)
  | succ j ih =>
    intro r T G1 G2 h' hj d1 d2 v2 v1 hT hq B F
    have hw : h' (2 + 2 * i) = some (oO 1 [vi (x.ff i), vi (x.fm i), .ref (b + (3 + 2 * i))]) := B.w i hi
    have p1 : h' 24 = some (oJ d 8 G1) := B.p1
    have p3 : h' 28 = some (oJ d 8 x.l3) := B.p3
    refine V_iload_n C d_Yf_takeUntilEnough_26 rfl rfl ?_
    refine V_aload_n C d_Yf_takeUntilEnough_27 rfl rfl ?_
    refine V_getN C 1 1 hw rfl in_Row (by decide) w_Yf_takeUntilEnough_28 rfl rfl d_Yf_takeUntilEnough_28 ?_
    refine V_icmp_ge (tgt := 95) C d_Yf_takeUntilEnough_31 (by decide) (by unfold inI; omega) (by unfold inI; omega) (fun q31 => ?_) (fun q31 => ?_)
    · exact absurd q31 (by omega)
    · refine V_aload_n C d_Yf_takeUntilEnough_34 rfl rfl ?_
      refine V_get C 3 4 B.o rfl in_Yf (by decide) w_Yf_takeUntilEnough_35 rfl rfl d_Yf_takeUntilEnough_35 ?_
      refine V_aload_n C d_Yf_takeUntilEnough_38 rfl rfl ?_
      refine V_get C 3 6 B.o rfl in_Yf (by decide) w_Yf_takeUntilEnough_39 rfl rfl d_Yf_takeUntilEnough_39 ?_
      refine V_callV C (c_Who_order hl B.o1 p1 B.o3 p3 d1 d3) wc_Who_order w_Yf_takeUntilEnough_42 np_Who_order ⟨by omega, by omega, R3, R4⟩ B.o1 rfl rfl (Nat.le_of_ble_eq_true rfl) d_Yf_takeUntilEnough_42 (fun v n1 h1 hp => ?_) (fun Cx n1 h1 hp => hp.elim)
      obtain ⟨rfl, rfl, rfl⟩ := hp
      refine V_if_ge (tgt := 95) C d_Yf_takeUntilEnough_45 (by decide) (cz_in _ _) (fun q45 => ?_) (fun q45 => ?_)
      · have := cz_ge.mp q45
        exact kk r T G1 G2 _ _ ⟨by omega, by rw [← v3, ← v2, ← v1]; exact this, hq⟩ hT B F
      · have hno : ¬ sumW (wt (x.PP i)) mm * u ≤ sumS (wt (x.PP i)) (selS (wt (x.PP i)) mm r) mm * w := fun q => q45 (cz_ge.mpr (by rw [v3, v1, v2]; exact q))
        have hcr := hc.1 r (by omega)
        obtain ⟨N1, N2, N3⟩ := sel_next hc (show r < mm by omega)
        have k0 : h1 19 = some (oI d 48 K) := B.k
        have t0 : h1 20 = some (oZ d 48 T) := B.t
        refine V_aload_n C d_Yf_takeUntilEnough_48 rfl rfl ?_
        refine V_aload_n C d_Yf_takeUntilEnough_49 rfl rfl ?_
        refine V_get C 3 3 B.o rfl in_Yf (by decide) w_Yf_takeUntilEnough_50 rfl rfl d_Yf_takeUntilEnough_50 ?_
        refine V_aload_n C d_Yf_takeUntilEnough_53 rfl rfl ?_
        refine V_iload_n C d_Yf_takeUntilEnough_54 rfl rfl ?_
        refine V_callV C (c_Set_take (x := cc r) hl B.s k0 t0 hw (by omega) (hK r (by omega)) (by omega)) wc_Set_take w_Yf_takeUntilEnough_55 np_Set_take ⟨by omega, by omega, R3, R4⟩ B.s rfl rfl (Nat.le_of_ble_eq_true rfl) d_Yf_takeUntilEnough_55 (fun v n1 h1 hp => ?_) (fun Cx n1 h1 hp => hp.elim)
        obtain ⟨rfl, rfl, rfl⟩ := hp
        have B2 := B.setT (fu T (cc r) 1)
        have hw2' : hs h1 20 (oZ d 48 (fu T (cc r) 1)) (2 + 2 * i) = some (oO 1 [vi (x.ff i), vi (x.fm i), .ref (b + (3 + 2 * i))]) := B2.w i hi
        have hp2' : hs h1 20 (oZ d 48 (fu T (cc r) 1)) (3 + 2 * i) = some (oJ d 192 (x.PP i)) := B2.p i hi
        refine V_aload_n C d_Yf_takeUntilEnough_58 rfl rfl ?_
        refine V_get C 3 4 B2.o rfl in_Yf (by decide) w_Yf_takeUntilEnough_59 rfl rfl d_Yf_takeUntilEnough_59 ?_
        refine V_callV C (c_Row_read (z := x.ff i + (cc r : Nat)) hl hw2' hp2' B2.o1 B2.p1 (by omega) hr (by unfold inI; omega) hP) wc_Row_read w_Yf_takeUntilEnough_62 np_Row_read ⟨by omega, by omega, R3, R4⟩ hw2' rfl rfl (Nat.le_of_ble_eq_true rfl) d_Yf_takeUntilEnough_62 (fun v n1 h1 hp => ?_) (fun Cx n1 h1 hp => hp.elim)
        obtain ⟨rfl, rfl, G, g1, g2, g3, rfl⟩ := hp
        rw [if_pos (by omega), show (x.ff i + ((cc r : Nat) : Int) - x.ff i).toNat = cc r by omega] at g3
        have B3 := B2.set1 G
        have p31 : hs (hs h1 20 (oZ d 48 (fu T (cc r) 1))) 24 (oJ d 8 G) 24 = some (oJ d 8 G) := B3.p1
        have p32 : hs (hs h1 20 (oZ d 48 (fu T (cc r) 1))) 24 (oJ d 8 G) 26 = some (oJ d 8 G2) := B3.p2
        have w1 := wt_in hP (show cc r < 48 by omega)
        have s1 := sumS_in (W := wt (x.PP i)) (S := selS (wt (x.PP i)) mm r) (B := 1000000000 ^ 4) (k := mm) (fun q hq => wt_in hP (by omega))
        have s2 := sumS_in (W := wt (x.PP i)) (S := selS (wt (x.PP i)) mm (r + 1)) (B := 1000000000 ^ 4) (k := mm) (fun q hq => wt_in hP (by omega))
        have ea := sumS_add (W := wt (x.PP i)) N3 N1 N2 mm
        rw [if_pos hcr] at ea
        refine V_aload_n C d_Yf_takeUntilEnough_65 rfl rfl ?_
        refine V_get C 3 5 B3.o rfl in_Yf (by decide) w_Yf_takeUntilEnough_66 rfl rfl d_Yf_takeUntilEnough_66 ?_
        refine V_aload_n C d_Yf_takeUntilEnough_69 rfl rfl ?_
        refine V_get C 3 4 B3.o rfl in_Yf (by decide) w_Yf_takeUntilEnough_70 rfl rfl d_Yf_takeUntilEnough_70 ?_
        refine V_callV C (c_Who_increase hl B3.o2 p32 B3.o1 p31 (by omega) d2 g1 (by rw [v2, g3]; omega)) wc_Who_increase w_Yf_takeUntilEnough_73 np_Who_increase ⟨by omega, by omega, R3, R4⟩ B3.o2 rfl rfl (Nat.le_of_ble_eq_true rfl) d_Yf_takeUntilEnough_73 (fun v n1 h1 hp => ?_) (fun Cx n1 h1 hp => hp.elim)
        obtain ⟨rfl, rfl, G4, g4, g5, rfl⟩ := hp
        rw [v2, g3, ← ea] at g5
        have B4 := B3.set2 G4
        have p42 : hs (hs (hs h1 20 (oZ d 48 (fu T (cc r) 1))) 24 (oJ d 8 G)) 26 (oJ d 8 G4) 26 = some (oJ d 8 G4) := B4.p2
        have hsm : vl G4 8 * w < 1000000000 ^ 8 := by
          rw [g5]
          have := Int.mul_le_mul (show sumS (wt (x.PP i)) (selS (wt (x.PP i)) mm (r + 1)) mm ≤ 48 * 1000000000 ^ 4 by omega) hw2 (by omega) (by omega)
          omega
        refine V_aload_n C d_Yf_takeUntilEnough_76 rfl rfl ?_
        refine V_get C 3 4 B4.o rfl in_Yf (by decide) w_Yf_takeUntilEnough_77 rfl rfl d_Yf_takeUntilEnough_77 ?_
        refine V_aload_n C d_Yf_takeUntilEnough_80 rfl rfl ?_
        refine V_get C 3 5 B4.o rfl in_Yf (by decide) w_Yf_takeUntilEnough_81 rfl rfl d_Yf_takeUntilEnough_81 ?_
        refine V_iload_n C d_Yf_takeUntilEnough_84 rfl rfl ?_
        refine V_i2l C d_Yf_takeUntilEnough_85 (by unfold inI; omega) ?_
        refine V_callV C (c_Who_becomeScaled hl B4.o1 B4.p1 B4.o2 p42 (by omega) g4 (by omega) (by omega) hsm) wc_Who_becomeScaled w_Yf_takeUntilEnough_86 np_Who_becomeScaled ⟨by omega, by omega, R3, R4⟩ B4.o1 rfl rfl (Nat.le_of_ble_eq_true rfl) d_Yf_takeUntilEnough_86 (fun v n1 h1 hp => ?_) (fun Cx n1 h1 hp => hp.elim)
        obtain ⟨rfl, rfl, G5, g6, g7, rfl⟩ := hp
        have B5 := B4.set1 G5
        refine V_iinc C d_Yf_takeUntilEnough_89 rfl rfl (by decide) rfl ?_
        refine V_goto (tgt := 26) C d_Yf_takeUntilEnough_92 (by decide) ?_
        refine V_loc2 (ih (r + 1) (fu T (cc r) 1) G5 G4 _ (by omega) g6 g4 g5 g7 (fun z hz => ?_) (fun q hq1 => ?_) B5 ((((F.set (by omega) _).set (by omega) _).set (by omega) _).set (by omega) _)) ⟨rfl, rfl, rfl, rfl, trivial⟩
        · by_cases e1 : z = cc r
          · rw [e1, fu_eq, N1, if_pos rfl]
          · rw [fu_ne _ _ e1, N2 z e1]; exact hT z hz
        · by_cases e1 : q = r
          · rw [e1]; exact hno
          · exact hq q (by omega)
set_option maxHeartbeats 4000000 in
theorem c_Yf_takeUntilEnough (hl : yL l) (A : AtX d b x h) {i mm : Nat} (hi : i < 8) (hm : x.fm i = mm) (hr : rowOk (x.ff i) (x.fm i)) (hP : dig (x.PP i) 192) {u w : Int} (hu : u ≤ w) (hw1 : 1 ≤ w) (hw2 : w ≤ 1000000) (d3 : dig x.l3 8) (v3 : vl x.l3 8 = sumW (wt (x.PP i)) mm * u) :
    yM l y_Yf_takeUntilEnough b_Yf_takeUntilEnough 4 none 3 90 0 0 d b n h [.ref (b + 0), .ref (b + (2 + 2 * i)), vi w] (fun q n' h' => q = none ∧ n' = n ∧ FrX h h' ∧ ∃ (r : Nat) (K T G1 G2 : Nat → Int), lsOk (wt (x.PP i)) mm u w r ∧ (∀ z, z < mm → T z = if selS (wt (x.PP i)) mm r z = true then 1 else 0) ∧ AtX d b ((((x.s_K K).s_T T).s_l1 G1).s_l2 G2) h') noT := by
  refine yM_of hl (by decide +kernel) (Nat.le_of_ble_eq_true rfl) (fun p e s m args below meth c C => ?_)
  obtain ⟨r1, r2, r3, r4⟩ := id hr
  have hw : h (2 + 2 * i) = some (oO 1 [vi (x.ff i), vi mm, .ref (b + (3 + 2 * i))]) := by rw [← hm]; exact A.w i hi
  refine V_aload_n C d_Yf_takeUntilEnough_0 rfl rfl ?_
  refine V_get C 3 3 A.o rfl in_Yf (by decide) w_Yf_takeUntilEnough_1 rfl rfl d_Yf_takeUntilEnough_1 ?_
  refine V_aload_n C d_Yf_takeUntilEnough_4 rfl rfl ?_
  refine V_callV C (c_Set_rank hl A.s A.k A.t (by omega) hw (A.p i hi) hP (by omega)) wc_Set_rank w_Yf_takeUntilEnough_5 np_Set_rank (by decide) A.s rfl rfl (Nat.le_of_ble_eq_true rfl) d_Yf_takeUntilEnough_5 (fun v n1 h1 hp => ?_) (fun Cx n1 h1 hp => hp.elim)
  obtain ⟨rfl, rfl, K, T, cc, k1, k2, k3, rfl⟩ := hp
  have B := (A.setK K).setT T
  refine V_aload_n C d_Yf_takeUntilEnough_8 rfl rfl ?_
  refine V_get C 3 5 B.o rfl in_Yf (by decide) w_Yf_takeUntilEnough_9 rfl rfl d_Yf_takeUntilEnough_9 ?_
  refine V_lconst (z := 0) C d_Yf_takeUntilEnough_12 rfl ?_
  refine V_callV C (c_Who_become (v := 0) hl B.o2 B.p2 (by omega) (by omega)) wc_Who_become w_Yf_takeUntilEnough_13 np_Who_become (by decide) B.o2 rfl rfl (Nat.le_of_ble_eq_true rfl) d_Yf_takeUntilEnough_13 (fun v n1 h1 hp => ?_) (fun Cx n1 h1 hp => hp.elim)
  obtain ⟨rfl, rfl, G2, g1, g2, rfl⟩ := hp
  have B2 := B.set2 G2
  refine V_aload_n C d_Yf_takeUntilEnough_16 rfl rfl ?_
  refine V_get C 3 4 B2.o rfl in_Yf (by decide) w_Yf_takeUntilEnough_17 rfl rfl d_Yf_takeUntilEnough_17 ?_
  refine V_lconst (z := 0) C d_Yf_takeUntilEnough_20 rfl ?_
  refine V_callV C (c_Who_become (v := 0) hl B2.o1 B2.p1 (by omega) (by omega)) wc_Who_become w_Yf_takeUntilEnough_21 np_Who_become (by decide) B2.o1 rfl rfl (Nat.le_of_ble_eq_true rfl) d_Yf_takeUntilEnough_21 (fun v n1 h1 hp => ?_) (fun Cx n1 h1 hp => hp.elim)
  obtain ⟨rfl, rfl, G1, g3, g4, rfl⟩ := hp
  have B3 := B2.set1 G1
  have z0 : sumS (wt (x.PP i)) (selS (wt (x.PP i)) mm 0) mm = 0 := by
    have : ∀ k, sumS (wt (x.PP i)) (selS (wt (x.PP i)) mm 0) k = 0 := fun k => by
      induction k with
      | zero => rfl
      | succ k ih =>
        show sumS _ _ k + (if selS (wt (x.PP i)) mm 0 k = true then _ else 0) = 0
        rw [ih, if_neg (by show ¬ false = true; decide)]
        rfl
    exact this mm
  refine V_iconst C d_Yf_takeUntilEnough_24 rfl ?_
  refine V_istore_n C d_Yf_takeUntilEnough_25 rfl (by decide) rfl ?_
  refine V_loc2 (Yf_take_loop (x := x) (u := u) C hl hi hm hr hP (by decide) hu hw1 hw2 d3 v3 k1 k2 (fun r T G1 G2 h' lv c1 c2 c3 c4 => ?_) mm 0 T G1 G2 _ (by omega) g3 g1 (by rw [g2, z0]) (by rw [g4, g2, Int.zero_mul]) (fun z hz => by rw [k3 z hz, if_neg (by show ¬ false = true; decide)]) (fun q hq => absurd hq (by omega)) B3 ((((FrX.rfl.set (by omega) _).set (by omega) _).set (by omega) _).set (by omega) _)) ⟨rfl, rfl, rfl, rfl, trivial⟩
  exact V_return C d_Yf_takeUntilEnough_95 (Nat.le_refl _) (Nat.le_refl _) ⟨rfl, rfl, c4, r, K, T, G1, G2, c1, c2, c3⟩
end YfC
