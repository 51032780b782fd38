/-- how many weights are not 0 -/
def nzW (W : Nat → Int) : Nat → Nat
  | 0 => 0
  | k + 1 => if W k = 0 then nzW W k else nzW W k + 1
theorem nzW_le (W : Nat → Int) : ∀ k, nzW W k ≤ k
  | 0 => Nat.le_refl _
  | k + 1 => by
    have := nzW_le W k
    show (if W k = 0 then nzW W k else nzW W k + 1) ≤ k + 1
    split <;> omega
theorem sumS_all {W : Nat → Int} {S : Nat → Bool} : ∀ {k}, (∀ x, x < k → S x = true) → sumS W S k = sumW W k
  | 0, _ => rfl
  | k + 1, h => by
    show sumS W S k + (if S k = true then W k else 0) = sumW W k + W k
    rw [if_pos (h k (by omega)), sumS_all (fun x hx => h x (by omega))]
theorem sumW_congr {W W' : Nat → Int} : ∀ {k}, (∀ x, x < k → W x = W' x) → sumW W k = sumW W' k
  | 0, _ => rfl
  | k + 1, h => by
    show sumW W k + W k = sumW W' k + W' k
    rw [h k (by omega), sumW_congr (fun x hx => h x (by omega))]
section YfB
variable {p : Program} {l : Launch} {e : Env} {R : Room} {s : State} {m : MethodId} {args : Array Value} {below : List Frame} {meth : Method} {c : Code} {d : yD} {b : Nat} {Q : State → Prop} {cells slots n : Nat} {h : yH}
variable {x : XS} {v : Vw}
set_option maxHeartbeats 4000000 in
theorem Yf_gather_loop (C : yC p l s m args meth c y_Yf_gather b_Yf_gather 4 none [] d b) (hl : yL l) {i mm : Nat} (hi : i < 8) (hm : x.fm i = mm) (hr : rowOk (x.ff i) (x.fm i)) (hP : dig (x.PP i) 192) (hR : 3 ≤ R.frames ∧ 90 ≤ R.locals ∧ cells ≤ R.cells ∧ slots ≤ R.slots)
    (kk : ∀ (G1 G2 : Nat → Int) (h' : yH) (lv : List (Nat × Value)), dig G1 8 → vl G1 8 = sumW (wt (x.PP i)) mm → AtX d b ((x.s_l1 G1).s_l2 G2) h' → FrX h h' → V p l e R s m args below meth c 4 d b Q cells slots n h' 35 lv []) :
    ∀ (j t : Nat) (G1 G2 : Nat → Int) (h' : yH), t + j = mm → dig G1 8 → vl G1 8 = sumW (wt (x.PP i)) t → AtX d b ((x.s_l1 G1).s_l2 G2) h' → FrX h h' → V p l e R s m args below meth c 4 d b Q cells slots n h' 10 [(0, .ref (b + (2 + 2 * i))), (1, .ref (b + 23)), (2, .ref (b + 25)), (3, vi (x.ff i + t))] [] := by
  obtain ⟨r1, r2, r3, r4⟩ := id hr
  obtain ⟨R1, R2, R3, R4⟩ := hR
  intro j
  induction j with
  | zero =>
    intro t G1 G2 h' hj d1 v1 B F
    have hw : h' (2 + 2 * i) = some (oO 1 [vi (x.ff i), vi (x.fm i), .ref (b + (3 + 2 * i))]) := B.w i hi
    refine V_iload_n C d_Yf_gather_10 rfl rfl ?_
    refine V_aload_n C d_Yf_gather_11 rfl rfl ?_
    refine V_callV C (c_Row_last hl hw) wc_Row_last w_Yf_gather_12 np_Row_last ⟨by omega, by omega, R3, R4⟩ hw rfl rfl (Nat.le_of_ble_eq_true rfl) d_Yf_gather_12 (fun v n1 h1 hp => ?_) (fun Cx n1 h1 hp => hp.elim)
    obtain ⟨rfl, rfl, rfl⟩ := hp
    refine V_icmp_gt (tgt := 35) C d_Yf_gather_15 (by decide) (by unfold inI; omega) (by unfold inI; omega) (fun q15 => ?_) (fun q15 => ?_)
    · have e0 : t = mm := by omega
      subst e0
      exact kk G1 G2 _ _ d1 v1 B F
    · exact absurd q15 (by omega)
  | succ j ih =>
    intro t G1 G2 h' hj d1 v1 B F
    have hw : h' (2 + 2 * i) = some (oO 1 [vi (x.ff i), vi (x.fm i), .ref (b + (3 + 2 * i))]) := B.w i hi
    have hpp : h' (3 + 2 * i) = some (oJ d 192 (x.PP i)) := B.p i hi
    refine V_iload_n C d_Yf_gather_10 rfl rfl ?_
    refine V_aload_n C d_Yf_gather_11 rfl rfl ?_
    refine V_callV C (c_Row_last hl hw) wc_Row_last w_Yf_gather_12 np_Row_last ⟨by omega, by omega, R3, R4⟩ hw rfl rfl (Nat.le_of_ble_eq_true rfl) d_Yf_gather_12 (fun v n1 h1 hp => ?_) (fun Cx n1 h1 hp => hp.elim)
    obtain ⟨rfl, rfl, rfl⟩ := hp
    refine V_icmp_gt (tgt := 35) C d_Yf_gather_15 (by decide) (by unfold inI; omega) (by unfold inI; omega) (fun q15 => ?_) (fun q15 => ?_)
    · exact absurd q15 (by omega)
    · refine V_aload_n C d_Yf_gather_18 rfl rfl ?_
      refine V_iload_n C d_Yf_gather_19 rfl rfl ?_
      refine V_aload_n C d_Yf_gather_20 rfl rfl ?_
      refine V_callV C (c_Row_read hl hw hpp B.o2 B.p2 (by omega) hr (by unfold inI; omega) hP) wc_Row_read w_Yf_gather_21 np_Row_read ⟨by omega, by omega, R3, R4⟩ hw rfl rfl (Nat.le_of_ble_eq_true rfl) d_Yf_gather_21 (fun v n1 h1 hp => ?_) (fun Cx n1 h1 hp => hp.elim)
      obtain ⟨rfl, rfl, G, g1, g2, g3, rfl⟩ := hp
      rw [if_pos (by omega), show (x.ff i + (t : Int) - x.ff i).toNat = t by omega] at g3
      have B2 := B.set2 G
      have p1 : hs h1 26 (oJ d 8 G) 24 = some (oJ d 8 G1) := B2.p1
      have p2 : hs h1 26 (oJ d 8 G) 26 = some (oJ d 8 G) := B2.p2
      have w1 := wt_in hP (show t < 48 by omega)
      have s1 := sumW_in (W := wt (x.PP i)) (B := 1000000000 ^ 4) (k := t) (fun q hq => wt_in hP (by omega))
      have hsm : vl G1 8 + vl G 8 < 1000000000 ^ 8 := by rw [v1, g3]; omega
      refine V_aload_n C d_Yf_gather_24 rfl rfl ?_
      refine V_aload_n C d_Yf_gather_25 rfl rfl ?_
      refine V_callV C (c_Who_increase hl B2.o1 p1 B2.o2 p2 (by omega) d1 g1 hsm) wc_Who_increase w_Yf_gather_26 np_Who_increase ⟨by omega, by omega, R3, R4⟩ B2.o1 rfl rfl (Nat.le_of_ble_eq_true rfl) d_Yf_gather_26 (fun v n1 h1 hp => ?_) (fun Cx n1 h1 hp => hp.elim)
      obtain ⟨rfl, rfl, G3, g4, g5, rfl⟩ := hp
      refine V_iinc C d_Yf_gather_29 rfl rfl (by decide) rfl ?_
      refine V_goto (tgt := 10) C d_Yf_gather_32 (by decide) ?_
      refine V_loc2 (ih (t + 1) G3 G _ (by omega) g4 (by rw [g5, v1, g3]; rfl) (B2.set1 G3) ((F.set (by omega) _).set (by omega) _)) ⟨rfl, rfl, rfl, ?_, trivial⟩
      show some (vi (x.ff i + (t : Int) + 1)) = some (vi (x.ff i + ((t + 1 : Nat) : Int)))
      rw [show x.ff i + (t : Int) + 1 = x.ff i + ((t + 1 : Nat) : Int) by omega]
set_option maxHeartbeats 4000000 in
/-- gather: all weights of row i together, in left -/
theorem c_Yf_gather (hl : yL l) (A : AtX d b x h) {i mm : Nat} (hi : i < 8) (hm : x.fm i = mm) (hr : rowOk (x.ff i) (x.fm i)) (hP : dig (x.PP i) 192) :
    yM l y_Yf_gather b_Yf_gather 4 none 3 90 0 0 d b n h [.ref (b + (2 + 2 * i)), .ref (b + 23), .ref (b + 25)] (fun q n' h' => q = none ∧ n' = n ∧ FrX h h' ∧ ∃ G1 G2, dig G1 8 ∧ vl G1 8 = sumW (wt (x.PP i)) mm ∧ AtX d b ((x.s_l1 G1).s_l2 G2) h') noT := by
  refine yM_of hl (by decide +kernel) (Nat.le_of_ble_eq_true rfl) (fun p e s m args below meth c C => ?_)
  refine V_aload_n C d_Yf_gather_0 rfl rfl ?_
  refine V_lconst (z := 0) C d_Yf_gather_1 rfl ?_
  refine V_callV C (c_Who_become (v := 0) hl A.o1 A.p1 (by omega) (by omega)) wc_Who_become w_Yf_gather_2 np_Who_become (by decide) A.o1 rfl rfl (Nat.le_of_ble_eq_true rfl) d_Yf_gather_2 (fun v n1 h1 hp => ?_) (fun Cx n1 h1 hp => hp.elim)
  obtain ⟨rfl, rfl, G, g1, g2, rfl⟩ := hp
  have B := A.set1 G
  have hw : hs h 24 (oJ d 8 G) (2 + 2 * i) = some (oO 1 [vi (x.ff i), vi (x.fm i), .ref (b + (3 + 2 * i))]) := B.w i hi
  refine V_aload_n C d_Yf_gather_5 rfl rfl ?_
  refine V_getN C 1 0 hw rfl in_Row (by decide) w_Yf_gather_6 rfl rfl d_Yf_gather_6 ?_
  refine V_istore_n C d_Yf_gather_9 rfl (by decide) rfl ?_
  refine V_loc2 (Yf_gather_loop (x := x) C hl hi hm hr hP (by decide) (fun G1 G2 h' lv k1 k2 k3 k4 => ?_) mm 0 G x.l2 _ (by omega) g1 g2 B (FrX.rfl.set (by omega) _)) ⟨rfl, rfl, rfl, ?_, trivial⟩
  · exact V_return C d_Yf_gather_35 (Nat.le_refl _) (Nat.le_refl _) ⟨rfl, rfl, k4, G1, G2, k1, k2, k3⟩
  · show some (vi (x.ff i)) = some (vi (x.ff i + ((0 : Nat) : Int)))
    rw [show x.ff i + ((0 : Nat) : Int) = x.ff i by omega]
set_option maxHeartbeats 4000000 in
theorem Yf_count_loop (C : yC p l s m args meth c y_Yf_countWeighted b_Yf_countWeighted 4 (some .int) [] d b) (hl : yL l) {i mm : Nat} (hi : i < 8) (hm : x.fm i = mm) (hr : rowOk (x.ff i) (x.fm i)) (hP : dig (x.PP i) 192) (hR : 3 ≤ R.frames ∧ 90 ≤ R.locals ∧ cells ≤ R.cells ∧ slots ≤ R.slots)
    (kk : ∀ (G1 : Nat → Int) (h' : yH), AtX d b (x.s_l1 G1) h' → FrX h h' → V p l e R s m args below meth c 4 d b Q cells slots n h' 43 [(2, vi (nzW (wt (x.PP i)) mm : Nat))] []) :
    ∀ (j t : Nat) (G1 : Nat → Int) (h' : yH), t + j = mm → AtX d b (x.s_l1 G1) h' → FrX h h' → V p l e R s m args below meth c 4 d b Q cells slots n h' 7 [(0, .ref (b + 0)), (1, .ref (b + (2 + 2 * i))), (2, vi (nzW (wt (x.PP i)) t : Nat)), (3, vi (x.ff i + t))] [] := by
  obtain ⟨r1, r2, r3, r4⟩ := id hr
  obtain ⟨R1, R2, R3, R4⟩ := hR
  intro j
  induction j with
  | zero =>
    intro t G1 h' hj B F
    have hw : h' (2 + 2 * i) = some (oO 1 [vi (x.ff i), vi (x.fm i), .ref (b + (3 + 2 * i))]) := B.w i hi
    refine V_iload_n C d_Yf_countWeighted_7 rfl rfl ?_
    refine V_aload_n C d_Yf_countWeighted_8 rfl rfl ?_
    refine V_callV C (c_Row_last hl hw) wc_Row_last w_Yf_countWeighted_9 np_Row_last ⟨by omega, by omega, R3, R4⟩ hw rfl rfl (Nat.le_of_ble_eq_true rfl) d_Yf_countWeighted_9 (fun v n1 h1 hp => ?_) (fun Cx n1 h1 hp => hp.elim)
    obtain ⟨rfl, rfl, rfl⟩ := hp
    refine V_icmp_gt (tgt := 43) C d_Yf_countWeighted_12 (by decide) (by unfold inI; omega) (by unfold inI; omega) (fun q15 => ?_) (fun q15 => ?_)
    · have e0 : t = mm := by omega
      subst e0
      exact V_loc2 (kk G1 _ B F) ⟨rfl, trivial⟩
    · exact absurd q15 (by omega)
  | succ j ih =>
    intro t G1 h' hj B F
    have hw : h' (2 + 2 * i) = some (oO 1 [vi (x.ff i), vi (x.fm i), .ref (b + (3 + 2 * i))]) := B.w i hi
    have hpp : h' (3 + 2 * i) = some (oJ d 192 (x.PP i)) := B.p i hi
    refine V_iload_n C d_Yf_countWeighted_7 rfl rfl ?_
    refine V_aload_n C d_Yf_countWeighted_8 rfl rfl ?_
    refine V_callV C (c_Row_last hl hw) wc_Row_last w_Yf_countWeighted_9 np_Row_last ⟨by omega, by omega, R3, R4⟩ hw rfl rfl (Nat.le_of_ble_eq_true rfl) d_Yf_countWeighted_9 (fun v n1 h1 hp => ?_) (fun Cx n1 h1 hp => hp.elim)
    obtain ⟨rfl, rfl, rfl⟩ := hp
    refine V_icmp_gt (tgt := 43) C d_Yf_countWeighted_12 (by decide) (by unfold inI; omega) (by unfold inI; omega) (fun q15 => ?_) (fun q15 => ?_)
    · exact absurd q15 (by omega)
    · refine V_aload_n C d_Yf_countWeighted_15 rfl rfl ?_
      refine V_iload_n C d_Yf_countWeighted_16 rfl rfl ?_
      refine V_aload_n C d_Yf_countWeighted_17 rfl rfl ?_
      refine V_get C 3 4 B.o rfl in_Yf (by decide) w_Yf_countWeighted_18 rfl rfl d_Yf_countWeighted_18 ?_
      refine V_callV C (c_Row_read hl hw hpp B.o1 B.p1 (by omega) hr (by unfold inI; omega) hP) wc_Row_read w_Yf_countWeighted_21 np_Row_read ⟨by omega, by omega, R3, R4⟩ hw rfl rfl (Nat.le_of_ble_eq_true rfl) d_Yf_countWeighted_21 (fun v n1 h1 hp => ?_) (fun Cx n1 h1 hp => hp.elim)
      obtain ⟨rfl, rfl, G, g1, g2, g3, rfl⟩ := hp
      rw [if_pos (by omega), show (x.ff i + (t : Int) - x.ff i).toNat = t by omega] at g3
      have B2 := B.set1 G
      have p1 : hs h1 24 (oJ d 8 G) 24 = some (oJ d 8 G) := B2.p1
      have nz := nzW_le (wt (x.PP i)) t
      have en : nzW (wt (x.PP i)) (t + 1) = if wt (x.PP i) t = 0 then nzW (wt (x.PP i)) t else nzW (wt (x.PP i)) t + 1 := rfl
      refine V_aload_n C d_Yf_countWeighted_24 rfl rfl ?_
      refine V_get C 3 4 B2.o rfl in_Yf (by decide) w_Yf_countWeighted_25 rfl rfl d_Yf_countWeighted_25 ?_
      refine V_callV C (c_Who_isZero hl B2.o1 p1 g1) wc_Who_isZero w_Yf_countWeighted_28 np_Who_isZero ⟨by omega, by omega, R3, R4⟩ B2.o1 rfl rfl (Nat.le_of_ble_eq_true rfl) d_Yf_countWeighted_28 (fun v n1 h1 hp => ?_) (fun Cx n1 h1 hp => hp.elim)
      obtain ⟨rfl, rfl, rfl⟩ := hp
      rw [g3]
      refine V_if_ne (tgt := 37) C d_Yf_countWeighted_31 (by decide) (by unfold inI; split <;> omega) (fun q31 => ?_) (fun q31 => ?_)
      · have hz : wt (x.PP i) t = 0 := by
          by_cases q : wt (x.PP i) t = 0
          · exact q
          · rw [if_neg q] at q31; exact absurd rfl q31
        rw [if_pos hz] at en
        refine V_iinc C d_Yf_countWeighted_37 rfl rfl (by decide) rfl ?_
        refine V_goto (tgt := 7) C d_Yf_countWeighted_40 (by decide) ?_
        refine V_loc2 (ih (t + 1) G _ (by omega) B2 (F.set (by omega) _)) ⟨rfl, rfl, by rw [en]; rfl, ?_, trivial⟩
        show some (vi (x.ff i + (t : Int) + 1)) = some (vi (x.ff i + ((t + 1 : Nat) : Int)))
        rw [show x.ff i + (t : Int) + 1 = x.ff i + ((t + 1 : Nat) : Int) by omega]
      · have hz : ¬ wt (x.PP i) t = 0 := fun q => by rw [if_pos q] at q31; omega
        rw [if_neg hz] at en
        refine V_iinc C d_Yf_countWeighted_34 rfl rfl (by decide) rfl ?_
        refine V_iinc C d_Yf_countWeighted_37 rfl rfl (by decide) rfl ?_
        refine V_goto (tgt := 7) C d_Yf_countWeighted_40 (by decide) ?_
        refine V_loc2 (ih (t + 1) G _ (by omega) B2 (F.set (by omega) _)) ⟨rfl, rfl, by rw [en]; rfl, ?_, trivial⟩
        show some (vi (x.ff i + (t : Int) + 1)) = some (vi (x.ff i + ((t + 1 : Nat) : Int)))
        rw [show x.ff i + (t : Int) + 1 = x.ff i + ((t + 1 : Nat) : Int) by omega]
set_option maxHeartbeats 4000000 in
theorem c_Yf_countWeighted (hl : yL l) (A : AtX d b x h) {i mm : Nat} (hi : i < 8) (hm : x.fm i = mm) (hr : rowOk (x.ff i) (x.fm i)) (hP : dig (x.PP i) 192) :
    yM l y_Yf_countWeighted b_Yf_countWeighted 4 (some .int) 3 90 0 0 d b n h [.ref (b + 0), .ref (b + (2 + 2 * i))] (fun q n' h' => q = some (vi (nzW (wt (x.PP i)) mm : Nat)) ∧ n' = n ∧ FrX h h' ∧ ∃ G1, AtX d b (x.s_l1 G1) h') noT := by
  refine yM_of hl (by decide +kernel) (Nat.le_of_ble_eq_true rfl) (fun p e s m args below meth c C => ?_)
  refine V_iconst C d_Yf_countWeighted_0 rfl ?_
  refine V_istore_n C d_Yf_countWeighted_1 rfl (by decide) rfl ?_
  refine V_aload_n C d_Yf_countWeighted_2 rfl rfl ?_
  refine V_getN C 1 0 (A.w i hi) rfl in_Row (by decide) w_Yf_countWeighted_3 rfl rfl d_Yf_countWeighted_3 ?_
  refine V_istore_n C d_Yf_countWeighted_6 rfl (by decide) rfl ?_
  refine V_loc2 (Yf_count_loop (x := x) C hl hi hm hr hP (by decide) (fun G1 h' k3 k4 => ?_) mm 0 x.l1 _ (by omega) A FrX.rfl) ⟨rfl, rfl, rfl, ?_, trivial⟩
  · refine V_iload_n C d_Yf_countWeighted_43 rfl rfl ?_
    exact V_ireturn C d_Yf_countWeighted_44 (Nat.le_refl _) (Nat.le_refl _) ⟨rfl, rfl, k4, G1, k3⟩
  · show some (vi (x.ff i)) = some (vi (x.ff i + ((0 : Nat) : Int)))
    rw [show x.ff i + ((0 : Nat) : Int) = x.ff i by omega]
end YfB
