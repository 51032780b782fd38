/-! Row: object k of class number 1 with the first year f, many years m, and the parts of all weights in the array a -/
/-- the weight of place q -/
def wt (P : Nat → Int) (q : Nat) : Int := vl (fun j => P (4 * q + j)) 4
theorem wt_dig {P : Nat → Int} (hP : dig P 192) {q : Nat} (hq : q < 48) : dig (fun j => P (4 * q + j)) 4 := fun j hj => hP (4 * q + j) (by omega)
theorem wt_in {P : Nat → Int} (hP : dig P 192) {q : Nat} (hq : q < 48) : 0 ≤ wt P q ∧ wt P q < 1000000000 ^ 4 := vl_bound (wt_dig hP hq)
theorem wt_congr {P P' : Nat → Int} {q : Nat} (h : ∀ j, j < 4 → P (4 * q + j) = P' (4 * q + j)) : wt P q = wt P' q := vl_congr (fun j hj => h j hj)
/-- a row of years as the class keeps it -/
def rowOk (f m : Int) : Prop := -9999 ≤ f ∧ 1 ≤ m ∧ m ≤ 48 ∧ f + m - 1 ≤ 9999
section RowA
variable {p : Program} {l : Launch} {e : Env} {R : Room} {s : State} {m : MethodId} {args : Array Value} {below : List Frame} {meth : Method} {c : Code} {d : yD} {b : Nat} {Q : State → Prop} {cells slots n : Nat} {h : yH}
set_option maxHeartbeats 4000000 in
theorem c_Row_init (hl : yL l) {k : Nat} {f m : Int} (hk : h k = some (oO 1 [vi f, vi m, .null])) :
    yM l y_Row_init b_Row_init 1 none 1 12 1 192 d b n h [.ref (b + k)] (fun r n' h' => r = none ∧ n' = n + 1 ∧ h' = hs (hs h n (oJ d 192 (fun _ => 0))) k (oO 1 [vi f, vi m, .ref (b + n)])) noT := by
  by_cases hkn : k = n
  · intro p e ha hc hh s m0 args below hf happ hP
    obtain ⟨rfl, q1, q2, q4, q5⟩ := hP
    have := (q2 k _ hk).lt
    dsimp only at this
    omega
  refine yM_of hl (by decide +kernel) (Nat.le_of_ble_eq_true rfl) (fun p e s m0 args below meth c C => ?_)
  have hk1 : hs h n (oJ d 192 (fun _ => 0)) k = some (oO 1 [vi f, vi m, .null]) := by rw [hs_ne _ _ hkn]; exact hk
  refine V_aload_n C d_Row_init_0 rfl rfl ?_
  refine V_objInit C w_Row_init_1 wc_Obj (by decide) (by decide) d_Row_init_1 ?_
  refine V_aload_n C d_Row_init_4 rfl rfl ?_
  refine V_sipush (z := 192) C d_Row_init_5 rfl ?_
  refine V_newJ C (N := 192) rfl (by decide) wa_J (by decide) (by decide) d_Row_init_8 ?_
  refine V_putF (ty := (.array .long)) C 1 2 hk1 rfl in_Row t_Row tok_Row nm_Row (by decide) w_Row_init_10 rfl rfl rfl rfl (by decide +kernel) rfl rfl (Nat.le_of_ble_eq_true rfl) d_Row_init_10 ?_
  exact V_return C d_Row_init_13 (Nat.le_refl _) (Nat.le_refl _) ⟨rfl, rfl, rfl⟩
set_option maxHeartbeats 4000000 in
theorem Row_open_loop (C : yC p l s m args meth c y_Row_open b_Row_open 4 none [] d b) {k a : Nat} {f m0 : Int} {P : Nat → Int} (hk : h k = some (oO 1 [vi f, vi m0, .ref (b + a)])) (ha : h a = some (oJ d 192 P))
    (kk : ∀ (G : Nat → Int) (lv : List (Nat × Value)), (∀ t, t < 192 → G t = 0) → V p l e R s m args below meth c 4 d b Q cells slots n (hs h a (oJ d 192 G)) 34 lv []) :
    ∀ (j i : Nat) (G : Nat → Int), i + j = 192 → (∀ t, t < i → G t = 0) → V p l e R s m args below meth c 4 d b Q cells slots n (hs h a (oJ d 192 G)) 12 [(0, .ref (b + k)), (3, vi i)] [] := by
  intro j
  induction j with
  | zero =>
    intro i G hi hG
    have hk1 : hs h a (oJ d 192 G) k = some (oO 1 [vi f, vi m0, .ref (b + a)]) := hs_at hk ha
    refine V_iload_n C d_Row_open_12 rfl rfl ?_
    refine V_aload_n C d_Row_open_13 rfl rfl ?_
    refine V_get C 1 2 hk1 rfl in_Row (by decide) w_Row_open_14 rfl rfl d_Row_open_14 ?_
    refine V_alen (z := 192) (t := 1) C (hs_eq _ _ _) rfl rfl d_Row_open_17 ?_
    refine V_icmp_ge (tgt := 34) C d_Row_open_18 (by decide) (by unfold inI; omega) (by unfold inI; omega) (fun q18 => ?_) (fun q18 => ?_)
    · exact kk G _ (fun t ht => hG t (by omega))
    · exact absurd q18 (by omega)
  | succ j ih =>
    intro i G hi hG
    have hk1 : hs h a (oJ d 192 G) k = some (oO 1 [vi f, vi m0, .ref (b + a)]) := hs_at hk ha
    refine V_iload_n C d_Row_open_12 rfl rfl ?_
    refine V_aload_n C d_Row_open_13 rfl rfl ?_
    refine V_get C 1 2 hk1 rfl in_Row (by decide) w_Row_open_14 rfl rfl d_Row_open_14 ?_
    refine V_alen (z := 192) (t := 1) C (hs_eq _ _ _) rfl rfl d_Row_open_17 ?_
    refine V_icmp_ge (tgt := 34) C d_Row_open_18 (by decide) (by unfold inI; omega) (by unfold inI; omega) (fun q18 => ?_) (fun q18 => ?_)
    · exact absurd q18 (by omega)
    · refine V_aload_n C d_Row_open_21 rfl rfl ?_
      refine V_get C 1 2 hk1 rfl in_Row (by decide) w_Row_open_22 rfl rfl d_Row_open_22 ?_
      refine V_iload_n C d_Row_open_25 rfl rfl ?_
      refine V_lconst (z := 0) C d_Row_open_26 rfl ?_
      refine V_lastore C (hs_eq _ _ _) (by omega) (by omega) (by decide) d_Row_open_27 ?_
      refine V_iinc C d_Row_open_28 rfl rfl (by decide) rfl ?_
      refine V_goto (tgt := 12) C d_Row_open_31 (by decide) ?_
      rw [hs_hs]
      refine V_loc2 (ih (i + 1) _ (by omega) (fun t ht => ?_)) ⟨rfl, rfl, trivial⟩
      by_cases e1 : t = (i : Int).toNat
      · rw [e1, fu_eq]
      · rw [fu_ne _ _ e1]; exact hG t (by omega)
set_option maxHeartbeats 4000000 in
/-- open(first, many): all weights are 0 -/
theorem c_Row_open (hl : yL l) {k a : Nat} {f m0 f1 m1 : Int} {P : Nat → Int} (hk : h k = some (oO 1 [vi f, vi m0, .ref (b + a)])) (ha : h a = some (oJ d 192 P)) :
    yM l y_Row_open b_Row_open 4 none 0 0 0 0 d b n h [.ref (b + k), vi f1, vi m1] (fun r n' h' => r = none ∧ n' = n ∧ ∃ G, (∀ t, t < 192 → G t = 0) ∧ h' = hs (hs h k (oO 1 [vi f1, vi m1, .ref (b + a)])) a (oJ d 192 G)) noT := by
  refine yM_of hl (by decide +kernel) (Nat.le_of_ble_eq_true rfl) (fun p e s m args below meth c C => ?_)
  have hka : a ≠ k := fun q => by rw [q, hk] at ha; cases ha
  refine V_aload_n C d_Row_open_0 rfl rfl ?_
  refine V_iload_n C d_Row_open_1 rfl rfl ?_
  refine V_put (ty := .int) C 1 0 hk rfl in_Row t_Row tok_Row nm_Row (by decide) w_Row_open_2 rfl rfl (by decide +kernel) rfl rfl (Nat.le_of_ble_eq_true rfl) d_Row_open_2 ?_
  refine V_aload_n C d_Row_open_5 rfl rfl ?_
  refine V_iload_n C d_Row_open_6 rfl rfl ?_
  refine V_put (ty := .int) C 1 1 (hs_eq _ _ _) rfl in_Row t_Row tok_Row nm_Row (by decide) w_Row_open_7 rfl rfl (by decide +kernel) rfl rfl (Nat.le_of_ble_eq_true rfl) d_Row_open_7 ?_
  rw [hs_hs]
  have hk1 : hs h k (oO 1 [vi f1, vi m1, .ref (b + a)]) k = some (oO 1 [vi f1, vi m1, .ref (b + a)]) := hs_eq _ _ _
  have ha1 : hs h k (oO 1 [vi f1, vi m1, .ref (b + a)]) a = some (oJ d 192 P) := by rw [hs_ne _ _ hka]; exact ha
  refine V_iconst C d_Row_open_10 rfl ?_
  refine V_istore_n C d_Row_open_11 rfl (by decide) rfl ?_
  refine V_heq (hs_self ha1) ?_
  refine V_loc2 (Row_open_loop C hk1 ha1 (fun G lv hG => ?_) 192 0 P (by omega) (fun t ht => absurd ht (by omega))) ⟨rfl, rfl, trivial⟩
  exact V_return C d_Row_open_34 (Nat.le_refl _) (Nat.le_refl _) ⟨rfl, rfl, G, hG, rfl⟩
set_option maxHeartbeats 4000000 in
theorem c_Row_last (hl : yL l) {k : Nat} {f m0 : Int} {v : Value} (hk : h k = some (oO 1 [vi f, vi m0, v])) :
    yM l y_Row_last b_Row_last 1 (some .int) 0 0 0 0 d b n h [.ref (b + k)] (fun r n' h' => n' = n ∧ h' = h ∧ r = some (vi (f + m0 - 1))) noT := by
  refine yM_of hl (by decide +kernel) (Nat.le_of_ble_eq_true rfl) (fun p e s m args below meth c C => ?_)
  refine V_aload_n C d_Row_last_0 rfl rfl ?_
  refine V_get C 1 0 hk rfl in_Row (by decide) w_Row_last_1 rfl rfl d_Row_last_1 ?_
  refine V_aload_n C d_Row_last_4 rfl rfl ?_
  refine V_get C 1 1 hk rfl in_Row (by decide) w_Row_last_5 rfl rfl d_Row_last_5 ?_
  refine V_iadd C d_Row_last_8 ?_
  refine V_iconst C d_Row_last_9 rfl ?_
  refine V_isub C d_Row_last_10 ?_
  exact V_ireturn C d_Row_last_11 (Nat.le_refl _) (Nat.le_refl _) ⟨rfl, rfl, rfl⟩
set_option maxHeartbeats 4000000 in
theorem c_Row_has (hl : yL l) {k : Nat} {f m0 z : Int} {v : Value} (hk : h k = some (oO 1 [vi f, vi m0, v])) (hr : rowOk f m0) (hz : inI z) :
    yM l y_Row_has b_Row_has 2 (some .boolean) 1 20 0 0 d b n h [.ref (b + k), vi z] (fun r n' h' => n' = n ∧ h' = h ∧ r = some (vi (if f ≤ z ∧ z ≤ f + m0 - 1 then 1 else 0))) noT := by
  refine yM_of hl (by decide +kernel) (Nat.le_of_ble_eq_true rfl) (fun p e s m args below meth c C => ?_)
  obtain ⟨r1, r2, r3, r4⟩ := hr
  refine V_iload_n C d_Row_has_0 rfl rfl ?_
  refine V_aload_n C d_Row_has_1 rfl rfl ?_
  refine V_get C 1 0 hk rfl in_Row (by decide) w_Row_has_2 rfl rfl d_Row_has_2 ?_
  refine V_icmp_lt (tgt := 20) C d_Row_has_5 (by decide) hz (by unfold inI; omega) (fun q5 => ?_) (fun q5 => ?_)
  · refine V_iconst C d_Row_has_20 rfl ?_
    exact V_zreturn C d_Row_has_21 (by omega) (Nat.le_refl _) (Nat.le_refl _) ⟨rfl, rfl, by rw [if_neg (by omega)]⟩
  · refine V_iload_n C d_Row_has_8 rfl rfl ?_
    refine V_aload_n C d_Row_has_9 rfl rfl ?_
    refine V_callV C (c_Row_last hl hk) wc_Row_last w_Row_has_10 np_Row_last (by decide) hk rfl rfl (Nat.le_of_ble_eq_true rfl) d_Row_has_10 (fun v n1 h1 hp => ?_) (fun Cx n1 h1 hp => hp.elim)
    obtain ⟨rfl, rfl, rfl⟩ := hp
    refine V_icmp_gt (tgt := 20) C d_Row_has_13 (by decide) hz (by unfold inI; omega) (fun q13 => ?_) (fun q13 => ?_)
    · refine V_iconst C d_Row_has_20 rfl ?_
      exact V_zreturn C d_Row_has_21 (by omega) (Nat.le_refl _) (Nat.le_refl _) ⟨rfl, rfl, by rw [if_neg (by omega)]⟩
    · refine V_iconst C d_Row_has_16 rfl ?_
      refine V_goto (tgt := 21) C d_Row_has_17 (by decide) ?_
      exact V_zreturn C d_Row_has_21 (by omega) (Nat.le_refl _) (Nat.le_refl _) ⟨rfl, rfl, by rw [if_pos (by omega)]⟩
set_option maxHeartbeats 4000000 in
theorem Row_read_loop (C : yC p l s m args meth c y_Row_read b_Row_read 5 none [] d b) {k a k2 a2 q : Nat} {f m0 : Int} {P F2 F0 : Nat → Int} (hk : h k = some (oO 1 [vi f, vi m0, .ref (b + a)])) (ha : h a = some (oJ d 192 P)) (hk2 : h k2 = some (oO 2 [.ref (b + a2)])) (ha2 : h a2 = some (oJ d 8 F2)) (hne : a ≠ a2) (hq : q < 48)
    (kk : ∀ (G : Nat → Int) (lv : List (Nat × Value)), (∀ t, t < 4 → G t = P (4 * q + t)) → (∀ t, 4 ≤ t → G t = F0 t) → V p l e R s m args below meth c 5 d b Q cells slots n (hs h a2 (oJ d 8 G)) 53 lv []) :
    ∀ (j i : Nat) (G : Nat → Int), i + j = 4 → (∀ t, t < i → G t = P (4 * q + t)) → (∀ t, 4 ≤ t → G t = F0 t) → V p l e R s m args below meth c 5 d b Q cells slots n (hs h a2 (oJ d 8 G)) 25 [(0, .ref (b + k)), (2, .ref (b + k2)), (3, vi (4 * q)), (4, vi i)] [] := by
  intro j
  induction j with
  | zero =>
    intro i G hi hG hG2
    refine V_iload C d_Row_read_25 rfl ?_
    refine V_iconst C d_Row_read_27 rfl ?_
    refine V_icmp_ge (tgt := 53) C d_Row_read_28 (by decide) (by unfold inI; omega) (by unfold inI; omega) (fun q28 => ?_) (fun q28 => ?_)
    · exact kk G _ (fun t ht => hG t (by omega)) hG2
    · exact absurd q28 (by omega)
  | succ j ih =>
    intro i G hi hG hG2
    have hk1 : hs h a2 (oJ d 8 G) k = some (oO 1 [vi f, vi m0, .ref (b + a)]) := hs_at hk ha2
    have hk3 : hs h a2 (oJ d 8 G) k2 = some (oO 2 [.ref (b + a2)]) := hs_at hk2 ha2
    have ha3 : hs h a2 (oJ d 8 G) a = some (oJ d 192 P) := by rw [hs_ne _ _ hne]; exact ha
    refine V_iload C d_Row_read_25 rfl ?_
    refine V_iconst C d_Row_read_27 rfl ?_
    refine V_icmp_ge (tgt := 53) C d_Row_read_28 (by decide) (by unfold inI; omega) (by unfold inI; omega) (fun q28 => ?_) (fun q28 => ?_)
    · exact absurd q28 (by omega)
    · refine V_aload_n C d_Row_read_31 rfl rfl ?_
      refine V_getN C 2 0 hk3 rfl in_Who (by decide) w_Row_read_32 rfl rfl d_Row_read_32 ?_
      refine V_iload C d_Row_read_35 rfl ?_
      refine V_aload_n C d_Row_read_37 rfl rfl ?_
      refine V_get C 1 2 hk1 rfl in_Row (by decide) w_Row_read_38 rfl rfl d_Row_read_38 ?_
      refine V_iload_n C d_Row_read_41 rfl rfl ?_
      refine V_iload C d_Row_read_42 rfl ?_
      refine V_iadd C d_Row_read_44 ?_
      refine V_laload C ha3 (by omega) (by omega) (by decide) d_Row_read_45 ?_
      rw [show (4 * (q : Int) + i).toNat = 4 * q + i by omega]
      refine V_lastore C (hs_eq _ _ _) (by omega) (by omega) (by decide) d_Row_read_46 ?_
      refine V_iinc C d_Row_read_47 rfl rfl (by decide) rfl ?_
      refine V_goto (tgt := 25) C d_Row_read_50 (by decide) ?_
      rw [hs_hs, Int.toNat_natCast]
      refine V_loc2 (ih (i + 1) _ (by omega) (fun t ht => ?_) (fun t ht => ?_)) ⟨rfl, rfl, rfl, rfl, trivial⟩
      · by_cases e1 : t = i
        · rw [e1, fu_eq]
        · rw [fu_ne _ _ e1]; exact hG t (by omega)
      · rw [fu_ne _ _ (by omega)]; exact hG2 t ht
set_option maxHeartbeats 4000000 in
/-- read: the year's weight, 0 where the row hasn't it -/
theorem c_Row_read (hl : yL l) {k a k2 a2 : Nat} {f m0 z : Int} {P F2 : Nat → Int} (hk : h k = some (oO 1 [vi f, vi m0, .ref (b + a)])) (ha : h a = some (oJ d 192 P)) (hk2 : h k2 = some (oO 2 [.ref (b + a2)])) (ha2 : h a2 = some (oJ d 8 F2)) (hne : a ≠ a2) (hr : rowOk f m0) (hz : inI z) (hP : dig P 192) :
    yM l y_Row_read b_Row_read 5 none 2 60 0 0 d b n h [.ref (b + k), vi z, .ref (b + k2)] (fun r n' h' => r = none ∧ n' = n ∧ ∃ G, dig G 8 ∧ (∀ t, 4 ≤ t → t < 8 → G t = 0) ∧ vl G 8 = (if f ≤ z ∧ z ≤ f + m0 - 1 then wt P (z - f).toNat else 0) ∧ h' = hs h a2 (oJ d 8 G)) noT := by
  refine yM_of hl (by decide +kernel) (Nat.le_of_ble_eq_true rfl) (fun p e s m args below meth c C => ?_)
  obtain ⟨r1, r2, r3, r4⟩ := id hr
  refine V_aload_n C d_Row_read_0 rfl rfl ?_
  refine V_lconst (z := 0) C d_Row_read_1 rfl ?_
  refine V_callV C (c_Who_become (v := 0) hl hk2 ha2 (by omega) (by omega)) wc_Who_become w_Row_read_2 np_Who_become (by decide) hk2 rfl rfl (Nat.le_of_ble_eq_true rfl) d_Row_read_2 (fun v n1 h1 hp => ?_) (fun Cx n1 h1 hp => hp.elim)
  obtain ⟨rfl, rfl, G, hG, hGv, rfl⟩ := hp
  have hG0 : ∀ t, t < 8 → G t = 0 := vl_inj hG (dig0 8) (by rw [hGv, vl_zero (f := fun _ => (0 : Int)) (fun t ht => rfl)])
  have hk1 : hs h a2 (oJ d 8 G) k = some (oO 1 [vi f, vi m0, .ref (b + a)]) := hs_at hk ha2
  have hk3 : hs h a2 (oJ d 8 G) k2 = some (oO 2 [.ref (b + a2)]) := hs_at hk2 ha2
  have ha3 : hs h a2 (oJ d 8 G) a = some (oJ d 192 P) := by rw [hs_ne _ _ hne]; exact ha
  refine V_aload_n C d_Row_read_5 rfl rfl ?_
  refine V_iload_n C d_Row_read_6 rfl rfl ?_
  refine V_callV C (c_Row_has hl hk1 hr hz) wc_Row_has w_Row_read_7 np_Row_has (by decide) hk1 rfl rfl (Nat.le_of_ble_eq_true rfl) d_Row_read_7 (fun v n1 h1 hp => ?_) (fun Cx n1 h1 hp => hp.elim)
  obtain ⟨rfl, rfl, rfl⟩ := hp
  refine V_if_eq (tgt := 53) C d_Row_read_10 (by decide) (by unfold inI; split <;> omega) (fun q10 => ?_) (fun q10 => ?_)
  · have hno : ¬ (f ≤ z ∧ z ≤ f + m0 - 1) := fun q => by rw [if_pos q] at q10; omega
    exact V_return C d_Row_read_53 (Nat.le_refl _) (Nat.le_refl _) ⟨rfl, rfl, G, hG, fun t h1 h2 => hG0 t h2, by rw [if_neg hno, hGv], rfl⟩
  · have hyes : f ≤ z ∧ z ≤ f + m0 - 1 := by
      by_cases q : f ≤ z ∧ z ≤ f + m0 - 1
      · exact q
      · rw [if_neg q] at q10; exact absurd rfl q10
    refine V_iload_n C d_Row_read_13 rfl rfl ?_
    refine V_aload_n C d_Row_read_14 rfl rfl ?_
    refine V_get C 1 0 hk1 rfl in_Row (by decide) w_Row_read_15 rfl rfl d_Row_read_15 ?_
    refine V_isub C d_Row_read_18 ?_
    refine V_iconst C d_Row_read_19 rfl ?_
    refine V_imul C d_Row_read_20 ?_
    refine V_istore_n C d_Row_read_21 rfl (by decide) rfl ?_
    refine V_iconst C d_Row_read_22 rfl ?_
    refine V_istore C d_Row_read_23 (by decide) rfl ?_
    have hq : (z - f) * 4 = 4 * (((z - f).toNat : Nat) : Int) := by omega
    rw [hq]
    refine V_loc2 (Row_read_loop (F0 := G) C hk ha hk2 ha2 hne (q := (z - f).toNat) (by omega) (fun G' lv hG1 hG2 => ?_) 4 0 G (by omega) (fun t ht => absurd ht (by omega)) (fun t ht => rfl)) ⟨rfl, rfl, rfl, rfl, trivial⟩
    have hd : dig G' 8 := fun t ht => by
      by_cases e1 : t < 4
      · rw [hG1 t e1]; exact hP _ (by omega)
      · rw [hG2 t (by omega)]; exact hG t ht
    have hu : ∀ t, 4 ≤ t → t < 8 → G' t = 0 := fun t h1 h2 => by rw [hG2 t h1]; exact hG0 t h2
    exact V_return C d_Row_read_53 (Nat.le_refl _) (Nat.le_refl _) ⟨rfl, rfl, G', hd, hu, by rw [if_pos hyes, vl_high hd hu]; exact vl_congr hG1, rfl⟩
set_option maxHeartbeats 4000000 in
theorem Row_write_loop (C : yC p l s m args meth c y_Row_write b_Row_write 5 none [] d b) {k a k2 a2 q : Nat} {f m0 : Int} {P F2 : Nat → Int} (hk : h k = some (oO 1 [vi f, vi m0, .ref (b + a)])) (ha : h a = some (oJ d 192 P)) (hk2 : h k2 = some (oO 2 [.ref (b + a2)])) (ha2 : h a2 = some (oJ d 8 F2)) (hne : a2 ≠ a) (hq : q < 48)
    (kk : ∀ (G : Nat → Int) (lv : List (Nat × Value)), (∀ t, t < 4 → G (4 * q + t) = F2 t) → (∀ t, t < 4 * q ∨ 4 * q + 4 ≤ t → G t = P t) → V p l e R s m args below meth c 5 d b Q cells slots n (hs h a (oJ d 192 G)) 48 lv []) :
    ∀ (j i : Nat) (G : Nat → Int), i + j = 4 → (∀ t, t < i → G (4 * q + t) = F2 t) → (∀ t, t < 4 * q ∨ 4 * q + 4 ≤ t → G t = P t) → V p l e R s m args below meth c 5 d b Q cells slots n (hs h a (oJ d 192 G)) 20 [(0, .ref (b + k)), (2, .ref (b + k2)), (3, vi (4 * q)), (4, vi i)] [] := by
  intro j
  induction j with
  | zero =>
    intro i G hi hG hG2
    refine V_iload C d_Row_write_20 rfl ?_
    refine V_iconst C d_Row_write_22 rfl ?_
    refine V_icmp_ge (tgt := 48) C d_Row_write_23 (by decide) (by unfold inI; omega) (by unfold inI; omega) (fun q23 => ?_) (fun q23 => ?_)
    · exact kk G _ (fun t ht => hG t (by omega)) hG2
    · exact absurd q23 (by omega)
  | succ j ih =>
    intro i G hi hG hG2
    have hk1 : hs h a (oJ d 192 G) k = some (oO 1 [vi f, vi m0, .ref (b + a)]) := hs_at hk ha
    have hk3 : hs h a (oJ d 192 G) k2 = some (oO 2 [.ref (b + a2)]) := hs_at hk2 ha
    have ha3 : hs h a (oJ d 192 G) a2 = some (oJ d 8 F2) := by rw [hs_ne _ _ hne]; exact ha2
    refine V_iload C d_Row_write_20 rfl ?_
    refine V_iconst C d_Row_write_22 rfl ?_
    refine V_icmp_ge (tgt := 48) C d_Row_write_23 (by decide) (by unfold inI; omega) (by unfold inI; omega) (fun q23 => ?_) (fun q23 => ?_)
    · exact absurd q23 (by omega)
    · refine V_aload_n C d_Row_write_26 rfl rfl ?_
      refine V_get C 1 2 hk1 rfl in_Row (by decide) w_Row_write_27 rfl rfl d_Row_write_27 ?_
      refine V_iload_n C d_Row_write_30 rfl rfl ?_
      refine V_iload C d_Row_write_31 rfl ?_
      refine V_iadd C d_Row_write_33 ?_
      refine V_aload_n C d_Row_write_34 rfl rfl ?_
      refine V_getN C 2 0 hk3 rfl in_Who (by decide) w_Row_write_35 rfl rfl d_Row_write_35 ?_
      refine V_iload C d_Row_write_38 rfl ?_
      refine V_laload C ha3 (by omega) (by omega) (by decide) d_Row_write_40 ?_
      rw [Int.toNat_natCast]
      refine V_lastore C (hs_eq _ _ _) (by omega) (by omega) (by decide) d_Row_write_41 ?_
      refine V_iinc C d_Row_write_42 rfl rfl (by decide) rfl ?_
      refine V_goto (tgt := 20) C d_Row_write_45 (by decide) ?_
      rw [hs_hs, show (4 * (q : Int) + i).toNat = 4 * q + i by omega]
      refine V_loc2 (ih (i + 1) _ (by omega) (fun t ht => ?_) (fun t ht => ?_)) ⟨rfl, rfl, rfl, rfl, trivial⟩
      · by_cases e1 : t = i
        · rw [e1, fu_eq]
        · rw [fu_ne _ _ (by omega)]; exact hG t (by omega)
      · rw [fu_ne _ _ (by omega)]; exact hG2 t ht
set_option maxHeartbeats 4000000 in
/-- write: the year's weight becomes the number's low four parts -/
theorem c_Row_write (hl : yL l) {k a k2 a2 : Nat} {f m0 z : Int} {P F2 : Nat → Int} (hk : h k = some (oO 1 [vi f, vi m0, .ref (b + a)])) (ha : h a = some (oJ d 192 P)) (hk2 : h k2 = some (oO 2 [.ref (b + a2)])) (ha2 : h a2 = some (oJ d 8 F2)) (hne : a2 ≠ a) (hr : rowOk f m0) (hz : f ≤ z ∧ z ≤ f + m0 - 1) (hP : dig P 192) (hF2 : dig F2 8) :
    yM l y_Row_write b_Row_write 5 none 2 60 0 0 d b n h [.ref (b + k), vi z, .ref (b + k2)] (fun r n' h' => r = none ∧ n' = n ∧ ∃ G, dig G 192 ∧ wt G (z - f).toNat = vl F2 4 ∧ (∀ t, t ≠ (z - f).toNat → wt G t = wt P t) ∧ h' = hs h a (oJ d 192 G)) noT := by
  refine yM_of hl (by decide +kernel) (Nat.le_of_ble_eq_true rfl) (fun p e s m args below meth c C => ?_)
  obtain ⟨r1, r2, r3, r4⟩ := id hr
  have hzI : inI z := ⟨by omega, by omega⟩
  refine V_aload_n C d_Row_write_0 rfl rfl ?_
  refine V_iload_n C d_Row_write_1 rfl rfl ?_
  refine V_callV C (c_Row_has hl hk hr hzI) wc_Row_has w_Row_write_2 np_Row_has (by decide) hk rfl rfl (Nat.le_of_ble_eq_true rfl) d_Row_write_2 (fun v n1 h1 hp => ?_) (fun Cx n1 h1 hp => hp.elim)
  obtain ⟨rfl, rfl, rfl⟩ := hp
  rw [if_pos hz]
  refine V_if_eq (tgt := 48) C d_Row_write_5 (by decide) (by unfold inI; omega) (fun q5 => ?_) (fun q5 => ?_)
  · exact absurd q5 (by omega)
  · refine V_iload_n C d_Row_write_8 rfl rfl ?_
    refine V_aload_n C d_Row_write_9 rfl rfl ?_
    refine V_get C 1 0 hk rfl in_Row (by decide) w_Row_write_10 rfl rfl d_Row_write_10 ?_
    refine V_isub C d_Row_write_13 ?_
    refine V_iconst C d_Row_write_14 rfl ?_
    refine V_imul C d_Row_write_15 ?_
    refine V_istore_n C d_Row_write_16 rfl (by decide) rfl ?_
    refine V_iconst C d_Row_write_17 rfl ?_
    refine V_istore C d_Row_write_18 (by decide) rfl ?_
    have hq : (z - f) * 4 = 4 * (((z - f).toNat : Nat) : Int) := by omega
    rw [hq]
    refine V_heq (hs_self ha) ?_
    refine V_loc2 (Row_write_loop C hk ha hk2 ha2 hne (q := (z - f).toNat) (by omega) (fun G lv hG1 hG2 => ?_) 4 0 P (by omega) (fun t ht => absurd ht (by omega)) (fun t ht => rfl)) ⟨rfl, rfl, rfl, rfl, trivial⟩
    have hd : dig G 192 := fun t ht => by
      by_cases e1 : t < 4 * (z - f).toNat ∨ 4 * (z - f).toNat + 4 ≤ t
      · rw [hG2 t e1]; exact hP t ht
      · have := hG1 (t - 4 * (z - f).toNat) (by omega)
        rw [show 4 * (z - f).toNat + (t - 4 * (z - f).toNat) = t by omega] at this
        rw [this]
        exact hF2 _ (by omega)
    exact V_return C d_Row_write_48 (Nat.le_refl _) (Nat.le_refl _) ⟨rfl, rfl, G, hd, vl_congr hG1, fun t ht => wt_congr (fun j hj => hG2 _ (by omega)), rfl⟩
set_option maxHeartbeats 4000000 in
theorem Row_isLess_loop (C : yC p l s m args meth c y_Row_isLess b_Row_isLess 8 (some .boolean) [] d b) {post : Option Value → Nat → yH → Prop} {k a x z : Nat} {f m0 : Int} {P : Nat → Int} (hk : h k = some (oO 1 [vi f, vi m0, .ref (b + a)])) (ha : h a = some (oJ d 192 P)) (hx : x < 48) (hz : z < 48) (hP : dig P 192)
    (hp : post (some (vi (if wt P x < wt P z then 1 else 0))) n h) :
    ∀ (j : Nat), j ≤ 4 → (∀ t, j ≤ t → t < 4 → P (4 * x + t) = P (4 * z + t)) → V p l e R s m args below meth c 8 d b (yEnd below s args d b post noT 0 0) 0 0 n h 2 [(0, .ref (b + k)), (1, vi x), (2, vi z), (3, vi ((j : Int) - 1))] [] := by
  intro j
  induction j with
  | zero =>
    intro hj hG
    refine V_iload_n C d_Row_isLess_2 rfl rfl ?_
    refine V_if_lt (tgt := 58) C d_Row_isLess_3 (by decide) (by unfold inI; omega) (fun q3 => ?_) (fun q3 => ?_)
    · have e1 : wt P x = wt P z := vl_congr (fun t ht => hG t (by omega) ht)
      rw [e1, if_neg (by omega)] at hp
      refine V_iconst C d_Row_isLess_58 rfl ?_
      exact V_zreturn C d_Row_isLess_59 (by omega) (Nat.le_refl _) (Nat.le_refl _) hp
    · exact absurd q3 (by omega)
  | succ j ih =>
    intro hj hG
    have f1 := hP (4 * x + j) (by omega)
    have f2 := hP (4 * z + j) (by omega)
    have g2 : ((j + 1 : Nat) : Int) - 1 = j := by omega
    rw [g2]
    refine V_iload_n C d_Row_isLess_2 rfl rfl ?_
    refine V_if_lt (tgt := 58) C d_Row_isLess_3 (by decide) (by unfold inI; omega) (fun q3 => ?_) (fun q3 => ?_)
    · exact absurd q3 (by omega)
    · refine V_aload_n C d_Row_isLess_6 rfl rfl ?_
      refine V_get C 1 2 hk rfl in_Row (by decide) w_Row_isLess_7 rfl rfl d_Row_isLess_7 ?_
      refine V_iload_n C d_Row_isLess_10 rfl rfl ?_
      refine V_iconst C d_Row_isLess_11 rfl ?_
      refine V_imul C d_Row_isLess_12 ?_
      refine V_iload_n C d_Row_isLess_13 rfl rfl ?_
      refine V_iadd C d_Row_isLess_14 ?_
      refine V_laload C ha (by omega) (by omega) (by decide) d_Row_isLess_15 ?_
      rw [show ((x : Int) * 4 + j).toNat = 4 * x + j by omega]
      refine V_lstore C d_Row_isLess_16 (by decide) rfl ?_
      refine V_aload_n C d_Row_isLess_18 rfl rfl ?_
      refine V_get C 1 2 hk rfl in_Row (by decide) w_Row_isLess_19 rfl rfl d_Row_isLess_19 ?_
      refine V_iload_n C d_Row_isLess_22 rfl rfl ?_
      refine V_iconst C d_Row_isLess_23 rfl ?_
      refine V_imul C d_Row_isLess_24 ?_
      refine V_iload_n C d_Row_isLess_25 rfl rfl ?_
      refine V_iadd C d_Row_isLess_26 ?_
      refine V_laload C ha (by omega) (by omega) (by decide) d_Row_isLess_27 ?_
      rw [show ((z : Int) * 4 + j).toNat = 4 * z + j by omega]
      refine V_lstore C d_Row_isLess_28 (by decide) rfl ?_
      refine V_lload C d_Row_isLess_30 rfl ?_
      refine V_lload C d_Row_isLess_32 rfl ?_
      refine V_lcmp C d_Row_isLess_34 (by unfold inJ; omega) (by unfold inJ; omega) ?_
      refine V_if_eq (tgt := 52) C d_Row_isLess_35 (by decide) (cz_in _ _) (fun q35 => ?_) (fun q35 => ?_)
      · refine V_iinc C d_Row_isLess_52 rfl rfl (by decide) rfl ?_
        refine V_goto (tgt := 2) C d_Row_isLess_55 (by decide) ?_
        exact V_loc2 (ih (by omega) (fun t h1 h2 => by
          by_cases e1 : t = j
          · rw [e1]; exact cz_eq.mp q35
          · exact hG t (by omega) h2)) ⟨rfl, rfl, rfl, rfl, trivial⟩
      · have hne : ¬ P (4 * x + j) = P (4 * z + j) := fun q => q35 (cz_eq.mpr q)
        refine V_lload C d_Row_isLess_38 rfl ?_
        refine V_lload C d_Row_isLess_40 rfl ?_
        refine V_lcmp C d_Row_isLess_42 (by unfold inJ; omega) (by unfold inJ; omega) ?_
        refine V_if_ge (tgt := 50) C d_Row_isLess_43 (by decide) (cz_in _ _) (fun q43 => ?_) (fun q43 => ?_)
        · have e1 : wt P z < wt P x := vl_lt (f := fun t => P (4 * z + t)) (g := fun t => P (4 * x + t)) j (by omega) (wt_dig hP hz) (wt_dig hP hx) (by have := cz_ge.mp q43; show P (4 * z + j) < P (4 * x + j); omega) (fun t h1 h2 => (hG t (by omega) h2).symm)
          rw [if_neg (by omega)] at hp
          refine V_iconst C d_Row_isLess_50 rfl ?_
          exact V_zreturn C d_Row_isLess_51 (by omega) (Nat.le_refl _) (Nat.le_refl _) hp
        · have e1 : wt P x < wt P z := vl_lt (f := fun t => P (4 * x + t)) (g := fun t => P (4 * z + t)) j (by omega) (wt_dig hP hx) (wt_dig hP hz) (by have : ¬ P (4 * z + j) ≤ P (4 * x + j) := fun q => q43 (cz_ge.mpr q); show P (4 * x + j) < P (4 * z + j); omega) (fun t h1 h2 => hG t (by omega) h2)
          rw [if_pos e1] at hp
          refine V_iconst C d_Row_isLess_46 rfl ?_
          refine V_goto (tgt := 51) C d_Row_isLess_47 (by decide) ?_
          exact V_zreturn C d_Row_isLess_51 (by omega) (Nat.le_refl _) (Nat.le_refl _) hp
set_option maxHeartbeats 4000000 in
theorem c_Row_isLess (hl : yL l) {k a x z : Nat} {f m0 : Int} {P : Nat → Int} (hk : h k = some (oO 1 [vi f, vi m0, .ref (b + a)])) (ha : h a = some (oJ d 192 P)) (hx : x < 48) (hz : z < 48) (hP : dig P 192) :
    yM l y_Row_isLess b_Row_isLess 8 (some .boolean) 0 0 0 0 d b n h [.ref (b + k), vi x, vi z] (fun r n' h' => n' = n ∧ h' = h ∧ r = some (vi (if wt P x < wt P z then 1 else 0))) noT := by
  refine yM_of hl (by decide +kernel) (Nat.le_of_ble_eq_true rfl) (fun p e s m args below meth c C => ?_)
  refine V_iconst C d_Row_isLess_0 rfl ?_
  refine V_istore_n C d_Row_isLess_1 rfl (by decide) rfl ?_
  refine V_loc2 (Row_isLess_loop C hk ha hx hz hP ⟨rfl, rfl, rfl⟩ 4 (Nat.le_refl 4) (fun t h1 h2 => absurd h1 (by omega))) ⟨rfl, rfl, rfl, rfl, trivial⟩
end RowA
