section Who2
variable {p : Program} {l : Launch} {e : Env} {R : Room} {s : State} {m : MethodId} {args : Array Value} {below : List Frame} {meth : Method} {c : Code} {d : yD} {b : Nat} {Q : State → Prop} {cells slots n : Nat} {h : yH}
set_option maxHeartbeats 4000000 in
/-- Whole(): eight parts of 0 -/
theorem c_Who_init (hl : yL l) {k : Nat} (hk : h k = some (oO 2 [.null])) :
    yM l y_Who_init b_Who_init 1 none 1 12 1 8 d b n h [.ref (b + k)] (fun r n' h' => r = none ∧ n' = n + 1 ∧ h' = hs (hs h n (oJ d 8 (fun _ => 0))) k (oO 2 [.ref (b + n)])) noT := by
  by_cases hkn : k = n
  · intro p e ha hc hh s m args below hf happ hP
    obtain ⟨rfl, q1, q2, q4, q5⟩ := hP
    have := (q2 k _ hk).lt
    dsimp only at this
    omega
  refine yM_of hl (by decide +kernel) (Nat.le_of_ble_eq_true rfl) (fun p e s m args below meth c C => ?_)
  have hk1 : hs h n (oJ d 8 (fun _ => 0)) k = some (oO 2 [.null]) := by rw [hs_ne _ _ hkn]; exact hk
  refine V_aload_n C d_Who_init_0 rfl rfl ?_
  refine V_objInit C w_Who_init_1 wc_Obj (by decide) (by decide) d_Who_init_1 ?_
  refine V_aload_n C d_Who_init_4 rfl rfl ?_
  refine V_bipush (z := 8) C d_Who_init_5 rfl ?_
  refine V_newJ C (N := 8) rfl (by decide) wa_J (by decide) (by decide) d_Who_init_7 ?_
  refine V_putF (ty := (.array .long)) C 2 0 hk1 rfl in_Who t_Who tok_Who nm_Who (by decide) w_Who_init_9 rfl rfl rfl rfl (by decide +kernel) rfl rfl (Nat.le_of_ble_eq_true rfl) d_Who_init_9 ?_
  exact V_return C d_Who_init_12 (Nat.le_refl _) (Nat.le_refl _) ⟨rfl, rfl, rfl⟩
set_option maxHeartbeats 4000000 in
theorem Who_increase_loop (C : yC p l s m args meth c y_Who_increase b_Who_increase 7 none [] d b) {k a k2 a2 : Nat} {F F2 : Nat → Int} (hk : h k = some (oO 2 [.ref (b + a)])) (ha : h a = some (oJ d 8 F)) (hk2 : h k2 = some (oO 2 [.ref (b + a2)])) (ha2 : h a2 = some (oJ d 8 F2)) (hne : a2 ≠ a) (hF : dig F 8) (hF2 : dig F2 8)
    (kk : ∀ (G : Nat → Int) (lv : List (Nat × Value)), (∀ t, t < 8 → G t = adD F F2 t) → V p l e R s m args below meth c 7 d b Q cells slots n (hs h a (oJ d 8 G)) 57 lv []) :
    ∀ (j i : Nat) (G : Nat → Int), i + j = 8 → (∀ t, t < i → G t = adD F F2 t) → (∀ t, i ≤ t → G t = F t) → V p l e R s m args below meth c 7 d b Q cells slots n (hs h a (oJ d 8 G)) 5 [(0, .ref (b + k)), (1, .ref (b + k2)), (2, vj (adC F F2 i)), (4, vi i)] [] := by
  intro j
  induction j with
  | zero =>
    intro i G hi hG hG2
    refine V_iload C d_Who_increase_5 rfl ?_
    refine V_bipush (z := 8) C d_Who_increase_7 rfl ?_
    refine V_icmp_ge (tgt := 57) C d_Who_increase_9 (by decide) (by unfold inI; omega) (by unfold inI; omega) (fun q9 => ?_) (fun q9 => ?_)
    · exact kk G _ (fun t ht => hG t (by omega))
    · exact absurd q9 (by omega)
  | succ j ih =>
    intro i G hi hG hG2
    have hc := adC_in hF hF2 i (by omega)
    have f1 := hF i (by omega)
    have f2 := hF2 i (by omega)
    have t1 : (i : Int).toNat = i := Int.toNat_natCast i
    refine V_iload C d_Who_increase_5 rfl ?_
    refine V_bipush (z := 8) C d_Who_increase_7 rfl ?_
    refine V_icmp_ge (tgt := 57) C d_Who_increase_9 (by decide) (by unfold inI; omega) (by unfold inI; omega) (fun q9 => ?_) (fun q9 => ?_)
    · exact absurd q9 (by omega)
    · have hk1 : hs h a (oJ d 8 G) k = some (oO 2 [.ref (b + a)]) := hs_at hk ha
      have hk3 : hs h a (oJ d 8 G) k2 = some (oO 2 [.ref (b + a2)]) := hs_at hk2 ha
      have ha3 : hs h a (oJ d 8 G) a2 = some (oJ d 8 F2) := by rw [hs_ne _ _ hne]; exact ha2
      refine V_aload_n C d_Who_increase_12 rfl rfl ?_
      refine V_get C 2 0 hk1 rfl in_Who (by decide) w_Who_increase_13 rfl rfl d_Who_increase_13 ?_
      refine V_iload C d_Who_increase_16 rfl ?_
      refine V_laload C (hs_eq _ _ _) (by omega) (by omega) (by decide) d_Who_increase_18 ?_
      rw [t1, hG2 i (Nat.le_refl i)]
      refine V_aload_n C d_Who_increase_19 rfl rfl ?_
      refine V_get C 2 0 hk3 rfl in_Who (by decide) w_Who_increase_20 rfl rfl d_Who_increase_20 ?_
      refine V_iload C d_Who_increase_23 rfl ?_
      refine V_laload C ha3 (by omega) (by omega) (by decide) d_Who_increase_25 ?_
      rw [t1]
      refine V_ladd C d_Who_increase_26 ?_
      refine V_lload_n C d_Who_increase_27 rfl rfl ?_
      refine V_ladd C d_Who_increase_28 ?_
      refine V_lstore C d_Who_increase_29 (by decide) rfl ?_
      refine V_aload_n C d_Who_increase_31 rfl rfl ?_
      refine V_get C 2 0 hk1 rfl in_Who (by decide) w_Who_increase_32 rfl rfl d_Who_increase_32 ?_
      refine V_iload C d_Who_increase_35 rfl ?_
      refine V_lload C d_Who_increase_37 rfl ?_
      refine V_ldc2 (z := 1000000000) C w_Who_increase_39 rfl d_Who_increase_39 ?_
      refine V_lremP C d_Who_increase_42 (by omega) (by omega) (by omega) (by omega) ?_
      refine V_lastore C (hs_eq _ _ _) (by omega) (by omega) (by decide) d_Who_increase_43 ?_
      refine V_lload C d_Who_increase_44 rfl ?_
      refine V_ldc2 (z := 1000000000) C w_Who_increase_46 rfl d_Who_increase_46 ?_
      refine V_ldivP C d_Who_increase_49 (by omega) (by omega) (by omega) (by omega) ?_
      refine V_lstore_n C d_Who_increase_50 rfl (by decide) rfl ?_
      refine V_iinc C d_Who_increase_51 rfl rfl (by decide) rfl ?_
      refine V_goto (tgt := 5) C d_Who_increase_54 (by decide) ?_
      rw [hs_hs, t1]
      refine V_loc (lv' := [(0, .ref (b + k)), (1, .ref (b + k2)), (2, vj (adC F F2 (i + 1))), (4, vi ((i + 1 : Nat) : Int))]) ⟨rfl, rfl, rfl, rfl, trivial⟩ ?_
      refine ih (i + 1) _ (by omega) (fun t ht => ?_) (fun t ht => ?_)
      · by_cases e1 : t = i
        · rw [e1, fu_eq]; rfl
        · rw [fu_ne _ _ e1]; exact hG t (by omega)
      · rw [fu_ne _ _ (by omega)]; exact hG2 t (by omega)
set_option maxHeartbeats 4000000 in
/-- increase: the number grows by the other's -/
theorem c_Who_increase (hl : yL l) {k a k2 a2 : Nat} {F F2 : Nat → Int} (hk : h k = some (oO 2 [.ref (b + a)])) (ha : h a = some (oJ d 8 F)) (hk2 : h k2 = some (oO 2 [.ref (b + a2)])) (ha2 : h a2 = some (oJ d 8 F2)) (hne : a2 ≠ a) (hF : dig F 8) (hF2 : dig F2 8) (hsm : vl F 8 + vl F2 8 < 1000000000 ^ 8) :
    yM l y_Who_increase b_Who_increase 7 none 0 0 0 0 d b n h [.ref (b + k), .ref (b + k2)] (fun r n' h' => r = none ∧ n' = n ∧ ∃ G, dig G 8 ∧ vl G 8 = vl F 8 + vl F2 8 ∧ h' = hs h a (oJ d 8 G)) noT := by
  refine yM_of hl (by decide +kernel) (Nat.le_of_ble_eq_true rfl) (fun p e s m args below meth c C => ?_)
  refine V_lconst (z := 0) C d_Who_increase_0 rfl ?_
  refine V_lstore_n C d_Who_increase_1 rfl (by decide) rfl ?_
  refine V_iconst C d_Who_increase_2 rfl ?_
  refine V_istore C d_Who_increase_3 (by decide) rfl ?_
  refine V_heq (hs_self ha) ?_
  refine V_loc (lv' := [(0, .ref (b + k)), (1, .ref (b + k2)), (2, vj (adC F F2 0)), (4, vi ((0 : Nat) : Int))]) ⟨rfl, rfl, rfl, rfl, trivial⟩ ?_
  refine Who_increase_loop C hk ha hk2 ha2 hne hF hF2 (fun G lv hG => ?_) 8 0 F (by omega) (fun t ht => absurd ht (by omega)) (fun t ht => rfl)
  exact V_return C d_Who_increase_57 (Nat.le_refl _) (Nat.le_refl _) ⟨rfl, rfl, G, fun t ht => by rw [hG t ht]; exact ad_dig F F2 8 t ht, by rw [vl_congr hG]; exact ad_all hF hF2 hsm, rfl⟩
set_option maxHeartbeats 4000000 in
theorem Who_scaled_loop (C : yC p l s m args meth c y_Who_becomeScaled b_Who_becomeScaled 9 none [] d b) {k a k2 a2 : Nat} {F F2 : Nat → Int} {f : Int} (hk : h k = some (oO 2 [.ref (b + a)])) (ha : h a = some (oJ d 8 F)) (hk2 : h k2 = some (oO 2 [.ref (b + a2)])) (ha2 : h a2 = some (oJ d 8 F2)) (hne : a2 ≠ a) (hF2 : dig F2 8) (hf0 : 0 ≤ f) (hf1 : f ≤ 1000000000)
    (kk : ∀ (G : Nat → Int) (lv : List (Nat × Value)), (∀ t, t < 8 → G t = scD F2 f t) → V p l e R s m args below meth c 9 d b Q cells slots n (hs h a (oJ d 8 G)) 54 lv []) :
    ∀ (j i : Nat) (G : Nat → Int), i + j = 8 → (∀ t, t < i → G t = scD F2 f t) → V p l e R s m args below meth c 9 d b Q cells slots n (hs h a (oJ d 8 G)) 6 [(0, .ref (b + k)), (1, .ref (b + k2)), (2, vj f), (4, vj (scC F2 f i)), (6, vi i)] [] := by
  intro j
  induction j with
  | zero =>
    intro i G hi hG
    refine V_iload C d_Who_becomeScaled_6 rfl ?_
    refine V_bipush (z := 8) C d_Who_becomeScaled_8 rfl ?_
    refine V_icmp_ge (tgt := 54) C d_Who_becomeScaled_10 (by decide) (by unfold inI; omega) (by unfold inI; omega) (fun q10 => ?_) (fun q10 => ?_)
    · exact kk G _ (fun t ht => hG t (by omega))
    · exact absurd q10 (by omega)
  | succ j ih =>
    intro i G hi hG
    have hc := scC_in hF2 hf0 i (by omega)
    have f2 := hF2 i (by omega)
    have g1 : 0 ≤ F2 i * f := Int.mul_nonneg f2.1 hf0
    have g2 : F2 i * f ≤ 999999999 * f := Int.mul_le_mul_of_nonneg_right (by omega) hf0
    have t1 : (i : Int).toNat = i := Int.toNat_natCast i
    refine V_iload C d_Who_becomeScaled_6 rfl ?_
    refine V_bipush (z := 8) C d_Who_becomeScaled_8 rfl ?_
    refine V_icmp_ge (tgt := 54) C d_Who_becomeScaled_10 (by decide) (by unfold inI; omega) (by unfold inI; omega) (fun q10 => ?_) (fun q10 => ?_)
    · exact absurd q10 (by omega)
    · have hk1 : hs h a (oJ d 8 G) k = some (oO 2 [.ref (b + a)]) := hs_at hk ha
      have hk3 : hs h a (oJ d 8 G) k2 = some (oO 2 [.ref (b + a2)]) := hs_at hk2 ha
      have ha3 : hs h a (oJ d 8 G) a2 = some (oJ d 8 F2) := by rw [hs_ne _ _ hne]; exact ha2
      refine V_aload_n C d_Who_becomeScaled_13 rfl rfl ?_
      refine V_get C 2 0 hk3 rfl in_Who (by decide) w_Who_becomeScaled_14 rfl rfl d_Who_becomeScaled_14 ?_
      refine V_iload C d_Who_becomeScaled_17 rfl ?_
      refine V_laload C ha3 (by omega) (by omega) (by decide) d_Who_becomeScaled_19 ?_
      rw [t1]
      refine V_lload_n C d_Who_becomeScaled_20 rfl rfl ?_
      refine V_lmul C d_Who_becomeScaled_21 ?_
      refine V_lload C d_Who_becomeScaled_22 rfl ?_
      refine V_ladd C d_Who_becomeScaled_24 ?_
      refine V_lstore C d_Who_becomeScaled_25 (by decide) rfl ?_
      refine V_aload_n C d_Who_becomeScaled_27 rfl rfl ?_
      refine V_get C 2 0 hk1 rfl in_Who (by decide) w_Who_becomeScaled_28 rfl rfl d_Who_becomeScaled_28 ?_
      refine V_iload C d_Who_becomeScaled_31 rfl ?_
      refine V_lload C d_Who_becomeScaled_33 rfl ?_
      refine V_ldc2 (z := 1000000000) C w_Who_becomeScaled_35 rfl d_Who_becomeScaled_35 ?_
      refine V_lremP C d_Who_becomeScaled_38 (by omega) (by omega) (by omega) (by omega) ?_
      refine V_lastore C (hs_eq _ _ _) (by omega) (by omega) (by decide) d_Who_becomeScaled_39 ?_
      refine V_lload C d_Who_becomeScaled_40 rfl ?_
      refine V_ldc2 (z := 1000000000) C w_Who_becomeScaled_42 rfl d_Who_becomeScaled_42 ?_
      refine V_ldivP C d_Who_becomeScaled_45 (by omega) (by omega) (by omega) (by omega) ?_
      refine V_lstore C d_Who_becomeScaled_46 (by decide) rfl ?_
      refine V_iinc C d_Who_becomeScaled_48 rfl rfl (by decide) rfl ?_
      refine V_goto (tgt := 6) C d_Who_becomeScaled_51 (by decide) ?_
      rw [hs_hs, t1]
      refine V_loc (lv' := [(0, .ref (b + k)), (1, .ref (b + k2)), (2, vj f), (4, vj (scC F2 f (i + 1))), (6, vi ((i + 1 : Nat) : Int))]) ⟨rfl, rfl, rfl, rfl, rfl, trivial⟩ ?_
      refine ih (i + 1) _ (by omega) (fun t ht => ?_)
      by_cases e1 : t = i
      · rw [e1, fu_eq]; rfl
      · rw [fu_ne _ _ e1]; exact hG t (by omega)
set_option maxHeartbeats 4000000 in
/-- becomeScaled: the number is the other's times a factor -/
theorem c_Who_becomeScaled (hl : yL l) {k a k2 a2 : Nat} {F F2 : Nat → Int} {f : Int} (hk : h k = some (oO 2 [.ref (b + a)])) (ha : h a = some (oJ d 8 F)) (hk2 : h k2 = some (oO 2 [.ref (b + a2)])) (ha2 : h a2 = some (oJ d 8 F2)) (hne : a2 ≠ a) (hF2 : dig F2 8) (hf0 : 0 ≤ f) (hf1 : f ≤ 1000000000) (hsm : vl F2 8 * f < 1000000000 ^ 8) :
    yM l y_Who_becomeScaled b_Who_becomeScaled 9 none 0 0 0 0 d b n h [.ref (b + k), .ref (b + k2), vj f] (fun r n' h' => r = none ∧ n' = n ∧ ∃ G, dig G 8 ∧ vl G 8 = vl F2 8 * f ∧ h' = hs h a (oJ d 8 G)) noT := by
  refine yM_of hl (by decide +kernel) (Nat.le_of_ble_eq_true rfl) (fun p e s m args below meth c C => ?_)
  refine V_lconst (z := 0) C d_Who_becomeScaled_0 rfl ?_
  refine V_lstore C d_Who_becomeScaled_1 (by decide) rfl ?_
  refine V_iconst C d_Who_becomeScaled_3 rfl ?_
  refine V_istore C d_Who_becomeScaled_4 (by decide) rfl ?_
  refine V_heq (hs_self ha) ?_
  refine V_loc (lv' := [(0, .ref (b + k)), (1, .ref (b + k2)), (2, vj f), (4, vj (scC F2 f 0)), (6, vi ((0 : Nat) : Int))]) ⟨rfl, rfl, rfl, rfl, rfl, trivial⟩ ?_
  refine Who_scaled_loop C hk ha hk2 ha2 hne hF2 hf0 hf1 (fun G lv hG => ?_) 8 0 F (by omega) (fun t ht => absurd ht (by omega))
  exact V_return C d_Who_becomeScaled_54 (Nat.le_refl _) (Nat.le_refl _) ⟨rfl, rfl, G, fun t ht => by rw [hG t ht]; exact sc_dig F2 f 8 t ht, by rw [vl_congr hG]; exact sc_all hF2 hf0 hsm, rfl⟩
set_option maxHeartbeats 4000000 in
theorem Who_divide_loop (C : yC p l s m args meth c y_Who_divide b_Who_divide 7 (some .long) [] d b) {k a : Nat} {F : Nat → Int} {u : Int} (hk : h k = some (oO 2 [.ref (b + a)])) (ha : h a = some (oJ d 8 F)) (hF : dig F 8) (hu0 : 0 < u) (hu1 : u ≤ 1000000000)
    (kk : ∀ (G : Nat → Int) (lv : List (Nat × Value)), (∀ t, t < 8 → G t = dvQ F u t) → lk lv 2 = some (vj (dvR F u 8)) → V p l e R s m args below meth c 7 d b Q cells slots n (hs h a (oJ d 8 G)) 50 lv []) :
    ∀ (j : Nat) (G : Nat → Int), j ≤ 8 → (∀ t, j ≤ t → t < 8 → G t = dvQ F u t) → (∀ t, t < j → G t = F t) → V p l e R s m args below meth c 7 d b Q cells slots n (hs h a (oJ d 8 G)) 6 [(0, .ref (b + k)), (1, vi u), (2, vj (dvR F u (8 - j))), (4, vi ((j : Int) - 1))] [] := by
  intro j
  induction j with
  | zero =>
    intro G hj hG hG2
    refine V_iload C d_Who_divide_6 rfl ?_
    refine V_if_lt (tgt := 50) C d_Who_divide_8 (by decide) (by unfold inI; omega) (fun q8 => ?_) (fun q8 => ?_)
    · exact kk G _ (fun t ht => hG t (by omega) ht) rfl
    · exact absurd q8 (by omega)
  | succ j ih =>
    intro G hj hG hG2
    have hc := dvR_in (q := F) hu0 (7 - j)
    have f1 := hF j (by omega)
    have g1 : dvR F u (8 - (j + 1)) = dvR F u (7 - j) := by rw [show 8 - (j + 1) = 7 - j by omega]
    have g2 : ((j + 1 : Nat) : Int) - 1 = j := by omega
    have t1 : (j : Int).toNat = j := Int.toNat_natCast j
    rw [g1, g2]
    refine V_iload C d_Who_divide_6 rfl ?_
    refine V_if_lt (tgt := 50) C d_Who_divide_8 (by decide) (by unfold inI; omega) (fun q8 => ?_) (fun q8 => ?_)
    · exact absurd q8 (by omega)
    · have hk1 : hs h a (oJ d 8 G) k = some (oO 2 [.ref (b + a)]) := hs_at hk ha
      refine V_lload_n C d_Who_divide_11 rfl rfl ?_
      refine V_ldc2 (z := 1000000000) C w_Who_divide_12 rfl d_Who_divide_12 ?_
      refine V_lmul C d_Who_divide_15 ?_
      refine V_aload_n C d_Who_divide_16 rfl rfl ?_
      refine V_get C 2 0 hk1 rfl in_Who (by decide) w_Who_divide_17 rfl rfl d_Who_divide_17 ?_
      refine V_iload C d_Who_divide_20 rfl ?_
      refine V_laload C (hs_eq _ _ _) (by omega) (by omega) (by decide) d_Who_divide_22 ?_
      rw [t1, hG2 j (Nat.lt_succ_self j)]
      refine V_ladd C d_Who_divide_23 ?_
      refine V_lstore C d_Who_divide_24 (by decide) rfl ?_
      refine V_aload_n C d_Who_divide_26 rfl rfl ?_
      refine V_get C 2 0 hk1 rfl in_Who (by decide) w_Who_divide_27 rfl rfl d_Who_divide_27 ?_
      refine V_iload C d_Who_divide_30 rfl ?_
      refine V_lload C d_Who_divide_32 rfl ?_
      refine V_iload_n C d_Who_divide_34 rfl rfl ?_
      refine V_i2l C d_Who_divide_35 (by unfold inI; omega) ?_
      refine V_ldivP C d_Who_divide_36 (by omega) (by omega) (by omega) (by omega) ?_
      refine V_lastore C (hs_eq _ _ _) (by omega) (by omega) (by decide) d_Who_divide_37 ?_
      refine V_lload C d_Who_divide_38 rfl ?_
      refine V_iload_n C d_Who_divide_40 rfl rfl ?_
      refine V_i2l C d_Who_divide_41 (by unfold inI; omega) ?_
      refine V_lremP C d_Who_divide_42 (by omega) (by omega) (by omega) (by omega) ?_
      refine V_lstore_n C d_Who_divide_43 rfl (by decide) rfl ?_
      refine V_iinc C d_Who_divide_44 rfl rfl (by decide) rfl ?_
      refine V_goto (tgt := 6) C d_Who_divide_47 (by decide) ?_
      rw [hs_hs, t1]
      refine V_loc (lv' := [(0, .ref (b + k)), (1, vi u), (2, vj (dvR F u (8 - j))), (4, vi ((j : Int) - 1))]) ⟨rfl, rfl, ?_, rfl, trivial⟩ ?_
      · rw [show 8 - j = (7 - j) + 1 by omega]
        show _ = some (vj ((dvR F u (7 - j) * 1000000000 + F (7 - (7 - j))) % u))
        rw [show 7 - (7 - j) = j by omega]
        rfl
      · refine ih _ (by omega) (fun t h1 h2 => ?_) (fun t h1 => ?_)
        · by_cases e1 : t = j
          · rw [e1, fu_eq]; rfl
          · rw [fu_ne _ _ e1]; exact hG t (by omega) h2
        · rw [fu_ne _ _ (by omega)]; exact hG2 t (by omega)
set_option maxHeartbeats 4000000 in
/-- divide: the quotient stays, the rest is the answer -/
theorem c_Who_divide (hl : yL l) {k a : Nat} {F : Nat → Int} {u : Int} (hk : h k = some (oO 2 [.ref (b + a)])) (ha : h a = some (oJ d 8 F)) (hF : dig F 8) (hu0 : 0 < u) (hu1 : u ≤ 1000000000) :
    yM l y_Who_divide b_Who_divide 7 (some .long) 0 0 0 0 d b n h [.ref (b + k), vi u] (fun r n' h' => n' = n ∧ r = some (vj (vl F 8 % u)) ∧ ∃ G, dig G 8 ∧ vl G 8 = vl F 8 / u ∧ h' = hs h a (oJ d 8 G)) noT := by
  refine yM_of hl (by decide +kernel) (Nat.le_of_ble_eq_true rfl) (fun p e s m args below meth c C => ?_)
  have hv := dv_val (q := F) (u := u) 8 (Nat.le_refl 8)
  rw [hk8_vl, hk8_vl] at hv
  have hr := dvR_in (q := F) hu0 8
  have e1 : vl F 8 % u = dvR F u 8 := by
    rw [← hv, Int.add_comm, Int.add_mul_emod_self_right, Int.emod_eq_of_lt hr.1 hr.2]
  have e2 : vl F 8 / u = vl (dvQ F u) 8 := by
    rw [← hv, Int.add_comm, Int.add_mul_ediv_right _ _ (by omega), Int.ediv_eq_zero_of_lt hr.1 hr.2, Int.zero_add]
  refine V_lconst (z := 0) C d_Who_divide_0 rfl ?_
  refine V_lstore_n C d_Who_divide_1 rfl (by decide) rfl ?_
  refine V_bipush (z := 7) C d_Who_divide_2 rfl ?_
  refine V_istore C d_Who_divide_4 (by decide) rfl ?_
  refine V_heq (hs_self ha) ?_
  refine V_loc (lv' := [(0, .ref (b + k)), (1, vi u), (2, vj (dvR F u (8 - 8))), (4, vi (((8 : Nat) : Int) - 1))]) ⟨rfl, rfl, rfl, rfl, trivial⟩ ?_
  refine Who_divide_loop C hk ha hF hu0 hu1 (fun G lv hG hlv => ?_) 8 F (Nat.le_refl 8) (fun t h1 h2 => absurd h1 (by omega)) (fun t ht => rfl)
  refine V_lload_n C d_Who_divide_50 rfl hlv ?_
  exact V_lreturn C d_Who_divide_51 (Nat.le_refl _) (Nat.le_refl _) ⟨rfl, by rw [e1], G, fun t ht => by rw [hG t ht]; exact dv_dig hu0 hF t ht, by rw [vl_congr hG, e2], rfl⟩
end Who2
