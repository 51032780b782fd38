section ModE
variable {p : Program} {l : Launch} {e : Env} {R : Room} {s : State} {m : MethodId} {args : Array Value} {below : List Frame} {meth : Method} {c : Code} {d : yD} {b : Nat} {Q : State → Prop} {cells slots n : Nat} {h : yH}
variable {y0 : YS} {v : Vw}
set_option maxHeartbeats 1000000 in
theorem Mod_divide_loop (C : yC p l s m args meth c y_Mod_divide b_Mod_divide 5 (some .long) [] d b) {u : Int} (hu : 1 ≤ u ∧ u ≤ 1000000000) (dw : dgt y0.wd 80)
    (kk : ∀ (G : Nat → Int) (h' : yH), (∀ t, t < 80 → G t = tdQ y0.wd u 80 t) → AtM d b (y0.s_wd G) h' → FrM h h' → V p l e R s m args below meth c 5 d b Q cells slots n h' 49 [(2, vj (tdR y0.wd u 80 80))] []) :
    ∀ (j i : Nat) (G : Nat → Int) (h' : yH), i + j = 80 → (∀ t, 80 - i ≤ t → t < 80 → G t = tdQ y0.wd u 80 t) → (∀ t, t < 80 - i → G t = y0.wd t) → AtM d b (y0.s_wd G) h' → FrM h h' → V p l e R s m args below meth c 5 d b Q cells slots n h' 6 [(0, .ref (b + 29)), (1, vi u), (2, vj (tdR y0.wd u 80 i)), (4, vi (79 - (i : Int)))] [] := by
  intro j
  induction j with
  | zero =>
    intro i G h' hi hG hG2 A F
    have e0 : i = 80 := by omega
    subst e0
    refine V_iload C d_Mod_divide_6 rfl ?_
    refine V_if_lt (tgt := 49) C d_Mod_divide_8 (by decide) (by unfold inI; omega) (fun q8 => ?_) (fun q8 => ?_)
    · exact V_loc2 (kk G h' (fun t ht => hG t (by omega) ht) A F) ⟨rfl, trivial⟩
    · exact absurd q8 (by omega)
  | succ j ih =>
    intro i G h' hi hG hG2 A F
    have r1 := tdR_in (q := y0.wd) (u := u) (N := 80) (by omega) i
    have w1 := dw (79 - i) (by omega)
    have aw : h' 35 = some (oI d 80 G) := A.w
    have ti : (79 - (i : Int)).toNat = 79 - i := by omega
    have dq1 : 0 ≤ (tdR y0.wd u 80 i * 10 + y0.wd (79 - i)) / u := Int.ediv_nonneg (by omega) (by omega)
    refine V_iload C d_Mod_divide_6 rfl ?_
    refine V_if_lt (tgt := 49) C d_Mod_divide_8 (by decide) (by unfold inI; omega) (fun q8 => ?_) (fun q8 => ?_)
    · exact absurd q8 (by omega)
    · refine V_lload_n C d_Mod_divide_11 rfl rfl ?_
      refine V_ldc2 (z := 10) C w_Mod_divide_12 rfl d_Mod_divide_12 ?_
      refine V_lmul C d_Mod_divide_15 ?_
      refine V_aload_n C d_Mod_divide_16 rfl rfl ?_
      refine V_get C 4 9 A.o rfl in_Mod (by decide) w_Mod_divide_17 rfl rfl d_Mod_divide_17 ?_
      refine V_iload C d_Mod_divide_20 rfl ?_
      refine V_iaload C aw (by omega) (by omega) (by decide) d_Mod_divide_22 ?_
      rw [ti, hG2 (79 - i) (by omega)]
      refine V_i2l C d_Mod_divide_23 (by unfold inI; omega) ?_
      refine V_ladd C d_Mod_divide_24 ?_
      refine V_lstore_n C d_Mod_divide_25 rfl (by decide) rfl ?_
      refine V_aload_n C d_Mod_divide_26 rfl rfl ?_
      refine V_get C 4 9 A.o rfl in_Mod (by decide) w_Mod_divide_27 rfl rfl d_Mod_divide_27 ?_
      refine V_iload C d_Mod_divide_30 rfl ?_
      refine V_lload_n C d_Mod_divide_32 rfl rfl ?_
      refine V_iload_n C d_Mod_divide_33 rfl rfl ?_
      refine V_i2l C d_Mod_divide_34 (by unfold inI; omega) ?_
      refine V_ldivP C d_Mod_divide_35 (by omega) (by omega) (by omega) (by omega) ?_
      refine V_l2i C d_Mod_divide_36 ?_
      refine V_iastore C aw (by omega) (by omega) (by decide) d_Mod_divide_37 ?_
      refine V_lload_n C d_Mod_divide_38 rfl rfl ?_
      refine V_iload_n C d_Mod_divide_39 rfl rfl ?_
      refine V_i2l C d_Mod_divide_40 (by unfold inI; omega) ?_
      refine V_lremP C d_Mod_divide_41 (by omega) (by omega) (by omega) (by omega) ?_
      refine V_lstore_n C d_Mod_divide_42 rfl (by decide) rfl ?_
      refine V_iinc C d_Mod_divide_43 rfl rfl (by decide) rfl ?_
      refine V_goto (tgt := 6) C d_Mod_divide_46 (by decide) ?_
      rw [ti]
      refine V_loc2 (ih (i + 1) (fu G (79 - i) ((tdR y0.wd u 80 i * 10 + y0.wd (79 - i)) / u)) _ (by omega) (fun t h1 h2 => ?_) (fun t ht => ?_) (A.setW _) (F.set (by omega) _)) ⟨rfl, rfl, ?_, ?_, trivial⟩
      · by_cases e1 : t = 79 - i
        · rw [e1, fu_eq]
          show _ = (tdR y0.wd u 80 (80 - 1 - (79 - i)) * 10 + y0.wd (79 - i)) / u
          rw [show 80 - 1 - (79 - i) = i by omega]
        · rw [fu_ne _ _ e1]; exact hG t (by omega) h2
      · rw [fu_ne _ _ (by omega)]; exact hG2 t (by omega)
      · show some (vj ((tdR y0.wd u 80 i * 10 + y0.wd (79 - i)) % u)) = some (vj ((tdR y0.wd u 80 i * 10 + y0.wd (80 - 1 - i)) % u))
        rw [show 80 - 1 - i = 79 - i by omega]
      · show some (vi (79 - (i : Int) + -1)) = some (vi (79 - ((i + 1 : Nat) : Int)))
        rw [show 79 - (i : Int) + -1 = 79 - ((i + 1 : Nat) : Int) by omega]
set_option maxHeartbeats 1000000 in
theorem c_Mod_divide (hl : yL l) (A : AtM d b y0 h) {u : Int} (hu : 1 ≤ u ∧ u ≤ 1000000000) (dw : dgt y0.wd 80) : yM l y_Mod_divide b_Mod_divide 5 (some .long) 0 0 0 0 d b n h [.ref (b + 29), vi u] (fun q n' h' => n' = n ∧ FrM h h' ∧ q = some (vj (wl y0.wd 80 % u)) ∧ ∃ G, dgt G 80 ∧ wl G 80 = wl y0.wd 80 / u ∧ AtM d b (y0.s_wd G) h') noT := by
  refine yM_of hl (by decide +kernel) (Nat.le_of_ble_eq_true rfl) (fun p e s m args below meth c C => ?_)
  have ta := td_all (q := y0.wd) (u := u) (N := 80) (by omega)
  refine V_lconst (z := 0) C d_Mod_divide_0 rfl ?_
  refine V_lstore_n C d_Mod_divide_1 rfl (by decide) rfl ?_
  refine V_bipush (z := 79) C d_Mod_divide_2 rfl ?_
  refine V_istore C d_Mod_divide_4 (by decide) rfl ?_
  refine V_loc2 (Mod_divide_loop (y0 := y0) C hu dw (fun G h' k1 k2 k3 => ?_) 80 0 y0.wd h (by omega) (fun t h1 h2 => absurd h1 (by omega)) (fun t ht => rfl) A FrM.rfl) ⟨rfl, rfl, rfl, rfl, trivial⟩
  refine V_lload_n C d_Mod_divide_49 rfl rfl ?_
  exact V_lreturn C d_Mod_divide_50 (Nat.le_refl _) (Nat.le_refl _) ⟨rfl, k3, by rw [ta.2], G, fun t ht => by rw [k1 t ht]; exact td_dig (by omega) dw t ht, by rw [wl_congr k1, ta.1], k2⟩
set_option maxHeartbeats 1000000 in
theorem Mod_grow_loop (C : yC p l s m args meth c y_Mod_grow b_Mod_grow 7 none [] d b) {u : Int} (hu : 0 ≤ u ∧ u ≤ 1000000) (dw : dgt y0.wd 80)
    (kk : ∀ (G : Nat → Int) (h' : yH) (lv : List (Nat × Value)), (∀ t, t < 80 → G t = tsD y0.wd u t) → AtM d b (y0.s_wd G) h' → FrM h h' → V p l e R s m args below meth c 7 d b Q cells slots n h' 54 lv []) :
    ∀ (j i : Nat) (G : Nat → Int) (h' : yH), i + j = 80 → (∀ t, t < i → G t = tsD y0.wd u t) → (∀ t, i ≤ t → G t = y0.wd t) → AtM d b (y0.s_wd G) h' → FrM h h' → V p l e R s m args below meth c 7 d b Q cells slots n h' 5 [(0, .ref (b + 29)), (1, vi u), (2, vj (tsC y0.wd u i)), (4, vi i)] [] := by
  intro j
  induction j with
  | zero =>
    intro i G h' hi hG hG2 A F
    refine V_iload C d_Mod_grow_5 rfl ?_
    refine V_bipush (z := 80) C d_Mod_grow_7 rfl ?_
    refine V_icmp_ge (tgt := 54) C d_Mod_grow_9 (by decide) (by unfold inI; omega) (by unfold inI; omega) (fun q9 => ?_) (fun q9 => ?_)
    · exact kk G h' _ (fun t ht => hG t (by omega)) A F
    · exact absurd q9 (by omega)
  | succ j ih =>
    intro i G h' hi hG hG2 A F
    have c1 := tsC_in dw hu.1 i (by omega)
    have w1 := dw i (by omega)
    have aw : h' 35 = some (oI d 80 G) := A.w
    have p1 : 0 ≤ y0.wd i * u := Int.mul_nonneg w1.1 hu.1
    have p2 : y0.wd i * u ≤ 9 * u := Int.mul_le_mul_of_nonneg_right (by omega) hu.1
    refine V_iload C d_Mod_grow_5 rfl ?_
    refine V_bipush (z := 80) C d_Mod_grow_7 rfl ?_
    refine V_icmp_ge (tgt := 54) C d_Mod_grow_9 (by decide) (by unfold inI; omega) (by unfold inI; omega) (fun q9 => ?_) (fun q9 => ?_)
    · exact absurd q9 (by omega)
    · refine V_aload_n C d_Mod_grow_12 rfl rfl ?_
      refine V_get C 4 9 A.o rfl in_Mod (by decide) w_Mod_grow_13 rfl rfl d_Mod_grow_13 ?_
      refine V_iload C d_Mod_grow_16 rfl ?_
      refine V_iaload C aw (by omega) (by omega) (by decide) d_Mod_grow_18 ?_
      rw [Int.toNat_natCast, hG2 i (Nat.le_refl _)]
      refine V_i2l C d_Mod_grow_19 (by unfold inI; omega) ?_
      refine V_iload_n C d_Mod_grow_20 rfl rfl ?_
      refine V_i2l C d_Mod_grow_21 (by unfold inI; omega) ?_
      refine V_lmul C d_Mod_grow_22 ?_
      refine V_lload_n C d_Mod_grow_23 rfl rfl ?_
      refine V_ladd C d_Mod_grow_24 ?_
      refine V_lstore C d_Mod_grow_25 (by decide) rfl ?_
      refine V_aload_n C d_Mod_grow_27 rfl rfl ?_
      refine V_get C 4 9 A.o rfl in_Mod (by decide) w_Mod_grow_28 rfl rfl d_Mod_grow_28 ?_
      refine V_iload C d_Mod_grow_31 rfl ?_
      refine V_lload C d_Mod_grow_33 rfl ?_
      refine V_ldc2 (z := 10) C w_Mod_grow_35 rfl d_Mod_grow_35 ?_
      refine V_lremP C d_Mod_grow_38 (by omega) (by omega) (by omega) (by omega) ?_
      refine V_l2i C d_Mod_grow_39 ?_
      refine V_iastore C aw (by omega) (by omega) (by decide) d_Mod_grow_40 ?_
      refine V_lload C d_Mod_grow_41 rfl ?_
      refine V_ldc2 (z := 10) C w_Mod_grow_43 rfl d_Mod_grow_43 ?_
      refine V_ldivP C d_Mod_grow_46 (by omega) (by omega) (by omega) (by omega) ?_
      refine V_lstore_n C d_Mod_grow_47 rfl (by decide) rfl ?_
      refine V_iinc C d_Mod_grow_48 rfl rfl (by decide) rfl ?_
      refine V_goto (tgt := 5) C d_Mod_grow_51 (by decide) ?_
      rw [Int.toNat_natCast]
      refine V_loc2 (ih (i + 1) (fu G i ((y0.wd i * u + tsC y0.wd u i) % 10)) _ (by omega) (fun t ht => ?_) (fun t ht => ?_) (A.setW _) (F.set (by omega) _)) ⟨rfl, rfl, rfl, rfl, trivial⟩
      · by_cases e1 : t = i
        · rw [e1, fu_eq]; rfl
        · rw [fu_ne _ _ e1]; exact hG t (by omega)
      · rw [fu_ne _ _ (by omega)]; exact hG2 t (by omega)
set_option maxHeartbeats 1000000 in
theorem c_Mod_grow (hl : yL l) (A : AtM d b y0 h) {u : Int} (hu : 0 ≤ u ∧ u ≤ 1000000) (dw : dgt y0.wd 80) (hsm : wl y0.wd 80 * u < 10 ^ 80) : yM l y_Mod_grow b_Mod_grow 7 none 0 0 0 0 d b n h [.ref (b + 29), vi u] (fun q n' h' => q = none ∧ n' = n ∧ FrM h h' ∧ ∃ G, dgt G 80 ∧ wl G 80 = wl y0.wd 80 * u ∧ AtM d b (y0.s_wd G) h') noT := by
  refine yM_of hl (by decide +kernel) (Nat.le_of_ble_eq_true rfl) (fun p e s m args below meth c C => ?_)
  refine V_lconst (z := 0) C d_Mod_grow_0 rfl ?_
  refine V_lstore_n C d_Mod_grow_1 rfl (by decide) rfl ?_
  refine V_iconst C d_Mod_grow_2 rfl ?_
  refine V_istore C d_Mod_grow_3 (by decide) rfl ?_
  refine V_loc2 (Mod_grow_loop (y0 := y0) C hu dw (fun G h' lv k1 k2 k3 => ?_) 80 0 y0.wd h (by omega) (fun t ht => absurd ht (by omega)) (fun t ht => rfl) A FrM.rfl) ⟨rfl, rfl, rfl, rfl, trivial⟩
  exact V_return C d_Mod_grow_54 (Nat.le_refl _) (Nat.le_refl _) ⟨rfl, rfl, k3, G, fun t ht => by rw [k1 t ht]; exact ts_dig _ _ 80 t ht, by rw [wl_congr k1, ts_all dw hu.1 hsm], k2⟩
set_option maxHeartbeats 1000000 in
theorem Mod_cmp_loop (C : yC p l s m args meth c y_Mod_compared b_Mod_compared 4 (some .int) [] d b) {post : Option Value → Nat → yH → Prop} (A : AtM d b y0 h) (dd : dgt y0.D 13824) {a1 a2 : Nat} (h1 : a1 + 36 ≤ 13824) (h2 : a2 + 36 ≤ 13824) (hp : post (some (vi (cz (wl (fun k => y0.D (a1 + k)) 36) (wl (fun k => y0.D (a2 + k)) 36)))) n h) :
    ∀ (j : Nat), j ≤ 36 → (∀ t, j ≤ t → t < 36 → y0.D (a1 + t) = y0.D (a2 + t)) → V p l e R s m args below meth c 4 d b (yEnd below s args d b post noT 0 0) 0 0 n h 3 [(0, .ref (b + 29)), (1, vi a1), (2, vi a2), (3, vi ((j : Int) - 1))] [] := by
  have d1 : dgt (fun k => y0.D (a1 + k)) 36 := fun k hk => dd _ (by omega)
  have d2 : dgt (fun k => y0.D (a2 + k)) 36 := fun k hk => dd _ (by omega)
  intro j
  induction j with
  | zero =>
    intro hj hG
    refine V_iload_n C d_Mod_compared_3 rfl rfl ?_
    refine V_if_lt (tgt := 57) C d_Mod_compared_4 (by decide) (by unfold inI; omega) (fun q4 => ?_) (fun q4 => ?_)
    · have e1 : cz (wl (fun k => y0.D (a1 + k)) 36) (wl (fun k => y0.D (a2 + k)) 36) = 0 := by rw [wl_congr (fun t ht => hG t (by omega) ht), cz_0]
      rw [e1] at hp
      refine V_iconst C d_Mod_compared_57 rfl ?_
      exact V_ireturn C d_Mod_compared_58 (Nat.le_refl _) (Nat.le_refl _) hp
    · exact absurd q4 (by omega)
  | succ j ih =>
    intro hj hG
    have f1 := dd (a1 + j) (by omega)
    have f2 := dd (a2 + j) (by omega)
    have g2 : ((j + 1 : Nat) : Int) - 1 = j := by omega
    have t1 : ((a1 : Int) + (j : Int)).toNat = a1 + j := by omega
    have t2 : ((a2 : Int) + (j : Int)).toNat = a2 + j := by omega
    rw [g2]
    refine V_iload_n C d_Mod_compared_3 rfl rfl ?_
    refine V_if_lt (tgt := 57) C d_Mod_compared_4 (by decide) (by unfold inI; omega) (fun q4 => ?_) (fun q4 => ?_)
    · exact absurd q4 (by omega)
    · refine V_aload_n C d_Mod_compared_7 rfl rfl ?_
      refine V_get C 4 4 A.o rfl in_Mod (by decide) w_Mod_compared_8 rfl rfl d_Mod_compared_8 ?_
      refine V_iload_n C d_Mod_compared_11 rfl rfl ?_
      refine V_iload_n C d_Mod_compared_12 rfl rfl ?_
      refine V_iadd C d_Mod_compared_13 ?_
      refine V_iaload C A.g (by omega) (by omega) (by decide) d_Mod_compared_14 ?_
      refine V_aload_n C d_Mod_compared_15 rfl rfl ?_
      refine V_get C 4 4 A.o rfl in_Mod (by decide) w_Mod_compared_16 rfl rfl d_Mod_compared_16 ?_
      refine V_iload_n C d_Mod_compared_19 rfl rfl ?_
      refine V_iload_n C d_Mod_compared_20 rfl rfl ?_
      refine V_iadd C d_Mod_compared_21 ?_
      refine V_iaload C A.g (by omega) (by omega) (by decide) d_Mod_compared_22 ?_
      rw [t1, t2]
      refine V_icmp_eq (tgt := 51) C d_Mod_compared_23 (by decide) (by unfold inI; omega) (by unfold inI; omega) (fun q23 => ?_) (fun q23 => ?_)
      · refine V_iinc C d_Mod_compared_51 rfl rfl (by decide) rfl ?_
        refine V_goto (tgt := 3) C d_Mod_compared_54 (by decide) ?_
        exact V_loc2 (ih (by omega) (fun t h1 h2 => by
          by_cases e1 : t = j
          · rw [e1]; exact q23
          · exact hG t (by omega) h2)) ⟨rfl, rfl, rfl, rfl, trivial⟩
      · refine V_aload_n C d_Mod_compared_26 rfl rfl ?_
        refine V_get C 4 4 A.o rfl in_Mod (by decide) w_Mod_compared_27 rfl rfl d_Mod_compared_27 ?_
        refine V_iload_n C d_Mod_compared_30 rfl rfl ?_
        refine V_iload_n C d_Mod_compared_31 rfl rfl ?_
        refine V_iadd C d_Mod_compared_32 ?_
        refine V_iaload C A.g (by omega) (by omega) (by decide) d_Mod_compared_33 ?_
        refine V_aload_n C d_Mod_compared_34 rfl rfl ?_
        refine V_get C 4 4 A.o rfl in_Mod (by decide) w_Mod_compared_35 rfl rfl d_Mod_compared_35 ?_
        refine V_iload_n C d_Mod_compared_38 rfl rfl ?_
        refine V_iload_n C d_Mod_compared_39 rfl rfl ?_
        refine V_iadd C d_Mod_compared_40 ?_
        refine V_iaload C A.g (by omega) (by omega) (by decide) d_Mod_compared_41 ?_
        rw [t1, t2]
        refine V_icmp_ge (tgt := 49) C d_Mod_compared_42 (by decide) (by unfold inI; omega) (by unfold inI; omega) (fun q42 => ?_) (fun q42 => ?_)
        · have e1 : cz (wl (fun k => y0.D (a1 + k)) 36) (wl (fun k => y0.D (a2 + k)) 36) = 1 := cz_1 (wl_lt j (by omega) d2 d1 (by show y0.D (a2 + j) < y0.D (a1 + j); omega) (fun t h1 h2 => (hG t (by omega) h2).symm))
          rw [e1] at hp
          refine V_iconst C d_Mod_compared_49 rfl ?_
          exact V_ireturn C d_Mod_compared_50 (Nat.le_refl _) (Nat.le_refl _) hp
        · have e1 : cz (wl (fun k => y0.D (a1 + k)) 36) (wl (fun k => y0.D (a2 + k)) 36) = -1 := cz_m (wl_lt j (by omega) d1 d2 (by show y0.D (a1 + j) < y0.D (a2 + j); omega) (fun t h1 h2 => hG t (by omega) h2))
          rw [e1] at hp
          refine V_iconst C d_Mod_compared_45 rfl ?_
          refine V_goto (tgt := 50) C d_Mod_compared_46 (by decide) ?_
          exact V_ireturn C d_Mod_compared_50 (Nat.le_refl _) (Nat.le_refl _) hp
set_option maxHeartbeats 1000000 in
theorem c_Mod_compared (hl : yL l) (A : AtM d b y0 h) (dd : dgt y0.D 13824) {a1 a2 : Nat} {z1 z2 : Int} (e1 : z1 = a1) (e2 : z2 = a2) (h1 : a1 + 36 ≤ 13824) (h2 : a2 + 36 ≤ 13824) : yM l y_Mod_compared b_Mod_compared 4 (some .int) 0 0 0 0 d b n h [.ref (b + 29), vi z1, vi z2] (fun q n' h' => n' = n ∧ h' = h ∧ q = some (vi (cz (wl (fun k => y0.D (a1 + k)) 36) (wl (fun k => y0.D (a2 + k)) 36)))) noT := by
  subst e1 e2
  refine yM_of hl (by decide +kernel) (Nat.le_of_ble_eq_true rfl) (fun p e s m args below meth c C => ?_)
  refine V_bipush (z := 35) C d_Mod_compared_0 rfl ?_
  refine V_istore_n C d_Mod_compared_2 rfl (by decide) rfl ?_
  refine V_loc2 (Mod_cmp_loop C A dd h1 h2 ⟨rfl, rfl, rfl⟩ 36 (Nat.le_refl 36) (fun t h1 h2 => absurd h1 (by omega))) ⟨rfl, rfl, rfl, rfl, trivial⟩
end ModE
