theorem cz_1 {x z : Int} (h : z < x) : cz x z = 1 := by unfold cz; rw [if_pos h]
theorem cz_0 {x : Int} : cz x x = 0 := by unfold cz; rw [if_neg (by omega), if_pos rfl]
theorem cz_m {x z : Int} (h : x < z) : cz x z = -1 := by unfold cz; rw [if_neg (by omega), if_neg (by omega)]
/-- a number divided by ten again and again -/
def dq (x : Int) : Nat → Int
  | 0 => x
  | m + 1 => dq x m / 10
theorem dq_pow (x : Int) : ∀ m, dq x m = x / 10 ^ m
  | 0 => by show x = x / 1; rw [Int.ediv_one]
  | m + 1 => by
    show dq x m / 10 = _
    rw [dq_pow x m, Int.pow_succ, Int.ediv_ediv_of_nonneg (by exact Int.le_of_lt (Int.pow_pos (by omega)))]
theorem dq_in {x : Int} (h : 0 ≤ x) : ∀ m, 0 ≤ dq x m ∧ dq x m ≤ x
  | 0 => ⟨h, Int.le_refl _⟩
  | m + 1 => by
    have ih := dq_in h m
    show 0 ≤ dq x m / 10 ∧ dq x m / 10 ≤ x
    omega
/-- digit p of a number -/
def dgv (x : Int) (p : Nat) : Int := x / 10 ^ p % 10
theorem dg_low (x z : Int) : ∀ r, r < 9 → (x + 1000000000 * z) / 10 ^ r % 10 = x / 10 ^ r % 10 := by
  intro r hr
  rcases (show r = 0 ∨ r = 1 ∨ r = 2 ∨ r = 3 ∨ r = 4 ∨ r = 5 ∨ r = 6 ∨ r = 7 ∨ r = 8 by omega) with e | e | e | e | e | e | e | e | e <;> subst e <;> simp only [Int.reducePow] <;> omega
theorem vl_first (g : Nat → Int) (n : Nat) : vl g (1 + n) = g 0 + 1000000000 * vl (fun j => g (1 + j)) n := by
  rw [vl_add g 1 n]
  show (0 : Int) + g 0 * 1 + 1000000000 ^ 1 * vl (fun j => g (1 + j)) n = _
  rw [Int.pow_one]
  omega
theorem dg_vl {F : Nat → Int} (hF : dig F 8) {p : Nat} (hp : p < 72) : dgv (vl F 8) p = dq (F (p / 9)) (p % 9) % 10 := by
  have hq : p / 9 < 8 := by omega
  have e0 : vl F 8 = vl F (p / 9) + 1000000000 ^ (p / 9) * (F (p / 9) + 1000000000 * vl (fun j => F (p / 9 + (1 + j))) (7 - p / 9)) := by
    have h1 := vl_add F (p / 9) (1 + (7 - p / 9))
    rw [vl_first, show p / 9 + (1 + (7 - p / 9)) = 8 by omega] at h1
    exact h1
  have hb := vl_bound (dig_le hF (show p / 9 ≤ 8 by omega))
  have hp' : (10 : Int) ^ p = 1000000000 ^ (p / 9) * 10 ^ (p % 9) := by
    rw [show (1000000000 : Int) = 10 ^ 9 from rfl, ← Int.pow_mul, ← Int.pow_add, Nat.div_add_mod]
  unfold dgv
  rw [dq_pow, hp', ← Int.ediv_ediv_of_nonneg (Int.le_of_lt (Bpos _)), e0, Int.add_mul_ediv_left _ _ (Int.ne_of_gt (Bpos _)), Int.ediv_eq_zero_of_lt hb.1 hb.2, Int.zero_add]
  exact dg_low _ _ _ (Nat.mod_lt _ (by omega))
section Who3
variable {p : Program} {l : Launch} {e : Env} {R : Room} {s : State} {m : MethodId} {args : Array Value} {below : List Frame} {meth : Method} {c : Code} {d : yD} {b : Nat} {Q : State → Prop} {cells slots n : Nat} {h : yH}
theorem V_loc2 {nL pc : Nat} {st : List Value} {lv lv' : List (Nat × Value)} (k : V p l e R s m args below meth c nL d b Q cells slots n h pc lv' st) (hl : lsub lv' lv) : V p l e R s m args below meth c nL d b Q cells slots n h pc lv st := V_loc hl k
set_option maxHeartbeats 4000000 in
theorem Who_order_loop (C : yC p l s m args meth c y_Who_order b_Who_order 3 (some .int) [] d b) {post : Option Value → Nat → yH → Prop} {k a k2 a2 : Nat} {F F2 : Nat → Int} (hk : h k = some (oO 2 [.ref (b + a)])) (ha : h a = some (oJ d 8 F)) (hk2 : h k2 = some (oO 2 [.ref (b + a2)])) (ha2 : h a2 = some (oJ d 8 F2)) (hF : dig F 8) (hF2 : dig F2 8)
    (hp : post (some (vi (cz (vl F 8) (vl F2 8)))) n h) :
    ∀ (j : Nat), j ≤ 8 → (∀ t, j ≤ t → t < 8 → F t = F2 t) → V p l e R s m args below meth c 3 d b (yEnd below s args d b post noT 0 0) 0 0 n h 3 [(0, .ref (b + k)), (1, .ref (b + k2)), (2, vi ((j : Int) - 1))] [] := by
  intro j
  induction j with
  | zero =>
    intro hj hG
    refine V_iload_n C d_Who_order_3 rfl rfl ?_
    refine V_if_lt (tgt := 51) C d_Who_order_4 (by decide) (by unfold inI; omega) (fun q4 => ?_) (fun q4 => ?_)
    · have e1 : cz (vl F 8) (vl F2 8) = 0 := by rw [vl_congr (fun t ht => hG t (by omega) ht), cz_0]
      rw [e1] at hp
      refine V_iconst C d_Who_order_51 rfl ?_
      exact V_ireturn C d_Who_order_52 (Nat.le_refl _) (Nat.le_refl _) hp
    · exact absurd q4 (by omega)
  | succ j ih =>
    intro hj hG
    have f1 := hF j (by omega)
    have f2 := hF2 j (by omega)
    have g2 : ((j + 1 : Nat) : Int) - 1 = j := by omega
    have t1 : (j : Int).toNat = j := Int.toNat_natCast j
    rw [g2]
    refine V_iload_n C d_Who_order_3 rfl rfl ?_
    refine V_if_lt (tgt := 51) C d_Who_order_4 (by decide) (by unfold inI; omega) (fun q4 => ?_) (fun q4 => ?_)
    · exact absurd q4 (by omega)
    · refine V_aload_n C d_Who_order_7 rfl rfl ?_
      refine V_get C 2 0 hk rfl in_Who (by decide) w_Who_order_8 rfl rfl d_Who_order_8 ?_
      refine V_iload_n C d_Who_order_11 rfl rfl ?_
      refine V_laload C ha (by omega) (by omega) (by decide) d_Who_order_12 ?_
      refine V_aload_n C d_Who_order_13 rfl rfl ?_
      refine V_get C 2 0 hk2 rfl in_Who (by decide) w_Who_order_14 rfl rfl d_Who_order_14 ?_
      refine V_iload_n C d_Who_order_17 rfl rfl ?_
      refine V_laload C ha2 (by omega) (by omega) (by decide) d_Who_order_18 ?_
      rw [t1]
      refine V_lcmp C d_Who_order_19 (by unfold inJ; omega) (by unfold inJ; omega) ?_
      refine V_if_eq (tgt := 45) C d_Who_order_20 (by decide) (cz_in _ _) (fun q20 => ?_) (fun q20 => ?_)
      · refine V_iinc C d_Who_order_45 rfl rfl (by decide) rfl ?_
        refine V_goto (tgt := 3) C d_Who_order_48 (by decide) ?_
        exact V_loc2 (ih (by omega) (fun t h1 h2 => by
          by_cases e1 : t = j
          · rw [e1]; exact cz_eq.mp q20
          · exact hG t (by omega) h2)) ⟨rfl, rfl, rfl, trivial⟩
      · have hne : ¬ F j = F2 j := fun q => q20 (cz_eq.mpr q)
        refine V_aload_n C d_Who_order_23 rfl rfl ?_
        refine V_get C 2 0 hk rfl in_Who (by decide) w_Who_order_24 rfl rfl d_Who_order_24 ?_
        refine V_iload_n C d_Who_order_27 rfl rfl ?_
        refine V_laload C ha (by omega) (by omega) (by decide) d_Who_order_28 ?_
        refine V_aload_n C d_Who_order_29 rfl rfl ?_
        refine V_get C 2 0 hk2 rfl in_Who (by decide) w_Who_order_30 rfl rfl d_Who_order_30 ?_
        refine V_iload_n C d_Who_order_33 rfl rfl ?_
        refine V_laload C ha2 (by omega) (by omega) (by decide) d_Who_order_34 ?_
        rw [t1]
        refine V_lcmp C d_Who_order_35 (by unfold inJ; omega) (by unfold inJ; omega) ?_
        refine V_if_ge (tgt := 43) C d_Who_order_36 (by decide) (cz_in _ _) (fun q36 => ?_) (fun q36 => ?_)
        · have e1 : cz (vl F 8) (vl F2 8) = 1 := cz_1 (vl_lt j (by omega) hF2 hF (by have := cz_ge.mp q36; omega) (fun t h1 h2 => (hG t (by omega) h2).symm))
          rw [e1] at hp
          refine V_iconst C d_Who_order_43 rfl ?_
          exact V_ireturn C d_Who_order_44 (Nat.le_refl _) (Nat.le_refl _) hp
        · have e1 : cz (vl F 8) (vl F2 8) = -1 := cz_m (vl_lt j (by omega) hF hF2 (by have : ¬ F2 j ≤ F j := fun q => q36 (cz_ge.mpr q); omega) (fun t h1 h2 => hG t (by omega) h2))
          rw [e1] at hp
          refine V_iconst C d_Who_order_39 rfl ?_
          refine V_goto (tgt := 44) C d_Who_order_40 (by decide) ?_
          exact V_ireturn C d_Who_order_44 (Nat.le_refl _) (Nat.le_refl _) hp
set_option maxHeartbeats 4000000 in
/-- order -/
theorem c_Who_order (hl : yL l) {k a k2 a2 : Nat} {F F2 : Nat → Int} (hk : h k = some (oO 2 [.ref (b + a)])) (ha : h a = some (oJ d 8 F)) (hk2 : h k2 = some (oO 2 [.ref (b + a2)])) (ha2 : h a2 = some (oJ d 8 F2)) (hF : dig F 8) (hF2 : dig F2 8) :
    yM l y_Who_order b_Who_order 3 (some .int) 0 0 0 0 d b n h [.ref (b + k), .ref (b + k2)] (fun r n' h' => n' = n ∧ h' = h ∧ r = some (vi (cz (vl F 8) (vl F2 8)))) noT := by
  refine yM_of hl (by decide +kernel) (Nat.le_of_ble_eq_true rfl) (fun p e s m args below meth c C => ?_)
  refine V_bipush (z := 7) C d_Who_order_0 rfl ?_
  refine V_istore_n C d_Who_order_2 rfl (by decide) rfl ?_
  refine V_loc (lv' := [(0, .ref (b + k)), (1, .ref (b + k2)), (2, vi (((8 : Nat) : Int) - 1))]) ⟨rfl, rfl, rfl, trivial⟩ ?_
  exact Who_order_loop C hk ha hk2 ha2 hF hF2 ⟨rfl, rfl, rfl⟩ 8 (Nat.le_refl 8) (fun t h1 h2 => absurd h1 (by omega))
set_option maxHeartbeats 4000000 in
theorem Who_isZero_loop (C : yC p l s m args meth c y_Who_isZero b_Who_isZero 2 (some .boolean) [] d b) {post : Option Value → Nat → yH → Prop} {k a : Nat} {F : Nat → Int} (hk : h k = some (oO 2 [.ref (b + a)])) (ha : h a = some (oJ d 8 F)) (hF : dig F 8)
    (hp : post (some (vi (if vl F 8 = 0 then 1 else 0))) n h) :
    ∀ (j i : Nat), i + j = 8 → (∀ t, t < i → F t = 0) → V p l e R s m args below meth c 2 d b (yEnd below s args d b post noT 0 0) 0 0 n h 2 [(0, .ref (b + k)), (1, vi i)] [] := by
  intro j
  induction j with
  | zero =>
    intro i hi hG
    refine V_iload_n C d_Who_isZero_2 rfl rfl ?_
    refine V_bipush (z := 8) C d_Who_isZero_3 rfl ?_
    refine V_icmp_ge (tgt := 27) C d_Who_isZero_5 (by decide) (by unfold inI; omega) (by unfold inI; omega) (fun q5 => ?_) (fun q5 => ?_)
    · rw [if_pos (vl_zero (fun t ht => hG t (by omega)))] at hp
      refine V_iconst C d_Who_isZero_27 rfl ?_
      exact V_zreturn C d_Who_isZero_28 (by omega) (Nat.le_refl _) (Nat.le_refl _) hp
    · exact absurd q5 (by omega)
  | succ j ih =>
    intro i hi hG
    have f1 := hF i (by omega)
    have t1 : (i : Int).toNat = i := Int.toNat_natCast i
    refine V_iload_n C d_Who_isZero_2 rfl rfl ?_
    refine V_bipush (z := 8) C d_Who_isZero_3 rfl ?_
    refine V_icmp_ge (tgt := 27) C d_Who_isZero_5 (by decide) (by unfold inI; omega) (by unfold inI; omega) (fun q5 => ?_) (fun q5 => ?_)
    · exact absurd q5 (by omega)
    · refine V_aload_n C d_Who_isZero_8 rfl rfl ?_
      refine V_get C 2 0 hk rfl in_Who (by decide) w_Who_isZero_9 rfl rfl d_Who_isZero_9 ?_
      refine V_iload_n C d_Who_isZero_12 rfl rfl ?_
      refine V_laload C ha (by omega) (by omega) (by decide) d_Who_isZero_13 ?_
      rw [t1]
      refine V_lconst (z := 0) C d_Who_isZero_14 rfl ?_
      refine V_lcmp C d_Who_isZero_15 (by unfold inJ; omega) (by unfold inJ; omega) ?_
      refine V_if_eq (tgt := 21) C d_Who_isZero_16 (by decide) (cz_in _ _) (fun q16 => ?_) (fun q16 => ?_)
      · refine V_iinc C d_Who_isZero_21 rfl rfl (by decide) rfl ?_
        refine V_goto (tgt := 2) C d_Who_isZero_24 (by decide) ?_
        exact V_loc2 (ih (i + 1) (by omega) (fun t ht => by
          by_cases e1 : t = i
          · rw [e1]; exact cz_eq.mp q16
          · exact hG t (by omega))) ⟨rfl, rfl, trivial⟩
      · have hne : ¬ F i = 0 := fun q => q16 (cz_eq.mpr q)
        have hz : dig (fun _ => (0 : Int)) 8 := fun t ht => ⟨Int.le_refl 0, by show (0 : Int) < 1000000000; omega⟩
        rw [if_neg (fun q => hne (vl_inj hF hz (by rw [q, vl_zero (fun t ht => rfl)]) i (by omega)))] at hp
        refine V_iconst C d_Who_isZero_19 rfl ?_
        exact V_zreturn C d_Who_isZero_20 (by omega) (Nat.le_refl _) (Nat.le_refl _) hp
set_option maxHeartbeats 4000000 in
theorem c_Who_isZero (hl : yL l) {k a : Nat} {F : Nat → Int} (hk : h k = some (oO 2 [.ref (b + a)])) (ha : h a = some (oJ d 8 F)) (hF : dig F 8) :
    yM l y_Who_isZero b_Who_isZero 2 (some .boolean) 0 0 0 0 d b n h [.ref (b + k)] (fun r n' h' => n' = n ∧ h' = h ∧ r = some (vi (if vl F 8 = 0 then 1 else 0))) noT := by
  refine yM_of hl (by decide +kernel) (Nat.le_of_ble_eq_true rfl) (fun p e s m args below meth c C => ?_)
  refine V_iconst C d_Who_isZero_0 rfl ?_
  refine V_istore_n C d_Who_isZero_1 rfl (by decide) rfl ?_
  refine V_loc (lv' := [(0, .ref (b + k)), (1, vi ((0 : Nat) : Int))]) ⟨rfl, rfl, trivial⟩ ?_
  exact Who_isZero_loop C hk ha hF ⟨rfl, rfl, rfl⟩ 8 0 (by omega) (fun t ht => absurd ht (by omega))
theorem dig0 (n : Nat) : dig (fun _ => (0 : Int)) n := fun t ht => ⟨Int.le_refl 0, by show (0 : Int) < 1000000000; omega⟩
theorem vl_high {F : Nat → Int} (hF : dig F 8) (hG : ∀ t, 4 ≤ t → t < 8 → F t = 0) : vl F 8 = vl F 4 := by
  rw [vl_add F 4 4, vl_zero (f := fun j => F (4 + j)) (fun t ht => hG (4 + t) (by omega) (by omega)), Int.mul_zero, Int.add_zero]
theorem vl_low {F : Nat → Int} (hF : dig F 8) (h : vl F 8 < 1000000000 ^ 4) : ∀ t, 4 ≤ t → t < 8 → F t = 0 := by
  have h1 := vl_add F 4 4
  have b1 := vl_bound (dig_le hF (show 4 ≤ 8 by omega))
  have hd : dig (fun j => F (4 + j)) 4 := fun t ht => hF (4 + t) (by omega)
  have b2 := vl_bound hd
  have hz : vl (fun j => F (4 + j)) 4 = 0 := by
    have hp := Bpos 4
    have h2 : vl F (4 + 4) = vl F 8 := rfl
    rw [h2] at h1
    rw [h1] at h
    generalize (1000000000 : Int) ^ 4 = P at *
    rcases (show vl (fun j => F (4 + j)) 4 = 0 ∨ 1 ≤ vl (fun j => F (4 + j)) 4 by omega) with z | z
    · exact z
    · have h3 : P * 1 ≤ P * vl (fun j => F (4 + j)) 4 := Int.mul_le_mul_of_nonneg_left z (by omega)
      omega
  intro t h3 h4
  have h5 : F (4 + (t - 4)) = 0 := vl_inj hd (dig0 4) (by rw [hz, vl_zero (f := fun _ => (0 : Int)) (fun t ht => rfl)]) (t - 4) (by omega)
  rw [show 4 + (t - 4) = t by omega] at h5
  exact h5
set_option maxHeartbeats 4000000 in
theorem Who_isWeight_loop (C : yC p l s m args meth c y_Who_isWeight b_Who_isWeight 2 (some .boolean) [] d b) {post : Option Value → Nat → yH → Prop} {k a : Nat} {F : Nat → Int} (hk : h k = some (oO 2 [.ref (b + a)])) (ha : h a = some (oJ d 8 F)) (hF : dig F 8)
    (hp : post (some (vi (if vl F 8 < 1000000000 ^ 4 then 1 else 0))) n h) :
    ∀ (j i : Nat), i + j = 8 → 4 ≤ i → (∀ t, 4 ≤ t → t < i → F t = 0) → V p l e R s m args below meth c 2 d b (yEnd below s args d b post noT 0 0) 0 0 n h 2 [(0, .ref (b + k)), (1, vi i)] [] := by
  intro j
  induction j with
  | zero =>
    intro i hi h4 hG
    refine V_iload_n C d_Who_isWeight_2 rfl rfl ?_
    refine V_bipush (z := 8) C d_Who_isWeight_3 rfl ?_
    refine V_icmp_ge (tgt := 27) C d_Who_isWeight_5 (by decide) (by unfold inI; omega) (by unfold inI; omega) (fun q5 => ?_) (fun q5 => ?_)
    · have b1 := vl_bound (dig_le hF (show 4 ≤ 8 by omega))
      rw [if_pos (by rw [vl_high hF (fun t h1 h2 => hG t h1 (by omega))]; exact b1.2)] at hp
      refine V_iconst C d_Who_isWeight_27 rfl ?_
      exact V_zreturn C d_Who_isWeight_28 (by omega) (Nat.le_refl _) (Nat.le_refl _) hp
    · exact absurd q5 (by omega)
  | succ j ih =>
    intro i hi h4 hG
    have f1 := hF i (by omega)
    have t1 : (i : Int).toNat = i := Int.toNat_natCast i
    refine V_iload_n C d_Who_isWeight_2 rfl rfl ?_
    refine V_bipush (z := 8) C d_Who_isWeight_3 rfl ?_
    refine V_icmp_ge (tgt := 27) C d_Who_isWeight_5 (by decide) (by unfold inI; omega) (by unfold inI; omega) (fun q5 => ?_) (fun q5 => ?_)
    · exact absurd q5 (by omega)
    · refine V_aload_n C d_Who_isWeight_8 rfl rfl ?_
      refine V_get C 2 0 hk rfl in_Who (by decide) w_Who_isWeight_9 rfl rfl d_Who_isWeight_9 ?_
      refine V_iload_n C d_Who_isWeight_12 rfl rfl ?_
      refine V_laload C ha (by omega) (by omega) (by decide) d_Who_isWeight_13 ?_
      rw [t1]
      refine V_lconst (z := 0) C d_Who_isWeight_14 rfl ?_
      refine V_lcmp C d_Who_isWeight_15 (by unfold inJ; omega) (by unfold inJ; omega) ?_
      refine V_if_eq (tgt := 21) C d_Who_isWeight_16 (by decide) (cz_in _ _) (fun q16 => ?_) (fun q16 => ?_)
      · refine V_iinc C d_Who_isWeight_21 rfl rfl (by decide) rfl ?_
        refine V_goto (tgt := 2) C d_Who_isWeight_24 (by decide) ?_
        exact V_loc2 (ih (i + 1) (by omega) (by omega) (fun t ht h5 => by
          by_cases e1 : t = i
          · rw [e1]; exact cz_eq.mp q16
          · exact hG t ht (by omega))) ⟨rfl, rfl, trivial⟩
      · have hne : ¬ F i = 0 := fun q => q16 (cz_eq.mpr q)
        rw [if_neg (fun q => hne (vl_low hF q i h4 (by omega)))] at hp
        refine V_iconst C d_Who_isWeight_19 rfl ?_
        exact V_zreturn C d_Who_isWeight_20 (by omega) (Nat.le_refl _) (Nat.le_refl _) hp
set_option maxHeartbeats 4000000 in
theorem c_Who_isWeight (hl : yL l) {k a : Nat} {F : Nat → Int} (hk : h k = some (oO 2 [.ref (b + a)])) (ha : h a = some (oJ d 8 F)) (hF : dig F 8) :
    yM l y_Who_isWeight b_Who_isWeight 2 (some .boolean) 0 0 0 0 d b n h [.ref (b + k)] (fun r n' h' => n' = n ∧ h' = h ∧ r = some (vi (if vl F 8 < 1000000000 ^ 4 then 1 else 0))) noT := by
  refine yM_of hl (by decide +kernel) (Nat.le_of_ble_eq_true rfl) (fun p e s m args below meth c C => ?_)
  refine V_iconst C d_Who_isWeight_0 rfl ?_
  refine V_istore_n C d_Who_isWeight_1 rfl (by decide) rfl ?_
  refine V_loc (lv' := [(0, .ref (b + k)), (1, vi ((4 : Nat) : Int))]) ⟨rfl, rfl, trivial⟩ ?_
  exact Who_isWeight_loop C hk ha hF ⟨rfl, rfl, rfl⟩ 4 4 (by omega) (by omega) (fun t h1 h2 => absurd h1 (by omega))
set_option maxHeartbeats 4000000 in
theorem Who_digitAt_loop (C : yC p l s m args meth c y_Who_digitAt b_Who_digitAt 5 (some .int) [] d b) {post : Option Value → Nat → yH → Prop} {x : Int} {M : Nat} (h0 : 0 ≤ x) (h1 : x < 1000000000) (hM : M < 9)
    (hp : post (some (vi (dq x M % 10))) n h) :
    ∀ (j i : Nat), i + j = M → V p l e R s m args below meth c 5 d b (yEnd below s args d b post noT 0 0) 0 0 n h 16 [(2, vj (dq x i)), (4, vi j)] [] := by
  intro j
  induction j with
  | zero =>
    intro i hi
    have hq := dq_in h0 i
    have e1 : i = M := by omega
    subst e1
    refine V_iload C d_Who_digitAt_16 rfl ?_
    refine V_if_le (tgt := 33) C d_Who_digitAt_18 (by decide) (by unfold inI; omega) (fun q18 => ?_) (fun q18 => ?_)
    · refine V_lload_n C d_Who_digitAt_33 rfl rfl ?_
      refine V_ldc2 (z := 10) C w_Who_digitAt_34 rfl d_Who_digitAt_34 ?_
      refine V_lremP C d_Who_digitAt_37 (by omega) (by omega) (by omega) (by omega) ?_
      refine V_l2i C d_Who_digitAt_38 ?_
      exact V_ireturn C d_Who_digitAt_39 (Nat.le_refl _) (Nat.le_refl _) hp
    · exact absurd q18 (by omega)
  | succ j ih =>
    intro i hi
    have hq := dq_in h0 i
    refine V_iload C d_Who_digitAt_16 rfl ?_
    refine V_if_le (tgt := 33) C d_Who_digitAt_18 (by decide) (by unfold inI; omega) (fun q18 => ?_) (fun q18 => ?_)
    · exact absurd q18 (by omega)
    · refine V_lload_n C d_Who_digitAt_21 rfl rfl ?_
      refine V_ldc2 (z := 10) C w_Who_digitAt_22 rfl d_Who_digitAt_22 ?_
      refine V_ldivP C d_Who_digitAt_25 (by omega) (by omega) (by omega) (by omega) ?_
      refine V_lstore_n C d_Who_digitAt_26 rfl (by decide) rfl ?_
      refine V_iinc C d_Who_digitAt_27 rfl rfl (by decide) rfl ?_
      refine V_goto (tgt := 16) C d_Who_digitAt_30 (by decide) ?_
      refine V_loc (lv' := [(2, vj (dq x (i + 1))), (4, vi j)]) ⟨rfl, ?_, trivial⟩ (ih (i + 1) (by omega))
      show some (vi (((j + 1 : Nat) : Int) + -1)) = _
      rw [show ((j + 1 : Nat) : Int) + -1 = j by omega]
set_option maxHeartbeats 4000000 in
/-- digitAt -/
theorem c_Who_digitAt (hl : yL l) {k a : Nat} {F : Nat → Int} {z : Nat} (hk : h k = some (oO 2 [.ref (b + a)])) (ha : h a = some (oJ d 8 F)) (hF : dig F 8) (hz : z < 72) :
    yM l y_Who_digitAt b_Who_digitAt 5 (some .int) 0 0 0 0 d b n h [.ref (b + k), vi z] (fun r n' h' => n' = n ∧ h' = h ∧ r = some (vi (dgv (vl F 8) z))) noT := by
  refine yM_of hl (by decide +kernel) (Nat.le_of_ble_eq_true rfl) (fun p e s m args below meth c C => ?_)
  have e1 : (z : Int) / 9 = ((z / 9 : Nat) : Int) := by omega
  have e2 : (z : Int) % 9 = ((z % 9 : Nat) : Int) := by omega
  have f1 := hF (z / 9) (by omega)
  refine V_aload_n C d_Who_digitAt_0 rfl rfl ?_
  refine V_get C 2 0 hk rfl in_Who (by decide) w_Who_digitAt_1 rfl rfl d_Who_digitAt_1 ?_
  refine V_iload_n C d_Who_digitAt_4 rfl rfl ?_
  refine V_bipush (z := 9) C d_Who_digitAt_5 rfl ?_
  refine V_idivP C d_Who_digitAt_7 (by omega) (by omega) (by omega) (by omega) ?_
  refine V_laload C ha (by omega) (by omega) (by decide) d_Who_digitAt_8 ?_
  rw [e1, Int.toNat_natCast]
  refine V_lstore_n C d_Who_digitAt_9 rfl (by decide) rfl ?_
  refine V_iload_n C d_Who_digitAt_10 rfl rfl ?_
  refine V_bipush (z := 9) C d_Who_digitAt_11 rfl ?_
  refine V_iremP C d_Who_digitAt_13 (by omega) (by omega) (by omega) (by omega) ?_
  refine V_istore C d_Who_digitAt_14 (by decide) rfl ?_
  rw [e2]
  refine V_loc (lv' := [(2, vj (dq (F (z / 9)) 0)), (4, vi ((z % 9 : Nat) : Int))]) ⟨rfl, rfl, trivial⟩ ?_
  exact Who_digitAt_loop C f1.1 f1.2 (M := z % 9) (by omega) ⟨rfl, rfl, by rw [dg_vl hF hz]⟩ (z % 9) 0 (by omega)
end Who3
