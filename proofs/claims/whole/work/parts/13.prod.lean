/-! a product by parts -/
def prC (x : Int) (g A : Nat → Int) : Nat → Int
  | 0 => 0
  | j + 1 => (x * g j + A j + prC x g A j) / 1000000000
def prD (x : Int) (g A : Nat → Int) (j : Nat) : Int := (x * g j + A j + prC x g A j) % 1000000000
theorem pr_mul {x z : Int} (hx : 0 ≤ x ∧ x < 1000000000) (hz : 0 ≤ z ∧ z < 1000000000) : 0 ≤ x * z ∧ x * z ≤ 999999998000000001 := by
  have h1 : 0 ≤ x * z := Int.mul_nonneg hx.1 hz.1
  have h2 : x * z ≤ 999999999 * z := Int.mul_le_mul_of_nonneg_right (by omega) hz.1
  omega
theorem prC_in {x : Int} {g A : Nat → Int} {n : Nat} (hx : 0 ≤ x ∧ x < 1000000000) (hg : dig g n) (hA : dig A n) : ∀ j, j ≤ n → 0 ≤ prC x g A j ∧ prC x g A j ≤ 999999999
  | 0, _ => by show (0 : Int) ≤ 0 ∧ (0 : Int) ≤ 999999999; omega
  | j + 1, h => by
    have ih := prC_in hx hg hA j (by omega)
    have h1 := pr_mul hx (hg j (by omega))
    have h2 := hA j (by omega)
    show 0 ≤ (x * g j + A j + prC x g A j) / 1000000000 ∧ (x * g j + A j + prC x g A j) / 1000000000 ≤ 999999999
    omega
theorem pr_val (x : Int) (g A : Nat → Int) : ∀ n, vl (prD x g A) n + prC x g A n * 1000000000 ^ n = x * vl g n + vl A n
  | 0 => by show (0 : Int) + 0 * 1 = x * 0 + 0; omega
  | n + 1 => by
    have ih := pr_val x g A n
    have h := dm_B (x * g n + A n + prC x g A n) (1000000000 ^ n)
    show vl (prD x g A) n + ((x * g n + A n + prC x g A n) % 1000000000) * 1000000000 ^ n + ((x * g n + A n + prC x g A n) / 1000000000) * 1000000000 ^ (n + 1) = x * (vl g n + g n * 1000000000 ^ n) + (vl A n + A n * 1000000000 ^ n)
    rw [Int.pow_succ, Int.mul_add, ← Int.mul_assoc x]
    rw [Int.add_mul, Int.add_mul] at h
    omega
/-- the parts behind the row i -/
def prR (x : Int) (g A : Nat → Int) (i : Nat) : Nat → Int := fun k => if k < i then A k else if k < i + 4 then prD x g (fun j => A (i + j)) (k - i) else if k = i + 4 then prC x g (fun j => A (i + j)) 4 else A k
def prA (f g : Nat → Int) : Nat → Nat → Int
  | 0 => fun _ => 0
  | i + 1 => prR (f i) g (prA f g i) i
theorem prA_ok {f g : Nat → Int} (hf : dig f 4) (hg : dig g 4) : ∀ i, i ≤ 4 → dig (prA f g i) 8 ∧ (∀ k, i + 4 ≤ k → prA f g i k = 0) ∧ vl (prA f g i) 8 = vl f i * vl g 4
  | 0, _ => ⟨fun k _ => by show (0 : Int) ≤ 0 ∧ (0 : Int) < 1000000000; omega, fun k _ => rfl, by
      rw [vl_zero (f := prA f g 0) (fun t ht => rfl)]
      show (0 : Int) = 0 * vl g 4
      omega⟩
  | i + 1, h => by
    obtain ⟨h1, h2, h3⟩ := prA_ok hf hg i (by omega)
    have hx := hf i (by omega)
    have hA : dig (fun j => prA f g i (i + j)) 4 := fun j hj => h1 (i + j) (by omega)
    have hc := prC_in hx hg hA 4 (Nat.le_refl 4)
    have hv := pr_val (f i) g (fun j => prA f g i (i + j)) 4
    have hz : ∀ k, i + 1 + 4 ≤ k → prA f g (i + 1) k = 0 := fun k hk => by
      show prR (f i) g (prA f g i) i k = 0
      unfold prR
      rw [if_neg (by omega), if_neg (by omega), if_neg (by omega)]
      exact h2 k (by omega)
    refine ⟨fun k hk => ?_, hz, ?_⟩
    · show 0 ≤ prR (f i) g (prA f g i) i k ∧ prR (f i) g (prA f g i) i k < 1000000000
      unfold prR
      by_cases e1 : k < i
      · rw [if_pos e1]; exact h1 k hk
      · rw [if_neg e1]
        by_cases e2 : k < i + 4
        · rw [if_pos e2]
          unfold prD
          omega
        · rw [if_neg e2]
          by_cases e3 : k = i + 4
          · rw [if_pos e3]; omega
          · rw [if_neg e3]; exact h1 k hk
    · have s1 := vl_add (prA f g (i + 1)) i (5 + (3 - i))
      have s2 := vl_add (fun j => prA f g (i + 1) (i + j)) 5 (3 - i)
      have s3 := vl_add (prA f g i) i (4 + (4 - i))
      have s4 := vl_add (fun j => prA f g i (i + j)) 4 (4 - i)
      rw [show i + (5 + (3 - i)) = 8 by omega] at s1
      rw [show i + (4 + (4 - i)) = 8 by omega] at s3
      rw [vl_zero (f := fun j => prA f g (i + 1) (i + (5 + j))) (fun t ht => hz _ (by omega)), Int.mul_zero, Int.add_zero] at s2
      rw [vl_zero (f := fun j => prA f g i (i + (4 + j))) (fun t ht => h2 _ (by omega)), Int.mul_zero, Int.add_zero] at s4
      have s5 : vl (fun j => prA f g (i + 1) (i + j)) 5 = vl (prD (f i) g (fun j => prA f g i (i + j))) 4 + prC (f i) g (fun j => prA f g i (i + j)) 4 * 1000000000 ^ 4 := by
        show vl (fun j => prA f g (i + 1) (i + j)) 4 + prA f g (i + 1) (i + 4) * 1000000000 ^ 4 = _
        have e4 : prA f g (i + 1) (i + 4) = prC (f i) g (fun j => prA f g i (i + j)) 4 := by
          show prR (f i) g (prA f g i) i (i + 4) = _
          unfold prR
          rw [if_neg (by omega), if_neg (by omega), if_pos rfl]
        rw [e4, vl_congr (g := prD (f i) g (fun j => prA f g i (i + j))) (fun t ht => ?_)]
        show prR (f i) g (prA f g i) i (i + t) = _
        unfold prR
        rw [if_neg (by omega), if_pos (by omega), show i + t - i = t by omega]
      have s6 : vl (prA f g (i + 1)) i = vl (prA f g i) i := vl_congr (fun t ht => by
        show prR (f i) g (prA f g i) i t = _
        unfold prR
        rw [if_pos ht])
      rw [s1, s2, s5, hv, s6]
      rw [s3, s4] at h3
      show vl (prA f g i) i + 1000000000 ^ i * (f i * vl g 4 + vl (fun j => prA f g i (i + j)) 4) = (vl f i + f i * 1000000000 ^ i) * vl g 4
      rw [Int.mul_add, Int.add_mul, ← h3, ← Int.mul_assoc, Int.mul_comm (1000000000 ^ i) (f i)]
      omega
section Prod
variable {p : Program} {l : Launch} {e : Env} {R : Room} {s : State} {m : MethodId} {args : Array Value} {below : List Frame} {meth : Method} {c : Code} {d : yD} {b : Nat} {Q : State → Prop} {cells slots n : Nat} {h : yH}
set_option maxHeartbeats 4000000 in
theorem Who_prod_inner (C : yC p l s m args meth c y_Who_becomeProduct b_Who_becomeProduct 9 none [] d b) {k a k1 a1 k2 a2 : Nat} {F F1 F2 P : Nat → Int} {i : Nat} (hk : h k = some (oO 2 [.ref (b + a)])) (ha : h a = some (oJ d 8 F)) (hk1 : h k1 = some (oO 2 [.ref (b + a1)])) (ha1 : h a1 = some (oJ d 8 F1)) (hne1 : a1 ≠ a) (hk2 : h k2 = some (oO 2 [.ref (b + a2)])) (ha2 : h a2 = some (oJ d 8 F2)) (hne2 : a2 ≠ a) (hF1 : dig F1 4) (hF2 : dig F2 4) (hP : dig P 8) (hi : i < 4)
    (kk : ∀ (G : Nat → Int) (lv : List (Nat × Value)), (∀ t, t < 8 → G t = prR (F1 i) F2 P i t) → lsub [(0, .ref (b + k)), (1, .ref (b + k1)), (2, .ref (b + k2)), (3, vi i)] lv → V p l e R s m args below meth c 9 d b Q cells slots n (hs h a (oJ d 8 G)) 92 lv []) :
    ∀ (r j : Nat) (G : Nat → Int), j + r = 4 → (∀ t, t < 8 → G t = if i ≤ t ∧ t < i + j then prD (F1 i) F2 (fun u => P (i + u)) (t - i) else P t) → V p l e R s m args below meth c 9 d b Q cells slots n (hs h a (oJ d 8 G)) 18 [(0, .ref (b + k)), (1, .ref (b + k1)), (2, .ref (b + k2)), (3, vi i), (4, vj (prC (F1 i) F2 (fun u => P (i + u)) j)), (6, vi j)] [] := by
  have hPi : dig (fun u => P (i + u)) 4 := fun u hu => hP (i + u) (by omega)
  intro r
  induction r with
  | zero =>
    intro j G hj hG
    have hj4 : j = 4 := by omega
    subst hj4
    have hkk : hs h a (oJ d 8 G) k = some (oO 2 [.ref (b + a)]) := hs_at hk ha
    refine V_iload C d_Who_becomeProduct_18 rfl ?_
    refine V_iconst C d_Who_becomeProduct_20 rfl ?_
    refine V_icmp_ge (tgt := 82) C d_Who_becomeProduct_21 (by decide) (by unfold inI; omega) (by unfold inI; omega) (fun q21 => ?_) (fun q21 => ?_)
    · refine V_aload_n C d_Who_becomeProduct_82 rfl rfl ?_
      refine V_get C 2 0 hkk rfl in_Who (by decide) w_Who_becomeProduct_83 rfl rfl d_Who_becomeProduct_83 ?_
      refine V_iload_n C d_Who_becomeProduct_86 rfl rfl ?_
      refine V_iconst C d_Who_becomeProduct_87 rfl ?_
      refine V_iadd C d_Who_becomeProduct_88 ?_
      refine V_lload C d_Who_becomeProduct_89 rfl ?_
      refine V_lastore C (hs_eq _ _ _) (by omega) (by omega) (by decide) d_Who_becomeProduct_91 ?_
      rw [hs_hs, show ((i : Int) + 4).toNat = i + 4 by omega]
      refine kk _ _ (fun t ht => ?_) ⟨rfl, rfl, rfl, rfl, trivial⟩
      unfold prR
      by_cases e1 : t = i + 4
      · rw [e1, fu_eq, if_neg (by omega), if_neg (by omega), if_pos rfl]
      · rw [fu_ne _ _ e1, hG t ht]
        by_cases e2 : t < i
        · rw [if_pos e2, if_neg (by omega)]
        · rw [if_neg e2]
          by_cases e3 : t < i + 4
          · rw [if_pos e3, if_pos (by omega)]
          · rw [if_neg e3, if_neg e1, if_neg (by omega)]
    · exact absurd q21 (by omega)
  | succ r ih =>
    intro j G hj hG
    have hc := prC_in (hF1 i hi) hF2 hPi j (by omega)
    have g1 := pr_mul (hF1 i hi) (hF2 j (by omega))
    have g2 := hP (i + j) (by omega)
    have t1 : (i : Int).toNat = i := Int.toNat_natCast i
    have t2 : (j : Int).toNat = j := Int.toNat_natCast j
    have t3 : ((i : Int) + j).toNat = i + j := by omega
    have hGi : G (i + j) = P (i + j) := by rw [hG (i + j) (by omega), if_neg (by omega)]
    have hkk : hs h a (oJ d 8 G) k = some (oO 2 [.ref (b + a)]) := hs_at hk ha
    have hkk1 : hs h a (oJ d 8 G) k1 = some (oO 2 [.ref (b + a1)]) := hs_at hk1 ha
    have hkk2 : hs h a (oJ d 8 G) k2 = some (oO 2 [.ref (b + a2)]) := hs_at hk2 ha
    have haa1 : hs h a (oJ d 8 G) a1 = some (oJ d 8 F1) := by rw [hs_ne _ _ hne1]; exact ha1
    have haa2 : hs h a (oJ d 8 G) a2 = some (oJ d 8 F2) := by rw [hs_ne _ _ hne2]; exact ha2
    refine V_iload C d_Who_becomeProduct_18 rfl ?_
    refine V_iconst C d_Who_becomeProduct_20 rfl ?_
    refine V_icmp_ge (tgt := 82) C d_Who_becomeProduct_21 (by decide) (by unfold inI; omega) (by unfold inI; omega) (fun q21 => ?_) (fun q21 => ?_)
    · exact absurd q21 (by omega)
    · refine V_aload_n C d_Who_becomeProduct_24 rfl rfl ?_
      refine V_get C 2 0 hkk1 rfl in_Who (by decide) w_Who_becomeProduct_25 rfl rfl d_Who_becomeProduct_25 ?_
      refine V_iload_n C d_Who_becomeProduct_28 rfl rfl ?_
      refine V_laload C haa1 (by omega) (by omega) (by decide) d_Who_becomeProduct_29 ?_
      refine V_aload_n C d_Who_becomeProduct_30 rfl rfl ?_
      refine V_get C 2 0 hkk2 rfl in_Who (by decide) w_Who_becomeProduct_31 rfl rfl d_Who_becomeProduct_31 ?_
      refine V_iload C d_Who_becomeProduct_34 rfl ?_
      refine V_laload C haa2 (by omega) (by omega) (by decide) d_Who_becomeProduct_36 ?_
      refine V_lmul C d_Who_becomeProduct_37 ?_
      rw [t1, t2]
      refine V_aload_n C d_Who_becomeProduct_38 rfl rfl ?_
      refine V_get C 2 0 hkk rfl in_Who (by decide) w_Who_becomeProduct_39 rfl rfl d_Who_becomeProduct_39 ?_
      refine V_iload_n C d_Who_becomeProduct_42 rfl rfl ?_
      refine V_iload C d_Who_becomeProduct_43 rfl ?_
      refine V_iadd C d_Who_becomeProduct_45 ?_
      refine V_laload C (hs_eq _ _ _) (by omega) (by omega) (by decide) d_Who_becomeProduct_46 ?_
      rw [t3, hGi]
      refine V_ladd C d_Who_becomeProduct_47 ?_
      refine V_lload C d_Who_becomeProduct_48 rfl ?_
      refine V_ladd C d_Who_becomeProduct_50 ?_
      refine V_lstore C d_Who_becomeProduct_51 (by decide) rfl ?_
      refine V_aload_n C d_Who_becomeProduct_53 rfl rfl ?_
      refine V_get C 2 0 hkk rfl in_Who (by decide) w_Who_becomeProduct_54 rfl rfl d_Who_becomeProduct_54 ?_
      refine V_iload_n C d_Who_becomeProduct_57 rfl rfl ?_
      refine V_iload C d_Who_becomeProduct_58 rfl ?_
      refine V_iadd C d_Who_becomeProduct_60 ?_
      refine V_lload C d_Who_becomeProduct_61 rfl ?_
      refine V_ldc2 (z := 1000000000) C w_Who_becomeProduct_63 rfl d_Who_becomeProduct_63 ?_
      refine V_lremP C d_Who_becomeProduct_66 (by omega) (by omega) (by omega) (by omega) ?_
      refine V_lastore C (hs_eq _ _ _) (by omega) (by omega) (by decide) d_Who_becomeProduct_67 ?_
      refine V_lload C d_Who_becomeProduct_68 rfl ?_
      refine V_ldc2 (z := 1000000000) C w_Who_becomeProduct_70 rfl d_Who_becomeProduct_70 ?_
      refine V_ldivP C d_Who_becomeProduct_73 (by omega) (by omega) (by omega) (by omega) ?_
      refine V_lstore C d_Who_becomeProduct_74 (by decide) rfl ?_
      refine V_iinc C d_Who_becomeProduct_76 rfl rfl (by decide) rfl ?_
      refine V_goto (tgt := 18) C d_Who_becomeProduct_79 (by decide) ?_
      rw [hs_hs, t3]
      refine V_loc2 (ih (j + 1) _ (by omega) (fun t ht => ?_)) ⟨rfl, rfl, rfl, rfl, rfl, rfl, trivial⟩
      by_cases e1 : t = i + j
      · rw [e1, fu_eq, if_pos (by omega), show i + j - i = j by omega]; rfl
      · rw [fu_ne _ _ e1, hG t ht]
        by_cases e2 : i ≤ t ∧ t < i + j
        · rw [if_pos e2, if_pos (by omega)]
        · rw [if_neg e2, if_neg (by omega)]
set_option maxHeartbeats 4000000 in
theorem Who_prod_outer (C : yC p l s m args meth c y_Who_becomeProduct b_Who_becomeProduct 9 none [] d b) {k a k1 a1 k2 a2 : Nat} {F F1 F2 : Nat → Int} (hk : h k = some (oO 2 [.ref (b + a)])) (ha : h a = some (oJ d 8 F)) (hk1 : h k1 = some (oO 2 [.ref (b + a1)])) (ha1 : h a1 = some (oJ d 8 F1)) (hne1 : a1 ≠ a) (hk2 : h k2 = some (oO 2 [.ref (b + a2)])) (ha2 : h a2 = some (oJ d 8 F2)) (hne2 : a2 ≠ a) (hF1 : dig F1 4) (hF2 : dig F2 4)
    (kk : ∀ (G : Nat → Int) (lv : List (Nat × Value)), (∀ t, t < 8 → G t = prA F1 F2 4 t) → V p l e R s m args below meth c 9 d b Q cells slots n (hs h a (oJ d 8 G)) 98 lv []) :
    ∀ (r i : Nat) (G : Nat → Int), i + r = 4 → (∀ t, t < 8 → G t = prA F1 F2 i t) → V p l e R s m args below meth c 9 d b Q cells slots n (hs h a (oJ d 8 G)) 7 [(0, .ref (b + k)), (1, .ref (b + k1)), (2, .ref (b + k2)), (3, vi i)] [] := by
  intro r
  induction r with
  | zero =>
    intro i G hi hG
    have e1 : i = 4 := by omega
    subst e1
    refine V_iload_n C d_Who_becomeProduct_7 rfl rfl ?_
    refine V_iconst C d_Who_becomeProduct_8 rfl ?_
    refine V_icmp_ge (tgt := 98) C d_Who_becomeProduct_9 (by decide) (by unfold inI; omega) (by unfold inI; omega) (fun q9 => ?_) (fun q9 => ?_)
    · exact kk G _ hG
    · exact absurd q9 (by omega)
  | succ r ih =>
    intro i G hi hG
    obtain ⟨p1, p2, p3⟩ := prA_ok hF1 hF2 i (by omega)
    refine V_iload_n C d_Who_becomeProduct_7 rfl rfl ?_
    refine V_iconst C d_Who_becomeProduct_8 rfl ?_
    refine V_icmp_ge (tgt := 98) C d_Who_becomeProduct_9 (by decide) (by unfold inI; omega) (by unfold inI; omega) (fun q9 => ?_) (fun q9 => ?_)
    · exact absurd q9 (by omega)
    · refine V_lconst (z := 0) C d_Who_becomeProduct_12 rfl ?_
      refine V_lstore C d_Who_becomeProduct_13 (by decide) rfl ?_
      refine V_iconst C d_Who_becomeProduct_15 rfl ?_
      refine V_istore C d_Who_becomeProduct_16 (by decide) rfl ?_
      refine V_loc2 (Who_prod_inner C hk ha hk1 ha1 hne1 hk2 ha2 hne2 hF1 hF2 p1 (i := i) (by omega) (fun G' lv hG' hlv => ?_) 4 0 G (by omega) (fun t ht => by rw [hG t ht, if_neg (by omega)])) ⟨rfl, rfl, rfl, rfl, rfl, rfl, trivial⟩
      refine V_loc hlv ?_
      refine V_iinc C d_Who_becomeProduct_92 rfl rfl (by decide) rfl ?_
      refine V_goto (tgt := 7) C d_Who_becomeProduct_95 (by decide) ?_
      exact V_loc2 (ih (i + 1) G' (by omega) (fun t ht => hG' t ht)) ⟨rfl, rfl, rfl, rfl, trivial⟩
set_option maxHeartbeats 4000000 in
/-- becomeProduct: of two numbers of four parts -/
theorem c_Who_becomeProduct (hl : yL l) {k a k1 a1 k2 a2 : Nat} {F F1 F2 : Nat → Int} (hk : h k = some (oO 2 [.ref (b + a)])) (ha : h a = some (oJ d 8 F)) (hk1 : h k1 = some (oO 2 [.ref (b + a1)])) (ha1 : h a1 = some (oJ d 8 F1)) (hne1 : a1 ≠ a) (hk2 : h k2 = some (oO 2 [.ref (b + a2)])) (ha2 : h a2 = some (oJ d 8 F2)) (hne2 : a2 ≠ a) (hF1 : dig F1 4) (hF2 : dig F2 4) :
    yM l y_Who_becomeProduct b_Who_becomeProduct 9 none 1 30 0 0 d b n h [.ref (b + k), .ref (b + k1), .ref (b + k2)] (fun r n' h' => r = none ∧ n' = n ∧ ∃ G, dig G 8 ∧ vl G 8 = vl F1 4 * vl F2 4 ∧ h' = hs h a (oJ d 8 G)) noT := by
  refine yM_of hl (by decide +kernel) (Nat.le_of_ble_eq_true rfl) (fun p e s m args below meth c C => ?_)
  obtain ⟨p1, p2, p3⟩ := prA_ok hF1 hF2 4 (Nat.le_refl 4)
  refine V_aload_n C d_Who_becomeProduct_0 rfl rfl ?_
  refine V_lconst (z := 0) C d_Who_becomeProduct_1 rfl ?_
  refine V_callV C (c_Who_become (v := 0) hl hk ha (by omega) (by omega)) wc_Who_become w_Who_becomeProduct_2 np_Who_become (by decide) hk rfl rfl (Nat.le_of_ble_eq_true rfl) d_Who_becomeProduct_2 (fun v n1 h1 hp => ?_) (fun Cx n1 h1 hp => hp.elim)
  obtain ⟨rfl, rfl, G, hG, hGv, rfl⟩ := hp
  refine V_iconst C d_Who_becomeProduct_5 rfl ?_
  refine V_istore_n C d_Who_becomeProduct_6 rfl (by decide) rfl ?_
  have hG0 : ∀ t, t < 8 → G t = 0 := vl_inj hG (dig0 8) (by rw [hGv, vl_zero (f := fun _ => (0 : Int)) (fun t ht => rfl)])
  refine V_loc2 (Who_prod_outer C hk ha hk1 ha1 hne1 hk2 ha2 hne2 hF1 hF2 (fun G' lv hG' => ?_) 4 0 G (by omega) (fun t ht => hG0 t ht)) ⟨rfl, rfl, rfl, rfl, trivial⟩
  exact V_return C d_Who_becomeProduct_98 (Nat.le_refl _) (Nat.le_refl _) ⟨rfl, rfl, G', fun t ht => by rw [hG' t ht]; exact p1 t ht, by rw [vl_congr hG', p3], rfl⟩
end Prod
