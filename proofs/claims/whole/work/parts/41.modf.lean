theorem p10_37 {n : Nat} (h : 37 ≤ n) : (10 : Int) ^ 37 ≤ 10 ^ n := by
  have e1 : (10 : Int) ^ n = 10 ^ 37 * 10 ^ (n - 37) := by rw [← Int.pow_add]; congr 1; omega
  have e2 := Tpos (n - 37)
  rw [e1]
  have := Int.mul_le_mul_of_nonneg_left (show (1 : Int) ≤ 10 ^ (n - 37) by omega) (show (0 : Int) ≤ 10 ^ 37 by decide)
  omega
/-- one row of the product -/
def mrow (x : Int) (g A : Nat → Int) (i : Nat) : Nat → Int := fun t => if t < i then A t else qrD x g (fun j => A (i + j)) (t - i)
theorem mrow_ok {f g A : Nat → Int} {i : Nat} (hi : i < 36) (hf : dgt f 36) (hg : dgt g 80) (hg0 : ∀ t, 36 ≤ t → t < 80 → g t = 0) (hA : dgt A 80) (hv : wl A 80 = wl f i * wl g 36) : dgt (mrow (f i) g A i) 80 ∧ wl (mrow (f i) g A i) 80 = wl f (i + 1) * wl g 36 := by
  have hx := hf i hi
  have dA : dgt (fun j => A (i + j)) (80 - i) := fun j hj => hA (i + j) (by omega)
  have dg : dgt g (80 - i) := dgt_le hg (by omega)
  have cin := qrC_in hx dg dA (80 - i) (Nat.le_refl _)
  have val := qr_val (f i) g (fun j => A (i + j)) (80 - i)
  have gv : wl g (80 - i) = wl g 36 := by
    rw [show 80 - i = 36 + (44 - i) by omega]
    exact wl_high (fun t h1 h2 => hg0 t h1 (by omega))
  have sp := wl_add A i (80 - i)
  rw [show i + (80 - i) = 80 by omega, hv] at sp
  have bf := wl_bound (dgt_le hf (show i ≤ 36 by omega))
  have bg := wl_bound (dgt_le hg (show 36 ≤ 80 by omega))
  have bA := wl_bound dA
  have bAi := wl_bound (dgt_le hA (show i ≤ 80 by omega))
  have hp := Tpos i
  have hn := p10_37 (n := 80 - i) (by omega)
  rw [gv] at val
  have dD : dgt (fun j => qrD (f i) g (fun j => A (i + j)) j) (80 - i) := fun j hj => by
    show 0 ≤ qrD (f i) g (fun j => A (i + j)) j ∧ qrD (f i) g (fun j => A (i + j)) j < 10
    unfold qrD
    omega
  have bD := wl_bound dD
  -- the upper part is small
  have hup : wl (fun j => A (i + j)) (80 - i) ≤ wl g 36 := by
    by_cases q : wl (fun j => A (i + j)) (80 - i) ≤ wl g 36
    · exact q
    · exfalso
      have h1 := Int.mul_le_mul_of_nonneg_left (show wl g 36 + 1 ≤ wl (fun j => A (i + j)) (80 - i) by omega) (show (0 : Int) ≤ 10 ^ i by omega)
      have h2 := Int.mul_le_mul_of_nonneg_right (show wl f i ≤ 10 ^ i by omega) bg.1
      rw [Int.mul_add, Int.mul_one] at h1
      omega
  have hxg : f i * wl g 36 ≤ 9 * wl g 36 := Int.mul_le_mul_of_nonneg_right (by omega) bg.1
  have c0 : qrC (f i) g (fun j => A (i + j)) (80 - i) = 0 := by
    by_cases q : qrC (f i) g (fun j => A (i + j)) (80 - i) = 0
    · exact q
    · exfalso
      have hP : (0 : Int) < 10 ^ (80 - i) := Tpos _
      have h1 := Int.mul_le_mul_of_nonneg_right (show (1 : Int) ≤ qrC (f i) g (fun j => A (i + j)) (80 - i) by omega) (show (0 : Int) ≤ 10 ^ (80 - i) by omega)
      rw [show (fun j => qrD (f i) g (fun j => A (i + j)) j) = qrD (f i) g (fun j => A (i + j)) from rfl] at bD
      omega
  rw [c0, Int.zero_mul, Int.add_zero] at val
  refine ⟨fun t ht => ?_, ?_⟩
  · show 0 ≤ mrow (f i) g A i t ∧ mrow (f i) g A i t < 10
    unfold mrow
    by_cases e1 : t < i
    · rw [if_pos e1]; exact hA t ht
    · rw [if_neg e1]; exact dD (t - i) (by omega)
  · have s2 := wl_add (mrow (f i) g A i) i (80 - i)
    rw [show i + (80 - i) = 80 by omega] at s2
    have s3 : wl (mrow (f i) g A i) i = wl A i := wl_congr (fun t ht => if_pos ht)
    have s4 : wl (fun j => mrow (f i) g A i (i + j)) (80 - i) = wl (qrD (f i) g (fun j => A (i + j))) (80 - i) := wl_congr (fun j hj => by
      show (if i + j < i then _ else _) = _
      rw [if_neg (by omega), show i + j - i = j by omega])
    rw [s2, s3, s4, val]
    have e9 : wl f (i + 1) = wl f i + f i * 10 ^ i := rfl
    rw [e9, Int.add_mul, sp, Int.mul_add, Int.mul_right_comm (f i), Int.mul_comm (f i * wl g 36)]
    omega
section ModF
variable {p : Program} {l : Launch} {e : Env} {R : Room} {s : State} {m : MethodId} {args : Array Value} {below : List Frame} {meth : Method} {c : Code} {d : yD} {b : Nat} {Q : State → Prop} {cells slots n : Nat} {h : yH}
variable {y0 : YS} {v : Vw}
set_option maxHeartbeats 1000000 in
theorem Mod_mul_inner (C : yC p l s m args meth c y_Mod_multiply b_Mod_multiply 7 none [] d b) (dd : dgt y0.D 13824) {a1 a2 i : Nat} (hi : i < 36) (h1 : a1 + 36 ≤ 13824) (h2 : a2 + 36 ≤ 13824) {N g : Nat → Int} (dN : dgt N 80) (hg : ∀ k, k < 80 → g k = if k < 36 then y0.D (a2 + k) else 0) (dg : dgt g 80)
    (kk : ∀ (G : Nat → Int) (h' : yH), (∀ t, t < 80 → G t = mrow (y0.D (a1 + i)) g N i t) → AtM d b (y0.s_wd G) h' → FrM h h' → V p l e R s m args below meth c 7 d b Q cells slots n h' 98 [(0, .ref (b + 29)), (1, vi a1), (2, vi a2), (3, vi i)] []) :
    ∀ (k j : Nat) (G : Nat → Int) (h' : yH), i + j + k = 80 → (∀ t, t < i + j → G t = mrow (y0.D (a1 + i)) g N i t) → (∀ t, i + j ≤ t → t < 80 → G t = N t) → AtM d b (y0.s_wd G) h' → FrM h h' → V p l e R s m args below meth c 7 d b Q cells slots n h' 18 [(0, .ref (b + 29)), (1, vi a1), (2, vi a2), (3, vi i), (4, vi (qrC (y0.D (a1 + i)) g (fun j => N (i + j)) j)), (5, vi j)] [] := by
  have hx := dd (a1 + i) (by omega)
  have dN' : dgt (fun j => N (i + j)) (80 - i) := fun j hj => dN _ (by omega)
  intro k
  induction k with
  | zero =>
    intro j G h' hj hG hG2 A F
    refine V_iload_n C d_Mod_multiply_18 rfl rfl ?_
    refine V_iload C d_Mod_multiply_19 rfl ?_
    refine V_iadd C d_Mod_multiply_21 ?_
    refine V_bipush (z := 80) C d_Mod_multiply_22 rfl ?_
    refine V_icmp_ge (tgt := 98) C d_Mod_multiply_24 (by decide) (by unfold inI; omega) (by unfold inI; omega) (fun q24 => ?_) (fun q24 => ?_)
    · exact V_loc2 (kk G h' (fun t ht => hG t (by omega)) A F) ⟨rfl, rfl, rfl, rfl, trivial⟩
    · exact absurd q24 (by omega)
  | succ k ih =>
    intro j G h' hj hG hG2 A F
    have c1 := qrC_in hx (dgt_le dg (show 80 - i ≤ 80 by omega)) dN' j (by omega)
    have n1 := dN (i + j) (by omega)
    have g1 := dg j (by omega)
    have gj := hg j (by omega)
    have m1 := qr_mul hx g1
    have aw : h' 35 = some (oI d 80 G) := A.w
    have ag : h' 32 = some (oI d 13824 y0.D) := A.g
    have t0 : ((i : Int) + (j : Int)).toNat = i + j := by omega
    have tail : V p l e R s m args below meth c 7 d b Q cells slots n h' 68 [(0, .ref (b + 29)), (1, vi a1), (2, vi a2), (3, vi i), (4, vi (qrC (y0.D (a1 + i)) g (fun j => N (i + j)) j)), (5, vi j)] [vi (y0.D (a1 + i) * g j), vi (N (i + j) + qrC (y0.D (a1 + i)) g (fun j => N (i + j)) j)] := by
      refine V_iadd C d_Mod_multiply_68 ?_
      refine V_istore C d_Mod_multiply_69 (by decide) rfl ?_
      have e1 : N (i + j) + qrC (y0.D (a1 + i)) g (fun j => N (i + j)) j + y0.D (a1 + i) * g j = y0.D (a1 + i) * g j + N (i + j) + qrC (y0.D (a1 + i)) g (fun j => N (i + j)) j := by omega
      rw [e1]
      refine V_aload_n C d_Mod_multiply_71 rfl rfl ?_
      refine V_get C 4 9 A.o rfl in_Mod (by decide) w_Mod_multiply_72 rfl rfl d_Mod_multiply_72 ?_
      refine V_iload_n C d_Mod_multiply_75 rfl rfl ?_
      refine V_iload C d_Mod_multiply_76 rfl ?_
      refine V_iadd C d_Mod_multiply_78 ?_
      refine V_iload C d_Mod_multiply_79 rfl ?_
      refine V_bipush (z := 10) C d_Mod_multiply_81 rfl ?_
      refine V_iremP C d_Mod_multiply_83 (by omega) (by omega) (by omega) (by omega) ?_
      refine V_iastore C aw (by omega) (by omega) (by decide) d_Mod_multiply_84 ?_
      refine V_iload C d_Mod_multiply_85 rfl ?_
      refine V_bipush (z := 10) C d_Mod_multiply_87 rfl ?_
      refine V_idivP C d_Mod_multiply_89 (by omega) (by omega) (by omega) (by omega) ?_
      refine V_istore C d_Mod_multiply_90 (by decide) rfl ?_
      refine V_iinc C d_Mod_multiply_92 rfl rfl (by decide) rfl ?_
      refine V_goto (tgt := 18) C d_Mod_multiply_95 (by decide) ?_
      rw [t0]
      refine V_loc2 (ih (j + 1) (fu G (i + j) ((y0.D (a1 + i) * g j + N (i + j) + qrC (y0.D (a1 + i)) g (fun j => N (i + j)) j) % 10)) _ (by omega) (fun t ht => ?_) (fun t h3 h4 => ?_) (A.setW _) (F.set (by omega) _)) ⟨rfl, rfl, rfl, rfl, rfl, rfl, trivial⟩
      · by_cases e1 : t = i + j
        · rw [e1, fu_eq]
          unfold mrow
          rw [if_neg (by omega), show i + j - i = j by omega]
          rfl
        · rw [fu_ne _ _ e1]; exact hG t (by omega)
      · rw [fu_ne _ _ (by omega)]; exact hG2 t (by omega) h4
    refine V_iload_n C d_Mod_multiply_18 rfl rfl ?_
    refine V_iload C d_Mod_multiply_19 rfl ?_
    refine V_iadd C d_Mod_multiply_21 ?_
    refine V_bipush (z := 80) C d_Mod_multiply_22 rfl ?_
    refine V_icmp_ge (tgt := 98) C d_Mod_multiply_24 (by decide) (by unfold inI; omega) (by unfold inI; omega) (fun q24 => ?_) (fun q24 => ?_)
    · exact absurd q24 (by omega)
    · refine V_aload_n C d_Mod_multiply_27 rfl rfl ?_
      refine V_get C 4 9 A.o rfl in_Mod (by decide) w_Mod_multiply_28 rfl rfl d_Mod_multiply_28 ?_
      refine V_iload_n C d_Mod_multiply_31 rfl rfl ?_
      refine V_iload C d_Mod_multiply_32 rfl ?_
      refine V_iadd C d_Mod_multiply_34 ?_
      refine V_iaload C aw (by omega) (by omega) (by decide) d_Mod_multiply_35 ?_
      rw [t0, hG2 (i + j) (Nat.le_refl _) (by omega)]
      refine V_iload C d_Mod_multiply_36 rfl ?_
      refine V_iadd C d_Mod_multiply_38 ?_
      refine V_iload C d_Mod_multiply_39 rfl ?_
      refine V_bipush (z := 36) C d_Mod_multiply_41 rfl ?_
      refine V_icmp_ge (tgt := 67) C d_Mod_multiply_43 (by decide) (by unfold inI; omega) (by unfold inI; omega) (fun q43 => ?_) (fun q43 => ?_)
      · refine V_iconst C d_Mod_multiply_67 rfl ?_
        rw [if_neg (by omega)] at gj
        rw [gj, Int.mul_zero] at tail
        exact tail
      · refine V_aload_n C d_Mod_multiply_46 rfl rfl ?_
        refine V_get C 4 4 A.o rfl in_Mod (by decide) w_Mod_multiply_47 rfl rfl d_Mod_multiply_47 ?_
        refine V_iload_n C d_Mod_multiply_50 rfl rfl ?_
        refine V_iload_n C d_Mod_multiply_51 rfl rfl ?_
        refine V_iadd C d_Mod_multiply_52 ?_
        refine V_iaload C ag (by omega) (by omega) (by decide) d_Mod_multiply_53 ?_
        refine V_aload_n C d_Mod_multiply_54 rfl rfl ?_
        refine V_get C 4 4 A.o rfl in_Mod (by decide) w_Mod_multiply_55 rfl rfl d_Mod_multiply_55 ?_
        refine V_iload_n C d_Mod_multiply_58 rfl rfl ?_
        refine V_iload C d_Mod_multiply_59 rfl ?_
        refine V_iadd C d_Mod_multiply_61 ?_
        refine V_iaload C ag (by omega) (by omega) (by decide) d_Mod_multiply_62 ?_
        rw [if_pos (by omega)] at gj
        rw [show ((a1 : Int) + (i : Int)).toNat = a1 + i by omega, show ((a2 : Int) + (j : Int)).toNat = a2 + j by omega, ← gj]
        refine V_imul C d_Mod_multiply_63 ?_
        refine V_goto (tgt := 68) C d_Mod_multiply_64 (by decide) ?_
        exact tail
set_option maxHeartbeats 1000000 in
theorem Mod_mul_outer (C : yC p l s m args meth c y_Mod_multiply b_Mod_multiply 7 none [] d b) (dd : dgt y0.D 13824) {a1 a2 : Nat} (h1 : a1 + 36 ≤ 13824) (h2 : a2 + 36 ≤ 13824) {g : Nat → Int} (hg : ∀ k, k < 80 → g k = if k < 36 then y0.D (a2 + k) else 0) (dg : dgt g 80)
    (kk : ∀ (N : Nat → Int) (h' : yH) (lv : List (Nat × Value)), dgt N 80 → wl N 80 = wl (fun k => y0.D (a1 + k)) 36 * wl g 36 → AtM d b (y0.s_wd N) h' → FrM h h' → V p l e R s m args below meth c 7 d b Q cells slots n h' 104 lv []) :
    ∀ (j i : Nat) (N : Nat → Int) (h' : yH), i + j = 36 → dgt N 80 → wl N 80 = wl (fun k => y0.D (a1 + k)) i * wl g 36 → AtM d b (y0.s_wd N) h' → FrM h h' → V p l e R s m args below meth c 7 d b Q cells slots n h' 6 [(0, .ref (b + 29)), (1, vi a1), (2, vi a2), (3, vi i)] [] := by
  intro j
  induction j with
  | zero =>
    intro i N h' hi dN hN A F
    have e0 : i = 36 := by omega
    subst e0
    refine V_iload_n C d_Mod_multiply_6 rfl rfl ?_
    refine V_bipush (z := 36) C d_Mod_multiply_7 rfl ?_
    refine V_icmp_ge (tgt := 104) C d_Mod_multiply_9 (by decide) (by unfold inI; omega) (by unfold inI; omega) (fun q9 => ?_) (fun q9 => ?_)
    · exact kk N h' _ dN hN A F
    · exact absurd q9 (by omega)
  | succ j ih =>
    intro i N h' hi dN hN A F
    refine V_iload_n C d_Mod_multiply_6 rfl rfl ?_
    refine V_bipush (z := 36) C d_Mod_multiply_7 rfl ?_
    refine V_icmp_ge (tgt := 104) C d_Mod_multiply_9 (by decide) (by unfold inI; omega) (by unfold inI; omega) (fun q9 => ?_) (fun q9 => ?_)
    · exact absurd q9 (by omega)
    · refine V_iconst C d_Mod_multiply_12 rfl ?_
      refine V_istore C d_Mod_multiply_13 (by decide) rfl ?_
      refine V_iconst C d_Mod_multiply_15 rfl ?_
      refine V_istore C d_Mod_multiply_16 (by decide) rfl ?_
      refine V_loc2 (Mod_mul_inner (y0 := y0) (h := h) C dd (i := i) (by omega) h1 h2 dN hg dg (fun G h'' k1 k2 k3 => ?_) (80 - i) 0 N _ (by omega) (fun t ht => by unfold mrow; rw [if_pos (by omega)]) (fun t _ _ => rfl) A F) ⟨rfl, rfl, rfl, rfl, rfl, rfl, trivial⟩
      have ok := mrow_ok (f := fun k => y0.D (a1 + k)) (g := g) (A := N) (i := i) (by omega) (fun k hk => dd _ (by omega)) dg (fun t t1 t2 => by rw [hg t t2, if_neg (by omega)]) dN hN
      refine V_iinc C d_Mod_multiply_98 rfl rfl (by decide) rfl ?_
      refine V_goto (tgt := 6) C d_Mod_multiply_101 (by decide) ?_
      exact V_loc2 (ih (i + 1) G _ (by omega) (fun t ht => by rw [k1 t ht]; exact ok.1 t ht) (by rw [wl_congr k1]; exact ok.2) k2 k3) ⟨rfl, rfl, rfl, rfl, trivial⟩
set_option maxHeartbeats 1000000 in
theorem c_Mod_multiply (hl : yL l) (A : AtM d b y0 h) (dd : dgt y0.D 13824) {a1 a2 : Nat} {z1 z2 : Int} (e1 : z1 = a1) (e2 : z2 = a2) (h1 : a1 + 36 ≤ 13824) (h2 : a2 + 36 ≤ 13824) : yM l y_Mod_multiply b_Mod_multiply 7 none 1 30 0 0 d b n h [.ref (b + 29), vi z1, vi z2] (fun q n' h' => q = none ∧ n' = n ∧ FrM h h' ∧ ∃ G, dgt G 80 ∧ wl G 80 = wl (fun k => y0.D (a1 + k)) 36 * wl (fun k => y0.D (a2 + k)) 36 ∧ AtM d b (y0.s_wd G) h') noT := by
  subst e1 e2
  refine yM_of hl (by decide +kernel) (Nat.le_of_ble_eq_true rfl) (fun p e s m args below meth c C => ?_)
  refine V_aload_n C d_Mod_multiply_0 rfl rfl ?_
  refine V_callV C (c_Mod_blank hl A) wc_Mod_blank w_Mod_multiply_1 np_Mod_blank (by decide) A.o rfl rfl (Nat.le_of_ble_eq_true rfl) d_Mod_multiply_1 (fun w n5 h5 hp => ?_) (fun Cx n1 h1 hp => hp.elim)
  obtain ⟨rfl, rfl, F, G0, z0, A1⟩ := hp
  have dg : dgt (fun k => if k < 36 then y0.D (a2 + k) else 0) 80 := fun k hk => by
    show 0 ≤ (if k < 36 then _ else (0 : Int)) ∧ (if k < 36 then _ else (0 : Int)) < 10
    by_cases e1 : k < 36
    · rw [if_pos e1]; exact dd _ (by omega)
    · rw [if_neg e1]; omega
  refine V_iconst C d_Mod_multiply_4 rfl ?_
  refine V_istore_n C d_Mod_multiply_5 rfl (by decide) rfl ?_
  refine V_loc2 (Mod_mul_outer (y0 := y0) (h := h) C dd h1 h2 (g := fun k => if k < 36 then y0.D (a2 + k) else 0) (fun k hk => rfl) dg (fun N h' lv k1 k2 k3 k4 => ?_) 36 0 G0 _ (by omega) (fun t ht => by rw [z0 t ht]; omega) (by rw [wl_zero z0]; show (0 : Int) = 0 * _; rw [Int.zero_mul]) A1 F) ⟨rfl, rfl, rfl, rfl, trivial⟩
  exact V_return C d_Mod_multiply_104 (Nat.le_refl _) (Nat.le_refl _) ⟨rfl, rfl, k4, N, k1, k2.trans (congrArg (fun q => _ * q) (wl_congr (fun t ht => if_pos ht))), k3⟩
set_option maxHeartbeats 1000000 in
theorem Mod_sum_loop (C : yC p l s m args meth c y_Mod_sumUp b_Mod_sumUp 4 none [] d b) (hl : yL l) (hv : OkV v) (O : OkM y0 v) {r all : Int} {i mm : Nat} (hr : r = i) (hi : i < v.rc) (hm : v.M i = mm) {S : Nat → Bool} (hall : all = 0 ∨ all = 1) (hS : ∀ k, k < mm → (S k = true ↔ all ≠ 0 ∨ y0.ch k ≠ 0)) (hch : all = 0 → ∀ k, k < mm → y0.ch k = 0 ∨ y0.ch k = 1) (hR : 3 ≤ R.frames ∧ 90 ≤ R.locals ∧ cells ≤ R.cells ∧ slots ≤ R.slots)
    (kk : ∀ (G : Nat → Int) (h' : yH) (lv : List (Nat × Value)), dgt G 80 → wl G 80 = sumS (v.W i) S mm → AtM d b (y0.s_wd G) h' → FrM h h' → V p l e R s m args below meth c 4 d b Q cells slots n h' 48 lv []) :
    ∀ (j t : Nat) (G : Nat → Int) (h' : yH), t + j = mm → dgt G 80 → wl G 80 = sumS (v.W i) S t → AtM d b (y0.s_wd G) h' → FrM h h' → V p l e R s m args below meth c 4 d b Q cells slots n h' 6 [(0, .ref (b + 29)), (1, vi r), (2, vi all), (3, vi t)] [] := by
  obtain ⟨R1, R2, R3, R4⟩ := hR
  obtain ⟨f1, f2, f3, f4⟩ := hv.ok i hi
  have hrc := hv.rc
  have e1 := O.ff i hi
  have e2 := O.fm i hi
  have hri : r.toNat = i := by omega
  intro j
  induction j with
  | zero =>
    intro t G h' hj dG hG A F
    have e0 : t = mm := by omega
    subst e0
    have az : h' 31 = some (oI d 8 y0.sz) := A.z
    refine V_iload_n C d_Mod_sumUp_6 rfl rfl ?_
    refine V_aload_n C d_Mod_sumUp_7 rfl rfl ?_
    refine V_get C 4 3 A.o rfl in_Mod (by decide) w_Mod_sumUp_8 rfl rfl d_Mod_sumUp_8 ?_
    refine V_iload_n C d_Mod_sumUp_11 rfl rfl ?_
    refine V_iaload C az (by omega) (by omega) (by decide) d_Mod_sumUp_12 ?_
    rw [hri, e2]
    refine V_icmp_ge (tgt := 48) C d_Mod_sumUp_13 (by decide) (by unfold inI; omega) (by unfold inI; omega) (fun q13 => ?_) (fun q13 => ?_)
    · exact kk G h' _ dG hG A F
    · exact absurd q13 (by omega)
  | succ j ih =>
    intro t G h' hj dG hG A F
    have az : h' 31 = some (oI d 8 y0.sz) := A.z
    have af : h' 30 = some (oI d 8 y0.fs) := A.f
    have ac : h' 37 = some (oZ d 48 y0.ch) := A.c
    have en : sumS (v.W i) S (t + 1) = sumS (v.W i) S t + (if S t = true then v.W i t else 0) := rfl
    have sS := hS t (by omega)
    have sb := sumS_in (W := v.W i) (S := S) (B := 1000000000 ^ 4) (k := t) (fun q hq => hv.ww i hi q (by omega))
    have skip : S t = false → V p l e R s m args below meth c 4 d b Q cells slots n h' 42 [(0, .ref (b + 29)), (1, vi r), (2, vi all), (3, vi t)] [] := fun hs0 => by
      refine V_iinc C d_Mod_sumUp_42 rfl rfl (by decide) rfl ?_
      refine V_goto (tgt := 6) C d_Mod_sumUp_45 (by decide) ?_
      exact V_loc2 (ih (t + 1) G h' (by omega) dG (by rw [hG, en, if_neg (by rw [hs0]; decide), Int.add_zero]) A F) ⟨rfl, rfl, rfl, rfl, trivial⟩
    have take : S t = true → V p l e R s m args below meth c 4 d b Q cells slots n h' 29 [(0, .ref (b + 29)), (1, vi r), (2, vi all), (3, vi t)] [] := fun hs0 => by
      refine V_aload_n C d_Mod_sumUp_29 rfl rfl ?_
      refine V_iload_n C d_Mod_sumUp_30 rfl rfl ?_
      refine V_aload_n C d_Mod_sumUp_31 rfl rfl ?_
      refine V_get C 4 2 A.o rfl in_Mod (by decide) w_Mod_sumUp_32 rfl rfl d_Mod_sumUp_32 ?_
      refine V_iload_n C d_Mod_sumUp_35 rfl rfl ?_
      refine V_iaload C af (by omega) (by omega) (by decide) d_Mod_sumUp_36 ?_
      rw [hri, e1]
      refine V_iload_n C d_Mod_sumUp_37 rfl rfl ?_
      refine V_iadd C d_Mod_sumUp_38 ?_
      have hy : hasY v r (v.F i + t) := by rw [hr]; exact ⟨⟨by omega, by omega⟩, by rw [Int.toNat_natCast]; omega, by rw [Int.toNat_natCast]; omega⟩
      refine V_callV C (c_Mod_plus hl hv A (O.sW G) (r := r) (z := v.F i + t) ⟨by omega, by omega⟩ ⟨by omega, by omega⟩ dG (by show wl G 80 + _ ≤ _; rw [hG]; omega)) wc_Mod_plus w_Mod_sumUp_39 np_Mod_plus ⟨by omega, by omega, R3, R4⟩ A.o rfl rfl (Nat.le_of_ble_eq_true rfl) d_Mod_sumUp_39 (fun v n1 h1 hp => ?_) (fun Cx n1 h1 hp => hp.elim)
      obtain ⟨rfl, rfl, F2, G2, d2, v2, A2⟩ := hp
      rw [if_pos hy, hri, show (v.F i + (t : Int) - v.F i).toNat = t by omega] at v2
      refine V_iinc C d_Mod_sumUp_42 rfl rfl (by decide) rfl ?_
      refine V_goto (tgt := 6) C d_Mod_sumUp_45 (by decide) ?_
      exact V_loc2 (ih (t + 1) G2 _ (by omega) d2 (by rw [v2, en, if_pos hs0]; show wl G 80 + _ = _; rw [hG]) A2 (F.tr F2)) ⟨rfl, rfl, rfl, rfl, trivial⟩
    refine V_iload_n C d_Mod_sumUp_6 rfl rfl ?_
    refine V_aload_n C d_Mod_sumUp_7 rfl rfl ?_
    refine V_get C 4 3 A.o rfl in_Mod (by decide) w_Mod_sumUp_8 rfl rfl d_Mod_sumUp_8 ?_
    refine V_iload_n C d_Mod_sumUp_11 rfl rfl ?_
    refine V_iaload C az (by omega) (by omega) (by decide) d_Mod_sumUp_12 ?_
    rw [hri, e2]
    refine V_icmp_ge (tgt := 48) C d_Mod_sumUp_13 (by decide) (by unfold inI; omega) (by unfold inI; omega) (fun q13 => ?_) (fun q13 => ?_)
    · exact absurd q13 (by omega)
    · refine V_iload_n C d_Mod_sumUp_16 rfl rfl ?_
      refine V_if_ne (tgt := 29) C d_Mod_sumUp_17 (by decide) (by unfold inI; omega) (fun q17 => ?_) (fun q17 => ?_)
      · exact take (sS.mpr (Or.inl q17))
      · have cc := hch q17 t (by omega)
        refine V_aload_n C d_Mod_sumUp_20 rfl rfl ?_
        refine V_get C 4 11 A.o rfl in_Mod (by decide) w_Mod_sumUp_21 rfl rfl d_Mod_sumUp_21 ?_
        refine V_iload_n C d_Mod_sumUp_24 rfl rfl ?_
        refine V_zaload C ac (by omega) (by omega) (by decide) d_Mod_sumUp_25 ?_
        rw [Int.toNat_natCast]
        refine V_if_eq (tgt := 42) C d_Mod_sumUp_26 (by decide) (by unfold inI; omega) (fun q26 => ?_) (fun q26 => ?_)
        · refine skip ?_
          cases hq : S t with
          | false => rfl
          | true => rcases sS.mp hq with w | w; exact absurd q17 w; exact absurd q26 w
        · exact take (sS.mpr (Or.inr q26))
set_option maxHeartbeats 1000000 in
theorem c_Mod_sumUp (hl : yL l) (hv : OkV v) (A : AtM d b y0 h) (O : OkM y0 v) {r all : Int} {i mm : Nat} (hr : r = i) (hi : i < v.rc) (hm : v.M i = mm) {S : Nat → Bool} (hall : all = 0 ∨ all = 1) (hS : ∀ k, k < mm → (S k = true ↔ all ≠ 0 ∨ y0.ch k ≠ 0)) (hch : all = 0 → ∀ k, k < mm → y0.ch k = 0 ∨ y0.ch k = 1) : yM l y_Mod_sumUp b_Mod_sumUp 4 none 3 90 0 0 d b n h [.ref (b + 29), vi r, vi all] (fun q n' h' => q = none ∧ n' = n ∧ FrM h h' ∧ ∃ G, dgt G 80 ∧ wl G 80 = sumS (v.W i) S mm ∧ AtM d b (y0.s_wd G) h') noT := by
  refine yM_of hl (by decide +kernel) (Nat.le_of_ble_eq_true rfl) (fun p e s m args below meth c C => ?_)
  refine V_aload_n C d_Mod_sumUp_0 rfl rfl ?_
  refine V_callV C (c_Mod_blank hl A) wc_Mod_blank w_Mod_sumUp_1 np_Mod_blank (by decide) A.o rfl rfl (Nat.le_of_ble_eq_true rfl) d_Mod_sumUp_1 (fun v n1 h1 hp => ?_) (fun Cx n1 h1 hp => hp.elim)
  obtain ⟨rfl, rfl, F, G0, z0, A1⟩ := hp
  refine V_iconst C d_Mod_sumUp_4 rfl ?_
  refine V_istore_n C d_Mod_sumUp_5 rfl (by decide) rfl ?_
  refine V_loc2 (Mod_sum_loop (y0 := y0) (h := h) C hl hv O hr hi hm hall hS hch (by decide) (fun G h' lv k1 k2 k3 k4 => ?_) mm 0 G0 _ (by omega) (fun t ht => by rw [z0 t ht]; omega) (by rw [wl_zero z0]; rfl) A1 F) ⟨rfl, rfl, rfl, rfl, trivial⟩
  exact V_return C d_Mod_sumUp_48 (Nat.le_refl _) (Nat.le_refl _) ⟨rfl, rfl, k4, G, k1, k2, k3⟩
end ModF
