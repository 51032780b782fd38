theorem bi_z {p : Prop} [Decidable p] {z : Int} (h : z = bi p) : inI z := by have := bi_in p; exact ⟨by omega, by omega⟩
theorem kG_bi {p q r s : Prop} [Decidable p] [Decidable q] [Decidable r] [Decidable s] : kG (bi p) (bi q) (bi r) (bi s) = ((if ¬ p then 1 else if ¬ q then 2 else if ¬ r then 3 else if ¬ s then 4 else 0 : Nat) : Int) := by
  unfold kG
  by_cases h1 : p
  · rw [if_neg (by rw [bi_1 h1]; omega), if_neg (c := ¬ p) (fun w => w h1)]
    by_cases h2 : q
    · rw [if_neg (by rw [bi_1 h2]; omega), if_neg (c := ¬ q) (fun w => w h2)]
      by_cases h3 : r
      · rw [if_neg (by rw [bi_1 h3]; omega), if_neg (c := ¬ r) (fun w => w h3)]
        by_cases h4 : s
        · rw [if_neg (by rw [bi_1 h4]; omega), if_neg (c := ¬ s) (fun w => w h4)]; rfl
        · rw [if_pos (bi_n h4), if_pos h4]; rfl
      · rw [if_pos (bi_n h3), if_pos h3]; rfl
    · rw [if_pos (bi_n h2), if_pos h2]; rfl
  · rw [if_pos (bi_n h1), if_pos h1]; rfl
theorem kG_b1 {p : Prop} [Decidable p] : kG (bi p) 1 1 1 = ((if ¬ p then 1 else 0 : Nat) : Int) := by
  show kG (bi p) (bi True) (bi True) (bi True) = _
  rw [kG_bi]
  rfl
theorem kG_b2 {p q : Prop} [Decidable p] [Decidable q] : kG (bi p) (bi q) 1 1 = ((if ¬ p then 1 else if ¬ q then 2 else 0 : Nat) : Int) := by
  show kG (bi p) (bi q) (bi True) (bi True) = _
  rw [kG_bi]
  rfl
theorem kG_b3 {p q r : Prop} [Decidable p] [Decidable q] [Decidable r] : kG (bi p) (bi q) (bi r) 1 = ((if ¬ p then 1 else if ¬ q then 2 else if ¬ r then 3 else 0 : Nat) : Int) := by
  show kG (bi p) (bi q) (bi r) (bi True) = _
  rw [kG_bi]
  rfl
theorem kG_b4 {p : Prop} [Decidable p] : kG 1 1 1 (bi p) = ((if ¬ p then 4 else 0 : Nat) : Int) := by
  show kG (bi True) (bi True) (bi True) (bi p) = _
  rw [kG_bi]
  rfl
section ModD
variable {p : Program} {l : Launch} {e : Env} {R : Room} {s : State} {m : MethodId} {args : Array Value} {below : List Frame} {meth : Method} {c : Code} {d : yD} {b : Nat} {Q : State → Prop} {cells slots n : Nat} {h : yH}
variable {y0 : YS} {v : Vw}
set_option maxHeartbeats 1000000 in
theorem c_Mod_row (hl : yL l) (hv : OkV v) (A : AtM d b y0 h) (O : OkM y0 v) {f k : Int} (hf : inI f) (hk : inI k) : yM l y_Mod_row b_Mod_row 4 (some .int) 1 40 0 0 d b n h [.ref (b + 29), vi f, vi k] (fun q n' h' => n' = n ∧ ∃ a, q = some (vi a) ∧ mR d b h v (kRow v f k) (vRow v f k) a v.rc h') noT := by
  refine yM_of hl (by decide +kernel) (Nat.le_of_ble_eq_true rfl) (fun p e s m args below meth c C => ?_)
  have hrc := hv.rc
  have e1 := O.rc
  have kk : kG (bi (v.rc < 8)) (bi ((1 ≤ k ∧ k ≤ 48) ∧ -9999 ≤ f ∧ f ≤ 9999 - (k - 1))) 1 1 = (kRow v f k : Nat) := by
    rw [kG_b2]
    unfold kRow
    by_cases q1 : 8 ≤ v.rc
    · rw [if_pos (by omega), if_pos q1]
    · rw [if_neg (by omega), if_neg q1]
      by_cases q2 : (1 ≤ k ∧ k ≤ 48) ∧ -9999 ≤ f ∧ f ≤ 9999 - (k - 1)
      · rw [if_neg (fun w => w q2), if_pos q2]
      · rw [if_pos q2, if_neg q2]
  have tail2 : ∀ z1 z2 : Int, z1 = bi (v.rc < 8) → z2 = bi ((1 ≤ k ∧ k ≤ 48) ∧ -9999 ≤ f ∧ f ≤ 9999 - (k - 1)) → V p l e (yRm 1 40 0 0) s m args below meth c 4 d b (yEnd below s args d b (fun q n' h' => n' = n ∧ ∃ a, q = some (vi a) ∧ mR d b h v (kRow v f k) (vRow v f k) a v.rc h') noT 0 0) 0 0 n h 55 [(0, .ref (b + 29)), (1, vi f), (2, vi k), (3, vi z2)] [vi z1, .ref (b + 29)] := fun z1 z2 hz1 hz2 => by
    refine V_iload_n C d_Mod_row_55 rfl rfl ?_
    refine V_iconst C d_Mod_row_56 rfl ?_
    refine V_iconst C d_Mod_row_57 rfl ?_
    refine V_callV C (c_Mod_goes hl A (bi_z hz1) (bi_z hz2) (z3 := 1) (z4 := 1) (by unfold inI; omega) (by unfold inI; omega)) wc_Mod_goes w_Mod_row_58 np_Mod_goes (by decide) A.o rfl rfl (Nat.le_of_ble_eq_true rfl) d_Mod_row_58 (fun v n1 h1 hp => ?_) (fun Cx n1 h1 hp => hp.elim)
    obtain ⟨rfl, rfl, A1, F1⟩ := hp
    rw [hz1, hz2, kk] at A1 ⊢
    have hb := bi_in (((kRow v f k : Nat) : Int) = 0)
    refine V_if_ne (tgt := 66) C d_Mod_row_61 (by decide) (by unfold inI; omega) (fun q61 => ?_) (fun q61 => ?_)
    · have k0 : kRow v f k = 0 := by
        by_cases q : ((kRow v f k : Nat) : Int) = 0
        · omega
        · exact absurd (bi_n q) q61
      have q1 : v.rc < 8 := by unfold kRow at k0; by_cases q : 8 ≤ v.rc; rw [if_pos q] at k0; omega; omega
      have q2 : (1 ≤ k ∧ k ≤ 48) ∧ -9999 ≤ f ∧ f ≤ 9999 - (k - 1) := by
        by_cases q : (1 ≤ k ∧ k ≤ 48) ∧ -9999 ≤ f ∧ f ≤ 9999 - (k - 1)
        · exact q
        · unfold kRow at k0; rw [if_neg (by omega), if_neg q] at k0; omega
      refine V_aload_n C d_Mod_row_66 rfl rfl ?_
      refine V_iload_n C d_Mod_row_67 rfl rfl ?_
      refine V_iload_n C d_Mod_row_68 rfl rfl ?_
      refine V_callV C (c_Mod_open' hl hv A1 (O.sTh _) q1 (f := f) (mm := k.toNat) (by omega) (by omega)) wc_Mod_open w_Mod_row_69 np_Mod_open (by decide) A1.o rfl rfl (Nat.le_of_ble_eq_true rfl) d_Mod_row_69 (fun w n2 h2 hp => ?_) (fun Cx n1 h1 hp => hp.elim)
      obtain ⟨rfl, rfl, F2, y1, A2, O2, t2⟩ := hp
      have r2 : y1.rc = v.rc + 1 := O2.rc
      refine V_aload_n C d_Mod_row_72 rfl rfl ?_
      refine V_get C 4 1 A2.o rfl in_Mod (by decide) w_Mod_row_73 rfl rfl d_Mod_row_73 ?_
      refine V_iconst C d_Mod_row_76 rfl ?_
      refine V_isub C d_Mod_row_77 ?_
      refine V_ireturn C d_Mod_row_78 (Nat.le_refl _) (Nat.le_refl _) ⟨rfl, _, rfl, F1.tr F2, fun _ => ⟨⟨y1, A2, O2, t2.trans (by rw [k0]; rfl)⟩, by rw [r2]; omega⟩, fun q => absurd k0 q⟩
    · have k0 : kRow v f k ≠ 0 := fun q => by rw [q] at q61; exact absurd q61 (by decide)
      refine V_iconst C d_Mod_row_64 rfl ?_
      exact V_ireturn C d_Mod_row_65 (Nat.le_refl _) (Nat.le_refl _) ⟨rfl, 0, rfl, F1, fun q => absurd q k0, fun _ => ⟨_, A1, O.sTh _, rfl⟩⟩
  have tail1 : ∀ z2 : Int, z2 = bi ((1 ≤ k ∧ k ≤ 48) ∧ -9999 ≤ f ∧ f ≤ 9999 - (k - 1)) → V p l e (yRm 1 40 0 0) s m args below meth c 4 d b (yEnd below s args d b (fun q n' h' => n' = n ∧ ∃ a, q = some (vi a) ∧ mR d b h v (kRow v f k) (vRow v f k) a v.rc h') noT 0 0) 0 0 n h 39 [(0, .ref (b + 29)), (1, vi f), (2, vi k)] [vi z2] := fun z2 hz2 => by
    refine V_istore_n C d_Mod_row_39 rfl (by decide) rfl ?_
    refine V_aload_n C d_Mod_row_40 rfl rfl ?_
    refine V_aload_n C d_Mod_row_41 rfl rfl ?_
    refine V_get C 4 1 A.o rfl in_Mod (by decide) w_Mod_row_42 rfl rfl d_Mod_row_42 ?_
    refine V_bipush (z := 8) C d_Mod_row_45 rfl ?_
    refine V_icmp_ge (tgt := 54) C d_Mod_row_47 (by decide) (by unfold inI; omega) (by unfold inI; omega) (fun q47 => ?_) (fun q47 => ?_)
    · refine V_iconst C d_Mod_row_54 rfl ?_
      exact V_loc2 (tail2 0 z2 (bi_n (by omega)).symm hz2) ⟨rfl, rfl, rfl, rfl, trivial⟩
    · refine V_iconst C d_Mod_row_50 rfl ?_
      refine V_goto (tgt := 55) C d_Mod_row_51 (by decide) ?_
      exact V_loc2 (tail2 1 z2 (bi_1 (by omega)).symm hz2) ⟨rfl, rfl, rfl, rfl, trivial⟩
  refine V_iload_n C d_Mod_row_0 rfl rfl ?_
  refine V_iconst C d_Mod_row_1 rfl ?_
  refine V_bipush (z := 48) C d_Mod_row_2 rfl ?_
  refine V_callS C (c_Mod_within hl hk (lo := 1) (hi := 48) (by unfold inI; omega) (by unfold inI; omega)) wc_Mod_within w_Mod_row_4 np_Mod_within (by decide) rfl (Nat.le_of_ble_eq_true rfl) d_Mod_row_4 (fun v n1 h1 hp => ?_) (fun Cx n1 h1 hp => hp.elim)
  obtain ⟨rfl, rfl, rfl⟩ := hp
  have hb1 := bi_in (1 ≤ k ∧ k ≤ 48)
  refine V_if_eq (tgt := 38) C d_Mod_row_7 (by decide) (by unfold inI; omega) (fun q7 => ?_) (fun q7 => ?_)
  · have := bi_0.mp q7
    refine V_iconst C d_Mod_row_38 rfl ?_
    exact V_loc2 (tail1 0 (bi_n (by omega)).symm) ⟨rfl, rfl, rfl, trivial⟩
  · have g1 : 1 ≤ k ∧ k ≤ 48 := by
      by_cases q : 1 ≤ k ∧ k ≤ 48
      · exact q
      · exact absurd (bi_n q) q7
    refine V_iload_n C d_Mod_row_10 rfl rfl ?_
    refine V_sipush (z := (-9999)) C d_Mod_row_11 rfl ?_
    refine V_sipush (z := 9999) C d_Mod_row_14 rfl ?_
    refine V_callS C (c_Mod_within hl hf (lo := -9999) (hi := 9999) (by unfold inI; omega) (by unfold inI; omega)) wc_Mod_within w_Mod_row_17 np_Mod_within (by decide) rfl (Nat.le_of_ble_eq_true rfl) d_Mod_row_17 (fun v n1 h1 hp => ?_) (fun Cx n1 h1 hp => hp.elim)
    obtain ⟨rfl, rfl, rfl⟩ := hp
    have hb2 := bi_in (-9999 ≤ f ∧ f ≤ 9999)
    refine V_if_eq (tgt := 38) C d_Mod_row_20 (by decide) (by unfold inI; omega) (fun q20 => ?_) (fun q20 => ?_)
    · have := bi_0.mp q20
      refine V_iconst C d_Mod_row_38 rfl ?_
      exact V_loc2 (tail1 0 (bi_n (by omega)).symm) ⟨rfl, rfl, rfl, trivial⟩
    · have g2 : -9999 ≤ f ∧ f ≤ 9999 := by
        by_cases q : -9999 ≤ f ∧ f ≤ 9999
        · exact q
        · exact absurd (bi_n q) q20
      refine V_iload_n C d_Mod_row_23 rfl rfl ?_
      refine V_iload_n C d_Mod_row_24 rfl rfl ?_
      refine V_iadd C d_Mod_row_25 ?_
      refine V_iconst C d_Mod_row_26 rfl ?_
      refine V_isub C d_Mod_row_27 ?_
      refine V_sipush (z := 9999) C d_Mod_row_28 rfl ?_
      refine V_icmp_gt (tgt := 38) C d_Mod_row_31 (by decide) (by unfold inI; omega) (by unfold inI; omega) (fun q31 => ?_) (fun q31 => ?_)
      · refine V_iconst C d_Mod_row_38 rfl ?_
        exact V_loc2 (tail1 0 (bi_n (by omega)).symm) ⟨rfl, rfl, rfl, trivial⟩
      · refine V_iconst C d_Mod_row_34 rfl ?_
        refine V_goto (tgt := 39) C d_Mod_row_35 (by decide) ?_
        exact V_loc2 (tail1 1 (bi_1 (by omega)).symm) ⟨rfl, rfl, rfl, trivial⟩
set_option maxHeartbeats 1000000 in
theorem Mod_weight_loop (C : yC p l s m args meth c y_Mod_weight b_Mod_weight 10 (some .boolean) [] d b) (hl : yL l) {r z f w : Int} {a : Nat} (h0 : 0 ≤ r) (h8 : r < 8) (hf : y0.fs r.toNat = f) (ha : 36 * (48 * r + z - f) = a) (ha2 : a + 36 ≤ 13824) (dd : dgt y0.D 13824) (hw0 : 0 ≤ w) (hw1 : w ≤ 9223372036854775807) (hR : 1 ≤ R.frames ∧ 30 ≤ R.locals ∧ cells ≤ R.cells ∧ slots ≤ R.slots)
    (kk : ∀ (c0 : Int) (G : Nat → Int) (h' : yH), (c0 = 0 ∨ c0 = 1) → (c0 = 0 ↔ ∀ k, k < 36 → y0.D (a + k) = tcD w k) → (∀ k, k < 36 → G (a + k) = tcD w k) → (∀ t, t < a ∨ a + 36 ≤ t → G t = y0.D t) → AtM d b (y0.s_D G) h' → FrM h h' → V p l e R s m args below meth c 10 d b Q cells slots n h' 114 [(5, vi c0)] []) :
    ∀ (j i : Nat) (c0 : Int) (G : Nat → Int) (h' : yH), i + j = 36 → (c0 = 0 ∨ c0 = 1) → (c0 = 0 ↔ ∀ k, k < i → y0.D (a + k) = tcD w k) → (∀ k, k < i → G (a + k) = tcD w k) → (∀ t, t < a ∨ a + i ≤ t → G t = y0.D t) → AtM d b (y0.s_D G) h' → FrM h h' → V p l e R s m args below meth c 10 d b Q cells slots n h' 37 [(0, .ref (b + 29)), (1, vi r), (2, vi z), (5, vi c0), (6, vj (tcQ w i)), (8, vi i)] [] := by
  obtain ⟨R1, R2, R3, R4⟩ := hR
  intro j
  induction j with
  | zero =>
    intro i c0 G h' hi hc hc2 hG hG2 A F
    have e0 : i = 36 := by omega
    subst e0
    refine V_iload C d_Mod_weight_37 rfl ?_
    refine V_bipush (z := 36) C d_Mod_weight_39 rfl ?_
    refine V_icmp_ge (tgt := 114) C d_Mod_weight_41 (by decide) (by unfold inI; omega) (by unfold inI; omega) (fun q41 => ?_) (fun q41 => ?_)
    · exact V_loc2 (kk c0 G h' hc hc2 hG hG2 A F) ⟨rfl, trivial⟩
    · exact absurd q41 (by omega)
  | succ j ih =>
    intro i c0 G h' hi hc hc2 hG hG2 A F
    have tq := tcQ_in hw0 i
    have td : tcD w i = tcQ w i % 10 := rfl
    have ag : h' 32 = some (oI d 13824 G) := A.g
    have dh := dd (a + i) (by omega)
    have tail : ∀ c1 : Int, (c1 = 0 ∨ c1 = 1) → (c1 = 0 ↔ ∀ k, k < i + 1 → y0.D (a + k) = tcD w k) → V p l e R s m args below meth c 10 d b Q cells slots n h' 90 [(0, .ref (b + 29)), (1, vi r), (2, vi z), (5, vi c0), (6, vj (tcQ w (i + 1))), (8, vi i), (9, vi (tcQ w i % 10))] [vi c1] := by
      intro c1 hc1 hc3
      refine V_istore C d_Mod_weight_90 (by decide) rfl ?_
      refine V_aload_n C d_Mod_weight_92 rfl rfl ?_
      refine V_get C 4 4 A.o rfl in_Mod (by decide) w_Mod_weight_93 rfl rfl d_Mod_weight_93 ?_
      refine V_aload_n C d_Mod_weight_96 rfl rfl ?_
      refine V_iload_n C d_Mod_weight_97 rfl rfl ?_
      refine V_iload_n C d_Mod_weight_98 rfl rfl ?_
      refine V_callV C (c_Mod_at hl A h0 h8 hf) wc_Mod_at w_Mod_weight_99 np_Mod_at ⟨by omega, by omega, R3, R4⟩ A.o rfl rfl (Nat.le_of_ble_eq_true rfl) d_Mod_weight_99 (fun v n1 h1 hp => ?_) (fun Cx n1 h1 hp => hp.elim)
      obtain ⟨rfl, rfl, rfl⟩ := hp
      rw [ha]
      refine V_iload C d_Mod_weight_102 rfl ?_
      refine V_iadd C d_Mod_weight_104 ?_
      refine V_iload C d_Mod_weight_105 rfl ?_
      refine V_iastore C ag (by omega) (by omega) (by decide) d_Mod_weight_107 ?_
      refine V_iinc C d_Mod_weight_108 rfl rfl (by decide) rfl ?_
      refine V_goto (tgt := 37) C d_Mod_weight_111 (by decide) ?_
      rw [show ((a : Int) + (i : Int)).toNat = a + i by omega]
      refine V_loc2 (ih (i + 1) c1 (fu G (a + i) (tcQ w i % 10)) _ (by omega) hc1 hc3 (fun k hk => ?_) (fun t ht => ?_) (A.setD _) (F.set (by omega) _)) ⟨rfl, rfl, rfl, rfl, rfl, rfl, trivial⟩
      · by_cases e1 : k = i
        · rw [e1, fu_eq]; rfl
        · rw [fu_ne _ _ (by omega)]; exact hG k (by omega)
      · rw [fu_ne _ _ (by omega)]; exact hG2 t (by omega)
    refine V_iload C d_Mod_weight_37 rfl ?_
    refine V_bipush (z := 36) C d_Mod_weight_39 rfl ?_
    refine V_icmp_ge (tgt := 114) C d_Mod_weight_41 (by decide) (by unfold inI; omega) (by unfold inI; omega) (fun q41 => ?_) (fun q41 => ?_)
    · exact absurd q41 (by omega)
    · refine V_lload C d_Mod_weight_44 rfl ?_
      refine V_ldc2 (z := 10) C w_Mod_weight_46 rfl d_Mod_weight_46 ?_
      refine V_lremP C d_Mod_weight_49 (by omega) (by omega) (by omega) (by omega) ?_
      refine V_l2i C d_Mod_weight_50 ?_
      refine V_istore C d_Mod_weight_51 (by decide) rfl ?_
      refine V_lload C d_Mod_weight_53 rfl ?_
      refine V_ldc2 (z := 10) C w_Mod_weight_55 rfl d_Mod_weight_55 ?_
      refine V_ldivP C d_Mod_weight_58 (by omega) (by omega) (by omega) (by omega) ?_
      refine V_lstore C d_Mod_weight_59 (by decide) rfl ?_
      refine V_iload C d_Mod_weight_61 rfl ?_
      refine V_if_ne (tgt := 85) C d_Mod_weight_63 (by decide) (show inI c0 by rcases hc with e | e <;> rw [e] <;> exact ⟨by omega, by omega⟩) (fun q63 => ?_) (fun q63 => ?_)
      · refine V_iconst C d_Mod_weight_85 rfl ?_
        refine V_goto (tgt := 90) C d_Mod_weight_86 (by decide) ?_
        exact V_loc2 (tail 1 (Or.inr rfl) ⟨fun q => absurd q (by omega), fun q => absurd (hc2.mpr (fun k hk => q k (by omega))) q63⟩) ⟨rfl, rfl, rfl, rfl, rfl, rfl, rfl, trivial⟩
      · refine V_aload_n C d_Mod_weight_66 rfl rfl ?_
        refine V_get C 4 4 A.o rfl in_Mod (by decide) w_Mod_weight_67 rfl rfl d_Mod_weight_67 ?_
        refine V_aload_n C d_Mod_weight_70 rfl rfl ?_
        refine V_iload_n C d_Mod_weight_71 rfl rfl ?_
        refine V_iload_n C d_Mod_weight_72 rfl rfl ?_
        refine V_callV C (c_Mod_at hl A h0 h8 hf) wc_Mod_at w_Mod_weight_73 np_Mod_at ⟨by omega, by omega, R3, R4⟩ A.o rfl rfl (Nat.le_of_ble_eq_true rfl) d_Mod_weight_73 (fun v n1 h1 hp => ?_) (fun Cx n1 h1 hp => hp.elim)
        obtain ⟨rfl, rfl, rfl⟩ := hp
        rw [ha]
        refine V_iload C d_Mod_weight_76 rfl ?_
        refine V_iadd C d_Mod_weight_78 ?_
        refine V_iaload C ag (by omega) (by omega) (by decide) d_Mod_weight_79 ?_
        rw [show ((a : Int) + (i : Int)).toNat = a + i by omega, hG2 (a + i) (by omega)]
        refine V_iload C d_Mod_weight_80 rfl ?_
        refine V_icmp_eq (tgt := 89) C d_Mod_weight_82 (by decide) (by unfold inI; omega) (by unfold inI; omega) (fun q82 => ?_) (fun q82 => ?_)
        · refine V_iconst C d_Mod_weight_89 rfl ?_
          refine V_loc2 (tail 0 (Or.inl rfl) ⟨fun _ k hk => ?_, fun _ => rfl⟩) ⟨rfl, rfl, rfl, rfl, rfl, rfl, rfl, trivial⟩
          by_cases e1 : k = i
          · rw [e1, td]; exact q82
          · exact hc2.mp q63 k (by omega)
        · refine V_iconst C d_Mod_weight_85 rfl ?_
          refine V_goto (tgt := 90) C d_Mod_weight_86 (by decide) ?_
          exact V_loc2 (tail 1 (Or.inr rfl) ⟨fun q => absurd q (by omega), fun q => absurd (q i (by omega)) (by rw [td]; exact q82)⟩) ⟨rfl, rfl, rfl, rfl, rfl, rfl, rfl, trivial⟩
set_option maxHeartbeats 1000000 in
theorem c_Mod_weight (hl : yL l) (hv : OkV v) (A : AtM d b y0 h) (O : OkM y0 v) {r z w : Int} (hr : inI r) (hz : inI z) (hw : inJ w) : yM l y_Mod_weight b_Mod_weight 10 (some .boolean) 2 60 0 0 d b n h [.ref (b + 29), vi r, vi z, vj w] (fun q n' h' => n' = n ∧ ∃ a, q = some (vi a) ∧ (a = 0 ∨ a = 1) ∧ mR d b h v (kWt v r z w) (vWt v r z w) a (if v.W r.toNat (z - v.F r.toNat).toNat = w then 0 else 1) h') noT := by
  refine yM_of hl (by decide +kernel) (Nat.le_of_ble_eq_true rfl) (fun p e s m args below meth c C => ?_)
  have hrc := hv.rc
  have kk : kG (bi (hasY v r z)) (bi (0 ≤ w)) 1 1 = (kWt v r z w : Nat) := by
    rw [kG_b2]
    unfold kWt
    by_cases q1 : hasY v r z
    · rw [if_neg (c := ¬ hasY v r z) (fun q => q q1), if_neg (c := ¬ hasY v r z) (fun q => q q1)]
      by_cases q2 : w < 0
      · rw [if_pos (c := ¬ 0 ≤ w) (by omega), if_pos q2]
      · rw [if_neg (c := ¬ 0 ≤ w) (by omega), if_neg q2]
    · rw [if_pos q1, if_pos q1]
  have tail : ∀ z2 : Int, z2 = bi (0 ≤ w) → V p l e (yRm 2 60 0 0) s m args below meth c 10 d b (yEnd below s args d b (fun q n' h' => n' = n ∧ ∃ a, q = some (vi a) ∧ (a = 0 ∨ a = 1) ∧ mR d b h v (kWt v r z w) (vWt v r z w) a (if v.W r.toNat (z - v.F r.toNat).toNat = w then 0 else 1) h') noT 0 0) 0 0 n h 18 [(0, .ref (b + 29)), (1, vi r), (2, vi z), (3, vj w)] [vi z2, vi (bi (hasY v r z)), .ref (b + 29)] := fun z2 hz2 => by
    refine V_iconst C d_Mod_weight_18 rfl ?_
    refine V_iconst C d_Mod_weight_19 rfl ?_
    refine V_callV C (c_Mod_goes hl A (bi_z (p := hasY v r z) rfl) (bi_z hz2) (z3 := 1) (z4 := 1) (by unfold inI; omega) (by unfold inI; omega)) wc_Mod_goes w_Mod_weight_20 np_Mod_goes (by decide) A.o rfl rfl (Nat.le_of_ble_eq_true rfl) d_Mod_weight_20 (fun v n1 h1 hp => ?_) (fun Cx n1 h1 hp => hp.elim)
    obtain ⟨rfl, rfl, A1, F1⟩ := hp
    rw [hz2, kk] at A1 ⊢
    have hb := bi_in (((kWt v r z w : Nat) : Int) = 0)
    refine V_if_ne (tgt := 28) C d_Mod_weight_23 (by decide) (by unfold inI; omega) (fun q23 => ?_) (fun q23 => ?_)
    · have k0 : kWt v r z w = 0 := by
        by_cases q : ((kWt v r z w : Nat) : Int) = 0
        · omega
        · exact absurd (bi_n q) q23
      have hy : hasY v r z := by
        by_cases q : hasY v r z
        · exact q
        · unfold kWt at k0; rw [if_pos q] at k0; omega
      have hw0 : 0 ≤ w := by
        by_cases q : w < 0
        · unfold kWt at k0; rw [if_neg (fun w => w hy), if_pos q] at k0; omega
        · omega
      obtain ⟨p1, p2, p3, p4, p5⟩ := OkM.pl (y0 := y0) hv hy
      have O1 := O.sTh (kWt v r z w : Nat)
      have t1 : (y0.s_th (kWt v r z w : Nat)).th = 0 := by show ((kWt v r z w : Nat) : Int) = 0; omega
      generalize y0.s_th (kWt v r z w : Nat) = y1 at A1 O1 t1
      have hsm : w < 10 ^ 36 := by have := hw.2; omega
      refine V_iconst C d_Mod_weight_28 rfl ?_
      refine V_istore C d_Mod_weight_29 (by decide) rfl ?_
      refine V_lload_n C d_Mod_weight_31 rfl rfl ?_
      refine V_lstore C d_Mod_weight_32 (by decide) rfl ?_
      refine V_iconst C d_Mod_weight_34 rfl ?_
      refine V_istore C d_Mod_weight_35 (by decide) rfl ?_
      refine V_loc2 (Mod_weight_loop (y0 := y1) (h := h) C hl hy.1.1 (by omega) (O1.ff _ p1) p5 (by omega) O1.dg hw0 hw.2 (by decide) (fun c0 G h' c1 c2 c3 c4 c5 c6 => ?_) 36 0 0 y1.D _ (by omega) (Or.inl rfl) ⟨fun _ k hk => absurd hk (by omega), fun _ => rfl⟩ (fun k hk => absurd hk (by omega)) (fun t ht => rfl) A1 F1) ⟨rfl, rfl, rfl, rfl, rfl, rfl, trivial⟩
      have hput := O1.put hv p1 p2 (tc_dig w 36) c3 c4
      rw [tc_all hw0 hsm] at hput
      have hc : c0 = if v.W r.toNat (z - v.F r.toNat).toNat = w then 0 else 1 := by
        by_cases q : v.W r.toNat (z - v.F r.toNat).toNat = w
        · rw [if_pos q]
          refine c2.mpr (wl_inj (O1.wD (by omega) (by omega)) (tc_dig w 36) ?_)
          rw [O1.ww _ p1 _ p2, tc_all hw0 hsm, q]
        · rw [if_neg q]
          rcases c1 with e1 | e1
          · exfalso
            apply q
            rw [← O1.ww _ p1 _ p2, wl_congr (c2.mp e1), tc_all hw0 hsm]
          · exact e1
      refine V_iload C d_Mod_weight_114 rfl ?_
      exact V_zreturn C d_Mod_weight_116 (by omega) (Nat.le_refl _) (Nat.le_refl _) ⟨rfl, c0, rfl, c1, c6, fun _ => ⟨⟨_, c5, hput, t1⟩, hc⟩, fun q => absurd k0 q⟩
    · have k0 : kWt v r z w ≠ 0 := fun q => by rw [q] at q23; exact absurd q23 (by decide)
      refine V_iconst C d_Mod_weight_26 rfl ?_
      exact V_zreturn C d_Mod_weight_27 (by omega) (Nat.le_refl _) (Nat.le_refl _) ⟨rfl, 0, rfl, Or.inl rfl, F1, fun q => absurd q k0, fun _ => ⟨_, A1, O.sTh _, rfl⟩⟩
  refine V_aload_n C d_Mod_weight_0 rfl rfl ?_
  refine V_aload_n C d_Mod_weight_1 rfl rfl ?_
  refine V_iload_n C d_Mod_weight_2 rfl rfl ?_
  refine V_iload_n C d_Mod_weight_3 rfl rfl ?_
  refine V_callV C (c_Mod_has hl hv A O hr hz) wc_Mod_has w_Mod_weight_4 np_Mod_has (by decide) A.o rfl rfl (Nat.le_of_ble_eq_true rfl) d_Mod_weight_4 (fun v n1 h1 hp => ?_) (fun Cx n1 h1 hp => hp.elim)
  obtain ⟨rfl, rfl, rfl⟩ := hp
  refine V_lload_n C d_Mod_weight_7 rfl rfl ?_
  refine V_lconst (z := 0) C d_Mod_weight_8 rfl ?_
  refine V_lcmp C d_Mod_weight_9 hw inJ_0 ?_
  refine V_if_lt (tgt := 17) C d_Mod_weight_10 (by decide) (cz_in _ _) (fun q10 => ?_) (fun q10 => ?_)
  · have := cz_lt.mp q10
    refine V_iconst C d_Mod_weight_17 rfl ?_
    exact tail 0 (bi_n (by omega)).symm
  · have : ¬ w < 0 := fun q => q10 (cz_lt.mpr q)
    refine V_iconst C d_Mod_weight_13 rfl ?_
    refine V_goto (tgt := 18) C d_Mod_weight_14 (by decide) ?_
    exact tail 1 (bi_1 (by omega)).symm
end ModD
