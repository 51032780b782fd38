section ModG
variable {p : Program} {l : Launch} {e : Env} {R : Room} {s : State} {m : MethodId} {args : Array Value} {below : List Frame} {meth : Method} {c : Code} {d : yD} {b : Nat} {Q : State → Prop} {cells slots n : Nat} {h : yH}
variable {y0 : YS} {v : Vw}
set_option maxHeartbeats 1000000 in
theorem Mod_copy_loop (C : yC p l s m args meth c y_Mod_enough b_Mod_enough 5 (some .boolean) [] d b) (dw : dgt y0.wd 80) {r w : Int}
    (kk : ∀ (G : Nat → Int) (h' : yH), (∀ t, t < 80 → G t = y0.wd t) → AtM d b (y0.s_ot G) h' → FrM h h' → V p l e R s m args below meth c 5 d b Q cells slots n h' 41 [(0, .ref (b + 29)), (1, vi r), (3, vi w)] []) :
    ∀ (j i : Nat) (G : Nat → Int) (h' : yH), i + j = 80 → (∀ t, t < i → G t = y0.wd t) → AtM d b (y0.s_ot G) h' → FrM h h' → V p l e R s m args below meth c 5 d b Q cells slots n h' 14 [(0, .ref (b + 29)), (1, vi r), (3, vi w), (4, vi i)] [] := by
  intro j
  induction j with
  | zero =>
    intro i G h' hi hG A F
    refine V_iload C d_Mod_enough_14 rfl ?_
    refine V_bipush (z := 80) C d_Mod_enough_16 rfl ?_
    refine V_icmp_ge (tgt := 41) C d_Mod_enough_18 (by decide) (by unfold inI; omega) (by unfold inI; omega) (fun q18 => ?_) (fun q18 => ?_)
    · exact V_loc2 (kk G h' (fun t ht => hG t (by omega)) A F) ⟨rfl, rfl, rfl, trivial⟩
    · exact absurd q18 (by omega)
  | succ j ih =>
    intro i G h' hi hG A F
    have aw : h' 35 = some (oI d 80 y0.wd) := A.w
    have aq : h' 36 = some (oI d 80 G) := A.q
    have w1 := dw i (by omega)
    refine V_iload C d_Mod_enough_14 rfl ?_
    refine V_bipush (z := 80) C d_Mod_enough_16 rfl ?_
    refine V_icmp_ge (tgt := 41) C d_Mod_enough_18 (by decide) (by unfold inI; omega) (by unfold inI; omega) (fun q18 => ?_) (fun q18 => ?_)
    · exact absurd q18 (by omega)
    · refine V_aload_n C d_Mod_enough_21 rfl rfl ?_
      refine V_get C 4 10 A.o rfl in_Mod (by decide) w_Mod_enough_22 rfl rfl d_Mod_enough_22 ?_
      refine V_iload C d_Mod_enough_25 rfl ?_
      refine V_aload_n C d_Mod_enough_27 rfl rfl ?_
      refine V_get C 4 9 A.o rfl in_Mod (by decide) w_Mod_enough_28 rfl rfl d_Mod_enough_28 ?_
      refine V_iload C d_Mod_enough_31 rfl ?_
      refine V_iaload C aw (by omega) (by omega) (by decide) d_Mod_enough_33 ?_
      rw [Int.toNat_natCast]
      refine V_iastore C aq (by omega) (by omega) (by decide) d_Mod_enough_34 ?_
      refine V_iinc C d_Mod_enough_35 rfl rfl (by decide) rfl ?_
      refine V_goto (tgt := 14) C d_Mod_enough_38 (by decide) ?_
      rw [Int.toNat_natCast]
      refine V_loc2 (ih (i + 1) (fu G i (y0.wd i)) _ (by omega) (fun t ht => ?_) (A.setQ _) (F.set (by omega) _)) ⟨rfl, rfl, rfl, rfl, trivial⟩
      by_cases e1 : t = i
      · rw [e1, fu_eq]
      · rw [fu_ne _ _ e1]; exact hG t (by omega)
set_option maxHeartbeats 1000000 in
theorem Mod_ge_loop (C : yC p l s m args meth c y_Mod_enough b_Mod_enough 5 (some .boolean) [] d b) {post : Option Value → Nat → yH → Prop} (A : AtM d b y0 h) (dw : dgt y0.wd 80) (dq : dgt y0.ot 80) (hp : post (some (vi (bi (wl y0.ot 80 ≤ wl y0.wd 80)))) n h) :
    ∀ (j : Nat), j ≤ 80 → (∀ t, j ≤ t → t < 80 → y0.wd t = y0.ot t) → V p l e R s m args below meth c 5 d b (yEnd below s args d b post noT 0 0) 0 0 n h 56 [(0, .ref (b + 29)), (4, vi ((j : Int) - 1))] [] := by
  intro j
  induction j with
  | zero =>
    intro hj hG
    refine V_iload C d_Mod_enough_56 rfl ?_
    refine V_if_lt (tgt := 107) C d_Mod_enough_58 (by decide) (by unfold inI; omega) (fun q58 => ?_) (fun q58 => ?_)
    · have e1 : wl y0.wd 80 = wl y0.ot 80 := wl_congr (fun t ht => hG t (by omega) ht)
      rw [bi_1 (by omega)] at hp
      refine V_iconst C d_Mod_enough_107 rfl ?_
      exact V_zreturn C d_Mod_enough_108 (by omega) (Nat.le_refl _) (Nat.le_refl _) hp
    · exact absurd q58 (by omega)
  | succ j ih =>
    intro hj hG
    have f1 := dw j (by omega)
    have f2 := dq j (by omega)
    have g2 : ((j + 1 : Nat) : Int) - 1 = j := by omega
    rw [g2]
    refine V_iload C d_Mod_enough_56 rfl ?_
    refine V_if_lt (tgt := 107) C d_Mod_enough_58 (by decide) (by unfold inI; omega) (fun q58 => ?_) (fun q58 => ?_)
    · exact absurd q58 (by omega)
    · refine V_aload_n C d_Mod_enough_61 rfl rfl ?_
      refine V_get C 4 9 A.o rfl in_Mod (by decide) w_Mod_enough_62 rfl rfl d_Mod_enough_62 ?_
      refine V_iload C d_Mod_enough_65 rfl ?_
      refine V_iaload C A.w (by omega) (by omega) (by decide) d_Mod_enough_67 ?_
      refine V_aload_n C d_Mod_enough_68 rfl rfl ?_
      refine V_get C 4 10 A.o rfl in_Mod (by decide) w_Mod_enough_69 rfl rfl d_Mod_enough_69 ?_
      refine V_iload C d_Mod_enough_72 rfl ?_
      refine V_iaload C A.q (by omega) (by omega) (by decide) d_Mod_enough_74 ?_
      rw [Int.toNat_natCast]
      refine V_icmp_eq (tgt := 101) C d_Mod_enough_75 (by decide) (by unfold inI; omega) (by unfold inI; omega) (fun q75 => ?_) (fun q75 => ?_)
      · refine V_iinc C d_Mod_enough_101 rfl rfl (by decide) rfl ?_
        refine V_goto (tgt := 56) C d_Mod_enough_104 (by decide) ?_
        exact V_loc2 (ih (by omega) (fun t h1 h2 => by
          by_cases e1 : t = j
          · rw [e1]; exact q75
          · exact hG t (by omega) h2)) ⟨rfl, rfl, trivial⟩
      · refine V_aload_n C d_Mod_enough_78 rfl rfl ?_
        refine V_get C 4 9 A.o rfl in_Mod (by decide) w_Mod_enough_79 rfl rfl d_Mod_enough_79 ?_
        refine V_iload C d_Mod_enough_82 rfl ?_
        refine V_iaload C A.w (by omega) (by omega) (by decide) d_Mod_enough_84 ?_
        refine V_aload_n C d_Mod_enough_85 rfl rfl ?_
        refine V_get C 4 10 A.o rfl in_Mod (by decide) w_Mod_enough_86 rfl rfl d_Mod_enough_86 ?_
        refine V_iload C d_Mod_enough_89 rfl ?_
        refine V_iaload C A.q (by omega) (by omega) (by decide) d_Mod_enough_91 ?_
        rw [Int.toNat_natCast]
        refine V_icmp_le (tgt := 99) C d_Mod_enough_92 (by decide) (by unfold inI; omega) (by unfold inI; omega) (fun q92 => ?_) (fun q92 => ?_)
        · have e1 := wl_lt j (by omega) dw dq (by omega) (fun t h1 h2 => hG t (by omega) h2)
          rw [bi_n (by omega)] at hp
          refine V_iconst C d_Mod_enough_99 rfl ?_
          exact V_zreturn C d_Mod_enough_100 (by omega) (Nat.le_refl _) (Nat.le_refl _) hp
        · have e1 := wl_lt j (by omega) dq dw (by omega) (fun t h1 h2 => (hG t (by omega) h2).symm)
          rw [bi_1 (by omega)] at hp
          refine V_iconst C d_Mod_enough_95 rfl ?_
          refine V_goto (tgt := 100) C d_Mod_enough_96 (by decide) ?_
          exact V_zreturn C d_Mod_enough_100 (by omega) (Nat.le_refl _) (Nat.le_refl _) hp
set_option maxHeartbeats 1000000 in
theorem c_Mod_enough (hl : yL l) (hv : OkV v) (A : AtM d b y0 h) (O : OkM y0 v) {r u w : Int} {i mm : Nat} (hr : r = i) (hi : i < v.rc) (hm : v.M i = mm) {S : Nat → Bool} (hS : ∀ k, k < mm → (S k = true ↔ y0.ch k ≠ 0)) (hch : ∀ k, k < mm → y0.ch k = 0 ∨ y0.ch k = 1) (hu : 0 ≤ u ∧ u ≤ 1000000) (hw : 0 ≤ w ∧ w ≤ 1000000) : yM l y_Mod_enough b_Mod_enough 5 (some .boolean) 4 120 0 0 d b n h [.ref (b + 29), vi r, vi u, vi w] (fun q n' h' => n' = n ∧ FrM h h' ∧ q = some (vi (bi (sumW (v.W i) mm * u ≤ sumS (v.W i) S mm * w))) ∧ ∃ y1, AtM d b y1 h' ∧ OkM y1 v ∧ y1.ch = y0.ch ∧ y1.th = y0.th) noT := by
  refine yM_of hl (by decide +kernel) (Nat.le_of_ble_eq_true rfl) (fun p e s m args below meth c C => ?_)
  obtain ⟨f1, f2, f3, f4⟩ := hv.ok i hi
  have sW := sumW_in (W := v.W i) (B := 1000000000 ^ 4) (k := mm) (fun q hq => hv.ww i hi q (by omega))
  have sS := sumS_in (W := v.W i) (S := S) (B := 1000000000 ^ 4) (k := mm) (fun q hq => hv.ww i hi q (by omega))
  have pW := Int.mul_le_mul (show sumW (v.W i) mm ≤ 48 * 1000000000 ^ 4 by omega) hu.2 hu.1 (by omega)
  have pS := Int.mul_le_mul (show sumS (v.W i) S mm ≤ 48 * 1000000000 ^ 4 by omega) hw.2 hw.1 (by omega)
  refine V_aload_n C d_Mod_enough_0 rfl rfl ?_
  refine V_iload_n C d_Mod_enough_1 rfl rfl ?_
  refine V_iconst C d_Mod_enough_2 rfl ?_
  refine V_callV C (c_Mod_sumUp hl hv A O hr hi hm (all := 1) (S := fun _ => true) (Or.inr rfl) (fun k hk => ⟨fun _ => Or.inl (by omega), fun _ => rfl⟩) (fun q => absurd q (by omega))) wc_Mod_sumUp w_Mod_enough_3 np_Mod_sumUp (by decide) A.o rfl rfl (Nat.le_of_ble_eq_true rfl) d_Mod_enough_3 (fun z n1 h1 hp => ?_) (fun Cx n1 h1 hp => hp.elim)
  obtain ⟨rfl, rfl, F1, G1, d1, v1, A1⟩ := hp
  rw [sumS_all (fun _ _ => rfl)] at v1
  have O1 := O.sW G1
  refine V_aload_n C d_Mod_enough_6 rfl rfl ?_
  refine V_iload_n C d_Mod_enough_7 rfl rfl ?_
  refine V_callV C (c_Mod_grow hl A1 hu d1 (by show wl G1 80 * u < _; rw [v1]; omega)) wc_Mod_grow w_Mod_enough_8 np_Mod_grow (by decide) A1.o rfl rfl (Nat.le_of_ble_eq_true rfl) d_Mod_enough_8 (fun z n2 h2 hp => ?_) (fun Cx n1 h1 hp => hp.elim)
  obtain ⟨rfl, rfl, F2, G2, d2, v2, A2⟩ := hp
  have v2' : wl G2 80 = sumW (v.W i) mm * u := by rw [v2]; show wl G1 80 * u = _; rw [v1]
  have O2 := O1.sW G2
  have c2 : ((y0.s_wd G1).s_wd G2).ch = y0.ch := rfl
  have t2 : ((y0.s_wd G1).s_wd G2).th = y0.th := rfl
  have w2 : ((y0.s_wd G1).s_wd G2).wd = G2 := rfl
  generalize (y0.s_wd G1).s_wd G2 = y2 at A2 O2 c2 t2 w2
  refine V_iconst C d_Mod_enough_11 rfl ?_
  refine V_istore C d_Mod_enough_12 (by decide) rfl ?_
  refine V_loc2 (Mod_copy_loop (y0 := y2) (h := h) C (by rw [w2]; exact d2) (fun G3 h' k1 A3 F3 => ?_) 80 0 y2.ot _ (by omega) (fun t ht => absurd ht (by omega)) A2 (F1.tr F2)) ⟨rfl, rfl, rfl, rfl, trivial⟩
  have O3 := O2.sQ G3
  have c3 : (y2.s_ot G3).ch = y0.ch := c2
  have t3 : (y2.s_ot G3).th = y0.th := t2
  have q3 : (y2.s_ot G3).ot = G3 := rfl
  generalize y2.s_ot G3 = y3 at A3 O3 c3 t3 q3
  rw [w2] at k1
  refine V_aload_n C d_Mod_enough_41 rfl rfl ?_
  refine V_iload_n C d_Mod_enough_42 rfl rfl ?_
  refine V_iconst C d_Mod_enough_43 rfl ?_
  refine V_callV C (c_Mod_sumUp hl hv A3 O3 hr hi hm (all := 0) (S := S) (Or.inl rfl) (fun k hk => by rw [c3]; exact ⟨fun q => Or.inr ((hS k hk).mp q), fun q => by rcases q with q | q; exact absurd rfl q; exact (hS k hk).mpr q⟩) (fun _ => by rw [c3]; exact hch)) wc_Mod_sumUp w_Mod_enough_44 np_Mod_sumUp (by decide) A3.o rfl rfl (Nat.le_of_ble_eq_true rfl) d_Mod_enough_44 (fun z n4 h4 hp => ?_) (fun Cx n1 h1 hp => hp.elim)
  obtain ⟨rfl, rfl, F4, G4, d4, v4, A4⟩ := hp
  refine V_aload_n C d_Mod_enough_47 rfl rfl ?_
  refine V_iload_n C d_Mod_enough_48 rfl rfl ?_
  refine V_callV C (c_Mod_grow hl A4 hw d4 (by show wl G4 80 * w < _; rw [v4]; omega)) wc_Mod_grow w_Mod_enough_49 np_Mod_grow (by decide) A4.o rfl rfl (Nat.le_of_ble_eq_true rfl) d_Mod_enough_49 (fun z n5 h5 hp => ?_) (fun Cx n1 h1 hp => hp.elim)
  obtain ⟨rfl, rfl, F5, G5, d5, v5, A5⟩ := hp
  have v5' : wl G5 80 = sumS (v.W i) S mm * w := by rw [v5]; show wl G4 80 * w = _; rw [v4]
  have O5 := (O3.sW G4).sW G5
  have c5 : ((y3.s_wd G4).s_wd G5).ch = y0.ch := c3
  have t5 : ((y3.s_wd G4).s_wd G5).th = y0.th := t3
  have w5 : ((y3.s_wd G4).s_wd G5).wd = G5 := rfl
  have q5 : ((y3.s_wd G4).s_wd G5).ot = G3 := q3
  generalize (y3.s_wd G4).s_wd G5 = y5 at A5 O5 c5 t5 w5 q5
  have vo : wl G3 80 = sumW (v.W i) mm * u := by rw [wl_congr k1, v2']
  refine V_bipush (z := 79) C d_Mod_enough_52 rfl ?_
  refine V_istore C d_Mod_enough_54 (by decide) rfl ?_
  refine V_loc2 (Mod_ge_loop (y0 := y5) C A5 (by rw [w5]; exact d5) (by rw [q5]; exact fun t ht => by rw [k1 t ht]; exact d2 t ht) ⟨rfl, (F3.tr F4).tr F5, ?_, y5, A5, O5, c5, t5⟩ 80 (Nat.le_refl _) (fun t h1 h2 => absurd h1 (by omega))) ⟨rfl, rfl, trivial⟩
  rw [w5, q5, v5', vo]
set_option maxHeartbeats 1000000 in
theorem Mod_nothing_loop (C : yC p l s m args meth c y_Mod_isNothing b_Mod_isNothing 4 (some .boolean) [] d b) {post : Option Value → Nat → yH → Prop} (A : AtM d b y0 h) (dd : dgt y0.D 13824) {r : Int} {i mm : Nat} (hr : r = i) (hi : i < 8) (hm : y0.sz i = mm) (hm2 : mm ≤ 48)
    (hp : ∀ w : Int, (w = 0 ∨ w = 1) → (w = 1 ↔ ∀ k, k < 36 * mm → y0.D (1728 * i + k) = 0) → post (some (vi w)) n h) :
    ∀ (j t : Nat) (w : Int), t + j = 36 * mm → (w = 0 ∨ w = 1) → (w = 1 ↔ ∀ k, k < t → y0.D (1728 * i + k) = 0) → V p l e R s m args below meth c 4 d b (yEnd below s args d b post noT 0 0) 0 0 n h 4 [(0, .ref (b + 29)), (1, vi r), (2, vi w), (3, vi t)] [] := by
  have hri : r.toNat = i := by omega
  intro j
  induction j with
  | zero =>
    intro t w hj hw hw2
    have e0 : t = 36 * mm := by omega
    subst e0
    refine V_iload_n C d_Mod_isNothing_4 rfl rfl ?_
    refine V_bipush (z := 36) C d_Mod_isNothing_5 rfl ?_
    refine V_aload_n C d_Mod_isNothing_7 rfl rfl ?_
    refine V_get C 4 3 A.o rfl in_Mod (by decide) w_Mod_isNothing_8 rfl rfl d_Mod_isNothing_8 ?_
    refine V_iload_n C d_Mod_isNothing_11 rfl rfl ?_
    refine V_iaload C A.z (by omega) (by omega) (by decide) d_Mod_isNothing_12 ?_
    rw [hri, hm]
    refine V_imul C d_Mod_isNothing_13 ?_
    refine V_icmp_ge (tgt := 48) C d_Mod_isNothing_14 (by decide) (by unfold inI; omega) (by unfold inI; omega) (fun q14 => ?_) (fun q14 => ?_)
    · have hp := hp w hw hw2
      refine V_iload_n C d_Mod_isNothing_48 rfl rfl ?_
      exact V_zreturn C d_Mod_isNothing_49 (by omega) (Nat.le_refl _) (Nat.le_refl _) hp
    · exact absurd q14 (by omega)
  | succ j ih =>
    intro t w hj hw hw2
    have f1 := dd (1728 * i + t) (by omega)
    have tail : ∀ w' : Int, (w' = 0 ∨ w' = 1) → (w' = 1 ↔ ∀ k, k < t + 1 → y0.D (1728 * i + k) = 0) → V p l e R s m args below meth c 4 d b (yEnd below s args d b post noT 0 0) 0 0 n h 41 [(0, .ref (b + 29)), (1, vi r), (2, vi w), (3, vi t)] [vi w'] := fun w' c1 c2 => by
      refine V_istore_n C d_Mod_isNothing_41 rfl (by decide) rfl ?_
      refine V_iinc C d_Mod_isNothing_42 rfl rfl (by decide) rfl ?_
      refine V_goto (tgt := 4) C d_Mod_isNothing_45 (by decide) ?_
      exact V_loc2 (ih (t + 1) w' (by omega) c1 c2) ⟨rfl, rfl, rfl, rfl, trivial⟩
    refine V_iload_n C d_Mod_isNothing_4 rfl rfl ?_
    refine V_bipush (z := 36) C d_Mod_isNothing_5 rfl ?_
    refine V_aload_n C d_Mod_isNothing_7 rfl rfl ?_
    refine V_get C 4 3 A.o rfl in_Mod (by decide) w_Mod_isNothing_8 rfl rfl d_Mod_isNothing_8 ?_
    refine V_iload_n C d_Mod_isNothing_11 rfl rfl ?_
    refine V_iaload C A.z (by omega) (by omega) (by decide) d_Mod_isNothing_12 ?_
    rw [hri, hm]
    refine V_imul C d_Mod_isNothing_13 ?_
    refine V_icmp_ge (tgt := 48) C d_Mod_isNothing_14 (by decide) (by unfold inI; omega) (by unfold inI; omega) (fun q14 => ?_) (fun q14 => ?_)
    · exact absurd q14 (by omega)
    · refine V_iload_n C d_Mod_isNothing_17 rfl rfl ?_
      refine V_if_eq (tgt := 40) C d_Mod_isNothing_18 (by decide) (by unfold inI; omega) (fun q18 => ?_) (fun q18 => ?_)
      · refine V_iconst C d_Mod_isNothing_40 rfl ?_
        exact tail 0 (Or.inl rfl) ⟨fun q => absurd q (by omega), fun q => absurd (hw2.mpr (fun k hk => q k (by omega))) (by omega)⟩
      · refine V_aload_n C d_Mod_isNothing_21 rfl rfl ?_
        refine V_get C 4 4 A.o rfl in_Mod (by decide) w_Mod_isNothing_22 rfl rfl d_Mod_isNothing_22 ?_
        refine V_sipush (z := 1728) C d_Mod_isNothing_25 rfl ?_
        refine V_iload_n C d_Mod_isNothing_28 rfl rfl ?_
        refine V_imul C d_Mod_isNothing_29 ?_
        refine V_iload_n C d_Mod_isNothing_30 rfl rfl ?_
        refine V_iadd C d_Mod_isNothing_31 ?_
        refine V_iaload C A.g (by omega) (by omega) (by decide) d_Mod_isNothing_32 ?_
        rw [show (1728 * r + (t : Int)).toNat = 1728 * i + t by omega]
        refine V_if_ne (tgt := 40) C d_Mod_isNothing_33 (by decide) (by unfold inI; omega) (fun q33 => ?_) (fun q33 => ?_)
        · refine V_iconst C d_Mod_isNothing_40 rfl ?_
          exact tail 0 (Or.inl rfl) ⟨fun q => absurd q (by omega), fun q => absurd (q t (by omega)) q33⟩
        · refine V_iconst C d_Mod_isNothing_36 rfl ?_
          refine V_goto (tgt := 41) C d_Mod_isNothing_37 (by decide) ?_
          refine tail 1 (Or.inr rfl) ⟨fun _ k hk => ?_, fun _ => rfl⟩
          by_cases e1 : k = t
          · rw [e1]; exact q33
          · exact hw2.mp (by omega) k (by omega)
theorem sumW_0 {W : Nat → Int} : ∀ {k}, (∀ x, x < k → 0 ≤ W x) → 0 ≤ sumW W k ∧ (sumW W k = 0 ↔ ∀ x, x < k → W x = 0)
  | 0, _ => ⟨Int.le_refl 0, ⟨fun _ x hx => absurd hx (by omega), fun _ => rfl⟩⟩
  | k + 1, h => by
    have ih := sumW_0 (k := k) (fun x hx => h x (by omega))
    have hk := h k (by omega)
    have e1 : sumW W (k + 1) = sumW W k + W k := rfl
    refine ⟨by omega, fun q x hx => ?_, fun q => ?_⟩
    · by_cases e : x = k
      · rw [e]; omega
      · exact ih.2.mp (by omega) x (by omega)
    · rw [e1, ih.2.mpr (fun x hx => q x (by omega)), q k (by omega)]; rfl
set_option maxHeartbeats 1000000 in
theorem c_Mod_isNothing (hl : yL l) (hv : OkV v) (A : AtM d b y0 h) (O : OkM y0 v) {r : Int} (hy : isR v r) : yM l y_Mod_isNothing b_Mod_isNothing 4 (some .boolean) 0 0 0 0 d b n h [.ref (b + 29), vi r] (fun q n' h' => n' = n ∧ h' = h ∧ q = some (vi (bi (sumW (v.W r.toNat) (v.M r.toNat) = 0)))) noT := by
  refine yM_of hl (by decide +kernel) (Nat.le_of_ble_eq_true rfl) (fun p e s m args below meth c C => ?_)
  have hi : r.toNat < v.rc := by have := hy.1; have := hy.2; omega
  have hrc := hv.rc
  obtain ⟨f1, f2, f3, f4⟩ := hv.ok _ hi
  have h0 := sumW_0 (W := v.W r.toNat) (k := v.M r.toNat) (fun x hx => (hv.ww _ hi x hx).1)
  refine V_iconst C d_Mod_isNothing_0 rfl ?_
  refine V_istore_n C d_Mod_isNothing_1 rfl (by decide) rfl ?_
  refine V_iconst C d_Mod_isNothing_2 rfl ?_
  refine V_istore_n C d_Mod_isNothing_3 rfl (by decide) rfl ?_
  refine V_loc2 (Mod_nothing_loop C A O.dg (r := r) (i := r.toNat) (by have := hy.1; omega) (by omega) (O.fm _ hi) (by omega) (fun w c1 c2 => ⟨rfl, rfl, ?_⟩) (36 * v.M r.toNat) 0 1 (by omega) (Or.inr rfl) ⟨fun _ k hk => absurd hk (by omega), fun _ => rfl⟩) ⟨rfl, rfl, rfl, rfl, trivial⟩
  have e1 : w = bi (sumW (v.W r.toNat) (v.M r.toNat) = 0) := by
    by_cases q : sumW (v.W r.toNat) (v.M r.toNat) = 0
    · rw [bi_1 q]
      refine c2.mpr (fun k hk => ?_)
      have q1 := h0.2.mp q (k / 36) (by omega)
      rw [← O.ww _ hi _ (by omega)] at q1
      have q2 := wl_inj (O.wD (i := r.toNat) (q := k / 36) (by omega) (by omega)) (g := fun _ => 0) (fun j hj => ⟨Int.le_refl _, by show (0 : Int) < 10; omega⟩) (by rw [q1, wl_zero (f := fun _ => (0 : Int)) (fun _ _ => rfl)]) (k % 36) (by omega)
      rw [show 36 * (48 * r.toNat + k / 36) + k % 36 = 1728 * r.toNat + k by omega] at q2
      exact q2
    · rw [bi_n q]
      rcases c1 with e | e
      · exact e
      · exfalso
        apply q
        refine h0.2.mpr (fun x hx => ?_)
        rw [← O.ww _ hi _ hx]
        refine wl_zero (fun k hk => ?_)
        have := c2.mp e (36 * x + k) (by omega)
        rw [show 36 * (48 * r.toNat + x) + k = 1728 * r.toNat + (36 * x + k) by omega]
        exact this
  rw [e1]
end ModG
