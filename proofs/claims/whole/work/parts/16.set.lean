/-! LeastSet: object k of class number 0 with its arrays a0 (ranked), a1 (taken), a2 (firsts), a3 (lasts) -/
theorem hs2 {h : yH} {a1 a2 j : Nat} {x1 x2 : va_E} (h1 : j ≠ a1) (h2 : j ≠ a2) : hs (hs h a1 x1) a2 x2 j = h j := by rw [hs_ne _ _ h2, hs_ne _ _ h1]
theorem hs2a {h : yH} {a1 a2 : Nat} {x1 x2 : va_E} (h2 : a1 ≠ a2) : hs (hs h a1 x1) a2 x2 a1 = some x1 := by rw [hs_ne _ _ h2, hs_eq]
theorem hs_in {h : yH} {a1 a2 : Nat} {x1 x2 x3 : va_E} (h2 : a1 ≠ a2) : hs (hs (hs h a1 x1) a2 x2) a1 x3 = hs (hs h a1 x3) a2 x2 := by
  funext j
  by_cases e1 : j = a1
  · subst e1; rw [hs_eq, hs_ne _ _ h2, hs_eq]
  · by_cases e2 : j = a2
    · subst e2; rw [hs_ne _ _ e1, hs_eq, hs_eq]
    · rw [hs_ne _ _ e1, hs_ne _ _ e2, hs_ne _ _ e1, hs_ne _ _ e2, hs_ne _ _ e1]
theorem ob_ar {h : yH} {k a i : Nat} {fs : List Value} {cA : ClassId} {w : vp_A} (hk : h k = some (.inr (i, fs))) (ha : h a = some (.inl (cA, w))) : k ≠ a := fun q => by rw [q, ha] at hk; cases hk
theorem J_I {h : yH} {d : yD} {a c N M : Nat} {P K : Nat → Int} (ha : h a = some (oJ d N P)) (hc : h c = some (oI d M K)) : a ≠ c := fun q => by
  rw [q, hc] at ha
  simp [oJ, oI] at ha
theorem J_Z {h : yH} {d : yD} {a c N M : Nat} {P K : Nat → Int} (ha : h a = some (oJ d N P)) (hc : h c = some (oZ d M K)) : a ≠ c := fun q => by
  rw [q, hc] at ha
  simp [oJ, oZ] at ha
section SetA
variable {p : Program} {l : Launch} {e : Env} {R : Room} {s : State} {m : MethodId} {args : Array Value} {below : List Frame} {meth : Method} {c : Code} {d : yD} {b : Nat} {Q : State → Prop} {cells slots n : Nat} {h : yH}
set_option maxHeartbeats 4000000 in
theorem c_Set_init (hl : yL l) {k : Nat} {z : Int} (hk : h k = some (oO 0 [.null, .null, vi z, .null, .null])) :
    yM l y_Set_init b_Set_init 1 none 1 12 4 144 d b n h [.ref (b + k)] (fun r n' h' => r = none ∧ n' = n + 4 ∧ h' k = some (oO 0 [.ref (b + n), .ref (b + (n + 1)), vi z, .ref (b + (n + 2)), .ref (b + (n + 3))]) ∧ h' n = some (oI d 48 (fun _ => 0)) ∧ h' (n + 1) = some (oZ d 48 (fun _ => 0)) ∧ h' (n + 2) = some (oI d 24 (fun _ => 0)) ∧ h' (n + 3) = some (oI d 24 (fun _ => 0)) ∧ ∀ j, j ≠ k → j < n → h' j = h j) noT := by
  by_cases hkn : n ≤ k
  · intro p e ha hc hh s m args below hf happ hP
    obtain ⟨rfl, q1, q2, q4, q5⟩ := hP
    have := (q2 k _ hk).lt
    dsimp only at this
    omega
  refine yM_of hl (by decide +kernel) (Nat.le_of_ble_eq_true rfl) (fun p e s m args below meth c C => ?_)
  refine V_aload_n C d_Set_init_0 rfl rfl ?_
  refine V_objInit C w_Set_init_1 wc_Obj (by decide) (by decide) d_Set_init_1 ?_
  refine V_aload_n C d_Set_init_4 rfl rfl ?_
  refine V_bipush (z := 48) C d_Set_init_5 rfl ?_
  refine V_newI C (N := 48) rfl (by decide) wa_I (by decide) (by decide) d_Set_init_7 ?_
  refine V_putF (ty := (.array .int)) C 0 0 (show hs h n (oI d 48 (fun _ => 0)) k = some (oO 0 [.null, .null, vi z, .null, .null]) by rw [hs_ne _ _ (by omega)]; exact hk) rfl in_Set t_Set tok_Set nm_Set (by decide) w_Set_init_9 rfl rfl rfl rfl (by decide +kernel) rfl rfl (Nat.le_of_ble_eq_true rfl) d_Set_init_9 ?_
  refine V_aload_n C d_Set_init_12 rfl rfl ?_
  refine V_bipush (z := 48) C d_Set_init_13 rfl ?_
  refine V_newZ C (N := 48) rfl (by decide) wa_Z (by decide) (by decide) d_Set_init_15 ?_
  refine V_putF (ty := (.array .boolean)) C 0 1 (show hs (hs (hs h n (oI d 48 (fun _ => 0))) k (oO 0 [.ref (b + n), .null, vi z, .null, .null])) (n + 1) (oZ d 48 (fun _ => 0)) k = some (oO 0 [.ref (b + n), .null, vi z, .null, .null]) by rw [hs_ne _ _ (by omega), hs_eq]) rfl in_Set t_Set tok_Set nm_Set (by decide) w_Set_init_17 rfl rfl rfl rfl (by decide +kernel) rfl rfl (Nat.le_of_ble_eq_true rfl) d_Set_init_17 ?_
  refine V_aload_n C d_Set_init_20 rfl rfl ?_
  refine V_bipush (z := 24) C d_Set_init_21 rfl ?_
  refine V_newI C (N := 24) rfl (by decide) wa_I (by decide) (by decide) d_Set_init_23 ?_
  refine V_putF (ty := (.array .int)) C 0 3 (show hs (hs (hs (hs (hs h n (oI d 48 (fun _ => 0))) k (oO 0 [.ref (b + n), .null, vi z, .null, .null])) (n + 1) (oZ d 48 (fun _ => 0))) k (oO 0 [.ref (b + n), .ref (b + (n + 1)), vi z, .null, .null])) (n + 1 + 1) (oI d 24 (fun _ => 0)) k = some (oO 0 [.ref (b + n), .ref (b + (n + 1)), vi z, .null, .null]) by rw [hs_ne _ _ (by omega), hs_eq]) rfl in_Set t_Set tok_Set nm_Set (by decide) w_Set_init_25 rfl rfl rfl rfl (by decide +kernel) rfl rfl (Nat.le_of_ble_eq_true rfl) d_Set_init_25 ?_
  refine V_aload_n C d_Set_init_28 rfl rfl ?_
  refine V_bipush (z := 24) C d_Set_init_29 rfl ?_
  refine V_newI C (N := 24) rfl (by decide) wa_I (by decide) (by decide) d_Set_init_31 ?_
  refine V_putF (ty := (.array .int)) C 0 4 (show hs (hs (hs (hs (hs (hs (hs h n (oI d 48 (fun _ => 0))) k (oO 0 [.ref (b + n), .null, vi z, .null, .null])) (n + 1) (oZ d 48 (fun _ => 0))) k (oO 0 [.ref (b + n), .ref (b + (n + 1)), vi z, .null, .null])) (n + 1 + 1) (oI d 24 (fun _ => 0))) k (oO 0 [.ref (b + n), .ref (b + (n + 1)), vi z, .ref (b + (n + 1 + 1)), .null])) (n + 1 + 1 + 1) (oI d 24 (fun _ => 0)) k = some (oO 0 [.ref (b + n), .ref (b + (n + 1)), vi z, .ref (b + (n + 1 + 1)), .null]) by rw [hs_ne _ _ (by omega), hs_eq]) rfl in_Set t_Set tok_Set nm_Set (by decide) w_Set_init_33 rfl rfl rfl rfl (by decide +kernel) rfl rfl (Nat.le_of_ble_eq_true rfl) d_Set_init_33 ?_
  exact V_return C d_Set_init_36 (Nat.le_refl _) (Nat.le_refl _) ⟨rfl, rfl, by rw [hs_eq]; rfl, (by simp only [hs]; repeat (first | rw [if_neg (by omega)] | rw [if_pos trivial] | rw [if_pos rfl])), (by simp only [hs]; repeat (first | rw [if_neg (by omega)] | rw [if_pos trivial] | rw [if_pos rfl])), (by simp only [hs]; repeat (first | rw [if_neg (by omega)] | rw [if_pos trivial] | rw [if_pos rfl])), (by simp only [hs]; repeat (first | rw [if_neg (by omega)] | rw [if_pos trivial] | rw [if_pos rfl])), fun j h1 h2 => (by simp only [hs]; repeat rw [if_neg (by omega)])⟩
set_option maxHeartbeats 4000000 in
theorem Set_rank_inner (C : yC p l s m args meth c y_Set_rank b_Set_rank 4 none [] d b) (hl : yL l) {k a0 a1 k2 a : Nat} {f sp : Int} {v3 v4 : Value} {m0 : Int} {P K0 T0 T : Nat → Int} {cc : Nat → Nat} {p0 : Nat}
    (hk : h k = some (oO 0 [.ref (b + a0), .ref (b + a1), vi sp, v3, v4])) (ha0 : h a0 = some (oI d 48 K0)) (ha1 : h a1 = some (oZ d 48 T0)) (h01 : a0 ≠ a1) (hk2 : h k2 = some (oO 1 [vi f, vi m0, .ref (b + a)])) (ha : h a = some (oJ d 192 P)) (hP : dig P 192) (hp : p0 < 48) (hc : rkOk (wt P) cc p0) (hR : 1 ≤ R.frames ∧ 27 ≤ R.locals ∧ cells ≤ R.cells ∧ slots ≤ R.slots)
    (kk : ∀ (K : Nat → Int) (lv : List (Nat × Value)) (at0 : Nat), at0 ≤ p0 → (∀ i, i < at0 → K i = cc i) → (∀ i, at0 < i → i ≤ p0 → K i = cc (i - 1)) → (∀ i, at0 ≤ i → i < p0 → wt P (cc i) < wt P p0) → (0 < at0 → ¬ wt P (cc (at0 - 1)) < wt P p0) → lsub [(0, .ref (b + k)), (1, .ref (b + k2)), (2, vi p0), (3, vi at0)] lv → V p l e R s m args below meth c 4 d b Q cells slots n (hs (hs h a0 (oI d 48 K)) a1 (oZ d 48 T)) 59 lv []) :
    ∀ (at0 : Nat) (K : Nat → Int), at0 ≤ p0 → (∀ i, i < at0 → K i = cc i) → (∀ i, at0 < i → i ≤ p0 → K i = cc (i - 1)) → (∀ i, at0 ≤ i → i < p0 → wt P (cc i) < wt P p0) → V p l e R s m args below meth c 4 d b Q cells slots n (hs (hs h a0 (oI d 48 K)) a1 (oZ d 48 T)) 19 [(0, .ref (b + k)), (1, .ref (b + k2)), (2, vi p0), (3, vi at0)] [] := by
  intro at0
  induction at0 with
  | zero =>
    intro K h1 h2 h3 h4
    refine V_iload_n C d_Set_rank_19 rfl rfl ?_
    refine V_if_le (tgt := 59) C d_Set_rank_20 (by decide) (by unfold inI; omega) (fun q20 => ?_) (fun q20 => ?_)
    · exact kk K _ 0 h1 h2 h3 h4 (fun q => absurd q (by omega)) ⟨rfl, rfl, rfl, rfl, trivial⟩
    · exact absurd q20 (by omega)
  | succ at0 ih =>
    intro K h1 h2 h3 h4
    have ca := hc.1 at0 (by omega)
    have e1 : ((at0 + 1 : Nat) : Int) - 1 = at0 := by omega
    have hkk : hs (hs h a0 (oI d 48 K)) a1 (oZ d 48 T) k = some (oO 0 [.ref (b + a0), .ref (b + a1), vi sp, v3, v4]) := by rw [hs2 (ob_ar hk ha0) (ob_ar hk ha1)]; exact hk
    have hk3 : hs (hs h a0 (oI d 48 K)) a1 (oZ d 48 T) k2 = some (oO 1 [vi f, vi m0, .ref (b + a)]) := by rw [hs2 (ob_ar hk2 ha0) (ob_ar hk2 ha1)]; exact hk2
    have ha3 : hs (hs h a0 (oI d 48 K)) a1 (oZ d 48 T) a = some (oJ d 192 P) := by rw [hs2 (J_I ha ha0) (J_Z ha ha1)]; exact ha
    refine V_iload_n C d_Set_rank_19 rfl rfl ?_
    refine V_if_le (tgt := 59) C d_Set_rank_20 (by decide) (by unfold inI; omega) (fun q20 => ?_) (fun q20 => ?_)
    · exact absurd q20 (by omega)
    · refine V_aload_n C d_Set_rank_23 rfl rfl ?_
      refine V_aload_n C d_Set_rank_24 rfl rfl ?_
      refine V_get C 0 0 hkk rfl in_Set (by decide) w_Set_rank_25 rfl rfl d_Set_rank_25 ?_
      refine V_iload_n C d_Set_rank_28 rfl rfl ?_
      refine V_iconst C d_Set_rank_29 rfl ?_
      refine V_isub C d_Set_rank_30 ?_
      rw [e1]
      refine V_iaload C (hs2a h01) (by omega) (by omega) (by decide) d_Set_rank_31 ?_
      refine V_iload_n C d_Set_rank_32 rfl rfl ?_
      rw [Int.toNat_natCast, h2 at0 (by omega)]
      refine V_callV C (c_Row_isLess (x := cc at0) (z := p0) hl hk3 ha3 (by omega) (by omega) hP) wc_Row_isLess w_Set_rank_33 np_Row_isLess ⟨hR.1, hR.2.1, hR.2.2⟩ hk3 rfl rfl (Nat.le_of_ble_eq_true rfl) d_Set_rank_33 (fun v n1 h5 hp1 => ?_) (fun Cx n1 h5 hp1 => hp1.elim)
      obtain ⟨rfl, rfl, rfl⟩ := hp1
      refine V_if_eq (tgt := 59) C d_Set_rank_36 (by decide) (by unfold inI; split <;> omega) (fun q36 => ?_) (fun q36 => ?_)
      · have hno : ¬ wt P (cc at0) < wt P p0 := fun q => by rw [if_pos q] at q36; omega
        exact kk K _ (at0 + 1) h1 h2 h3 h4 (fun _ => hno) ⟨rfl, rfl, rfl, rfl, trivial⟩
      · have hyes : wt P (cc at0) < wt P p0 := by
          by_cases q : wt P (cc at0) < wt P p0
          · exact q
          · rw [if_neg q] at q36; exact absurd rfl q36
        refine V_aload_n C d_Set_rank_39 rfl rfl ?_
        refine V_get C 0 0 hkk rfl in_Set (by decide) w_Set_rank_40 rfl rfl d_Set_rank_40 ?_
        refine V_iload_n C d_Set_rank_43 rfl rfl ?_
        refine V_aload_n C d_Set_rank_44 rfl rfl ?_
        refine V_get C 0 0 hkk rfl in_Set (by decide) w_Set_rank_45 rfl rfl d_Set_rank_45 ?_
        refine V_iload_n C d_Set_rank_48 rfl rfl ?_
        refine V_iconst C d_Set_rank_49 rfl ?_
        refine V_isub C d_Set_rank_50 ?_
        rw [e1]
        refine V_iaload C (hs2a h01) (by omega) (by omega) (by decide) d_Set_rank_51 ?_
        rw [Int.toNat_natCast, h2 at0 (by omega)]
        refine V_iastore C (hs2a h01) (by omega) (by omega) (by decide) d_Set_rank_52 ?_
        refine V_iinc C d_Set_rank_53 rfl rfl (by decide) rfl ?_
        refine V_goto (tgt := 19) C d_Set_rank_56 (by decide) ?_
        rw [hs_in h01, Int.toNat_natCast]
        refine V_loc2 (ih _ (by omega) (fun i hi => ?_) (fun i h5 h6 => ?_) (fun i h5 h6 => ?_)) ⟨rfl, rfl, rfl, ?_, trivial⟩
        · rw [fu_ne _ _ (by omega)]; exact h2 i (by omega)
        · by_cases e2 : i = at0 + 1
          · rw [e2, fu_eq]; rfl
          · rw [fu_ne _ _ e2]; exact h3 i (by omega) h6
        · by_cases e2 : i = at0
          · rw [e2]; exact hyes
          · exact h4 i (by omega) h6
        · show some (vi (((at0 + 1 : Nat) : Int) + -1)) = _
          rw [show ((at0 + 1 : Nat) : Int) + -1 = at0 by omega]
set_option maxHeartbeats 4000000 in
theorem Set_rank_outer (C : yC p l s m args meth c y_Set_rank b_Set_rank 4 none [] d b) (hl : yL l) {k a0 a1 k2 a : Nat} {f sp : Int} {v3 v4 : Value} {mm : Nat} {P K0 T0 : Nat → Int}
    (hk : h k = some (oO 0 [.ref (b + a0), .ref (b + a1), vi sp, v3, v4])) (ha0 : h a0 = some (oI d 48 K0)) (ha1 : h a1 = some (oZ d 48 T0)) (h01 : a0 ≠ a1) (hk2 : h k2 = some (oO 1 [vi f, vi mm, .ref (b + a)])) (ha : h a = some (oJ d 192 P)) (hP : dig P 192) (hm : mm ≤ 48) (hR : 1 ≤ R.frames ∧ 27 ≤ R.locals ∧ cells ≤ R.cells ∧ slots ≤ R.slots)
    (kk : ∀ (K T : Nat → Int) (cc : Nat → Nat) (lv : List (Nat × Value)), (∀ i, i < mm → K i = cc i) → rkOk (wt P) cc mm → (∀ i, i < mm → T i = 0) → V p l e R s m args below meth c 4 d b Q cells slots n (hs (hs h a0 (oI d 48 K)) a1 (oZ d 48 T)) 72 lv []) :
    ∀ (j p0 : Nat) (K T : Nat → Int) (cc : Nat → Nat), p0 + j = mm → (∀ i, i < p0 → K i = cc i) → rkOk (wt P) cc p0 → (∀ i, i < p0 → T i = 0) → V p l e R s m args below meth c 4 d b Q cells slots n (hs (hs h a0 (oI d 48 K)) a1 (oZ d 48 T)) 2 [(0, .ref (b + k)), (1, .ref (b + k2)), (2, vi p0)] [] := by
  intro j
  induction j with
  | zero =>
    intro p0 K T cc hj h1 h2 h3
    have e0 : p0 = mm := by omega
    subst e0
    have hk3 : hs (hs h a0 (oI d 48 K)) a1 (oZ d 48 T) k2 = some (oO 1 [vi f, vi p0, .ref (b + a)]) := by rw [hs2 (ob_ar hk2 ha0) (ob_ar hk2 ha1)]; exact hk2
    refine V_iload_n C d_Set_rank_2 rfl rfl ?_
    refine V_aload_n C d_Set_rank_3 rfl rfl ?_
    refine V_getN C 1 1 hk3 rfl in_Row (by decide) w_Set_rank_4 rfl rfl d_Set_rank_4 ?_
    refine V_icmp_ge (tgt := 72) C d_Set_rank_7 (by decide) (by unfold inI; omega) (by unfold inI; omega) (fun q7 => ?_) (fun q7 => ?_)
    · exact kk K T cc _ h1 h2 h3
    · exact absurd q7 (by omega)
  | succ j ih =>
    intro p0 K T cc hj h1 h2 h3
    have hkk : hs (hs h a0 (oI d 48 K)) a1 (oZ d 48 T) k = some (oO 0 [.ref (b + a0), .ref (b + a1), vi sp, v3, v4]) := by rw [hs2 (ob_ar hk ha0) (ob_ar hk ha1)]; exact hk
    have hk3 : hs (hs h a0 (oI d 48 K)) a1 (oZ d 48 T) k2 = some (oO 1 [vi f, vi mm, .ref (b + a)]) := by rw [hs2 (ob_ar hk2 ha0) (ob_ar hk2 ha1)]; exact hk2
    refine V_iload_n C d_Set_rank_2 rfl rfl ?_
    refine V_aload_n C d_Set_rank_3 rfl rfl ?_
    refine V_getN C 1 1 hk3 rfl in_Row (by decide) w_Set_rank_4 rfl rfl d_Set_rank_4 ?_
    refine V_icmp_ge (tgt := 72) C d_Set_rank_7 (by decide) (by unfold inI; omega) (by unfold inI; omega) (fun q7 => ?_) (fun q7 => ?_)
    · exact absurd q7 (by omega)
    · refine V_aload_n C d_Set_rank_10 rfl rfl ?_
      refine V_get C 0 1 hkk rfl in_Set (by decide) w_Set_rank_11 rfl rfl d_Set_rank_11 ?_
      refine V_iload_n C d_Set_rank_14 rfl rfl ?_
      refine V_iconst C d_Set_rank_15 rfl ?_
      refine V_zastore C (hs_eq _ _ _) (by omega) (by omega) (by omega) (by decide) d_Set_rank_16 ?_
      refine V_iload_n C d_Set_rank_17 rfl rfl ?_
      refine V_istore_n C d_Set_rank_18 rfl (by decide) rfl ?_
      rw [hs_hs, Int.toNat_natCast]
      refine V_loc2 (Set_rank_inner C hl hk ha0 ha1 h01 hk2 ha hP (p0 := p0) (by omega) h2 hR (fun K' lv at0 g1 g2 g3 g4 g5 g6 => ?_) p0 K (Nat.le_refl _) h1 (fun i h5 h6 => absurd h5 (by omega)) (fun i h5 h6 => absurd h5 (by omega))) ⟨rfl, rfl, rfl, rfl, trivial⟩
      refine V_loc g6 ?_
      have hkk2 : ∀ T', hs (hs h a0 (oI d 48 K')) a1 (oZ d 48 T') k = some (oO 0 [.ref (b + a0), .ref (b + a1), vi sp, v3, v4]) := fun T' => by rw [hs2 (ob_ar hk ha0) (ob_ar hk ha1)]; exact hk
      refine V_aload_n C d_Set_rank_59 rfl rfl ?_
      refine V_get C 0 0 (hkk2 _) rfl in_Set (by decide) w_Set_rank_60 rfl rfl d_Set_rank_60 ?_
      refine V_iload_n C d_Set_rank_63 rfl rfl ?_
      refine V_iload_n C d_Set_rank_64 rfl rfl ?_
      refine V_iastore C (hs2a h01) (by omega) (by omega) (by decide) d_Set_rank_65 ?_
      refine V_iinc C d_Set_rank_66 rfl rfl (by decide) rfl ?_
      refine V_goto (tgt := 2) C d_Set_rank_69 (by decide) ?_
      rw [hs_in h01, Int.toNat_natCast]
      refine V_loc2 (ih (p0 + 1) _ _ (insC cc at0 p0) (by omega) (fun i hi => ?_) (ins_ok h2 g1 g4 g5) (fun i hi => ?_)) ⟨rfl, rfl, rfl, trivial⟩
      · unfold insC
        by_cases e1 : i = at0
        · rw [e1, fu_eq, if_neg (by omega), if_pos rfl]
        · rw [fu_ne _ _ e1]
          by_cases e2 : i < at0
          · rw [if_pos e2]; exact g2 i e2
          · rw [if_neg e2, if_neg e1]; exact g3 i (by omega) (by omega)
      · by_cases e1 : i = p0
        · rw [e1, fu_eq]
        · rw [fu_ne _ _ e1]; exact h3 i (by omega)
set_option maxHeartbeats 4000000 in
/-- rank: no place is taken, all are ranked -/
theorem c_Set_rank (hl : yL l) {k a0 a1 k2 a : Nat} {f sp : Int} {v3 v4 : Value} {mm : Nat} {P K0 T0 : Nat → Int}
    (hk : h k = some (oO 0 [.ref (b + a0), .ref (b + a1), vi sp, v3, v4])) (ha0 : h a0 = some (oI d 48 K0)) (ha1 : h a1 = some (oZ d 48 T0)) (h01 : a0 ≠ a1) (hk2 : h k2 = some (oO 1 [vi f, vi mm, .ref (b + a)])) (ha : h a = some (oJ d 192 P)) (hP : dig P 192) (hm : mm ≤ 48) :
    yM l y_Set_rank b_Set_rank 4 none 1 27 0 0 d b n h [.ref (b + k), .ref (b + k2)] (fun r n' h' => r = none ∧ n' = n ∧ ∃ (K T : Nat → Int) (cc : Nat → Nat), (∀ i, i < mm → K i = cc i) ∧ rkOk (wt P) cc mm ∧ (∀ i, i < mm → T i = 0) ∧ h' = hs (hs h a0 (oI d 48 K)) a1 (oZ d 48 T)) noT := by
  refine yM_of hl (by decide +kernel) (Nat.le_of_ble_eq_true rfl) (fun p e s m args below meth c C => ?_)
  refine V_iconst C d_Set_rank_0 rfl ?_
  refine V_istore_n C d_Set_rank_1 rfl (by decide) rfl ?_
  refine V_heq (h' := hs (hs h a0 (oI d 48 K0)) a1 (oZ d 48 T0)) (by rw [hs_self ha0, hs_self ha1]) ?_
  refine V_loc2 (Set_rank_outer C hl hk ha0 ha1 h01 hk2 ha hP hm (by decide) (fun K T cc lv h1 h2 h3 => ?_) mm 0 K0 T0 id (by omega) (fun i hi => absurd hi (by omega)) ⟨fun i hi => absurd hi (by omega), fun i j h1 h2 => absurd h2 (by omega), fun x hx => absurd hx (by omega)⟩ (fun i hi => absurd hi (by omega))) ⟨rfl, rfl, rfl, trivial⟩
  exact V_return C d_Set_rank_72 (Nat.le_refl _) (Nat.le_refl _) ⟨rfl, rfl, K, T, cc, h1, h2, h3, rfl⟩
set_option maxHeartbeats 4000000 in
/-- take: the place of that rank is taken, its year is the answer -/
theorem c_Set_take (hl : yL l) {k a0 a1 k2 : Nat} {f sp m0 : Int} {v3 v4 v5 : Value} {K T : Nat → Int} {r x : Nat}
    (hk : h k = some (oO 0 [.ref (b + a0), .ref (b + a1), vi sp, v3, v4])) (ha0 : h a0 = some (oI d 48 K)) (ha1 : h a1 = some (oZ d 48 T)) (hk2 : h k2 = some (oO 1 [vi f, vi m0, v5])) (hr : r < 48) (hx : K r = x) (hx2 : x < 48) :
    yM l y_Set_take b_Set_take 4 (some .int) 0 0 0 0 d b n h [.ref (b + k), .ref (b + k2), vi r] (fun v n' h' => v = some (vi (f + x)) ∧ n' = n ∧ h' = hs h a1 (oZ d 48 (fu T x 1))) noT := by
  refine yM_of hl (by decide +kernel) (Nat.le_of_ble_eq_true rfl) (fun p e s m args below meth c C => ?_)
  refine V_aload_n C d_Set_take_0 rfl rfl ?_
  refine V_get C 0 0 hk rfl in_Set (by decide) w_Set_take_1 rfl rfl d_Set_take_1 ?_
  refine V_iload_n C d_Set_take_4 rfl rfl ?_
  refine V_iaload C ha0 (by omega) (by omega) (by decide) d_Set_take_5 ?_
  rw [Int.toNat_natCast, hx]
  refine V_istore_n C d_Set_take_6 rfl (by decide) rfl ?_
  refine V_aload_n C d_Set_take_7 rfl rfl ?_
  refine V_get C 0 1 hk rfl in_Set (by decide) w_Set_take_8 rfl rfl d_Set_take_8 ?_
  refine V_iload_n C d_Set_take_11 rfl rfl ?_
  refine V_iconst C d_Set_take_12 rfl ?_
  refine V_zastore C ha1 (by omega) (by omega) (by omega) (by decide) d_Set_take_13 ?_
  rw [Int.toNat_natCast]
  have hk3 : hs h a1 (oZ d 48 (fu T x 1)) k2 = some (oO 1 [vi f, vi m0, v5]) := hs_at hk2 ha1
  refine V_aload_n C d_Set_take_14 rfl rfl ?_
  refine V_getN C 1 0 hk3 rfl in_Row (by decide) w_Set_take_15 rfl rfl d_Set_take_15 ?_
  refine V_iload_n C d_Set_take_18 rfl rfl ?_
  refine V_iadd C d_Set_take_19 ?_
  exact V_ireturn C d_Set_take_20 (Nat.le_refl _) (Nat.le_refl _) ⟨rfl, rfl, rfl⟩
end SetA
