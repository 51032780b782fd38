theorem tz {T : Int} {S : Bool} (h : T = if S = true then 1 else 0) : (T = 0 ↔ S = false) ∧ (T = 0 ∨ T = 1) := by
  cases S <;> simp at h <;> subst h <;> simp
section Spans
variable {p : Program} {l : Launch} {e : Env} {R : Room} {s : State} {m : MethodId} {args : Array Value} {below : List Frame} {meth : Method} {c : Code} {d : yD} {b : Nat} {Q : State → Prop} {cells slots n : Nat} {h : yH}
set_option maxHeartbeats 4000000 in
theorem Set_spans_loop (C : yC p l s m args meth c y_Set_findSpans b_Set_findSpans 4 none [] d b) {k a0 a1 a2 a3 k2 : Nat} {f : Int} {v5 : Value} {mm : Nat} {T A0 B0 : Nat → Int} {S : Nat → Bool}
    (hk1 : k ≠ a1) (hk2a : k ≠ a2) (hk3 : k ≠ a3) (h12 : a1 ≠ a2) (h13 : a1 ≠ a3) (h23 : a2 ≠ a3) (hkk2 : k2 ≠ k) (hk2a2 : k2 ≠ a2) (hk2a3 : k2 ≠ a3) (ha1 : h a1 = some (oZ d 48 T)) (hk2 : h k2 = some (oO 1 [vi f, vi mm, v5])) (hm : mm ≤ 48) (hT : ∀ x, x < mm → T x = if S x = true then 1 else 0)
    (kk : ∀ (h' : yH) (lv : List (Nat × Value)), h' k = some (oO 0 [.ref (b + a0), .ref (b + a1), vi (spN S mm : Nat), .ref (b + a2), .ref (b + a3)]) → h' a2 = some (oI d 24 (spA S f A0 mm)) → h' a3 = some (oI d 24 (spB S f B0 mm)) → (∀ j, j ≠ k → j ≠ a2 → j ≠ a3 → h' j = h j) → V p l e R s m args below meth c 4 d b Q cells slots n h' 85 lv []) :
    ∀ (j i : Nat) (h' : yH), i + j = mm → h' k = some (oO 0 [.ref (b + a0), .ref (b + a1), vi (spN S i : Nat), .ref (b + a2), .ref (b + a3)]) → h' a2 = some (oI d 24 (spA S f A0 i)) → h' a3 = some (oI d 24 (spB S f B0 i)) → (∀ j, j ≠ k → j ≠ a2 → j ≠ a3 → h' j = h j) → V p l e R s m args below meth c 4 d b Q cells slots n h' 9 [(0, .ref (b + k)), (1, .ref (b + k2)), (2, vi (if i = 0 then 0 else T (i - 1))), (3, vi i)] [] := by
  intro j
  induction j with
  | zero =>
    intro i h' hi g1 g2 g3 g4
    have e0 : i = mm := by omega
    subst e0
    have gk2 : h' k2 = some (oO 1 [vi f, vi i, v5]) := by rw [g4 k2 hkk2 hk2a2 hk2a3]; exact hk2
    refine V_iload_n C d_Set_findSpans_9 rfl rfl ?_
    refine V_aload_n C d_Set_findSpans_10 rfl rfl ?_
    refine V_getN C 1 1 gk2 rfl in_Row (by decide) w_Set_findSpans_11 rfl rfl d_Set_findSpans_11 ?_
    refine V_icmp_ge (tgt := 85) C d_Set_findSpans_14 (by decide) (by unfold inI; omega) (by unfold inI; omega) (fun q14 => ?_) (fun q14 => ?_)
    · exact kk h' _ g1 g2 g3 g4
    · exact absurd q14 (by omega)
  | succ j ih =>
    intro i h' hi g1 g2 g3 g4
    have gk2 : h' k2 = some (oO 1 [vi f, vi mm, v5]) := by rw [g4 k2 hkk2 hk2a2 hk2a3]; exact hk2
    have ga1 : h' a1 = some (oZ d 48 T) := by rw [g4 a1 hk1.symm h12 h13]; exact ha1
    obtain ⟨t0, t1⟩ := tz (hT i (by omega))
    have sle := spN_le S (i + 1)
    have sl0 := spN_le S i
    have eS : spN S (i + 1) = if S i = true ∧ (i = 0 ∨ S (i - 1) = false) then spN S i + 1 else spN S i := rfl
    have eA : spA S f A0 (i + 1) = if S i = true ∧ (i = 0 ∨ S (i - 1) = false) then fu (spA S f A0 i) (spN S i) (f + i) else spA S f A0 i := rfl
    have eB : spB S f B0 (i + 1) = if S i = true then fu (spB S f B0 i) (spN S (i + 1) - 1) (f + i) else spB S f B0 i := rfl
    -- behind the write of the last year
    have tail : ∀ (h2 : yH) (w : Int), h2 k = some (oO 0 [.ref (b + a0), .ref (b + a1), vi (spN S (i + 1) : Nat), .ref (b + a2), .ref (b + a3)]) → h2 a2 = some (oI d 24 (spA S f A0 (i + 1))) → h2 a3 = some (oI d 24 (spB S f B0 (i + 1))) → (∀ j, j ≠ k → j ≠ a2 → j ≠ a3 → h2 j = h j) → V p l e R s m args below meth c 4 d b Q cells slots n h2 72 [(0, .ref (b + k)), (1, .ref (b + k2)), (2, vi w), (3, vi i)] [] := by
      intro h2 w c1 c2 c3 c4
      have ca1 : h2 a1 = some (oZ d 48 T) := by rw [c4 a1 hk1.symm h12 h13]; exact ha1
      refine V_aload_n C d_Set_findSpans_72 rfl rfl ?_
      refine V_get C 0 1 c1 rfl in_Set (by decide) w_Set_findSpans_73 rfl rfl d_Set_findSpans_73 ?_
      refine V_iload_n C d_Set_findSpans_76 rfl rfl ?_
      refine V_zaload C ca1 (by omega) (by omega) (by decide) d_Set_findSpans_77 ?_
      rw [Int.toNat_natCast]
      refine V_istore_n C d_Set_findSpans_78 rfl (by decide) rfl ?_
      refine V_iinc C d_Set_findSpans_79 rfl rfl (by decide) rfl ?_
      refine V_goto (tgt := 9) C d_Set_findSpans_82 (by decide) ?_
      refine V_loc2 (ih (i + 1) h2 (by omega) c1 c2 c3 c4) ⟨rfl, rfl, ?_, rfl, trivial⟩
      rw [if_neg (by omega)]
      rfl
    have mid : ∀ (h2 : yH) (w : Int), S i = true → h2 k = some (oO 0 [.ref (b + a0), .ref (b + a1), vi (spN S (i + 1) : Nat), .ref (b + a2), .ref (b + a3)]) → h2 a2 = some (oI d 24 (spA S f A0 (i + 1))) → h2 a3 = some (oI d 24 (spB S f B0 i)) → (∀ j, j ≠ k → j ≠ a2 → j ≠ a3 → h2 j = h j) → 0 < spN S (i + 1) → V p l e R s m args below meth c 4 d b Q cells slots n h2 55 [(0, .ref (b + k)), (1, .ref (b + k2)), (2, vi w), (3, vi i)] [] := by
      intro h2 w hS c1 c2 c3 c4 c5
      have ck2 : h2 k2 = some (oO 1 [vi f, vi mm, v5]) := by rw [c4 k2 hkk2 hk2a2 hk2a3]; exact hk2
      refine V_aload_n C d_Set_findSpans_55 rfl rfl ?_
      refine V_get C 0 4 c1 rfl in_Set (by decide) w_Set_findSpans_56 rfl rfl d_Set_findSpans_56 ?_
      refine V_aload_n C d_Set_findSpans_59 rfl rfl ?_
      refine V_get C 0 2 c1 rfl in_Set (by decide) w_Set_findSpans_60 rfl rfl d_Set_findSpans_60 ?_
      refine V_iconst C d_Set_findSpans_63 rfl ?_
      refine V_isub C d_Set_findSpans_64 ?_
      refine V_aload_n C d_Set_findSpans_65 rfl rfl ?_
      refine V_getN C 1 0 ck2 rfl in_Row (by decide) w_Set_findSpans_66 rfl rfl d_Set_findSpans_66 ?_
      refine V_iload_n C d_Set_findSpans_69 rfl rfl ?_
      refine V_iadd C d_Set_findSpans_70 ?_
      refine V_iastore C c3 (by omega) (by omega) (by decide) d_Set_findSpans_71 ?_
      rw [show ((spN S (i + 1) : Nat) - 1 : Int).toNat = spN S (i + 1) - 1 by omega]
      refine tail _ w (by rw [hs_ne _ _ hk3]; exact c1) (by rw [hs_ne _ _ h23]; exact c2) (by rw [hs_eq, eB, if_pos hS]) (fun j j1 j2 j3 => by rw [hs_ne _ _ j3]; exact c4 j j1 j2 j3)
    have hin : inI (if i = 0 then 0 else T (i - 1)) := by
      by_cases e1 : i = 0
      · rw [if_pos e1]; exact inI_0
      · rw [if_neg e1]
        obtain ⟨-, z1⟩ := tz (hT (i - 1) (by omega))
        exact ⟨by omega, by omega⟩
    refine V_iload_n C d_Set_findSpans_9 rfl rfl ?_
    refine V_aload_n C d_Set_findSpans_10 rfl rfl ?_
    refine V_getN C 1 1 gk2 rfl in_Row (by decide) w_Set_findSpans_11 rfl rfl d_Set_findSpans_11 ?_
    refine V_icmp_ge (tgt := 85) C d_Set_findSpans_14 (by decide) (by unfold inI; omega) (by unfold inI; omega) (fun q14 => ?_) (fun q14 => ?_)
    · exact absurd q14 (by omega)
    · refine V_aload_n C d_Set_findSpans_17 rfl rfl ?_
      refine V_get C 0 1 g1 rfl in_Set (by decide) w_Set_findSpans_18 rfl rfl d_Set_findSpans_18 ?_
      refine V_iload_n C d_Set_findSpans_21 rfl rfl ?_
      refine V_zaload C ga1 (by omega) (by omega) (by decide) d_Set_findSpans_22 ?_
      rw [Int.toNat_natCast]
      refine V_if_eq (tgt := 72) C d_Set_findSpans_23 (by decide) (by unfold inI; omega) (fun q23 => ?_) (fun q23 => ?_)
      · have hS : ¬ S i = true := fun q => by rw [t0.mp q23] at q; cases q
        refine tail h' _ ?_ ?_ ?_ g4
        · rw [eS, if_neg (fun q => hS q.1)]; exact g1
        · rw [eA, if_neg (fun q => hS q.1)]; exact g2
        · rw [eB, if_neg hS]; exact g3
      · have hS : S i = true := by
          cases hq : S i with
          | true => rfl
          | false => exact absurd (t0.mpr hq) q23
        refine V_iload_n C d_Set_findSpans_26 rfl rfl ?_
        refine V_if_ne (tgt := 55) C d_Set_findSpans_27 (by decide) hin (fun q27 => ?_) (fun q27 => ?_)
        · have hno : ¬ (S i = true ∧ (i = 0 ∨ S (i - 1) = false)) := fun q => by
            rcases q.2 with z | z
            · rw [if_pos z] at q27; exact q27 rfl
            · by_cases e1 : i = 0
              · rw [if_pos e1] at q27; exact q27 rfl
              · rw [if_neg e1] at q27
                exact q27 ((tz (hT (i - 1) (by omega))).1.mpr z)
          have hpos : 0 < spN S (i + 1) := sle.2.2 (by omega) hS
          refine mid h' _ hS ?_ ?_ g3 g4 hpos
          · rw [eS, if_neg hno]; exact g1
          · rw [eA, if_neg hno]; exact g2
        · have hyes : S i = true ∧ (i = 0 ∨ S (i - 1) = false) := ⟨hS, by
            by_cases e1 : i = 0
            · exact Or.inl e1
            · rw [if_neg e1] at q27
              exact Or.inr ((tz (hT (i - 1) (by omega))).1.mp q27)⟩
          rw [if_pos hyes] at eS eA
          have hlt : spN S i < 24 := by omega
          refine V_aload_n C d_Set_findSpans_30 rfl rfl ?_
          refine V_get C 0 3 g1 rfl in_Set (by decide) w_Set_findSpans_31 rfl rfl d_Set_findSpans_31 ?_
          refine V_aload_n C d_Set_findSpans_34 rfl rfl ?_
          refine V_get C 0 2 g1 rfl in_Set (by decide) w_Set_findSpans_35 rfl rfl d_Set_findSpans_35 ?_
          refine V_aload_n C d_Set_findSpans_38 rfl rfl ?_
          refine V_getN C 1 0 gk2 rfl in_Row (by decide) w_Set_findSpans_39 rfl rfl d_Set_findSpans_39 ?_
          refine V_iload_n C d_Set_findSpans_42 rfl rfl ?_
          refine V_iadd C d_Set_findSpans_43 ?_
          refine V_iastore C g2 (by omega) (by omega) (by decide) d_Set_findSpans_44 ?_
          rw [Int.toNat_natCast]
          have g5 : hs h' a2 (oI d 24 (fu (spA S f A0 i) (spN S i) (f + i))) k = some (oO 0 [.ref (b + a0), .ref (b + a1), vi (spN S i : Nat), .ref (b + a2), .ref (b + a3)]) := by rw [hs_ne _ _ hk2a]; exact g1
          refine V_aload_n C d_Set_findSpans_45 rfl rfl ?_
          refine V_dup C d_Set_findSpans_46 rfl ?_
          refine V_get C 0 2 g5 rfl in_Set (by decide) w_Set_findSpans_47 rfl rfl d_Set_findSpans_47 ?_
          refine V_iconst C d_Set_findSpans_50 rfl ?_
          refine V_iadd C d_Set_findSpans_51 ?_
          refine V_put (ty := .int) C 0 2 g5 rfl in_Set t_Set tok_Set nm_Set (by decide) w_Set_findSpans_52 rfl rfl (by decide +kernel) rfl rfl (Nat.le_of_ble_eq_true rfl) d_Set_findSpans_52 ?_
          refine mid _ _ hS ?_ ?_ ?_ ?_ (by omega)
          · rw [hs_eq, eS]; rfl
          · rw [hs_ne _ _ hk2a.symm, hs_eq, eA]
          · rw [hs_ne _ _ hk3.symm, hs_ne _ _ h23.symm]; exact g3
          · intro j j1 j2 j3
            rw [hs_ne _ _ j1, hs_ne _ _ j2]; exact g4 j j1 j2 j3
set_option maxHeartbeats 4000000 in
/-- findSpans -/
theorem c_Set_findSpans (hl : yL l) {k a0 a1 a2 a3 k2 : Nat} {f sp : Int} {v5 : Value} {mm : Nat} {T A0 B0 : Nat → Int} {S : Nat → Bool}
    (h12 : a1 ≠ a2) (h13 : a1 ≠ a3) (h23 : a2 ≠ a3) (hkk2 : k2 ≠ k) (hk : h k = some (oO 0 [.ref (b + a0), .ref (b + a1), vi sp, .ref (b + a2), .ref (b + a3)])) (ha1 : h a1 = some (oZ d 48 T)) (ha2 : h a2 = some (oI d 24 A0)) (ha3 : h a3 = some (oI d 24 B0)) (hk2 : h k2 = some (oO 1 [vi f, vi mm, v5])) (hm : mm ≤ 48) (hT : ∀ x, x < mm → T x = if S x = true then 1 else 0) :
    yM l y_Set_findSpans b_Set_findSpans 4 none 0 0 0 0 d b n h [.ref (b + k), .ref (b + k2)] (fun r n' h' => r = none ∧ n' = n ∧ h' k = some (oO 0 [.ref (b + a0), .ref (b + a1), vi (spN S mm : Nat), .ref (b + a2), .ref (b + a3)]) ∧ h' a2 = some (oI d 24 (spA S f A0 mm)) ∧ h' a3 = some (oI d 24 (spB S f B0 mm)) ∧ ∀ j, j ≠ k → j ≠ a2 → j ≠ a3 → h' j = h j) noT := by
  refine yM_of hl (by decide +kernel) (Nat.le_of_ble_eq_true rfl) (fun p e s m args below meth c C => ?_)
  refine V_aload_n C d_Set_findSpans_0 rfl rfl ?_
  refine V_iconst C d_Set_findSpans_1 rfl ?_
  refine V_put (ty := .int) C 0 2 hk rfl in_Set t_Set tok_Set nm_Set (by decide) w_Set_findSpans_2 rfl rfl (by decide +kernel) rfl rfl (Nat.le_of_ble_eq_true rfl) d_Set_findSpans_2 ?_
  refine V_iconst C d_Set_findSpans_5 rfl ?_
  refine V_istore_n C d_Set_findSpans_6 rfl (by decide) rfl ?_
  refine V_iconst C d_Set_findSpans_7 rfl ?_
  refine V_istore_n C d_Set_findSpans_8 rfl (by decide) rfl ?_
  refine V_loc2 (Set_spans_loop (A0 := A0) (B0 := B0) (f := f) (S := S) (h := h) C (ob_ar hk ha1) (ob_ar hk ha2) (ob_ar hk ha3) h12 h13 h23 hkk2 (ob_ar hk2 ha2) (ob_ar hk2 ha3) ha1 hk2 hm hT (fun h' lv g1 g2 g3 g4 => ?_) mm 0 _ (by omega) (hs_eq _ _ _) (by rw [hs_ne _ _ (ob_ar hk ha2).symm]; exact ha2) (by rw [hs_ne _ _ (ob_ar hk ha3).symm]; exact ha3) (fun j j1 j2 j3 => by rw [hs_ne _ _ j1])) ⟨rfl, rfl, rfl, rfl, trivial⟩
  exact V_return C d_Set_findSpans_85 (Nat.le_refl _) (Nat.le_refl _) ⟨rfl, rfl, g1, g2, g3, g4⟩
end Spans
