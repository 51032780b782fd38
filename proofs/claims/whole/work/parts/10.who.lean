/-! Whole: a number of eight parts; object k of class number 2, its array at a -/
theorem hs_self {h : yH} {a : Nat} {x : va_E} (ha : h a = some x) : hs h a x = h := by
  funext j
  by_cases hj : j = a
  · subst hj; rw [hs_eq, ha]
  · rw [hs_ne _ _ hj]
theorem hs_hs (h : yH) (a : Nat) (x z : va_E) : hs (hs h a x) a z = hs h a z := by
  funext j
  by_cases hj : j = a
  · subst hj; rw [hs_eq, hs_eq]
  · rw [hs_ne _ _ hj, hs_ne _ _ hj, hs_ne _ _ hj]
theorem hs_at {h : yH} {k a : Nat} {x : va_E} {i : Nat} {fs : List Value} {cA : ClassId} {w : vp_A} (hk : h k = some (.inr (i, fs))) (ha : h a = some (.inl (cA, w))) : hs h a x k = some (.inr (i, fs)) := by
  rw [hs_ne _ _ (fun q => by rw [q, ha] at hk; cases hk)]
  exact hk
section Who
variable {p : Program} {l : Launch} {e : Env} {R : Room} {s : State} {m : MethodId} {args : Array Value} {below : List Frame} {meth : Method} {c : Code} {d : yD} {b : Nat} {Q : State → Prop} {cells slots n : Nat} {h : yH}
theorem V_heq {nL pc : Nat} {lv : List (Nat × Value)} {st : List Value} {h' : yH} (q : h' = h) (k : V p l e R s m args below meth c nL d b Q cells slots n h' pc lv st) : V p l e R s m args below meth c nL d b Q cells slots n h pc lv st := q ▸ k
set_option maxHeartbeats 4000000 in
theorem Who_become_loop (C : yC p l s m args meth c y_Who_become b_Who_become 6 none [] d b) {k a : Nat} {F : Nat → Int} {v : Int} (hk : h k = some (oO 2 [.ref (b + a)])) (ha : h a = some (oJ d 8 F)) (hv0 : 0 ≤ v) (hv1 : v ≤ 9223372036854775807)
    (kk : ∀ (G : Nat → Int) (lv : List (Nat × Value)), (∀ t, t < 8 → G t = bcD v t) → V p l e R s m args below meth c 6 d b Q cells slots n (hs h a (oJ d 8 G)) 36 lv []) :
    ∀ (j i : Nat) (G : Nat → Int), i + j = 8 → (∀ t, t < i → G t = bcD v t) → V p l e R s m args below meth c 6 d b Q cells slots n (hs h a (oJ d 8 G)) 5 [(0, .ref (b + k)), (3, vj (bcQ v i)), (5, vi i)] [] := by
  intro j
  induction j with
  | zero =>
    intro i G hi hG
    refine V_iload C d_Who_become_5 rfl ?_
    refine V_bipush (z := 8) C d_Who_become_7 rfl ?_
    refine V_icmp_ge (tgt := 36) C d_Who_become_9 (by decide) (by unfold inI; omega) (by unfold inI; omega) (fun q9 => ?_) (fun q9 => ?_)
    · exact kk G _ (fun t ht => hG t (by omega))
    · exact absurd q9 (by omega)
  | succ j ih =>
    intro i G hi hG
    have hq := bcQ_in hv0 i
    refine V_iload C d_Who_become_5 rfl ?_
    refine V_bipush (z := 8) C d_Who_become_7 rfl ?_
    refine V_icmp_ge (tgt := 36) C d_Who_become_9 (by decide) (by unfold inI; omega) (by unfold inI; omega) (fun q9 => ?_) (fun q9 => ?_)
    · exact absurd q9 (by omega)
    · have hk1 : hs h a (oJ d 8 G) k = some (oO 2 [.ref (b + a)]) := hs_at hk ha
      refine V_aload_n C d_Who_become_12 rfl rfl ?_
      refine V_get C 2 0 hk1 rfl in_Who (by decide) w_Who_become_13 rfl rfl d_Who_become_13 ?_
      refine V_iload C d_Who_become_16 rfl ?_
      refine V_lload_n C d_Who_become_18 rfl rfl ?_
      refine V_ldc2 (z := 1000000000) C w_Who_become_19 rfl d_Who_become_19 ?_
      refine V_lremP C d_Who_become_22 (by omega) (by omega) (by omega) (by omega) ?_
      refine V_lastore C (hs_eq _ _ _) (by omega) (by omega) (by decide) d_Who_become_23 ?_
      refine V_lload_n C d_Who_become_24 rfl rfl ?_
      refine V_ldc2 (z := 1000000000) C w_Who_become_25 rfl d_Who_become_25 ?_
      refine V_ldivP C d_Who_become_28 (by omega) (by omega) (by omega) (by omega) ?_
      refine V_lstore_n C d_Who_become_29 rfl (by decide) rfl ?_
      refine V_iinc C d_Who_become_30 rfl rfl (by decide) rfl ?_
      refine V_goto (tgt := 5) C d_Who_become_33 (by decide) ?_
      rw [hs_hs]
      refine V_loc (lv' := [(0, .ref (b + k)), (3, vj (bcQ v (i + 1))), (5, vi ((i + 1 : Nat) : Int))]) ⟨rfl, rfl, rfl, trivial⟩ ?_
      refine ih (i + 1) _ (by omega) (fun t ht => ?_)
      by_cases e1 : t = (i : Int).toNat
      · rw [e1, fu_eq]; rfl
      · rw [fu_ne _ _ e1]; exact hG t (by omega)
set_option maxHeartbeats 4000000 in
/-- become(v): the number is v -/
theorem c_Who_become (hl : yL l) {k a : Nat} {F : Nat → Int} {v : Int} (hk : h k = some (oO 2 [.ref (b + a)])) (ha : h a = some (oJ d 8 F)) (hv0 : 0 ≤ v) (hv1 : v ≤ 9223372036854775807) :
    yM l y_Who_become b_Who_become 6 none 0 0 0 0 d b n h [.ref (b + k), vj v] (fun r n' h' => r = none ∧ n' = n ∧ ∃ G, dig G 8 ∧ vl G 8 = v ∧ h' = hs h a (oJ d 8 G)) noT := by
  refine yM_of hl (by decide +kernel) (Nat.le_of_ble_eq_true rfl) (fun p e s m args below meth c C => ?_)
  refine V_lload_n C d_Who_become_0 rfl rfl ?_
  refine V_lstore_n C d_Who_become_1 rfl (by decide) rfl ?_
  refine V_iconst C d_Who_become_2 rfl ?_
  refine V_istore C d_Who_become_3 (by decide) rfl ?_
  refine V_heq (hs_self ha) ?_
  refine V_loc (lv' := [(0, .ref (b + k)), (3, vj (bcQ v 0)), (5, vi ((0 : Nat) : Int))]) ⟨rfl, rfl, rfl, trivial⟩ ?_
  refine Who_become_loop C hk ha hv0 hv1 (fun G lv hG => ?_) 8 0 F (by omega) (fun t ht => absurd ht (by omega))
  exact V_return C d_Who_become_36 (Nat.le_refl _) (Nat.le_refl _) ⟨rfl, rfl, G, fun t ht => by rw [hG t ht]; exact bc_dig v 8 t ht, by rw [vl_congr hG]; exact bc_all hv0 (by omega), rfl⟩
end Who
