section YfI
variable {p : Program} {l : Launch} {e : Env} {R : Room} {s : State} {m : MethodId} {args : Array Value} {below : List Frame} {meth : Method} {c : Code} {d : yD} {b : Nat} {Q : State → Prop} {cells slots n : Nat} {h : yH}
/-- the rows of a new object, as far as they are made -/
def gN (b i : Nat) : Nat → Option Nat := fun j => if j < i then some (b + (2 + 2 * j)) else none
set_option maxHeartbeats 1000000 in
theorem Yf_init_loop (C : yC p l s m args meth c y_Yf_init b_Yf_init 2 none [] d b) (hl : yL l)
    (kk : ∀ (h' : yH), h' 0 = some (oO 3 [.ref (b + 1), vi 0, vj 0, .null, .null, .null, .null]) → h' 1 = some (oA d 3 8 (gN b 8)) → (∀ j, j < 8 → h' (2 + 2 * j) = some (oO 1 [vi 0, vi 0, .ref (b + (3 + 2 * j))]) ∧ h' (3 + 2 * j) = some (oJ d 192 (fun _ => 0))) → V p l e (yRm 2 40 40 2000) s m args below meth c 2 d b Q 17 1568 18 h' 40 [(0, .ref (b + 0))] []) :
    ∀ (j i : Nat) (h' : yH), i + j = 8 → h' 0 = some (oO 3 [.ref (b + 1), vi 0, vj 0, .null, .null, .null, .null]) → h' 1 = some (oA d 3 8 (gN b i)) → (∀ j, j < i → h' (2 + 2 * j) = some (oO 1 [vi 0, vi 0, .ref (b + (3 + 2 * j))]) ∧ h' (3 + 2 * j) = some (oJ d 192 (fun _ => 0))) →
      V p l e (yRm 2 40 40 2000) s m args below meth c 2 d b Q (1 + 2 * i) (8 + 195 * i) (2 + 2 * i) h' 15 [(0, .ref (b + 0)), (1, vi i)] [] := by
  intro j
  induction j with
  | zero =>
    intro i h' hi h0 h1 h2
    have e0 : i = 8 := by omega
    subst e0
    refine V_iload_n C d_Yf_init_15 rfl rfl ?_
    refine V_bipush (z := 8) C d_Yf_init_16 rfl ?_
    refine V_icmp_ge (tgt := 40) C d_Yf_init_18 (by decide) (by unfold inI; omega) (by unfold inI; omega) (fun q18 => ?_) (fun q18 => ?_)
    · exact V_loc2 (kk h' h0 h1 h2) ⟨rfl, trivial⟩
    · exact absurd q18 (by omega)
  | succ j ih =>
    intro i h' hi h0 h1 h2
    refine V_iload_n C d_Yf_init_15 rfl rfl ?_
    refine V_bipush (z := 8) C d_Yf_init_16 rfl ?_
    refine V_icmp_ge (tgt := 40) C d_Yf_init_18 (by decide) (by unfold inI; omega) (by unfold inI; omega) (fun q18 => ?_) (fun q18 => ?_)
    · exact absurd q18 (by omega)
    · refine V_aload_n C d_Yf_init_21 rfl rfl ?_
      refine V_get C 3 0 h0 rfl in_Yf (by decide) w_Yf_init_22 rfl rfl d_Yf_init_22 ?_
      refine V_iload_n C d_Yf_init_25 rfl rfl ?_
      refine V_new C 1 (fs := [vi 0, vi 0, .null]) rfl in_Row t_Row tok_Row w_Yf_init_26 (fun j hj => by match j, hj with | 0, _ => rfl | 1, _ => rfl | 2, _ => rfl) (by show 1 + 2 * i + 1 ≤ 40; omega) (by show 8 + 195 * i + 3 ≤ 2000; omega) d_Yf_init_26 ?_
      refine V_dup C d_Yf_init_29 rfl ?_
      refine V_callIN C (c_Row_init hl (hs_eq _ _ _)) wc_Row_init wn_Yf_init_30 w_Yf_init_30 np_Row_init rfl ⟨by decide, by decide, by show 1 + 2 * i + 1 + 1 ≤ 40; omega, by show 8 + 195 * i + 3 + 192 ≤ 2000; omega⟩ rfl (Nat.le_of_ble_eq_true rfl) d_Yf_init_30 (fun v n1 h5 hp => ?_) (fun Cx n1 h1 hp => hp.elim)
      obtain ⟨rfl, rfl, rfl⟩ := hp
      have hA : hs (hs (hs h' (2 + 2 * i) (oO 1 [vi 0, vi 0, .null])) (2 + 2 * i + 1) (oJ d 192 (fun _ => 0))) (2 + 2 * i) (oO 1 [vi 0, vi 0, .ref (b + (2 + 2 * i + 1))]) 1 = some (oA d 3 8 (gN b i)) := by rw [hs_ne _ _ (by omega), hs_ne _ _ (by omega), hs_ne _ _ (by omega)]; exact h1
      refine V_aastore C hA rfl (hs_eq _ _ _) rfl (by omega) (by omega) (by decide) d_Yf_init_33 ?_
      refine V_iinc C d_Yf_init_34 rfl rfl (by decide) rfl ?_
      refine V_goto (tgt := 15) C d_Yf_init_37 (by decide) ?_
      refine V_widen (k0 := 1 + 2 * (i + 1)) (n0 := 8 + 195 * (i + 1)) (by omega) (by omega) ?_
      rw [show 2 + 2 * i + 1 + 1 = 2 + 2 * (i + 1) by omega]
      refine V_loc2 (ih (i + 1) _ (by omega) ?_ ?_ (fun k hk => ?_)) ⟨rfl, rfl, trivial⟩
      · rw [hs_ne _ _ (by omega), hs_ne _ _ (by omega), hs_ne _ _ (by omega), hs_ne _ _ (by omega)]; exact h0
      · rw [hs_eq, Int.toNat_natCast]
        congr 2
        funext q
        unfold gN
        by_cases e1 : q = i
        · rw [e1, fu_eq, if_pos (by omega)]
        · rw [fu_ne _ _ e1]
          by_cases e2 : q < i
          · rw [if_pos e2, if_pos (by omega)]
          · rw [if_neg e2, if_neg (by omega)]
      · by_cases e1 : k = i
        · subst e1
          refine ⟨?_, ?_⟩
          · rw [hs_ne _ _ (by omega), hs_eq, show 2 + 2 * k + 1 = 3 + 2 * k by omega]
          · rw [hs_ne _ _ (by omega), hs_ne _ _ (by omega), show 3 + 2 * k = 2 + 2 * k + 1 by omega, hs_eq]
        · obtain ⟨a1, a2⟩ := h2 k (by omega)
          refine ⟨?_, ?_⟩
          · rw [hs_ne _ _ (by omega), hs_ne _ _ (by omega), hs_ne _ _ (by omega), hs_ne _ _ (by omega)]; exact a1
          · rw [hs_ne _ _ (by omega), hs_ne _ _ (by omega), hs_ne _ _ (by omega), hs_ne _ _ (by omega)]; exact a2
/-- the new object -/
def vw0 : Vw := Vw.mk 0 (fun _ => 0) (fun _ => 0) (fun _ _ => 0) 0 0 (fun _ => 0) (fun _ => 0)
set_option maxHeartbeats 1000000 in
theorem c_Yf_init (hl : yL l) (h0 : h 0 = some (oO 3 [.null, vi 0, vj 0, .null, .null, .null, .null])) :
    yM l y_Yf_init b_Yf_init 2 none 2 40 40 2000 d b 1 h [.ref (b + 0)] (fun q n' h' => q = none ∧ n' = 29 ∧ RepX d b h' vw0) noT := by
  refine yM_of hl (by decide +kernel) (Nat.le_of_ble_eq_true rfl) (fun p e s m args below meth c C => ?_)
  have h1 : hs h 1 (oA d 3 8 (fun _ => none)) 0 = some (oO 3 [.null, vi 0, vj 0, .null, .null, .null, .null]) := by rw [hs_ne _ _ (by omega)]; exact h0
  refine V_aload_n C d_Yf_init_0 rfl rfl ?_
  refine V_objInit C w_Yf_init_1 wc_Obj (by decide) (by decide) d_Yf_init_1 ?_
  refine V_aload_n C d_Yf_init_4 rfl rfl ?_
  refine V_bipush (z := 8) C d_Yf_init_5 rfl ?_
  refine V_newA (t := 3) (N := 8) C rfl (by decide) rfl w_Yf_init_7 rfl (by decide) (by decide) d_Yf_init_7 ?_
  refine V_putF (ty := (.array (.object "YearFractions$Row"))) C 3 0 h1 rfl in_Yf t_Yf tok_Yf nm_Yf (by decide) w_Yf_init_10 rfl rfl rfl rfl (by decide +kernel) rfl rfl (Nat.le_of_ble_eq_true rfl) d_Yf_init_10 ?_
  refine V_iconst C d_Yf_init_13 rfl ?_
  refine V_istore_n C d_Yf_init_14 rfl (by decide) rfl ?_
  refine V_loc2 (Yf_init_loop C hl (fun h' a0 a1 a2 => ?_) 8 0 _ (by omega) (hs_eq _ _ _) (by rw [hs_ne _ _ (by omega), hs_eq]; congr 2) (fun j hj => absurd hj (by omega))) ⟨rfl, rfl, trivial⟩
  refine V_aload_n C d_Yf_init_40 rfl rfl ?_
  refine V_iconst C d_Yf_init_41 rfl ?_
  refine V_put (ty := .int) C 3 1 a0 rfl in_Yf t_Yf tok_Yf nm_Yf (by decide) w_Yf_init_42 rfl rfl (by decide +kernel) rfl rfl (Nat.le_of_ble_eq_true rfl) d_Yf_init_42 ?_
  refine V_aload_n C d_Yf_init_45 rfl rfl ?_
  refine V_lconst (z := 0) C d_Yf_init_46 rfl ?_
  refine V_put (ty := .long) C 3 2 (hs_eq _ _ _) rfl in_Yf t_Yf tok_Yf nm_Yf (by decide) w_Yf_init_47 rfl rfl (by decide +kernel) rfl rfl (Nat.le_of_ble_eq_true rfl) d_Yf_init_47 ?_
  rw [hs_hs]
  have b0 : ∀ j, j ≠ 0 → hs h' 0 (oO 3 [.ref (b + 1), vi 0, vj 0, .null, .null, .null, .null]) j = h' j := fun j hj => hs_ne _ _ hj
  have b1 : hs h' 0 (oO 3 [.ref (b + 1), vi 0, vj 0, .null, .null, .null, .null]) 0 = some (oO 3 [.ref (b + 1), vi 0, vj 0, .null, .null, .null, .null]) := hs_eq _ _ _
  show V p l e (yRm 2 40 40 2000) s m args below meth c 2 d b _ 17 1568 18 (hs h' 0 (oO 3 [.ref (b + 1), vi 0, vj 0, .null, .null, .null, .null])) 50 _ _
  generalize hs h' 0 (oO 3 [.ref (b + 1), vi 0, vj 0, .null, .null, .null, .null]) = H1 at b0 b1 ⊢
  refine V_aload_n C d_Yf_init_50 rfl rfl ?_
  refine V_new C 0 (fs := [.null, .null, vi 0, .null, .null]) rfl in_Set t_Set tok_Set w_Yf_init_51 (fun j hj => by match j, hj with | 0, _ => rfl | 1, _ => rfl | 2, _ => rfl | 3, _ => rfl | 4, _ => rfl) (by decide) (by decide) d_Yf_init_51 ?_
  refine V_dup C d_Yf_init_54 rfl ?_
  refine V_callIN C (c_Set_init (k := 18) hl (hs_eq _ _ _)) wc_Set_init wn_Yf_init_55 w_Yf_init_55 np_Set_init rfl (by decide) rfl (Nat.le_of_ble_eq_true rfl) d_Yf_init_55 (fun w n1 H3 hp => ?_) (fun Cx n1 h1 hp => hp.elim)
  obtain ⟨rfl, rfl, s1, s2, s3, s4, s5, s6⟩ := hp
  have t0 : H3 0 = some (oO 3 [.ref (b + 1), vi 0, vj 0, .null, .null, .null, .null]) := by rw [s6 0 (by omega) (by omega), hs_ne _ _ (by omega)]; exact b1
  refine V_putF (ty := (.object "YearFractions$LeastSet")) C 3 3 t0 rfl in_Yf t_Yf tok_Yf nm_Yf (by decide) w_Yf_init_58 rfl rfl rfl rfl (by decide +kernel) rfl rfl (Nat.le_of_ble_eq_true rfl) d_Yf_init_58 ?_
  refine V_aload_n C d_Yf_init_61 rfl rfl ?_
  refine V_new C 2 (fs := [.null]) rfl in_Who t_Who tok_Who w_Yf_init_62 (fun j hj => by match j, hj with | 0, _ => rfl) (by decide) (by decide) d_Yf_init_62 ?_
  refine V_dup C d_Yf_init_65 rfl ?_
  refine V_callIN C (c_Who_init hl (hs_eq _ _ _)) wc_Who_init wn_Yf_init_66 w_Yf_init_66 np_Who_init rfl (by decide) rfl (Nat.le_of_ble_eq_true rfl) d_Yf_init_66 (fun w n1 h5 hp => ?_) (fun Cx n1 h1 hp => hp.elim)
  obtain ⟨rfl, rfl, rfl⟩ := hp
  refine V_putF (ty := (.object "YearFractions$Whole")) C 3 4 (by rw [hs_ne _ _ (by omega), hs_ne _ _ (by omega), hs_ne _ _ (by omega), hs_eq]) rfl in_Yf t_Yf tok_Yf nm_Yf (by decide) w_Yf_init_69 rfl rfl rfl rfl (by decide +kernel) rfl rfl (Nat.le_of_ble_eq_true rfl) d_Yf_init_69 ?_
  refine V_aload_n C d_Yf_init_72 rfl rfl ?_
  refine V_new C 2 (fs := [.null]) rfl in_Who t_Who tok_Who w_Yf_init_73 (fun j hj => by match j, hj with | 0, _ => rfl) (by decide) (by decide) d_Yf_init_73 ?_
  refine V_dup C d_Yf_init_76 rfl ?_
  refine V_callIN C (c_Who_init hl (hs_eq _ _ _)) wc_Who_init wn_Yf_init_77 w_Yf_init_77 np_Who_init rfl (by decide) rfl (Nat.le_of_ble_eq_true rfl) d_Yf_init_77 (fun w n1 h5 hp => ?_) (fun Cx n1 h1 hp => hp.elim)
  obtain ⟨rfl, rfl, rfl⟩ := hp
  refine V_putF (ty := (.object "YearFractions$Whole")) C 3 5 (by rw [hs_ne _ _ (by omega), hs_ne _ _ (by omega), hs_ne _ _ (by omega), hs_eq]) rfl in_Yf t_Yf tok_Yf nm_Yf (by decide) w_Yf_init_80 rfl rfl rfl rfl (by decide +kernel) rfl rfl (Nat.le_of_ble_eq_true rfl) d_Yf_init_80 ?_
  refine V_aload_n C d_Yf_init_83 rfl rfl ?_
  refine V_new C 2 (fs := [.null]) rfl in_Who t_Who tok_Who w_Yf_init_84 (fun j hj => by match j, hj with | 0, _ => rfl) (by decide) (by decide) d_Yf_init_84 ?_
  refine V_dup C d_Yf_init_87 rfl ?_
  refine V_callIN C (c_Who_init hl (hs_eq _ _ _)) wc_Who_init wn_Yf_init_88 w_Yf_init_88 np_Who_init rfl (by decide) rfl (Nat.le_of_ble_eq_true rfl) d_Yf_init_88 (fun w n1 h5 hp => ?_) (fun Cx n1 h1 hp => hp.elim)
  obtain ⟨rfl, rfl, rfl⟩ := hp
  refine V_putF (ty := (.object "YearFractions$Whole")) C 3 6 (by rw [hs_ne _ _ (by omega), hs_ne _ _ (by omega), hs_ne _ _ (by omega), hs_eq]) rfl in_Yf t_Yf tok_Yf nm_Yf (by decide) w_Yf_init_91 rfl rfl rfl rfl (by decide +kernel) rfl rfl (Nat.le_of_ble_eq_true rfl) d_Yf_init_91 ?_
  refine V_return C d_Yf_init_94 (by decide) (by decide) ⟨rfl, rfl, XS.mk 0 0 (fun _ => 0) (fun _ => 0) (fun _ _ => 0) 0 (fun _ => 0) (fun _ => 0) (fun _ => 0) (fun _ => 0) (fun _ => 0) (fun _ => 0) (fun _ => 0), ⟨?_, ?_, ?_, ?_, ?_, ?_, ?_, ?_, ?_, ?_, ?_, ?_, ?_, fun i hi => ?_, fun i hi => ?_⟩, rfl, rfl, rfl, fun i hi => absurd hi (Nat.not_lt_zero _), fun i hi => absurd hi (Nat.not_lt_zero _), fun i hi => absurd hi (Nat.not_lt_zero _), fun i hi t ht => ⟨Int.le_refl _, by show (0 : Int) < _; omega⟩, fun i hi => absurd hi (Nat.not_lt_zero _), fun i hi => absurd hi (Nat.not_lt_zero _)⟩
  · rw [hs_eq]; rfl
  · rw [hs_ne _ _ (by omega), hs_ne _ _ (by omega), hs_ne _ _ (by omega), hs_ne _ _ (by omega), hs_ne _ _ (by omega), hs_ne _ _ (by omega), hs_ne _ _ (by omega), hs_ne _ _ (by omega), hs_ne _ _ (by omega), hs_ne _ _ (by omega), hs_ne _ _ (by omega), hs_ne _ _ (by omega), hs_ne _ _ (by omega), s6 1 (by omega) (by omega), hs_ne _ _ (by omega), b0 1 (by omega)]
    exact a1
  · rw [hs_ne _ _ (by omega), hs_ne _ _ (by omega), hs_ne _ _ (by omega), hs_ne _ _ (by omega), hs_ne _ _ (by omega), hs_ne _ _ (by omega), hs_ne _ _ (by omega), hs_ne _ _ (by omega), hs_ne _ _ (by omega), hs_ne _ _ (by omega), hs_ne _ _ (by omega), hs_ne _ _ (by omega), hs_ne _ _ (by omega)]; exact s1
  · rw [hs_ne _ _ (by omega), hs_ne _ _ (by omega), hs_ne _ _ (by omega), hs_ne _ _ (by omega), hs_ne _ _ (by omega), hs_ne _ _ (by omega), hs_ne _ _ (by omega), hs_ne _ _ (by omega), hs_ne _ _ (by omega), hs_ne _ _ (by omega), hs_ne _ _ (by omega), hs_ne _ _ (by omega), hs_ne _ _ (by omega)]; exact s2
  · rw [hs_ne _ _ (by omega), hs_ne _ _ (by omega), hs_ne _ _ (by omega), hs_ne _ _ (by omega), hs_ne _ _ (by omega), hs_ne _ _ (by omega), hs_ne _ _ (by omega), hs_ne _ _ (by omega), hs_ne _ _ (by omega), hs_ne _ _ (by omega), hs_ne _ _ (by omega), hs_ne _ _ (by omega), hs_ne _ _ (by omega)]; exact s3
  · rw [hs_ne _ _ (by omega), hs_ne _ _ (by omega), hs_ne _ _ (by omega), hs_ne _ _ (by omega), hs_ne _ _ (by omega), hs_ne _ _ (by omega), hs_ne _ _ (by omega), hs_ne _ _ (by omega), hs_ne _ _ (by omega), hs_ne _ _ (by omega), hs_ne _ _ (by omega), hs_ne _ _ (by omega), hs_ne _ _ (by omega)]; exact s4
  · rw [hs_ne _ _ (by omega), hs_ne _ _ (by omega), hs_ne _ _ (by omega), hs_ne _ _ (by omega), hs_ne _ _ (by omega), hs_ne _ _ (by omega), hs_ne _ _ (by omega), hs_ne _ _ (by omega), hs_ne _ _ (by omega), hs_ne _ _ (by omega), hs_ne _ _ (by omega), hs_ne _ _ (by omega), hs_ne _ _ (by omega)]; exact s5
  · rw [hs_ne _ _ (by omega), hs_ne _ _ (by omega), hs_ne _ _ (by omega), hs_ne _ _ (by omega), hs_ne _ _ (by omega), hs_ne _ _ (by omega), hs_ne _ _ (by omega), hs_ne _ _ (by omega), hs_ne _ _ (by omega), hs_eq]
  · rw [hs_ne _ _ (by omega), hs_ne _ _ (by omega), hs_ne _ _ (by omega), hs_ne _ _ (by omega), hs_ne _ _ (by omega), hs_ne _ _ (by omega), hs_ne _ _ (by omega), hs_ne _ _ (by omega), hs_ne _ _ (by omega), hs_ne _ _ (by omega), hs_eq]; rfl
  · rw [hs_ne _ _ (by omega), hs_ne _ _ (by omega), hs_ne _ _ (by omega), hs_ne _ _ (by omega), hs_ne _ _ (by omega), hs_eq]
  · rw [hs_ne _ _ (by omega), hs_ne _ _ (by omega), hs_ne _ _ (by omega), hs_ne _ _ (by omega), hs_ne _ _ (by omega), hs_ne _ _ (by omega), hs_eq]; rfl
  · rw [hs_ne _ _ (by omega), hs_eq]
  · rw [hs_ne _ _ (by omega), hs_ne _ _ (by omega), hs_eq]; rfl
  · rw [hs_ne _ _ (by omega), hs_ne _ _ (by omega), hs_ne _ _ (by omega), hs_ne _ _ (by omega), hs_ne _ _ (by omega), hs_ne _ _ (by omega), hs_ne _ _ (by omega), hs_ne _ _ (by omega), hs_ne _ _ (by omega), hs_ne _ _ (by omega), hs_ne _ _ (by omega), hs_ne _ _ (by omega), hs_ne _ _ (by omega), s6 _ (by omega) (by omega), hs_ne _ _ (by omega), b0 _ (by omega)]
    exact (a2 i hi).1
  · rw [hs_ne _ _ (by omega), hs_ne _ _ (by omega), hs_ne _ _ (by omega), hs_ne _ _ (by omega), hs_ne _ _ (by omega), hs_ne _ _ (by omega), hs_ne _ _ (by omega), hs_ne _ _ (by omega), hs_ne _ _ (by omega), hs_ne _ _ (by omega), hs_ne _ _ (by omega), hs_ne _ _ (by omega), hs_ne _ _ (by omega), s6 _ (by omega) (by omega), hs_ne _ _ (by omega), b0 _ (by omega)]
    exact (a2 i hi).2
end YfI
