section ModL
variable {p : Program} {l : Launch} {e : Env} {R : Room} {s : State} {m : MethodId} {args : Array Value} {below : List Frame} {meth : Method} {c : Code} {d : yD} {b : Nat} {Q : State → Prop} {cells slots n : Nat} {h : yH}
variable {y0 : YS} {v : Vw}
set_option maxHeartbeats 1000000 in
theorem Mod_about_in (C : yC p l s m args meth c y_Mod_about b_Mod_about 7 (some .int) [] d b) (A : AtM d b y0 h) (dd : dgt y0.D 13824) {r w : Int} {i t : Nat} {z : Int} (hr : r = i) (ha : 36 * (48 * i + t) + 36 ≤ 13824)
    (kk : ∀ q : Int, (q = 0 ∨ q = 1) → (q = 0 ↔ ∀ k, k < 36 → y0.D (36 * (48 * i + t) + k) = 0) → V p l e R s m args below meth c 7 d b Q cells slots n h 90 [(0, .ref (b + 29)), (1, vi r), (2, vi w), (3, vi z), (4, vi t), (5, vi q)] []) :
    ∀ (j k0 : Nat) (q : Int), k0 + j = 36 → (q = 0 ∨ q = 1) → (q = 0 ↔ ∀ k, k < k0 → y0.D (36 * (48 * i + t) + k) = 0) → V p l e R s m args below meth c 7 d b Q cells slots n h 44 [(0, .ref (b + 29)), (1, vi r), (2, vi w), (3, vi z), (4, vi t), (5, vi q), (6, vi k0)] [] := by
  intro j
  induction j with
  | zero =>
    intro k0 q hj hq hq2
    have e0 : k0 = 36 := by omega
    subst e0
    refine V_iload C d_Mod_about_44 rfl ?_
    refine V_bipush (z := 36) C d_Mod_about_46 rfl ?_
    refine V_icmp_ge (tgt := 90) C d_Mod_about_48 (by decide) (by unfold inI; omega) (by unfold inI; omega) (fun q48 => ?_) (fun q48 => ?_)
    · exact V_loc2 (kk q hq hq2) ⟨rfl, rfl, rfl, rfl, rfl, rfl, trivial⟩
    · exact absurd q48 (by omega)
  | succ j ih =>
    intro k0 q hj hq hq2
    have f1 := dd (36 * (48 * i + t) + k0) (by omega)
    have tail : ∀ q' : Int, (q' = 0 ∨ q' = 1) → (q' = 0 ↔ ∀ k, k < k0 + 1 → y0.D (36 * (48 * i + t) + k) = 0) → V p l e R s m args below meth c 7 d b Q cells slots n h 82 [(0, .ref (b + 29)), (1, vi r), (2, vi w), (3, vi z), (4, vi t), (5, vi q), (6, vi k0)] [vi q'] := fun q' c1 c2 => by
      refine V_istore C d_Mod_about_82 (by decide) rfl ?_
      refine V_iinc C d_Mod_about_84 rfl rfl (by decide) rfl ?_
      refine V_goto (tgt := 44) C d_Mod_about_87 (by decide) ?_
      exact V_loc2 (ih (k0 + 1) q' (by omega) c1 c2) ⟨rfl, rfl, rfl, rfl, rfl, rfl, rfl, trivial⟩
    refine V_iload C d_Mod_about_44 rfl ?_
    refine V_bipush (z := 36) C d_Mod_about_46 rfl ?_
    refine V_icmp_ge (tgt := 90) C d_Mod_about_48 (by decide) (by unfold inI; omega) (by unfold inI; omega) (fun q48 => ?_) (fun q48 => ?_)
    · exact absurd q48 (by omega)
    · refine V_iload C d_Mod_about_51 rfl ?_
      refine V_if_ne (tgt := 77) C d_Mod_about_53 (by decide) (by unfold inI; omega) (fun q53 => ?_) (fun q53 => ?_)
      · refine V_iconst C d_Mod_about_77 rfl ?_
        refine V_goto (tgt := 82) C d_Mod_about_78 (by decide) ?_
        exact tail 1 (Or.inr rfl) ⟨fun w => absurd w (by omega), fun w => absurd (hq2.mpr (fun k hk => w k (by omega))) q53⟩
      · refine V_aload_n C d_Mod_about_56 rfl rfl ?_
        refine V_get C 4 4 A.o rfl in_Mod (by decide) w_Mod_about_57 rfl rfl d_Mod_about_57 ?_
        refine V_bipush (z := 36) C d_Mod_about_60 rfl ?_
        refine V_bipush (z := 48) C d_Mod_about_62 rfl ?_
        refine V_iload_n C d_Mod_about_64 rfl rfl ?_
        refine V_imul C d_Mod_about_65 ?_
        refine V_iload C d_Mod_about_66 rfl ?_
        refine V_iadd C d_Mod_about_68 ?_
        refine V_imul C d_Mod_about_69 ?_
        refine V_iload C d_Mod_about_70 rfl ?_
        refine V_iadd C d_Mod_about_72 ?_
        refine V_iaload C A.g (by omega) (by omega) (by decide) d_Mod_about_73 ?_
        rw [show (36 * (48 * r + (t : Int)) + (k0 : Int)).toNat = 36 * (48 * i + t) + k0 by omega]
        refine V_if_eq (tgt := 81) C d_Mod_about_74 (by decide) (by unfold inI; omega) (fun q74 => ?_) (fun q74 => ?_)
        · refine V_iconst C d_Mod_about_81 rfl ?_
          refine tail 0 (Or.inl rfl) ⟨fun _ k hk => ?_, fun _ => rfl⟩
          by_cases e1 : k = k0
          · rw [e1]; exact q74
          · exact hq2.mp q53 k (by omega)
        · refine V_iconst C d_Mod_about_77 rfl ?_
          refine V_goto (tgt := 82) C d_Mod_about_78 (by decide) ?_
          exact tail 1 (Or.inr rfl) ⟨fun w => absurd w (by omega), fun w => absurd (w k0 (by omega)) q74⟩
set_option maxHeartbeats 1000000 in
theorem Mod_about_loop (C : yC p l s m args meth c y_Mod_about b_Mod_about 7 (some .int) [] d b) (hv : OkV v) (A : AtM d b y0 h) (O : OkM y0 v) {r w : Int} {i mm : Nat} (hr : r = i) (hi : i < v.rc) (hm : v.M i = mm)
    (kk : V p l e R s m args below meth c 7 d b Q cells slots n h 109 [(0, .ref (b + 29)), (1, vi r), (2, vi w), (3, vi (nzW (v.W i) mm : Nat))] []) :
    ∀ (j t : Nat), t + j = mm → V p l e R s m args below meth c 7 d b Q cells slots n h 27 [(0, .ref (b + 29)), (1, vi r), (2, vi w), (3, vi (nzW (v.W i) t : Nat)), (4, vi t)] [] := by
  have hrc := hv.rc
  obtain ⟨f1, f2, f3, f4⟩ := hv.ok i hi
  have e2 := O.fm i hi
  have hri : r.toNat = i := by omega
  intro j
  induction j with
  | zero =>
    intro t hj
    have e0 : t = mm := by omega
    subst e0
    refine V_iload C d_Mod_about_27 rfl ?_
    refine V_aload_n C d_Mod_about_29 rfl rfl ?_
    refine V_get C 4 3 A.o rfl in_Mod (by decide) w_Mod_about_30 rfl rfl d_Mod_about_30 ?_
    refine V_iload_n C d_Mod_about_33 rfl rfl ?_
    refine V_iaload C A.z (by omega) (by omega) (by decide) d_Mod_about_34 ?_
    rw [hri, e2]
    refine V_icmp_ge (tgt := 109) C d_Mod_about_35 (by decide) (by unfold inI; omega) (by unfold inI; omega) (fun q35 => ?_) (fun q35 => ?_)
    · exact V_loc2 kk ⟨rfl, rfl, rfl, rfl, trivial⟩
    · exact absurd q35 (by omega)
  | succ j ih =>
    intro t hj
    have nz := nzW_le (v.W i) t
    have en : nzW (v.W i) (t + 1) = if v.W i t = 0 then nzW (v.W i) t else nzW (v.W i) t + 1 := rfl
    have wv := O.ww i hi t (by omega)
    refine V_iload C d_Mod_about_27 rfl ?_
    refine V_aload_n C d_Mod_about_29 rfl rfl ?_
    refine V_get C 4 3 A.o rfl in_Mod (by decide) w_Mod_about_30 rfl rfl d_Mod_about_30 ?_
    refine V_iload_n C d_Mod_about_33 rfl rfl ?_
    refine V_iaload C A.z (by omega) (by omega) (by decide) d_Mod_about_34 ?_
    rw [hri, e2]
    refine V_icmp_ge (tgt := 109) C d_Mod_about_35 (by decide) (by unfold inI; omega) (by unfold inI; omega) (fun q35 => ?_) (fun q35 => ?_)
    · exact absurd q35 (by omega)
    · refine V_iconst C d_Mod_about_38 rfl ?_
      refine V_istore C d_Mod_about_39 (by decide) rfl ?_
      refine V_iconst C d_Mod_about_41 rfl ?_
      refine V_istore C d_Mod_about_42 (by decide) rfl ?_
      refine V_loc2 (Mod_about_in (y0 := y0) C A O.dg hr (by omega) (fun q c1 c2 => ?_) 36 0 0 (by omega) (Or.inl rfl) ⟨fun _ k hk => absurd hk (by omega), fun _ => rfl⟩) ⟨rfl, rfl, rfl, rfl, rfl, rfl, rfl, trivial⟩
      have hw : q = 0 ↔ v.W i t = 0 := by
        constructor
        · intro q0
          rw [← wv]; exact wl_zero (c2.mp q0)
        · intro w0
          refine c2.mpr (wl_inj (O.wD (by omega) (by omega)) (g := fun _ => 0) (fun j hj => ⟨Int.le_refl _, by show (0 : Int) < 10; omega⟩) ?_)
          rw [wv, w0, wl_zero (f := fun _ => (0 : Int)) (fun _ _ => rfl)]
      refine V_iload C d_Mod_about_90 rfl ?_
      refine V_if_eq (tgt := 101) C d_Mod_about_92 (by decide) (by unfold inI; omega) (fun q92 => ?_) (fun q92 => ?_)
      · rw [if_pos (hw.mp q92)] at en
        refine V_iload_n C d_Mod_about_101 rfl rfl ?_
        refine V_istore_n C d_Mod_about_102 rfl (by decide) rfl ?_
        refine V_iinc C d_Mod_about_103 rfl rfl (by decide) rfl ?_
        refine V_goto (tgt := 27) C d_Mod_about_106 (by decide) ?_
        exact V_loc2 (ih (t + 1) (by omega)) ⟨rfl, rfl, rfl, by rw [en]; rfl, rfl, trivial⟩
      · rw [if_neg (fun w0 => q92 (hw.mpr w0))] at en
        refine V_iload_n C d_Mod_about_95 rfl rfl ?_
        refine V_iconst C d_Mod_about_96 rfl ?_
        refine V_iadd C d_Mod_about_97 ?_
        refine V_goto (tgt := 102) C d_Mod_about_98 (by decide) ?_
        refine V_istore_n C d_Mod_about_102 rfl (by decide) rfl ?_
        refine V_iinc C d_Mod_about_103 rfl rfl (by decide) rfl ?_
        refine V_goto (tgt := 27) C d_Mod_about_106 (by decide) ?_
        exact V_loc2 (ih (t + 1) (by omega)) ⟨rfl, rfl, rfl, by rw [en]; rfl, rfl, trivial⟩
set_option maxHeartbeats 1000000 in
theorem c_Mod_about (hl : yL l) (hv : OkV v) (A : AtM d b y0 h) (O : OkM y0 v) {r w : Int} (hr : inI r) (hw : inI w) : yM l y_Mod_about b_Mod_about 7 (some .int) 1 40 0 0 d b n h [.ref (b + 29), vi r, vi w] (fun q n' h' => n' = n ∧ ∃ a, q = some (vi a) ∧ mR d b h v (kAb v r w) v a (aAb v r w) h') noT := by
  refine yM_of hl (by decide +kernel) (Nat.le_of_ble_eq_true rfl) (fun p e s m args below meth c C => ?_)
  have hrc := hv.rc
  refine V_aload_n C d_Mod_about_0 rfl rfl ?_
  refine V_aload_n C d_Mod_about_1 rfl rfl ?_
  refine V_iload_n C d_Mod_about_2 rfl rfl ?_
  refine V_callV C (c_Mod_isRow hl hv A O hr) wc_Mod_isRow w_Mod_about_3 np_Mod_isRow (by decide) A.o rfl rfl (Nat.le_of_ble_eq_true rfl) d_Mod_about_3 (fun v n1 h1 hp => ?_) (fun Cx n1 h1 hp => hp.elim)
  obtain ⟨rfl, rfl, rfl⟩ := hp
  refine V_iload_n C d_Mod_about_6 rfl rfl ?_
  refine V_iconst C d_Mod_about_7 rfl ?_
  refine V_iconst C d_Mod_about_8 rfl ?_
  refine V_callS C (c_Mod_within hl hw (lo := 0) (hi := 2) (by unfold inI; omega) (by unfold inI; omega)) wc_Mod_within w_Mod_about_9 np_Mod_within (by decide) rfl (Nat.le_of_ble_eq_true rfl) d_Mod_about_9 (fun v n1 h1 hp => ?_) (fun Cx n1 h1 hp => hp.elim)
  obtain ⟨rfl, rfl, rfl⟩ := hp
  refine V_iconst C d_Mod_about_12 rfl ?_
  refine V_iconst C d_Mod_about_13 rfl ?_
  refine V_callV C (c_Mod_goes hl A (bi_z (p := isR v r) rfl) (bi_z (p := 0 ≤ w ∧ w ≤ 2) rfl) (z3 := 1) (z4 := 1) (by unfold inI; omega) (by unfold inI; omega)) wc_Mod_goes w_Mod_about_14 np_Mod_goes (by decide) A.o rfl rfl (Nat.le_of_ble_eq_true rfl) d_Mod_about_14 (fun w0 n2 h2 hp => ?_) (fun Cx n1 h1 hp => hp.elim)
  obtain ⟨rfl, rfl, A1, F1⟩ := hp
  rw [kG_b2] at A1 ⊢
  by_cases q1 : isR v r
  · rw [if_neg (c := ¬ isR v r) (fun w => w q1)] at A1 ⊢
    by_cases q2 : 0 ≤ w ∧ w ≤ 2
    · rw [if_neg (c := ¬ (0 ≤ w ∧ w ≤ 2)) (fun w => w q2)] at A1 ⊢
      have k0 : kAb v r w = 0 := by unfold kAb; rw [if_neg (c := ¬ isR v r) (fun w => w q1), if_pos q2]
      have hi : r.toNat < v.rc := by have := q1.1; have := q1.2; omega
      have r0 := q1.1
      have r8 := q1.2
      have f1 : (y0.s_th ((0 : Nat) : Int)).fs r.toNat = v.F r.toNat := O.ff _ hi
      have m1 : (y0.s_th ((0 : Nat) : Int)).sz r.toNat = v.M r.toNat := O.fm _ hi
      have O1 := O.sTh ((0 : Nat) : Int)
      have t1 : (y0.s_th ((0 : Nat) : Int)).th = 0 := rfl
      generalize y0.s_th ((0 : Nat) : Int) = y1 at A1 f1 m1 O1 t1
      refine V_if_ne (tgt := 22) C d_Mod_about_17 (by decide) (bi_z rfl) (fun q17 => ?_) (fun q17 => ?_)
      · refine V_iconst C d_Mod_about_22 rfl ?_
        refine V_istore_n C d_Mod_about_23 rfl (by decide) rfl ?_
        refine V_iconst C d_Mod_about_24 rfl ?_
        refine V_istore C d_Mod_about_25 (by decide) rfl ?_
        refine V_loc2 (Mod_about_loop (w := w) C hv A1 O1 (r := r) (i := r.toNat) (by omega) hi rfl ?_ (v.M r.toNat) 0 (by omega)) ⟨rfl, rfl, rfl, rfl, rfl, trivial⟩
        refine V_iload_n C d_Mod_about_109 rfl rfl ?_
        refine V_if_ne (tgt := 122) C d_Mod_about_110 (by decide) hw (fun q110 => ?_) (fun q110 => ?_)
        · refine V_iload_n C d_Mod_about_122 rfl rfl ?_
          refine V_iconst C d_Mod_about_123 rfl ?_
          refine V_icmp_ne (tgt := 145) C d_Mod_about_124 (by decide) hw (by unfold inI; omega) (fun q124 => ?_) (fun q124 => ?_)
          · refine V_iload_n C d_Mod_about_145 rfl rfl ?_
            exact V_ireturn C d_Mod_about_146 (Nat.le_refl _) (Nat.le_refl _) ⟨rfl, _, rfl, F1, fun _ => ⟨⟨_, A1, O1, t1⟩, by unfold aAb; rw [if_neg q110, if_neg q124]⟩, fun w => absurd k0 w⟩
          · refine V_aload_n C d_Mod_about_127 rfl rfl ?_
            refine V_get C 4 2 A1.o rfl in_Mod (by decide) w_Mod_about_128 rfl rfl d_Mod_about_128 ?_
            refine V_iload_n C d_Mod_about_131 rfl rfl ?_
            refine V_iaload C A1.f (by omega) (by omega) (by decide) d_Mod_about_132 ?_
            refine V_aload_n C d_Mod_about_133 rfl rfl ?_
            refine V_get C 4 3 A1.o rfl in_Mod (by decide) w_Mod_about_134 rfl rfl d_Mod_about_134 ?_
            refine V_iload_n C d_Mod_about_137 rfl rfl ?_
            refine V_iaload C A1.z (by omega) (by omega) (by decide) d_Mod_about_138 ?_
            rw [f1, m1]
            refine V_iadd C d_Mod_about_139 ?_
            refine V_iconst C d_Mod_about_140 rfl ?_
            refine V_isub C d_Mod_about_141 ?_
            refine V_goto (tgt := 146) C d_Mod_about_142 (by decide) ?_
            exact V_ireturn C d_Mod_about_146 (Nat.le_refl _) (Nat.le_refl _) ⟨rfl, _, rfl, F1, fun _ => ⟨⟨_, A1, O1, t1⟩, by unfold aAb lastR; rw [if_neg q110, if_pos q124]⟩, fun w => absurd k0 w⟩
        · refine V_aload_n C d_Mod_about_113 rfl rfl ?_
          refine V_get C 4 2 A1.o rfl in_Mod (by decide) w_Mod_about_114 rfl rfl d_Mod_about_114 ?_
          refine V_iload_n C d_Mod_about_117 rfl rfl ?_
          refine V_iaload C A1.f (by omega) (by omega) (by decide) d_Mod_about_118 ?_
          rw [f1]
          refine V_goto (tgt := 146) C d_Mod_about_119 (by decide) ?_
          exact V_ireturn C d_Mod_about_146 (Nat.le_refl _) (Nat.le_refl _) ⟨rfl, _, rfl, F1, fun _ => ⟨⟨_, A1, O1, t1⟩, by unfold aAb; rw [if_pos q110]⟩, fun w => absurd k0 w⟩
      · exact absurd q17 (by decide)
    · rw [if_pos (c := ¬ (0 ≤ w ∧ w ≤ 2)) q2] at A1 ⊢
      have k0 : kAb v r w = 2 := by unfold kAb; rw [if_neg (c := ¬ isR v r) (fun w => w q1), if_neg q2]
      refine V_if_ne (tgt := 22) C d_Mod_about_17 (by decide) (bi_z rfl) (fun q17 => ?_) (fun q17 => ?_)
      · exact absurd rfl q17
      · refine V_iconst C d_Mod_about_20 rfl ?_
        exact V_ireturn C d_Mod_about_21 (Nat.le_refl _) (Nat.le_refl _) ⟨rfl, _, rfl, F1, fun w => absurd w (by omega), fun _ => by rw [k0]; exact ⟨_, A1, O.sTh _, rfl⟩⟩
  · rw [if_pos (c := ¬ isR v r) q1] at A1 ⊢
    have k0 : kAb v r w = 1 := by unfold kAb; rw [if_pos q1]
    refine V_if_ne (tgt := 22) C d_Mod_about_17 (by decide) (bi_z rfl) (fun q17 => ?_) (fun q17 => ?_)
    · exact absurd rfl q17
    · refine V_iconst C d_Mod_about_20 rfl ?_
      exact V_ireturn C d_Mod_about_21 (Nat.le_refl _) (Nat.le_refl _) ⟨rfl, _, rfl, F1, fun w => absurd w (by omega), fun _ => by rw [k0]; exact ⟨_, A1, O.sTh _, rfl⟩⟩
end ModL
/-- there is a ranking of the places -/
theorem rk_ex (W : Nat → Int) : ∀ m, ∃ c, rkOk W c m
  | 0 => ⟨id, fun i hi => absurd hi (by omega), fun i j h1 h2 => absurd h2 (by omega), fun x hx => absurd hx (by omega)⟩
  | p + 1 => by
    obtain ⟨c, hc⟩ := rk_ex W p
    have : ∀ k, k ≤ p → ∃ a, a ≤ p ∧ (∀ i, a ≤ i → i < p → W (c i) < W p) ∧ (p - k ≤ a) ∧ (p - k < a → ¬ W (c (a - 1)) < W p) := by
      intro k
      induction k with
      | zero => intro _; exact ⟨p, Nat.le_refl _, fun i h1 h2 => absurd h1 (by omega), by omega, fun h => absurd h (by omega)⟩
      | succ k ih =>
        intro hk
        obtain ⟨a, h1, h2, h3, h4⟩ := ih (by omega)
        by_cases q : p - k < a
        · exact ⟨a, h1, h2, by omega, fun _ => h4 q⟩
        · have ea : a = p - k := by omega
          by_cases q2 : W (c (p - (k + 1))) < W p
          · refine ⟨p - (k + 1), by omega, fun i h5 h6 => ?_, by omega, fun h => absurd h (by omega)⟩
            by_cases e : i = p - (k + 1)
            · rw [e]; exact q2
            · exact h2 i (by omega) h6
          · exact ⟨a, h1, h2, by omega, fun _ => by rw [show a - 1 = p - (k + 1) by omega]; exact q2⟩
    obtain ⟨a, h1, h2, h3, h4⟩ := this p (Nat.le_refl _)
    exact ⟨_, ins_ok hc h1 h2 (fun h0 => h4 (by omega))⟩
