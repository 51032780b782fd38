/-- one weight is another -/
def vSet (v : Vw) (i q : Nat) (w : Int) : Vw := v.s_W (fu v.W i (fu (v.W i) q w))
theorem vSet_new (v : Vw) (f : Int) (mm : Nat) (W : Nat → Int) (q : Nat) (w : Int) : vSet (vNew v f mm W) v.rc q w = vNew v f mm (fu W q w) := by
  show Vw.mk (v.rc + 1) (fu v.F v.rc f) (fu v.M v.rc mm) (fu (fu v.W v.rc W) v.rc (fu (fu v.W v.rc W v.rc) q w)) v.rs v.sn v.sa v.sb = Vw.mk (v.rc + 1) (fu v.F v.rc f) (fu v.M v.rc mm) (fu v.W v.rc (fu W q w)) v.rs v.sn v.sa v.sb
  rw [fu_fu, fu_eq]
theorem OkM.put {y0 : YS} {v : Vw} (hv : OkV v) (O : OkM y0 v) {i q : Nat} (hi : i < v.rc) (hq : q < v.M i) {D g : Nat → Int} (hg : dgt g 36) (h1 : ∀ k, k < 36 → D (36 * (48 * i + q) + k) = g k) (h2 : ∀ t, t < 36 * (48 * i + q) ∨ 36 * (48 * i + q) + 36 ≤ t → D t = y0.D t) : OkM (y0.s_D D) (vSet v i q (wl g 36)) := by
  refine ⟨O.rc, O.rs, O.sp, O.ff, O.fm, fun j hj t ht => ?_, fun t ht => ?_, O.sa, O.sb⟩
  · show wl (fun k => D (36 * (48 * j + t) + k)) 36 = fu v.W i (fu (v.W i) q (wl g 36)) j t
    have hj' : j < v.rc := hj
    have ht' : t < v.M j := ht
    obtain ⟨-, -, m1, -⟩ := hv.ok i hi
    obtain ⟨-, -, m2, -⟩ := hv.ok j hj'
    by_cases e1 : j = i
    · subst e1
      rw [fu_eq]
      by_cases e2 : t = q
      · subst e2
        rw [fu_eq]
        exact wl_congr h1
      · rw [fu_ne _ _ e2, ← O.ww j hj t ht]
        exact wl_congr (fun k hk => h2 _ (by omega))
    · rw [fu_ne _ _ e1, ← O.ww j hj t ht]
      exact wl_congr (fun k hk => h2 _ (by omega))
  · show 0 ≤ D t ∧ D t < 10
    by_cases e1 : t < 36 * (48 * i + q) ∨ 36 * (48 * i + q) + 36 ≤ t
    · rw [h2 t e1]; exact O.dg t ht
    · have := h1 (t - 36 * (48 * i + q)) (by omega)
      rw [show 36 * (48 * i + q) + (t - 36 * (48 * i + q)) = t by omega] at this
      rw [this]
      exact hg _ (by omega)
/-- a place of a row among the digits -/
theorem OkM.pl {y0 : YS} {v : Vw} (hv : OkV v) {r z : Int} (hy : hasY v r z) : r.toNat < v.rc ∧ (z - v.F r.toNat).toNat < v.M r.toNat ∧ (z - v.F r.toNat).toNat < 48 ∧ r.toNat < 8 ∧ 36 * (48 * r + z - v.F r.toNat) = ((36 * (48 * r.toNat + (z - v.F r.toNat).toNat) : Nat) : Int) := by
  have hi : r.toNat < v.rc := by have := hy.1.1; have := hy.1.2; omega
  obtain ⟨-, -, m1, -⟩ := hv.ok _ hi
  have := hv.rc
  have := hy.2.1; have := hy.2.2; have := hy.1.1
  omega
theorem OkM.wD {y0 : YS} {v : Vw} (O : OkM y0 v) {i q : Nat} (hi : i < 8) (hq : q < 48) : dgt (fun k => y0.D (36 * (48 * i + q) + k)) 36 := fun k hk => O.dg _ (by omega)
section ModB
variable {p : Program} {l : Launch} {e : Env} {R : Room} {s : State} {m : MethodId} {args : Array Value} {below : List Frame} {meth : Method} {c : Code} {d : yD} {b : Nat} {Q : State → Prop} {cells slots n : Nat} {h : yH}
variable {y0 : YS} {v : Vw}
set_option maxHeartbeats 1000000 in
theorem Mod_blank_loop (C : yC p l s m args meth c y_Mod_blank b_Mod_blank 2 none [] d b)
    (kk : ∀ (G : Nat → Int) (h' : yH) (lv : List (Nat × Value)), (∀ t, t < 80 → G t = 0) → AtM d b (y0.s_wd G) h' → FrM h h' → V p l e R s m args below meth c 2 d b Q cells slots n h' 21 lv []) :
    ∀ (j i : Nat) (G : Nat → Int) (h' : yH), i + j = 80 → (∀ t, t < i → G t = 0) → AtM d b (y0.s_wd G) h' → FrM h h' → V p l e R s m args below meth c 2 d b Q cells slots n h' 2 [(0, .ref (b + 29)), (1, vi i)] [] := by
  intro j
  induction j with
  | zero =>
    intro i G h' hi hG A F
    refine V_iload_n C d_Mod_blank_2 rfl rfl ?_
    refine V_bipush (z := 80) C d_Mod_blank_3 rfl ?_
    refine V_icmp_ge (tgt := 21) C d_Mod_blank_5 (by decide) (by unfold inI; omega) (by unfold inI; omega) (fun q5 => ?_) (fun q5 => ?_)
    · exact kk G h' _ (fun t ht => hG t (by omega)) A F
    · exact absurd q5 (by omega)
  | succ j ih =>
    intro i G h' hi hG A F
    refine V_iload_n C d_Mod_blank_2 rfl rfl ?_
    refine V_bipush (z := 80) C d_Mod_blank_3 rfl ?_
    refine V_icmp_ge (tgt := 21) C d_Mod_blank_5 (by decide) (by unfold inI; omega) (by unfold inI; omega) (fun q5 => ?_) (fun q5 => ?_)
    · exact absurd q5 (by omega)
    · refine V_aload_n C d_Mod_blank_8 rfl rfl ?_
      refine V_get C 4 9 A.o rfl in_Mod (by decide) w_Mod_blank_9 rfl rfl d_Mod_blank_9 ?_
      refine V_iload_n C d_Mod_blank_12 rfl rfl ?_
      refine V_iconst C d_Mod_blank_13 rfl ?_
      refine V_iastore C A.w (by omega) (by omega) (by decide) d_Mod_blank_14 ?_
      refine V_iinc C d_Mod_blank_15 rfl rfl (by decide) rfl ?_
      refine V_goto (tgt := 2) C d_Mod_blank_18 (by decide) ?_
      rw [Int.toNat_natCast]
      refine V_loc2 (ih (i + 1) (fu G i 0) _ (by omega) (fun t ht => ?_) (A.setW _) (F.set (by omega) _)) ⟨rfl, rfl, trivial⟩
      by_cases e1 : t = i
      · rw [e1, fu_eq]
      · rw [fu_ne _ _ e1]; exact hG t (by omega)
set_option maxHeartbeats 1000000 in
theorem c_Mod_blank (hl : yL l) (A : AtM d b y0 h) : yM l y_Mod_blank b_Mod_blank 2 none 0 0 0 0 d b n h [.ref (b + 29)] (fun q n' h' => q = none ∧ n' = n ∧ FrM h h' ∧ ∃ G, (∀ t, t < 80 → G t = 0) ∧ AtM d b (y0.s_wd G) h') noT := by
  refine yM_of hl (by decide +kernel) (Nat.le_of_ble_eq_true rfl) (fun p e s m args below meth c C => ?_)
  refine V_iconst C d_Mod_blank_0 rfl ?_
  refine V_istore_n C d_Mod_blank_1 rfl (by decide) rfl ?_
  refine V_loc2 (Mod_blank_loop (y0 := y0) C (fun G h' lv k1 k2 k3 => ?_) 80 0 y0.wd h (by omega) (fun t ht => absurd ht (by omega)) A FrM.rfl) ⟨rfl, rfl, trivial⟩
  exact V_return C d_Mod_blank_21 (Nat.le_refl _) (Nat.le_refl _) ⟨rfl, rfl, k3, G, k1, k2⟩
set_option maxHeartbeats 1000000 in
theorem Mod_plus_loop (C : yC p l s m args meth c y_Mod_plus b_Mod_plus 6 none [] d b) (hl : yL l) {r z f : Int} {a : Nat} (h0 : 0 ≤ r) (h8 : r < 8) (hf : y0.fs r.toNat = f) (ha : 36 * (48 * r + z - f) = a) (ha2 : a + 36 ≤ 13824) (dw : dgt y0.wd 80) (dd : dgt y0.D 13824) (hR : 1 ≤ R.frames ∧ 30 ≤ R.locals ∧ cells ≤ R.cells ∧ slots ≤ R.slots) {g : Nat → Int} (hg : ∀ k, k < 80 → g k = if k < 36 then y0.D (a + k) else 0) (dg : dgt g 80)
    (kk : ∀ (G : Nat → Int) (h' : yH) (lv : List (Nat × Value)), (∀ t, t < 80 → G t = taD y0.wd g t) → AtM d b (y0.s_wd G) h' → FrM h h' → V p l e R s m args below meth c 6 d b Q cells slots n h' 83 lv []) :
    ∀ (j i : Nat) (G : Nat → Int) (h' : yH), i + j = 80 → (∀ t, t < i → G t = taD y0.wd g t) → (∀ t, i ≤ t → G t = y0.wd t) → AtM d b (y0.s_wd G) h' → FrM h h' → V p l e R s m args below meth c 6 d b Q cells slots n h' 15 [(0, .ref (b + 29)), (1, vi r), (2, vi z), (3, vi (taC y0.wd g i)), (4, vi i)] [] := by
  obtain ⟨R1, R2, R3, R4⟩ := hR
  intro j
  induction j with
  | zero =>
    intro i G h' hi hG hG2 A F
    refine V_iload C d_Mod_plus_15 rfl ?_
    refine V_bipush (z := 80) C d_Mod_plus_17 rfl ?_
    refine V_icmp_ge (tgt := 83) C d_Mod_plus_19 (by decide) (by unfold inI; omega) (by unfold inI; omega) (fun q19 => ?_) (fun q19 => ?_)
    · exact kk G h' _ (fun t ht => hG t (by omega)) A F
    · exact absurd q19 (by omega)
  | succ j ih =>
    intro i G h' hi hG hG2 A F
    have c1 := taC_in dw dg i (by omega)
    have w1 := dw i (by omega)
    have g1 := dg i (by omega)
    have gi := hg i (by omega)
    have aw : h' 35 = some (oI d 80 G) := A.w
    have ag : h' 32 = some (oI d 13824 y0.D) := A.g
    have tail : V p l e R s m args below meth c 6 d b Q cells slots n h' 56 [(0, .ref (b + 29)), (1, vi r), (2, vi z), (3, vi (taC y0.wd g i)), (4, vi i)] [vi (g i), vi (y0.wd i + taC y0.wd g i)] := by
      refine V_iadd C d_Mod_plus_56 ?_
      refine V_istore C d_Mod_plus_57 (by decide) rfl ?_
      have e1 : y0.wd i + taC y0.wd g i + g i = y0.wd i + g i + taC y0.wd g i := by omega
      rw [e1]
      refine V_aload_n C d_Mod_plus_59 rfl rfl ?_
      refine V_get C 4 9 A.o rfl in_Mod (by decide) w_Mod_plus_60 rfl rfl d_Mod_plus_60 ?_
      refine V_iload C d_Mod_plus_63 rfl ?_
      refine V_iload C d_Mod_plus_65 rfl ?_
      refine V_bipush (z := 10) C d_Mod_plus_67 rfl ?_
      refine V_iremP C d_Mod_plus_69 (by omega) (by omega) (by omega) (by omega) ?_
      refine V_iastore C aw (by omega) (by omega) (by decide) d_Mod_plus_70 ?_
      refine V_iload C d_Mod_plus_71 rfl ?_
      refine V_bipush (z := 10) C d_Mod_plus_73 rfl ?_
      refine V_idivP C d_Mod_plus_75 (by omega) (by omega) (by omega) (by omega) ?_
      refine V_istore_n C d_Mod_plus_76 rfl (by decide) rfl ?_
      refine V_iinc C d_Mod_plus_77 rfl rfl (by decide) rfl ?_
      refine V_goto (tgt := 15) C d_Mod_plus_80 (by decide) ?_
      rw [Int.toNat_natCast]
      refine V_loc2 (ih (i + 1) (fu G i ((y0.wd i + g i + taC y0.wd g i) % 10)) _ (by omega) (fun t ht => ?_) (fun t ht => ?_) (A.setW _) (F.set (by omega) _)) ⟨rfl, rfl, rfl, rfl, rfl, trivial⟩
      · by_cases e1 : t = i
        · rw [e1, fu_eq]; rfl
        · rw [fu_ne _ _ e1]; exact hG t (by omega)
      · rw [fu_ne _ _ (by omega)]; exact hG2 t (by omega)
    refine V_iload C d_Mod_plus_15 rfl ?_
    refine V_bipush (z := 80) C d_Mod_plus_17 rfl ?_
    refine V_icmp_ge (tgt := 83) C d_Mod_plus_19 (by decide) (by unfold inI; omega) (by unfold inI; omega) (fun q19 => ?_) (fun q19 => ?_)
    · exact absurd q19 (by omega)
    · refine V_aload_n C d_Mod_plus_22 rfl rfl ?_
      refine V_get C 4 9 A.o rfl in_Mod (by decide) w_Mod_plus_23 rfl rfl d_Mod_plus_23 ?_
      refine V_iload C d_Mod_plus_26 rfl ?_
      refine V_iaload C aw (by omega) (by omega) (by decide) d_Mod_plus_28 ?_
      rw [Int.toNat_natCast, hG2 i (Nat.le_refl _)]
      refine V_iload_n C d_Mod_plus_29 rfl rfl ?_
      refine V_iadd C d_Mod_plus_30 ?_
      refine V_iload C d_Mod_plus_31 rfl ?_
      refine V_bipush (z := 36) C d_Mod_plus_33 rfl ?_
      refine V_icmp_ge (tgt := 55) C d_Mod_plus_35 (by decide) (by unfold inI; omega) (by unfold inI; omega) (fun q35 => ?_) (fun q35 => ?_)
      · refine V_iconst C d_Mod_plus_55 rfl ?_
        rw [if_neg (by omega)] at gi
        rw [gi] at tail
        exact tail
      · refine V_aload_n C d_Mod_plus_38 rfl rfl ?_
        refine V_get C 4 4 A.o rfl in_Mod (by decide) w_Mod_plus_39 rfl rfl d_Mod_plus_39 ?_
        refine V_aload_n C d_Mod_plus_42 rfl rfl ?_
        refine V_iload_n C d_Mod_plus_43 rfl rfl ?_
        refine V_iload_n C d_Mod_plus_44 rfl rfl ?_
        refine V_callV C (c_Mod_at hl A h0 h8 hf) wc_Mod_at w_Mod_plus_45 np_Mod_at ⟨by omega, by omega, R3, R4⟩ A.o rfl rfl (Nat.le_of_ble_eq_true rfl) d_Mod_plus_45 (fun v n1 h1 hp => ?_) (fun Cx n1 h1 hp => hp.elim)
        obtain ⟨rfl, rfl, rfl⟩ := hp
        rw [ha]
        refine V_iload C d_Mod_plus_48 rfl ?_
        refine V_iadd C d_Mod_plus_50 ?_
        refine V_iaload C ag (by omega) (by omega) (by decide) d_Mod_plus_51 ?_
        rw [if_pos (by omega)] at gi
        rw [show ((a : Int) + (i : Int)).toNat = a + i by omega, ← gi]
        refine V_goto (tgt := 56) C d_Mod_plus_52 (by decide) ?_
        exact tail
set_option maxHeartbeats 1000000 in
theorem c_Mod_plus (hl : yL l) (hv : OkV v) (A : AtM d b y0 h) (O : OkM y0 v) {r z : Int} (hr : inI r) (hz : inI z) (dw : dgt y0.wd 80) (hs0 : wl y0.wd 80 + 10 ^ 36 ≤ 10 ^ 80) : yM l y_Mod_plus b_Mod_plus 6 none 2 60 0 0 d b n h [.ref (b + 29), vi r, vi z] (fun q n' h' => q = none ∧ n' = n ∧ FrM h h' ∧ ∃ G, dgt G 80 ∧ wl G 80 = wl y0.wd 80 + (if hasY v r z then v.W r.toNat (z - v.F r.toNat).toNat else 0) ∧ AtM d b (y0.s_wd G) h') noT := by
  refine yM_of hl (by decide +kernel) (Nat.le_of_ble_eq_true rfl) (fun p e s m args below meth c C => ?_)
  refine V_aload_n C d_Mod_plus_0 rfl rfl ?_
  refine V_iload_n C d_Mod_plus_1 rfl rfl ?_
  refine V_iload_n C d_Mod_plus_2 rfl rfl ?_
  refine V_callV C (c_Mod_has hl hv A O hr hz) wc_Mod_has w_Mod_plus_3 np_Mod_has (by decide) A.o rfl rfl (Nat.le_of_ble_eq_true rfl) d_Mod_plus_3 (fun v n1 h1 hp => ?_) (fun Cx n1 h1 hp => hp.elim)
  obtain ⟨rfl, rfl, rfl⟩ := hp
  have hb := bi_in (hasY v r z)
  refine V_if_ne (tgt := 10) C d_Mod_plus_6 (by decide) (by unfold inI; omega) (fun q6 => ?_) (fun q6 => ?_)
  · have hy : hasY v r z := by
      by_cases q : hasY v r z
      · exact q
      · exact absurd (bi_n q) q6
    obtain ⟨p1, p2, p3, p4, p5⟩ := OkM.pl (y0 := y0) hv hy
    have ww := hv.ww _ p1 _ p2
    have dg : dgt (fun k => if k < 36 then y0.D (36 * (48 * r.toNat + (z - v.F r.toNat).toNat) + k) else 0) 80 := fun k hk => by
      show 0 ≤ (if k < 36 then _ else (0 : Int)) ∧ (if k < 36 then _ else (0 : Int)) < 10
      by_cases e1 : k < 36
      · rw [if_pos e1]; exact O.dg _ (by omega)
      · rw [if_neg e1]; omega
    have gv : wl (fun k => if k < 36 then y0.D (36 * (48 * r.toNat + (z - v.F r.toNat).toNat) + k) else 0) 80 = v.W r.toNat (z - v.F r.toNat).toNat := by
      rw [show (80 : Nat) = 36 + 44 from rfl, wl_high (fun t h1 h2 => if_neg (by omega)), ← O.ww _ p1 _ p2]
      exact wl_congr (fun t ht => if_pos ht)
    refine V_iconst C d_Mod_plus_10 rfl ?_
    refine V_istore_n C d_Mod_plus_11 rfl (by decide) rfl ?_
    refine V_iconst C d_Mod_plus_12 rfl ?_
    refine V_istore C d_Mod_plus_13 (by decide) rfl ?_
    refine V_loc2 (Mod_plus_loop (y0 := y0) C hl hy.1.1 (by omega) (O.ff _ p1) p5 (by omega) dw O.dg (by decide) (g := fun k => if k < 36 then y0.D (36 * (48 * r.toNat + (z - v.F r.toNat).toNat) + k) else 0) (fun k hk => rfl) dg (fun G h' lv k1 k2 k3 => ?_) 80 0 y0.wd h1 (by omega) (fun t ht => absurd ht (by omega)) (fun t ht => rfl) A FrM.rfl) ⟨rfl, rfl, rfl, rfl, rfl, trivial⟩
    have sm : wl y0.wd 80 + wl (fun k => if k < 36 then y0.D (36 * (48 * r.toNat + (z - v.F r.toNat).toNat) + k) else 0) 80 < 10 ^ 80 := by rw [gv]; omega
    exact V_return C d_Mod_plus_83 (Nat.le_refl _) (Nat.le_refl _) ⟨rfl, rfl, k3, G, fun t ht => by rw [k1 t ht]; exact ta_dig _ _ 80 t ht, by rw [wl_congr k1, ta_all dw dg sm, gv, if_pos hy], k2⟩
  · exact V_return C d_Mod_plus_9 (Nat.le_refl _) (Nat.le_refl _) ⟨rfl, rfl, FrM.rfl, y0.wd, dw, by rw [if_neg (bi_0.mp q6), Int.add_zero], A⟩
end ModB
