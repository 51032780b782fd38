section ModC
variable {p : Program} {l : Launch} {e : Env} {R : Room} {s : State} {m : MethodId} {args : Array Value} {below : List Frame} {meth : Method} {c : Code} {d : yD} {b : Nat} {Q : State → Prop} {cells slots n : Nat} {h : yH}
variable {y0 : YS} {v : Vw}
set_option maxHeartbeats 1000000 in
theorem Mod_keep_loop (C : yC p l s m args meth c y_Mod_keep b_Mod_keep 5 (some .boolean) [] d b) (hl : yL l) {r z f : Int} {a : Nat} (h0 : 0 ≤ r) (h8 : r < 8) (hf : y0.fs r.toNat = f) (ha : 36 * (48 * r + z - f) = a) (ha2 : a + 36 ≤ 13824) (dw : dgt y0.wd 80) (hR : 1 ≤ R.frames ∧ 30 ≤ R.locals ∧ cells ≤ R.cells ∧ slots ≤ R.slots)
    (kk : ∀ (w : Int) (G : Nat → Int) (h' : yH), (w = 0 ∨ w = 1) → (w = 1 ↔ ∀ t, 36 ≤ t → t < 80 → y0.wd t = 0) → (∀ k, k < 36 → G (a + k) = y0.wd k) → (∀ t, t < a ∨ a + 36 ≤ t → G t = y0.D t) → AtM d b (y0.s_D G) h' → FrM h h' → V p l e R s m args below meth c 5 d b Q cells slots n h' 73 [(3, vi w)] []) :
    ∀ (j i : Nat) (w : Int) (G : Nat → Int) (h' : yH), i + j = 80 → (w = 0 ∨ w = 1) → (w = 1 ↔ ∀ t, 36 ≤ t → t < i → y0.wd t = 0) → (∀ k, k < 36 → k < i → G (a + k) = y0.wd k) → (∀ t, t < a ∨ a + 36 ≤ t → G t = y0.D t) → AtM d b (y0.s_D G) h' → FrM h h' → V p l e R s m args below meth c 5 d b Q cells slots n h' 5 [(0, .ref (b + 29)), (1, vi r), (2, vi z), (3, vi w), (4, vi i)] [] := by
  obtain ⟨R1, R2, R3, R4⟩ := hR
  intro j
  induction j with
  | zero =>
    intro i w G h' hi hw hw2 hG hG2 A F
    have e0 : i = 80 := by omega
    subst e0
    refine V_iload C d_Mod_keep_5 rfl ?_
    refine V_bipush (z := 80) C d_Mod_keep_7 rfl ?_
    refine V_icmp_ge (tgt := 73) C d_Mod_keep_9 (by decide) (by unfold inI; omega) (by unfold inI; omega) (fun q9 => ?_) (fun q9 => ?_)
    · exact V_loc2 (kk w G h' hw hw2 (fun k hk => hG k hk (by omega)) hG2 A F) ⟨rfl, trivial⟩
    · exact absurd q9 (by omega)
  | succ j ih =>
    intro i w G h' hi hw hw2 hG hG2 A F
    have aw : h' 35 = some (oI d 80 y0.wd) := A.w
    have ag : h' 32 = some (oI d 13824 G) := A.g
    have w1 := dw i (by omega)
    have tail : ∀ w' : Int, (w' = 0 ∨ w' = 1) → (w' = 1 ↔ ∀ t, 36 ≤ t → t < i + 1 → y0.wd t = 0) → V p l e R s m args below meth c 5 d b Q cells slots n h' 38 [(0, .ref (b + 29)), (1, vi r), (2, vi z), (3, vi w), (4, vi i)] [vi w'] := by
      intro w' c1 c2
      refine V_istore_n C d_Mod_keep_38 rfl (by decide) rfl ?_
      refine V_iload C d_Mod_keep_39 rfl ?_
      refine V_bipush (z := 36) C d_Mod_keep_41 rfl ?_
      refine V_icmp_ge (tgt := 67) C d_Mod_keep_43 (by decide) (by unfold inI; omega) (by unfold inI; omega) (fun q43 => ?_) (fun q43 => ?_)
      · refine V_iinc C d_Mod_keep_67 rfl rfl (by decide) rfl ?_
        refine V_goto (tgt := 5) C d_Mod_keep_70 (by decide) ?_
        exact V_loc2 (ih (i + 1) w' G _ (by omega) c1 c2 (fun k h1 h2 => hG k h1 (by omega)) hG2 A F) ⟨rfl, rfl, rfl, rfl, rfl, trivial⟩
      · refine V_aload_n C d_Mod_keep_46 rfl rfl ?_
        refine V_get C 4 4 A.o rfl in_Mod (by decide) w_Mod_keep_47 rfl rfl d_Mod_keep_47 ?_
        refine V_aload_n C d_Mod_keep_50 rfl rfl ?_
        refine V_iload_n C d_Mod_keep_51 rfl rfl ?_
        refine V_iload_n C d_Mod_keep_52 rfl rfl ?_
        refine V_callV C (c_Mod_at hl A h0 h8 hf) wc_Mod_at w_Mod_keep_53 np_Mod_at ⟨by omega, by omega, R3, R4⟩ A.o rfl rfl (Nat.le_of_ble_eq_true rfl) d_Mod_keep_53 (fun v n1 h1 hp => ?_) (fun Cx n1 h1 hp => hp.elim)
        obtain ⟨rfl, rfl, rfl⟩ := hp
        rw [ha]
        refine V_iload C d_Mod_keep_56 rfl ?_
        refine V_iadd C d_Mod_keep_58 ?_
        refine V_aload_n C d_Mod_keep_59 rfl rfl ?_
        refine V_get C 4 9 A.o rfl in_Mod (by decide) w_Mod_keep_60 rfl rfl d_Mod_keep_60 ?_
        refine V_iload C d_Mod_keep_63 rfl ?_
        refine V_iaload C aw (by omega) (by omega) (by decide) d_Mod_keep_65 ?_
        rw [Int.toNat_natCast]
        refine V_iastore C ag (by omega) (by omega) (by decide) d_Mod_keep_66 ?_
        refine V_iinc C d_Mod_keep_67 rfl rfl (by decide) rfl ?_
        refine V_goto (tgt := 5) C d_Mod_keep_70 (by decide) ?_
        rw [show ((a : Int) + (i : Int)).toNat = a + i by omega]
        refine V_loc2 (ih (i + 1) w' (fu G (a + i) (y0.wd i)) _ (by omega) c1 c2 (fun k h1 h2 => ?_) (fun t ht => ?_) (A.setD _) (F.set (by omega) _)) ⟨rfl, rfl, rfl, rfl, rfl, trivial⟩
        · by_cases e1 : k = i
          · rw [e1, fu_eq]
          · rw [fu_ne _ _ (by omega)]; exact hG k h1 (by omega)
        · rw [fu_ne _ _ (by omega)]; exact hG2 t ht
    refine V_iload C d_Mod_keep_5 rfl ?_
    refine V_bipush (z := 80) C d_Mod_keep_7 rfl ?_
    refine V_icmp_ge (tgt := 73) C d_Mod_keep_9 (by decide) (by unfold inI; omega) (by unfold inI; omega) (fun q9 => ?_) (fun q9 => ?_)
    · exact absurd q9 (by omega)
    · refine V_iload_n C d_Mod_keep_12 rfl rfl ?_
      refine V_if_eq (tgt := 37) C d_Mod_keep_13 (by decide) (show inI w by rcases hw with e | e <;> rw [e] <;> exact ⟨by omega, by omega⟩) (fun q13 => ?_) (fun q13 => ?_)
      · refine V_iconst C d_Mod_keep_37 rfl ?_
        exact tail 0 (Or.inl rfl) ⟨fun q => absurd q (by omega), fun q => absurd (hw2.mpr (fun t t1 t2 => q t t1 (by omega))) (by omega)⟩
      · have hw1 : w = 1 := by omega
        refine V_iload C d_Mod_keep_16 rfl ?_
        refine V_bipush (z := 36) C d_Mod_keep_18 rfl ?_
        refine V_icmp_lt (tgt := 33) C d_Mod_keep_20 (by decide) (by unfold inI; omega) (by unfold inI; omega) (fun q20 => ?_) (fun q20 => ?_)
        · refine V_iconst C d_Mod_keep_33 rfl ?_
          refine V_goto (tgt := 38) C d_Mod_keep_34 (by decide) ?_
          exact tail 1 (Or.inr rfl) ⟨fun _ t t1 t2 => absurd t1 (by omega), fun _ => rfl⟩
        · refine V_aload_n C d_Mod_keep_23 rfl rfl ?_
          refine V_get C 4 9 A.o rfl in_Mod (by decide) w_Mod_keep_24 rfl rfl d_Mod_keep_24 ?_
          refine V_iload C d_Mod_keep_27 rfl ?_
          refine V_iaload C aw (by omega) (by omega) (by decide) d_Mod_keep_29 ?_
          rw [Int.toNat_natCast]
          refine V_if_ne (tgt := 37) C d_Mod_keep_30 (by decide) (by unfold inI; omega) (fun q30 => ?_) (fun q30 => ?_)
          · refine V_iconst C d_Mod_keep_37 rfl ?_
            exact tail 0 (Or.inl rfl) ⟨fun q => absurd q (by omega), fun q => absurd (q i (by omega) (by omega)) q30⟩
          · refine V_iconst C d_Mod_keep_33 rfl ?_
            refine V_goto (tgt := 38) C d_Mod_keep_34 (by decide) ?_
            refine tail 1 (Or.inr rfl) ⟨fun _ t t1 t2 => ?_, fun _ => rfl⟩
            by_cases e1 : t = i
            · rw [e1]; exact q30
            · exact hw2.mp hw1 t t1 (by omega)
set_option maxHeartbeats 1000000 in
theorem c_Mod_keep (hl : yL l) (hv : OkV v) (A : AtM d b y0 h) (O : OkM y0 v) {r z : Int} (hy : hasY v r z) (dw : dgt y0.wd 80) : yM l y_Mod_keep b_Mod_keep 5 (some .boolean) 1 30 0 0 d b n h [.ref (b + 29), vi r, vi z] (fun q n' h' => n' = n ∧ FrM h h' ∧ q = some (vi (bi (wl y0.wd 80 < 10 ^ 36))) ∧ ∃ y1, AtM d b y1 h' ∧ OkM y1 (vSet v r.toNat (z - v.F r.toNat).toNat (wl y0.wd 36))) noT := by
  refine yM_of hl (by decide +kernel) (Nat.le_of_ble_eq_true rfl) (fun p e s m args below meth c C => ?_)
  obtain ⟨p1, p2, p3, p4, p5⟩ := OkM.pl (y0 := y0) hv hy
  refine V_iconst C d_Mod_keep_0 rfl ?_
  refine V_istore_n C d_Mod_keep_1 rfl (by decide) rfl ?_
  refine V_iconst C d_Mod_keep_2 rfl ?_
  refine V_istore C d_Mod_keep_3 (by decide) rfl ?_
  refine V_loc2 (Mod_keep_loop (y0 := y0) C hl hy.1.1 (by omega) (O.ff _ p1) p5 (by omega) dw (by decide) (fun w G h' k1 k2 k3 k4 k5 k6 => ?_) 80 0 1 y0.D h (by omega) (Or.inr rfl) ⟨fun _ t t1 t2 => absurd t2 (by omega), fun _ => rfl⟩ (fun k hk hk2 => absurd hk2 (by omega)) (fun t ht => rfl) A FrM.rfl) ⟨rfl, rfl, rfl, rfl, rfl, trivial⟩
  have e1 : w = bi (wl y0.wd 80 < 10 ^ 36) := by
    by_cases q : wl y0.wd 80 < 10 ^ 36
    · rw [bi_1 q]; exact k2.mpr (wl_low (m := 36) (n := 44) dw q)
    · rw [bi_n q]
      rcases k1 with e | e
      · exact e
      · have := wl_high (m := 36) (n := 44) (k2.mp e)
        have b2 := wl_bound (dgt_le dw (show 36 ≤ 80 by omega))
        exact absurd (show wl y0.wd 80 < 10 ^ 36 by rw [show (80 : Nat) = 36 + 44 from rfl, this]; exact b2.2) q
  refine V_iload_n C d_Mod_keep_73 rfl rfl ?_
  exact V_zreturn C d_Mod_keep_74 (by omega) (Nat.le_refl _) (Nat.le_refl _) ⟨rfl, k6, by rw [e1], _, k5, O.put hv p1 p2 (dgt_le dw (by omega)) k3 k4⟩
set_option maxHeartbeats 1000000 in
theorem Mod_open_loop (C : yC p l s m args meth c y_Mod_open b_Mod_open 4 none [] d b) {rc : Nat} (hrc : y0.rc = rc) (h8 : rc < 8)
    (kk : ∀ (G : Nat → Int) (h' : yH), (∀ k, k < 1728 → G (1728 * rc + k) = 0) → (∀ t, t < 1728 * rc ∨ 1728 * rc + 1728 ≤ t → G t = y0.D t) → AtM d b (y0.s_D G) h' → FrM h h' → V p l e R s m args below meth c 4 d b Q cells slots n h' 51 [(0, .ref (b + 29))] []) :
    ∀ (j i : Nat) (G : Nat → Int) (h' : yH), i + j = 1728 → (∀ k, k < i → G (1728 * rc + k) = 0) → (∀ t, t < 1728 * rc ∨ 1728 * rc + 1728 ≤ t → G t = y0.D t) → AtM d b (y0.s_D G) h' → FrM h h' → V p l e R s m args below meth c 4 d b Q cells slots n h' 22 [(0, .ref (b + 29)), (3, vi i)] [] := by
  intro j
  induction j with
  | zero =>
    intro i G h' hi hG hG2 A F
    refine V_iload_n C d_Mod_open_22 rfl rfl ?_
    refine V_sipush (z := 1728) C d_Mod_open_23 rfl ?_
    refine V_icmp_ge (tgt := 51) C d_Mod_open_26 (by decide) (by unfold inI; omega) (by unfold inI; omega) (fun q26 => ?_) (fun q26 => ?_)
    · exact V_loc2 (kk G h' (fun t ht => hG t (by omega)) hG2 A F) ⟨rfl, trivial⟩
    · exact absurd q26 (by omega)
  | succ j ih =>
    intro i G h' hi hG hG2 A F
    have ao : h' 29 = some (oO 4 [vi y0.th, vi rc, .ref (b + 30), .ref (b + 31), .ref (b + 32), vj y0.rs, vi y0.sp, .ref (b + 33), .ref (b + 34), .ref (b + 35), .ref (b + 36), .ref (b + 37)]) := by
      have := A.o
      rw [show (y0.s_D G).rc = rc from hrc] at this
      exact this
    refine V_iload_n C d_Mod_open_22 rfl rfl ?_
    refine V_sipush (z := 1728) C d_Mod_open_23 rfl ?_
    refine V_icmp_ge (tgt := 51) C d_Mod_open_26 (by decide) (by unfold inI; omega) (by unfold inI; omega) (fun q26 => ?_) (fun q26 => ?_)
    · exact absurd q26 (by omega)
    · refine V_aload_n C d_Mod_open_29 rfl rfl ?_
      refine V_get C 4 4 ao rfl in_Mod (by decide) w_Mod_open_30 rfl rfl d_Mod_open_30 ?_
      refine V_sipush (z := 1728) C d_Mod_open_33 rfl ?_
      refine V_aload_n C d_Mod_open_36 rfl rfl ?_
      refine V_get C 4 1 ao rfl in_Mod (by decide) w_Mod_open_37 rfl rfl d_Mod_open_37 ?_
      refine V_imul C d_Mod_open_40 ?_
      refine V_iload_n C d_Mod_open_41 rfl rfl ?_
      refine V_iadd C d_Mod_open_42 ?_
      refine V_iconst C d_Mod_open_43 rfl ?_
      refine V_iastore C A.g (by omega) (by omega) (by decide) d_Mod_open_44 ?_
      refine V_iinc C d_Mod_open_45 rfl rfl (by decide) rfl ?_
      refine V_goto (tgt := 22) C d_Mod_open_48 (by decide) ?_
      rw [show (1728 * (rc : Int) + (i : Int)).toNat = 1728 * rc + i by omega]
      refine V_loc2 (ih (i + 1) (fu G (1728 * rc + i) 0) _ (by omega) (fun k hk => ?_) (fun t ht => ?_) (A.setD _) (F.set (by omega) _)) ⟨rfl, rfl, trivial⟩
      · by_cases e1 : k = i
        · rw [e1, fu_eq]
        · rw [fu_ne _ _ (by omega)]; exact hG k (by omega)
      · rw [fu_ne _ _ (by omega)]; exact hG2 t ht
theorem OkM.new {y1 : YS} (O : OkM y0 v) (h8 : v.rc < 8) {f : Int} {mm : Nat} (hm : mm ≤ 48) (hv : OkV v) (h1 : y1.rc = y0.rc + 1) (h2 : y1.rs = y0.rs) (h3 : y1.sp = y0.sp) (h4 : y1.fs = fu y0.fs v.rc f) (h5 : y1.sz = fu y0.sz v.rc mm) (h6 : ∀ k, k < 1728 → y1.D (1728 * v.rc + k) = 0) (h7 : ∀ t, t < 1728 * v.rc ∨ 1728 * v.rc + 1728 ≤ t → y1.D t = y0.D t) (h11 : y1.st = y0.st) (h12 : y1.en = y0.en) : OkM y1 (vNew v f mm (fun _ => 0)) := by
  have hF : (vNew v f mm (fun _ => 0)).F = fu v.F v.rc f := rfl
  have hM : (vNew v f mm (fun _ => 0)).M = fu v.M v.rc mm := rfl
  have hW : (vNew v f mm (fun _ => 0)).W = fu v.W v.rc (fun _ => 0) := rfl
  refine ⟨by rw [h1, O.rc]; rfl, by rw [h2, O.rs]; rfl, by rw [h3, O.sp]; rfl, fun i hi => ?_, fun i hi => ?_, fun i hi q hq => ?_, fun t ht => ?_, fun k hk => by rw [h11]; exact O.sa k hk, fun k hk => by rw [h12]; exact O.sb k hk⟩
  · have hi' : i < v.rc + 1 := hi
    rw [hF, h4]
    by_cases e : i = v.rc
    · rw [e, fu_eq, fu_eq]
    · rw [fu_ne _ _ e, fu_ne _ _ e]; exact O.ff i (by omega)
  · have hi' : i < v.rc + 1 := hi
    rw [hM, h5]
    by_cases e : i = v.rc
    · rw [e, fu_eq, fu_eq]
    · rw [fu_ne _ _ e, fu_ne _ _ e]; exact O.fm i (by omega)
  · have hi' : i < v.rc + 1 := hi
    rw [hM] at hq
    rw [hW]
    by_cases e : i = v.rc
    · rw [e, fu_eq] at hq
      rw [e, fu_eq]
      exact wl_zero (fun k hk => by
        have := h6 (36 * q + k) (by omega)
        rw [show 36 * (48 * v.rc + q) + k = 1728 * v.rc + (36 * q + k) by omega]
        exact this)
    · rw [fu_ne _ _ e] at hq
      rw [fu_ne _ _ e, ← O.ww i (by omega) q hq]
      obtain ⟨-, -, m2, -⟩ := hv.ok i (by omega)
      exact wl_congr (fun k hk => h7 _ (by omega))
  · by_cases e : t < 1728 * v.rc ∨ 1728 * v.rc + 1728 ≤ t
    · rw [h7 t e]; exact O.dg t ht
    · have := h6 (t - 1728 * v.rc) (by omega)
      rw [show 1728 * v.rc + (t - 1728 * v.rc) = t by omega] at this
      rw [this]; omega
set_option maxHeartbeats 1000000 in
theorem c_Mod_open (hl : yL l) (hv : OkV v) (A : AtM d b y0 h) (O : OkM y0 v) (h8 : v.rc < 8) {f : Int} {mm : Nat} (hm : mm ≤ 48) : yM l y_Mod_open b_Mod_open 4 none 0 0 0 0 d b n h [.ref (b + 29), vi f, vi mm] (fun q n' h' => q = none ∧ n' = n ∧ FrM h h' ∧ ∃ y1, AtM d b y1 h' ∧ OkM y1 (vNew v f mm (fun _ => 0)) ∧ y1.th = y0.th) noT := by
  refine yM_of hl (by decide +kernel) (Nat.le_of_ble_eq_true rfl) (fun p e s m args below meth c C => ?_)
  have e1 := O.rc
  refine V_aload_n C d_Mod_open_0 rfl rfl ?_
  refine V_get C 4 2 A.o rfl in_Mod (by decide) w_Mod_open_1 rfl rfl d_Mod_open_1 ?_
  refine V_aload_n C d_Mod_open_4 rfl rfl ?_
  refine V_get C 4 1 A.o rfl in_Mod (by decide) w_Mod_open_5 rfl rfl d_Mod_open_5 ?_
  refine V_iload_n C d_Mod_open_8 rfl rfl ?_
  refine V_iastore C A.f (by omega) (by omega) (by decide) d_Mod_open_9 ?_
  rw [Int.toNat_natCast, e1]
  have A1 := A.setF (fu y0.fs v.rc f)
  have o1 : hs h 30 (oI d 8 (fu y0.fs v.rc f)) 29 = some (oO 4 [vi y0.th, vi v.rc, .ref (b + 30), .ref (b + 31), .ref (b + 32), vj y0.rs, vi y0.sp, .ref (b + 33), .ref (b + 34), .ref (b + 35), .ref (b + 36), .ref (b + 37)]) := by rw [← e1]; exact A1.o
  have z1 : hs h 30 (oI d 8 (fu y0.fs v.rc f)) 31 = some (oI d 8 y0.sz) := A1.z
  refine V_aload_n C d_Mod_open_10 rfl rfl ?_
  refine V_get C 4 3 o1 rfl in_Mod (by decide) w_Mod_open_11 rfl rfl d_Mod_open_11 ?_
  refine V_aload_n C d_Mod_open_14 rfl rfl ?_
  refine V_get C 4 1 o1 rfl in_Mod (by decide) w_Mod_open_15 rfl rfl d_Mod_open_15 ?_
  refine V_iload_n C d_Mod_open_18 rfl rfl ?_
  refine V_iastore C z1 (by omega) (by omega) (by decide) d_Mod_open_19 ?_
  rw [Int.toNat_natCast]
  have A2 := A1.setZ (fu y0.sz v.rc mm)
  have f1 : ((y0.s_fs (fu y0.fs v.rc f)).s_sz (fu y0.sz v.rc mm)).rc = v.rc := e1
  have f2 : ((y0.s_fs (fu y0.fs v.rc f)).s_sz (fu y0.sz v.rc mm)).rs = y0.rs := rfl
  have f3 : ((y0.s_fs (fu y0.fs v.rc f)).s_sz (fu y0.sz v.rc mm)).sp = y0.sp := rfl
  have f4 : ((y0.s_fs (fu y0.fs v.rc f)).s_sz (fu y0.sz v.rc mm)).fs = fu y0.fs v.rc f := rfl
  have f5 : ((y0.s_fs (fu y0.fs v.rc f)).s_sz (fu y0.sz v.rc mm)).sz = fu y0.sz v.rc mm := rfl
  have f6 : ((y0.s_fs (fu y0.fs v.rc f)).s_sz (fu y0.sz v.rc mm)).D = y0.D := rfl
  have f7 : ((y0.s_fs (fu y0.fs v.rc f)).s_sz (fu y0.sz v.rc mm)).st = y0.st := rfl
  have f8 : ((y0.s_fs (fu y0.fs v.rc f)).s_sz (fu y0.sz v.rc mm)).en = y0.en := rfl
  have f9 : ((y0.s_fs (fu y0.fs v.rc f)).s_sz (fu y0.sz v.rc mm)).th = y0.th := rfl
  generalize (y0.s_fs (fu y0.fs v.rc f)).s_sz (fu y0.sz v.rc mm) = y2 at A2 f1 f2 f3 f4 f5 f6 f7 f8 f9
  refine V_iconst C d_Mod_open_20 rfl ?_
  refine V_istore_n C d_Mod_open_21 rfl (by decide) rfl ?_
  refine V_loc2 (Mod_open_loop (y0 := y2) (h := h) C f1 h8 (fun G h' k1 k2 k3 k4 => ?_) 1728 0 y2.D _ (by omega) (fun k hk => absurd hk (by omega)) (fun t ht => rfl) A2 ((FrM.rfl.set (by omega) _).set (by omega) _)) ⟨rfl, rfl, trivial⟩
  refine V_aload_n C d_Mod_open_51 rfl rfl ?_
  refine V_dup C d_Mod_open_52 rfl ?_
  refine V_get C 4 1 k3.o rfl in_Mod (by decide) w_Mod_open_53 rfl rfl d_Mod_open_53 ?_
  refine V_iconst C d_Mod_open_56 rfl ?_
  refine V_iadd C d_Mod_open_57 ?_
  refine V_put (ty := .int) C 4 1 k3.o rfl in_Mod t_Mod tok_Mod nm_Mod (by decide) w_Mod_open_58 rfl rfl (by decide +kernel) rfl rfl (Nat.le_of_ble_eq_true rfl) d_Mod_open_58 ?_
  have A3 := k3.setRc (y2.rc + 1)
  refine V_return C d_Mod_open_61 (Nat.le_refl _) (Nat.le_refl _) ⟨rfl, rfl, k4.set (by omega) _, _, A3, O.new h8 hm hv ?_ f2 f3 f4 f5 k1 (fun t ht => by rw [← f6]; exact k2 t ht) f7 f8, f9⟩
  show y2.rc + 1 = y0.rc + 1
  rw [f1, e1]
theorem c_Mod_open' (hl : yL l) (hv : OkV v) (A : AtM d b y0 h) (O : OkM y0 v) (h8 : v.rc < 8) {f k : Int} {mm : Nat} (hm : mm ≤ 48) (hk : (mm : Int) = k) : yM l y_Mod_open b_Mod_open 4 none 0 0 0 0 d b n h [.ref (b + 29), vi f, vi k] (fun q n' h' => q = none ∧ n' = n ∧ FrM h h' ∧ ∃ y1, AtM d b y1 h' ∧ OkM y1 (vNew v f mm (fun _ => 0)) ∧ y1.th = y0.th) noT := by
  rw [← hk]
  exact c_Mod_open hl hv A O h8 hm
end ModC
