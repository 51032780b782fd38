theorem tmR_in {v : Vw} {a c0 : Nat} {u : Int} (hu : 1 ≤ u) : ∀ k, 0 ≤ tmR v a c0 u k ∧ tmR v a c0 u k ≤ k * u
  | 0 => ⟨Int.le_refl _, by show (0 : Int) ≤ ((0 : Nat) : Int) * u; simp⟩
  | k + 1 => by
    have ih := tmR_in (v := v) (a := a) (c0 := c0) hu k
    have e1 : tmR v a c0 u (k + 1) = tmR v a c0 u k + tmP v a c0 k % u := rfl
    have e2 := Int.emod_nonneg (tmP v a c0 k) (show u ≠ 0 by omega)
    have e3 := Int.emod_lt_of_pos (tmP v a c0 k) (show 0 < u by omega)
    have e4 : ((k + 1 : Nat) : Int) * u = k * u + u := by rw [Int.natCast_add, Int.add_mul]; simp
    rw [e1, e4]
    omega
section YfF
variable {p : Program} {l : Launch} {e : Env} {R : Room} {s : State} {m : MethodId} {args : Array Value} {below : List Frame} {meth : Method} {c : Code} {d : yD} {b : Nat} {Q : State → Prop} {cells slots n : Nat} {h : yH}
variable {x : XS} {v : Vw}
set_option maxHeartbeats 1000000 in
theorem Yf_times_end (C : yC p l s m args meth c y_Yf_times b_Yf_times 12 (some .int) [] d b) (hl : yL l) (O : OkX x v) (h8 : v.rc < 8) {f : Int} {mm : Nat} (hm : mm ≤ 48) {post : Option Value → Nat → yH → Prop} {thr : String → Nat → yH → Prop} {W G : Nat → Int} {x1 : XS} {h' : yH} {z : Int} (s1 : dig G 192) (s2 : ∀ q, q < mm → wt G q = W q) (K : Way x v.rc f mm G x1) (B2 : AtX d b x1 h') (F2 : FrX h h') (hp : ∀ h'', PX d b h h'' ((vNew v f mm W).s_rs z) → post (some (vi v.rc)) n h'') :
    V p l e (yRm 8 160 64 512) s m args below meth c 12 d b (yEnd below s args d b post thr 64 512) (3 + mm) (18 + 6 * mm) n h' 183 [(0, .ref (b + 0)), (9, vj z)] [] := by
  refine V_aload_n C d_Yf_times_183 rfl rfl ?_
  refine V_lload C d_Yf_times_184 rfl ?_
  refine V_put (ty := .long) C 3 2 B2.o rfl in_Yf t_Yf tok_Yf nm_Yf (by decide) w_Yf_times_186 rfl rfl (by decide +kernel) rfl rfl (Nat.le_of_ble_eq_true rfl) d_Yf_times_186 ?_
  have B3 := B2.setRs z
  refine V_aload_n C d_Yf_times_189 rfl rfl ?_
  refine V_callV C (c_Yf_keepFreeRow hl B3) wc_Yf_keepFreeRow w_Yf_times_190 np_Yf_keepFreeRow ⟨by decide, by decide, by show 3 + mm + 0 ≤ 64; omega, by show 18 + 6 * mm + 0 ≤ 512; omega⟩ B3.o rfl rfl (Nat.le_of_ble_eq_true rfl) d_Yf_times_190 (fun w n1 h1 hq => ?_) (fun Cx n1 h1 hp => hp.elim)
  obtain ⟨rfl, rfl, B4, F4⟩ := hq
  have ok := K.fin O h8 s1 s2
  have ok2 : OkX ((x1.s_rs z).s_rc (x1.rc + 1)) ((vNew v f mm W).s_rs z) := ⟨ok.rc, rfl, ok.sp, ok.ff, ok.fm, ok.ww, ok.dg, ok.sa, ok.sb⟩
  have q2 := hp _ ⟨⟨_, B4, ok2⟩, fun j hj => (F4 j hj).trans ((F2.set (by omega) _) j hj)⟩
  rw [← O.rc, ← K.rc] at q2
  exact V_ireturn C d_Yf_times_193 (by omega) (by omega) q2
set_option maxHeartbeats 1000000 in
theorem Yf_times_loop (C : yC p l s m args meth c y_Yf_times b_Yf_times 12 (some .int) [] d b) (hl : yL l) (hv : OkV v) (O : OkX x v) {a c0 mm : Nat} (ha : a < v.rc) (hc : c0 < v.rc) (h8 : v.rc < 8) {f u : Int} (hu : 1 ≤ u ∧ u ≤ 1000000000) (hf : -9999 ≤ f ∧ f + mm - 1 ≤ 9999) (hm : 1 ≤ mm ∧ mm ≤ 48) {post : Option Value → Nat → yH → Prop} {thr : String → Nat → yH → Prop} {P : Nat → Int} (hW : ∀ q : Nat, P q = wY v a (f + q) * wY v c0 (f + q))
    (ht : ∀ n' h', n ≤ n' → PX d b h h' v → (∃ q, q < mm ∧ ¬ P q / u < 1000000000 ^ 4) → thr xnM n' h')
    (kk : ∀ (G : Nat → Int) (x1 : XS) (h' : yH), dig G 192 → (∀ q, q < mm → wt G q = P q / u) → (∀ q, q < mm → P q / u < 1000000000 ^ 4) → Way x v.rc f mm G x1 → AtX d b x1 h' → FrX h h' → V p l e (yRm 8 160 64 512) s m args below meth c 12 d b (yEnd below s args d b post thr 64 512) (3 + mm) (18 + 6 * mm) n h' 183 [(0, .ref (b + 0)), (9, vj (sumW (fun q => P q % u) mm))] []) :
    ∀ (j t : Nat) (G : Nat → Int) (x1 : XS) (h' : yH), t + j = mm → dig G 192 → (∀ q, q < t → wt G q = P q / u) → (∀ q, q < t → P q / u < 1000000000 ^ 4) → Way x v.rc f mm G x1 → AtX d b x1 h' → FrX h h' →
      V p l e (yRm 8 160 64 512) s m args below meth c 12 d b (yEnd below s args d b post thr 64 512) (3 + t) (18 + 6 * t) n h' 109 [(0, .ref (b + 0)), (3, vi u), (4, .ref (b + (2 + 2 * a))), (5, .ref (b + (2 + 2 * c0))), (6, .ref (b + (2 + 2 * v.rc))), (8, vi (f + mm - 1)), (9, vj (sumW (fun q => P q % u) t)), (11, vi (f + t))] [] := by
  intro j
  induction j with
  | zero =>
    intro t G x1 h' hj dG hG hB K B F
    have e0 : t = mm := by omega
    subst e0
    refine V_iload C d_Yf_times_109 rfl ?_
    refine V_iload C d_Yf_times_111 rfl ?_
    refine V_icmp_gt (tgt := 183) C d_Yf_times_113 (by decide) (by unfold inI; omega) (by unfold inI; omega) (fun q113 => ?_) (fun q113 => ?_)
    · exact V_loc2 (kk G x1 _ dG hG hB K B F) ⟨rfl, rfl, trivial⟩
    · exact absurd q113 (by omega)
  | succ j ih =>
    intro t G x1 h' hj dG hG hB K B F
    have R1 : 3 + t + 0 ≤ 64 := by omega
    have R2 : 18 + 6 * t + 0 ≤ 512 := by omega
    refine V_iload C d_Yf_times_109 rfl ?_
    refine V_iload C d_Yf_times_111 rfl ?_
    refine V_icmp_gt (tgt := 183) C d_Yf_times_113 (by decide) (by unfold inI; omega) (by unfold inI; omega) (fun q113 => ?_) (fun q113 => ?_)
    · exact absurd q113 (by omega)
    · refine V_aload C d_Yf_times_116 rfl ?_
      refine V_iload C d_Yf_times_118 rfl ?_
      refine V_aload_n C d_Yf_times_120 rfl rfl ?_
      refine V_get C 3 4 B.o rfl in_Yf (by decide) w_Yf_times_121 rfl rfl d_Yf_times_121 ?_
      refine V_callV C (c_Row_read (z := f + t) hl (K.w B (by omega) (by omega)) (K.pp B (by omega) (by omega)) B.o1 B.p1 (by omega) (O.row hv ha) (by unfold inI; omega) (O.dg a (by omega))) wc_Row_read w_Yf_times_124 np_Row_read ⟨by decide, by decide, R1, R2⟩ (K.w B (by omega) (by omega)) rfl rfl (Nat.le_of_ble_eq_true rfl) d_Yf_times_124 (fun v n1 h1 hp => ?_) (fun Cx n1 h1 hp => hp.elim)
      obtain ⟨rfl, rfl, H1, g1, g2, g3, rfl⟩ := hp
      rw [O.rd hv ha] at g3
      have B2 := B.set1 H1
      have K2 := K.s1 H1
      refine V_aload C d_Yf_times_127 rfl ?_
      refine V_iload C d_Yf_times_129 rfl ?_
      refine V_aload_n C d_Yf_times_131 rfl rfl ?_
      refine V_get C 3 5 B2.o rfl in_Yf (by decide) w_Yf_times_132 rfl rfl d_Yf_times_132 ?_
      refine V_callV C (c_Row_read (z := f + t) hl (K2.w B2 (by omega) (by omega)) (K2.pp B2 (by omega) (by omega)) B2.o2 B2.p2 (by omega) (O.row hv hc) (by unfold inI; omega) (O.dg c0 (by omega))) wc_Row_read w_Yf_times_135 np_Row_read ⟨by decide, by decide, R1, R2⟩ (K2.w B2 (by omega) (by omega)) rfl rfl (Nat.le_of_ble_eq_true rfl) d_Yf_times_135 (fun v n1 h1 hp => ?_) (fun Cx n1 h1 hp => hp.elim)
      obtain ⟨rfl, rfl, H2, g4, g5, g6, rfl⟩ := hp
      rw [O.rd hv hc] at g6
      have B3 := B2.set2 H2
      have K3 := K2.s2 H2
      have p31 : hs (hs h' 24 (oJ d 8 H1)) 26 (oJ d 8 H2) 24 = some (oJ d 8 H1) := hs2a (by omega)
      have p32 : hs (hs h' 24 (oJ d 8 H1)) 26 (oJ d 8 H2) 26 = some (oJ d 8 H2) := hs_eq _ _ _
      have b1 := wY_in hv ha (f + t)
      have b2 := wY_in hv hc (f + t)
      rw [vl_high g1 g2] at g3
      rw [vl_high g4 g5] at g6
      generalize (x1.s_l1 H1).s_l2 H2 = x3 at B3 K3
      refine V_aload_n C d_Yf_times_138 rfl rfl ?_
      refine V_get C 3 6 B3.o rfl in_Yf (by decide) w_Yf_times_139 rfl rfl d_Yf_times_139 ?_
      refine V_aload_n C d_Yf_times_142 rfl rfl ?_
      refine V_get C 3 4 B3.o rfl in_Yf (by decide) w_Yf_times_143 rfl rfl d_Yf_times_143 ?_
      refine V_aload_n C d_Yf_times_146 rfl rfl ?_
      refine V_get C 3 5 B3.o rfl in_Yf (by decide) w_Yf_times_147 rfl rfl d_Yf_times_147 ?_
      refine V_callV C (c_Who_becomeProduct hl B3.o3 B3.p3 B3.o1 p31 (by omega) B3.o2 p32 (by omega) (dig_le g1 (by omega)) (dig_le g4 (by omega))) wc_Who_becomeProduct w_Yf_times_150 np_Who_becomeProduct ⟨by decide, by decide, R1, R2⟩ B3.o3 rfl rfl (Nat.le_of_ble_eq_true rfl) d_Yf_times_150 (fun v n1 h1 hp => ?_) (fun Cx n1 h1 hp => hp.elim)
      obtain ⟨rfl, rfl, H3, g7, g8, rfl⟩ := hp
      rw [g3, g6, ← hW t] at g8
      have B4 := B3.set3 H3
      have K4 := K3.s3 H3
      have p43 : hs (hs (hs h' 24 (oJ d 8 H1)) 26 (oJ d 8 H2)) 28 (oJ d 8 H3) 28 = some (oJ d 8 H3) := hs_eq _ _ _
      generalize x3.s_l3 H3 = x4 at B4 K4
      refine V_lload C d_Yf_times_153 rfl ?_
      refine V_aload_n C d_Yf_times_155 rfl rfl ?_
      refine V_get C 3 6 B4.o rfl in_Yf (by decide) w_Yf_times_156 rfl rfl d_Yf_times_156 ?_
      refine V_iload_n C d_Yf_times_159 rfl rfl ?_
      refine V_callV C (c_Who_divide hl B4.o3 p43 g7 (by omega) hu.2) wc_Who_divide w_Yf_times_160 np_Who_divide ⟨by decide, by decide, R1, R2⟩ B4.o3 rfl rfl (Nat.le_of_ble_eq_true rfl) d_Yf_times_160 (fun v n1 h1 hp => ?_) (fun Cx n1 h1 hp => hp.elim)
      obtain ⟨rfl, rfl, H4, g9, g10, rfl⟩ := hp
      rw [g8] at g10 ⊢
      have B5 := B4.set3 H4
      have K5 := K4.s3 H4
      generalize x4.s_l3 H4 = x5 at B5 K5
      rw [hs_hs] at B5 ⊢
      have p53 : hs (hs (hs h' 24 (oJ d 8 H1)) 26 (oJ d 8 H2)) 28 (oJ d 8 H4) 28 = some (oJ d 8 H4) := hs_eq _ _ _
      refine V_ladd C d_Yf_times_163 ?_
      refine V_lstore C d_Yf_times_164 (by decide) rfl ?_
      refine V_aload C d_Yf_times_166 rfl ?_
      refine V_iload C d_Yf_times_168 rfl ?_
      refine V_aload_n C d_Yf_times_170 rfl rfl ?_
      refine V_get C 3 6 B5.o rfl in_Yf (by decide) w_Yf_times_171 rfl rfl d_Yf_times_171 ?_
      refine V_callS C (c_Yf_storeWeight (z := f + t) hl B5 h8 (by rw [K5.f, K5.m]; exact ⟨by omega, by omega, by omega, by omega⟩) (by rw [K5.p]; exact dG) B5.o3 p53 (by omega) g9 (by rw [K5.f, K5.m]; omega)) wc_Yf_storeWeight w_Yf_times_174 np_Yf_storeWeight ⟨by decide, by decide, by show 3 + t + 1 ≤ 64; omega, by show 18 + 6 * t + 6 ≤ 512; omega⟩ rfl (Nat.le_of_ble_eq_true rfl) d_Yf_times_174 (fun v n1 h1 hp => ?_) (fun Cx n1 h1 hp => ?_)
      · obtain ⟨s1, rfl, rfl, G', s2, s3, s4, rfl⟩ := hp
        rw [K5.f, K5.p] at s4
        rw [K5.f, g10] at s3
        rw [g10] at s1
        have e2 : (f + (t : Int) - f).toNat = t := by omega
        rw [e2] at s3 s4
        have B6 := B5.setP h8 G'
        have K6 := K5.sP G'
        generalize x5.s_PP (fu x5.PP v.rc G') = x6 at B6 K6
        refine V_iinc C d_Yf_times_177 rfl rfl (by decide) rfl ?_
        refine V_goto (tgt := 109) C d_Yf_times_180 (by decide) ?_
        refine V_widen (k0 := 3 + (t + 1)) (n0 := 18 + 6 * (t + 1)) (by omega) (by omega) ?_
        refine V_loc2 (ih (t + 1) G' x6 _ (by omega) s2 (fun q hq => ?_) (fun q hq => ?_) K6 B6 ((((F.set (by omega) _).set (by omega) _).set (by omega) _).set (by omega) _)) ⟨rfl, rfl, rfl, rfl, rfl, rfl, rfl, ?_, trivial⟩
        · by_cases e3 : q = t
          · rw [e3, s3]
          · rw [s4 q e3]; exact hG q (by omega)
        · by_cases e3 : q = t
          · rw [e3]; exact s1
          · exact hB q (by omega)
        · show some (vi (f + (t : Int) + 1)) = some (vi (f + ((t + 1 : Nat) : Int)))
          rw [show f + (t : Int) + 1 = f + ((t + 1 : Nat) : Int) by omega]
      · obtain ⟨s1, rfl, s3, rfl⟩ := hp
        rw [g10] at s1
        exact VT_leave C (fun x hx => absurd hx List.not_mem_nil) (by omega) (by omega) (ht _ _ s3 ⟨⟨_, B5, K5.ok O dG⟩, ((F.set (by omega) _).set (by omega) _).set (by omega) _⟩ ⟨t, by omega, s1⟩)
set_option maxHeartbeats 1000000 in
theorem c_Yf_times (hl : yL l) (hv : OkV v) (A : AtX d b x h) (O : OkX x v) {r r2 u : Int} (hr : inI r) (hr2 : inI r2) (hu : inI u) :
    yM l y_Yf_times b_Yf_times 12 (some .int) 8 160 64 512 d b n h [.ref (b + 0), vi r, vi r2, vi u] (fun q n' h' => kTm v r r2 u = 0 ∧ n' = n ∧ q = some (vi v.rc) ∧ PX d b h h' (vTm v r r2 u)) (tX d b n h v (fun C => (kTm v r r2 u = 1 ∧ C = xnI) ∨ (kTm v r r2 u = 2 ∧ C = xnS) ∨ (kTm v r r2 u = 3 ∧ C = xnA) ∨ (kTm v r r2 u = 4 ∧ C = xnM))) := by
  refine yM_of hl (by decide +kernel) (Nat.le_of_ble_eq_true rfl) (fun p e s m args below meth c C => ?_)
  have hrc := hv.rc
  refine V_aload_n C d_Yf_times_0 rfl rfl ?_
  refine V_iload_n C d_Yf_times_1 rfl rfl ?_
  refine V_callV C (c_Yf_knownRow hl hv A O hr) wc_Yf_knownRow w_Yf_times_2 np_Yf_knownRow (by decide) A.o rfl rfl (Nat.le_of_ble_eq_true rfl) d_Yf_times_2 (fun v n1 h1 hp => ?_) (fun Cx n1 h1 hp => ?_)
  · obtain ⟨hi, rfl, rfl, rfl⟩ := hp
    refine V_astore C d_Yf_times_5 (by decide) rfl ?_
    refine V_aload_n C d_Yf_times_7 rfl rfl ?_
    refine V_iload_n C d_Yf_times_8 rfl rfl ?_
    refine V_callV C (c_Yf_knownRow hl hv A O hr2) wc_Yf_knownRow w_Yf_times_9 np_Yf_knownRow (by decide) A.o rfl rfl (Nat.le_of_ble_eq_true rfl) d_Yf_times_9 (fun v n1 h1 hp => ?_) (fun Cx n1 h1 hp => ?_)
    · obtain ⟨hi2, rfl, rfl, rfl⟩ := hp
      have k1 : ¬ ¬ (isR v r ∧ isR v r2) := fun q => q ⟨hi, hi2⟩
      refine V_astore C d_Yf_times_12 (by decide) rfl ?_
      refine V_aload_n C d_Yf_times_14 rfl rfl ?_
      refine V_callV C (c_Yf_freeRow hl hv A O) wc_Yf_freeRow w_Yf_times_15 np_Yf_freeRow (by decide) A.o rfl rfl (Nat.le_of_ble_eq_true rfl) d_Yf_times_15 (fun v n1 h1 hp => ?_) (fun Cx n1 h1 hp => ?_)
      · obtain ⟨h8, rfl, rfl, rfl⟩ := hp
        have k3 : ∀ q : Prop, ¬ ((1 ≤ u ∧ u ≤ 1000000000) ∧ tmF v r.toNat r2.toNat ≤ tmL v r.toNat r2.toNat) → kTm v r r2 u = 3 := fun _ q => by unfold kTm; rw [if_neg k1, if_neg (by omega), if_pos q]
        have ha : r.toNat < v.rc := by have := hi.1; have := hi.2; omega
        have hc : r2.toNat < v.rc := by have := hi2.1; have := hi2.2; omega
        have wa := A.w r.toNat (by omega)
        have wc := A.w r2.toNat (by omega)
        rw [O.ff _ ha, O.fm _ ha] at wa
        rw [O.ff _ hc, O.fm _ hc] at wc
        obtain ⟨a1, a2, a3, a4⟩ := hv.ok _ ha
        obtain ⟨c1, c2, c3, c4⟩ := hv.ok _ hc
        have eF : max (v.F r.toNat) (v.F r2.toNat) = tmF v r.toNat r2.toNat := rfl
        have eL : min (v.F r.toNat + v.M r.toNat - 1) (v.F r2.toNat + v.M r2.toNat - 1) = tmL v r.toNat r2.toNat := rfl
        have hF : -9999 ≤ tmF v r.toNat r2.toNat ∧ tmF v r.toNat r2.toNat ≤ 9999 := by rw [← eF]; omega
        have hL : -9999 ≤ tmL v r.toNat r2.toNat ∧ tmL v r.toNat r2.toNat ≤ 9999 ∧ tmL v r.toNat r2.toNat - tmF v r.toNat r2.toNat < 48 := by rw [← eF, ← eL]; omega
        refine V_astore C d_Yf_times_18 (by decide) rfl ?_
        refine V_iload_n C d_Yf_times_20 rfl rfl ?_
        refine V_iconst C d_Yf_times_21 rfl ?_
        refine V_icmp_lt (tgt := 31) C d_Yf_times_22 (by decide) hu (by unfold inI; omega) (fun q22 => ?_) (fun q22 => ?_)
        · exact V_throwS (text := "the unit is 1 to 1000000000") C (by decide) w_Yf_times_31 xi_A xa_A xg_A (by decide +kernel) d_Yf_times_31 d_Yf_times_34 d_Yf_times_35 d_Yf_times_37 d_Yf_times_40 (fun x hx => absurd hx List.not_mem_nil) (by decide) (by omega) (by omega) (fun n' hn => ⟨Or.inr (Or.inr (Or.inl ⟨k3 True (by omega), rfl⟩)), hn, ⟨x, A, O⟩, FrX.rfl⟩)
        · refine V_iload_n C d_Yf_times_25 rfl rfl ?_
          refine V_ldc (z := 1000000000) C w_Yf_times_26 rfl d_Yf_times_26 ?_
          refine V_icmp_le (tgt := 41) C d_Yf_times_28 (by decide) hu (by unfold inI; omega) (fun q28 => ?_) (fun q28 => ?_)
          · refine V_aload C d_Yf_times_41 rfl ?_
            refine V_getN C 1 0 wa rfl in_Row (by decide) w_Yf_times_43 rfl rfl d_Yf_times_43 ?_
            refine V_aload C d_Yf_times_46 rfl ?_
            refine V_getN C 1 0 wc rfl in_Row (by decide) w_Yf_times_48 rfl rfl d_Yf_times_48 ?_
            refine V_callS C (c_Jmax hl (x := v.F r.toNat) (z := v.F r2.toNat) (by unfold inI; omega) (by unfold inI; omega)) wc_Jmax w_Yf_times_51 np_Jmax (by decide) rfl (Nat.le_of_ble_eq_true rfl) d_Yf_times_51 (fun v n1 h1 hp => ?_) (fun Cx n1 h1 hp => hp.elim)
            obtain ⟨rfl, rfl, rfl⟩ := hp
            rw [eF]
            refine V_istore C d_Yf_times_54 (by decide) rfl ?_
            refine V_aload C d_Yf_times_56 rfl ?_
            refine V_callV C (c_Row_last hl wa) wc_Row_last w_Yf_times_58 np_Row_last (by decide) wa rfl rfl (Nat.le_of_ble_eq_true rfl) d_Yf_times_58 (fun v n1 h1 hp => ?_) (fun Cx n1 h1 hp => hp.elim)
            obtain ⟨rfl, rfl, rfl⟩ := hp
            refine V_aload C d_Yf_times_61 rfl ?_
            refine V_callV C (c_Row_last hl wc) wc_Row_last w_Yf_times_63 np_Row_last (by decide) wc rfl rfl (Nat.le_of_ble_eq_true rfl) d_Yf_times_63 (fun v n1 h1 hp => ?_) (fun Cx n1 h1 hp => hp.elim)
            obtain ⟨rfl, rfl, rfl⟩ := hp
            refine V_callS C (c_Jmin hl (x := v.F r.toNat + v.M r.toNat - 1) (z := v.F r2.toNat + v.M r2.toNat - 1) (by unfold inI; omega) (by unfold inI; omega)) wc_Jmin w_Yf_times_66 np_Jmin (by decide) rfl (Nat.le_of_ble_eq_true rfl) d_Yf_times_66 (fun v n1 h1 hp => ?_) (fun Cx n1 h1 hp => hp.elim)
            obtain ⟨rfl, rfl, rfl⟩ := hp
            rw [eL]
            refine V_istore C d_Yf_times_69 (by decide) rfl ?_
            refine V_iload C d_Yf_times_71 rfl ?_
            refine V_iload C d_Yf_times_73 rfl ?_
            refine V_icmp_le (tgt := 88) C d_Yf_times_75 (by decide) (by unfold inI; omega) (by unfold inI; omega) (fun q75 => ?_) (fun q75 => ?_)
            · have eM : ((tmM v r.toNat r2.toNat : Nat) : Int) = tmL v r.toNat r2.toNat - tmF v r.toNat r2.toNat + 1 := by unfold tmM; omega
              refine V_aload C d_Yf_times_88 rfl ?_
              refine V_iload C d_Yf_times_90 rfl ?_
              refine V_iload C d_Yf_times_92 rfl ?_
              refine V_iload C d_Yf_times_94 rfl ?_
              refine V_isub C d_Yf_times_96 ?_
              refine V_iconst C d_Yf_times_97 rfl ?_
              refine V_iadd C d_Yf_times_98 ?_
              rw [← eM]
              refine V_callV C (c_Row_open (f1 := tmF v r.toNat r2.toNat) (m1 := (tmM v r.toNat r2.toNat : Nat)) hl (A.w _ h8) (A.p _ h8)) wc_Row_open w_Yf_times_99 np_Row_open (by decide) (A.w _ h8) rfl rfl (Nat.le_of_ble_eq_true rfl) d_Yf_times_99 (fun v n1 h1 hp => ?_) (fun Cx n1 h1 hp => hp.elim)
              obtain ⟨rfl, rfl, G, g1, rfl⟩ := hp
              have B := (A.setW h8 (tmF v r.toNat r2.toNat) (tmM v r.toNat r2.toNat : Nat)).setP h8 G
              have K := Way.new x v.rc (tmF v r.toNat r2.toNat) (tmM v r.toNat r2.toNat : Nat) G
              have B' : AtX d b (((x.s_ff (fu x.ff v.rc (tmF v r.toNat r2.toNat))).s_fm (fu x.fm v.rc (tmM v r.toNat r2.toNat : Nat))).s_PP (fu x.PP v.rc G)) _ := B
              generalize ((x.s_ff (fu x.ff v.rc (tmF v r.toNat r2.toNat))).s_fm (fu x.fm v.rc (tmM v r.toNat r2.toNat : Nat))).s_PP (fu x.PP v.rc G) = x1 at B' K
              have kno : ¬ ¬ ((1 ≤ u ∧ u ≤ 1000000000) ∧ tmF v r.toNat r2.toNat ≤ tmL v r.toNat r2.toNat) := by omega
              have hthr : ∀ n' h', n1 ≤ n' → PX d b h1 h' v → (∃ q, q < tmM v r.toNat r2.toNat ∧ ¬ tmP v r.toNat r2.toNat q / u < 1000000000 ^ 4) → tX d b n1 h1 v (fun C => (kTm v r r2 u = 1 ∧ C = xnI) ∨ (kTm v r r2 u = 2 ∧ C = xnS) ∨ (kTm v r r2 u = 3 ∧ C = xnA) ∨ (kTm v r r2 u = 4 ∧ C = xnM)) xnM n' h' := fun n' h' t1 t2 ⟨q, t4, t5⟩ => ⟨Or.inr (Or.inr (Or.inr ⟨by unfold kTm; rw [if_neg k1, if_neg (by omega), if_neg kno, if_neg (fun w => t5 (w q t4))], rfl⟩)), t1, t2⟩
              refine V_lconst (z := 0) C d_Yf_times_102 rfl ?_
              refine V_lstore C d_Yf_times_103 (by decide) rfl ?_
              refine V_iload C d_Yf_times_105 rfl ?_
              refine V_istore C d_Yf_times_107 (by decide) rfl ?_
              refine V_loc2 (Yf_times_loop (h := h1) (P := tmP v r.toNat r2.toNat) C hl hv O ha hc h8 (u := u) ⟨by omega, by omega⟩ ⟨hF.1, by omega⟩ ⟨by omega, by omega⟩ (fun q => rfl) hthr (fun G' x2 h' s1 s2 s3 K2 B2 F2 => ?_) (tmM v r.toNat r2.toNat) 0 G x1 _ (by omega) (fun t ht => by rw [g1 t ht]; omega) (fun q hq => absurd hq (by omega)) (fun q hq => absurd hq (by omega)) K B' ((FrX.rfl.set (by omega) _).set (by omega) _)) ⟨rfl, rfl, rfl, rfl, rfl, ?_, rfl, ?_, trivial⟩
              · exact Yf_times_end C hl O h8 (by omega) s1 s2 K2 B2 F2 (fun h'' q => ⟨by unfold kTm; rw [if_neg k1, if_neg (by omega), if_neg kno]; exact if_pos s3, rfl, rfl, q⟩)
              · show some (vi (tmL v r.toNat r2.toNat)) = some (vi (tmF v r.toNat r2.toNat + (tmM v r.toNat r2.toNat : Nat) - 1))
                rw [show tmL v r.toNat r2.toNat = tmF v r.toNat r2.toNat + (tmM v r.toNat r2.toNat : Nat) - 1 by omega]
              · show some (vi (tmF v r.toNat r2.toNat)) = some (vi (tmF v r.toNat r2.toNat + ((0 : Nat) : Int)))
                rw [show tmF v r.toNat r2.toNat + ((0 : Nat) : Int) = tmF v r.toNat r2.toNat by omega]
            · exact V_throwS (text := "the rows have no year together") C (by decide) w_Yf_times_78 xi_A xa_A xg_A (by decide +kernel) d_Yf_times_78 d_Yf_times_81 d_Yf_times_82 d_Yf_times_84 d_Yf_times_87 (fun x hx => absurd hx List.not_mem_nil) (by decide) (by omega) (by omega) (fun n' hn => ⟨Or.inr (Or.inr (Or.inl ⟨k3 True (by omega), rfl⟩)), hn, ⟨x, A, O⟩, FrX.rfl⟩)
          · exact V_throwS (text := "the unit is 1 to 1000000000") C (by decide) w_Yf_times_31 xi_A xa_A xg_A (by decide +kernel) d_Yf_times_31 d_Yf_times_34 d_Yf_times_35 d_Yf_times_37 d_Yf_times_40 (fun x hx => absurd hx List.not_mem_nil) (by decide) (by omega) (by omega) (fun n' hn => ⟨Or.inr (Or.inr (Or.inl ⟨k3 True (by omega), rfl⟩)), hn, ⟨x, A, O⟩, FrX.rfl⟩)
      · obtain ⟨h1, rfl, h3, rfl⟩ := hp
        exact VT_leave C (fun x hx => absurd hx List.not_mem_nil) (by omega) (by omega) ⟨Or.inr (Or.inl ⟨by unfold kTm; rw [if_neg k1, if_pos (by omega)], rfl⟩), h3, ⟨x, A, O⟩, FrX.rfl⟩
    · obtain ⟨h1, rfl, h3, rfl⟩ := hp
      exact VT_leave C (fun x hx => absurd hx List.not_mem_nil) (by omega) (by omega) ⟨Or.inl ⟨by unfold kTm; rw [if_pos (fun q => h1 q.2)], rfl⟩, h3, ⟨x, A, O⟩, FrX.rfl⟩
  · obtain ⟨h1, rfl, h3, rfl⟩ := hp
    exact VT_leave C (fun x hx => absurd hx List.not_mem_nil) (by omega) (by omega) ⟨Or.inl ⟨by unfold kTm; rw [if_pos (fun q => h1 q.1)], rfl⟩, h3, ⟨x, A, O⟩, FrX.rfl⟩
end YfF
