theorem fu_fu {α : Type} (f : Nat → α) (k : Nat) (x y : α) : fu (fu f k x) k y = fu f k y := by
  funext j
  by_cases e : j = k
  · rw [e, fu_eq, fu_eq]
  · rw [fu_ne _ _ e, fu_ne _ _ e, fu_ne _ _ e]
/-- x1 is x with the row r under way: f, m and the parts G -/
def Way (x : XS) (r : Nat) (f m : Int) (G : Nat → Int) (x1 : XS) : Prop :=
  (x1.rc = x.rc) ∧ (x1.rs = x.rs) ∧ (x1.sp = x.sp) ∧ (∀ i, i ≠ r → x1.ff i = x.ff i) ∧ (∀ i, i ≠ r → x1.fm i = x.fm i) ∧ (∀ i, i ≠ r → x1.PP i = x.PP i) ∧ (x1.ff r = f) ∧ (x1.fm r = m) ∧ (x1.PP r = G) ∧ (x1.A = x.A) ∧ (x1.B = x.B)
theorem Way.rc {x : XS} {r : Nat} {f m : Int} {G : Nat → Int} {x1 : XS} (H : Way x r f m G x1) : x1.rc = x.rc := H.1
theorem Way.rs {x : XS} {r : Nat} {f m : Int} {G : Nat → Int} {x1 : XS} (H : Way x r f m G x1) : x1.rs = x.rs := H.2.1
theorem Way.sp {x : XS} {r : Nat} {f m : Int} {G : Nat → Int} {x1 : XS} (H : Way x r f m G x1) : x1.sp = x.sp := H.2.2.1
theorem Way.ff {x : XS} {r : Nat} {f m : Int} {G : Nat → Int} {x1 : XS} (H : Way x r f m G x1) : ∀ i, i ≠ r → x1.ff i = x.ff i := H.2.2.2.1
theorem Way.fm {x : XS} {r : Nat} {f m : Int} {G : Nat → Int} {x1 : XS} (H : Way x r f m G x1) : ∀ i, i ≠ r → x1.fm i = x.fm i := H.2.2.2.2.1
theorem Way.PP {x : XS} {r : Nat} {f m : Int} {G : Nat → Int} {x1 : XS} (H : Way x r f m G x1) : ∀ i, i ≠ r → x1.PP i = x.PP i := H.2.2.2.2.2.1
theorem Way.f {x : XS} {r : Nat} {f m : Int} {G : Nat → Int} {x1 : XS} (H : Way x r f m G x1) : x1.ff r = f := H.2.2.2.2.2.2.1
theorem Way.m {x : XS} {r : Nat} {f m : Int} {G : Nat → Int} {x1 : XS} (H : Way x r f m G x1) : x1.fm r = m := H.2.2.2.2.2.2.2.1
theorem Way.p {x : XS} {r : Nat} {f m : Int} {G : Nat → Int} {x1 : XS} (H : Way x r f m G x1) : x1.PP r = G := H.2.2.2.2.2.2.2.2.1
theorem Way.A {x : XS} {r : Nat} {f m : Int} {G : Nat → Int} {x1 : XS} (H : Way x r f m G x1) : x1.A = x.A := H.2.2.2.2.2.2.2.2.2.1
theorem Way.B {x : XS} {r : Nat} {f m : Int} {G : Nat → Int} {x1 : XS} (H : Way x r f m G x1) : x1.B = x.B := H.2.2.2.2.2.2.2.2.2.2
section Way
variable {x x1 : XS} {r : Nat} {f m : Int} {G : Nat → Int}
theorem Way.s1 (K : Way x r f m G x1) (H : Nat → Int) : Way x r f m G (x1.s_l1 H) := K
theorem Way.s2 (K : Way x r f m G x1) (H : Nat → Int) : Way x r f m G (x1.s_l2 H) := K
theorem Way.s3 (K : Way x r f m G x1) (H : Nat → Int) : Way x r f m G (x1.s_l3 H) := K
theorem Way.sP (K : Way x r f m G x1) (H : Nat → Int) : Way x r f m H (x1.s_PP (fu x1.PP r H)) :=
  ⟨K.rc, K.rs, K.sp, K.ff, K.fm, fun i hi => (fu_ne _ _ hi).trans (K.PP i hi), K.f, K.m, fu_eq _ _ _, K.A, K.B⟩
theorem Way.new (x : XS) (r : Nat) (f m : Int) (G : Nat → Int) : Way x r f m G (((x.s_ff (fu x.ff r f)).s_fm (fu x.fm r m)).s_PP (fu x.PP r G)) :=
  ⟨rfl, rfl, rfl, fun i hi => fu_ne _ _ hi, fun i hi => fu_ne _ _ hi, fun i hi => fu_ne _ _ hi, fu_eq _ _ _, fu_eq _ _ _, fu_eq _ _ _, rfl, rfl⟩
theorem Way.ok {v : Vw} (K : Way x v.rc f m G x1) (O : OkX x v) (hG : dig G 192) : OkX x1 v :=
  O.of K.rc K.rs K.sp (fun i hi => K.ff i (by omega)) (fun i hi => K.fm i (by omega)) (fun i hi => K.PP i (by omega)) (fun i hi => by
    by_cases e : i = v.rc
    · rw [e, K.p]; exact hG
    · rw [K.PP i e]; exact O.dg i hi) K.A K.B
theorem Way.fin {v : Vw} {mm : Nat} {W : Nat → Int} (K : Way x v.rc f mm G x1) (O : OkX x v) (h8 : v.rc < 8) (s1 : dig G 192) (s2 : ∀ q, q < mm → wt G q = W q) : OkX (x1.s_rc (x1.rc + 1)) (vNew v f mm W) :=
  O.new h8 (by show x1.rc + 1 = x.rc + 1; rw [K.rc]) K.rs K.sp K.ff K.fm K.PP K.f K.m (by show dig (x1.PP v.rc) 192; rw [K.p]; exact s1) (fun q hq => by show wt (x1.PP v.rc) q = _; rw [K.p]; exact s2 q hq) K.A K.B
variable {d : yD} {b : Nat} {h : yH}
theorem Way.w (K : Way x r f m G x1) (B : AtX d b x1 h) {i : Nat} (hi : i ≠ r) (h8 : i < 8) : h (2 + 2 * i) = some (oO 1 [vi (x.ff i), vi (x.fm i), .ref (b + (3 + 2 * i))]) := by rw [B.w i h8, K.ff i hi, K.fm i hi]
theorem Way.pp (K : Way x r f m G x1) (B : AtX d b x1 h) {i : Nat} (hi : i ≠ r) (h8 : i < 8) : h (3 + 2 * i) = some (oJ d 192 (x.PP i)) := by rw [B.p i h8, K.PP i hi]
end Way
section YfE
variable {p : Program} {l : Launch} {e : Env} {R : Room} {s : State} {m : MethodId} {args : Array Value} {below : List Frame} {meth : Method} {c : Code} {d : yD} {b : Nat} {Q : State → Prop} {cells slots n : Nat} {h : yH}
variable {x : XS} {v : Vw}
set_option maxHeartbeats 1000000 in
theorem Yf_add_end (C : yC p l s m args meth c y_Yf_add b_Yf_add 9 (some .int) [] d b) (hl : yL l) (O : OkX x v) (h8 : v.rc < 8) {f : Int} {mm : Nat} (hm : mm ≤ 48) {post : Option Value → Nat → yH → Prop} {thr : String → Nat → yH → Prop} {W G : Nat → Int} {x1 : XS} {h' : yH} (s1 : dig G 192) (s2 : ∀ q, q < mm → wt G q = W q) (K : Way x v.rc f mm G x1) (B2 : AtX d b x1 h') (F2 : FrX h h') (hp : ∀ h'', PX d b h h'' (vNew v f mm W) → post (some (vi v.rc)) n h'') :
    V p l e (yRm 8 160 64 512) s m args below meth c 9 d b (yEnd below s args d b post thr 64 512) (3 + mm) (18 + 6 * mm) n h' 141 [(0, .ref (b + 0))] [] := by
  refine V_aload_n C d_Yf_add_141 rfl rfl ?_
  refine V_callV C (c_Yf_keepFreeRow hl B2) wc_Yf_keepFreeRow w_Yf_add_142 np_Yf_keepFreeRow ⟨by decide, by decide, by show 3 + mm + 0 ≤ 64; omega, by show 18 + 6 * mm + 0 ≤ 512; omega⟩ B2.o rfl rfl (Nat.le_of_ble_eq_true rfl) d_Yf_add_142 (fun w n1 h1 hq => ?_) (fun Cx n1 h1 hp => hp.elim)
  obtain ⟨rfl, rfl, B3, F3⟩ := hq
  have q2 := hp _ ⟨⟨_, B3, K.fin O h8 s1 s2⟩, fun j hj => (F3 j hj).trans (F2 j hj)⟩
  rw [← O.rc, ← K.rc] at q2
  exact V_ireturn C d_Yf_add_145 (by omega) (by omega) q2
set_option maxHeartbeats 1000000 in
theorem Yf_add_loop (C : yC p l s m args meth c y_Yf_add b_Yf_add 9 (some .int) [] d b) (hl : yL l) (hv : OkV v) (O : OkX x v) {a c0 mm : Nat} (ha : a < v.rc) (hc : c0 < v.rc) (h8 : v.rc < 8) {f : Int} (hf : -9999 ≤ f ∧ f + mm - 1 ≤ 9999) (hm : 1 ≤ mm ∧ mm ≤ 48) {post : Option Value → Nat → yH → Prop} {thr : String → Nat → yH → Prop} {W : Nat → Int} (hW : ∀ q : Nat, W q = wY v a (f + q) + wY v c0 (f + q))
    (ht : ∀ n' h', n ≤ n' → PX d b h h' v → (∃ q, q < mm ∧ ¬ W q < 1000000000 ^ 4) → thr xnM n' h')
    (kk : ∀ (G : Nat → Int) (x1 : XS) (h' : yH), dig G 192 → (∀ q, q < mm → wt G q = W q) → (∀ q, q < mm → W q < 1000000000 ^ 4) → Way x v.rc f mm G x1 → AtX d b x1 h' → FrX h h' → V p l e (yRm 8 160 64 512) s m args below meth c 9 d b (yEnd below s args d b post thr 64 512) (3 + mm) (18 + 6 * mm) n h' 141 [(0, .ref (b + 0))] []) :
    ∀ (j t : Nat) (G : Nat → Int) (x1 : XS) (h' : yH), t + j = mm → dig G 192 → (∀ q, q < t → wt G q = W q) → (∀ q, q < t → W q < 1000000000 ^ 4) → Way x v.rc f mm G x1 → AtX d b x1 h' → FrX h h' →
      V p l e (yRm 8 160 64 512) s m args below meth c 9 d b (yEnd below s args d b post thr 64 512) (3 + t) (18 + 6 * t) n h' 85 [(0, .ref (b + 0)), (3, .ref (b + (2 + 2 * a))), (4, .ref (b + (2 + 2 * c0))), (5, .ref (b + (2 + 2 * v.rc))), (7, vi (f + mm - 1)), (8, vi (f + t))] [] := by
  intro j
  induction j with
  | zero =>
    intro t G x1 h' hj dG hG hB K B F
    have e0 : t = mm := by omega
    subst e0
    refine V_iload C d_Yf_add_85 rfl ?_
    refine V_iload C d_Yf_add_87 rfl ?_
    refine V_icmp_gt (tgt := 141) C d_Yf_add_89 (by decide) (by unfold inI; omega) (by unfold inI; omega) (fun q89 => ?_) (fun q89 => ?_)
    · exact V_loc2 (kk G x1 _ dG hG hB K B F) ⟨rfl, trivial⟩
    · exact absurd q89 (by omega)
  | succ j ih =>
    intro t G x1 h' hj dG hG hB K B F
    refine V_iload C d_Yf_add_85 rfl ?_
    refine V_iload C d_Yf_add_87 rfl ?_
    refine V_icmp_gt (tgt := 141) C d_Yf_add_89 (by decide) (by unfold inI; omega) (by unfold inI; omega) (fun q89 => ?_) (fun q89 => ?_)
    · exact absurd q89 (by omega)
    · refine V_aload_n C d_Yf_add_92 rfl rfl ?_
      refine V_iload C d_Yf_add_93 rfl ?_
      refine V_aload_n C d_Yf_add_95 rfl rfl ?_
      refine V_get C 3 4 B.o rfl in_Yf (by decide) w_Yf_add_96 rfl rfl d_Yf_add_96 ?_
      refine V_callV C (c_Row_read (z := f + t) hl (K.w B (by omega) (by omega)) (K.pp B (by omega) (by omega)) B.o1 B.p1 (by omega) (O.row hv ha) (by unfold inI; omega) (O.dg a (by omega))) wc_Row_read w_Yf_add_99 np_Row_read ⟨by decide, by decide, by show 3 + t + 0 ≤ 64; omega, by show 18 + 6 * t + 0 ≤ 512; omega⟩ (K.w B (by omega) (by omega)) rfl rfl (Nat.le_of_ble_eq_true rfl) d_Yf_add_99 (fun v n1 h1 hp => ?_) (fun Cx n1 h1 hp => hp.elim)
      obtain ⟨rfl, rfl, H1, g1, g2, g3, rfl⟩ := hp
      rw [O.rd hv ha] at g3
      have B2 := B.set1 H1
      have K2 := K.s1 H1
      refine V_aload C d_Yf_add_102 rfl ?_
      refine V_iload C d_Yf_add_104 rfl ?_
      refine V_aload_n C d_Yf_add_106 rfl rfl ?_
      refine V_get C 3 5 B2.o rfl in_Yf (by decide) w_Yf_add_107 rfl rfl d_Yf_add_107 ?_
      refine V_callV C (c_Row_read (z := f + t) hl (K2.w B2 (by omega) (by omega)) (K2.pp B2 (by omega) (by omega)) B2.o2 B2.p2 (by omega) (O.row hv hc) (by unfold inI; omega) (O.dg c0 (by omega))) wc_Row_read w_Yf_add_110 np_Row_read ⟨by decide, by decide, by show 3 + t + 0 ≤ 64; omega, by show 18 + 6 * t + 0 ≤ 512; omega⟩ (K2.w B2 (by omega) (by omega)) rfl rfl (Nat.le_of_ble_eq_true rfl) d_Yf_add_110 (fun v n1 h1 hp => ?_) (fun Cx n1 h1 hp => hp.elim)
      obtain ⟨rfl, rfl, H2, g4, g5, g6, rfl⟩ := hp
      rw [O.rd hv hc] at g6
      have B3 := B2.set2 H2
      have K3 := K2.s2 H2
      have p31 : hs (hs h' 24 (oJ d 8 H1)) 26 (oJ d 8 H2) 24 = some (oJ d 8 H1) := hs2a (by omega)
      have p32 : hs (hs h' 24 (oJ d 8 H1)) 26 (oJ d 8 H2) 26 = some (oJ d 8 H2) := hs_eq _ _ _
      have b1 := wY_in hv ha (f + t)
      have b2 := wY_in hv hc (f + t)
      generalize (x1.s_l1 H1).s_l2 H2 = x3 at B3 K3
      refine V_aload_n C d_Yf_add_113 rfl rfl ?_
      refine V_get C 3 4 B3.o rfl in_Yf (by decide) w_Yf_add_114 rfl rfl d_Yf_add_114 ?_
      refine V_aload_n C d_Yf_add_117 rfl rfl ?_
      refine V_get C 3 5 B3.o rfl in_Yf (by decide) w_Yf_add_118 rfl rfl d_Yf_add_118 ?_
      refine V_callV C (c_Who_increase hl B3.o1 p31 B3.o2 p32 (by omega) g1 g4 (by rw [g3, g6]; omega)) wc_Who_increase w_Yf_add_121 np_Who_increase ⟨by decide, by decide, by show 3 + t + 0 ≤ 64; omega, by show 18 + 6 * t + 0 ≤ 512; omega⟩ B3.o1 rfl rfl (Nat.le_of_ble_eq_true rfl) d_Yf_add_121 (fun v n1 h1 hp => ?_) (fun Cx n1 h1 hp => hp.elim)
      obtain ⟨rfl, rfl, H3, g7, g8, rfl⟩ := hp
      rw [g3, g6, ← hW t] at g8
      have B4 := B3.set1 H3
      have K4 := K3.s1 H3
      have p41 : hs (hs (hs h' 24 (oJ d 8 H1)) 26 (oJ d 8 H2)) 24 (oJ d 8 H3) 24 = some (oJ d 8 H3) := hs_eq _ _ _
      generalize x3.s_l1 H3 = x4 at B4 K4
      refine V_aload C d_Yf_add_124 rfl ?_
      refine V_iload C d_Yf_add_126 rfl ?_
      refine V_aload_n C d_Yf_add_128 rfl rfl ?_
      refine V_get C 3 4 B4.o rfl in_Yf (by decide) w_Yf_add_129 rfl rfl d_Yf_add_129 ?_
      refine V_callS C (c_Yf_storeWeight (z := f + t) hl B4 h8 (by rw [K4.f, K4.m]; exact ⟨by omega, by omega, by omega, by omega⟩) (by rw [K4.p]; exact dG) B4.o1 p41 (by omega) g7 (by rw [K4.f, K4.m]; omega)) wc_Yf_storeWeight w_Yf_add_132 np_Yf_storeWeight ⟨by decide, by decide, by show 3 + t + 1 ≤ 64; omega, by show 18 + 6 * t + 6 ≤ 512; omega⟩ rfl (Nat.le_of_ble_eq_true rfl) d_Yf_add_132 (fun v n1 h1 hp => ?_) (fun Cx n1 h1 hp => ?_)
      · obtain ⟨s1, rfl, rfl, G', s2, s3, s4, rfl⟩ := hp
        rw [K4.f, K4.p] at s4
        rw [K4.f, g8] at s3
        rw [g8] at s1
        have e2 : (f + (t : Int) - f).toNat = t := by omega
        rw [e2] at s3 s4
        have B5 := B4.setP h8 G'
        have K5 := K4.sP G'
        generalize x4.s_PP (fu x4.PP v.rc G') = x5 at B5 K5
        refine V_iinc C d_Yf_add_135 rfl rfl (by decide) rfl ?_
        refine V_goto (tgt := 85) C d_Yf_add_138 (by decide) ?_
        refine V_widen (k0 := 3 + (t + 1)) (n0 := 18 + 6 * (t + 1)) (by omega) (by omega) ?_
        refine V_loc2 (ih (t + 1) G' x5 _ (by omega) s2 (fun q hq => ?_) (fun q hq => ?_) K5 B5 ((((F.set (by omega) _).set (by omega) _).set (by omega) _).set (by omega) _)) ⟨rfl, rfl, rfl, rfl, rfl, ?_, trivial⟩
        · by_cases e3 : q = t
          · rw [e3, s3]
          · rw [s4 q e3]; exact hG q (by omega)
        · by_cases e3 : q = t
          · rw [e3]; exact s1
          · exact hB q (by omega)
        · show some (vi (f + (t : Int) + 1)) = some (vi (f + ((t + 1 : Nat) : Int)))
          rw [show f + (t : Int) + 1 = f + ((t + 1 : Nat) : Int) by omega]
      · obtain ⟨s1, rfl, s3, rfl⟩ := hp
        rw [g8] at s1
        exact VT_leave C (fun x hx => absurd hx List.not_mem_nil) (by omega) (by omega) (ht _ _ s3 ⟨⟨_, B4, K4.ok O dG⟩, ((F.set (by omega) _).set (by omega) _).set (by omega) _⟩ ⟨t, by omega, s1⟩)
set_option maxHeartbeats 1000000 in
theorem c_Yf_add (hl : yL l) (hv : OkV v) (A : AtX d b x h) (O : OkX x v) {r r2 : Int} (hr : inI r) (hr2 : inI r2) :
    yM l y_Yf_add b_Yf_add 9 (some .int) 8 160 64 512 d b n h [.ref (b + 0), vi r, vi r2] (fun q n' h' => kAdd v r r2 = 0 ∧ n' = n ∧ q = some (vi v.rc) ∧ PX d b h h' (vAdd v r r2)) (tX d b n h v (fun C => (kAdd v r r2 = 1 ∧ C = xnI) ∨ (kAdd v r r2 = 2 ∧ C = xnS) ∨ (kAdd v r r2 = 3 ∧ C = xnA) ∨ (kAdd v r r2 = 4 ∧ C = xnM))) := by
  refine yM_of hl (by decide +kernel) (Nat.le_of_ble_eq_true rfl) (fun p e s m args below meth c C => ?_)
  have hrc := hv.rc
  refine V_aload_n C d_Yf_add_0 rfl rfl ?_
  refine V_iload_n C d_Yf_add_1 rfl rfl ?_
  refine V_callV C (c_Yf_knownRow hl hv A O hr) wc_Yf_knownRow w_Yf_add_2 np_Yf_knownRow (by decide) A.o rfl rfl (Nat.le_of_ble_eq_true rfl) d_Yf_add_2 (fun v n1 h1 hp => ?_) (fun Cx n1 h1 hp => ?_)
  · obtain ⟨hi, rfl, rfl, rfl⟩ := hp
    refine V_astore_n C d_Yf_add_5 rfl (by decide) rfl ?_
    refine V_aload_n C d_Yf_add_6 rfl rfl ?_
    refine V_iload_n C d_Yf_add_7 rfl rfl ?_
    refine V_callV C (c_Yf_knownRow hl hv A O hr2) wc_Yf_knownRow w_Yf_add_8 np_Yf_knownRow (by decide) A.o rfl rfl (Nat.le_of_ble_eq_true rfl) d_Yf_add_8 (fun v n1 h1 hp => ?_) (fun Cx n1 h1 hp => ?_)
    · obtain ⟨hi2, rfl, rfl, rfl⟩ := hp
      have k1 : ¬ ¬ (isR v r ∧ isR v r2) := fun q => q ⟨hi, hi2⟩
      refine V_astore C d_Yf_add_11 (by decide) rfl ?_
      refine V_aload_n C d_Yf_add_13 rfl rfl ?_
      refine V_callV C (c_Yf_freeRow hl hv A O) wc_Yf_freeRow w_Yf_add_14 np_Yf_freeRow (by decide) A.o rfl rfl (Nat.le_of_ble_eq_true rfl) d_Yf_add_14 (fun v n1 h1 hp => ?_) (fun Cx n1 h1 hp => ?_)
      · obtain ⟨h8, rfl, rfl, rfl⟩ := hp
        have ha : r.toNat < v.rc := by have := hi.1; have := hi.2; omega
        have hc : r2.toNat < v.rc := by have := hi2.1; have := hi2.2; omega
        have wa := A.w r.toNat (by omega)
        have wc := A.w r2.toNat (by omega)
        rw [O.ff _ ha, O.fm _ ha] at wa
        rw [O.ff _ hc, O.fm _ hc] at wc
        obtain ⟨a1, a2, a3, a4⟩ := hv.ok _ ha
        obtain ⟨c1, c2, c3, c4⟩ := hv.ok _ hc
        have eF : min (v.F r.toNat) (v.F r2.toNat) = adF v r.toNat r2.toNat := rfl
        have eL : max (v.F r.toNat + v.M r.toNat - 1) (v.F r2.toNat + v.M r2.toNat - 1) = adL v r.toNat r2.toNat := rfl
        have hF : -9999 ≤ adF v r.toNat r2.toNat ∧ adF v r.toNat r2.toNat ≤ 9999 := by rw [← eF]; omega
        have hL : adF v r.toNat r2.toNat ≤ adL v r.toNat r2.toNat ∧ adL v r.toNat r2.toNat ≤ 9999 := by rw [← eF, ← eL]; omega
        refine V_astore C d_Yf_add_17 (by decide) rfl ?_
        refine V_aload_n C d_Yf_add_19 rfl rfl ?_
        refine V_getN C 1 0 wa rfl in_Row (by decide) w_Yf_add_20 rfl rfl d_Yf_add_20 ?_
        refine V_aload C d_Yf_add_23 rfl ?_
        refine V_getN C 1 0 wc rfl in_Row (by decide) w_Yf_add_25 rfl rfl d_Yf_add_25 ?_
        refine V_callS C (c_Jmin hl (x := v.F r.toNat) (z := v.F r2.toNat) (by unfold inI; omega) (by unfold inI; omega)) wc_Jmin w_Yf_add_28 np_Jmin (by decide) rfl (Nat.le_of_ble_eq_true rfl) d_Yf_add_28 (fun v n1 h1 hp => ?_) (fun Cx n1 h1 hp => hp.elim)
        obtain ⟨rfl, rfl, rfl⟩ := hp
        rw [eF]
        refine V_istore C d_Yf_add_31 (by decide) rfl ?_
        refine V_aload_n C d_Yf_add_33 rfl rfl ?_
        refine V_callV C (c_Row_last hl wa) wc_Row_last w_Yf_add_34 np_Row_last (by decide) wa rfl rfl (Nat.le_of_ble_eq_true rfl) d_Yf_add_34 (fun v n1 h1 hp => ?_) (fun Cx n1 h1 hp => hp.elim)
        obtain ⟨rfl, rfl, rfl⟩ := hp
        refine V_aload C d_Yf_add_37 rfl ?_
        refine V_callV C (c_Row_last hl wc) wc_Row_last w_Yf_add_39 np_Row_last (by decide) wc rfl rfl (Nat.le_of_ble_eq_true rfl) d_Yf_add_39 (fun v n1 h1 hp => ?_) (fun Cx n1 h1 hp => hp.elim)
        obtain ⟨rfl, rfl, rfl⟩ := hp
        refine V_callS C (c_Jmax hl (x := v.F r.toNat + v.M r.toNat - 1) (z := v.F r2.toNat + v.M r2.toNat - 1) (by unfold inI; omega) (by unfold inI; omega)) wc_Jmax w_Yf_add_42 np_Jmax (by decide) rfl (Nat.le_of_ble_eq_true rfl) d_Yf_add_42 (fun v n1 h1 hp => ?_) (fun Cx n1 h1 hp => hp.elim)
        obtain ⟨rfl, rfl, rfl⟩ := hp
        rw [eL]
        refine V_istore C d_Yf_add_45 (by decide) rfl ?_
        refine V_iload C d_Yf_add_47 rfl ?_
        refine V_iload C d_Yf_add_49 rfl ?_
        refine V_isub C d_Yf_add_51 ?_
        refine V_bipush (z := 48) C d_Yf_add_52 rfl ?_
        refine V_icmp_lt (tgt := 67) C d_Yf_add_54 (by decide) (by unfold inI; omega) (by unfold inI; omega) (fun q54 => ?_) (fun q54 => ?_)
        · have eM : ((adM v r.toNat r2.toNat : Nat) : Int) = adL v r.toNat r2.toNat - adF v r.toNat r2.toNat + 1 := by unfold adM; omega
          refine V_aload C d_Yf_add_67 rfl ?_
          refine V_iload C d_Yf_add_69 rfl ?_
          refine V_iload C d_Yf_add_71 rfl ?_
          refine V_iload C d_Yf_add_73 rfl ?_
          refine V_isub C d_Yf_add_75 ?_
          refine V_iconst C d_Yf_add_76 rfl ?_
          refine V_iadd C d_Yf_add_77 ?_
          rw [← eM]
          refine V_callV C (c_Row_open (f1 := adF v r.toNat r2.toNat) (m1 := (adM v r.toNat r2.toNat : Nat)) hl (A.w _ h8) (A.p _ h8)) wc_Row_open w_Yf_add_78 np_Row_open (by decide) (A.w _ h8) rfl rfl (Nat.le_of_ble_eq_true rfl) d_Yf_add_78 (fun v n1 h1 hp => ?_) (fun Cx n1 h1 hp => hp.elim)
          obtain ⟨rfl, rfl, G, g1, rfl⟩ := hp
          have B := (A.setW h8 (adF v r.toNat r2.toNat) (adM v r.toNat r2.toNat : Nat)).setP h8 G
          have K := Way.new x v.rc (adF v r.toNat r2.toNat) (adM v r.toNat r2.toNat : Nat) G
          have B' : AtX d b (((x.s_ff (fu x.ff v.rc (adF v r.toNat r2.toNat))).s_fm (fu x.fm v.rc (adM v r.toNat r2.toNat : Nat))).s_PP (fu x.PP v.rc G)) _ := B
          generalize ((x.s_ff (fu x.ff v.rc (adF v r.toNat r2.toNat))).s_fm (fu x.fm v.rc (adM v r.toNat r2.toNat : Nat))).s_PP (fu x.PP v.rc G) = x1 at B' K
          have kno : ¬ 48 ≤ adL v r.toNat r2.toNat - adF v r.toNat r2.toNat := by omega
          have hthr : ∀ n' h', n1 ≤ n' → PX d b h1 h' v → (∃ q, q < adM v r.toNat r2.toNat ∧ ¬ adW v r.toNat r2.toNat q < 1000000000 ^ 4) → tX d b n1 h1 v (fun C => (kAdd v r r2 = 1 ∧ C = xnI) ∨ (kAdd v r r2 = 2 ∧ C = xnS) ∨ (kAdd v r r2 = 3 ∧ C = xnA) ∨ (kAdd v r r2 = 4 ∧ C = xnM)) xnM n' h' := fun n' h' t1 t2 ⟨q, t4, t5⟩ => ⟨Or.inr (Or.inr (Or.inr ⟨by unfold kAdd; rw [if_neg k1, if_neg (by omega), if_neg kno, if_neg (fun w => t5 (w q t4))], rfl⟩)), t1, t2⟩
          refine V_iload C d_Yf_add_81 rfl ?_
          refine V_istore C d_Yf_add_83 (by decide) rfl ?_
          refine V_loc2 (Yf_add_loop (h := h1) (W := adW v r.toNat r2.toNat) C hl hv O ha hc h8 ⟨hF.1, by omega⟩ ⟨by omega, by omega⟩ (fun q => rfl) hthr (fun G' x2 h' s1 s2 s3 K2 B2 F2 => ?_) (adM v r.toNat r2.toNat) 0 G x1 _ (by omega) (fun t ht => by rw [g1 t ht]; omega) (fun q hq => absurd hq (by omega)) (fun q hq => absurd hq (by omega)) K B' ((FrX.rfl.set (by omega) _).set (by omega) _)) ⟨rfl, rfl, rfl, rfl, ?_, ?_, trivial⟩
          · exact Yf_add_end C hl O h8 (by omega) s1 s2 K2 B2 F2 (fun h'' q => ⟨by unfold kAdd; rw [if_neg k1, if_neg (by omega), if_neg kno, if_pos s3], rfl, rfl, q⟩)
          · show some (vi (adL v r.toNat r2.toNat)) = some (vi (adF v r.toNat r2.toNat + (adM v r.toNat r2.toNat : Nat) - 1))
            rw [show adL v r.toNat r2.toNat = adF v r.toNat r2.toNat + (adM v r.toNat r2.toNat : Nat) - 1 by omega]
          · show some (vi (adF v r.toNat r2.toNat)) = some (vi (adF v r.toNat r2.toNat + ((0 : Nat) : Int)))
            rw [show adF v r.toNat r2.toNat + ((0 : Nat) : Int) = adF v r.toNat r2.toNat by omega]
        · exact V_throwS (text := "the sum would have more than 48 years") C (by decide) w_Yf_add_57 xi_A xa_A xg_A (by decide +kernel) d_Yf_add_57 d_Yf_add_60 d_Yf_add_61 d_Yf_add_63 d_Yf_add_66 (fun x hx => absurd hx List.not_mem_nil) (by decide) (by omega) (by omega) (fun n' hn => ⟨Or.inr (Or.inr (Or.inl ⟨by unfold kAdd; rw [if_neg k1, if_neg (by omega), if_pos (by omega)], rfl⟩)), hn, ⟨x, A, O⟩, FrX.rfl⟩)
      · obtain ⟨h1, rfl, h3, rfl⟩ := hp
        exact VT_leave C (fun x hx => absurd hx List.not_mem_nil) (by omega) (by omega) ⟨Or.inr (Or.inl ⟨by unfold kAdd; rw [if_neg k1, if_pos (by omega)], rfl⟩), h3, ⟨x, A, O⟩, FrX.rfl⟩
    · obtain ⟨h1, rfl, h3, rfl⟩ := hp
      exact VT_leave C (fun x hx => absurd hx List.not_mem_nil) (by omega) (by omega) ⟨Or.inl ⟨by unfold kAdd; rw [if_pos (fun q => h1 q.2)], rfl⟩, h3, ⟨x, A, O⟩, FrX.rfl⟩
  · obtain ⟨h1, rfl, h3, rfl⟩ := hp
    exact VT_leave C (fun x hx => absurd hx List.not_mem_nil) (by omega) (by omega) ⟨Or.inl ⟨by unfold kAdd; rw [if_pos (fun q => h1 q.1)], rfl⟩, h3, ⟨x, A, O⟩, FrX.rfl⟩
end YfE
