section ModI
variable {p : Program} {l : Launch} {e : Env} {R : Room} {s : State} {m : MethodId} {args : Array Value} {below : List Frame} {meth : Method} {c : Code} {d : yD} {b : Nat} {Q : State → Prop} {cells slots n : Nat} {h : yH}
variable {y0 : YS} {v : Vw}
set_option maxHeartbeats 1000000 in
theorem Mod_add_mid (C : yC p l s m args meth c y_Mod_add b_Mod_add 8 (some .int) [] d b) (hl : yL l) (hv : OkV v) (A : AtM d b y0 h) (O : OkM y0 v) {r r2 f la : Int} (fI : -100000 ≤ f ∧ f ≤ 100000) (lI : -100000 ≤ la ∧ la ≤ 100000) (hkn : isR v r ∧ isR v r2 → f = adF v r.toNat r2.toNat ∧ la = adL v r.toNat r2.toNat) {z : Int} (hz : z = bi (isR v r ∧ isR v r2)) :
    V p l e (yRm 4 120 0 0) s m args below meth c 8 d b (yEnd below s args d b (fun q n' h' => n' = n ∧ ∃ a, q = some (vi a) ∧ mR d b h v (kAdd v r r2) (vAdd v r r2) a v.rc h') noT 0 0) 0 0 n h 114 [(0, .ref (b + 29)), (1, vi r), (2, vi r2), (3, vi z), (4, vi f), (5, vi la)] [] := by
  have hrc := hv.rc
  have e1 := O.rc
  have go : ∀ z2 z3 : Int, z2 = bi (v.rc < 8) → z3 = bi (la - f < 48) → V p l e (yRm 4 120 0 0) s m args below meth c 8 d b (yEnd below s args d b (fun q n' h' => n' = n ∧ ∃ a, q = some (vi a) ∧ mR d b h v (kAdd v r r2) (vAdd v r r2) a v.rc h') noT 0 0) 0 0 n h 145 [(0, .ref (b + 29)), (1, vi r), (2, vi r2), (4, vi f), (5, vi la)] [vi z3, vi z2, vi z, .ref (b + 29)] := fun z2 z3 hz2 hz3 => by
    refine V_iconst C d_Mod_add_145 rfl ?_
    refine V_callV C (c_Mod_goes hl A (bi_z hz) (bi_z hz2) (bi_z hz3) (z4 := 1) (by unfold inI; omega)) wc_Mod_goes w_Mod_add_146 np_Mod_goes (by decide) A.o rfl rfl (Nat.le_of_ble_eq_true rfl) d_Mod_add_146 (fun v n1 h1 hp => ?_) (fun Cx n1 h1 hp => hp.elim)
    obtain ⟨rfl, rfl, A1, F1⟩ := hp
    rw [hz, hz2, hz3, kG_b3] at A1 ⊢
    have O1 := O.sTh (((if ¬ (isR v r ∧ isR v r2) then 1 else if ¬ v.rc < 8 then 2 else if ¬ la - f < 48 then 3 else 0 : Nat)) : Int)
    by_cases q1 : isR v r ∧ isR v r2
    · rw [if_neg (c := ¬ (isR v r ∧ isR v r2)) (fun w => w q1)] at A1 O1 ⊢
      obtain ⟨rfl, rfl⟩ := hkn q1
      by_cases q2 : v.rc < 8
      · rw [if_neg (c := ¬ v.rc < 8) (fun w => w q2)] at A1 O1 ⊢
        by_cases q3 : adL v r.toNat r2.toNat - adF v r.toNat r2.toNat < 48
        · rw [if_neg (c := ¬ adL v r.toNat r2.toNat - adF v r.toNat r2.toNat < 48) (fun w => w q3)] at A1 O1 ⊢
          have ha : r.toNat < v.rc := by have := q1.1.1; have := q1.1.2; omega
          have hc : r2.toNat < v.rc := by have := q1.2.1; have := q1.2.2; omega
          obtain ⟨a1, a2, a3, a4⟩ := hv.ok _ ha
          obtain ⟨c1, c2, c3, c4⟩ := hv.ok _ hc
          have eF : min (v.F r.toNat) (v.F r2.toNat) = adF v r.toNat r2.toNat := rfl
          have eL : max (v.F r.toNat + v.M r.toNat - 1) (v.F r2.toNat + v.M r2.toNat - 1) = adL v r.toNat r2.toNat := rfl
          have hF : -9999 ≤ adF v r.toNat r2.toNat ∧ adF v r.toNat r2.toNat ≤ 9999 := by rw [← eF]; omega
          have hL : adF v r.toNat r2.toNat ≤ adL v r.toNat r2.toNat ∧ adL v r.toNat r2.toNat ≤ 9999 := by rw [← eF, ← eL]; omega
          have eM : ((adM v r.toNat r2.toNat : Nat) : Int) = adL v r.toNat r2.toNat - adF v r.toNat r2.toNat + 1 := by unfold adM; omega
          have hro : rowOk (adF v r.toNat r2.toNat) (adM v r.toNat r2.toNat : Nat) := ⟨by omega, by omega, by omega, by omega⟩
          refine V_if_ne (tgt := 154) C d_Mod_add_149 (by decide) (bi_z rfl) (fun q149 => ?_) (fun q149 => ?_)
          · refine V_aload_n C d_Mod_add_154 rfl rfl ?_
            refine V_iload C d_Mod_add_155 rfl ?_
            refine V_iload C d_Mod_add_157 rfl ?_
            refine V_iload C d_Mod_add_159 rfl ?_
            refine V_isub C d_Mod_add_161 ?_
            refine V_iconst C d_Mod_add_162 rfl ?_
            refine V_iadd C d_Mod_add_163 ?_
            refine V_callV C (c_Mod_open' hl hv A1 O1 q2 (f := adF v r.toNat r2.toNat) (mm := adM v r.toNat r2.toNat) (by omega) eM) wc_Mod_open w_Mod_add_164 np_Mod_open (by decide) A1.o rfl rfl (Nat.le_of_ble_eq_true rfl) d_Mod_add_164 (fun w n2 h2 hp => ?_) (fun Cx n1 h1 hp => hp.elim)
            obtain ⟨rfl, rfl, F2, y2, A2, O2, -⟩ := hp
            refine V_iconst C d_Mod_add_167 rfl ?_
            refine V_istore C d_Mod_add_168 (by decide) rfl ?_
            refine V_iload C d_Mod_add_170 rfl ?_
            refine V_istore C d_Mod_add_172 (by decide) rfl ?_
            refine V_loc2 (Mod_add_loop (h := h) (W := adW v r.toNat r2.toNat) C hl hv q2 q1.1 q1.2 hro (fun q => rfl) (fun w W' y3 h' d1 d2 d3 O3 A3 F3 => ?_) (adM v r.toNat r2.toNat) 0 1 (fun _ => 0) y2 _ (by omega) (Or.inr rfl) ⟨fun _ k hk => absurd hk (by omega), fun _ => rfl⟩ (fun q hq => absurd hq (by omega)) (fun q hq => ⟨Int.le_refl _, by show (0 : Int) < _; omega⟩) O2 A2 (F1.tr F2)) ⟨rfl, rfl, rfl, ?_, rfl, ?_, trivial⟩
            · refine Mod_add_end (h := h) C hl O3 A3 F3 d1 (fun w1 h'' f1 rep => ⟨rfl, _, rfl, f1, fun _ => ⟨?_, rfl⟩, fun q => absurd ?_ q⟩) (fun w0 h'' f1 rep => ⟨rfl, _, rfl, f1, fun q => absurd q ?_, fun _ => ?_⟩)
              · have all := d2.mp w1
                obtain ⟨y4, A4, O4, t4⟩ := rep
                refine ⟨y4, A4, ⟨O4.rc, O4.rs, O4.sp, O4.ff, O4.fm, fun i hi q hq => ?_, O4.dg, O4.sa, O4.sb⟩, t4⟩
                rw [O4.ww i hi q hq]
                show fu v.W v.rc W' i q = fu v.W v.rc (adW v r.toNat r2.toNat) i q
                by_cases e5 : i = v.rc
                · rw [e5, fu_eq, fu_eq]
                  have hq' : q < fu v.M v.rc (adM v r.toNat r2.toNat) i := hq
                  rw [e5, fu_eq] at hq'
                  exact d3 q hq' (all q hq')
                · rw [fu_ne _ _ e5, fu_ne _ _ e5]
              · unfold kAdd
                rw [if_neg (fun w => w q1), if_neg (by omega), if_neg (by omega), if_pos (d2.mp w1)]
              · unfold kAdd
                rw [if_neg (fun w => w q1), if_neg (by omega), if_neg (by omega), if_neg (fun w => by have := d2.mpr w; omega)]
                omega
              · have : kAdd v r r2 = 4 := by
                  unfold kAdd
                  rw [if_neg (fun w => w q1), if_neg (by omega), if_neg (by omega), if_neg (fun w => by have := d2.mpr w; omega)]
                rw [this]; exact rep
            · show some (vi (adL v r.toNat r2.toNat)) = some (vi (adF v r.toNat r2.toNat + (adM v r.toNat r2.toNat : Nat) - 1))
              rw [show adL v r.toNat r2.toNat = adF v r.toNat r2.toNat + (adM v r.toNat r2.toNat : Nat) - 1 by omega]
            · show some (vi (adF v r.toNat r2.toNat)) = some (vi (adF v r.toNat r2.toNat + ((0 : Nat) : Int)))
              rw [show adF v r.toNat r2.toNat + ((0 : Nat) : Int) = adF v r.toNat r2.toNat by omega]
          · exact absurd q149 (by decide)
        · rw [if_pos (c := ¬ adL v r.toNat r2.toNat - adF v r.toNat r2.toNat < 48) q3] at A1 O1 ⊢
          have kk : kAdd v r r2 = 3 := by unfold kAdd; rw [if_neg (fun w => w q1), if_neg (by omega), if_pos (by omega)]
          refine V_if_ne (tgt := 154) C d_Mod_add_149 (by decide) (bi_z rfl) (fun q149 => ?_) (fun q149 => ?_)
          · exact absurd rfl q149
          · refine V_iconst C d_Mod_add_152 rfl ?_
            exact V_ireturn C d_Mod_add_153 (Nat.le_refl _) (Nat.le_refl _) ⟨rfl, 0, rfl, F1, fun q => absurd q (by omega), fun _ => by rw [kk]; exact ⟨_, A1, O1, rfl⟩⟩
      · rw [if_pos (c := ¬ v.rc < 8) q2] at A1 O1 ⊢
        have kk : kAdd v r r2 = 2 := by unfold kAdd; rw [if_neg (fun w => w q1), if_pos (by omega)]
        refine V_if_ne (tgt := 154) C d_Mod_add_149 (by decide) (bi_z rfl) (fun q149 => ?_) (fun q149 => ?_)
        · exact absurd rfl q149
        · refine V_iconst C d_Mod_add_152 rfl ?_
          exact V_ireturn C d_Mod_add_153 (Nat.le_refl _) (Nat.le_refl _) ⟨rfl, 0, rfl, F1, fun q => absurd q (by omega), fun _ => by rw [kk]; exact ⟨_, A1, O1, rfl⟩⟩
    · rw [if_pos (c := ¬ (isR v r ∧ isR v r2)) q1] at A1 O1 ⊢
      have kk : kAdd v r r2 = 1 := by unfold kAdd; rw [if_pos q1]
      refine V_if_ne (tgt := 154) C d_Mod_add_149 (by decide) (bi_z rfl) (fun q149 => ?_) (fun q149 => ?_)
      · exact absurd rfl q149
      · refine V_iconst C d_Mod_add_152 rfl ?_
        exact V_ireturn C d_Mod_add_153 (Nat.le_refl _) (Nat.le_refl _) ⟨rfl, 0, rfl, F1, fun q => absurd q (by omega), fun _ => by rw [kk]; exact ⟨_, A1, O1, rfl⟩⟩
  have go2 : ∀ z2 : Int, z2 = bi (v.rc < 8) → V p l e (yRm 4 120 0 0) s m args below meth c 8 d b (yEnd below s args d b (fun q n' h' => n' = n ∧ ∃ a, q = some (vi a) ∧ mR d b h v (kAdd v r r2) (vAdd v r r2) a v.rc h') noT 0 0) 0 0 n h 130 [(0, .ref (b + 29)), (1, vi r), (2, vi r2), (4, vi f), (5, vi la)] [vi z2, vi z, .ref (b + 29)] := fun z2 hz2 => by
    refine V_iload C d_Mod_add_130 rfl ?_
    refine V_iload C d_Mod_add_132 rfl ?_
    refine V_isub C d_Mod_add_134 ?_
    refine V_bipush (z := 48) C d_Mod_add_135 rfl ?_
    refine V_icmp_ge (tgt := 144) C d_Mod_add_137 (by decide) (by unfold inI; omega) (by unfold inI; omega) (fun q137 => ?_) (fun q137 => ?_)
    · refine V_iconst C d_Mod_add_144 rfl ?_
      exact go z2 0 hz2 (bi_n (by omega)).symm
    · refine V_iconst C d_Mod_add_140 rfl ?_
      refine V_goto (tgt := 145) C d_Mod_add_141 (by decide) ?_
      exact go z2 1 hz2 (bi_1 (by omega)).symm
  refine V_aload_n C d_Mod_add_114 rfl rfl ?_
  refine V_iload_n C d_Mod_add_115 rfl rfl ?_
  refine V_aload_n C d_Mod_add_116 rfl rfl ?_
  refine V_get C 4 1 A.o rfl in_Mod (by decide) w_Mod_add_117 rfl rfl d_Mod_add_117 ?_
  refine V_bipush (z := 8) C d_Mod_add_120 rfl ?_
  refine V_icmp_ge (tgt := 129) C d_Mod_add_122 (by decide) (by unfold inI; omega) (by unfold inI; omega) (fun q122 => ?_) (fun q122 => ?_)
  · refine V_iconst C d_Mod_add_129 rfl ?_
    exact V_loc2 (go2 0 (bi_n (by omega)).symm) ⟨rfl, rfl, rfl, rfl, rfl, trivial⟩
  · refine V_iconst C d_Mod_add_125 rfl ?_
    refine V_goto (tgt := 130) C d_Mod_add_126 (by decide) ?_
    exact V_loc2 (go2 1 (bi_1 (by omega)).symm) ⟨rfl, rfl, rfl, rfl, rfl, trivial⟩
set_option maxHeartbeats 1000000 in
theorem c_Mod_add (hl : yL l) (hv : OkV v) (A : AtM d b y0 h) (O : OkM y0 v) {r r2 : Int} (hr : inI r) (hr2 : inI r2) : yM l y_Mod_add b_Mod_add 8 (some .int) 4 120 0 0 d b n h [.ref (b + 29), vi r, vi r2] (fun q n' h' => n' = n ∧ ∃ a, q = some (vi a) ∧ mR d b h v (kAdd v r r2) (vAdd v r r2) a v.rc h') noT := by
  refine yM_of hl (by decide +kernel) (Nat.le_of_ble_eq_true rfl) (fun p e s m args below meth c C => ?_)
  have hrc := hv.rc
  have no : ¬ (isR v r ∧ isR v r2) → V p l e (yRm 4 120 0 0) s m args below meth c 8 d b (yEnd below s args d b (fun q n' h' => n' = n ∧ ∃ a, q = some (vi a) ∧ mR d b h v (kAdd v r r2) (vAdd v r r2) a v.rc h') noT 0 0) 0 0 n h 20 [(0, .ref (b + 29)), (1, vi r), (2, vi r2)] [] := fun q => by
    refine V_iconst C d_Mod_add_20 rfl ?_
    refine V_istore_n C d_Mod_add_21 rfl (by decide) rfl ?_
    refine V_iconst C d_Mod_add_22 rfl ?_
    refine V_istore C d_Mod_add_23 (by decide) rfl ?_
    refine V_iconst C d_Mod_add_25 rfl ?_
    refine V_istore C d_Mod_add_26 (by decide) rfl ?_
    refine V_iload_n C d_Mod_add_28 rfl rfl ?_
    refine V_if_eq (tgt := 114) C d_Mod_add_29 (by decide) (by unfold inI; omega) (fun q29 => ?_) (fun q29 => ?_)
    · exact V_loc2 (Mod_add_mid C hl hv A O (f := 0) (la := -1) ⟨by omega, by omega⟩ ⟨by omega, by omega⟩ (fun w => absurd w q) (bi_n q).symm) ⟨rfl, rfl, rfl, rfl, rfl, rfl, trivial⟩
    · exact absurd rfl q29
  refine V_aload_n C d_Mod_add_0 rfl rfl ?_
  refine V_iload_n C d_Mod_add_1 rfl rfl ?_
  refine V_callV C (c_Mod_isRow hl hv A O hr) wc_Mod_isRow w_Mod_add_2 np_Mod_isRow (by decide) A.o rfl rfl (Nat.le_of_ble_eq_true rfl) d_Mod_add_2 (fun v n1 h1 hp => ?_) (fun Cx n1 h1 hp => hp.elim)
  obtain ⟨rfl, rfl, rfl⟩ := hp
  refine V_if_eq (tgt := 20) C d_Mod_add_5 (by decide) (bi_z rfl) (fun q5 => ?_) (fun q5 => ?_)
  · exact V_loc2 (no (fun w => bi_0.mp q5 w.1)) ⟨rfl, rfl, rfl, trivial⟩
  · have g1 : isR v r := by
      by_cases q : isR v r
      · exact q
      · exact absurd (bi_n q) q5
    refine V_aload_n C d_Mod_add_8 rfl rfl ?_
    refine V_iload_n C d_Mod_add_9 rfl rfl ?_
    refine V_callV C (c_Mod_isRow hl hv A O hr2) wc_Mod_isRow w_Mod_add_10 np_Mod_isRow (by decide) A.o rfl rfl (Nat.le_of_ble_eq_true rfl) d_Mod_add_10 (fun v n1 h1 hp => ?_) (fun Cx n1 h1 hp => hp.elim)
    obtain ⟨rfl, rfl, rfl⟩ := hp
    refine V_if_eq (tgt := 20) C d_Mod_add_13 (by decide) (bi_z rfl) (fun q13 => ?_) (fun q13 => ?_)
    · exact V_loc2 (no (fun w => bi_0.mp q13 w.2)) ⟨rfl, rfl, rfl, trivial⟩
    · have g2 : isR v r2 := by
        by_cases q : isR v r2
        · exact q
        · exact absurd (bi_n q) q13
      have ha : r.toNat < v.rc := by have := g1.1; have := g1.2; omega
      have hc : r2.toNat < v.rc := by have := g2.1; have := g2.2; omega
      have r0 := g1.1
      have r0' := g1.2
      have s0 := g2.1
      have s0' := g2.2
      obtain ⟨a1, a2, a3, a4⟩ := hv.ok _ ha
      obtain ⟨c1, c2, c3, c4⟩ := hv.ok _ hc
      have f1 := O.ff _ ha
      have f2 := O.ff _ hc
      have m1 := O.fm _ ha
      have m2 := O.fm _ hc
      have eF : min (v.F r.toNat) (v.F r2.toNat) = adF v r.toNat r2.toNat := rfl
      have eL : max (v.F r.toNat + v.M r.toNat - 1) (v.F r2.toNat + v.M r2.toNat - 1) = adL v r.toNat r2.toNat := rfl
      have fin : ∀ f la : Int, f = adF v r.toNat r2.toNat → la = adL v r.toNat r2.toNat → V p l e (yRm 4 120 0 0) s m args below meth c 8 d b (yEnd below s args d b (fun q n' h' => n' = n1 ∧ ∃ a, q = some (vi a) ∧ mR d b h1 v (kAdd v r r2) (vAdd v r r2) a v.rc h') noT 0 0) 0 0 n1 h1 114 [(0, .ref (b + 29)), (1, vi r), (2, vi r2), (3, vi 1), (4, vi f), (5, vi la)] [] := fun f la h1 h2 =>
        Mod_add_mid C hl hv A O ⟨by rw [h1, ← eF]; omega, by rw [h1, ← eF]; omega⟩ ⟨by rw [h2, ← eL]; omega, by rw [h2, ← eL]; omega⟩ (fun _ => ⟨h1, h2⟩) (bi_1 ⟨g1, g2⟩).symm
      have mid : ∀ f : Int, f = adF v r.toNat r2.toNat → V p l e (yRm 4 120 0 0) s m args below meth c 8 d b (yEnd below s args d b (fun q n' h' => n' = n1 ∧ ∃ a, q = some (vi a) ∧ mR d b h1 v (kAdd v r r2) (vAdd v r r2) a v.rc h') noT 0 0) 0 0 n1 h1 62 [(0, .ref (b + 29)), (1, vi r), (2, vi r2), (3, vi 1)] [vi f] := fun f hf => by
        refine V_istore C d_Mod_add_62 (by decide) rfl ?_
        refine V_aload_n C d_Mod_add_64 rfl rfl ?_
        refine V_get C 4 2 A.o rfl in_Mod (by decide) w_Mod_add_65 rfl rfl d_Mod_add_65 ?_
        refine V_iload_n C d_Mod_add_68 rfl rfl ?_
        refine V_iaload C A.f (by omega) (by omega) (by decide) d_Mod_add_69 ?_
        refine V_aload_n C d_Mod_add_70 rfl rfl ?_
        refine V_get C 4 3 A.o rfl in_Mod (by decide) w_Mod_add_71 rfl rfl d_Mod_add_71 ?_
        refine V_iload_n C d_Mod_add_74 rfl rfl ?_
        refine V_iaload C A.z (by omega) (by omega) (by decide) d_Mod_add_75 ?_
        rw [f1, m1]
        refine V_iadd C d_Mod_add_76 ?_
        refine V_iconst C d_Mod_add_77 rfl ?_
        refine V_isub C d_Mod_add_78 ?_
        refine V_istore C d_Mod_add_79 (by decide) rfl ?_
        refine V_aload_n C d_Mod_add_81 rfl rfl ?_
        refine V_get C 4 2 A.o rfl in_Mod (by decide) w_Mod_add_82 rfl rfl d_Mod_add_82 ?_
        refine V_iload_n C d_Mod_add_85 rfl rfl ?_
        refine V_iaload C A.f (by omega) (by omega) (by decide) d_Mod_add_86 ?_
        refine V_aload_n C d_Mod_add_87 rfl rfl ?_
        refine V_get C 4 3 A.o rfl in_Mod (by decide) w_Mod_add_88 rfl rfl d_Mod_add_88 ?_
        refine V_iload_n C d_Mod_add_91 rfl rfl ?_
        refine V_iaload C A.z (by omega) (by omega) (by decide) d_Mod_add_92 ?_
        rw [f2, m2]
        refine V_iadd C d_Mod_add_93 ?_
        refine V_iconst C d_Mod_add_94 rfl ?_
        refine V_isub C d_Mod_add_95 ?_
        refine V_istore C d_Mod_add_96 (by decide) rfl ?_
        refine V_iload C d_Mod_add_98 rfl ?_
        refine V_iload C d_Mod_add_100 rfl ?_
        refine V_icmp_le (tgt := 110) C d_Mod_add_102 (by decide) (by unfold inI; omega) (by unfold inI; omega) (fun q102 => ?_) (fun q102 => ?_)
        · refine V_iload C d_Mod_add_110 rfl ?_
          refine V_istore C d_Mod_add_112 (by decide) rfl ?_
          exact V_loc2 (fin f _ hf (by rw [← eL]; omega)) ⟨rfl, rfl, rfl, rfl, rfl, rfl, trivial⟩
        · refine V_iload C d_Mod_add_105 rfl ?_
          refine V_goto (tgt := 112) C d_Mod_add_107 (by decide) ?_
          refine V_istore C d_Mod_add_112 (by decide) rfl ?_
          exact V_loc2 (fin f _ hf (by rw [← eL]; omega)) ⟨rfl, rfl, rfl, rfl, rfl, rfl, trivial⟩
      refine V_iconst C d_Mod_add_16 rfl ?_
      refine V_goto (tgt := 21) C d_Mod_add_17 (by decide) ?_
      refine V_istore_n C d_Mod_add_21 rfl (by decide) rfl ?_
      refine V_iconst C d_Mod_add_22 rfl ?_
      refine V_istore C d_Mod_add_23 (by decide) rfl ?_
      refine V_iconst C d_Mod_add_25 rfl ?_
      refine V_istore C d_Mod_add_26 (by decide) rfl ?_
      refine V_iload_n C d_Mod_add_28 rfl rfl ?_
      refine V_if_eq (tgt := 114) C d_Mod_add_29 (by decide) (by unfold inI; omega) (fun q29 => ?_) (fun q29 => ?_)
      · exact absurd q29 (by decide)
      · refine V_aload_n C d_Mod_add_32 rfl rfl ?_
        refine V_get C 4 2 A.o rfl in_Mod (by decide) w_Mod_add_33 rfl rfl d_Mod_add_33 ?_
        refine V_iload_n C d_Mod_add_36 rfl rfl ?_
        refine V_iaload C A.f (by omega) (by omega) (by decide) d_Mod_add_37 ?_
        refine V_aload_n C d_Mod_add_38 rfl rfl ?_
        refine V_get C 4 2 A.o rfl in_Mod (by decide) w_Mod_add_39 rfl rfl d_Mod_add_39 ?_
        refine V_iload_n C d_Mod_add_42 rfl rfl ?_
        refine V_iaload C A.f (by omega) (by omega) (by decide) d_Mod_add_43 ?_
        rw [f1, f2]
        refine V_icmp_ge (tgt := 56) C d_Mod_add_44 (by decide) (by unfold inI; omega) (by unfold inI; omega) (fun q44 => ?_) (fun q44 => ?_)
        · refine V_aload_n C d_Mod_add_56 rfl rfl ?_
          refine V_get C 4 2 A.o rfl in_Mod (by decide) w_Mod_add_57 rfl rfl d_Mod_add_57 ?_
          refine V_iload_n C d_Mod_add_60 rfl rfl ?_
          refine V_iaload C A.f (by omega) (by omega) (by decide) d_Mod_add_61 ?_
          rw [f2]
          exact V_loc2 (mid _ (by rw [← eF]; omega)) ⟨rfl, rfl, rfl, rfl, trivial⟩
        · refine V_aload_n C d_Mod_add_47 rfl rfl ?_
          refine V_get C 4 2 A.o rfl in_Mod (by decide) w_Mod_add_48 rfl rfl d_Mod_add_48 ?_
          refine V_iload_n C d_Mod_add_51 rfl rfl ?_
          refine V_iaload C A.f (by omega) (by omega) (by decide) d_Mod_add_52 ?_
          rw [f1]
          refine V_goto (tgt := 62) C d_Mod_add_53 (by decide) ?_
          exact V_loc2 (mid _ (by rw [← eF]; omega)) ⟨rfl, rfl, rfl, rfl, trivial⟩
end ModI
