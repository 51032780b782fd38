section ModJ
variable {p : Program} {l : Launch} {e : Env} {R : Room} {s : State} {m : MethodId} {args : Array Value} {below : List Frame} {meth : Method} {c : Code} {d : yD} {b : Nat} {Q : State → Prop} {cells slots n : Nat} {h : yH}
variable {y0 : YS} {v : Vw}
set_option maxHeartbeats 1000000 in
theorem Mod_times_end (C : yC p l s m args meth c y_Mod_times b_Mod_times 11 (some .int) [] d b) (hl : yL l) {f w z : Int} {mm : Nat} {W : Nat → Int} {h' : yH} {post : Option Value → Nat → yH → Prop} (O : OkM y0 (vNew v f mm W)) (A : AtM d b y0 h') (F : FrM h h') (hw : w = 0 ∨ w = 1)
    (hp1 : w = 1 → ∀ h'', FrM h h'' → RepM d b h'' ((vNew v f mm W).s_rs z) 0 → post (some (vi v.rc)) n h'') (hp0 : w = 0 → ∀ h'', FrM h h'' → RepM d b h'' v 4 → post (some (vi 0)) n h'') :
    V p l e (yRm 4 120 0 0) s m args below meth c 11 d b (yEnd below s args d b post noT 0 0) 0 0 n h' 255 [(0, .ref (b + 29)), (7, vi w), (8, vj z)] [] := by
  have rc : y0.rc = v.rc + 1 := O.rc
  refine V_aload_n C d_Mod_times_255 rfl rfl ?_
  refine V_iload C d_Mod_times_256 rfl ?_
  refine V_if_eq (tgt := 268) C d_Mod_times_258 (by decide) (by unfold inI; omega) (fun q258 => ?_) (fun q258 => ?_)
  · have A1 := A.setRc v.rc
    have A1' := A1.setRs y0.rs
    refine V_aload_n C d_Mod_times_268 rfl rfl ?_
    refine V_get C 4 1 A.o rfl in_Mod (by decide) w_Mod_times_269 rfl rfl d_Mod_times_269 ?_
    refine V_iconst C d_Mod_times_272 rfl ?_
    refine V_isub C d_Mod_times_273 ?_
    rw [show (y0.rc : Int) - 1 = (v.rc : Nat) by omega]
    refine V_put (ty := .int) C 4 1 A.o rfl in_Mod t_Mod tok_Mod nm_Mod (by decide) w_Mod_times_274 rfl rfl (by decide +kernel) rfl rfl (Nat.le_of_ble_eq_true rfl) d_Mod_times_274 ?_
    refine V_aload_n C d_Mod_times_277 rfl rfl ?_
    refine V_iload C d_Mod_times_278 rfl ?_
    refine V_if_eq (tgt := 288) C d_Mod_times_280 (by decide) (by unfold inI; omega) (fun q280 => ?_) (fun q280 => ?_)
    · refine V_aload_n C d_Mod_times_288 rfl rfl ?_
      refine V_get C 4 5 A1.o rfl in_Mod (by decide) w_Mod_times_289 rfl rfl d_Mod_times_289 ?_
      refine V_put (ty := .long) C 4 5 A1.o rfl in_Mod t_Mod tok_Mod nm_Mod (by decide) w_Mod_times_292 rfl rfl (by decide +kernel) rfl rfl (Nat.le_of_ble_eq_true rfl) d_Mod_times_292 ?_
      refine V_aload_n C d_Mod_times_295 rfl rfl ?_
      refine V_iconst C d_Mod_times_296 rfl ?_
      refine V_iconst C d_Mod_times_297 rfl ?_
      refine V_iconst C d_Mod_times_298 rfl ?_
      refine V_iload C d_Mod_times_299 rfl ?_
      refine V_callV C (c_Mod_goes hl A1' (z1 := 1) (z2 := 1) (z3 := 1) (z4 := w) (by unfold inI; omega) (by unfold inI; omega) (by unfold inI; omega) ⟨by omega, by omega⟩) wc_Mod_goes w_Mod_times_301 np_Mod_goes (by decide) A1'.o rfl rfl (Nat.le_of_ble_eq_true rfl) d_Mod_times_301 (fun v0 n1 h1 hq => ?_) (fun Cx n1 h1 hp => hp.elim)
      obtain ⟨rfl, rfl, A2, F2⟩ := hq
      have k4 : kG 1 1 1 w = 4 := by rw [q258]; rfl
      rw [k4] at A2 ⊢
      have O2 : OkM (((y0.s_rc v.rc).s_rs y0.rs).s_th 4) v := O.drop
      have fin := hp0 q258 h1 (((F.set (by omega) _).set (by omega) _).tr F2) ⟨_, A2, O2, rfl⟩
      refine V_if_eq (tgt := 316) C d_Mod_times_304 (by decide) (bi_z rfl) (fun q304 => ?_) (fun q304 => ?_)
      · refine V_iconst C d_Mod_times_316 rfl ?_
        exact V_ireturn C d_Mod_times_317 (Nat.le_refl _) (Nat.le_refl _) fin
      · exact absurd rfl q304
    · exact absurd q258 q280
  · have w1 : w = 1 := by omega
    have A1 := A.setRc (v.rc + 1)
    have A1' := A1.setRs z
    refine V_aload_n C d_Mod_times_261 rfl rfl ?_
    refine V_get C 4 1 A.o rfl in_Mod (by decide) w_Mod_times_262 rfl rfl d_Mod_times_262 ?_
    refine V_goto (tgt := 274) C d_Mod_times_265 (by decide) ?_
    rw [show (y0.rc : Int) = ((v.rc + 1 : Nat) : Int) by omega]
    refine V_put (ty := .int) C 4 1 A.o rfl in_Mod t_Mod tok_Mod nm_Mod (by decide) w_Mod_times_274 rfl rfl (by decide +kernel) rfl rfl (Nat.le_of_ble_eq_true rfl) d_Mod_times_274 ?_
    refine V_aload_n C d_Mod_times_277 rfl rfl ?_
    refine V_iload C d_Mod_times_278 rfl ?_
    refine V_if_eq (tgt := 288) C d_Mod_times_280 (by decide) (by unfold inI; omega) (fun q280 => ?_) (fun q280 => ?_)
    · exact absurd q280 q258
    · refine V_lload C d_Mod_times_283 rfl ?_
      refine V_goto (tgt := 292) C d_Mod_times_285 (by decide) ?_
      refine V_put (ty := .long) C 4 5 A1.o rfl in_Mod t_Mod tok_Mod nm_Mod (by decide) w_Mod_times_292 rfl rfl (by decide +kernel) rfl rfl (Nat.le_of_ble_eq_true rfl) d_Mod_times_292 ?_
      refine V_aload_n C d_Mod_times_295 rfl rfl ?_
      refine V_iconst C d_Mod_times_296 rfl ?_
      refine V_iconst C d_Mod_times_297 rfl ?_
      refine V_iconst C d_Mod_times_298 rfl ?_
      refine V_iload C d_Mod_times_299 rfl ?_
      refine V_callV C (c_Mod_goes hl A1' (z1 := 1) (z2 := 1) (z3 := 1) (z4 := w) (by unfold inI; omega) (by unfold inI; omega) (by unfold inI; omega) ⟨by omega, by omega⟩) wc_Mod_goes w_Mod_times_301 np_Mod_goes (by decide) A1'.o rfl rfl (Nat.le_of_ble_eq_true rfl) d_Mod_times_301 (fun v0 n1 h1 hq => ?_) (fun Cx n1 h1 hp => hp.elim)
      obtain ⟨rfl, rfl, A2, F2⟩ := hq
      have k4 : kG 1 1 1 w = 0 := by rw [w1]; rfl
      rw [k4] at A2 ⊢
      have O2 : OkM (((y0.s_rc (v.rc + 1)).s_rs z).s_th 0) ((vNew v f mm W).s_rs z) := ⟨rfl, rfl, O.sp, O.ff, O.fm, O.ww, O.dg, O.sa, O.sb⟩
      have fin := hp1 w1 h1 (((F.set (by omega) _).set (by omega) _).tr F2) ⟨_, A2, O2, rfl⟩
      refine V_if_eq (tgt := 316) C d_Mod_times_304 (by decide) (bi_z rfl) (fun q304 => ?_) (fun q304 => ?_)
      · exact absurd q304 (by decide)
      · refine V_aload_n C d_Mod_times_307 rfl rfl ?_
        refine V_get C 4 1 A2.o rfl in_Mod (by decide) w_Mod_times_308 rfl rfl d_Mod_times_308 ?_
        refine V_iconst C d_Mod_times_311 rfl ?_
        refine V_isub C d_Mod_times_312 ?_
        refine V_goto (tgt := 317) C d_Mod_times_313 (by decide) ?_
        rw [show ((((y0.s_rc (v.rc + 1)).s_rs z).s_th 0).rc : Int) - 1 = (v.rc : Nat) by show ((v.rc + 1 : Nat) : Int) - 1 = _; omega]
        exact V_ireturn C d_Mod_times_317 (Nat.le_refl _) (Nat.le_refl _) fin
set_option maxHeartbeats 1000000 in
theorem Mod_times_loop (C : yC p l s m args meth c y_Mod_times b_Mod_times 11 (some .int) [] d b) (hl : yL l) (hv : OkV v) (h8 : v.rc < 8) {r r2 f u : Int} {mm : Nat} (hr : isR v r) (hr2 : isR v r2) (hro : rowOk f mm) (hu : 1 ≤ u ∧ u ≤ 1000000000) (hin : ∀ t : Nat, t < mm → (v.F r.toNat ≤ f + t ∧ f + t ≤ v.F r.toNat + v.M r.toNat - 1) ∧ v.F r2.toNat ≤ f + t ∧ f + t ≤ v.F r2.toNat + v.M r2.toNat - 1) {P : Nat → Int} (hW : ∀ q : Nat, P q = wY v r.toNat (f + q) * wY v r2.toNat (f + q))
    (kk : ∀ (w : Int) (W' : Nat → Int) (y1 : YS) (h' : yH), (w = 0 ∨ w = 1) → (w = 1 ↔ ∀ q, q < mm → P q / u < 1000000000 ^ 4) → (∀ q, q < mm → P q / u < 1000000000 ^ 4 → W' q = P q / u) → OkM y1 (vNew v f mm W') → AtM d b y1 h' → FrM h h' → V p l e (yRm 4 120 0 0) s m args below meth c 11 d b Q 0 0 n h' 255 [(0, .ref (b + 29)), (7, vi w), (8, vj (sumW (fun q => P q % u) mm))] []) :
    ∀ (j t : Nat) (w : Int) (W' : Nat → Int) (y1 : YS) (h' : yH), t + j = mm → (w = 0 ∨ w = 1) → (w = 1 ↔ ∀ q, q < t → P q / u < 1000000000 ^ 4) → (∀ q, q < t → P q / u < 1000000000 ^ 4 → W' q = P q / u) → (∀ q, q < mm → 0 ≤ W' q ∧ W' q < 1000000000 ^ 4) → OkM y1 (vNew v f mm W') → AtM d b y1 h' → FrM h h' →
      V p l e (yRm 4 120 0 0) s m args below meth c 11 d b Q 0 0 n h' 187 [(0, .ref (b + 29)), (1, vi r), (2, vi r2), (3, vi u), (6, vi (f + mm - 1)), (7, vi w), (8, vj (sumW (fun q => P q % u) t)), (10, vi (f + t))] [] := by
  obtain ⟨o1, o2, o3, o4⟩ := id hro
  have hrc := hv.rc
  intro j
  induction j with
  | zero =>
    intro t w W' y1 h' hj hw hw2 hw3 hW' O A F
    have e0 : t = mm := by omega
    subst e0
    refine V_iload C d_Mod_times_187 rfl ?_
    refine V_iload C d_Mod_times_189 rfl ?_
    refine V_icmp_gt (tgt := 255) C d_Mod_times_191 (by decide) (by unfold inI; omega) (by unfold inI; omega) (fun q191 => ?_) (fun q191 => ?_)
    · exact V_loc2 (kk w W' y1 h' hw hw2 hw3 O A F) ⟨rfl, rfl, rfl, trivial⟩
    · exact absurd q191 (by omega)
  | succ j ih =>
    intro t w W' y1 h' hj hw hw2 hw3 hW' O A F
    have hv1 := hv.new h8 hro hW'
    obtain ⟨i1, i2⟩ := hin t (by omega)
    obtain ⟨a1, a2, a3, a4, a5⟩ := OkM.pl (y0 := y1) hv (r := r) (z := f + t) ⟨hr, i1⟩
    obtain ⟨b1, b2, b3, b4, b5⟩ := OkM.pl (y0 := y1) hv (r := r2) (z := f + t) ⟨hr2, i2⟩
    have f1 : y1.fs r.toNat = v.F r.toNat := (O.ff r.toNat (show r.toNat < v.rc + 1 by omega)).trans (fu_ne _ _ (by omega))
    have f2 : y1.fs r2.toNat = v.F r2.toNat := (O.ff r2.toNat (show r2.toNat < v.rc + 1 by omega)).trans (fu_ne _ _ (by omega))
    have w1 : wl (fun k => y1.D (36 * (48 * r.toNat + (f + t - v.F r.toNat).toNat) + k)) 36 = wY v r.toNat (f + t) := by
      rw [O.ww r.toNat (show r.toNat < v.rc + 1 by omega) _ (show _ < fu v.M v.rc mm r.toNat by rw [fu_ne _ _ (by omega)]; exact a2)]
      show fu v.W v.rc W' r.toNat _ = _
      rw [fu_ne _ _ (by omega)]
      exact (if_pos i1).symm
    have w2 : wl (fun k => y1.D (36 * (48 * r2.toNat + (f + t - v.F r2.toNat).toNat) + k)) 36 = wY v r2.toNat (f + t) := by
      rw [O.ww r2.toNat (show r2.toNat < v.rc + 1 by omega) _ (show _ < fu v.M v.rc mm r2.toNat by rw [fu_ne _ _ (by omega)]; exact b2)]
      show fu v.W v.rc W' r2.toNat _ = _
      rw [fu_ne _ _ (by omega)]
      exact (if_pos i2).symm
    have r0 := hr.1
    have s0 := hr2.1
    refine V_iload C d_Mod_times_187 rfl ?_
    refine V_iload C d_Mod_times_189 rfl ?_
    refine V_icmp_gt (tgt := 255) C d_Mod_times_191 (by decide) (by unfold inI; omega) (by unfold inI; omega) (fun q191 => ?_) (fun q191 => ?_)
    · exact absurd q191 (by omega)
    · refine V_aload_n C d_Mod_times_194 rfl rfl ?_
      refine V_aload_n C d_Mod_times_195 rfl rfl ?_
      refine V_iload_n C d_Mod_times_196 rfl rfl ?_
      refine V_iload C d_Mod_times_197 rfl ?_
      refine V_callV C (c_Mod_at hl A (r := r) (z := f + t) r0 (by omega) f1) wc_Mod_at w_Mod_times_199 np_Mod_at (by decide) A.o rfl rfl (Nat.le_of_ble_eq_true rfl) d_Mod_times_199 (fun v0 n1 h1 hp => ?_) (fun Cx n1 h1 hp => hp.elim)
      obtain ⟨rfl, rfl, rfl⟩ := hp
      refine V_aload_n C d_Mod_times_202 rfl rfl ?_
      refine V_iload_n C d_Mod_times_203 rfl rfl ?_
      refine V_iload C d_Mod_times_204 rfl ?_
      refine V_callV C (c_Mod_at hl A (r := r2) (z := f + t) s0 (by omega) f2) wc_Mod_at w_Mod_times_206 np_Mod_at (by decide) A.o rfl rfl (Nat.le_of_ble_eq_true rfl) d_Mod_times_206 (fun v0 n1 h1 hp => ?_) (fun Cx n1 h1 hp => hp.elim)
      obtain ⟨rfl, rfl, rfl⟩ := hp
      refine V_callV C (c_Mod_multiply hl A O.dg a5 b5 (by omega) (by omega)) wc_Mod_multiply w_Mod_times_209 np_Mod_multiply (by decide) A.o rfl rfl (Nat.le_of_ble_eq_true rfl) d_Mod_times_209 (fun v0 n2 h2 hp => ?_) (fun Cx n1 h1 hp => hp.elim)
      obtain ⟨rfl, rfl, F1, G1, d1, v1, A1⟩ := hp
      rw [w1, w2, ← hW t] at v1
      refine V_lload C d_Mod_times_212 rfl ?_
      refine V_aload_n C d_Mod_times_214 rfl rfl ?_
      refine V_iload_n C d_Mod_times_215 rfl rfl ?_
      refine V_callV C (c_Mod_divide hl A1 hu d1) wc_Mod_divide w_Mod_times_216 np_Mod_divide (by decide) A1.o rfl rfl (Nat.le_of_ble_eq_true rfl) d_Mod_times_216 (fun v0 n3 h3 hp => ?_) (fun Cx n1 h1 hp => hp.elim)
      obtain ⟨rfl, F2, rfl, G2, d2, v2, A2⟩ := hp
      have v2' : wl G2 80 = P t / u := by rw [v2]; show wl G1 80 / u = _; rw [v1]
      rw [show wl (y1.s_wd G1).wd 80 = P t from v1]
      have O3 := (O.sW G1).sW G2
      have w3 : ((y1.s_wd G1).s_wd G2).wd = G2 := rfl
      generalize (y1.s_wd G1).s_wd G2 = y3 at A2 O3 w3
      have rc3 : y3.rc = v.rc + 1 := O3.rc
      obtain ⟨hyl, hql⟩ := hasY_last (v := v) (f := f) (W := W') (show t < mm by omega)
      refine V_ladd C d_Mod_times_219 ?_
      refine V_lstore C d_Mod_times_220 (by decide) rfl ?_
      refine V_aload_n C d_Mod_times_222 rfl rfl ?_
      refine V_aload_n C d_Mod_times_223 rfl rfl ?_
      refine V_get C 4 1 A2.o rfl in_Mod (by decide) w_Mod_times_224 rfl rfl d_Mod_times_224 ?_
      refine V_iconst C d_Mod_times_227 rfl ?_
      refine V_isub C d_Mod_times_228 ?_
      rw [show (y3.rc : Int) - 1 = ((v.rc : Nat) : Int) by omega]
      refine V_iload C d_Mod_times_229 rfl ?_
      refine V_callV C (c_Mod_keep hl hv1 A2 O3 (r := (v.rc : Nat)) (z := f + t) hyl (by rw [w3]; exact d2)) wc_Mod_keep w_Mod_times_231 np_Mod_keep (by decide) A2.o rfl rfl (Nat.le_of_ble_eq_true rfl) d_Mod_times_231 (fun v0 n4 h4 hp => ?_) (fun Cx n1 h1 hp => hp.elim)
      obtain ⟨rfl, F4, rfl, y4, A4, O4⟩ := hp
      rw [w3, hql, Int.toNat_natCast, vSet_new] at O4
      rw [w3, v2', t36]
      have b36 := wl_bound (dgt_le d2 (show 36 ≤ 80 by omega))
      have low : P t / u < 1000000000 ^ 4 → wl G2 36 = P t / u := fun q => by
        have q1 : wl G2 (36 + 44) < 10 ^ 36 := by rw [show 36 + 44 = 80 from rfl, v2']; exact q
        have q2 := wl_high (wl_low d2 q1)
        rw [← q2]; exact v2'
      have next : ∀ w' : Int, (w' = 0 ∨ w' = 1) → (w' = 1 ↔ ∀ q, q < t + 1 → P q / u < 1000000000 ^ 4) → V p l e (yRm 4 120 0 0) s m args below meth c 11 d b Q 0 0 n4 h4 247 [(0, .ref (b + 29)), (1, vi r), (2, vi r2), (3, vi u), (6, vi (f + mm - 1)), (8, vj (sumW (fun q => P q % u) t + P t % u)), (10, vi (f + t))] [vi w'] := fun w' c1 c2 => by
        refine V_istore C d_Mod_times_247 (by decide) rfl ?_
        refine V_iinc C d_Mod_times_249 rfl rfl (by decide) rfl ?_
        refine V_goto (tgt := 187) C d_Mod_times_252 (by decide) ?_
        refine V_loc2 (ih (t + 1) w' (fu W' t (wl G2 36)) y4 _ (by omega) c1 c2 (fun q hq hs => ?_) (fun q hq => ?_) O4 A4 (F.tr (F1.tr (F2.tr F4)))) ⟨rfl, rfl, rfl, rfl, rfl, rfl, rfl, ?_, trivial⟩
        · by_cases e1 : q = t
          · subst e1; rw [fu_eq]; exact low hs
          · rw [fu_ne _ _ e1]; exact hw3 q (by omega) hs
        · by_cases e1 : q = t
          · subst e1; rw [fu_eq]; exact b36
          · rw [fu_ne _ _ e1]; exact hW' q hq
        · show some (vi (f + (t : Int) + 1)) = some (vi (f + ((t + 1 : Nat) : Int)))
          rw [show f + (t : Int) + 1 = f + ((t + 1 : Nat) : Int) by omega]
      refine V_if_eq (tgt := 246) C d_Mod_times_234 (by decide) (bi_z rfl) (fun q234 => ?_) (fun q234 => ?_)
      · have hno := bi_0.mp q234
        refine V_iconst C d_Mod_times_246 rfl ?_
        exact V_loc2 (next 0 (Or.inl rfl) ⟨fun q => absurd q (by omega), fun q => absurd (q t (by omega)) hno⟩) ⟨rfl, rfl, rfl, rfl, rfl, rfl, rfl, trivial⟩
      · have hyes : P t / u < 1000000000 ^ 4 := by
          by_cases q : P t / u < 1000000000 ^ 4
          · exact q
          · exact absurd (bi_n q) q234
        refine V_iload C d_Mod_times_237 rfl ?_
        refine V_if_eq (tgt := 246) C d_Mod_times_239 (by decide) (by unfold inI; omega) (fun q239 => ?_) (fun q239 => ?_)
        · refine V_iconst C d_Mod_times_246 rfl ?_
          exact V_loc2 (next 0 (Or.inl rfl) ⟨fun q => absurd q (by omega), fun q => absurd (hw2.mpr (fun k hk => q k (by omega))) (by omega)⟩) ⟨rfl, rfl, rfl, rfl, rfl, rfl, rfl, trivial⟩
        · refine V_iconst C d_Mod_times_242 rfl ?_
          refine V_goto (tgt := 247) C d_Mod_times_243 (by decide) ?_
          refine V_loc2 (next 1 (Or.inr rfl) ⟨fun _ k hk => ?_, fun _ => rfl⟩) ⟨rfl, rfl, rfl, rfl, rfl, rfl, rfl, trivial⟩
          by_cases e1 : k = t
          · rw [e1]; exact hyes
          · exact hw2.mp (by omega) k (by omega)
set_option maxHeartbeats 1000000 in
theorem Mod_times_mid (C : yC p l s m args meth c y_Mod_times b_Mod_times 11 (some .int) [] d b) (hl : yL l) (hv : OkV v) (A : AtM d b y0 h) (O : OkM y0 v) {r r2 u f la : Int} (uI : inI u) (fI : -100000 ≤ f ∧ f ≤ 100000) (lI : -100000 ≤ la ∧ la ≤ 100000) (hkn : isR v r ∧ isR v r2 → f = tmF v r.toNat r2.toNat ∧ la = tmL v r.toNat r2.toNat) {z : Int} (hz : z = bi (isR v r ∧ isR v r2)) :
    V p l e (yRm 4 120 0 0) s m args below meth c 11 d b (yEnd below s args d b (fun q n' h' => n' = n ∧ ∃ a, q = some (vi a) ∧ mR d b h v (kTm v r r2 u) (vTm v r r2 u) a v.rc h') noT 0 0) 0 0 n h 116 [(0, .ref (b + 29)), (1, vi r), (2, vi r2), (3, vi u), (4, vi z), (5, vi f), (6, vi la)] [] := by
  have hrc := hv.rc
  have e1 := O.rc
  have go : ∀ z2 z3 : Int, z2 = bi (v.rc < 8) → z3 = bi ((1 ≤ u ∧ u ≤ 1000000000) ∧ f ≤ la) → V p l e (yRm 4 120 0 0) s m args below meth c 11 d b (yEnd below s args d b (fun q n' h' => n' = n ∧ ∃ a, q = some (vi a) ∧ mR d b h v (kTm v r r2 u) (vTm v r r2 u) a v.rc h') noT 0 0) 0 0 n h 155 [(0, .ref (b + 29)), (1, vi r), (2, vi r2), (3, vi u), (5, vi f), (6, vi la)] [vi z3, vi z2, vi z, .ref (b + 29)] := fun z2 z3 hz2 hz3 => by
    refine V_iconst C d_Mod_times_155 rfl ?_
    refine V_callV C (c_Mod_goes hl A (bi_z hz) (bi_z hz2) (bi_z hz3) (z4 := 1) (by unfold inI; omega)) wc_Mod_goes w_Mod_times_156 np_Mod_goes (by decide) A.o rfl rfl (Nat.le_of_ble_eq_true rfl) d_Mod_times_156 (fun v n1 h1 hp => ?_) (fun Cx n1 h1 hp => hp.elim)
    obtain ⟨rfl, rfl, A1, F1⟩ := hp
    rw [hz, hz2, hz3, kG_b3] at A1 ⊢
    have O1 := O.sTh (((if ¬ (isR v r ∧ isR v r2) then 1 else if ¬ v.rc < 8 then 2 else if ¬ ((1 ≤ u ∧ u ≤ 1000000000) ∧ f ≤ la) then 3 else 0 : Nat)) : Int)
    by_cases q1 : isR v r ∧ isR v r2
    · rw [if_neg (c := ¬ (isR v r ∧ isR v r2)) (fun w => w q1)] at A1 O1 ⊢
      obtain ⟨rfl, rfl⟩ := hkn q1
      by_cases q2 : v.rc < 8
      · rw [if_neg (c := ¬ v.rc < 8) (fun w => w q2)] at A1 O1 ⊢
        by_cases q3 : (1 ≤ u ∧ u ≤ 1000000000) ∧ tmF v r.toNat r2.toNat ≤ tmL v r.toNat r2.toNat
        · rw [if_neg (c := ¬ ((1 ≤ u ∧ u ≤ 1000000000) ∧ tmF v r.toNat r2.toNat ≤ tmL v r.toNat r2.toNat)) (fun w => w q3)] at A1 O1 ⊢
          have ha : r.toNat < v.rc := by have := q1.1.1; have := q1.1.2; omega
          have hc : r2.toNat < v.rc := by have := q1.2.1; have := q1.2.2; omega
          obtain ⟨a1, a2, a3, a4⟩ := hv.ok _ ha
          obtain ⟨c1, c2, c3, c4⟩ := hv.ok _ hc
          have eF : max (v.F r.toNat) (v.F r2.toNat) = tmF v r.toNat r2.toNat := rfl
          have eL : min (v.F r.toNat + v.M r.toNat - 1) (v.F r2.toNat + v.M r2.toNat - 1) = tmL v r.toNat r2.toNat := rfl
          have hF : -9999 ≤ tmF v r.toNat r2.toNat ∧ tmF v r.toNat r2.toNat ≤ 9999 := by rw [← eF]; omega
          have hL : tmL v r.toNat r2.toNat ≤ 9999 ∧ tmL v r.toNat r2.toNat - tmF v r.toNat r2.toNat < 48 := by rw [← eF, ← eL]; omega
          have eM : ((tmM v r.toNat r2.toNat : Nat) : Int) = tmL v r.toNat r2.toNat - tmF v r.toNat r2.toNat + 1 := by unfold tmM; omega
          have hro : rowOk (tmF v r.toNat r2.toNat) (tmM v r.toNat r2.toNat : Nat) := ⟨by omega, by omega, by omega, by omega⟩
          have hin : ∀ t : Nat, t < tmM v r.toNat r2.toNat → (v.F r.toNat ≤ tmF v r.toNat r2.toNat + t ∧ tmF v r.toNat r2.toNat + t ≤ v.F r.toNat + v.M r.toNat - 1) ∧ v.F r2.toNat ≤ tmF v r.toNat r2.toNat + t ∧ tmF v r.toNat r2.toNat + t ≤ v.F r2.toNat + v.M r2.toNat - 1 := fun t ht => by
            have g1 : tmF v r.toNat r2.toNat + t ≤ tmL v r.toNat r2.toNat := by omega
            rw [← eL] at g1
            rw [← eF] at g1 ⊢
            omega
          refine V_if_ne (tgt := 164) C d_Mod_times_159 (by decide) (bi_z rfl) (fun q159 => ?_) (fun q159 => ?_)
          · refine V_aload_n C d_Mod_times_164 rfl rfl ?_
            refine V_iload C d_Mod_times_165 rfl ?_
            refine V_iload C d_Mod_times_167 rfl ?_
            refine V_iload C d_Mod_times_169 rfl ?_
            refine V_isub C d_Mod_times_171 ?_
            refine V_iconst C d_Mod_times_172 rfl ?_
            refine V_iadd C d_Mod_times_173 ?_
            refine V_callV C (c_Mod_open' hl hv A1 O1 q2 (f := tmF v r.toNat r2.toNat) (mm := tmM v r.toNat r2.toNat) (by omega) eM) wc_Mod_open w_Mod_times_174 np_Mod_open (by decide) A1.o rfl rfl (Nat.le_of_ble_eq_true rfl) d_Mod_times_174 (fun w n2 h2 hp => ?_) (fun Cx n1 h1 hp => hp.elim)
            obtain ⟨rfl, rfl, F2, y2, A2, O2, -⟩ := hp
            refine V_iconst C d_Mod_times_177 rfl ?_
            refine V_istore C d_Mod_times_178 (by decide) rfl ?_
            refine V_lconst (z := 0) C d_Mod_times_180 rfl ?_
            refine V_lstore C d_Mod_times_181 (by decide) rfl ?_
            refine V_iload C d_Mod_times_183 rfl ?_
            refine V_istore C d_Mod_times_185 (by decide) rfl ?_
            refine V_loc2 (Mod_times_loop (h := h) (P := tmP v r.toNat r2.toNat) C hl hv q2 q1.1 q1.2 hro q3.1 hin (fun q => rfl) (fun w W' y3 h' d1 d2 d3 O3 A3 F3 => ?_) (tmM v r.toNat r2.toNat) 0 1 (fun _ => 0) y2 _ (by omega) (Or.inr rfl) ⟨fun _ k hk => absurd hk (by omega), fun _ => rfl⟩ (fun q hq => absurd hq (by omega)) (fun q hq => ⟨Int.le_refl _, by show (0 : Int) < _; omega⟩) O2 A2 (F1.tr F2)) ⟨rfl, rfl, rfl, rfl, ?_, rfl, rfl, ?_, trivial⟩
            · have k0 : w = 1 → kTm v r r2 u = 0 := fun w1 => by
                unfold kTm
                rw [if_neg (fun w => w q1), if_neg (by omega), if_neg (fun w => w q3)]
                exact if_pos (d2.mp w1)
              have k4 : w = 0 → kTm v r r2 u = 4 := fun w0 => by
                unfold kTm
                rw [if_neg (fun w => w q1), if_neg (by omega), if_neg (fun w => w q3)]
                exact if_neg (fun w' => by have := d2.mpr w'; omega)
              refine Mod_times_end (h := h) C hl O3 A3 F3 d1 (fun w1 h'' f1 rep => ⟨rfl, _, rfl, f1, fun _ => ⟨?_, rfl⟩, fun q => absurd (k0 w1) q⟩) (fun w0 h'' f1 rep => ⟨rfl, _, rfl, f1, fun q => absurd (k4 w0) (by omega), fun _ => by rw [k4 w0]; exact rep⟩)
              have all := d2.mp w1
              obtain ⟨y4, A4, O4, t4⟩ := rep
              refine ⟨y4, A4, ⟨O4.rc, O4.rs, O4.sp, O4.ff, O4.fm, fun i hi q hq => ?_, O4.dg, O4.sa, O4.sb⟩, t4⟩
              rw [O4.ww i hi q hq]
              show fu v.W v.rc W' i q = fu v.W v.rc (tmW v r.toNat r2.toNat u) i q
              by_cases e5 : i = v.rc
              · rw [e5, fu_eq, fu_eq]
                have hq' : q < fu v.M v.rc (tmM v r.toNat r2.toNat) i := hq
                rw [e5, fu_eq] at hq'
                exact d3 q hq' (all q hq')
              · rw [fu_ne _ _ e5, fu_ne _ _ e5]
            · show some (vi (tmL v r.toNat r2.toNat)) = some (vi (tmF v r.toNat r2.toNat + (tmM v r.toNat r2.toNat : Nat) - 1))
              rw [show tmL v r.toNat r2.toNat = tmF v r.toNat r2.toNat + (tmM v r.toNat r2.toNat : Nat) - 1 by omega]
            · show some (vi (tmF v r.toNat r2.toNat)) = some (vi (tmF v r.toNat r2.toNat + ((0 : Nat) : Int)))
              rw [show tmF v r.toNat r2.toNat + ((0 : Nat) : Int) = tmF v r.toNat r2.toNat by omega]
          · exact absurd q159 (by decide)
        · rw [if_pos (c := ¬ ((1 ≤ u ∧ u ≤ 1000000000) ∧ tmF v r.toNat r2.toNat ≤ tmL v r.toNat r2.toNat)) q3] at A1 O1 ⊢
          have kk : kTm v r r2 u = 3 := by unfold kTm; rw [if_neg (fun w => w q1), if_neg (by omega), if_pos q3]
          refine V_if_ne (tgt := 164) C d_Mod_times_159 (by decide) (bi_z rfl) (fun q159 => ?_) (fun q159 => ?_)
          · exact absurd rfl q159
          · refine V_iconst C d_Mod_times_162 rfl ?_
            exact V_ireturn C d_Mod_times_163 (Nat.le_refl _) (Nat.le_refl _) ⟨rfl, 0, rfl, F1, fun q => absurd q (by omega), fun _ => by rw [kk]; exact ⟨_, A1, O1, rfl⟩⟩
      · rw [if_pos (c := ¬ v.rc < 8) q2] at A1 O1 ⊢
        have kk : kTm v r r2 u = 2 := by unfold kTm; rw [if_neg (fun w => w q1), if_pos (by omega)]
        refine V_if_ne (tgt := 164) C d_Mod_times_159 (by decide) (bi_z rfl) (fun q159 => ?_) (fun q159 => ?_)
        · exact absurd rfl q159
        · refine V_iconst C d_Mod_times_162 rfl ?_
          exact V_ireturn C d_Mod_times_163 (Nat.le_refl _) (Nat.le_refl _) ⟨rfl, 0, rfl, F1, fun q => absurd q (by omega), fun _ => by rw [kk]; exact ⟨_, A1, O1, rfl⟩⟩
    · rw [if_pos (c := ¬ (isR v r ∧ isR v r2)) q1] at A1 O1 ⊢
      have kk : kTm v r r2 u = 1 := by unfold kTm; rw [if_pos q1]
      refine V_if_ne (tgt := 164) C d_Mod_times_159 (by decide) (bi_z rfl) (fun q159 => ?_) (fun q159 => ?_)
      · exact absurd rfl q159
      · refine V_iconst C d_Mod_times_162 rfl ?_
        exact V_ireturn C d_Mod_times_163 (Nat.le_refl _) (Nat.le_refl _) ⟨rfl, 0, rfl, F1, fun q => absurd q (by omega), fun _ => by rw [kk]; exact ⟨_, A1, O1, rfl⟩⟩
  have go2 : ∀ z2 : Int, z2 = bi (v.rc < 8) → V p l e (yRm 4 120 0 0) s m args below meth c 11 d b (yEnd below s args d b (fun q n' h' => n' = n ∧ ∃ a, q = some (vi a) ∧ mR d b h v (kTm v r r2 u) (vTm v r r2 u) a v.rc h') noT 0 0) 0 0 n h 133 [(0, .ref (b + 29)), (1, vi r), (2, vi r2), (3, vi u), (5, vi f), (6, vi la)] [vi z2, vi z, .ref (b + 29)] := fun z2 hz2 => by
    refine V_iload_n C d_Mod_times_133 rfl rfl ?_
    refine V_iconst C d_Mod_times_134 rfl ?_
    refine V_ldc (z := 1000000000) C w_Mod_times_135 rfl d_Mod_times_135 ?_
    refine V_callS C (c_Mod_within hl uI (lo := 1) (hi := 1000000000) (by unfold inI; omega) (by unfold inI; omega)) wc_Mod_within w_Mod_times_137 np_Mod_within (by decide) rfl (Nat.le_of_ble_eq_true rfl) d_Mod_times_137 (fun v n1 h1 hp => ?_) (fun Cx n1 h1 hp => hp.elim)
    obtain ⟨rfl, rfl, rfl⟩ := hp
    refine V_if_eq (tgt := 154) C d_Mod_times_140 (by decide) (bi_z rfl) (fun q140 => ?_) (fun q140 => ?_)
    · have := bi_0.mp q140
      refine V_iconst C d_Mod_times_154 rfl ?_
      exact go z2 0 hz2 (bi_n (by omega)).symm
    · have : 1 ≤ u ∧ u ≤ 1000000000 := by
        by_cases q : 1 ≤ u ∧ u ≤ 1000000000
        · exact q
        · exact absurd (bi_n q) q140
      refine V_iload C d_Mod_times_143 rfl ?_
      refine V_iload C d_Mod_times_145 rfl ?_
      refine V_icmp_lt (tgt := 154) C d_Mod_times_147 (by decide) (by unfold inI; omega) (by unfold inI; omega) (fun q147 => ?_) (fun q147 => ?_)
      · refine V_iconst C d_Mod_times_154 rfl ?_
        exact go z2 0 hz2 (bi_n (by omega)).symm
      · refine V_iconst C d_Mod_times_150 rfl ?_
        refine V_goto (tgt := 155) C d_Mod_times_151 (by decide) ?_
        exact go z2 1 hz2 (bi_1 (by omega)).symm
  refine V_aload_n C d_Mod_times_116 rfl rfl ?_
  refine V_iload C d_Mod_times_117 rfl ?_
  refine V_aload_n C d_Mod_times_119 rfl rfl ?_
  refine V_get C 4 1 A.o rfl in_Mod (by decide) w_Mod_times_120 rfl rfl d_Mod_times_120 ?_
  refine V_bipush (z := 8) C d_Mod_times_123 rfl ?_
  refine V_icmp_ge (tgt := 132) C d_Mod_times_125 (by decide) (by unfold inI; omega) (by unfold inI; omega) (fun q125 => ?_) (fun q125 => ?_)
  · refine V_iconst C d_Mod_times_132 rfl ?_
    exact V_loc2 (go2 0 (bi_n (by omega)).symm) ⟨rfl, rfl, rfl, rfl, rfl, rfl, trivial⟩
  · refine V_iconst C d_Mod_times_128 rfl ?_
    refine V_goto (tgt := 133) C d_Mod_times_129 (by decide) ?_
    exact V_loc2 (go2 1 (bi_1 (by omega)).symm) ⟨rfl, rfl, rfl, rfl, rfl, rfl, trivial⟩
set_option maxHeartbeats 1000000 in
theorem c_Mod_times (hl : yL l) (hv : OkV v) (A : AtM d b y0 h) (O : OkM y0 v) {r r2 u : Int} (hr : inI r) (hr2 : inI r2) (uI : inI u) : yM l y_Mod_times b_Mod_times 11 (some .int) 4 120 0 0 d b n h [.ref (b + 29), vi r, vi r2, vi u] (fun q n' h' => n' = n ∧ ∃ a, q = some (vi a) ∧ mR d b h v (kTm v r r2 u) (vTm v r r2 u) a v.rc h') noT := by
  refine yM_of hl (by decide +kernel) (Nat.le_of_ble_eq_true rfl) (fun p e s m args below meth c C => ?_)
  have hrc := hv.rc
  have no : ¬ (isR v r ∧ isR v r2) → V p l e (yRm 4 120 0 0) s m args below meth c 11 d b (yEnd below s args d b (fun q n' h' => n' = n ∧ ∃ a, q = some (vi a) ∧ mR d b h v (kTm v r r2 u) (vTm v r r2 u) a v.rc h') noT 0 0) 0 0 n h 20 [(0, .ref (b + 29)), (1, vi r), (2, vi r2), (3, vi u)] [] := fun q => by
    refine V_iconst C d_Mod_times_20 rfl ?_
    refine V_istore C d_Mod_times_21 (by decide) rfl ?_
    refine V_iconst C d_Mod_times_23 rfl ?_
    refine V_istore C d_Mod_times_24 (by decide) rfl ?_
    refine V_iconst C d_Mod_times_26 rfl ?_
    refine V_istore C d_Mod_times_27 (by decide) rfl ?_
    refine V_iload C d_Mod_times_29 rfl ?_
    refine V_if_eq (tgt := 116) C d_Mod_times_31 (by decide) (by unfold inI; omega) (fun q31 => ?_) (fun q31 => ?_)
    · exact V_loc2 (Mod_times_mid C hl hv A O uI (f := 0) (la := -1) ⟨by omega, by omega⟩ ⟨by omega, by omega⟩ (fun w => absurd w q) (bi_n q).symm) ⟨rfl, rfl, rfl, rfl, rfl, rfl, rfl, trivial⟩
    · exact absurd rfl q31
  refine V_aload_n C d_Mod_times_0 rfl rfl ?_
  refine V_iload_n C d_Mod_times_1 rfl rfl ?_
  refine V_callV C (c_Mod_isRow hl hv A O hr) wc_Mod_isRow w_Mod_times_2 np_Mod_isRow (by decide) A.o rfl rfl (Nat.le_of_ble_eq_true rfl) d_Mod_times_2 (fun v n1 h1 hp => ?_) (fun Cx n1 h1 hp => hp.elim)
  obtain ⟨rfl, rfl, rfl⟩ := hp
  refine V_if_eq (tgt := 20) C d_Mod_times_5 (by decide) (bi_z rfl) (fun q5 => ?_) (fun q5 => ?_)
  · exact V_loc2 (no (fun w => bi_0.mp q5 w.1)) ⟨rfl, rfl, rfl, rfl, trivial⟩
  · have g1 : isR v r := by
      by_cases q : isR v r
      · exact q
      · exact absurd (bi_n q) q5
    refine V_aload_n C d_Mod_times_8 rfl rfl ?_
    refine V_iload_n C d_Mod_times_9 rfl rfl ?_
    refine V_callV C (c_Mod_isRow hl hv A O hr2) wc_Mod_isRow w_Mod_times_10 np_Mod_isRow (by decide) A.o rfl rfl (Nat.le_of_ble_eq_true rfl) d_Mod_times_10 (fun v n1 h1 hp => ?_) (fun Cx n1 h1 hp => hp.elim)
    obtain ⟨rfl, rfl, rfl⟩ := hp
    refine V_if_eq (tgt := 20) C d_Mod_times_13 (by decide) (bi_z rfl) (fun q13 => ?_) (fun q13 => ?_)
    · exact V_loc2 (no (fun w => bi_0.mp q13 w.2)) ⟨rfl, rfl, rfl, rfl, trivial⟩
    · have g2 : isR v r2 := by
        by_cases q : isR v r2
        · exact q
        · exact absurd (bi_n q) q13
      have ha : r.toNat < v.rc := by have := g1.1; have := g1.2; omega
      have hc : r2.toNat < v.rc := by have := g2.1; have := g2.2; omega
      have r0 := g1.1
      have r0' := g1.2
      have s0 := g2.1
      have s0' := g2.2
      obtain ⟨a1, a2, a3, a4⟩ := hv.ok _ ha
      obtain ⟨c1, c2, c3, c4⟩ := hv.ok _ hc
      have f1 := O.ff _ ha
      have f2 := O.ff _ hc
      have m1 := O.fm _ ha
      have m2 := O.fm _ hc
      have eF : max (v.F r.toNat) (v.F r2.toNat) = tmF v r.toNat r2.toNat := rfl
      have eL : min (v.F r.toNat + v.M r.toNat - 1) (v.F r2.toNat + v.M r2.toNat - 1) = tmL v r.toNat r2.toNat := rfl
      have fin : ∀ f la : Int, f = tmF v r.toNat r2.toNat → la = tmL v r.toNat r2.toNat → V p l e (yRm 4 120 0 0) s m args below meth c 11 d b (yEnd below s args d b (fun q n' h' => n' = n1 ∧ ∃ a, q = some (vi a) ∧ mR d b h1 v (kTm v r r2 u) (vTm v r r2 u) a v.rc h') noT 0 0) 0 0 n1 h1 116 [(0, .ref (b + 29)), (1, vi r), (2, vi r2), (3, vi u), (4, vi 1), (5, vi f), (6, vi la)] [] := fun f la h1 h2 =>
        Mod_times_mid C hl hv A O uI ⟨by rw [h1, ← eF]; omega, by rw [h1, ← eF]; omega⟩ ⟨by rw [h2, ← eL]; omega, by rw [h2, ← eL]; omega⟩ (fun _ => ⟨h1, h2⟩) (bi_1 ⟨g1, g2⟩).symm
      have mid : ∀ f : Int, f = tmF v r.toNat r2.toNat → V p l e (yRm 4 120 0 0) s m args below meth c 11 d b (yEnd below s args d b (fun q n' h' => n' = n1 ∧ ∃ a, q = some (vi a) ∧ mR d b h1 v (kTm v r r2 u) (vTm v r r2 u) a v.rc h') noT 0 0) 0 0 n1 h1 64 [(0, .ref (b + 29)), (1, vi r), (2, vi r2), (3, vi u), (4, vi 1)] [vi f] := fun f hf => by
        refine V_istore C d_Mod_times_64 (by decide) rfl ?_
        refine V_aload_n C d_Mod_times_66 rfl rfl ?_
        refine V_get C 4 2 A.o rfl in_Mod (by decide) w_Mod_times_67 rfl rfl d_Mod_times_67 ?_
        refine V_iload_n C d_Mod_times_70 rfl rfl ?_
        refine V_iaload C A.f (by omega) (by omega) (by decide) d_Mod_times_71 ?_
        refine V_aload_n C d_Mod_times_72 rfl rfl ?_
        refine V_get C 4 3 A.o rfl in_Mod (by decide) w_Mod_times_73 rfl rfl d_Mod_times_73 ?_
        refine V_iload_n C d_Mod_times_76 rfl rfl ?_
        refine V_iaload C A.z (by omega) (by omega) (by decide) d_Mod_times_77 ?_
        rw [f1, m1]
        refine V_iadd C d_Mod_times_78 ?_
        refine V_iconst C d_Mod_times_79 rfl ?_
        refine V_isub C d_Mod_times_80 ?_
        refine V_istore C d_Mod_times_81 (by decide) rfl ?_
        refine V_aload_n C d_Mod_times_83 rfl rfl ?_
        refine V_get C 4 2 A.o rfl in_Mod (by decide) w_Mod_times_84 rfl rfl d_Mod_times_84 ?_
        refine V_iload_n C d_Mod_times_87 rfl rfl ?_
        refine V_iaload C A.f (by omega) (by omega) (by decide) d_Mod_times_88 ?_
        refine V_aload_n C d_Mod_times_89 rfl rfl ?_
        refine V_get C 4 3 A.o rfl in_Mod (by decide) w_Mod_times_90 rfl rfl d_Mod_times_90 ?_
        refine V_iload_n C d_Mod_times_93 rfl rfl ?_
        refine V_iaload C A.z (by omega) (by omega) (by decide) d_Mod_times_94 ?_
        rw [f2, m2]
        refine V_iadd C d_Mod_times_95 ?_
        refine V_iconst C d_Mod_times_96 rfl ?_
        refine V_isub C d_Mod_times_97 ?_
        refine V_istore C d_Mod_times_98 (by decide) rfl ?_
        refine V_iload C d_Mod_times_100 rfl ?_
        refine V_iload C d_Mod_times_102 rfl ?_
        refine V_icmp_ge (tgt := 112) C d_Mod_times_104 (by decide) (by unfold inI; omega) (by unfold inI; omega) (fun q104 => ?_) (fun q104 => ?_)
        · refine V_iload C d_Mod_times_112 rfl ?_
          refine V_istore C d_Mod_times_114 (by decide) rfl ?_
          exact V_loc2 (fin f _ hf (by rw [← eL]; omega)) ⟨rfl, rfl, rfl, rfl, rfl, rfl, rfl, trivial⟩
        · refine V_iload C d_Mod_times_107 rfl ?_
          refine V_goto (tgt := 114) C d_Mod_times_109 (by decide) ?_
          refine V_istore C d_Mod_times_114 (by decide) rfl ?_
          exact V_loc2 (fin f _ hf (by rw [← eL]; omega)) ⟨rfl, rfl, rfl, rfl, rfl, rfl, rfl, trivial⟩
      refine V_iconst C d_Mod_times_16 rfl ?_
      refine V_goto (tgt := 21) C d_Mod_times_17 (by decide) ?_
      refine V_istore C d_Mod_times_21 (by decide) rfl ?_
      refine V_iconst C d_Mod_times_23 rfl ?_
      refine V_istore C d_Mod_times_24 (by decide) rfl ?_
      refine V_iconst C d_Mod_times_26 rfl ?_
      refine V_istore C d_Mod_times_27 (by decide) rfl ?_
      refine V_iload C d_Mod_times_29 rfl ?_
      refine V_if_eq (tgt := 116) C d_Mod_times_31 (by decide) (by unfold inI; omega) (fun q31 => ?_) (fun q31 => ?_)
      · exact absurd q31 (by decide)
      · refine V_aload_n C d_Mod_times_34 rfl rfl ?_
        refine V_get C 4 2 A.o rfl in_Mod (by decide) w_Mod_times_35 rfl rfl d_Mod_times_35 ?_
        refine V_iload_n C d_Mod_times_38 rfl rfl ?_
        refine V_iaload C A.f (by omega) (by omega) (by decide) d_Mod_times_39 ?_
        refine V_aload_n C d_Mod_times_40 rfl rfl ?_
        refine V_get C 4 2 A.o rfl in_Mod (by decide) w_Mod_times_41 rfl rfl d_Mod_times_41 ?_
        refine V_iload_n C d_Mod_times_44 rfl rfl ?_
        refine V_iaload C A.f (by omega) (by omega) (by decide) d_Mod_times_45 ?_
        rw [f1, f2]
        refine V_icmp_le (tgt := 58) C d_Mod_times_46 (by decide) (by unfold inI; omega) (by unfold inI; omega) (fun q46 => ?_) (fun q46 => ?_)
        · refine V_aload_n C d_Mod_times_58 rfl rfl ?_
          refine V_get C 4 2 A.o rfl in_Mod (by decide) w_Mod_times_59 rfl rfl d_Mod_times_59 ?_
          refine V_iload_n C d_Mod_times_62 rfl rfl ?_
          refine V_iaload C A.f (by omega) (by omega) (by decide) d_Mod_times_63 ?_
          rw [f2]
          exact V_loc2 (mid _ (by rw [← eF]; omega)) ⟨rfl, rfl, rfl, rfl, rfl, trivial⟩
        · refine V_aload_n C d_Mod_times_49 rfl rfl ?_
          refine V_get C 4 2 A.o rfl in_Mod (by decide) w_Mod_times_50 rfl rfl d_Mod_times_50 ?_
          refine V_iload_n C d_Mod_times_53 rfl rfl ?_
          refine V_iaload C A.f (by omega) (by omega) (by decide) d_Mod_times_54 ?_
          rw [f1]
          refine V_goto (tgt := 64) C d_Mod_times_55 (by decide) ?_
          exact V_loc2 (mid _ (by rw [← eF]; omega)) ⟨rfl, rfl, rfl, rfl, rfl, trivial⟩
end ModJ
