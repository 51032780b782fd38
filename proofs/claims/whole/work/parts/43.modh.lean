theorem OkV.new {v : Vw} (hv : OkV v) (h8 : v.rc < 8) {f : Int} {mm : Nat} {W : Nat → Int} (hr : rowOk f mm) (hW : ∀ q, q < mm → 0 ≤ W q ∧ W q < 1000000000 ^ 4) : OkV (vNew v f mm W) := by
  refine ⟨h8, fun i hi => ?_, fun i hi q hq => ?_, hv.sn, hv.rs, hv.sa, hv.sb⟩
  · show rowOk (fu v.F v.rc f i) (fu v.M v.rc mm i : Nat)
    have hi' : i < v.rc + 1 := hi
    by_cases e : i = v.rc
    · rw [e, fu_eq, fu_eq]; exact hr
    · rw [fu_ne _ _ e, fu_ne _ _ e]; exact hv.ok i (by omega)
  · have hi' : i < v.rc + 1 := hi
    have hq' : q < fu v.M v.rc mm i := hq
    show 0 ≤ fu v.W v.rc W i q ∧ fu v.W v.rc W i q < 1000000000 ^ 4
    by_cases e : i = v.rc
    · rw [e, fu_eq] at hq'
      rw [e, fu_eq]; exact hW q hq'
    · rw [fu_ne _ _ e] at hq'
      rw [fu_ne _ _ e]; exact hv.ww i (by omega) q hq'
theorem OkM.drop {y0 : YS} {v : Vw} {f : Int} {mm : Nat} {W : Nat → Int} (O : OkM y0 (vNew v f mm W)) : OkM (y0.s_rc v.rc) v := by
  refine ⟨rfl, O.rs, O.sp, fun i hi => ?_, fun i hi => ?_, fun i hi q hq => ?_, O.dg, O.sa, O.sb⟩
  · have := O.ff i (show i < v.rc + 1 by omega)
    show y0.fs i = v.F i
    rw [this]; exact fu_ne _ _ (by omega)
  · have := O.fm i (show i < v.rc + 1 by omega)
    show y0.sz i = v.M i
    rw [this]; show ((fu v.M v.rc mm i : Nat) : Int) = _; rw [fu_ne _ _ (by omega)]
  · have := O.ww i (show i < v.rc + 1 by omega) q (show q < fu v.M v.rc mm i by rw [fu_ne _ _ (by omega)]; exact hq)
    show wl (fun k => y0.D (36 * (48 * i + q) + k)) 36 = v.W i q
    rw [this]; show fu v.W v.rc W i q = _; rw [fu_ne _ _ (by omega)]
theorem hasY_new {v : Vw} {f : Int} {mm : Nat} {W : Nat → Int} {r z : Int} (hr : isR v r) : (if hasY (vNew v f mm W) r z then (vNew v f mm W).W r.toNat (z - (vNew v f mm W).F r.toNat).toNat else 0) = wY v r.toNat z := by
  have hn : r.toNat ≠ v.rc := by have := hr.1; have := hr.2; omega
  have eF : (vNew v f mm W).F r.toNat = v.F r.toNat := fu_ne _ _ hn
  have eM : (vNew v f mm W).M r.toNat = v.M r.toNat := fu_ne _ _ hn
  have eW : (vNew v f mm W).W r.toNat = v.W r.toNat := fu_ne _ _ hn
  have er : isR (vNew v f mm W) r := ⟨hr.1, by show r < ((v.rc + 1 : Nat) : Int); have := hr.2; omega⟩
  unfold wY
  by_cases q : v.F r.toNat ≤ z ∧ z ≤ v.F r.toNat + v.M r.toNat - 1
  · rw [if_pos q, if_pos ⟨er, by rw [eF, eM]; exact q⟩, eF, eW]
  · rw [if_neg q, if_neg (fun w => q (by have := w.2; rw [eF, eM] at this; exact this))]
theorem hasY_last {v : Vw} {f : Int} {mm t : Nat} {W : Nat → Int} (ht : t < mm) : hasY (vNew v f mm W) (v.rc : Nat) (f + t) ∧ (f + (t : Int) - (vNew v f mm W).F ((v.rc : Nat) : Int).toNat).toNat = t := by
  have eF : (vNew v f mm W).F ((v.rc : Nat) : Int).toNat = f := by rw [Int.toNat_natCast]; exact fu_eq _ _ _
  have eM : (vNew v f mm W).M ((v.rc : Nat) : Int).toNat = mm := by rw [Int.toNat_natCast]; exact fu_eq _ _ _
  refine ⟨⟨⟨by omega, by show _ < ((v.rc + 1 : Nat) : Int); omega⟩, by rw [eF]; omega, by rw [eF, eM]; omega⟩, by rw [eF]; omega⟩
section ModH
variable {p : Program} {l : Launch} {e : Env} {R : Room} {s : State} {m : MethodId} {args : Array Value} {below : List Frame} {meth : Method} {c : Code} {d : yD} {b : Nat} {Q : State → Prop} {cells slots n : Nat} {h : yH}
variable {y0 : YS} {v : Vw}
set_option maxHeartbeats 1000000 in
theorem Mod_add_end (C : yC p l s m args meth c y_Mod_add b_Mod_add 8 (some .int) [] d b) (hl : yL l) {f w : Int} {mm : Nat} {W : Nat → Int} {h' : yH} {post : Option Value → Nat → yH → Prop} (O : OkM y0 (vNew v f mm W)) (A : AtM d b y0 h') (F : FrM h h') (hw : w = 0 ∨ w = 1)
    (hp1 : w = 1 → ∀ h'', FrM h h'' → RepM d b h'' (vNew v f mm W) 0 → post (some (vi v.rc)) n h'') (hp0 : w = 0 → ∀ h'', FrM h h'' → RepM d b h'' v 4 → post (some (vi 0)) n h'') :
    V p l e (yRm 4 120 0 0) s m args below meth c 8 d b (yEnd below s args d b post noT 0 0) 0 0 n h' 232 [(0, .ref (b + 29)), (6, vi w)] [] := by
  have rc : y0.rc = v.rc + 1 := O.rc
  refine V_aload_n C d_Mod_add_232 rfl rfl ?_
  refine V_iload C d_Mod_add_233 rfl ?_
  refine V_if_eq (tgt := 245) C d_Mod_add_235 (by decide) (by unfold inI; omega) (fun q235 => ?_) (fun q235 => ?_)
  · have A1 := A.setRc v.rc
    refine V_aload_n C d_Mod_add_245 rfl rfl ?_
    refine V_get C 4 1 A.o rfl in_Mod (by decide) w_Mod_add_246 rfl rfl d_Mod_add_246 ?_
    refine V_iconst C d_Mod_add_249 rfl ?_
    refine V_isub C d_Mod_add_250 ?_
    rw [show (y0.rc : Int) - 1 = (v.rc : Nat) by omega]
    refine V_put (ty := .int) C 4 1 A.o rfl in_Mod t_Mod tok_Mod nm_Mod (by decide) w_Mod_add_251 rfl rfl (by decide +kernel) rfl rfl (Nat.le_of_ble_eq_true rfl) d_Mod_add_251 ?_
    refine V_aload_n C d_Mod_add_254 rfl rfl ?_
    refine V_iconst C d_Mod_add_255 rfl ?_
    refine V_iconst C d_Mod_add_256 rfl ?_
    refine V_iconst C d_Mod_add_257 rfl ?_
    refine V_iload C d_Mod_add_258 rfl ?_
    refine V_callV C (c_Mod_goes hl A1 (z1 := 1) (z2 := 1) (z3 := 1) (z4 := w) (by unfold inI; omega) (by unfold inI; omega) (by unfold inI; omega) ⟨by omega, by omega⟩) wc_Mod_goes w_Mod_add_260 np_Mod_goes (by decide) A1.o rfl rfl (Nat.le_of_ble_eq_true rfl) d_Mod_add_260 (fun v0 n1 h1 hq => ?_) (fun Cx n1 h1 hp => hp.elim)
    obtain ⟨rfl, rfl, A2, F2⟩ := hq
    have k4 : kG 1 1 1 w = 4 := by rw [q235]; rfl
    rw [k4] at A2 ⊢
    have fin := hp0 q235 h1 ((F.set (by omega) _).tr F2) ⟨_, A2, (O.drop).sTh 4, rfl⟩
    refine V_if_eq (tgt := 275) C d_Mod_add_263 (by decide) (bi_z rfl) (fun q263 => ?_) (fun q263 => ?_)
    · refine V_iconst C d_Mod_add_275 rfl ?_
      exact V_ireturn C d_Mod_add_276 (Nat.le_refl _) (Nat.le_refl _) fin
    · exact absurd rfl q263
  · have w1 : w = 1 := by omega
    have A1 := A.setRc (v.rc + 1)
    refine V_aload_n C d_Mod_add_238 rfl rfl ?_
    refine V_get C 4 1 A.o rfl in_Mod (by decide) w_Mod_add_239 rfl rfl d_Mod_add_239 ?_
    refine V_goto (tgt := 251) C d_Mod_add_242 (by decide) ?_
    rw [show (y0.rc : Int) = ((v.rc + 1 : Nat) : Int) by omega]
    refine V_put (ty := .int) C 4 1 A.o rfl in_Mod t_Mod tok_Mod nm_Mod (by decide) w_Mod_add_251 rfl rfl (by decide +kernel) rfl rfl (Nat.le_of_ble_eq_true rfl) d_Mod_add_251 ?_
    refine V_aload_n C d_Mod_add_254 rfl rfl ?_
    refine V_iconst C d_Mod_add_255 rfl ?_
    refine V_iconst C d_Mod_add_256 rfl ?_
    refine V_iconst C d_Mod_add_257 rfl ?_
    refine V_iload C d_Mod_add_258 rfl ?_
    refine V_callV C (c_Mod_goes hl A1 (z1 := 1) (z2 := 1) (z3 := 1) (z4 := w) (by unfold inI; omega) (by unfold inI; omega) (by unfold inI; omega) ⟨by omega, by omega⟩) wc_Mod_goes w_Mod_add_260 np_Mod_goes (by decide) A1.o rfl rfl (Nat.le_of_ble_eq_true rfl) d_Mod_add_260 (fun v0 n1 h1 hq => ?_) (fun Cx n1 h1 hp => hp.elim)
    obtain ⟨rfl, rfl, A2, F2⟩ := hq
    have k4 : kG 1 1 1 w = 0 := by rw [w1]; rfl
    rw [k4] at A2 ⊢
    have O2 : OkM ((y0.s_rc (v.rc + 1)).s_th 0) (vNew v f mm W) := ⟨rfl, O.rs, O.sp, O.ff, O.fm, O.ww, O.dg, O.sa, O.sb⟩
    have fin := hp1 w1 h1 ((F.set (by omega) _).tr F2) ⟨_, A2, O2, rfl⟩
    refine V_if_eq (tgt := 275) C d_Mod_add_263 (by decide) (bi_z rfl) (fun q263 => ?_) (fun q263 => ?_)
    · exact absurd q263 (by decide)
    · refine V_aload_n C d_Mod_add_266 rfl rfl ?_
      refine V_get C 4 1 A2.o rfl in_Mod (by decide) w_Mod_add_267 rfl rfl d_Mod_add_267 ?_
      refine V_iconst C d_Mod_add_270 rfl ?_
      refine V_isub C d_Mod_add_271 ?_
      refine V_goto (tgt := 276) C d_Mod_add_272 (by decide) ?_
      rw [show (((y0.s_rc (v.rc + 1)).s_th 0).rc : Int) - 1 = (v.rc : Nat) by show ((v.rc + 1 : Nat) : Int) - 1 = _; omega]
      exact V_ireturn C d_Mod_add_276 (Nat.le_refl _) (Nat.le_refl _) fin
set_option maxHeartbeats 1000000 in
theorem Mod_add_loop (C : yC p l s m args meth c y_Mod_add b_Mod_add 8 (some .int) [] d b) (hl : yL l) (hv : OkV v) (h8 : v.rc < 8) {r r2 f : Int} {mm : Nat} (hr : isR v r) (hr2 : isR v r2) (hro : rowOk f mm) {W : Nat → Int} (hW : ∀ q : Nat, W q = wY v r.toNat (f + q) + wY v r2.toNat (f + q))
    (kk : ∀ (w : Int) (W' : Nat → Int) (y1 : YS) (h' : yH), (w = 0 ∨ w = 1) → (w = 1 ↔ ∀ q, q < mm → W q < 1000000000 ^ 4) → (∀ q, q < mm → W q < 1000000000 ^ 4 → W' q = W q) → OkM y1 (vNew v f mm W') → AtM d b y1 h' → FrM h h' → V p l e (yRm 4 120 0 0) s m args below meth c 8 d b Q 0 0 n h' 232 [(0, .ref (b + 29)), (6, vi w)] []) :
    ∀ (j t : Nat) (w : Int) (W' : Nat → Int) (y1 : YS) (h' : yH), t + j = mm → (w = 0 ∨ w = 1) → (w = 1 ↔ ∀ q, q < t → W q < 1000000000 ^ 4) → (∀ q, q < t → W q < 1000000000 ^ 4 → W' q = W q) → (∀ q, q < mm → 0 ≤ W' q ∧ W' q < 1000000000 ^ 4) → OkM y1 (vNew v f mm W') → AtM d b y1 h' → FrM h h' →
      V p l e (yRm 4 120 0 0) s m args below meth c 8 d b Q 0 0 n h' 174 [(0, .ref (b + 29)), (1, vi r), (2, vi r2), (5, vi (f + mm - 1)), (6, vi w), (7, vi (f + t))] [] := by
  obtain ⟨o1, o2, o3, o4⟩ := id hro
  have hrc := hv.rc
  intro j
  induction j with
  | zero =>
    intro t w W' y1 h' hj hw hw2 hw3 hW' O A F
    have e0 : t = mm := by omega
    subst e0
    refine V_iload C d_Mod_add_174 rfl ?_
    refine V_iload C d_Mod_add_176 rfl ?_
    refine V_icmp_gt (tgt := 232) C d_Mod_add_178 (by decide) (by unfold inI; omega) (by unfold inI; omega) (fun q178 => ?_) (fun q178 => ?_)
    · exact V_loc2 (kk w W' y1 h' hw hw2 hw3 O A F) ⟨rfl, rfl, trivial⟩
    · exact absurd q178 (by omega)
  | succ j ih =>
    intro t w W' y1 h' hj hw hw2 hw3 hW' O A F
    have hv1 := hv.new h8 hro hW'
    have rI : inI r := ⟨by have := hr.1; omega, by have := hr.2; omega⟩
    have rI2 : inI r2 := ⟨by have := hr2.1; omega, by have := hr2.2; omega⟩
    have a1 : r.toNat < v.rc := by have := hr.1; have := hr.2; omega
    have a2 : r2.toNat < v.rc := by have := hr2.1; have := hr2.2; omega
    have b1 := wY_in hv a1 (f + t)
    have b2 := wY_in hv a2 (f + t)
    have wt' := hW t
    refine V_iload C d_Mod_add_174 rfl ?_
    refine V_iload C d_Mod_add_176 rfl ?_
    refine V_icmp_gt (tgt := 232) C d_Mod_add_178 (by decide) (by unfold inI; omega) (by unfold inI; omega) (fun q178 => ?_) (fun q178 => ?_)
    · exact absurd q178 (by omega)
    · refine V_aload_n C d_Mod_add_181 rfl rfl ?_
      refine V_callV C (c_Mod_blank hl A) wc_Mod_blank w_Mod_add_182 np_Mod_blank (by decide) A.o rfl rfl (Nat.le_of_ble_eq_true rfl) d_Mod_add_182 (fun v0 n1 h1 hp => ?_) (fun Cx n1 h1 hp => hp.elim)
      obtain ⟨rfl, rfl, F1, G1, z1, A1⟩ := hp
      have d1 : dgt G1 80 := fun q hq => by rw [z1 q hq]; omega
      have v1 : wl G1 80 = 0 := wl_zero z1
      refine V_aload_n C d_Mod_add_185 rfl rfl ?_
      refine V_iload_n C d_Mod_add_186 rfl rfl ?_
      refine V_iload C d_Mod_add_187 rfl ?_
      refine V_callV C (c_Mod_plus hl hv1 A1 (O.sW G1) rI (z := f + t) ⟨by omega, by omega⟩ d1 (by show wl G1 80 + _ ≤ _; rw [v1]; decide)) wc_Mod_plus w_Mod_add_189 np_Mod_plus (by decide) A1.o rfl rfl (Nat.le_of_ble_eq_true rfl) d_Mod_add_189 (fun v0 n2 h2 hp => ?_) (fun Cx n1 h1 hp => hp.elim)
      obtain ⟨rfl, rfl, F2, G2, d2, v2, A2⟩ := hp
      rw [hasY_new hr] at v2
      have v2' : wl G2 80 = wY v r.toNat (f + t) := by rw [v2]; show wl G1 80 + _ = _; rw [v1, Int.zero_add]
      refine V_aload_n C d_Mod_add_192 rfl rfl ?_
      refine V_iload_n C d_Mod_add_193 rfl rfl ?_
      refine V_iload C d_Mod_add_194 rfl ?_
      refine V_callV C (c_Mod_plus hl hv1 A2 ((O.sW G1).sW G2) rI2 (z := f + t) ⟨by omega, by omega⟩ d2 (by show wl G2 80 + _ ≤ _; rw [v2']; omega)) wc_Mod_plus w_Mod_add_196 np_Mod_plus (by decide) A2.o rfl rfl (Nat.le_of_ble_eq_true rfl) d_Mod_add_196 (fun v0 n3 h3 hp => ?_) (fun Cx n1 h1 hp => hp.elim)
      obtain ⟨rfl, rfl, F3, G3, d3, v3, A3⟩ := hp
      rw [hasY_new hr2] at v3
      have v3' : wl G3 80 = W t := by rw [v3, wt']; show wl G2 80 + _ = _; rw [v2']
      have O3 := ((O.sW G1).sW G2).sW G3
      have w3 : (((y1.s_wd G1).s_wd G2).s_wd G3).wd = G3 := rfl
      generalize ((y1.s_wd G1).s_wd G2).s_wd G3 = y3 at A3 O3 w3
      have rc3 : y3.rc = v.rc + 1 := O3.rc
      obtain ⟨hyl, hql⟩ := hasY_last (v := v) (f := f) (W := W') (show t < mm by omega)
      refine V_aload_n C d_Mod_add_199 rfl rfl ?_
      refine V_aload_n C d_Mod_add_200 rfl rfl ?_
      refine V_get C 4 1 A3.o rfl in_Mod (by decide) w_Mod_add_201 rfl rfl d_Mod_add_201 ?_
      refine V_iconst C d_Mod_add_204 rfl ?_
      refine V_isub C d_Mod_add_205 ?_
      rw [show (y3.rc : Int) - 1 = ((v.rc : Nat) : Int) by omega]
      refine V_iload C d_Mod_add_206 rfl ?_
      refine V_callV C (c_Mod_keep hl hv1 A3 O3 (r := (v.rc : Nat)) (z := f + t) hyl (by rw [w3]; exact d3)) wc_Mod_keep w_Mod_add_208 np_Mod_keep (by decide) A3.o rfl rfl (Nat.le_of_ble_eq_true rfl) d_Mod_add_208 (fun v0 n4 h4 hp => ?_) (fun Cx n1 h1 hp => hp.elim)
      obtain ⟨rfl, F4, rfl, y4, A4, O4⟩ := hp
      rw [w3, hql, Int.toNat_natCast, vSet_new] at O4
      rw [w3, v3', t36]
      have b36 := wl_bound (dgt_le d3 (show 36 ≤ 80 by omega))
      have low : W t < 1000000000 ^ 4 → wl G3 36 = W t := fun q => by
        have q1 : wl G3 (36 + 44) < 10 ^ 36 := by rw [show 36 + 44 = 80 from rfl, v3']; exact q
        have q2 := wl_high (wl_low d3 q1)
        rw [← q2]; exact v3'
      have next : ∀ w' : Int, (w' = 0 ∨ w' = 1) → (w' = 1 ↔ ∀ q, q < t + 1 → W q < 1000000000 ^ 4) → V p l e (yRm 4 120 0 0) s m args below meth c 8 d b Q 0 0 n4 h4 224 [(0, .ref (b + 29)), (1, vi r), (2, vi r2), (5, vi (f + mm - 1)), (7, vi (f + t))] [vi w'] := fun w' c1 c2 => by
        refine V_istore C d_Mod_add_224 (by decide) rfl ?_
        refine V_iinc C d_Mod_add_226 rfl rfl (by decide) rfl ?_
        refine V_goto (tgt := 174) C d_Mod_add_229 (by decide) ?_
        refine V_loc2 (ih (t + 1) w' (fu W' t (wl G3 36)) y4 _ (by omega) c1 c2 (fun q hq hs => ?_) (fun q hq => ?_) O4 A4 (F.tr (F1.tr (F2.tr (F3.tr F4))))) ⟨rfl, rfl, rfl, rfl, rfl, ?_, trivial⟩
        · by_cases e1 : q = t
          · subst e1; rw [fu_eq]; exact low hs
          · rw [fu_ne _ _ e1]; exact hw3 q (by omega) hs
        · by_cases e1 : q = t
          · subst e1; rw [fu_eq]; exact b36
          · rw [fu_ne _ _ e1]; exact hW' q hq
        · show some (vi (f + (t : Int) + 1)) = some (vi (f + ((t + 1 : Nat) : Int)))
          rw [show f + (t : Int) + 1 = f + ((t + 1 : Nat) : Int) by omega]
      have hb := bi_in (W t < 1000000000 ^ 4)
      refine V_if_eq (tgt := 223) C d_Mod_add_211 (by decide) (by unfold inI; omega) (fun q211 => ?_) (fun q211 => ?_)
      · have hno := bi_0.mp q211
        refine V_iconst C d_Mod_add_223 rfl ?_
        exact V_loc2 (next 0 (Or.inl rfl) ⟨fun q => absurd q (by omega), fun q => absurd (q t (by omega)) hno⟩) ⟨rfl, rfl, rfl, rfl, rfl, trivial⟩
      · have hyes : W t < 1000000000 ^ 4 := by
          by_cases q : W t < 1000000000 ^ 4
          · exact q
          · exact absurd (bi_n q) q211
        refine V_iload C d_Mod_add_214 rfl ?_
        refine V_if_eq (tgt := 223) C d_Mod_add_216 (by decide) (by unfold inI; omega) (fun q216 => ?_) (fun q216 => ?_)
        · refine V_iconst C d_Mod_add_223 rfl ?_
          exact V_loc2 (next 0 (Or.inl rfl) ⟨fun q => absurd q (by omega), fun q => absurd (hw2.mpr (fun k hk => q k (by omega))) (by omega)⟩) ⟨rfl, rfl, rfl, rfl, rfl, trivial⟩
        · refine V_iconst C d_Mod_add_219 rfl ?_
          refine V_goto (tgt := 224) C d_Mod_add_220 (by decide) ?_
          refine V_loc2 (next 1 (Or.inr rfl) ⟨fun _ k hk => ?_, fun _ => rfl⟩) ⟨rfl, rfl, rfl, rfl, rfl, trivial⟩
          by_cases e1 : k = t
          · rw [e1]; exact hyes
          · exact hw2.mp (by omega) k (by omega)
end ModH
