/-! THE CASES OF THE LAW -/
section LCases
variable {p : Program} {l : Launch} {e : Env} {s : State} {m : MethodId} {args : Array Value} {below : List Frame} {meth : Method} {c : Code} {d : yD} {b : Nat} {Q : State → Prop} {cells slots n : Nat} {h : yH}
variable {tb : List ClassFile.ExceptionTableEntry} {sa L : Nat} {xs : Nat → Int32} {v : Vw} {G : Nat → Int} {t i : Int}
theorem RepM.cst {w : Vw} {k : Nat} (H : RepM d b h w 0) (hk : k = 0) : RepM d b h w (k : Int) := by rw [hk]; exact H
theorem L_tailW (hl : yL l) (C : yC p l s m args meth c yl_ code 8 ret tb d b) {k : Nat} {a : Int} {F : Nat → Int} {w : Vw} (k4 : k ≤ 4) (hM : RepM d b h w (k : Int)) (f38 : h 38 = some (oJ d 1 F)) (h01 : a = 0 ∨ a = 1) (hz : k = 0 → F 0 = a) (hc : cells ≤ room_1.cells) (hs1 : slots ≤ room_1.slots) (kk : V p l e room_1 s m args below meth c 8 d b Q cells slots n h 1263 (lvH sa b i) []) : V p l e room_1 s m args below meth c 8 d b Q cells slots n h 263 ((5, vi (k : Int)) :: lvH sa b i) [vi a] := by
  obtain ⟨y0, B, P, e1⟩ := hM
  refine V_istore C d_Law_law_263 (by decide) rfl ?_
  refine V_aload_n C d_Law_law_265 rfl rfl ?_
  refine V_callV C (c_Mod_thrown hl B) wc_Mod_thrown w_Law_law_154 np_Mod_thrown ⟨by decide, by decide, hc, hs1⟩ B.o rfl rfl (Nat.le_of_ble_eq_true rfl) d_Law_law_266 (fun q n1 h1 hp => ?_) (fun Cx n1 h1 hp => hp.elim)
  obtain ⟨rfl, rfl, rfl⟩ := hp
  rw [e1]
  refine V_iload C d_Law_law_269 rfl ?_
  refine V_icmp_eqE (tgt := 276) C d_Law_law_271 (by omega) ?_
  refine V_iload C d_Law_law_276 rfl ?_
  have K2 : V p l e room_1 s m args below meth c 8 d b Q cells slots n1 h1 300 ((6, vi a) :: (5, vi (k : Int)) :: lvH sa b i) [] := by
    refine V_goto (tgt := 1263) C d_Law_law_300 (by omega) ?_
    exact V_loc (lv' := lvH sa b i) ⟨rfl, rfl, rfl, rfl, rfl, trivial⟩ kk
  refine V_if_ne (tgt := 300) C d_Law_law_278 (by omega) (by unfold inI; omega) (fun q => K2) (fun q => ?_)
  refine V_aload_n C d_Law_law_281 rfl rfl ?_
  refine V_iconst C d_Law_law_282 rfl ?_
  refine V_laload C f38 (by omega) (by omega) (by decide) d_Law_law_283 ?_
  refine V_iload C d_Law_law_284 rfl ?_
  rw [show F (0 : Int).toNat = a from hz (by omega)]
  have K3 : V p l e room_1 s m args below meth c 8 d b Q cells slots n1 h1 294 ((6, vi a) :: (5, vi (k : Int)) :: lvH sa b i) [vj a, vj a] := by
    refine V_lcmpE C d_Law_law_294 ?_
    exact V_if_eq (tgt := 300) C d_Law_law_295 (by omega) inI_0 (fun _ => K2) (fun q => absurd rfl q)
  refine V_if_eq (tgt := 293) C d_Law_law_286 (by omega) (by unfold inI; omega) (fun q2 => ?_) (fun q2 => ?_)
  · subst q2
    exact V_lconst (z := 0) C d_Law_law_293 rfl K3
  · obtain rfl : a = 1 := by omega
    refine V_lconst (z := 1) C d_Law_law_289 rfl ?_
    exact V_goto (tgt := 294) C d_Law_law_290 (by omega) K3
theorem L_tailO (hl : yL l) (C : yC p l s m args meth c yl_ code 8 ret tb d b) {k : Nat} {a : Int} {F : Nat → Int} {w : Vw} (k4 : k ≤ 4) (hM : RepM d b h w (k : Int)) (f38 : h 38 = some (oJ d 1 F)) (hz : k = 0 → F 0 = a) (hc : cells ≤ room_1.cells) (hs1 : slots ≤ room_1.slots) (kk : V p l e room_1 s m args below meth c 8 d b Q cells slots n h 1263 (lvH sa b i) []) : V p l e room_1 s m args below meth c 8 d b Q cells slots n h 1020 ((5, vi (k : Int)) :: lvH sa b i) [vj a] := by
  obtain ⟨y0, B, P, e1⟩ := hM
  refine V_lstore C d_Law_law_1020 (by decide) rfl ?_
  refine V_aload_n C d_Law_law_1022 rfl rfl ?_
  refine V_callV C (c_Mod_thrown hl B) wc_Mod_thrown w_Law_law_154 np_Mod_thrown ⟨by decide, by decide, hc, hs1⟩ B.o rfl rfl (Nat.le_of_ble_eq_true rfl) d_Law_law_1023 (fun q n1 h1 hp => ?_) (fun Cx n1 h1 hp => hp.elim)
  obtain ⟨rfl, rfl, rfl⟩ := hp
  rw [e1]
  refine V_iload C d_Law_law_1026 rfl ?_
  refine V_icmp_eqE (tgt := 1033) C d_Law_law_1028 (by omega) ?_
  refine V_iload C d_Law_law_1033 rfl ?_
  have K2 : V p l e room_1 s m args below meth c 8 d b Q cells slots n1 h1 1049 ((6, vj a) :: (5, vi (k : Int)) :: lvH sa b i) [] := by
    refine V_goto (tgt := 1263) C d_Law_law_1049 (by omega) ?_
    exact V_loc (lv' := lvH sa b i) ⟨rfl, rfl, rfl, rfl, rfl, trivial⟩ kk
  refine V_if_ne (tgt := 1049) C d_Law_law_1035 (by omega) (by unfold inI; omega) (fun q => K2) (fun q => ?_)
  refine V_aload_n C d_Law_law_1038 rfl rfl ?_
  refine V_iconst C d_Law_law_1039 rfl ?_
  refine V_laload C f38 (by omega) (by omega) (by decide) d_Law_law_1040 ?_
  refine V_lload C d_Law_law_1041 rfl ?_
  rw [show F (0 : Int).toNat = a from hz (by omega)]
  refine V_lcmpE C d_Law_law_1043 ?_
  exact V_if_eq (tgt := 1049) C d_Law_law_1044 (by omega) inI_0 (fun _ => K2) (fun q => absurd rfl q)
theorem L_row (hl : yL l) (C : yC p l s m args meth c yl_ code 8 ret tb d b) (S : yS s b sa L xs) (hi : 0 ≤ i ∧ i + 5 ≤ L) (hv : OkV v) (hX : RepX d b h v) (hM : RepM d b h v t) (h38 : h 38 = some (oJ d 1 G)) (hc : cells + 64 ≤ room_1.cells) (hs1 : slots + 512 ≤ room_1.slots)
    (kk : ∀ n1 h1 w, OkV w → RepX d b h1 w → (∃ t1, RepM d b h1 w t1) → (∃ G1, h1 38 = some (oJ d 1 G1)) → V p l e room_1 s m args below meth c 8 d b Q (cells + 64) (slots + 512) n1 h1 1263 (lvH sa b i) []) : V p l e room_1 s m args below meth c 8 d b Q cells slots n h 116 (lvH sa b i) [] := by
  obtain ⟨x, A, O⟩ := hX
  obtain ⟨s1, e1⟩ : ∃ z, sx xs (i + 1) = z := ⟨_, rfl⟩
  have j1 : inI s1 := e1 ▸ sx_in _ _
  obtain ⟨s2, e2⟩ : ∃ z, sx xs (i + 2) = z := ⟨_, rfl⟩
  have j2 : inI s2 := e2 ▸ sx_in _ _
  refine V_aload_n C d_Law_law_116 rfl rfl ?_
  refine V_arg C S d_Law_law_117 d_Law_law_118 d_Law_law_120 d_Law_law_121 d_Law_law_122 rfl rfl (by omega) e1 ?_
  refine V_arg C S d_Law_law_123 d_Law_law_124 d_Law_law_126 d_Law_law_127 d_Law_law_128 rfl rfl (by omega) e2 ?_
  refine V_aload_n C d_Law_law_129 rfl rfl ?_
  refine V_callSW C (c_Law_row hl hv A O h38 j1 j2) wc_Law_row w_Law_law_130 np_Law_row ⟨by decide, by decide, hc, hs1⟩ rfl (Nat.le_of_ble_eq_true rfl) d_Law_law_130 (fun q n1 h1 hp => ?_) (fun Cx n1 h1 hp => hp.elim)
  obtain ⟨hn, rfl, k4, hF, F, f38, g0, g1⟩ := hp
  refine V_istore C d_Law_law_133 (by decide) rfl ?_
  obtain ⟨y0, B, P, -⟩ := hM.kp (fun j q1 q2 => hF j q1 (by omega))
  refine V_aload_n C d_Law_law_135 rfl rfl ?_
  refine V_arg C S d_Law_law_136 d_Law_law_137 d_Law_law_139 d_Law_law_140 d_Law_law_141 rfl rfl (by omega) e1 ?_
  refine V_arg C S d_Law_law_142 d_Law_law_143 d_Law_law_145 d_Law_law_146 d_Law_law_147 rfl rfl (by omega) e2 ?_
  refine V_callV C (c_Mod_row hl hv B P j1 j2) wc_Mod_row w_Law_law_148 np_Mod_row ⟨by decide, by decide, hc, hs1⟩ B.o rfl rfl (Nat.le_of_ble_eq_true rfl) d_Law_law_148 (fun q n2 h2 hp => ?_) (fun Cx n1 h1 hp => hp.elim)
  obtain ⟨rfl, a, rfl, hF2, m0, m1⟩ := hp
  have f39 := (hF2 38 (by omega)).trans f38
  by_cases hk : kRow v s1 s2 = 0
  · obtain ⟨w, ⟨hw, hz⟩, hR⟩ := g0 hk
    rw [hw] at hR
    obtain ⟨hM2, rfl⟩ := m0 hk
    exact L_tail hl C d_Law_law_151 d_Law_law_153 d_Law_law_154 d_Law_law_157 d_Law_law_159 d_Law_law_164 d_Law_law_166 d_Law_law_169 d_Law_law_170 d_Law_law_171 d_Law_law_172 d_Law_law_174 d_Law_law_175 d_Law_law_176 d_Law_law_181 (by omega) k4 (hM2.cst hk) f39 (fun _ => hz) hc hs1 (kk _ h2 _ (hv.row0 hk) (hR.kp (fun j hj => hF2 j (by omega))) ⟨_, hM2⟩ ⟨F, f39⟩)
  · exact L_tail hl C d_Law_law_151 d_Law_law_153 d_Law_law_154 d_Law_law_157 d_Law_law_159 d_Law_law_164 d_Law_law_166 d_Law_law_169 d_Law_law_170 d_Law_law_171 d_Law_law_172 d_Law_law_174 d_Law_law_175 d_Law_law_176 d_Law_law_181 (by omega) k4 (m1 hk) f39 (fun q => absurd q hk) hc hs1 (kk _ h2 _ hv ((g1 hk).kp (fun j hj => hF2 j (by omega))) ⟨_, m1 hk⟩ ⟨F, f39⟩)
theorem L_weight (hl : yL l) (C : yC p l s m args meth c yl_ code 8 ret tb d b) (S : yS s b sa L xs) (hi : 0 ≤ i ∧ i + 5 ≤ L) (hv : OkV v) (hX : RepX d b h v) (hM : RepM d b h v t) (h38 : h 38 = some (oJ d 1 G)) (hc : cells + 64 ≤ room_1.cells) (hs1 : slots + 512 ≤ room_1.slots)
    (kk : ∀ n1 h1 w, OkV w → RepX d b h1 w → (∃ t1, RepM d b h1 w t1) → (∃ G1, h1 38 = some (oJ d 1 G1)) → V p l e room_1 s m args below meth c 8 d b Q (cells + 64) (slots + 512) n1 h1 1263 (lvH sa b i) []) : V p l e room_1 s m args below meth c 8 d b Q cells slots n h 184 (lvH sa b i) [] := by
  obtain ⟨x, A, O⟩ := hX
  obtain ⟨s1, e1⟩ : ∃ z, sx xs (i + 1) = z := ⟨_, rfl⟩
  have j1 : inI s1 := e1 ▸ sx_in _ _
  obtain ⟨s2, e2⟩ : ∃ z, sx xs (i + 2) = z := ⟨_, rfl⟩
  have j2 : inI s2 := e2 ▸ sx_in _ _
  obtain ⟨s3, e3⟩ : ∃ z, sx xs (i + 3) = z := ⟨_, rfl⟩
  have j3 : inI s3 := e3 ▸ sx_in _ _
  obtain ⟨s4, e4⟩ : ∃ z, sx xs (i + 4) = z := ⟨_, rfl⟩
  have j4 : inI s4 := e4 ▸ sx_in _ _
  have i2 : inJ (sj s3 s4) := sj_in _ _
  refine V_aload_n C d_Law_law_184 rfl rfl ?_
  refine V_arg C S d_Law_law_185 d_Law_law_186 d_Law_law_188 d_Law_law_189 d_Law_law_190 rfl rfl (by omega) e1 ?_
  refine V_arg C S d_Law_law_191 d_Law_law_192 d_Law_law_194 d_Law_law_195 d_Law_law_196 rfl rfl (by omega) e2 ?_
  refine V_argJ C S d_Law_law_197 d_Law_law_198 d_Law_law_200 d_Law_law_201 d_Law_law_202 d_Law_law_203 d_Law_law_204 d_Law_law_206 d_Law_law_207 d_Law_law_208 d_Law_law_210 d_Law_law_211 d_Law_law_212 d_Law_law_213 d_Law_law_214 d_Law_law_217 d_Law_law_218 rfl rfl (by omega) e3 e4 ?_
  refine V_aload_n C d_Law_law_219 rfl rfl ?_
  refine V_callSW C (c_Law_weight hl hv A O h38 j1 j2 i2) wc_Law_weight w_Law_law_220 np_Law_weight ⟨by decide, by decide, hc, hs1⟩ rfl (Nat.le_of_ble_eq_true rfl) d_Law_law_220 (fun q n1 h1 hp => ?_) (fun Cx n1 h1 hp => hp.elim)
  obtain ⟨hn, rfl, k4, hF, F, f38, g0, g1⟩ := hp
  refine V_istore C d_Law_law_223 (by decide) rfl ?_
  obtain ⟨y0, B, P, -⟩ := hM.kp (fun j q1 q2 => hF j q1 (by omega))
  refine V_aload_n C d_Law_law_225 rfl rfl ?_
  refine V_arg C S d_Law_law_226 d_Law_law_227 d_Law_law_229 d_Law_law_230 d_Law_law_231 rfl rfl (by omega) e1 ?_
  refine V_arg C S d_Law_law_232 d_Law_law_233 d_Law_law_235 d_Law_law_236 d_Law_law_237 rfl rfl (by omega) e2 ?_
  refine V_argJ C S d_Law_law_238 d_Law_law_239 d_Law_law_241 d_Law_law_242 d_Law_law_243 d_Law_law_244 d_Law_law_245 d_Law_law_247 d_Law_law_248 d_Law_law_249 d_Law_law_251 d_Law_law_252 d_Law_law_253 d_Law_law_254 d_Law_law_255 d_Law_law_258 d_Law_law_259 rfl rfl (by omega) e3 e4 ?_
  refine V_callV C (c_Mod_weight hl hv B P j1 j2 i2) wc_Mod_weight w_Law_law_260 np_Mod_weight ⟨by decide, by decide, hc, hs1⟩ B.o rfl rfl (Nat.le_of_ble_eq_true rfl) d_Law_law_260 (fun q n2 h2 hp => ?_) (fun Cx n1 h1 hp => hp.elim)
  obtain ⟨rfl, a, rfl, h01, hF2, m0, m1⟩ := hp
  have f39 := (hF2 38 (by omega)).trans f38
  by_cases hk : kWt v s1 s2 (sj s3 s4) = 0
  · obtain ⟨w, ⟨hw, hz⟩, hR⟩ := g0 hk
    rw [hw] at hR
    obtain ⟨hM2, rfl⟩ := m0 hk
    exact L_tailW hl C k4 (hM2.cst hk) f39 h01 (fun _ => hz) hc hs1 (kk _ h2 _ (hv.wt0 i2 hk) (hR.kp (fun j hj => hF2 j (by omega))) ⟨_, hM2⟩ ⟨F, f39⟩)
  · exact L_tailW hl C k4 (m1 hk) f39 h01 (fun q => absurd q hk) hc hs1 (kk _ h2 _ hv ((g1 hk).kp (fun j hj => hF2 j (by omega))) ⟨_, m1 hk⟩ ⟨F, f39⟩)
theorem L_add (hl : yL l) (C : yC p l s m args meth c yl_ code 8 ret tb d b) (S : yS s b sa L xs) (hi : 0 ≤ i ∧ i + 5 ≤ L) (hv : OkV v) (hX : RepX d b h v) (hM : RepM d b h v t) (h38 : h 38 = some (oJ d 1 G)) (hc : cells + 64 ≤ room_1.cells) (hs1 : slots + 512 ≤ room_1.slots)
    (kk : ∀ n1 h1 w, OkV w → RepX d b h1 w → (∃ t1, RepM d b h1 w t1) → (∃ G1, h1 38 = some (oJ d 1 G1)) → V p l e room_1 s m args below meth c 8 d b Q (cells + 64) (slots + 512) n1 h1 1263 (lvH sa b i) []) : V p l e room_1 s m args below meth c 8 d b Q cells slots n h 303 (lvH sa b i) [] := by
  obtain ⟨x, A, O⟩ := hX
  obtain ⟨s1, e1⟩ : ∃ z, sx xs (i + 1) = z := ⟨_, rfl⟩
  have j1 : inI s1 := e1 ▸ sx_in _ _
  obtain ⟨s2, e2⟩ : ∃ z, sx xs (i + 2) = z := ⟨_, rfl⟩
  have j2 : inI s2 := e2 ▸ sx_in _ _
  refine V_aload_n C d_Law_law_303 rfl rfl ?_
  refine V_arg C S d_Law_law_304 d_Law_law_305 d_Law_law_307 d_Law_law_308 d_Law_law_309 rfl rfl (by omega) e1 ?_
  refine V_arg C S d_Law_law_310 d_Law_law_311 d_Law_law_313 d_Law_law_314 d_Law_law_315 rfl rfl (by omega) e2 ?_
  refine V_aload_n C d_Law_law_316 rfl rfl ?_
  refine V_callSW C (c_Law_add hl hv A O h38 j1 j2) wc_Law_add w_Law_law_317 np_Law_add ⟨by decide, by decide, hc, hs1⟩ rfl (Nat.le_of_ble_eq_true rfl) d_Law_law_317 (fun q n1 h1 hp => ?_) (fun Cx n1 h1 hp => hp.elim)
  obtain ⟨hn, rfl, k4, hF, F, f38, g0, g1⟩ := hp
  refine V_istore C d_Law_law_320 (by decide) rfl ?_
  obtain ⟨y0, B, P, -⟩ := hM.kp (fun j q1 q2 => hF j q1 (by omega))
  refine V_aload_n C d_Law_law_322 rfl rfl ?_
  refine V_arg C S d_Law_law_323 d_Law_law_324 d_Law_law_326 d_Law_law_327 d_Law_law_328 rfl rfl (by omega) e1 ?_
  refine V_arg C S d_Law_law_329 d_Law_law_330 d_Law_law_332 d_Law_law_333 d_Law_law_334 rfl rfl (by omega) e2 ?_
  refine V_callV C (c_Mod_add hl hv B P j1 j2) wc_Mod_add w_Law_law_335 np_Mod_add ⟨by decide, by decide, hc, hs1⟩ B.o rfl rfl (Nat.le_of_ble_eq_true rfl) d_Law_law_335 (fun q n2 h2 hp => ?_) (fun Cx n1 h1 hp => hp.elim)
  obtain ⟨rfl, a, rfl, hF2, m0, m1⟩ := hp
  have f39 := (hF2 38 (by omega)).trans f38
  by_cases hk : kAdd v s1 s2 = 0
  · obtain ⟨w, ⟨hw, hz⟩, hR⟩ := g0 hk
    rw [hw] at hR
    obtain ⟨hM2, rfl⟩ := m0 hk
    exact L_tail hl C d_Law_law_338 d_Law_law_340 d_Law_law_341 d_Law_law_344 d_Law_law_346 d_Law_law_351 d_Law_law_353 d_Law_law_356 d_Law_law_357 d_Law_law_358 d_Law_law_359 d_Law_law_361 d_Law_law_362 d_Law_law_363 d_Law_law_368 (by omega) k4 (hM2.cst hk) f39 (fun _ => hz) hc hs1 (kk _ h2 _ (hv.add0 hk) (hR.kp (fun j hj => hF2 j (by omega))) ⟨_, hM2⟩ ⟨F, f39⟩)
  · exact L_tail hl C d_Law_law_338 d_Law_law_340 d_Law_law_341 d_Law_law_344 d_Law_law_346 d_Law_law_351 d_Law_law_353 d_Law_law_356 d_Law_law_357 d_Law_law_358 d_Law_law_359 d_Law_law_361 d_Law_law_362 d_Law_law_363 d_Law_law_368 (by omega) k4 (m1 hk) f39 (fun q => absurd q hk) hc hs1 (kk _ h2 _ hv ((g1 hk).kp (fun j hj => hF2 j (by omega))) ⟨_, m1 hk⟩ ⟨F, f39⟩)
theorem L_times (hl : yL l) (C : yC p l s m args meth c yl_ code 8 ret tb d b) (S : yS s b sa L xs) (hi : 0 ≤ i ∧ i + 5 ≤ L) (hv : OkV v) (hX : RepX d b h v) (hM : RepM d b h v t) (h38 : h 38 = some (oJ d 1 G)) (hc : cells + 64 ≤ room_1.cells) (hs1 : slots + 512 ≤ room_1.slots)
    (kk : ∀ n1 h1 w, OkV w → RepX d b h1 w → (∃ t1, RepM d b h1 w t1) → (∃ G1, h1 38 = some (oJ d 1 G1)) → V p l e room_1 s m args below meth c 8 d b Q (cells + 64) (slots + 512) n1 h1 1263 (lvH sa b i) []) : V p l e room_1 s m args below meth c 8 d b Q cells slots n h 371 (lvH sa b i) [] := by
  obtain ⟨x, A, O⟩ := hX
  obtain ⟨s1, e1⟩ : ∃ z, sx xs (i + 1) = z := ⟨_, rfl⟩
  have j1 : inI s1 := e1 ▸ sx_in _ _
  obtain ⟨s2, e2⟩ : ∃ z, sx xs (i + 2) = z := ⟨_, rfl⟩
  have j2 : inI s2 := e2 ▸ sx_in _ _
  obtain ⟨s3, e3⟩ : ∃ z, sx xs (i + 3) = z := ⟨_, rfl⟩
  have j3 : inI s3 := e3 ▸ sx_in _ _
  refine V_aload_n C d_Law_law_371 rfl rfl ?_
  refine V_arg C S d_Law_law_372 d_Law_law_373 d_Law_law_375 d_Law_law_376 d_Law_law_377 rfl rfl (by omega) e1 ?_
  refine V_arg C S d_Law_law_378 d_Law_law_379 d_Law_law_381 d_Law_law_382 d_Law_law_383 rfl rfl (by omega) e2 ?_
  refine V_arg C S d_Law_law_384 d_Law_law_385 d_Law_law_387 d_Law_law_388 d_Law_law_389 rfl rfl (by omega) e3 ?_
  refine V_aload_n C d_Law_law_390 rfl rfl ?_
  refine V_callSW C (c_Law_times hl hv A O h38 j1 j2 j3) wc_Law_times w_Law_law_391 np_Law_times ⟨by decide, by decide, hc, hs1⟩ rfl (Nat.le_of_ble_eq_true rfl) d_Law_law_391 (fun q n1 h1 hp => ?_) (fun Cx n1 h1 hp => hp.elim)
  obtain ⟨hn, rfl, k4, hF, F, f38, g0, g1⟩ := hp
  refine V_istore C d_Law_law_394 (by decide) rfl ?_
  obtain ⟨y0, B, P, -⟩ := hM.kp (fun j q1 q2 => hF j q1 (by omega))
  refine V_aload_n C d_Law_law_396 rfl rfl ?_
  refine V_arg C S d_Law_law_397 d_Law_law_398 d_Law_law_400 d_Law_law_401 d_Law_law_402 rfl rfl (by omega) e1 ?_
  refine V_arg C S d_Law_law_403 d_Law_law_404 d_Law_law_406 d_Law_law_407 d_Law_law_408 rfl rfl (by omega) e2 ?_
  refine V_arg C S d_Law_law_409 d_Law_law_410 d_Law_law_412 d_Law_law_413 d_Law_law_414 rfl rfl (by omega) e3 ?_
  refine V_callV C (c_Mod_times hl hv B P j1 j2 j3) wc_Mod_times w_Law_law_415 np_Mod_times ⟨by decide, by decide, hc, hs1⟩ B.o rfl rfl (Nat.le_of_ble_eq_true rfl) d_Law_law_415 (fun q n2 h2 hp => ?_) (fun Cx n1 h1 hp => hp.elim)
  obtain ⟨rfl, a, rfl, hF2, m0, m1⟩ := hp
  have f39 := (hF2 38 (by omega)).trans f38
  by_cases hk : kTm v s1 s2 s3 = 0
  · obtain ⟨w, ⟨hw, hz⟩, hR⟩ := g0 hk
    rw [hw] at hR
    obtain ⟨hM2, rfl⟩ := m0 hk
    exact L_tail hl C d_Law_law_418 d_Law_law_420 d_Law_law_421 d_Law_law_424 d_Law_law_426 d_Law_law_431 d_Law_law_433 d_Law_law_436 d_Law_law_437 d_Law_law_438 d_Law_law_439 d_Law_law_441 d_Law_law_442 d_Law_law_443 d_Law_law_448 (by omega) k4 (hM2.cst hk) f39 (fun _ => hz) hc hs1 (kk _ h2 _ (hv.tm0 hk) (hR.kp (fun j hj => hF2 j (by omega))) ⟨_, hM2⟩ ⟨F, f39⟩)
  · exact L_tail hl C d_Law_law_418 d_Law_law_420 d_Law_law_421 d_Law_law_424 d_Law_law_426 d_Law_law_431 d_Law_law_433 d_Law_law_436 d_Law_law_437 d_Law_law_438 d_Law_law_439 d_Law_law_441 d_Law_law_442 d_Law_law_443 d_Law_law_448 (by omega) k4 (m1 hk) f39 (fun q => absurd q hk) hc hs1 (kk _ h2 _ hv ((g1 hk).kp (fun j hj => hF2 j (by omega))) ⟨_, m1 hk⟩ ⟨F, f39⟩)
theorem L_least (hl : yL l) (C : yC p l s m args meth c yl_ code 8 ret tb d b) (S : yS s b sa L xs) (hi : 0 ≤ i ∧ i + 5 ≤ L) (hv : OkV v) (hX : RepX d b h v) (hM : RepM d b h v t) (h38 : h 38 = some (oJ d 1 G)) (hc : cells + 64 ≤ room_1.cells) (hs1 : slots + 512 ≤ room_1.slots)
    (kk : ∀ n1 h1 w, OkV w → RepX d b h1 w → (∃ t1, RepM d b h1 w t1) → (∃ G1, h1 38 = some (oJ d 1 G1)) → V p l e room_1 s m args below meth c 8 d b Q (cells + 64) (slots + 512) n1 h1 1263 (lvH sa b i) []) : V p l e room_1 s m args below meth c 8 d b Q cells slots n h 465 (lvH sa b i) [] := by
  obtain ⟨x, A, O⟩ := hX
  obtain ⟨s1, e1⟩ : ∃ z, sx xs (i + 1) = z := ⟨_, rfl⟩
  have j1 : inI s1 := e1 ▸ sx_in _ _
  obtain ⟨s2, e2⟩ : ∃ z, sx xs (i + 2) = z := ⟨_, rfl⟩
  have j2 : inI s2 := e2 ▸ sx_in _ _
  obtain ⟨s3, e3⟩ : ∃ z, sx xs (i + 3) = z := ⟨_, rfl⟩
  have j3 : inI s3 := e3 ▸ sx_in _ _
  refine V_aload_n C d_Law_law_465 rfl rfl ?_
  refine V_arg C S d_Law_law_466 d_Law_law_467 d_Law_law_469 d_Law_law_470 d_Law_law_471 rfl rfl (by omega) e1 ?_
  refine V_arg C S d_Law_law_472 d_Law_law_473 d_Law_law_475 d_Law_law_476 d_Law_law_477 rfl rfl (by omega) e2 ?_
  refine V_arg C S d_Law_law_478 d_Law_law_479 d_Law_law_481 d_Law_law_482 d_Law_law_483 rfl rfl (by omega) e3 ?_
  refine V_aload_n C d_Law_law_484 rfl rfl ?_
  refine V_callSW C (c_Law_least hl hv A O h38 j1 j2 j3) wc_Law_least w_Law_law_485 np_Law_least ⟨by decide, by decide, hc, hs1⟩ rfl (Nat.le_of_ble_eq_true rfl) d_Law_law_485 (fun q n1 h1 hp => ?_) (fun Cx n1 h1 hp => hp.elim)
  obtain ⟨hn, rfl, k4, hF, F, f38, g0, g1⟩ := hp
  refine V_istore C d_Law_law_488 (by decide) rfl ?_
  obtain ⟨y0, B, P, -⟩ := hM.kp (fun j q1 q2 => hF j q1 (by omega))
  refine V_aload_n C d_Law_law_490 rfl rfl ?_
  refine V_arg C S d_Law_law_491 d_Law_law_492 d_Law_law_494 d_Law_law_495 d_Law_law_496 rfl rfl (by omega) e1 ?_
  refine V_arg C S d_Law_law_497 d_Law_law_498 d_Law_law_500 d_Law_law_501 d_Law_law_502 rfl rfl (by omega) e2 ?_
  refine V_arg C S d_Law_law_503 d_Law_law_504 d_Law_law_506 d_Law_law_507 d_Law_law_508 rfl rfl (by omega) e3 ?_
  refine V_callV C (c_Mod_least hl hv B P j1 j2 j3) wc_Mod_least w_Law_law_509 np_Mod_least ⟨by decide, by decide, hc, hs1⟩ B.o rfl rfl (Nat.le_of_ble_eq_true rfl) d_Law_law_509 (fun q n2 h2 hp => ?_) (fun Cx n1 h1 hp => hp.elim)
  obtain ⟨rfl, a, rfl, hF2, m0, m1⟩ := hp
  have f39 := (hF2 38 (by omega)).trans f38
  by_cases hk : kLs v s1 s2 s3 = 0
  · obtain ⟨w, ⟨u1, hu1, rfl, hz⟩, hR⟩ := g0 hk
    obtain ⟨u2, hu2, hM2, rfl⟩ := m0 hk
    obtain rfl := lsOk_one hu1 hu2
    exact L_tail hl C d_Law_law_512 d_Law_law_514 d_Law_law_515 d_Law_law_518 d_Law_law_520 d_Law_law_525 d_Law_law_527 d_Law_law_530 d_Law_law_531 d_Law_law_532 d_Law_law_533 d_Law_law_535 d_Law_law_536 d_Law_law_537 d_Law_law_542 (by omega) k4 (hM2.cst hk) f39 (fun _ => hz) hc hs1 (kk _ h2 _ (hv.ls0 (by have := kLs_r hk; omega) _) (hR.kp (fun j hj => hF2 j (by omega))) ⟨_, hM2⟩ ⟨F, f39⟩)
  · exact L_tail hl C d_Law_law_512 d_Law_law_514 d_Law_law_515 d_Law_law_518 d_Law_law_520 d_Law_law_525 d_Law_law_527 d_Law_law_530 d_Law_law_531 d_Law_law_532 d_Law_law_533 d_Law_law_535 d_Law_law_536 d_Law_law_537 d_Law_law_542 (by omega) k4 (m1 hk) f39 (fun q => absurd q hk) hc hs1 (kk _ h2 _ hv ((g1 hk).kp (fun j hj => hF2 j (by omega))) ⟨_, m1 hk⟩ ⟨F, f39⟩)
theorem L_span (hl : yL l) (C : yC p l s m args meth c yl_ code 8 ret tb d b) (S : yS s b sa L xs) (hi : 0 ≤ i ∧ i + 5 ≤ L) (hv : OkV v) (hX : RepX d b h v) (hM : RepM d b h v t) (h38 : h 38 = some (oJ d 1 G)) (hc : cells + 64 ≤ room_1.cells) (hs1 : slots + 512 ≤ room_1.slots)
    (kk : ∀ n1 h1 w, OkV w → RepX d b h1 w → (∃ t1, RepM d b h1 w t1) → (∃ G1, h1 38 = some (oJ d 1 G1)) → V p l e room_1 s m args below meth c 8 d b Q (cells + 64) (slots + 512) n1 h1 1263 (lvH sa b i) []) : V p l e room_1 s m args below meth c 8 d b Q cells slots n h 545 (lvH sa b i) [] := by
  obtain ⟨x, A, O⟩ := hX
  obtain ⟨s1, e1⟩ : ∃ z, sx xs (i + 1) = z := ⟨_, rfl⟩
  have j1 : inI s1 := e1 ▸ sx_in _ _
  obtain ⟨s2, e2⟩ : ∃ z, sx xs (i + 2) = z := ⟨_, rfl⟩
  have j2 : inI s2 := e2 ▸ sx_in _ _
  refine V_aload_n C d_Law_law_545 rfl rfl ?_
  refine V_arg C S d_Law_law_546 d_Law_law_547 d_Law_law_549 d_Law_law_550 d_Law_law_551 rfl rfl (by omega) e1 ?_
  refine V_arg C S d_Law_law_552 d_Law_law_553 d_Law_law_555 d_Law_law_556 d_Law_law_557 rfl rfl (by omega) e2 ?_
  refine V_aload_n C d_Law_law_558 rfl rfl ?_
  refine V_callSW C (c_Law_span hl hv A O h38 j1 j2) wc_Law_span w_Law_law_559 np_Law_span ⟨by decide, by decide, hc, hs1⟩ rfl (Nat.le_of_ble_eq_true rfl) d_Law_law_559 (fun q n1 h1 hp => ?_) (fun Cx n1 h1 hp => hp.elim)
  obtain ⟨hn, rfl, k4, hF, F, f38, g0, g1⟩ := hp
  refine V_istore C d_Law_law_562 (by decide) rfl ?_
  obtain ⟨y0, B, P, -⟩ := hM.kp (fun j q1 q2 => hF j q1 (by omega))
  refine V_aload_n C d_Law_law_564 rfl rfl ?_
  refine V_arg C S d_Law_law_565 d_Law_law_566 d_Law_law_568 d_Law_law_569 d_Law_law_570 rfl rfl (by omega) e1 ?_
  refine V_arg C S d_Law_law_571 d_Law_law_572 d_Law_law_574 d_Law_law_575 d_Law_law_576 rfl rfl (by omega) e2 ?_
  refine V_callV C (c_Mod_span hl hv B P j1 j2) wc_Mod_span w_Law_law_577 np_Mod_span ⟨by decide, by decide, hc, hs1⟩ B.o rfl rfl (Nat.le_of_ble_eq_true rfl) d_Law_law_577 (fun q n2 h2 hp => ?_) (fun Cx n1 h1 hp => hp.elim)
  obtain ⟨rfl, a, rfl, hF2, m0, m1⟩ := hp
  have f39 := (hF2 38 (by omega)).trans f38
  by_cases hk : kSp v s1 s2 = 0
  · obtain ⟨w, ⟨hw, hz⟩, hR⟩ := g0 hk
    rw [hw] at hR
    obtain ⟨hM2, rfl⟩ := m0 hk
    exact L_tail hl C d_Law_law_580 d_Law_law_582 d_Law_law_583 d_Law_law_586 d_Law_law_588 d_Law_law_593 d_Law_law_595 d_Law_law_598 d_Law_law_599 d_Law_law_600 d_Law_law_601 d_Law_law_603 d_Law_law_604 d_Law_law_605 d_Law_law_610 (by omega) k4 (hM2.cst hk) f39 (fun _ => hz) hc hs1 (kk _ h2 _ (hv) (hR.kp (fun j hj => hF2 j (by omega))) ⟨_, hM2⟩ ⟨F, f39⟩)
  · exact L_tail hl C d_Law_law_580 d_Law_law_582 d_Law_law_583 d_Law_law_586 d_Law_law_588 d_Law_law_593 d_Law_law_595 d_Law_law_598 d_Law_law_599 d_Law_law_600 d_Law_law_601 d_Law_law_603 d_Law_law_604 d_Law_law_605 d_Law_law_610 (by omega) k4 (m1 hk) f39 (fun q => absurd q hk) hc hs1 (kk _ h2 _ hv ((g1 hk).kp (fun j hj => hF2 j (by omega))) ⟨_, m1 hk⟩ ⟨F, f39⟩)
theorem L_digit (hl : yL l) (C : yC p l s m args meth c yl_ code 8 ret tb d b) (S : yS s b sa L xs) (hi : 0 ≤ i ∧ i + 5 ≤ L) (hv : OkV v) (hX : RepX d b h v) (hM : RepM d b h v t) (h38 : h 38 = some (oJ d 1 G)) (hc : cells + 64 ≤ room_1.cells) (hs1 : slots + 512 ≤ room_1.slots)
    (kk : ∀ n1 h1 w, OkV w → RepX d b h1 w → (∃ t1, RepM d b h1 w t1) → (∃ G1, h1 38 = some (oJ d 1 G1)) → V p l e room_1 s m args below meth c 8 d b Q (cells + 64) (slots + 512) n1 h1 1263 (lvH sa b i) []) : V p l e room_1 s m args below meth c 8 d b Q cells slots n h 613 (lvH sa b i) [] := by
  obtain ⟨x, A, O⟩ := hX
  obtain ⟨s1, e1⟩ : ∃ z, sx xs (i + 1) = z := ⟨_, rfl⟩
  have j1 : inI s1 := e1 ▸ sx_in _ _
  obtain ⟨s2, e2⟩ : ∃ z, sx xs (i + 2) = z := ⟨_, rfl⟩
  have j2 : inI s2 := e2 ▸ sx_in _ _
  obtain ⟨s3, e3⟩ : ∃ z, sx xs (i + 3) = z := ⟨_, rfl⟩
  have j3 : inI s3 := e3 ▸ sx_in _ _
  refine V_aload_n C d_Law_law_613 rfl rfl ?_
  refine V_arg C S d_Law_law_614 d_Law_law_615 d_Law_law_617 d_Law_law_618 d_Law_law_619 rfl rfl (by omega) e1 ?_
  refine V_arg C S d_Law_law_620 d_Law_law_621 d_Law_law_623 d_Law_law_624 d_Law_law_625 rfl rfl (by omega) e2 ?_
  refine V_arg C S d_Law_law_626 d_Law_law_627 d_Law_law_629 d_Law_law_630 d_Law_law_631 rfl rfl (by omega) e3 ?_
  refine V_aload_n C d_Law_law_632 rfl rfl ?_
  refine V_callSW C (c_Law_digit hl hv A O h38 j1 j2 j3) wc_Law_digit w_Law_law_633 np_Law_digit ⟨by decide, by decide, hc, hs1⟩ rfl (Nat.le_of_ble_eq_true rfl) d_Law_law_633 (fun q n1 h1 hp => ?_) (fun Cx n1 h1 hp => hp.elim)
  obtain ⟨hn, rfl, k4, hF, F, f38, g0, g1⟩ := hp
  refine V_istore C d_Law_law_636 (by decide) rfl ?_
  obtain ⟨y0, B, P, -⟩ := hM.kp (fun j q1 q2 => hF j q1 (by omega))
  refine V_aload_n C d_Law_law_638 rfl rfl ?_
  refine V_arg C S d_Law_law_639 d_Law_law_640 d_Law_law_642 d_Law_law_643 d_Law_law_644 rfl rfl (by omega) e1 ?_
  refine V_arg C S d_Law_law_645 d_Law_law_646 d_Law_law_648 d_Law_law_649 d_Law_law_650 rfl rfl (by omega) e2 ?_
  refine V_arg C S d_Law_law_651 d_Law_law_652 d_Law_law_654 d_Law_law_655 d_Law_law_656 rfl rfl (by omega) e3 ?_
  refine V_callV C (c_Mod_digit hl hv B P j1 j2 j3) wc_Mod_digit w_Law_law_657 np_Mod_digit ⟨by decide, by decide, hc, hs1⟩ B.o rfl rfl (Nat.le_of_ble_eq_true rfl) d_Law_law_657 (fun q n2 h2 hp => ?_) (fun Cx n1 h1 hp => hp.elim)
  obtain ⟨rfl, a, rfl, hF2, m0, m1⟩ := hp
  have f39 := (hF2 38 (by omega)).trans f38
  by_cases hk : kDg v s1 s2 s3 = 0
  · obtain ⟨w, ⟨hw, hz⟩, hR⟩ := g0 hk
    rw [hw] at hR
    obtain ⟨hM2, rfl⟩ := m0 hk
    exact L_tail hl C d_Law_law_660 d_Law_law_662 d_Law_law_663 d_Law_law_666 d_Law_law_668 d_Law_law_673 d_Law_law_675 d_Law_law_678 d_Law_law_679 d_Law_law_680 d_Law_law_681 d_Law_law_683 d_Law_law_684 d_Law_law_685 d_Law_law_690 (by omega) k4 (hM2.cst hk) f39 (fun _ => hz) hc hs1 (kk _ h2 _ (hv) (hR.kp (fun j hj => hF2 j (by omega))) ⟨_, hM2⟩ ⟨F, f39⟩)
  · exact L_tail hl C d_Law_law_660 d_Law_law_662 d_Law_law_663 d_Law_law_666 d_Law_law_668 d_Law_law_673 d_Law_law_675 d_Law_law_678 d_Law_law_679 d_Law_law_680 d_Law_law_681 d_Law_law_683 d_Law_law_684 d_Law_law_685 d_Law_law_690 (by omega) k4 (m1 hk) f39 (fun q => absurd q hk) hc hs1 (kk _ h2 _ hv ((g1 hk).kp (fun j hj => hF2 j (by omega))) ⟨_, m1 hk⟩ ⟨F, f39⟩)
theorem L_total (hl : yL l) (C : yC p l s m args meth c yl_ code 8 ret tb d b) (S : yS s b sa L xs) (hi : 0 ≤ i ∧ i + 5 ≤ L) (hv : OkV v) (hX : RepX d b h v) (hM : RepM d b h v t) (h38 : h 38 = some (oJ d 1 G)) (hc : cells + 64 ≤ room_1.cells) (hs1 : slots + 512 ≤ room_1.slots)
    (kk : ∀ n1 h1 w, OkV w → RepX d b h1 w → (∃ t1, RepM d b h1 w t1) → (∃ G1, h1 38 = some (oJ d 1 G1)) → V p l e room_1 s m args below meth c 8 d b Q (cells + 64) (slots + 512) n1 h1 1263 (lvH sa b i) []) : V p l e room_1 s m args below meth c 8 d b Q cells slots n h 693 (lvH sa b i) [] := by
  obtain ⟨x, A, O⟩ := hX
  obtain ⟨s1, e1⟩ : ∃ z, sx xs (i + 1) = z := ⟨_, rfl⟩
  have j1 : inI s1 := e1 ▸ sx_in _ _
  obtain ⟨s2, e2⟩ : ∃ z, sx xs (i + 2) = z := ⟨_, rfl⟩
  have j2 : inI s2 := e2 ▸ sx_in _ _
  refine V_aload_n C d_Law_law_693 rfl rfl ?_
  refine V_arg C S d_Law_law_694 d_Law_law_695 d_Law_law_697 d_Law_law_698 d_Law_law_699 rfl rfl (by omega) e1 ?_
  refine V_arg C S d_Law_law_700 d_Law_law_701 d_Law_law_703 d_Law_law_704 d_Law_law_705 rfl rfl (by omega) e2 ?_
  refine V_aload_n C d_Law_law_706 rfl rfl ?_
  refine V_callSW C (c_Law_total hl hv A O h38 j1 j2) wc_Law_total w_Law_law_707 np_Law_total ⟨by decide, by decide, hc, hs1⟩ rfl (Nat.le_of_ble_eq_true rfl) d_Law_law_707 (fun q n1 h1 hp => ?_) (fun Cx n1 h1 hp => hp.elim)
  obtain ⟨hn, rfl, k4, hF, F, f38, g0, g1⟩ := hp
  refine V_istore C d_Law_law_710 (by decide) rfl ?_
  obtain ⟨y0, B, P, -⟩ := hM.kp (fun j q1 q2 => hF j q1 (by omega))
  refine V_aload_n C d_Law_law_712 rfl rfl ?_
  refine V_arg C S d_Law_law_713 d_Law_law_714 d_Law_law_716 d_Law_law_717 d_Law_law_718 rfl rfl (by omega) e1 ?_
  refine V_arg C S d_Law_law_719 d_Law_law_720 d_Law_law_722 d_Law_law_723 d_Law_law_724 rfl rfl (by omega) e2 ?_
  refine V_callV C (c_Mod_total hl hv B P j1 j2) wc_Mod_total w_Law_law_725 np_Mod_total ⟨by decide, by decide, hc, hs1⟩ B.o rfl rfl (Nat.le_of_ble_eq_true rfl) d_Law_law_725 (fun q n2 h2 hp => ?_) (fun Cx n1 h1 hp => hp.elim)
  obtain ⟨rfl, a, rfl, hF2, m0, m1⟩ := hp
  have f39 := (hF2 38 (by omega)).trans f38
  by_cases hk : kTo v s1 s2 = 0
  · obtain ⟨w, ⟨hw, hz⟩, hR⟩ := g0 hk
    rw [hw] at hR
    obtain ⟨hM2, rfl⟩ := m0 hk
    exact L_tail hl C d_Law_law_728 d_Law_law_730 d_Law_law_731 d_Law_law_734 d_Law_law_736 d_Law_law_741 d_Law_law_743 d_Law_law_746 d_Law_law_747 d_Law_law_748 d_Law_law_749 d_Law_law_751 d_Law_law_752 d_Law_law_753 d_Law_law_758 (by omega) k4 (hM2.cst hk) f39 (fun _ => hz) hc hs1 (kk _ h2 _ (hv) (hR.kp (fun j hj => hF2 j (by omega))) ⟨_, hM2⟩ ⟨F, f39⟩)
  · exact L_tail hl C d_Law_law_728 d_Law_law_730 d_Law_law_731 d_Law_law_734 d_Law_law_736 d_Law_law_741 d_Law_law_743 d_Law_law_746 d_Law_law_747 d_Law_law_748 d_Law_law_749 d_Law_law_751 d_Law_law_752 d_Law_law_753 d_Law_law_758 (by omega) k4 (m1 hk) f39 (fun q => absurd q hk) hc hs1 (kk _ h2 _ hv ((g1 hk).kp (fun j hj => hF2 j (by omega))) ⟨_, m1 hk⟩ ⟨F, f39⟩)
theorem L_compare (hl : yL l) (C : yC p l s m args meth c yl_ code 8 ret tb d b) (S : yS s b sa L xs) (hi : 0 ≤ i ∧ i + 5 ≤ L) (hv : OkV v) (hX : RepX d b h v) (hM : RepM d b h v t) (h38 : h 38 = some (oJ d 1 G)) (hc : cells + 64 ≤ room_1.cells) (hs1 : slots + 512 ≤ room_1.slots)
    (kk : ∀ n1 h1 w, OkV w → RepX d b h1 w → (∃ t1, RepM d b h1 w t1) → (∃ G1, h1 38 = some (oJ d 1 G1)) → V p l e room_1 s m args below meth c 8 d b Q (cells + 64) (slots + 512) n1 h1 1263 (lvH sa b i) []) : V p l e room_1 s m args below meth c 8 d b Q cells slots n h 761 (lvH sa b i) [] := by
  obtain ⟨x, A, O⟩ := hX
  obtain ⟨s1, e1⟩ : ∃ z, sx xs (i + 1) = z := ⟨_, rfl⟩
  have j1 : inI s1 := e1 ▸ sx_in _ _
  obtain ⟨s2, e2⟩ : ∃ z, sx xs (i + 2) = z := ⟨_, rfl⟩
  have j2 : inI s2 := e2 ▸ sx_in _ _
  obtain ⟨s3, e3⟩ : ∃ z, sx xs (i + 3) = z := ⟨_, rfl⟩
  have j3 : inI s3 := e3 ▸ sx_in _ _
  obtain ⟨s4, e4⟩ : ∃ z, sx xs (i + 4) = z := ⟨_, rfl⟩
  have j4 : inI s4 := e4 ▸ sx_in _ _
  refine V_aload_n C d_Law_law_761 rfl rfl ?_
  refine V_arg C S d_Law_law_762 d_Law_law_763 d_Law_law_765 d_Law_law_766 d_Law_law_767 rfl rfl (by omega) e1 ?_
  refine V_arg C S d_Law_law_768 d_Law_law_769 d_Law_law_771 d_Law_law_772 d_Law_law_773 rfl rfl (by omega) e2 ?_
  refine V_arg C S d_Law_law_774 d_Law_law_775 d_Law_law_777 d_Law_law_778 d_Law_law_779 rfl rfl (by omega) e3 ?_
  refine V_arg C S d_Law_law_780 d_Law_law_781 d_Law_law_783 d_Law_law_784 d_Law_law_785 rfl rfl (by omega) e4 ?_
  refine V_aload_n C d_Law_law_786 rfl rfl ?_
  refine V_callSW C (c_Law_compare hl hv A O h38 j1 j2 j3 j4) wc_Law_compare w_Law_law_787 np_Law_compare ⟨by decide, by decide, hc, hs1⟩ rfl (Nat.le_of_ble_eq_true rfl) d_Law_law_787 (fun q n1 h1 hp => ?_) (fun Cx n1 h1 hp => hp.elim)
  obtain ⟨hn, rfl, k4, hF, F, f38, g0, g1⟩ := hp
  refine V_istore C d_Law_law_790 (by decide) rfl ?_
  obtain ⟨y0, B, P, -⟩ := hM.kp (fun j q1 q2 => hF j q1 (by omega))
  refine V_aload_n C d_Law_law_792 rfl rfl ?_
  refine V_arg C S d_Law_law_793 d_Law_law_794 d_Law_law_796 d_Law_law_797 d_Law_law_798 rfl rfl (by omega) e1 ?_
  refine V_arg C S d_Law_law_799 d_Law_law_800 d_Law_law_802 d_Law_law_803 d_Law_law_804 rfl rfl (by omega) e2 ?_
  refine V_arg C S d_Law_law_805 d_Law_law_806 d_Law_law_808 d_Law_law_809 d_Law_law_810 rfl rfl (by omega) e3 ?_
  refine V_arg C S d_Law_law_811 d_Law_law_812 d_Law_law_814 d_Law_law_815 d_Law_law_816 rfl rfl (by omega) e4 ?_
  refine V_callV C (c_Mod_compare hl hv B P j1 j2 j3 j4) wc_Mod_compare w_Law_law_817 np_Mod_compare ⟨by decide, by decide, hc, hs1⟩ B.o rfl rfl (Nat.le_of_ble_eq_true rfl) d_Law_law_817 (fun q n2 h2 hp => ?_) (fun Cx n1 h1 hp => hp.elim)
  obtain ⟨rfl, a, rfl, hF2, m0, m1⟩ := hp
  have f39 := (hF2 38 (by omega)).trans f38
  by_cases hk : kCo v s1 s2 s3 s4 = 0
  · obtain ⟨w, ⟨hw, hz⟩, hR⟩ := g0 hk
    rw [hw] at hR
    obtain ⟨hM2, rfl⟩ := m0 hk
    exact L_tail hl C d_Law_law_820 d_Law_law_822 d_Law_law_823 d_Law_law_826 d_Law_law_828 d_Law_law_833 d_Law_law_835 d_Law_law_838 d_Law_law_839 d_Law_law_840 d_Law_law_841 d_Law_law_843 d_Law_law_844 d_Law_law_845 d_Law_law_850 (by omega) k4 (hM2.cst hk) f39 (fun _ => hz) hc hs1 (kk _ h2 _ (hv) (hR.kp (fun j hj => hF2 j (by omega))) ⟨_, hM2⟩ ⟨F, f39⟩)
  · exact L_tail hl C d_Law_law_820 d_Law_law_822 d_Law_law_823 d_Law_law_826 d_Law_law_828 d_Law_law_833 d_Law_law_835 d_Law_law_838 d_Law_law_839 d_Law_law_840 d_Law_law_841 d_Law_law_843 d_Law_law_844 d_Law_law_845 d_Law_law_850 (by omega) k4 (m1 hk) f39 (fun q => absurd q hk) hc hs1 (kk _ h2 _ hv ((g1 hk).kp (fun j hj => hF2 j (by omega))) ⟨_, m1 hk⟩ ⟨F, f39⟩)
theorem L_about (hl : yL l) (C : yC p l s m args meth c yl_ code 8 ret tb d b) (S : yS s b sa L xs) (hi : 0 ≤ i ∧ i + 5 ≤ L) (hv : OkV v) (hX : RepX d b h v) (hM : RepM d b h v t) (h38 : h 38 = some (oJ d 1 G)) (hc : cells + 64 ≤ room_1.cells) (hs1 : slots + 512 ≤ room_1.slots)
    (kk : ∀ n1 h1 w, OkV w → RepX d b h1 w → (∃ t1, RepM d b h1 w t1) → (∃ G1, h1 38 = some (oJ d 1 G1)) → V p l e room_1 s m args below meth c 8 d b Q (cells + 64) (slots + 512) n1 h1 1263 (lvH sa b i) []) : V p l e room_1 s m args below meth c 8 d b Q cells slots n h 853 (lvH sa b i) [] := by
  obtain ⟨x, A, O⟩ := hX
  obtain ⟨s1, e1⟩ : ∃ z, sx xs (i + 1) = z := ⟨_, rfl⟩
  have j1 : inI s1 := e1 ▸ sx_in _ _
  obtain ⟨s2, e2⟩ : ∃ z, sx xs (i + 2) = z := ⟨_, rfl⟩
  have j2 : inI s2 := e2 ▸ sx_in _ _
  refine V_aload_n C d_Law_law_853 rfl rfl ?_
  refine V_arg C S d_Law_law_854 d_Law_law_855 d_Law_law_857 d_Law_law_858 d_Law_law_859 rfl rfl (by omega) e1 ?_
  refine V_arg C S d_Law_law_860 d_Law_law_861 d_Law_law_863 d_Law_law_864 d_Law_law_865 rfl rfl (by omega) e2 ?_
  refine V_aload_n C d_Law_law_866 rfl rfl ?_
  refine V_callSW C (c_Law_about hl hv A O h38 j1 j2) wc_Law_about w_Law_law_867 np_Law_about ⟨by decide, by decide, hc, hs1⟩ rfl (Nat.le_of_ble_eq_true rfl) d_Law_law_867 (fun q n1 h1 hp => ?_) (fun Cx n1 h1 hp => hp.elim)
  obtain ⟨hn, rfl, k4, hF, F, f38, g0, g1⟩ := hp
  refine V_istore C d_Law_law_870 (by decide) rfl ?_
  obtain ⟨y0, B, P, -⟩ := hM.kp (fun j q1 q2 => hF j q1 (by omega))
  refine V_aload_n C d_Law_law_872 rfl rfl ?_
  refine V_arg C S d_Law_law_873 d_Law_law_874 d_Law_law_876 d_Law_law_877 d_Law_law_878 rfl rfl (by omega) e1 ?_
  refine V_arg C S d_Law_law_879 d_Law_law_880 d_Law_law_882 d_Law_law_883 d_Law_law_884 rfl rfl (by omega) e2 ?_
  refine V_callV C (c_Mod_about hl hv B P j1 j2) wc_Mod_about w_Law_law_885 np_Mod_about ⟨by decide, by decide, hc, hs1⟩ B.o rfl rfl (Nat.le_of_ble_eq_true rfl) d_Law_law_885 (fun q n2 h2 hp => ?_) (fun Cx n1 h1 hp => hp.elim)
  obtain ⟨rfl, a, rfl, hF2, m0, m1⟩ := hp
  have f39 := (hF2 38 (by omega)).trans f38
  by_cases hk : kAb v s1 s2 = 0
  · obtain ⟨w, ⟨hw, hz⟩, hR⟩ := g0 hk
    rw [hw] at hR
    obtain ⟨hM2, rfl⟩ := m0 hk
    exact L_tail hl C d_Law_law_888 d_Law_law_890 d_Law_law_891 d_Law_law_894 d_Law_law_896 d_Law_law_901 d_Law_law_903 d_Law_law_906 d_Law_law_907 d_Law_law_908 d_Law_law_909 d_Law_law_911 d_Law_law_912 d_Law_law_913 d_Law_law_918 (by omega) k4 (hM2.cst hk) f39 (fun _ => hz) hc hs1 (kk _ h2 _ (hv) (hR.kp (fun j hj => hF2 j (by omega))) ⟨_, hM2⟩ ⟨F, f39⟩)
  · exact L_tail hl C d_Law_law_888 d_Law_law_890 d_Law_law_891 d_Law_law_894 d_Law_law_896 d_Law_law_901 d_Law_law_903 d_Law_law_906 d_Law_law_907 d_Law_law_908 d_Law_law_909 d_Law_law_911 d_Law_law_912 d_Law_law_913 d_Law_law_918 (by omega) k4 (m1 hk) f39 (fun q => absurd q hk) hc hs1 (kk _ h2 _ hv ((g1 hk).kp (fun j hj => hF2 j (by omega))) ⟨_, m1 hk⟩ ⟨F, f39⟩)
theorem L_over (hl : yL l) (C : yC p l s m args meth c yl_ code 8 ret tb d b) (S : yS s b sa L xs) (hi : 0 ≤ i ∧ i + 5 ≤ L) (hv : OkV v) (hX : RepX d b h v) (hM : RepM d b h v t) (h38 : h 38 = some (oJ d 1 G)) (hc : cells + 64 ≤ room_1.cells) (hs1 : slots + 512 ≤ room_1.slots)
    (kk : ∀ n1 h1 w, OkV w → RepX d b h1 w → (∃ t1, RepM d b h1 w t1) → (∃ G1, h1 38 = some (oJ d 1 G1)) → V p l e room_1 s m args below meth c 8 d b Q (cells + 64) (slots + 512) n1 h1 1263 (lvH sa b i) []) : V p l e room_1 s m args below meth c 8 d b Q cells slots n h 921 (lvH sa b i) [] := by
  obtain ⟨x, A, O⟩ := hX
  obtain ⟨s1, e1⟩ : ∃ z, sx xs (i + 1) = z := ⟨_, rfl⟩
  have j1 : inI s1 := e1 ▸ sx_in _ _
  obtain ⟨s2, e2⟩ : ∃ z, sx xs (i + 2) = z := ⟨_, rfl⟩
  have j2 : inI s2 := e2 ▸ sx_in _ _
  obtain ⟨s3, e3⟩ : ∃ z, sx xs (i + 3) = z := ⟨_, rfl⟩
  have j3 : inI s3 := e3 ▸ sx_in _ _
  obtain ⟨s4, e4⟩ : ∃ z, sx xs (i + 4) = z := ⟨_, rfl⟩
  have j4 : inI s4 := e4 ▸ sx_in _ _
  have i0 : inJ (sj s1 s2) := sj_in _ _
  have i1 : inJ (sj s3 s4) := sj_in _ _
  refine V_aload_n C d_Law_law_921 rfl rfl ?_
  refine V_argJ C S d_Law_law_922 d_Law_law_923 d_Law_law_925 d_Law_law_926 d_Law_law_927 d_Law_law_928 d_Law_law_929 d_Law_law_931 d_Law_law_932 d_Law_law_933 d_Law_law_935 d_Law_law_936 d_Law_law_937 d_Law_law_938 d_Law_law_939 d_Law_law_942 d_Law_law_943 rfl rfl (by omega) e1 e2 ?_
  refine V_argJ C S d_Law_law_944 d_Law_law_945 d_Law_law_947 d_Law_law_948 d_Law_law_949 d_Law_law_950 d_Law_law_951 d_Law_law_953 d_Law_law_954 d_Law_law_955 d_Law_law_957 d_Law_law_958 d_Law_law_959 d_Law_law_960 d_Law_law_961 d_Law_law_964 d_Law_law_965 rfl rfl (by omega) e3 e4 ?_
  refine V_aload_n C d_Law_law_966 rfl rfl ?_
  refine V_callSW C (c_Law_over hl hv A O h38 i0 i1) wc_Law_over w_Law_law_967 np_Law_over ⟨by decide, by decide, hc, hs1⟩ rfl (Nat.le_of_ble_eq_true rfl) d_Law_law_967 (fun q n1 h1 hp => ?_) (fun Cx n1 h1 hp => hp.elim)
  obtain ⟨hn, rfl, k4, hF, F, f38, g0, g1⟩ := hp
  refine V_istore C d_Law_law_970 (by decide) rfl ?_
  obtain ⟨y0, B, P, -⟩ := hM.kp (fun j q1 q2 => hF j q1 (by omega))
  refine V_aload_n C d_Law_law_972 rfl rfl ?_
  refine V_argJ C S d_Law_law_973 d_Law_law_974 d_Law_law_976 d_Law_law_977 d_Law_law_978 d_Law_law_979 d_Law_law_980 d_Law_law_982 d_Law_law_983 d_Law_law_984 d_Law_law_986 d_Law_law_987 d_Law_law_988 d_Law_law_989 d_Law_law_990 d_Law_law_993 d_Law_law_994 rfl rfl (by omega) e1 e2 ?_
  refine V_argJ C S d_Law_law_995 d_Law_law_996 d_Law_law_998 d_Law_law_999 d_Law_law_1000 d_Law_law_1001 d_Law_law_1002 d_Law_law_1004 d_Law_law_1005 d_Law_law_1006 d_Law_law_1008 d_Law_law_1009 d_Law_law_1010 d_Law_law_1011 d_Law_law_1012 d_Law_law_1015 d_Law_law_1016 rfl rfl (by omega) e3 e4 ?_
  refine V_callV C (c_Mod_over hl B P i0 i1) wc_Mod_over w_Law_law_1017 np_Mod_over ⟨by decide, by decide, hc, hs1⟩ B.o rfl rfl (Nat.le_of_ble_eq_true rfl) d_Law_law_1017 (fun q n2 h2 hp => ?_) (fun Cx n1 h1 hp => hp.elim)
  obtain ⟨rfl, a, rfl, hF2, m0, m1⟩ := hp
  have f39 := (hF2 38 (by omega)).trans f38
  by_cases hk : kOv (sj s3 s4) = 0
  · obtain ⟨w, ⟨hw, hz⟩, hR⟩ := g0 hk
    rw [hw] at hR
    obtain ⟨hM2, rfl⟩ := m0 hk
    exact L_tailO hl C k4 (hM2.cst hk) f39 (fun _ => hz) hc hs1 (kk _ h2 _ (hv) (hR.kp (fun j hj => hF2 j (by omega))) ⟨_, hM2⟩ ⟨F, f39⟩)
  · exact L_tailO hl C k4 (m1 hk) f39 (fun q => absurd q hk) hc hs1 (kk _ h2 _ hv ((g1 hk).kp (fun j hj => hF2 j (by omega))) ⟨_, m1 hk⟩ ⟨F, f39⟩)
theorem L_day (hl : yL l) (C : yC p l s m args meth c yl_ code 8 ret tb d b) (S : yS s b sa L xs) (hi : 0 ≤ i ∧ i + 5 ≤ L) (hv : OkV v) (hX : RepX d b h v) (hM : RepM d b h v t) (h38 : h 38 = some (oJ d 1 G)) (hc : cells + 64 ≤ room_1.cells) (hs1 : slots + 512 ≤ room_1.slots)
    (kk : ∀ n1 h1 w, OkV w → RepX d b h1 w → (∃ t1, RepM d b h1 w t1) → (∃ G1, h1 38 = some (oJ d 1 G1)) → V p l e room_1 s m args below meth c 8 d b Q (cells + 64) (slots + 512) n1 h1 1263 (lvH sa b i) []) : V p l e room_1 s m args below meth c 8 d b Q cells slots n h 1078 (lvH sa b i) [] := by
  obtain ⟨x, A, O⟩ := hX
  obtain ⟨s1, e1⟩ : ∃ z, sx xs (i + 1) = z := ⟨_, rfl⟩
  have j1 : inI s1 := e1 ▸ sx_in _ _
  obtain ⟨s2, e2⟩ : ∃ z, sx xs (i + 2) = z := ⟨_, rfl⟩
  have j2 : inI s2 := e2 ▸ sx_in _ _
  obtain ⟨s3, e3⟩ : ∃ z, sx xs (i + 3) = z := ⟨_, rfl⟩
  have j3 : inI s3 := e3 ▸ sx_in _ _
  obtain ⟨s4, e4⟩ : ∃ z, sx xs (i + 4) = z := ⟨_, rfl⟩
  have j4 : inI s4 := e4 ▸ sx_in _ _
  refine V_aload_n C d_Law_law_1078 rfl rfl ?_
  refine V_arg C S d_Law_law_1079 d_Law_law_1080 d_Law_law_1082 d_Law_law_1083 d_Law_law_1084 rfl rfl (by omega) e1 ?_
  refine V_arg C S d_Law_law_1085 d_Law_law_1086 d_Law_law_1088 d_Law_law_1089 d_Law_law_1090 rfl rfl (by omega) e2 ?_
  refine V_arg C S d_Law_law_1091 d_Law_law_1092 d_Law_law_1094 d_Law_law_1095 d_Law_law_1096 rfl rfl (by omega) e3 ?_
  refine V_arg C S d_Law_law_1097 d_Law_law_1098 d_Law_law_1100 d_Law_law_1101 d_Law_law_1102 rfl rfl (by omega) e4 ?_
  refine V_aload_n C d_Law_law_1103 rfl rfl ?_
  refine V_callSW C (c_Law_day hl hv A O h38 j1 j2 j3 j4) wc_Law_day w_Law_law_1104 np_Law_day ⟨by decide, by decide, hc, hs1⟩ rfl (Nat.le_of_ble_eq_true rfl) d_Law_law_1104 (fun q n1 h1 hp => ?_) (fun Cx n1 h1 hp => hp.elim)
  obtain ⟨hn, rfl, k4, hF, F, f38, g0, g1⟩ := hp
  refine V_istore C d_Law_law_1107 (by decide) rfl ?_
  obtain ⟨y0, B, P, -⟩ := hM.kp (fun j q1 q2 => hF j q1 (by omega))
  refine V_aload_n C d_Law_law_1109 rfl rfl ?_
  refine V_arg C S d_Law_law_1110 d_Law_law_1111 d_Law_law_1113 d_Law_law_1114 d_Law_law_1115 rfl rfl (by omega) e1 ?_
  refine V_arg C S d_Law_law_1116 d_Law_law_1117 d_Law_law_1119 d_Law_law_1120 d_Law_law_1121 rfl rfl (by omega) e2 ?_
  refine V_arg C S d_Law_law_1122 d_Law_law_1123 d_Law_law_1125 d_Law_law_1126 d_Law_law_1127 rfl rfl (by omega) e3 ?_
  refine V_arg C S d_Law_law_1128 d_Law_law_1129 d_Law_law_1131 d_Law_law_1132 d_Law_law_1133 rfl rfl (by omega) e4 ?_
  refine V_callV C (c_Mod_day hl B P j1 j2 j3 j4) wc_Mod_day w_Law_law_1134 np_Mod_day ⟨by decide, by decide, hc, hs1⟩ B.o rfl rfl (Nat.le_of_ble_eq_true rfl) d_Law_law_1134 (fun q n2 h2 hp => ?_) (fun Cx n1 h1 hp => hp.elim)
  obtain ⟨rfl, a, rfl, hF2, m0, m1⟩ := hp
  have f39 := (hF2 38 (by omega)).trans f38
  by_cases hk : kDay s1 s2 s3 s4 = 0
  · obtain ⟨w, ⟨hw, hz⟩, hR⟩ := g0 hk
    rw [hw] at hR
    obtain ⟨hM2, rfl⟩ := m0 hk
    exact L_tail hl C d_Law_law_1137 d_Law_law_1139 d_Law_law_1140 d_Law_law_1143 d_Law_law_1145 d_Law_law_1150 d_Law_law_1152 d_Law_law_1155 d_Law_law_1156 d_Law_law_1157 d_Law_law_1158 d_Law_law_1160 d_Law_law_1161 d_Law_law_1162 d_Law_law_1167 (by omega) k4 (hM2.cst hk) f39 (fun _ => hz) hc hs1 (kk _ h2 _ (hv) (hR.kp (fun j hj => hF2 j (by omega))) ⟨_, hM2⟩ ⟨F, f39⟩)
  · exact L_tail hl C d_Law_law_1137 d_Law_law_1139 d_Law_law_1140 d_Law_law_1143 d_Law_law_1145 d_Law_law_1150 d_Law_law_1152 d_Law_law_1155 d_Law_law_1156 d_Law_law_1157 d_Law_law_1158 d_Law_law_1160 d_Law_law_1161 d_Law_law_1162 d_Law_law_1167 (by omega) k4 (m1 hk) f39 (fun q => absurd q hk) hc hs1 (kk _ h2 _ hv ((g1 hk).kp (fun j hj => hF2 j (by omega))) ⟨_, m1 hk⟩ ⟨F, f39⟩)
theorem L_date (hl : yL l) (C : yC p l s m args meth c yl_ code 8 ret tb d b) (S : yS s b sa L xs) (hi : 0 ≤ i ∧ i + 5 ≤ L) (hv : OkV v) (hX : RepX d b h v) (hM : RepM d b h v t) (h38 : h 38 = some (oJ d 1 G)) (hc : cells + 64 ≤ room_1.cells) (hs1 : slots + 512 ≤ room_1.slots)
    (kk : ∀ n1 h1 w, OkV w → RepX d b h1 w → (∃ t1, RepM d b h1 w t1) → (∃ G1, h1 38 = some (oJ d 1 G1)) → V p l e room_1 s m args below meth c 8 d b Q (cells + 64) (slots + 512) n1 h1 1263 (lvH sa b i) []) : V p l e room_1 s m args below meth c 8 d b Q cells slots n h 1170 (lvH sa b i) [] := by
  obtain ⟨x, A, O⟩ := hX
  obtain ⟨s1, e1⟩ : ∃ z, sx xs (i + 1) = z := ⟨_, rfl⟩
  have j1 : inI s1 := e1 ▸ sx_in _ _
  obtain ⟨s2, e2⟩ : ∃ z, sx xs (i + 2) = z := ⟨_, rfl⟩
  have j2 : inI s2 := e2 ▸ sx_in _ _
  obtain ⟨s3, e3⟩ : ∃ z, sx xs (i + 3) = z := ⟨_, rfl⟩
  have j3 : inI s3 := e3 ▸ sx_in _ _
  refine V_aload_n C d_Law_law_1170 rfl rfl ?_
  refine V_arg C S d_Law_law_1171 d_Law_law_1172 d_Law_law_1174 d_Law_law_1175 d_Law_law_1176 rfl rfl (by omega) e1 ?_
  refine V_arg C S d_Law_law_1177 d_Law_law_1178 d_Law_law_1180 d_Law_law_1181 d_Law_law_1182 rfl rfl (by omega) e2 ?_
  refine V_arg C S d_Law_law_1183 d_Law_law_1184 d_Law_law_1186 d_Law_law_1187 d_Law_law_1188 rfl rfl (by omega) e3 ?_
  refine V_aload_n C d_Law_law_1189 rfl rfl ?_
  refine V_callSW C (c_Law_date hl hv A O h38 j1 j2 j3) wc_Law_date w_Law_law_1190 np_Law_date ⟨by decide, by decide, hc, hs1⟩ rfl (Nat.le_of_ble_eq_true rfl) d_Law_law_1190 (fun q n1 h1 hp => ?_) (fun Cx n1 h1 hp => hp.elim)
  obtain ⟨hn, rfl, k4, hF, F, f38, g0, g1⟩ := hp
  refine V_istore C d_Law_law_1193 (by decide) rfl ?_
  obtain ⟨y0, B, P, -⟩ := hM.kp (fun j q1 q2 => hF j q1 (by omega))
  refine V_aload_n C d_Law_law_1195 rfl rfl ?_
  refine V_arg C S d_Law_law_1196 d_Law_law_1197 d_Law_law_1199 d_Law_law_1200 d_Law_law_1201 rfl rfl (by omega) e1 ?_
  refine V_arg C S d_Law_law_1202 d_Law_law_1203 d_Law_law_1205 d_Law_law_1206 d_Law_law_1207 rfl rfl (by omega) e2 ?_
  refine V_arg C S d_Law_law_1208 d_Law_law_1209 d_Law_law_1211 d_Law_law_1212 d_Law_law_1213 rfl rfl (by omega) e3 ?_
  refine V_callV C (c_Mod_date hl B P j1 j2 j3) wc_Mod_date w_Law_law_1214 np_Mod_date ⟨by decide, by decide, hc, hs1⟩ B.o rfl rfl (Nat.le_of_ble_eq_true rfl) d_Law_law_1214 (fun q n2 h2 hp => ?_) (fun Cx n1 h1 hp => hp.elim)
  obtain ⟨rfl, a, rfl, hF2, m0, m1⟩ := hp
  have f39 := (hF2 38 (by omega)).trans f38
  by_cases hk : kDt s1 s2 s3 = 0
  · obtain ⟨w, ⟨hw, u1, hu1, hz⟩, hR⟩ := g0 hk
    rw [hw] at hR
    obtain ⟨hM2, hu2⟩ := m0 hk
    obtain rfl := aDt_one (kDt_c hk).1 (kDt_c hk).2 hu1 hu2
    exact L_tail hl C d_Law_law_1217 d_Law_law_1219 d_Law_law_1220 d_Law_law_1223 d_Law_law_1225 d_Law_law_1230 d_Law_law_1232 d_Law_law_1235 d_Law_law_1236 d_Law_law_1237 d_Law_law_1238 d_Law_law_1240 d_Law_law_1241 d_Law_law_1242 d_Law_law_1247 (by omega) k4 (hM2.cst hk) f39 (fun _ => hz) hc hs1 (kk _ h2 _ (hv) (hR.kp (fun j hj => hF2 j (by omega))) ⟨_, hM2⟩ ⟨F, f39⟩)
  · exact L_tail hl C d_Law_law_1217 d_Law_law_1219 d_Law_law_1220 d_Law_law_1223 d_Law_law_1225 d_Law_law_1230 d_Law_law_1232 d_Law_law_1235 d_Law_law_1236 d_Law_law_1237 d_Law_law_1238 d_Law_law_1240 d_Law_law_1241 d_Law_law_1242 d_Law_law_1247 (by omega) k4 (m1 hk) f39 (fun q => absurd q hk) hc hs1 (kk _ h2 _ hv ((g1 hk).kp (fun j hj => hF2 j (by omega))) ⟨_, m1 hk⟩ ⟨F, f39⟩)
theorem L_rest (hl : yL l) (C : yC p l s m args meth c yl_ code 8 ret tb d b) (S : yS s b sa L xs) (hi : 0 ≤ i ∧ i + 5 ≤ L) (hv : OkV v) (hX : RepX d b h v) (hM : RepM d b h v t) (h38 : h 38 = some (oJ d 1 G)) (hc : cells + 64 ≤ room_1.cells) (hs1 : slots + 512 ≤ room_1.slots)
    (kk : ∀ n1 h1 w, OkV w → RepX d b h1 w → (∃ t1, RepM d b h1 w t1) → (∃ G1, h1 38 = some (oJ d 1 G1)) → V p l e room_1 s m args below meth c 8 d b Q (cells + 64) (slots + 512) n1 h1 1263 (lvH sa b i) []) : V p l e room_1 s m args below meth c 8 d b Q cells slots n h 451 (lvH sa b i) [] := by
  refine V_widen (k0 := cells + 64) (n0 := slots + 512) (by omega) (by omega) ?_
  obtain ⟨x, A, O⟩ := hX
  refine V_aload_n C d_Law_law_451 rfl rfl ?_
  refine V_callV C (c_Yf_rest hl A O) wc_Yf_rest w_Law_law_452 np_Yf_rest ⟨by decide, by decide, hc, hs1⟩ A.o rfl rfl (Nat.le_of_ble_eq_true rfl) d_Law_law_452 (fun q n1 h1 hp => ?_) (fun Cx n1 h1 hp => hp.elim)
  obtain ⟨rfl, rfl, rfl⟩ := hp
  obtain ⟨y0, B, P, -⟩ := hM
  refine V_aload_n C d_Law_law_455 rfl rfl ?_
  refine V_callV C (c_Mod_rest hl B P) wc_Mod_rest w_Law_law_456 np_Mod_rest ⟨by decide, by decide, hc, hs1⟩ B.o rfl rfl (Nat.le_of_ble_eq_true rfl) d_Law_law_456 (fun q n2 h2 hp => ?_) (fun Cx n1 h1 hp => hp.elim)
  obtain ⟨rfl, rfl, hF, hM2⟩ := hp
  refine V_lcmpE C d_Law_law_459 ?_
  refine V_if_eq (tgt := 1263) C d_Law_law_460 (by omega) inI_0 (fun _ => ?_) (fun q => absurd rfl q)
  exact kk _ h2 _ hv (RepX.kp ⟨x, A, O⟩ (fun j hj => hF j (by omega))) ⟨_, hM2⟩ ⟨G, (hF 38 (by omega)).trans h38⟩
theorem L_written (hl : yL l) (C : yC p l s m args meth c yl_ code 8 ret tb d b) (S : yS s b sa L xs) (hi : 0 ≤ i ∧ i + 5 ≤ L) (hv : OkV v) (hX : RepX d b h v) (hM : RepM d b h v t) (h38 : h 38 = some (oJ d 1 G)) (hc : cells + 64 ≤ room_1.cells) (hs1 : slots + 512 ≤ room_1.slots)
    (kk : ∀ n1 h1 w, OkV w → RepX d b h1 w → (∃ t1, RepM d b h1 w t1) → (∃ G1, h1 38 = some (oJ d 1 G1)) → V p l e room_1 s m args below meth c 8 d b Q (cells + 64) (slots + 512) n1 h1 1263 (lvH sa b i) []) : V p l e room_1 s m args below meth c 8 d b Q cells slots n h 1052 (lvH sa b i) [] := by
  refine V_widen (k0 := cells + 64) (n0 := slots + 512) (by omega) (by omega) ?_
  obtain ⟨x, A, O⟩ := hX
  obtain ⟨s1, e1⟩ : ∃ z, sx xs (i + 1) = z := ⟨_, rfl⟩
  have j1 : inI s1 := e1 ▸ sx_in _ _
  refine V_aload_n C d_Law_law_1052 rfl rfl ?_
  refine V_arg C S d_Law_law_1053 d_Law_law_1054 d_Law_law_1056 d_Law_law_1057 d_Law_law_1058 rfl rfl (by omega) e1 ?_
  refine V_callV C (c_Yf_written hl j1) wc_Yf_written w_Law_law_1059 np_Yf_written ⟨by decide, by decide, hc, hs1⟩ A.o rfl rfl (Nat.le_of_ble_eq_true rfl) d_Law_law_1059 (fun q n1 h1 hp => ?_) (fun Cx n1 h1 hp => hp.elim)
  obtain ⟨rfl, rfl, rfl⟩ := hp
  obtain ⟨y0, B, P, -⟩ := hM
  refine V_aload_n C d_Law_law_1062 rfl rfl ?_
  refine V_arg C S d_Law_law_1063 d_Law_law_1064 d_Law_law_1066 d_Law_law_1067 d_Law_law_1068 rfl rfl (by omega) e1 ?_
  refine V_callV C (c_Mod_written hl B P j1) wc_Mod_written w_Law_law_1069 np_Mod_written ⟨by decide, by decide, hc, hs1⟩ B.o rfl rfl (Nat.le_of_ble_eq_true rfl) d_Law_law_1069 (fun q n2 h2 hp => ?_) (fun Cx n1 h1 hp => hp.elim)
  obtain ⟨rfl, rfl, hF, hM2⟩ := hp
  refine V_lcmpE C d_Law_law_1072 ?_
  refine V_if_eq (tgt := 1263) C d_Law_law_1073 (by omega) inI_0 (fun _ => ?_) (fun q => absurd rfl q)
  exact kk _ h2 _ hv (RepX.kp ⟨x, A, O⟩ (fun j hj => hF j (by omega))) ⟨_, hM2⟩ ⟨G, (hF 38 (by omega)).trans h38⟩
theorem L_clear (hl : yL l) (C : yC p l s m args meth c yl_ code 8 ret tb d b) (S : yS s b sa L xs) (hi : 0 ≤ i ∧ i + 5 ≤ L) (hv : OkV v) (hX : RepX d b h v) (hM : RepM d b h v t) (h38 : h 38 = some (oJ d 1 G)) (hc : cells + 64 ≤ room_1.cells) (hs1 : slots + 512 ≤ room_1.slots)
    (kk : ∀ n1 h1 w, OkV w → RepX d b h1 w → (∃ t1, RepM d b h1 w t1) → (∃ G1, h1 38 = some (oJ d 1 G1)) → V p l e room_1 s m args below meth c 8 d b Q (cells + 64) (slots + 512) n1 h1 1263 (lvH sa b i) []) : V p l e room_1 s m args below meth c 8 d b Q cells slots n h 1250 (lvH sa b i) [] := by
  refine V_widen (k0 := cells + 64) (n0 := slots + 512) (by omega) (by omega) ?_
  obtain ⟨x, A, O⟩ := hX
  refine V_aload_n C d_Law_law_1250 rfl rfl ?_
  refine V_callV C (c_Yf_clear hl A O) wc_Yf_clear w_Law_law_1251 np_Yf_clear ⟨by decide, by decide, hc, hs1⟩ A.o rfl rfl (Nat.le_of_ble_eq_true rfl) d_Law_law_1251 (fun q n1 h1 hp => ?_) (fun Cx n1 h1 hp => hp.elim)
  obtain ⟨rfl, rfl, hR, hF1⟩ := hp
  obtain ⟨y0, B, P, -⟩ := hM.kp (fun j q1 q2 => hF1 j q1)
  refine V_aload_n C d_Law_law_1254 rfl rfl ?_
  refine V_callV C (c_Mod_clear hl B P) wc_Mod_clear w_Law_law_1255 np_Mod_clear ⟨by decide, by decide, hc, hs1⟩ B.o rfl rfl (Nat.le_of_ble_eq_true rfl) d_Law_law_1255 (fun q n2 h2 hp => ?_) (fun Cx n1 h1 hp => hp.elim)
  obtain ⟨rfl, rfl, hF, hM2⟩ := hp
  refine V_icmp_eqE (tgt := 1263) C d_Law_law_1258 (by omega) ?_
  exact kk _ h2 _ (OkV.cl v) (hR.kp (fun j hj => hF j (by omega))) ⟨_, hM2⟩ ⟨G, (hF 38 (by omega)).trans ((hF1 38 (by omega)).trans h38)⟩
end LCases
