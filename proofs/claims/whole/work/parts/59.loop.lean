/-! THE LAW'S LOOP -/
theorem rm_c : room_1.cells = 601024 := rfl
theorem rm_s : room_1.slots = 7293034 := rfl
section LLoop
variable {p : Program} {l : Launch} {e : Env} {s : State} {m : MethodId} {args : Array Value} {below : List Frame} {meth : Method} {c : Code} {d : yD} {b : Nat} {Q : State → Prop} {cells slots n : Nat} {h : yH}
variable {tb : List ClassFile.ExceptionTableEntry} {sa L : Nat} {xs : Nat → Int32} {v : Vw} {G : Nat → Int} {t i : Int}
theorem L_body (hl : yL l) (C : yC p l s m args meth c yl_ code 8 ret tb d b) (S : yS s b sa L xs) (hi : 0 ≤ i ∧ i + 5 ≤ L) (hv : OkV v) (hX : RepX d b h v) (hM : RepM d b h v t) (h38 : h 38 = some (oJ d 1 G)) (hc : cells + 64 ≤ room_1.cells) (hs1 : slots + 512 ≤ room_1.slots)
    (kk : ∀ n1 h1 w, OkV w → RepX d b h1 w → (∃ t1, RepM d b h1 w t1) → (∃ G1, h1 38 = some (oJ d 1 G1)) → V p l e room_1 s m args below meth c 8 d b Q (cells + 64) (slots + 512) n1 h1 1263 (lvH sa b i) []) : V p l e room_1 s m args below meth c 8 d b Q cells slots n h 32 (lvH sa b i) [] := by
  refine V_aload_n C d_Law_law_32 rfl rfl ?_
  refine V_iload C d_Law_law_33 rfl ?_
  refine V_sld C S (by omega) rfl d_Law_law_35 ?_
  refine V_bipush (z := 15) C d_Law_law_36 rfl ?_
  refine V_iand15 C d_Law_law_38 (fun k hk => ?_)
  refine V_tsw C (by unfold inI; omega) d_Law_law_39 (fun q1 q2 => ?_) (fun q => absurd q (by omega))
  have hk2 : k = 0 ∨ k = 1 ∨ k = 2 ∨ k = 3 ∨ k = 4 ∨ k = 5 ∨ k = 6 ∨ k = 7 ∨ k = 8 ∨ k = 9 ∨ k = 10 ∨ k = 11 ∨ k = 12 ∨ k = 13 ∨ k = 14 ∨ k = 15 := by omega
  clear q1 q2 hk
  rcases hk2 with rfl | rfl | rfl | rfl | rfl | rfl | rfl | rfl | rfl | rfl | rfl | rfl | rfl | rfl | rfl | rfl
  · exact ⟨77, 116, rfl, rfl, L_row hl C S hi hv hX hM h38 hc hs1 kk⟩
  · exact ⟨145, 184, rfl, rfl, L_weight hl C S hi hv hX hM h38 hc hs1 kk⟩
  · exact ⟨264, 303, rfl, rfl, L_add hl C S hi hv hX hM h38 hc hs1 kk⟩
  · exact ⟨332, 371, rfl, rfl, L_times hl C S hi hv hX hM h38 hc hs1 kk⟩
  · exact ⟨412, 451, rfl, rfl, L_rest hl C S hi hv hX hM h38 hc hs1 kk⟩
  · exact ⟨426, 465, rfl, rfl, L_least hl C S hi hv hX hM h38 hc hs1 kk⟩
  · exact ⟨506, 545, rfl, rfl, L_span hl C S hi hv hX hM h38 hc hs1 kk⟩
  · exact ⟨574, 613, rfl, rfl, L_digit hl C S hi hv hX hM h38 hc hs1 kk⟩
  · exact ⟨654, 693, rfl, rfl, L_total hl C S hi hv hX hM h38 hc hs1 kk⟩
  · exact ⟨722, 761, rfl, rfl, L_compare hl C S hi hv hX hM h38 hc hs1 kk⟩
  · exact ⟨814, 853, rfl, rfl, L_about hl C S hi hv hX hM h38 hc hs1 kk⟩
  · exact ⟨882, 921, rfl, rfl, L_over hl C S hi hv hX hM h38 hc hs1 kk⟩
  · exact ⟨1013, 1052, rfl, rfl, L_written hl C S hi hv hX hM h38 hc hs1 kk⟩
  · exact ⟨1039, 1078, rfl, rfl, L_day hl C S hi hv hX hM h38 hc hs1 kk⟩
  · exact ⟨1131, 1170, rfl, rfl, L_date hl C S hi hv hX hM h38 hc hs1 kk⟩
  · exact ⟨1211, 1250, rfl, rfl, L_clear hl C S hi hv hX hM h38 hc hs1 kk⟩
theorem L_head (C : yC p l s m args meth c yl_ code 8 ret tb d b) (S : yS s b sa L xs) (hi : 0 ≤ i ∧ i ≤ 10000) (k1 : (L : Int) - 5 < i → V p l e room_1 s m args below meth c 8 d b Q cells slots n h 1269 (lvH sa b i) []) (k2 : ¬ (L : Int) - 5 < i → V p l e room_1 s m args below meth c 8 d b Q cells slots n h 32 (lvH sa b i) []) : V p l e room_1 s m args below meth c 8 d b Q cells slots n h 23 (lvH sa b i) [] := by
  have hL := S.2.2.2
  refine V_iload C d_Law_law_23 rfl ?_
  refine V_aload_n C d_Law_law_25 rfl rfl ?_
  refine V_slen C S d_Law_law_26 ?_
  refine V_iconst C d_Law_law_27 rfl ?_
  refine V_isub C d_Law_law_28 ?_
  exact V_icmp_gt (tgt := 1269) C d_Law_law_29 (by omega) (by unfold inI; omega) (by unfold inI; omega) k1 k2
set_option maxRecDepth 8000 in
theorem L_loop (hl : yL l) (C : yC p l s m args meth c yl_ code 8 ret tb d b) (S : yS s b sa L xs) (kend : ∀ cells slots n h i, cells ≤ room_1.cells → slots ≤ room_1.slots → V p l e room_1 s m args below meth c 8 d b Q cells slots n h 1269 (lvH sa b i) []) :
    ∀ (g : Nat) {cells slots n : Nat} {h : yH} {v : Vw} {t i : Int} {G : Nat → Int}, 0 ≤ i → i ≤ 5000 → (L : Int) < i + 5 * (g + 1) → cells + 64 * g ≤ 601024 → slots + 512 * g ≤ 7293034 → OkV v → RepX d b h v → RepM d b h v t → h 38 = some (oJ d 1 G) → V p l e room_1 s m args below meth c 8 d b Q cells slots n h 23 (lvH sa b i) []
  | 0, cells, slots, n, h, v, t, i, G, h0, h1, hg, hc, hs1, hv, hX, hM, h38 => L_head C S ⟨h0, by omega⟩ (fun _ => kend _ _ _ _ _ (by have e9 := rm_c; omega) (by have e9 := rm_s; omega)) (fun q => absurd q (by omega))
  | g + 1, cells, slots, n, h, v, t, i, G, h0, h1, hg, hc, hs1, hv, hX, hM, h38 => by
    have hL := S.2.2.2
    refine L_head C S ⟨h0, by omega⟩ (fun _ => kend _ _ _ _ _ (by have e9 := rm_c; omega) (by have e9 := rm_s; omega)) (fun q => ?_)
    refine L_body hl C S ⟨h0, by omega⟩ hv hX hM h38 (by have e9 := rm_c; omega) (by have e9 := rm_s; omega) (fun n1 h1 w k1 k2 k3 k4 => ?_)
    obtain ⟨t1, k3⟩ := k3
    obtain ⟨G1, k4⟩ := k4
    refine V_iinc C d_Law_law_1263 rfl rfl (by decide) rfl ?_
    refine V_goto (tgt := 23) C d_Law_law_1266 (by decide) ?_
    refine V_loc (lv' := lvH sa b (i + 5)) ⟨rfl, rfl, rfl, rfl, rfl, trivial⟩ ?_
    exact L_loop hl C S kend g (by omega) (by omega) (by omega) (by omega) (by omega) k1 k2 k3 k4
theorem L_all (hl : yL l) (C : yC p l s m args meth c yl_ code 8 ret tb d b) (S : yS s b sa L xs) (kend : ∀ cells slots n h i, cells ≤ room_1.cells → slots ≤ room_1.slots → V p l e room_1 s m args below meth c 8 d b Q cells slots n h 1269 (lvH sa b i) []) : V p l e room_1 s m args below meth c 8 d b Q 0 0 0 (fun _ => none) 0 [(0, .ref sa)] [] := by
  refine V_new C 3 (fs := [.null, vi 0, vj 0, .null, .null, .null, .null]) rfl in_Yf t_Yf tok_Yf w_Law_law_0 (fun j hj => by match j, hj with | 0, _ => rfl | 1, _ => rfl | 2, _ => rfl | 3, _ => rfl | 4, _ => rfl | 5, _ => rfl | 6, _ => rfl) (by decide) (by decide) d_Law_law_0 ?_
  refine V_dup C d_Law_law_3 rfl ?_
  refine V_callI C (c_Yf_init hl (hs_eq _ _ _)) wc_Yf_init w_Law_law_4 np_Yf_init rfl (by decide) rfl (Nat.le_of_ble_eq_true rfl) d_Law_law_4 (fun v n1 h1 hp => ?_) (fun Cx n1 h1 hp => hp.elim)
  obtain ⟨rfl, rfl, hX⟩ := hp
  refine V_astore_n C d_Law_law_7 rfl (by decide) rfl ?_
  refine V_new C 4 (fs := [vi 0, vi 0, .null, .null, .null, vj 0, vi 0, .null, .null, .null, .null, .null]) rfl in_Mod t_Mod tok_Mod w_Law_law_8 (fun j hj => by match j, hj with | 0, _ => rfl | 1, _ => rfl | 2, _ => rfl | 3, _ => rfl | 4, _ => rfl | 5, _ => rfl | 6, _ => rfl | 7, _ => rfl | 8, _ => rfl | 9, _ => rfl | 10, _ => rfl | 11, _ => rfl) (by decide) (by decide) d_Law_law_8 ?_
  refine V_dup C d_Law_law_11 rfl ?_
  refine V_callI C (c_Mod_init hl (hs_eq _ _ _)) wc_Mod_init w_Law_law_12 np_Mod_init rfl (by decide) rfl (Nat.le_of_ble_eq_true rfl) d_Law_law_12 (fun v n2 h2 hp => ?_) (fun Cx n1 h1 hp => hp.elim)
  obtain ⟨rfl, rfl, hM, hF⟩ := hp
  refine V_astore_n C d_Law_law_15 rfl (by decide) rfl ?_
  refine V_iconst C d_Law_law_16 rfl ?_
  refine V_newJ C (N := 1) rfl (by decide) wa_J (by decide) (by decide) d_Law_law_17 ?_
  refine V_astore_n C d_Law_law_19 rfl (by decide) rfl ?_
  refine V_iconst C d_Law_law_20 rfl ?_
  refine V_istore C d_Law_law_21 (by decide) rfl ?_
  refine V_loc (lv' := lvH sa b 0) ⟨rfl, rfl, rfl, rfl, rfl, trivial⟩ ?_
  have hL := S.2.2.2
  refine L_loop hl C S kend 512 (by omega) (by omega) (by omega) (by decide) (by decide) OkV.zero ?_ (hM.kp (fun j q1 q2 => hs_ne _ _ (by omega))) (hs_eq _ _ _)
  exact hX.kp (fun j hj => (hs_ne _ _ (by omega)).trans ((hF j hj).trans (hs_ne _ _ (by omega))))
end LLoop
