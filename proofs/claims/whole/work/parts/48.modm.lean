/-- the best place so far, -1 for none -/
def bz : Option Nat → Int
  | none => -1
  | some x => x
section ModM
variable {p : Program} {l : Launch} {e : Env} {R : Room} {s : State} {m : MethodId} {args : Array Value} {below : List Frame} {meth : Method} {c : Code} {d : yD} {b : Nat} {Q : State → Prop} {cells slots n : Nat} {h : yH}
variable {y0 : YS} {v : Vw}
set_option maxHeartbeats 1000000 in
theorem Mod_wipe_loop (C : yC p l s m args meth c y_Mod_least b_Mod_least 7 (some .int) [] d b) {r u w : Int}
    (kk : ∀ (G : Nat → Int) (h' : yH), (∀ t, t < 48 → G t = 0) → AtM d b (y0.s_ch G) h' → FrM h h' → V p l e R s m args below meth c 7 d b Q cells slots n h' 84 [(0, .ref (b + 29)), (1, vi r), (2, vi u), (3, vi w)] []) :
    ∀ (j i : Nat) (G : Nat → Int) (h' : yH), i + j = 48 → (∀ t, t < i → G t = 0) → AtM d b (y0.s_ch G) h' → FrM h h' → V p l e R s m args below meth c 7 d b Q cells slots n h' 63 [(0, .ref (b + 29)), (1, vi r), (2, vi u), (3, vi w), (4, vi i)] [] := by
  intro j
  induction j with
  | zero =>
    intro i G h' hi hG A F
    refine V_iload C d_Mod_least_63 rfl ?_
    refine V_bipush (z := 48) C d_Mod_least_65 rfl ?_
    refine V_icmp_ge (tgt := 84) C d_Mod_least_67 (by decide) (by unfold inI; omega) (by unfold inI; omega) (fun q67 => ?_) (fun q67 => ?_)
    · exact V_loc2 (kk G h' (fun t ht => hG t (by omega)) A F) ⟨rfl, rfl, rfl, rfl, trivial⟩
    · exact absurd q67 (by omega)
  | succ j ih =>
    intro i G h' hi hG A F
    refine V_iload C d_Mod_least_63 rfl ?_
    refine V_bipush (z := 48) C d_Mod_least_65 rfl ?_
    refine V_icmp_ge (tgt := 84) C d_Mod_least_67 (by decide) (by unfold inI; omega) (by unfold inI; omega) (fun q67 => ?_) (fun q67 => ?_)
    · exact absurd q67 (by omega)
    · refine V_aload_n C d_Mod_least_70 rfl rfl ?_
      refine V_get C 4 11 A.o rfl in_Mod (by decide) w_Mod_least_71 rfl rfl d_Mod_least_71 ?_
      refine V_iload C d_Mod_least_74 rfl ?_
      refine V_iconst C d_Mod_least_76 rfl ?_
      refine V_zastore C A.c (by omega) (by omega) (by omega) (by decide) d_Mod_least_77 ?_
      refine V_iinc C d_Mod_least_78 rfl rfl (by decide) rfl ?_
      refine V_goto (tgt := 63) C d_Mod_least_81 (by decide) ?_
      rw [Int.toNat_natCast]
      refine V_loc2 (ih (i + 1) (fu G i 0) _ (by omega) (fun t ht => ?_) (A.setC _) (F.set (by omega) _)) ⟨rfl, rfl, rfl, rfl, rfl, trivial⟩
      by_cases e1 : t = i
      · rw [e1, fu_eq]
      · rw [fu_ne _ _ e1]; exact hG t (by omega)
set_option maxHeartbeats 1000000 in
theorem Mod_best_loop (C : yC p l s m args meth c y_Mod_least b_Mod_least 7 (some .int) [] d b) (hl : yL l) (hv : OkV v) (A : AtM d b y0 h) (O : OkM y0 v) {r u w : Int} {i mm : Nat} (hr : r = i) (hi : i < v.rc) (hm : v.M i = mm) {S : Nat → Bool} (hS : ∀ k, k < mm → y0.ch k = if S k = true then 1 else 0) (hR : 1 ≤ R.frames ∧ 30 ≤ R.locals ∧ cells ≤ R.cells ∧ slots ≤ R.slots)
    (kk : V p l e R s m args below meth c 7 d b Q cells slots n h 181 [(0, .ref (b + 29)), (1, vi r), (2, vi u), (3, vi w), (4, vi (bz (pkL (v.W i) S mm)))] []) :
    ∀ (j t : Nat), t + j = mm → V p l e R s m args below meth c 7 d b Q cells slots n h 100 [(0, .ref (b + 29)), (1, vi r), (2, vi u), (3, vi w), (4, vi (bz (pkL (v.W i) S t))), (5, vi t)] [] := by
  obtain ⟨R1, R2, R3, R4⟩ := hR
  have hrc := hv.rc
  obtain ⟨f1, f2, f3, f4⟩ := hv.ok i hi
  have e2 := O.fm i hi
  have hri : r.toNat = i := by omega
  intro j
  induction j with
  | zero =>
    intro t hj
    have e0 : t = mm := by omega
    subst e0
    refine V_iload C d_Mod_least_100 rfl ?_
    refine V_aload_n C d_Mod_least_102 rfl rfl ?_
    refine V_get C 4 3 A.o rfl in_Mod (by decide) w_Mod_least_103 rfl rfl d_Mod_least_103 ?_
    refine V_iload_n C d_Mod_least_106 rfl rfl ?_
    refine V_iaload C A.z (by omega) (by omega) (by decide) d_Mod_least_107 ?_
    rw [hri, e2]
    refine V_icmp_ge (tgt := 181) C d_Mod_least_108 (by decide) (by unfold inI; omega) (by unfold inI; omega) (fun q108 => ?_) (fun q108 => ?_)
    · exact V_loc2 kk ⟨rfl, rfl, rfl, rfl, rfl, trivial⟩
    · exact absurd q108 (by omega)
  | succ j ih =>
    intro t hj
    have hSt := hS t (by omega)
    have tzz := tz hSt
    have hbz : -1 ≤ bz (pkL (v.W i) S t) ∧ bz (pkL (v.W i) S t) < t := by
      cases hq : pkL (v.W i) S t with
      | none => exact ⟨Int.le_refl _, by show (-1 : Int) < t; omega⟩
      | some x =>
        have := (pkL_in t x hq).1
        exact ⟨by show (-1 : Int) ≤ x; omega, by show (x : Int) < t; omega⟩
    have tail : ∀ z : Int, (z = 0 ∨ z = 1) → bz (pkL (v.W i) S (t + 1)) = (if z = 0 then bz (pkL (v.W i) S t) else (t : Int)) → V p l e R s m args below meth c 7 d b Q cells slots n h 159 [(0, .ref (b + 29)), (1, vi r), (2, vi u), (3, vi w), (4, vi (bz (pkL (v.W i) S t))), (5, vi t)] [vi z] := fun z hz hb => by
      refine V_istore C d_Mod_least_159 (by decide) rfl ?_
      refine V_iload C d_Mod_least_161 rfl ?_
      refine V_if_eq (tgt := 171) C d_Mod_least_163 (by decide) (by unfold inI; omega) (fun q163 => ?_) (fun q163 => ?_)
      · rw [if_pos q163] at hb
        refine V_iload C d_Mod_least_171 rfl ?_
        refine V_istore C d_Mod_least_173 (by decide) rfl ?_
        refine V_iinc C d_Mod_least_175 rfl rfl (by decide) rfl ?_
        refine V_goto (tgt := 100) C d_Mod_least_178 (by decide) ?_
        exact V_loc2 (ih (t + 1) (by omega)) ⟨rfl, rfl, rfl, rfl, by rw [hb]; rfl, rfl, trivial⟩
      · rw [if_neg q163] at hb
        refine V_iload C d_Mod_least_166 rfl ?_
        refine V_goto (tgt := 173) C d_Mod_least_168 (by decide) ?_
        refine V_istore C d_Mod_least_173 (by decide) rfl ?_
        refine V_iinc C d_Mod_least_175 rfl rfl (by decide) rfl ?_
        refine V_goto (tgt := 100) C d_Mod_least_178 (by decide) ?_
        exact V_loc2 (ih (t + 1) (by omega)) ⟨rfl, rfl, rfl, rfl, by rw [hb]; rfl, rfl, trivial⟩
    have pk : pkL (v.W i) S (t + 1) = match pkL (v.W i) S t with
      | none => if S t = false then some t else none
      | some x => if S t = false ∧ v.W i x < v.W i t then some t else some x := rfl
    refine V_iload C d_Mod_least_100 rfl ?_
    refine V_aload_n C d_Mod_least_102 rfl rfl ?_
    refine V_get C 4 3 A.o rfl in_Mod (by decide) w_Mod_least_103 rfl rfl d_Mod_least_103 ?_
    refine V_iload_n C d_Mod_least_106 rfl rfl ?_
    refine V_iaload C A.z (by omega) (by omega) (by decide) d_Mod_least_107 ?_
    rw [hri, e2]
    refine V_icmp_ge (tgt := 181) C d_Mod_least_108 (by decide) (by unfold inI; omega) (by unfold inI; omega) (fun q108 => ?_) (fun q108 => ?_)
    · exact absurd q108 (by omega)
    · refine V_aload_n C d_Mod_least_111 rfl rfl ?_
      refine V_get C 4 11 A.o rfl in_Mod (by decide) w_Mod_least_112 rfl rfl d_Mod_least_112 ?_
      refine V_iload C d_Mod_least_115 rfl ?_
      refine V_zaload C A.c (by omega) (by omega) (by decide) d_Mod_least_117 ?_
      rw [Int.toNat_natCast]
      refine V_if_ne (tgt := 158) C d_Mod_least_118 (by decide) (by unfold inI; omega) (fun q118 => ?_) (fun q118 => ?_)
      · have sT : ¬ S t = false := fun q => q118 (tzz.1.mpr q)
        refine V_iconst C d_Mod_least_158 rfl ?_
        refine tail 0 (Or.inl rfl) ?_
        rw [if_pos rfl, pk]
        cases hq : pkL (v.W i) S t with
        | none => dsimp only; rw [if_neg sT]
        | some x => dsimp only; rw [if_neg (fun w => sT w.1)]
      · have sF : S t = false := tzz.1.mp q118
        refine V_iload C d_Mod_least_121 rfl ?_
        refine V_iconst C d_Mod_least_123 rfl ?_
        refine V_icmp_eq (tgt := 154) C d_Mod_least_124 (by decide) (by unfold inI; omega) (by unfold inI; omega) (fun q124 => ?_) (fun q124 => ?_)
        · have hno : pkL (v.W i) S t = none := by
            cases hq : pkL (v.W i) S t with
            | none => rfl
            | some x =>
              rw [hq] at q124
              have : (x : Int) = -1 := q124
              omega
          refine V_iconst C d_Mod_least_154 rfl ?_
          refine V_goto (tgt := 159) C d_Mod_least_155 (by decide) ?_
          refine tail 1 (Or.inr rfl) ?_
          rw [if_neg (by omega), pk, hno]
          dsimp only
          rw [if_pos sF]
          rfl
        · obtain ⟨x, hx⟩ : ∃ x, pkL (v.W i) S t = some x := by
            cases hq : pkL (v.W i) S t with
            | none => rw [hq] at q124; exact absurd rfl q124
            | some x => exact ⟨x, rfl⟩
          have hxt := (pkL_in t x hx).1
          have bx : bz (pkL (v.W i) S t) = x := by rw [hx]; rfl
          refine V_aload_n C d_Mod_least_127 rfl rfl ?_
          refine V_bipush (z := 36) C d_Mod_least_128 rfl ?_
          refine V_bipush (z := 48) C d_Mod_least_130 rfl ?_
          refine V_iload_n C d_Mod_least_132 rfl rfl ?_
          refine V_imul C d_Mod_least_133 ?_
          refine V_iload C d_Mod_least_134 rfl ?_
          refine V_iadd C d_Mod_least_136 ?_
          refine V_imul C d_Mod_least_137 ?_
          refine V_bipush (z := 36) C d_Mod_least_138 rfl ?_
          refine V_bipush (z := 48) C d_Mod_least_140 rfl ?_
          refine V_iload_n C d_Mod_least_142 rfl rfl ?_
          refine V_imul C d_Mod_least_143 ?_
          refine V_iload C d_Mod_least_144 rfl ?_
          refine V_iadd C d_Mod_least_146 ?_
          refine V_imul C d_Mod_least_147 ?_
          refine V_callV C (c_Mod_compared hl A O.dg (a1 := 36 * (48 * i + t)) (a2 := 36 * (48 * i + x)) (z1 := 36 * (48 * r + t)) (z2 := 36 * (48 * r + bz (pkL (v.W i) S t))) (by omega) (by rw [bx]; omega) (by omega) (by omega)) wc_Mod_compared w_Mod_least_148 np_Mod_compared ⟨by omega, by omega, R3, R4⟩ A.o rfl rfl (Nat.le_of_ble_eq_true rfl) d_Mod_least_148 (fun v n1 h1 hp => ?_) (fun Cx n1 h1 hp => hp.elim)
          obtain ⟨rfl, rfl, rfl⟩ := hp
          rw [O.ww i hi t (by omega), O.ww i hi x (by omega)]
          refine V_if_le (tgt := 158) C d_Mod_least_151 (by decide) (cz_in _ _) (fun q151 => ?_) (fun q151 => ?_)
          · have hle := cz_le.mp q151
            refine V_iconst C d_Mod_least_158 rfl ?_
            refine tail 0 (Or.inl rfl) ?_
            rw [if_pos rfl, pk, hx]
            dsimp only
            rw [if_neg (fun w => by have := w.2; omega)]
          · have hlt : v.W i x < v.W i t := Int.not_le.mp (fun q => q151 (cz_le.mpr q))
            refine V_iconst C d_Mod_least_154 rfl ?_
            refine V_goto (tgt := 159) C d_Mod_least_155 (by decide) ?_
            refine tail 1 (Or.inr rfl) ?_
            rw [if_neg (by omega), pk, hx]
            dsimp only
            rw [if_pos ⟨sF, hlt⟩]
            rfl
set_option maxHeartbeats 1000000 in
theorem Mod_pick_loop (C : yC p l s m args meth c y_Mod_least b_Mod_least 7 (some .int) [] d b) (hl : yL l) (hv : OkV v) {r u w : Int} {i mm : Nat} (hr : r = i) (hi : i < v.rc) (hm : v.M i = mm) (hu : 0 ≤ u ∧ u ≤ w) (hw : 1 ≤ w ∧ w ≤ 1000000)
    (kk : ∀ (k : Nat) (y1 : YS) (h' : yH), lsOk (v.W i) mm u w k → AtM d b y1 h' → OkM y1 v → y1.th = 0 → (∀ x, x < mm → y1.ch x = if selS (v.W i) mm k x = true then 1 else 0) → FrM h h' → V p l e (yRm 5 160 0 0) s m args below meth c 7 d b Q 0 0 n h' 192 [(0, .ref (b + 29)), (1, vi r)] []) :
    ∀ (j k : Nat) (y1 : YS) (h' : yH), k + j = mm → (∀ q, q < k → ¬ sumW (v.W i) mm * u ≤ sumS (v.W i) (selS (v.W i) mm q) mm * w) → AtM d b y1 h' → OkM y1 v → y1.th = 0 → (∀ x, x < mm → y1.ch x = if selS (v.W i) mm k x = true then 1 else 0) → FrM h h' →
      V p l e (yRm 5 160 0 0) s m args below meth c 7 d b Q 0 0 n h' 84 [(0, .ref (b + 29)), (1, vi r), (2, vi u), (3, vi w)] [] := by
  obtain ⟨f1, f2, f3, f4⟩ := hv.ok i hi
  obtain ⟨cc, hcc⟩ := rk_ex (v.W i) mm
  intro j
  induction j with
  | zero =>
    intro k y1 h' hj hq A O t0 hch F
    have e0 : k = mm := by omega
    subst e0
    refine V_aload_n C d_Mod_least_84 rfl rfl ?_
    refine V_iload_n C d_Mod_least_85 rfl rfl ?_
    refine V_iload_n C d_Mod_least_86 rfl rfl ?_
    refine V_iload_n C d_Mod_least_87 rfl rfl ?_
    refine V_callV C (c_Mod_enough hl hv A O hr hi hm (S := selS (v.W i) k k) (fun x hx => by rw [hch x hx]; cases selS (v.W i) k k x <;> simp) (fun x hx => (tz (hch x hx)).2) (u := u) (w := w) ⟨hu.1, by omega⟩ ⟨by omega, by omega⟩) wc_Mod_enough w_Mod_least_88 np_Mod_enough (by decide) A.o rfl rfl (Nat.le_of_ble_eq_true rfl) d_Mod_least_88 (fun v0 n1 h1 hp => ?_) (fun Cx n1 h1 hp => hp.elim)
    obtain ⟨rfl, F1, rfl, y2, A2, O2, c2, t2⟩ := hp
    have all : sumW (v.W i) k * u ≤ sumS (v.W i) (selS (v.W i) k k) k * w := by
      rw [sumS_all (fun z hz => ((sel_rk hcc k (Nat.le_refl _)).1 z).mpr (hcc.2.2 z hz))]
      exact Int.mul_le_mul_of_nonneg_left hu.2 (sumW_in (W := v.W i) (B := 1000000000 ^ 4) (k := k) (fun q hq => hv.ww i hi q (by omega))).1
    refine V_if_ne (tgt := 192) C d_Mod_least_91 (by decide) (bi_z rfl) (fun q91 => ?_) (fun q91 => ?_)
    · exact V_loc2 (kk k y2 h1 ⟨Nat.le_refl _, all, hq⟩ A2 O2 (t2.trans t0) (fun x hx => by rw [c2]; exact hch x hx) (F.tr F1)) ⟨rfl, rfl, trivial⟩
    · exact absurd all (bi_0.mp q91)
  | succ j ih =>
    intro k y1 h' hj hq A O t0 hch F
    refine V_aload_n C d_Mod_least_84 rfl rfl ?_
    refine V_iload_n C d_Mod_least_85 rfl rfl ?_
    refine V_iload_n C d_Mod_least_86 rfl rfl ?_
    refine V_iload_n C d_Mod_least_87 rfl rfl ?_
    refine V_callV C (c_Mod_enough hl hv A O hr hi hm (S := selS (v.W i) mm k) (fun x hx => by rw [hch x hx]; cases selS (v.W i) mm k x <;> simp) (fun x hx => (tz (hch x hx)).2) (u := u) (w := w) ⟨hu.1, by omega⟩ ⟨by omega, by omega⟩) wc_Mod_enough w_Mod_least_88 np_Mod_enough (by decide) A.o rfl rfl (Nat.le_of_ble_eq_true rfl) d_Mod_least_88 (fun v0 n1 h1 hp => ?_) (fun Cx n1 h1 hp => hp.elim)
    obtain ⟨rfl, F1, rfl, y2, A2, O2, c2, t2⟩ := hp
    refine V_if_ne (tgt := 192) C d_Mod_least_91 (by decide) (bi_z rfl) (fun q91 => ?_) (fun q91 => ?_)
    · have yes : sumW (v.W i) mm * u ≤ sumS (v.W i) (selS (v.W i) mm k) mm * w := by
        by_cases q : sumW (v.W i) mm * u ≤ sumS (v.W i) (selS (v.W i) mm k) mm * w
        · exact q
        · exact absurd (bi_n q) q91
      exact V_loc2 (kk k y2 h1 ⟨by omega, yes, hq⟩ A2 O2 (t2.trans t0) (fun x hx => by rw [c2]; exact hch x hx) (F.tr F1)) ⟨rfl, rfl, trivial⟩
    · have hno := bi_0.mp q91
      have pick := (sel_rk hcc k (by omega)).2 (by omega)
      have hck := hcc.1 k (by omega)
      obtain ⟨N1, N2, N3⟩ := sel_next hcc (show k < mm by omega)
      refine V_iconst C d_Mod_least_94 rfl ?_
      refine V_istore C d_Mod_least_95 (by decide) rfl ?_
      refine V_iconst C d_Mod_least_97 rfl ?_
      refine V_istore C d_Mod_least_98 (by decide) rfl ?_
      refine V_loc2 (Mod_best_loop (S := selS (v.W i) mm k) C hl hv A2 O2 hr hi hm (fun x hx => by rw [c2]; exact hch x hx) (by decide) ?_ mm 0 (by omega)) ⟨rfl, rfl, rfl, rfl, rfl, rfl, trivial⟩
      rw [pick, show bz (some (cc k)) = (cc k : Nat) from rfl]
      have ac : h1 37 = some (oZ d 48 y2.ch) := A2.c
      refine V_aload_n C d_Mod_least_181 rfl rfl ?_
      refine V_get C 4 11 A2.o rfl in_Mod (by decide) w_Mod_least_182 rfl rfl d_Mod_least_182 ?_
      refine V_iload C d_Mod_least_185 rfl ?_
      refine V_iconst C d_Mod_least_187 rfl ?_
      refine V_zastore C ac (by omega) (by omega) (by omega) (by decide) d_Mod_least_188 ?_
      rw [Int.toNat_natCast]
      refine V_goto (tgt := 84) C d_Mod_least_189 (by decide) ?_
      refine V_loc2 (ih (k + 1) (y2.s_ch (fu y2.ch (cc k) 1)) _ (by omega) (fun q hq1 => ?_) (A2.setC _) (O2.sC _) (t2.trans t0) (fun x hx => ?_) ((F.tr F1).set (by omega) _)) ⟨rfl, rfl, rfl, rfl, trivial⟩
      · by_cases e1 : q = k
        · rw [e1]; exact hno
        · exact hq q (by omega)
      · show fu y2.ch (cc k) 1 x = _
        by_cases e1 : x = cc k
        · rw [e1, fu_eq, N1, if_pos rfl]
        · rw [fu_ne _ _ e1, N2 x e1, c2]; exact hch x hx
set_option maxHeartbeats 1000000 in
theorem Mod_spans_loop (C : yC p l s m args meth c y_Mod_least b_Mod_least 7 (some .int) [] d b) (hv : OkV v) (O : OkM y0 v) {r : Int} {i mm : Nat} (hr : r = i) (hi : i < v.rc) (hm : v.M i = mm) {S : Nat → Bool} (hS : ∀ k, k < mm → y0.ch k = if S k = true then 1 else 0)
    (kk : ∀ (h' : yH), AtM d b (((y0.s_sp (spN S mm)).s_st (spA S (v.F i) y0.st mm)).s_en (spB S (v.F i) y0.en mm)) h' → FrM h h' → V p l e R s m args below meth c 7 d b Q cells slots n h' 302 [(0, .ref (b + 29))] []) :
    ∀ (j t : Nat) (h' : yH), t + j = mm → AtM d b (((y0.s_sp (spN S t)).s_st (spA S (v.F i) y0.st t)).s_en (spB S (v.F i) y0.en t)) h' → FrM h h' → V p l e R s m args below meth c 7 d b Q cells slots n h' 200 [(0, .ref (b + 29)), (1, vi r), (4, vi t)] [] := by
  have hrc := hv.rc
  obtain ⟨f1, f2, f3, f4⟩ := hv.ok i hi
  have e2 := O.fm i hi
  have e1 := O.ff i hi
  have hri : r.toNat = i := by omega
  intro j
  induction j with
  | zero =>
    intro t h' hj A F
    have e0 : t = mm := by omega
    subst e0
    have az : h' 31 = some (oI d 8 y0.sz) := A.z
    refine V_iload C d_Mod_least_200 rfl ?_
    refine V_aload_n C d_Mod_least_202 rfl rfl ?_
    refine V_get C 4 3 A.o rfl in_Mod (by decide) w_Mod_least_203 rfl rfl d_Mod_least_203 ?_
    refine V_iload_n C d_Mod_least_206 rfl rfl ?_
    refine V_iaload C az (by omega) (by omega) (by decide) d_Mod_least_207 ?_
    rw [hri, e2]
    refine V_icmp_ge (tgt := 302) C d_Mod_least_208 (by decide) (by unfold inI; omega) (by unfold inI; omega) (fun q208 => ?_) (fun q208 => ?_)
    · exact V_loc2 (kk h' A F) ⟨rfl, trivial⟩
    · exact absurd q208 (by omega)
  | succ j ih =>
    intro t h' hj A F
    have t0 := tz (hS t (by omega))
    have sle := spN_le S (t + 1)
    have sle0 := spN_le S t
    have eS : spN S (t + 1) = if S t = true ∧ (t = 0 ∨ S (t - 1) = false) then spN S t + 1 else spN S t := rfl
    have eA : spA S (v.F i) y0.st (t + 1) = if S t = true ∧ (t = 0 ∨ S (t - 1) = false) then fu (spA S (v.F i) y0.st t) (spN S t) (v.F i + t) else spA S (v.F i) y0.st t := rfl
    have eB : spB S (v.F i) y0.en (t + 1) = if S t = true then fu (spB S (v.F i) y0.en t) (spN S (t + 1) - 1) (v.F i + t) else spB S (v.F i) y0.en t := rfl
    -- behind the new span: 266
    have tail : ∀ (h2 : yH), AtM d b (((y0.s_sp (spN S (t + 1))).s_st (spA S (v.F i) y0.st (t + 1))).s_en (spB S (v.F i) y0.en t)) h2 → FrM h h2 → (S t = true → 0 < spN S (t + 1)) → V p l e R s m args below meth c 7 d b Q cells slots n h2 266 [(0, .ref (b + 29)), (1, vi r), (4, vi t)] [] := by
      intro h2 A2 F2 hpos
      have ac : h2 37 = some (oZ d 48 y0.ch) := A2.c
      have af : h2 30 = some (oI d 8 y0.fs) := A2.f
      have ao : h2 29 = some (oO 4 [vi y0.th, vi y0.rc, .ref (b + 30), .ref (b + 31), .ref (b + 32), vj y0.rs, vi (spN S (t + 1) : Nat), .ref (b + 33), .ref (b + 34), .ref (b + 35), .ref (b + 36), .ref (b + 37)]) := A2.o
      refine V_aload_n C d_Mod_least_266 rfl rfl ?_
      refine V_get C 4 11 ao rfl in_Mod (by decide) w_Mod_least_267 rfl rfl d_Mod_least_267 ?_
      refine V_iload C d_Mod_least_270 rfl ?_
      refine V_zaload C ac (by omega) (by omega) (by decide) d_Mod_least_272 ?_
      rw [Int.toNat_natCast]
      refine V_if_eq (tgt := 296) C d_Mod_least_273 (by decide) (by unfold inI; omega) (fun q273 => ?_) (fun q273 => ?_)
      · have hS0 : ¬ S t = true := fun q => by rw [t0.1.mp q273] at q; cases q
        rw [if_neg hS0] at eB
        refine V_iinc C d_Mod_least_296 rfl rfl (by decide) rfl ?_
        refine V_goto (tgt := 200) C d_Mod_least_299 (by decide) ?_
        refine V_loc2 (ih (t + 1) h2 (by omega) ?_ F2) ⟨rfl, rfl, rfl, trivial⟩
        rw [eB]; exact A2
      · have hS1 : S t = true := by
          cases hq : S t with
          | true => rfl
          | false => exact absurd (t0.1.mpr hq) q273
        have hp := hpos hS1
        rw [if_pos hS1] at eB
        refine V_aload_n C d_Mod_least_276 rfl rfl ?_
        refine V_get C 4 8 ao rfl in_Mod (by decide) w_Mod_least_277 rfl rfl d_Mod_least_277 ?_
        refine V_aload_n C d_Mod_least_280 rfl rfl ?_
        refine V_get C 4 6 ao rfl in_Mod (by decide) w_Mod_least_281 rfl rfl d_Mod_least_281 ?_
        refine V_iconst C d_Mod_least_284 rfl ?_
        refine V_isub C d_Mod_least_285 ?_
        refine V_aload_n C d_Mod_least_286 rfl rfl ?_
        refine V_get C 4 2 ao rfl in_Mod (by decide) w_Mod_least_287 rfl rfl d_Mod_least_287 ?_
        refine V_iload_n C d_Mod_least_290 rfl rfl ?_
        refine V_iaload C af (by omega) (by omega) (by decide) d_Mod_least_291 ?_
        rw [hri, e1]
        have ae : h2 34 = some (oI d 48 (spB S (v.F i) y0.en t)) := A2.e
        refine V_iload C d_Mod_least_292 rfl ?_
        refine V_iadd C d_Mod_least_294 ?_
        refine V_iastore C ae (by omega) (by omega) (by decide) d_Mod_least_295 ?_
        rw [show ((spN S (t + 1) : Nat) - 1 : Int).toNat = spN S (t + 1) - 1 by omega]
        refine V_iinc C d_Mod_least_296 rfl rfl (by decide) rfl ?_
        refine V_goto (tgt := 200) C d_Mod_least_299 (by decide) ?_
        have A3 : AtM d b (((y0.s_sp (spN S (t + 1))).s_st (spA S (v.F i) y0.st (t + 1))).s_en (fu (spB S (v.F i) y0.en t) (spN S (t + 1) - 1) (v.F i + t))) _ := A2.setE _
        refine V_loc2 (ih (t + 1) _ (by omega) ?_ (F2.set (by omega) _)) ⟨rfl, rfl, rfl, trivial⟩
        rw [eB]; exact A3
    have az : h' 31 = some (oI d 8 y0.sz) := A.z
    have ac : h' 37 = some (oZ d 48 y0.ch) := A.c
    have af : h' 30 = some (oI d 8 y0.fs) := A.f
    have as : h' 33 = some (oI d 48 (spA S (v.F i) y0.st t)) := A.s
    have ao : h' 29 = some (oO 4 [vi y0.th, vi y0.rc, .ref (b + 30), .ref (b + 31), .ref (b + 32), vj y0.rs, vi (spN S t : Nat), .ref (b + 33), .ref (b + 34), .ref (b + 35), .ref (b + 36), .ref (b + 37)]) := A.o
    have skip : ¬ (S t = true ∧ (t = 0 ∨ S (t - 1) = false)) → (S t = true → 0 < spN S (t + 1)) → V p l e R s m args below meth c 7 d b Q cells slots n h' 266 [(0, .ref (b + 29)), (1, vi r), (4, vi t)] [] := fun hno hpos => by
      refine tail h' ?_ F hpos
      rw [eS, eA, if_neg hno, if_neg hno]; exact A
    have start : S t = true ∧ (t = 0 ∨ S (t - 1) = false) → V p l e R s m args below meth c 7 d b Q cells slots n h' 238 [(0, .ref (b + 29)), (1, vi r), (4, vi t)] [] := fun hyes => by
      rw [if_pos hyes] at eS eA
      refine V_aload_n C d_Mod_least_238 rfl rfl ?_
      refine V_get C 4 7 ao rfl in_Mod (by decide) w_Mod_least_239 rfl rfl d_Mod_least_239 ?_
      refine V_aload_n C d_Mod_least_242 rfl rfl ?_
      refine V_get C 4 6 ao rfl in_Mod (by decide) w_Mod_least_243 rfl rfl d_Mod_least_243 ?_
      refine V_aload_n C d_Mod_least_246 rfl rfl ?_
      refine V_get C 4 2 ao rfl in_Mod (by decide) w_Mod_least_247 rfl rfl d_Mod_least_247 ?_
      refine V_iload_n C d_Mod_least_250 rfl rfl ?_
      refine V_iaload C af (by omega) (by omega) (by decide) d_Mod_least_251 ?_
      rw [hri, e1]
      refine V_iload C d_Mod_least_252 rfl ?_
      refine V_iadd C d_Mod_least_254 ?_
      refine V_iastore C as (by omega) (by omega) (by decide) d_Mod_least_255 ?_
      rw [Int.toNat_natCast]
      have A2 : AtM d b (((y0.s_sp (spN S t)).s_st (fu (spA S (v.F i) y0.st t) (spN S t) (v.F i + t))).s_en (spB S (v.F i) y0.en t)) _ := A.setS _
      have ao2 : hs h' 33 (oI d 48 (fu (spA S (v.F i) y0.st t) (spN S t) (v.F i + t))) 29 = some (oO 4 [vi y0.th, vi y0.rc, .ref (b + 30), .ref (b + 31), .ref (b + 32), vj y0.rs, vi (spN S t : Nat), .ref (b + 33), .ref (b + 34), .ref (b + 35), .ref (b + 36), .ref (b + 37)]) := A2.o
      refine V_aload_n C d_Mod_least_256 rfl rfl ?_
      refine V_dup C d_Mod_least_257 rfl ?_
      refine V_get C 4 6 ao2 rfl in_Mod (by decide) w_Mod_least_258 rfl rfl d_Mod_least_258 ?_
      refine V_iconst C d_Mod_least_261 rfl ?_
      refine V_iadd C d_Mod_least_262 ?_
      refine V_put (ty := .int) C 4 6 ao2 rfl in_Mod t_Mod tok_Mod nm_Mod (by decide) w_Mod_least_263 rfl rfl (by decide +kernel) rfl rfl (Nat.le_of_ble_eq_true rfl) d_Mod_least_263 ?_
      have A3 : AtM d b (((y0.s_sp (spN S t + 1)).s_st (fu (spA S (v.F i) y0.st t) (spN S t) (v.F i + t))).s_en (spB S (v.F i) y0.en t)) _ := A2.setSp (spN S t + 1)
      refine tail _ ?_ ((F.set (by omega) _).set (by omega) _) (fun _ => by omega)
      rw [eS, eA]; exact A3
    refine V_iload C d_Mod_least_200 rfl ?_
    refine V_aload_n C d_Mod_least_202 rfl rfl ?_
    refine V_get C 4 3 A.o rfl in_Mod (by decide) w_Mod_least_203 rfl rfl d_Mod_least_203 ?_
    refine V_iload_n C d_Mod_least_206 rfl rfl ?_
    refine V_iaload C az (by omega) (by omega) (by decide) d_Mod_least_207 ?_
    rw [hri, e2]
    refine V_icmp_ge (tgt := 302) C d_Mod_least_208 (by decide) (by unfold inI; omega) (by unfold inI; omega) (fun q208 => ?_) (fun q208 => ?_)
    · exact absurd q208 (by omega)
    · refine V_aload_n C d_Mod_least_211 rfl rfl ?_
      refine V_get C 4 11 A.o rfl in_Mod (by decide) w_Mod_least_212 rfl rfl d_Mod_least_212 ?_
      refine V_iload C d_Mod_least_215 rfl ?_
      refine V_zaload C ac (by omega) (by omega) (by decide) d_Mod_least_217 ?_
      rw [Int.toNat_natCast]
      refine V_if_eq (tgt := 266) C d_Mod_least_218 (by decide) (by unfold inI; omega) (fun q218 => ?_) (fun q218 => ?_)
      · have hS0 : ¬ S t = true := fun q => by rw [t0.1.mp q218] at q; cases q
        exact skip (fun q => hS0 q.1) (fun q => absurd q hS0)
      · have hS1 : S t = true := by
          cases hq : S t with
          | true => rfl
          | false => exact absurd (t0.1.mpr hq) q218
        refine V_iload C d_Mod_least_221 rfl ?_
        refine V_if_eq (tgt := 238) C d_Mod_least_223 (by decide) (by unfold inI; omega) (fun q223 => ?_) (fun q223 => ?_)
        · exact start ⟨hS1, Or.inl (by omega)⟩
        · have t1 := tz (hS (t - 1) (by omega))
          refine V_aload_n C d_Mod_least_226 rfl rfl ?_
          refine V_get C 4 11 A.o rfl in_Mod (by decide) w_Mod_least_227 rfl rfl d_Mod_least_227 ?_
          refine V_iload C d_Mod_least_230 rfl ?_
          refine V_iconst C d_Mod_least_232 rfl ?_
          refine V_isub C d_Mod_least_233 ?_
          refine V_zaload C ac (by omega) (by omega) (by decide) d_Mod_least_234 ?_
          rw [show ((t : Int) - 1).toNat = t - 1 by omega]
          refine V_if_ne (tgt := 266) C d_Mod_least_235 (by decide) (by unfold inI; omega) (fun q235 => ?_) (fun q235 => ?_)
          · refine skip (fun q => ?_) (fun _ => ?_)
            · rcases q.2 with z | z
              · exact q223 (by omega)
              · exact q235 (t1.1.mpr z)
            · exact sle.2.2 (by omega) hS1
          · exact start ⟨hS1, Or.inr (t1.1.mp q235)⟩
end ModM
