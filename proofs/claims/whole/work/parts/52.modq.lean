theorem ny_bd {c y : Int} (h0 : 0 ≤ c) (h3 : c ≤ 3) (h1 : -10000000 ≤ ny c y) (h2 : ny c y ≤ 10000000) : -40000 ≤ y ∧ y ≤ 40000 := by
  obtain ⟨-, -, k5, k6⟩ := cy_in h0 h3
  constructor
  · by_cases q : y < 1
    · have := ny_lt h0 h3 y (1 - y).toNat
      rw [show y + (((1 - y).toNat : Nat) : Int) = 1 by omega] at this
      omega
    · omega
  · by_cases q : 1 < y
    · have := ny_lt h0 h3 1 (y - 1).toNat
      rw [show 1 + (((y - 1).toNat : Nat) : Int) = y by omega] at this
      omega
    · omega
section ModQ
variable {p : Program} {l : Launch} {e : Env} {R : Room} {s : State} {m : MethodId} {args : Array Value} {below : List Frame} {meth : Method} {c : Code} {d : yD} {b : Nat} {Q : State → Prop} {cells slots n : Nat} {h : yH}
variable {y0 : YS} {v : Vw}
set_option maxHeartbeats 1000000 in
theorem Mod_dt4 (C : yC p l s m args meth c y_Mod_date b_Mod_date 8 (some .int) [] d b) (hl : yL l) {c0 y1 z w : Int} (h0 : 0 ≤ c0) (h3 : c0 ≤ 3) (hy : inI y1) (hw : inI w) (hY : isY c0 z y1) {post : Option Value → Nat → yH → Prop} (hp : ∀ a, aDt c0 z w a → post (some (vi a)) n h) :
    ∀ (j k : Nat) (lf : Int), (k : Int) + j + 1 = mo c0 → dah c0 y1 k + lf = z - ny c0 y1 → 0 ≤ lf → V p l e (yRm 7 220 0 0) s m args below meth c 8 d b (yEnd below s args d b post noT 0 0) 0 0 n h 140 [(1, vi c0), (3, vi w), (4, vi lf), (5, vi y1), (7, vi ((k : Int) + 1))] [] := by
  have hm : 12 ≤ mo c0 ∧ mo c0 ≤ 13 := by unfold mo; split <;> omega
  have hall := dah_all h0 h3 y1
  have hyd := yd_in c0 y1
  have hn := ny_next h0 h3 y1
  obtain ⟨z1, z2⟩ := id hY
  have fin : ∀ (k : Nat) (lf : Int), isM c0 y1 (z - ny c0 y1) k lf → V p l e (yRm 7 220 0 0) s m args below meth c 8 d b (yEnd below s args d b post noT 0 0) 0 0 n h 172 [(1, vi c0), (3, vi w), (4, vi lf), (5, vi y1), (7, vi ((k : Int) + 1))] [] := fun k lf hM => by
    refine V_iload_n C d_Mod_date_172 rfl rfl ?_
    refine V_if_ne (tgt := 181) C d_Mod_date_173 (by decide) hw (fun q173 => ?_) (fun q173 => ?_)
    · refine V_iload_n C d_Mod_date_181 rfl rfl ?_
      refine V_iconst C d_Mod_date_182 rfl ?_
      refine V_icmp_ne (tgt := 191) C d_Mod_date_183 (by decide) hw (by unfold inI; omega) (fun q183 => ?_) (fun q183 => ?_)
      · have hp := hp (lf + 1) ⟨y1, hY, Or.inr ⟨q173, k, lf, hM, by rw [if_neg q183]⟩⟩
        refine V_iload C d_Mod_date_191 rfl ?_
        refine V_iconst C d_Mod_date_193 rfl ?_
        refine V_iadd C d_Mod_date_194 ?_
        exact V_ireturn C d_Mod_date_195 (Nat.le_refl _) (Nat.le_refl _) hp
      · have hp := hp ((k : Int) + 1) ⟨y1, hY, Or.inr ⟨q173, k, lf, hM, by rw [if_pos q183]⟩⟩
        refine V_iload C d_Mod_date_186 rfl ?_
        refine V_goto (tgt := 195) C d_Mod_date_188 (by decide) ?_
        exact V_ireturn C d_Mod_date_195 (Nat.le_refl _) (Nat.le_refl _) hp
    · have hp := hp y1 ⟨y1, hY, Or.inl ⟨q173, rfl⟩⟩
      refine V_iload C d_Mod_date_176 rfl ?_
      refine V_goto (tgt := 195) C d_Mod_date_178 (by decide) ?_
      exact V_ireturn C d_Mod_date_195 (Nat.le_refl _) (Nat.le_refl _) hp
  intro j
  induction j with
  | zero =>
    intro k lf hk hd hl0
    have e1 : (mo c0).toNat = k + 1 := by omega
    rw [e1] at hall
    have e2 : dah c0 y1 (k + 1) = dah c0 y1 k + md c0 y1 ((k : Int) + 1) := rfl
    have mi := md_in c0 y1 ((k : Int) + 1)
    refine V_iload C d_Mod_date_140 rfl ?_
    refine V_iload_n C d_Mod_date_142 rfl rfl ?_
    refine V_iload C d_Mod_date_143 rfl ?_
    refine V_iload C d_Mod_date_145 rfl ?_
    refine V_callS C (c_Mod_monthDays hl h0 h3 hy (k := (k : Int) + 1) (by omega) (by omega)) wc_Mod_monthDays w_Mod_date_147 np_Mod_monthDays (by decide) rfl (Nat.le_of_ble_eq_true rfl) d_Mod_date_147 (fun v n1 h1 hq => ?_) (fun Cx n1 h1 hp => hp.elim)
    obtain ⟨rfl, rfl, rfl⟩ := hq
    refine V_icmp_lt (tgt := 172) C d_Mod_date_150 (by decide) (by unfold inI; omega) (by unfold inI; omega) (fun q150 => ?_) (fun q150 => ?_)
    · exact V_loc2 (fin k lf ⟨by omega, hd, hl0, q150⟩) ⟨rfl, rfl, rfl, rfl, rfl, trivial⟩
    · exact absurd q150 (by omega)
  | succ j ih =>
    intro k lf hk hd hl0
    have e2 : dah c0 y1 (k + 1) = dah c0 y1 k + md c0 y1 ((k : Int) + 1) := rfl
    have mi := md_in c0 y1 ((k : Int) + 1)
    have di := dah_in c0 y1 k
    refine V_iload C d_Mod_date_140 rfl ?_
    refine V_iload_n C d_Mod_date_142 rfl rfl ?_
    refine V_iload C d_Mod_date_143 rfl ?_
    refine V_iload C d_Mod_date_145 rfl ?_
    refine V_callS C (c_Mod_monthDays hl h0 h3 hy (k := (k : Int) + 1) (by omega) (by omega)) wc_Mod_monthDays w_Mod_date_147 np_Mod_monthDays (by decide) rfl (Nat.le_of_ble_eq_true rfl) d_Mod_date_147 (fun v n1 h1 hq => ?_) (fun Cx n1 h1 hp => hp.elim)
    obtain ⟨rfl, rfl, rfl⟩ := hq
    refine V_icmp_lt (tgt := 172) C d_Mod_date_150 (by decide) (by unfold inI; omega) (by unfold inI; omega) (fun q150 => ?_) (fun q150 => ?_)
    · exact V_loc2 (fin k lf ⟨by omega, hd, hl0, q150⟩) ⟨rfl, rfl, rfl, rfl, rfl, trivial⟩
    · refine V_iload C d_Mod_date_153 rfl ?_
      refine V_iload_n C d_Mod_date_155 rfl rfl ?_
      refine V_iload C d_Mod_date_156 rfl ?_
      refine V_iload C d_Mod_date_158 rfl ?_
      refine V_callS C (c_Mod_monthDays hl h0 h3 hy (k := (k : Int) + 1) (by omega) (by omega)) wc_Mod_monthDays w_Mod_date_160 np_Mod_monthDays (by decide) rfl (Nat.le_of_ble_eq_true rfl) d_Mod_date_160 (fun v n1 h1 hq => ?_) (fun Cx n1 h1 hp => hp.elim)
      obtain ⟨rfl, rfl, rfl⟩ := hq
      refine V_isub C d_Mod_date_163 ?_
      refine V_istore C d_Mod_date_164 (by decide) rfl ?_
      refine V_iinc C d_Mod_date_166 rfl rfl (by decide) rfl ?_
      refine V_goto (tgt := 140) C d_Mod_date_169 (by decide) ?_
      exact V_loc2 (ih (k + 1) (lf - md c0 y1 ((k : Int) + 1)) (by omega) (by omega) (by omega)) ⟨rfl, rfl, rfl, rfl, rfl, trivial⟩
set_option maxHeartbeats 1000000 in
theorem Mod_dt3 (C : yC p l s m args meth c y_Mod_date b_Mod_date 8 (some .int) [] d b) (hl : yL l) {c0 z w : Int} (h0 : 0 ≤ c0) (h3 : c0 ≤ 3) (hw : inI w) (hz : -4000000 ≤ z ∧ z ≤ 4000000) {post : Option Value → Nat → yH → Prop} (hp : ∀ a, aDt c0 z w a → post (some (vi a)) n h) :
    ∀ (j : Nat) (y1 lf : Int), lf ≤ j → ny c0 y1 + lf = z → 0 ≤ lf → lf ≤ 200000 → V p l e (yRm 7 220 0 0) s m args below meth c 8 d b (yEnd below s args d b post noT 0 0) 0 0 n h 109 [(1, vi c0), (3, vi w), (4, vi lf), (5, vi y1)] [] := by
  have hm : 12 ≤ mo c0 ∧ mo c0 ≤ 13 := by unfold mo; split <;> omega
  intro j
  induction j with
  | zero =>
    intro y1 lf h1 h2 h4 h5
    have yb := ny_bd h0 h3 (y := y1) (by omega) (by omega)
    have hyd := yd_in c0 y1
    have hn := ny_next h0 h3 y1
    refine V_iload C d_Mod_date_109 rfl ?_
    refine V_iload_n C d_Mod_date_111 rfl rfl ?_
    refine V_iload C d_Mod_date_112 rfl ?_
    refine V_callS C (c_Mod_yearDays hl h0 h3 (y1 := y1) ⟨by omega, by omega⟩) wc_Mod_yearDays w_Mod_date_114 np_Mod_yearDays (by decide) rfl (Nat.le_of_ble_eq_true rfl) d_Mod_date_114 (fun v n1 h1 hq => ?_) (fun Cx n1 h1 hp => hp.elim)
    obtain ⟨rfl, rfl, rfl⟩ := hq
    refine V_icmp_lt (tgt := 137) C d_Mod_date_117 (by decide) (by unfold inI; omega) (by unfold inI; omega) (fun q117 => ?_) (fun q117 => ?_)
    · refine V_iconst C d_Mod_date_137 rfl ?_
      refine V_istore C d_Mod_date_138 (by decide) rfl ?_
      exact V_loc2 (Mod_dt4 C hl h0 h3 (z := z) ⟨by omega, by omega⟩ hw ⟨by omega, by omega⟩ hp ((mo c0).toNat - 1) 0 lf (by omega) (by show (0 : Int) + _ = _; omega) h4) ⟨rfl, rfl, rfl, rfl, rfl, trivial⟩
    · exact absurd q117 (by omega)
  | succ j ih =>
    intro y1 lf h1 h2 h4 h5
    have yb := ny_bd h0 h3 (y := y1) (by omega) (by omega)
    have hyd := yd_in c0 y1
    have hn := ny_next h0 h3 y1
    refine V_iload C d_Mod_date_109 rfl ?_
    refine V_iload_n C d_Mod_date_111 rfl rfl ?_
    refine V_iload C d_Mod_date_112 rfl ?_
    refine V_callS C (c_Mod_yearDays hl h0 h3 (y1 := y1) ⟨by omega, by omega⟩) wc_Mod_yearDays w_Mod_date_114 np_Mod_yearDays (by decide) rfl (Nat.le_of_ble_eq_true rfl) d_Mod_date_114 (fun v n1 h1 hq => ?_) (fun Cx n1 h1 hp => hp.elim)
    obtain ⟨rfl, rfl, rfl⟩ := hq
    refine V_icmp_lt (tgt := 137) C d_Mod_date_117 (by decide) (by unfold inI; omega) (by unfold inI; omega) (fun q117 => ?_) (fun q117 => ?_)
    · refine V_iconst C d_Mod_date_137 rfl ?_
      refine V_istore C d_Mod_date_138 (by decide) rfl ?_
      exact V_loc2 (Mod_dt4 C hl h0 h3 (z := z) ⟨by omega, by omega⟩ hw ⟨by omega, by omega⟩ hp ((mo c0).toNat - 1) 0 lf (by omega) (by show (0 : Int) + _ = _; omega) h4) ⟨rfl, rfl, rfl, rfl, rfl, trivial⟩
    · refine V_iload C d_Mod_date_120 rfl ?_
      refine V_iload_n C d_Mod_date_122 rfl rfl ?_
      refine V_iload C d_Mod_date_123 rfl ?_
      refine V_callS C (c_Mod_yearDays hl h0 h3 (y1 := y1) ⟨by omega, by omega⟩) wc_Mod_yearDays w_Mod_date_125 np_Mod_yearDays (by decide) rfl (Nat.le_of_ble_eq_true rfl) d_Mod_date_125 (fun v n1 h1 hq => ?_) (fun Cx n1 h1 hp => hp.elim)
      obtain ⟨rfl, rfl, rfl⟩ := hq
      refine V_isub C d_Mod_date_128 ?_
      refine V_istore C d_Mod_date_129 (by decide) rfl ?_
      refine V_iinc C d_Mod_date_131 rfl rfl (by decide) rfl ?_
      refine V_goto (tgt := 109) C d_Mod_date_134 (by decide) ?_
      exact V_loc2 (ih (y1 + 1) (lf - yd c0 y1) (by omega) (by omega) (by omega) (by omega)) ⟨rfl, rfl, rfl, rfl, trivial⟩
set_option maxHeartbeats 1000000 in
theorem Mod_dt2 (C : yC p l s m args meth c y_Mod_date b_Mod_date 8 (some .int) [] d b) (hl : yL l) {c0 z w : Int} (h0 : 0 ≤ c0) (h3 : c0 ≤ 3) (hw : inI w) (hz : -4000000 ≤ z ∧ z ≤ 4000000) {post : Option Value → Nat → yH → Prop} (hp : ∀ a, aDt c0 z w a → post (some (vi a)) n h) :
    ∀ (j : Nat) (y1 lf : Int), lf ≤ j → ny c0 y1 + lf = z → 0 ≤ lf → lf ≤ 5000000 → V p l e (yRm 7 220 0 0) s m args below meth c 8 d b (yEnd below s args d b post noT 0 0) 0 0 n h 83 [(1, vi c0), (3, vi w), (4, vi lf), (5, vi y1), (6, vi (cyD c0))] [] := by
  obtain ⟨⟨k1, k2⟩, ⟨k3, k4⟩, k5, k6⟩ := cy_in h0 h3
  intro j
  induction j with
  | zero =>
    intro y1 lf h1 h2 h4 h5
    refine V_iload C d_Mod_date_83 rfl ?_
    refine V_iload C d_Mod_date_85 rfl ?_
    refine V_icmp_lt (tgt := 109) C d_Mod_date_87 (by decide) (by unfold inI; omega) (by unfold inI; omega) (fun q87 => ?_) (fun q87 => ?_)
    · exact V_loc2 (Mod_dt3 C hl h0 h3 hw hz hp lf.toNat y1 lf (by omega) h2 h4 (by omega)) ⟨rfl, rfl, rfl, rfl, trivial⟩
    · exact absurd q87 (by omega)
  | succ j ih =>
    intro y1 lf h1 h2 h4 h5
    refine V_iload C d_Mod_date_83 rfl ?_
    refine V_iload C d_Mod_date_85 rfl ?_
    refine V_icmp_lt (tgt := 109) C d_Mod_date_87 (by decide) (by unfold inI; omega) (by unfold inI; omega) (fun q87 => ?_) (fun q87 => ?_)
    · exact V_loc2 (Mod_dt3 C hl h0 h3 hw hz hp lf.toNat y1 lf (by omega) h2 h4 (by omega)) ⟨rfl, rfl, rfl, rfl, trivial⟩
    · have e1 := ny_cyc h0 h3 y1
      refine V_iload C d_Mod_date_90 rfl ?_
      refine V_iload C d_Mod_date_92 rfl ?_
      refine V_isub C d_Mod_date_94 ?_
      refine V_istore C d_Mod_date_95 (by decide) rfl ?_
      refine V_iload C d_Mod_date_97 rfl ?_
      refine V_iload_n C d_Mod_date_99 rfl rfl ?_
      refine V_callS C (c_Mod_cycle hl (c0 := c0) ⟨by omega, by omega⟩) wc_Mod_cycle w_Mod_date_100 np_Mod_cycle (by decide) rfl (Nat.le_of_ble_eq_true rfl) d_Mod_date_100 (fun v n1 h1 hq => ?_) (fun Cx n1 h1 hp => hp.elim)
      obtain ⟨rfl, rfl, rfl⟩ := hq
      refine V_iadd C d_Mod_date_103 ?_
      refine V_istore C d_Mod_date_104 (by decide) rfl ?_
      refine V_goto (tgt := 83) C d_Mod_date_106 (by decide) ?_
      exact V_loc2 (ih (y1 + cyN c0) (lf - cyD c0) (by omega) (by omega) (by omega) (by omega)) ⟨rfl, rfl, rfl, rfl, rfl, trivial⟩
set_option maxHeartbeats 1000000 in
theorem Mod_dt1 (C : yC p l s m args meth c y_Mod_date b_Mod_date 8 (some .int) [] d b) (hl : yL l) {c0 z w : Int} (h0 : 0 ≤ c0) (h3 : c0 ≤ 3) (hw : inI w) (hz : -4000000 ≤ z ∧ z ≤ 4000000) {post : Option Value → Nat → yH → Prop} (hp : ∀ a, aDt c0 z w a → post (some (vi a)) n h) :
    ∀ (j : Nat) (y1 lf : Int), -lf ≤ j → ny c0 y1 + lf = z → -5000000 ≤ lf → lf ≤ 5000000 → V p l e (yRm 7 220 0 0) s m args below meth c 8 d b (yEnd below s args d b post noT 0 0) 0 0 n h 59 [(1, vi c0), (3, vi w), (4, vi lf), (5, vi y1), (6, vi (cyD c0))] [] := by
  obtain ⟨⟨k1, k2⟩, ⟨k3, k4⟩, k5, k6⟩ := cy_in h0 h3
  intro j
  induction j with
  | zero =>
    intro y1 lf h1 h2 h4 h5
    refine V_iload C d_Mod_date_59 rfl ?_
    refine V_if_ge (tgt := 83) C d_Mod_date_61 (by decide) (by unfold inI; omega) (fun q61 => ?_) (fun q61 => ?_)
    · exact V_loc2 (Mod_dt2 C hl h0 h3 hw hz hp lf.toNat y1 lf (by omega) h2 (by omega) h5) ⟨rfl, rfl, rfl, rfl, rfl, trivial⟩
    · exact absurd q61 (by omega)
  | succ j ih =>
    intro y1 lf h1 h2 h4 h5
    refine V_iload C d_Mod_date_59 rfl ?_
    refine V_if_ge (tgt := 83) C d_Mod_date_61 (by decide) (by unfold inI; omega) (fun q61 => ?_) (fun q61 => ?_)
    · exact V_loc2 (Mod_dt2 C hl h0 h3 hw hz hp lf.toNat y1 lf (by omega) h2 (by omega) h5) ⟨rfl, rfl, rfl, rfl, rfl, trivial⟩
    · have e1 := ny_cyc h0 h3 (y1 - cyN c0)
      rw [show y1 - cyN c0 + cyN c0 = y1 by omega] at e1
      refine V_iload C d_Mod_date_64 rfl ?_
      refine V_iload C d_Mod_date_66 rfl ?_
      refine V_iadd C d_Mod_date_68 ?_
      refine V_istore C d_Mod_date_69 (by decide) rfl ?_
      refine V_iload C d_Mod_date_71 rfl ?_
      refine V_iload_n C d_Mod_date_73 rfl rfl ?_
      refine V_callS C (c_Mod_cycle hl (c0 := c0) ⟨by omega, by omega⟩) wc_Mod_cycle w_Mod_date_74 np_Mod_cycle (by decide) rfl (Nat.le_of_ble_eq_true rfl) d_Mod_date_74 (fun v n1 h1 hq => ?_) (fun Cx n1 h1 hp => hp.elim)
      obtain ⟨rfl, rfl, rfl⟩ := hq
      refine V_isub C d_Mod_date_77 ?_
      refine V_istore C d_Mod_date_78 (by decide) rfl ?_
      refine V_goto (tgt := 59) C d_Mod_date_80 (by decide) ?_
      exact V_loc2 (ih (y1 - cyN c0) (lf + cyD c0) (by omega) (by omega) (by omega) (by omega)) ⟨rfl, rfl, rfl, rfl, rfl, trivial⟩
/-- what date leaves -/
abbrev mD (d : yD) (b : Nat) (h : yH) (v : Vw) (c0 z w a : Int) (h' : yH) : Prop := FrM h h' ∧ (kDt c0 z w = 0 → RepM d b h' v 0 ∧ aDt c0 z w a) ∧ (kDt c0 z w ≠ 0 → RepM d b h' v (kDt c0 z w : Nat))
set_option maxHeartbeats 1000000 in
theorem c_Mod_date (hl : yL l) (A : AtM d b y0 h) (O : OkM y0 v) {c0 z w : Int} (hc : inI c0) (hz : inI z) (hw : inI w) : yM l y_Mod_date b_Mod_date 8 (some .int) 7 220 0 0 d b n h [.ref (b + 29), vi c0, vi z, vi w] (fun q n' h' => n' = n ∧ ∃ a, q = some (vi a) ∧ mD d b h v c0 z w a h') noT := by
  refine yM_of hl (by decide +kernel) (Nat.le_of_ble_eq_true rfl) (fun p e s m args below meth c C => ?_)
  have go : ∀ z2 : Int, z2 = bi ((0 ≤ w ∧ w ≤ 2) ∧ -4000000 ≤ z ∧ z ≤ 4000000) → V p l e (yRm 7 220 0 0) s m args below meth c 8 d b (yEnd below s args d b (fun q n' h' => n' = n ∧ ∃ a, q = some (vi a) ∧ mD d b h v c0 z w a h') noT 0 0) 0 0 n h 32 [(0, .ref (b + 29)), (1, vi c0), (2, vi z), (3, vi w)] [vi z2, vi (bi (0 ≤ c0 ∧ c0 ≤ 3)), .ref (b + 29)] := fun z2 hz2 => by
    have kk : kG (bi (0 ≤ c0 ∧ c0 ≤ 3)) z2 1 1 = (kDt c0 z w : Nat) := by
      rw [hz2, kG_b2]
      unfold kDt
      by_cases q1 : 0 ≤ c0 ∧ c0 ≤ 3
      · rw [if_neg (c := ¬ (0 ≤ c0 ∧ c0 ≤ 3)) (fun w => w q1), if_neg (c := ¬ (0 ≤ c0 ∧ c0 < 4)) (by omega)]
        by_cases q2 : (0 ≤ w ∧ w ≤ 2) ∧ -4000000 ≤ z ∧ z ≤ 4000000
        · rw [if_neg (fun w => w q2), if_pos q2]
        · rw [if_pos q2, if_neg q2]
      · rw [if_pos q1, if_pos (by omega)]
    refine V_iconst C d_Mod_date_32 rfl ?_
    refine V_iconst C d_Mod_date_33 rfl ?_
    refine V_callV C (c_Mod_goes hl A (bi_z (p := 0 ≤ c0 ∧ c0 ≤ 3) rfl) (bi_z hz2) (z3 := 1) (z4 := 1) (by unfold inI; omega) (by unfold inI; omega)) wc_Mod_goes w_Mod_date_34 np_Mod_goes (by decide) A.o rfl rfl (Nat.le_of_ble_eq_true rfl) d_Mod_date_34 (fun v0 n1 h5 hp => ?_) (fun Cx n1 h1 hp => hp.elim)
    obtain ⟨rfl, rfl, A1, F1⟩ := hp
    rw [kk] at A1 ⊢
    refine V_if_ne (tgt := 42) C d_Mod_date_37 (by decide) (bi_z rfl) (fun q37 => ?_) (fun q37 => ?_)
    · have k0 : kDt c0 z w = 0 := by
        by_cases q : ((kDt c0 z w : Nat) : Int) = 0
        · omega
        · exact absurd (bi_n q) q37
      have q1 : 0 ≤ c0 ∧ c0 < 4 := by
        by_cases q : 0 ≤ c0 ∧ c0 < 4
        · exact q
        · unfold kDt at k0; rw [if_pos q] at k0; omega
      have q2 : (0 ≤ w ∧ w ≤ 2) ∧ -4000000 ≤ z ∧ z ≤ 4000000 := by
        by_cases q : (0 ≤ w ∧ w ≤ 2) ∧ -4000000 ≤ z ∧ z ≤ 4000000
        · exact q
        · unfold kDt at k0; rw [if_neg (c := ¬ (0 ≤ c0 ∧ c0 < 4)) (fun w => w q1), if_neg q] at k0; omega
      have t1 : (y0.s_th ((kDt c0 z w : Nat) : Int)).th = 0 := by show ((kDt c0 z w : Nat) : Int) = 0; omega
      obtain ⟨-, -, k5, k6⟩ := cy_in (c := c0) (by omega) (by omega)
      refine V_iload_n C d_Mod_date_42 rfl rfl ?_
      refine V_iload_n C d_Mod_date_43 rfl rfl ?_
      refine V_callS C (c_Mod_origin hl (c0 := c0) (by omega) (by omega)) wc_Mod_origin w_Mod_date_44 np_Mod_origin (by decide) rfl (Nat.le_of_ble_eq_true rfl) d_Mod_date_44 (fun v0 n2 h6 hp => ?_) (fun Cx n1 h1 hp => hp.elim)
      obtain ⟨rfl, rfl, rfl⟩ := hp
      refine V_isub C d_Mod_date_47 ?_
      refine V_istore C d_Mod_date_48 (by decide) rfl ?_
      refine V_iconst C d_Mod_date_50 rfl ?_
      refine V_istore C d_Mod_date_51 (by decide) rfl ?_
      refine V_iload_n C d_Mod_date_53 rfl rfl ?_
      refine V_callS C (c_Mod_cycleDays hl (c0 := c0) (by omega) (by omega)) wc_Mod_cycleDays w_Mod_date_54 np_Mod_cycleDays (by decide) rfl (Nat.le_of_ble_eq_true rfl) d_Mod_date_54 (fun v0 n2 h6 hp => ?_) (fun Cx n1 h1 hp => hp.elim)
      obtain ⟨rfl, rfl, rfl⟩ := hp
      refine V_istore C d_Mod_date_57 (by decide) rfl ?_
      exact V_loc2 (Mod_dt1 C hl (by omega) (by omega) hw q2.2 (fun a ha => ⟨rfl, a, rfl, F1, fun _ => ⟨⟨_, A1, O.sTh _, t1⟩, ha⟩, fun q => absurd k0 q⟩) (-(z - ny c0 1)).toNat 1 (z - ny c0 1) (by omega) (by omega) (by omega) (by omega)) ⟨rfl, rfl, rfl, rfl, rfl, trivial⟩
    · have k0 : kDt c0 z w ≠ 0 := fun q => by rw [q] at q37; exact absurd q37 (by decide)
      refine V_iconst C d_Mod_date_40 rfl ?_
      exact V_ireturn C d_Mod_date_41 (Nat.le_refl _) (Nat.le_refl _) ⟨rfl, _, rfl, F1, fun q => absurd q k0, fun _ => ⟨_, A1, O.sTh _, rfl⟩⟩
  refine V_aload_n C d_Mod_date_0 rfl rfl ?_
  refine V_iload_n C d_Mod_date_1 rfl rfl ?_
  refine V_iconst C d_Mod_date_2 rfl ?_
  refine V_iconst C d_Mod_date_3 rfl ?_
  refine V_callS C (c_Mod_within hl hc (lo := 0) (hi := 3) (by unfold inI; omega) (by unfold inI; omega)) wc_Mod_within w_Mod_date_4 np_Mod_within (by decide) rfl (Nat.le_of_ble_eq_true rfl) d_Mod_date_4 (fun v n1 h1 hp => ?_) (fun Cx n1 h1 hp => hp.elim)
  obtain ⟨rfl, rfl, rfl⟩ := hp
  refine V_iload_n C d_Mod_date_7 rfl rfl ?_
  refine V_iconst C d_Mod_date_8 rfl ?_
  refine V_iconst C d_Mod_date_9 rfl ?_
  refine V_callS C (c_Mod_within hl hw (lo := 0) (hi := 2) (by unfold inI; omega) (by unfold inI; omega)) wc_Mod_within w_Mod_date_10 np_Mod_within (by decide) rfl (Nat.le_of_ble_eq_true rfl) d_Mod_date_10 (fun v n1 h1 hp => ?_) (fun Cx n1 h1 hp => hp.elim)
  obtain ⟨rfl, rfl, rfl⟩ := hp
  refine V_if_eq (tgt := 31) C d_Mod_date_13 (by decide) (bi_z rfl) (fun q13 => ?_) (fun q13 => ?_)
  · have := bi_0.mp q13
    refine V_iconst C d_Mod_date_31 rfl ?_
    exact go 0 (bi_n (fun w => this w.1)).symm
  · have g1 : 0 ≤ w ∧ w ≤ 2 := by
      by_cases q : 0 ≤ w ∧ w ≤ 2
      · exact q
      · exact absurd (bi_n q) q13
    refine V_iload_n C d_Mod_date_16 rfl rfl ?_
    refine V_ldc (z := (-4000000)) C w_Mod_date_17 rfl d_Mod_date_17 ?_
    refine V_ldc (z := 4000000) C w_Mod_date_19 rfl d_Mod_date_19 ?_
    refine V_callS C (c_Mod_within hl hz (lo := -4000000) (hi := 4000000) (by unfold inI; omega) (by unfold inI; omega)) wc_Mod_within w_Mod_date_21 np_Mod_within (by decide) rfl (Nat.le_of_ble_eq_true rfl) d_Mod_date_21 (fun v n1 h1 hp => ?_) (fun Cx n1 h1 hp => hp.elim)
    obtain ⟨rfl, rfl, rfl⟩ := hp
    refine V_if_eq (tgt := 31) C d_Mod_date_24 (by decide) (bi_z rfl) (fun q24 => ?_) (fun q24 => ?_)
    · have := bi_0.mp q24
      refine V_iconst C d_Mod_date_31 rfl ?_
      exact go 0 (bi_n (fun w => this w.2)).symm
    · have g2 : -4000000 ≤ z ∧ z ≤ 4000000 := by
        by_cases q : -4000000 ≤ z ∧ z ≤ 4000000
        · exact q
        · exact absurd (bi_n q) q24
      refine V_iconst C d_Mod_date_27 rfl ?_
      refine V_goto (tgt := 32) C d_Mod_date_28 (by decide) ?_
      exact go 1 (bi_1 ⟨g1, g2⟩).symm
end ModQ
