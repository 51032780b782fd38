/-! THE LAW'S METHODS WITH HANDLERS -/
def cI (x : Int) : Int := (iI x).toInt
def cJ (x : Int) : Int := (jI x).toInt
theorem cI_v (x : Int) : vi x = vi (cI x) := by show Value.int (iI x) = Value.int (iI (iI x).toInt); rw [iI_eta]
theorem cJ_v (x : Int) : vj x = vj (cJ x) := by show Value.long (jI x) = Value.long (jI (jI x).toInt); rw [jI_eta]
theorem cI_in (x : Int) : inI (cI x) := inI_x _
theorem cJ_in (x : Int) : inJ (cJ x) := inJ_x _
theorem AtX.kp {d : yD} {b : Nat} {x : XS} {h h' : yH} (A : AtX d b x h) (H : ∀ k, k < 29 → h' k = h k) : AtX d b x h' := by
  obtain ⟨a0, a1, a2, a3, a4, a5, a6, a7, a8, a9, a10, a11, a12, a13, a14⟩ := A
  exact ⟨(H _ (by omega)).trans a0, (H _ (by omega)).trans a1, (H _ (by omega)).trans a2, (H _ (by omega)).trans a3, (H _ (by omega)).trans a4, (H _ (by omega)).trans a5, (H _ (by omega)).trans a6, (H _ (by omega)).trans a7, (H _ (by omega)).trans a8, (H _ (by omega)).trans a9, (H _ (by omega)).trans a10, (H _ (by omega)).trans a11, (H _ (by omega)).trans a12, fun i hi => (H _ (by omega)).trans (a13 i hi), fun i hi => (H _ (by omega)).trans (a14 i hi)⟩
theorem AtM.kp {d : yD} {b : Nat} {y : YS} {h h' : yH} (A : AtM d b y h) (H : ∀ k, 29 ≤ k → k < 38 → h' k = h k) : AtM d b y h' := by
  obtain ⟨a0, a1, a2, a3, a4, a5, a6, a7, a8⟩ := A
  exact ⟨(H _ (by omega) (by omega)).trans a0, (H _ (by omega) (by omega)).trans a1, (H _ (by omega) (by omega)).trans a2, (H _ (by omega) (by omega)).trans a3, (H _ (by omega) (by omega)).trans a4, (H _ (by omega) (by omega)).trans a5, (H _ (by omega) (by omega)).trans a6, (H _ (by omega) (by omega)).trans a7, (H _ (by omega) (by omega)).trans a8⟩
theorem RepX.kp {d : yD} {b : Nat} {v : Vw} {h h' : yH} (A : RepX d b h v) (H : ∀ k, k < 29 → h' k = h k) : RepX d b h' v := by
  obtain ⟨x, a, o⟩ := A
  exact ⟨x, a.kp H, o⟩
theorem RepM.kp {d : yD} {b : Nat} {v : Vw} {t : Int} {h h' : yH} (A : RepM d b h v t) (H : ∀ k, 29 ≤ k → k < 38 → h' k = h k) : RepM d b h' v t := by
  obtain ⟨x, a, o, g⟩ := A
  exact ⟨x, a.kp H, o, g⟩
/-- what such a method leaves: k its answer; where k is 0, the class stands for a w with T w (what lies in out) -/
abbrev wR (d : yD) (b n : Nat) (h : yH) (v : Vw) (k : Nat) (T : Vw → Int → Prop) : Option Value → Nat → yH → Prop := fun q n' h' =>
  n ≤ n' ∧ q = some (vi k) ∧ k ≤ 4 ∧ (∀ j, 29 ≤ j → j ≠ 38 → h' j = h j) ∧ ∃ F, h' 38 = some (oJ d 1 F) ∧ (k = 0 → ∃ w, T w (F 0) ∧ RepX d b h' w) ∧ (k ≠ 0 → RepX d b h' v)
theorem wR_ok {d : yD} {b n : Nat} {h h1 : yH} {v w : Vw} {k : Nat} {T : Vw → Int → Prop} {G : Nat → Int} {z : Int} {q : Option Value} (hk : k = 0) (hq : q = some (vi 0)) (hR : RepX d b h1 w) (hF : FrX h h1) (hT : T w z) : wR d b n h v k T q n (hs h1 38 (oJ d 1 (fu G (0 : Int).toNat z))) :=
  ⟨Nat.le_refl _, by rw [hk]; exact hq, by omega, fun j h2 h3 => (hs_ne _ _ h3).trans (hF j h2), _, hs_eq _ _ _, fun _ => ⟨w, by rw [show fu G (0 : Int).toNat z 0 = z from fu_eq _ _ _]; exact hT, hR.kp (fun j hj => hs_ne _ _ (by omega))⟩, fun q => absurd hk q⟩
theorem wR_no {d : yD} {b n n1 : Nat} {h h1 : yH} {v : Vw} {k i : Nat} {T : Vw → Int → Prop} {G : Nat → Int} {q : Option Value} (hk : k = i) (hq : q = some (vi i)) (hi : i ≠ 0 ∧ i ≤ 4) (hn : n ≤ n1) (hR : RepX d b h1 v) (hF : FrX h h1) (h38 : h 38 = some (oJ d 1 G)) : wR d b n h v k T q n1 h1 :=
  ⟨hn, by rw [hk]; exact hq, by omega, fun j h2 h3 => hF j h2, G, (hF 38 (by omega)).trans h38, fun q => absurd q (by omega), fun _ => hR⟩
section LRows
variable {p : Program} {l : Launch} {e : Env} {R : Room} {s : State} {m : MethodId} {args : Array Value} {below : List Frame} {meth : Method} {c : Code} {nL : Nat} {d : yD} {b : Nat} {Q : State → Prop} {cells slots n : Nat} {h : yH} {pc : Nat} {lv : List (Nat × Value)} {st : List Value}
variable {y : MethodName} {cc : ByteArray} {ret : Option FieldType} {tb : List ClassFile.ExceptionTableEntry}
theorem V_i2lC (C : yC p l s m args meth c y cc nL ret tb d b) {x : Int} (hdg : decode cc pc = .ok (.i2l, 1)) (kk : V p l e R s m args below meth c nL d b Q cells slots n h (pc + 1) lv (vj (cI x) :: st)) : V p l e R s m args below meth c nL d b Q cells slots n h pc lv (vi x :: st) := by
  rw [cI_v x]; exact V_i2l C hdg (cI_in x) kk
theorem V_lcmpE (C : yC p l s m args meth c y cc nL ret tb d b) {x : Int} (hdg : decode cc pc = .ok (.lcmp, 1)) (kk : V p l e R s m args below meth c nL d b Q cells slots n h (pc + 1) lv (vi 0 :: st)) : V p l e R s m args below meth c nL d b Q cells slots n h pc lv (vj x :: vj x :: st) := by
  rw [cJ_v x]
  refine V_lcmp C hdg (cJ_in x) (cJ_in x) ?_
  rw [show cz (cJ x) (cJ x) = 0 by unfold cz; split <;> (try split) <;> omega]
  exact kk
theorem V_icmp_eqE (C : yC p l s m args meth c y cc nL ret tb d b) {x : Int} {off : Int} {tgt : Nat} (hdg : decode cc pc = .ok (.if_icmp .eq off, 3)) (ht : (pc : Int) + off = (tgt : Int)) (kt : V p l e R s m args below meth c nL d b Q cells slots n h tgt lv st) : V p l e R s m args below meth c nL d b Q cells slots n h pc lv (vi x :: vi x :: st) := by
  rw [cI_v x]
  exact V_icmp_eq C hdg ht (cI_in x) (cI_in x) (fun _ => kt) (fun q => absurd rfl q)
end LRows

section LWrap
variable {l : Launch} {d : yD} {b n : Nat} {h : yH} {x : XS} {v : Vw} {G : Nat → Int}
abbrev t_Law_row (v : Vw) (p0 p1 : Int) : Vw → Int → Prop := fun w z => w = vRow v p0 p1 ∧ z = cI v.rc
theorem c_Law_row (hl : yL l) (hv : OkV v) (A : AtX d b x h) (O : OkX x v) (h38 : h 38 = some (oJ d 1 G)) {p0 p1 : Int} (i0 : inI p0) (i1 : inI p1) :
    yMW l y_Law_row b_Law_row 5 (some .int) [(0, 10, 13, 13), (0, 10, 17, 15)] 9 200 64 512 d b n h [.ref (b + 0), vi p0, vi p1, .ref (b + 38)] (wR d b n h v (kRow v p0 p1) (t_Law_row v p0 p1)) noT := by
  refine yM_ofW hl (by decide +kernel) (Nat.le_of_ble_eq_true rfl) (fun p e s m args below meth c C => ?_)
  refine V_aload_n C d_Law_row_0 rfl rfl ?_
  refine V_iconst C d_Law_row_1 rfl ?_
  refine V_aload_n C d_Law_row_2 rfl rfl ?_
  refine V_iload_n C d_Law_row_3 rfl rfl ?_
  refine V_iload_n C d_Law_row_4 rfl rfl ?_
  refine V_callV C (c_Yf_row hl hv A O i0 i1) wc_Yf_row w_Law_row_5 np_Yf_row (by decide) A.o rfl rfl (Nat.le_of_ble_eq_true rfl) d_Law_row_5 (fun v n1 h1 hp => ?_) (fun Cx n1 h1 hp => ?_)
  · obtain ⟨hk, rfl, rfl, hR, hF⟩ := hp
    have h39 := (hF 38 (by omega)).trans h38
    refine V_i2lC C d_Law_row_8 ?_
    refine V_lastore C h39 (by omega) (by omega) (by decide) d_Law_row_9 ?_
    refine V_goto (tgt := 21) C d_Law_row_10 (by decide) ?_
    refine V_iconst C d_Law_row_21 rfl ?_
    exact V_ireturn C d_Law_row_22 (Nat.le_refl _) (Nat.le_refl _) (wR_ok hk rfl hR hF ⟨rfl, rfl⟩)
  · obtain ⟨hk, hn, hR, hF⟩ := hp
    rcases hk with ⟨hk, rfl⟩ | ⟨hk, rfl⟩
    · refine VT_catch C [] ⟨0, 10, 13, 13⟩ [⟨0, 10, 17, 15⟩] rfl (by decide) (fun z hz => absurd hz List.not_mem_nil) rfl (by decide) xl_S (fun a => ?_)
      refine V_astore C d_Law_row_13 (by decide) rfl ?_
      refine V_iconst C d_Law_row_15 rfl ?_
      exact V_ireturn C d_Law_row_16 (Nat.le_refl _) (Nat.le_refl _) (wR_no hk rfl (by omega) hn hR hF h38)
    · refine VT_catch C [⟨0, 10, 13, 13⟩] ⟨0, 10, 17, 15⟩ [] rfl (by decide) (List.forall_mem_cons.mpr ⟨⟨by decide, xnS, by decide, xl_S, by decide⟩, (fun z hz => absurd hz List.not_mem_nil)⟩) rfl (by decide) xl_A (fun a => ?_)
      refine V_astore C d_Law_row_17 (by decide) rfl ?_
      refine V_iconst C d_Law_row_19 rfl ?_
      exact V_ireturn C d_Law_row_20 (Nat.le_refl _) (Nat.le_refl _) (wR_no hk rfl (by omega) hn hR hF h38)
abbrev t_Law_weight (v : Vw) (p0 p1 p2 : Int) : Vw → Int → Prop := fun w z => w = vWt v p0 p1 p2 ∧ z = if v.W p0.toNat (p1 - v.F p0.toNat).toNat = p2 then 0 else 1
theorem c_Law_weight (hl : yL l) (hv : OkV v) (A : AtX d b x h) (O : OkX x v) (h38 : h 38 = some (oJ d 1 G)) {p0 p1 p2 : Int} (i0 : inI p0) (i1 : inI p1) (i2 : inJ p2) :
    yMW l y_Law_weight b_Law_weight 7 (some .int) [(0, 19, 22, 21), (0, 19, 26, 15)] 9 200 64 512 d b n h [.ref (b + 0), vi p0, vi p1, vj p2, .ref (b + 38)] (wR d b n h v (kWt v p0 p1 p2) (t_Law_weight v p0 p1 p2)) noT := by
  refine yM_ofW hl (by decide +kernel) (Nat.le_of_ble_eq_true rfl) (fun p e s m args below meth c C => ?_)
  refine V_aload C d_Law_weight_0 rfl ?_
  refine V_iconst C d_Law_weight_2 rfl ?_
  refine V_aload_n C d_Law_weight_3 rfl rfl ?_
  refine V_iload_n C d_Law_weight_4 rfl rfl ?_
  refine V_iload_n C d_Law_weight_5 rfl rfl ?_
  refine V_lload_n C d_Law_weight_6 rfl rfl ?_
  refine V_callV C (c_Yf_weight hl hv A O i0 i1 i2) wc_Yf_weight w_Law_weight_7 np_Yf_weight (by decide) A.o rfl rfl (Nat.le_of_ble_eq_true rfl) d_Law_weight_7 (fun v n1 h1 hp => ?_) (fun Cx n1 h1 hp => ?_)
  · obtain ⟨hk, rfl, rfl, hR, hF⟩ := hp
    have h39 := (hF 38 (by omega)).trans h38
    by_cases q9 : v.W p0.toNat (p1 - v.F p0.toNat).toNat = p2
    · rw [if_pos q9]
      show V p l e _ s m args below meth c 7 d b _ _ _ _ _ _ _ [vi 0, vi 0, .ref (b + 38)]
      refine V_if_eq (tgt := 17) C d_Law_weight_10 (by decide) (by unfold inI; omega) (fun q => ?_) (fun q => ?_)
      · refine V_lconst (z := 0) C d_Law_weight_17 rfl ?_
        refine V_lastore C h39 (by omega) (by omega) (by decide) d_Law_weight_18 ?_
        refine V_goto (tgt := 30) C d_Law_weight_19 (by decide) ?_
        refine V_iconst C d_Law_weight_30 rfl ?_
        exact V_ireturn C d_Law_weight_31 (Nat.le_refl _) (Nat.le_refl _) (wR_ok hk rfl hR hF ⟨rfl, (if_pos q9).symm⟩)
      · exact absurd rfl q
    · rw [if_neg q9]
      show V p l e _ s m args below meth c 7 d b _ _ _ _ _ _ _ [vi 1, vi 0, .ref (b + 38)]
      refine V_if_eq (tgt := 17) C d_Law_weight_10 (by decide) (by unfold inI; omega) (fun q => ?_) (fun q => ?_)
      · exact absurd q (by omega)
      · refine V_lconst (z := 1) C d_Law_weight_13 rfl ?_
        refine V_goto (tgt := 18) C d_Law_weight_14 (by decide) ?_
        refine V_lastore C h39 (by omega) (by omega) (by decide) d_Law_weight_18 ?_
        refine V_goto (tgt := 30) C d_Law_weight_19 (by decide) ?_
        refine V_iconst C d_Law_weight_30 rfl ?_
        exact V_ireturn C d_Law_weight_31 (Nat.le_refl _) (Nat.le_refl _) (wR_ok hk rfl hR hF ⟨rfl, (if_neg q9).symm⟩)
  · obtain ⟨hk, hn, hR, hF⟩ := hp
    rcases hk with ⟨hk, rfl⟩ | ⟨hk, rfl⟩
    · refine VT_catch C [] ⟨0, 19, 22, 21⟩ [⟨0, 19, 26, 15⟩] rfl (by decide) (fun z hz => absurd hz List.not_mem_nil) rfl (by decide) xl_I (fun a => ?_)
      refine V_astore C d_Law_weight_22 (by decide) rfl ?_
      refine V_iconst C d_Law_weight_24 rfl ?_
      exact V_ireturn C d_Law_weight_25 (Nat.le_refl _) (Nat.le_refl _) (wR_no hk rfl (by omega) hn hR hF h38)
    · refine VT_catch C [⟨0, 19, 22, 21⟩] ⟨0, 19, 26, 15⟩ [] rfl (by decide) (List.forall_mem_cons.mpr ⟨⟨by decide, xnI, by decide, xl_I, by decide⟩, (fun z hz => absurd hz List.not_mem_nil)⟩) rfl (by decide) xl_A (fun a => ?_)
      refine V_astore C d_Law_weight_26 (by decide) rfl ?_
      refine V_iconst C d_Law_weight_28 rfl ?_
      exact V_ireturn C d_Law_weight_29 (Nat.le_refl _) (Nat.le_refl _) (wR_no hk rfl (by omega) hn hR hF h38)
abbrev t_Law_add (v : Vw) (p0 p1 : Int) : Vw → Int → Prop := fun w z => w = vAdd v p0 p1 ∧ z = cI v.rc
theorem c_Law_add (hl : yL l) (hv : OkV v) (A : AtX d b x h) (O : OkX x v) (h38 : h 38 = some (oJ d 1 G)) {p0 p1 : Int} (i0 : inI p0) (i1 : inI p1) :
    yMW l y_Law_add b_Law_add 5 (some .int) [(0, 10, 13, 21), (0, 10, 17, 13), (0, 10, 21, 15), (0, 10, 25, 26)] 9 200 64 512 d b n h [.ref (b + 0), vi p0, vi p1, .ref (b + 38)] (wR d b n h v (kAdd v p0 p1) (t_Law_add v p0 p1)) noT := by
  refine yM_ofW hl (by decide +kernel) (Nat.le_of_ble_eq_true rfl) (fun p e s m args below meth c C => ?_)
  refine V_aload_n C d_Law_add_0 rfl rfl ?_
  refine V_iconst C d_Law_add_1 rfl ?_
  refine V_aload_n C d_Law_add_2 rfl rfl ?_
  refine V_iload_n C d_Law_add_3 rfl rfl ?_
  refine V_iload_n C d_Law_add_4 rfl rfl ?_
  refine V_callV C (c_Yf_add hl hv A O i0 i1) wc_Yf_add w_Law_add_5 np_Yf_add (by decide) A.o rfl rfl (Nat.le_of_ble_eq_true rfl) d_Law_add_5 (fun v n1 h1 hp => ?_) (fun Cx n1 h1 hp => ?_)
  · obtain ⟨hk, rfl, rfl, hR, hF⟩ := hp
    have h39 := (hF 38 (by omega)).trans h38
    refine V_i2lC C d_Law_add_8 ?_
    refine V_lastore C h39 (by omega) (by omega) (by decide) d_Law_add_9 ?_
    refine V_goto (tgt := 29) C d_Law_add_10 (by decide) ?_
    refine V_iconst C d_Law_add_29 rfl ?_
    exact V_ireturn C d_Law_add_30 (Nat.le_refl _) (Nat.le_refl _) (wR_ok hk rfl hR hF ⟨rfl, rfl⟩)
  · obtain ⟨hk, hn, hR, hF⟩ := hp
    rcases hk with ⟨hk, rfl⟩ | ⟨hk, rfl⟩ | ⟨hk, rfl⟩ | ⟨hk, rfl⟩
    · refine VT_catch C [] ⟨0, 10, 13, 21⟩ [⟨0, 10, 17, 13⟩, ⟨0, 10, 21, 15⟩, ⟨0, 10, 25, 26⟩] rfl (by decide) (fun z hz => absurd hz List.not_mem_nil) rfl (by decide) xl_I (fun a => ?_)
      refine V_astore C d_Law_add_13 (by decide) rfl ?_
      refine V_iconst C d_Law_add_15 rfl ?_
      exact V_ireturn C d_Law_add_16 (Nat.le_refl _) (Nat.le_refl _) (wR_no hk rfl (by omega) hn hR hF h38)
    · refine VT_catch C [⟨0, 10, 13, 21⟩] ⟨0, 10, 17, 13⟩ [⟨0, 10, 21, 15⟩, ⟨0, 10, 25, 26⟩] rfl (by decide) (List.forall_mem_cons.mpr ⟨⟨by decide, xnI, by decide, xl_I, by decide⟩, (fun z hz => absurd hz List.not_mem_nil)⟩) rfl (by decide) xl_S (fun a => ?_)
      refine V_astore C d_Law_add_17 (by decide) rfl ?_
      refine V_iconst C d_Law_add_19 rfl ?_
      exact V_ireturn C d_Law_add_20 (Nat.le_refl _) (Nat.le_refl _) (wR_no hk rfl (by omega) hn hR hF h38)
    · refine VT_catch C [⟨0, 10, 13, 21⟩, ⟨0, 10, 17, 13⟩] ⟨0, 10, 21, 15⟩ [⟨0, 10, 25, 26⟩] rfl (by decide) (List.forall_mem_cons.mpr ⟨⟨by decide, xnI, by decide, xl_I, by decide⟩, (List.forall_mem_cons.mpr ⟨⟨by decide, xnS, by decide, xl_S, by decide⟩, (fun z hz => absurd hz List.not_mem_nil)⟩)⟩) rfl (by decide) xl_A (fun a => ?_)
      refine V_astore C d_Law_add_21 (by decide) rfl ?_
      refine V_iconst C d_Law_add_23 rfl ?_
      exact V_ireturn C d_Law_add_24 (Nat.le_refl _) (Nat.le_refl _) (wR_no hk rfl (by omega) hn hR hF h38)
    · refine VT_catch C [⟨0, 10, 13, 21⟩, ⟨0, 10, 17, 13⟩, ⟨0, 10, 21, 15⟩] ⟨0, 10, 25, 26⟩ [] rfl (by decide) (List.forall_mem_cons.mpr ⟨⟨by decide, xnI, by decide, xl_I, by decide⟩, (List.forall_mem_cons.mpr ⟨⟨by decide, xnS, by decide, xl_S, by decide⟩, (List.forall_mem_cons.mpr ⟨⟨by decide, xnA, by decide, xl_A, by decide⟩, (fun z hz => absurd hz List.not_mem_nil)⟩)⟩)⟩) rfl (by decide) xl_M (fun a => ?_)
      refine V_astore C d_Law_add_25 (by decide) rfl ?_
      refine V_iconst C d_Law_add_27 rfl ?_
      exact V_ireturn C d_Law_add_28 (Nat.le_refl _) (Nat.le_refl _) (wR_no hk rfl (by omega) hn hR hF h38)
abbrev t_Law_times (v : Vw) (p0 p1 p2 : Int) : Vw → Int → Prop := fun w z => w = vTm v p0 p1 p2 ∧ z = cI v.rc
theorem c_Law_times (hl : yL l) (hv : OkV v) (A : AtX d b x h) (O : OkX x v) (h38 : h 38 = some (oJ d 1 G)) {p0 p1 p2 : Int} (i0 : inI p0) (i1 : inI p1) (i2 : inI p2) :
    yMW l y_Law_times b_Law_times 6 (some .int) [(0, 12, 15, 21), (0, 12, 19, 13), (0, 12, 23, 15), (0, 12, 27, 26)] 9 200 64 512 d b n h [.ref (b + 0), vi p0, vi p1, vi p2, .ref (b + 38)] (wR d b n h v (kTm v p0 p1 p2) (t_Law_times v p0 p1 p2)) noT := by
  refine yM_ofW hl (by decide +kernel) (Nat.le_of_ble_eq_true rfl) (fun p e s m args below meth c C => ?_)
  refine V_aload C d_Law_times_0 rfl ?_
  refine V_iconst C d_Law_times_2 rfl ?_
  refine V_aload_n C d_Law_times_3 rfl rfl ?_
  refine V_iload_n C d_Law_times_4 rfl rfl ?_
  refine V_iload_n C d_Law_times_5 rfl rfl ?_
  refine V_iload_n C d_Law_times_6 rfl rfl ?_
  refine V_callV C (c_Yf_times hl hv A O i0 i1 i2) wc_Yf_times w_Law_times_7 np_Yf_times (by decide) A.o rfl rfl (Nat.le_of_ble_eq_true rfl) d_Law_times_7 (fun v n1 h1 hp => ?_) (fun Cx n1 h1 hp => ?_)
  · obtain ⟨hk, rfl, rfl, hR, hF⟩ := hp
    have h39 := (hF 38 (by omega)).trans h38
    refine V_i2lC C d_Law_times_10 ?_
    refine V_lastore C h39 (by omega) (by omega) (by decide) d_Law_times_11 ?_
    refine V_goto (tgt := 31) C d_Law_times_12 (by decide) ?_
    refine V_iconst C d_Law_times_31 rfl ?_
    exact V_ireturn C d_Law_times_32 (Nat.le_refl _) (Nat.le_refl _) (wR_ok hk rfl hR hF ⟨rfl, rfl⟩)
  · obtain ⟨hk, hn, hR, hF⟩ := hp
    rcases hk with ⟨hk, rfl⟩ | ⟨hk, rfl⟩ | ⟨hk, rfl⟩ | ⟨hk, rfl⟩
    · refine VT_catch C [] ⟨0, 12, 15, 21⟩ [⟨0, 12, 19, 13⟩, ⟨0, 12, 23, 15⟩, ⟨0, 12, 27, 26⟩] rfl (by decide) (fun z hz => absurd hz List.not_mem_nil) rfl (by decide) xl_I (fun a => ?_)
      refine V_astore C d_Law_times_15 (by decide) rfl ?_
      refine V_iconst C d_Law_times_17 rfl ?_
      exact V_ireturn C d_Law_times_18 (Nat.le_refl _) (Nat.le_refl _) (wR_no hk rfl (by omega) hn hR hF h38)
    · refine VT_catch C [⟨0, 12, 15, 21⟩] ⟨0, 12, 19, 13⟩ [⟨0, 12, 23, 15⟩, ⟨0, 12, 27, 26⟩] rfl (by decide) (List.forall_mem_cons.mpr ⟨⟨by decide, xnI, by decide, xl_I, by decide⟩, (fun z hz => absurd hz List.not_mem_nil)⟩) rfl (by decide) xl_S (fun a => ?_)
      refine V_astore C d_Law_times_19 (by decide) rfl ?_
      refine V_iconst C d_Law_times_21 rfl ?_
      exact V_ireturn C d_Law_times_22 (Nat.le_refl _) (Nat.le_refl _) (wR_no hk rfl (by omega) hn hR hF h38)
    · refine VT_catch C [⟨0, 12, 15, 21⟩, ⟨0, 12, 19, 13⟩] ⟨0, 12, 23, 15⟩ [⟨0, 12, 27, 26⟩] rfl (by decide) (List.forall_mem_cons.mpr ⟨⟨by decide, xnI, by decide, xl_I, by decide⟩, (List.forall_mem_cons.mpr ⟨⟨by decide, xnS, by decide, xl_S, by decide⟩, (fun z hz => absurd hz List.not_mem_nil)⟩)⟩) rfl (by decide) xl_A (fun a => ?_)
      refine V_astore C d_Law_times_23 (by decide) rfl ?_
      refine V_iconst C d_Law_times_25 rfl ?_
      exact V_ireturn C d_Law_times_26 (Nat.le_refl _) (Nat.le_refl _) (wR_no hk rfl (by omega) hn hR hF h38)
    · refine VT_catch C [⟨0, 12, 15, 21⟩, ⟨0, 12, 19, 13⟩, ⟨0, 12, 23, 15⟩] ⟨0, 12, 27, 26⟩ [] rfl (by decide) (List.forall_mem_cons.mpr ⟨⟨by decide, xnI, by decide, xl_I, by decide⟩, (List.forall_mem_cons.mpr ⟨⟨by decide, xnS, by decide, xl_S, by decide⟩, (List.forall_mem_cons.mpr ⟨⟨by decide, xnA, by decide, xl_A, by decide⟩, (fun z hz => absurd hz List.not_mem_nil)⟩)⟩)⟩) rfl (by decide) xl_M (fun a => ?_)
      refine V_astore C d_Law_times_27 (by decide) rfl ?_
      refine V_iconst C d_Law_times_29 rfl ?_
      exact V_ireturn C d_Law_times_30 (Nat.le_refl _) (Nat.le_refl _) (wR_no hk rfl (by omega) hn hR hF h38)
abbrev t_Law_least (v : Vw) (p0 p1 p2 : Int) : Vw → Int → Prop := fun w z => ∃ k, lsOk (v.W p0.toNat) (v.M p0.toNat) p1 p2 k ∧ w = vLs v p0.toNat k ∧ z = cI (vLs v p0.toNat k).sn
theorem c_Law_least (hl : yL l) (hv : OkV v) (A : AtX d b x h) (O : OkX x v) (h38 : h 38 = some (oJ d 1 G)) {p0 p1 p2 : Int} (i0 : inI p0) (i1 : inI p1) (i2 : inI p2) :
    yMW l y_Law_least b_Law_least 6 (some .int) [(0, 12, 15, 21), (0, 12, 19, 15), (0, 12, 23, 26)] 9 200 64 512 d b n h [.ref (b + 0), vi p0, vi p1, vi p2, .ref (b + 38)] (wR d b n h v (kLs v p0 p1 p2) (t_Law_least v p0 p1 p2)) noT := by
  refine yM_ofW hl (by decide +kernel) (Nat.le_of_ble_eq_true rfl) (fun p e s m args below meth c C => ?_)
  refine V_aload C d_Law_least_0 rfl ?_
  refine V_iconst C d_Law_least_2 rfl ?_
  refine V_aload_n C d_Law_least_3 rfl rfl ?_
  refine V_iload_n C d_Law_least_4 rfl rfl ?_
  refine V_iload_n C d_Law_least_5 rfl rfl ?_
  refine V_iload_n C d_Law_least_6 rfl rfl ?_
  refine V_callV C (c_Yf_least hl hv A O i0 i1 i2) wc_Yf_least w_Law_least_7 np_Yf_least (by decide) A.o rfl rfl (Nat.le_of_ble_eq_true rfl) d_Law_least_7 (fun v n1 h1 hp => ?_) (fun Cx n1 h1 hp => ?_)
  · obtain ⟨hk, rfl, j, hj, rfl, hR, hF⟩ := hp
    have h39 := (hF 38 (by omega)).trans h38
    refine V_i2lC C d_Law_least_10 ?_
    refine V_lastore C h39 (by omega) (by omega) (by decide) d_Law_least_11 ?_
    refine V_goto (tgt := 27) C d_Law_least_12 (by decide) ?_
    refine V_iconst C d_Law_least_27 rfl ?_
    exact V_ireturn C d_Law_least_28 (Nat.le_refl _) (Nat.le_refl _) (wR_ok hk rfl hR hF ⟨j, hj, rfl, rfl⟩)
  · obtain ⟨hk, hn, hR, hF⟩ := hp
    rcases hk with ⟨hk, rfl⟩ | ⟨hk, rfl⟩ | ⟨hk, rfl⟩
    · refine VT_catch C [] ⟨0, 12, 15, 21⟩ [⟨0, 12, 19, 15⟩, ⟨0, 12, 23, 26⟩] rfl (by decide) (fun z hz => absurd hz List.not_mem_nil) rfl (by decide) xl_I (fun a => ?_)
      refine V_astore C d_Law_least_15 (by decide) rfl ?_
      refine V_iconst C d_Law_least_17 rfl ?_
      exact V_ireturn C d_Law_least_18 (Nat.le_refl _) (Nat.le_refl _) (wR_no hk rfl (by omega) hn hR hF h38)
    · refine VT_catch C [⟨0, 12, 15, 21⟩] ⟨0, 12, 19, 15⟩ [⟨0, 12, 23, 26⟩] rfl (by decide) (List.forall_mem_cons.mpr ⟨⟨by decide, xnI, by decide, xl_I, by decide⟩, (fun z hz => absurd hz List.not_mem_nil)⟩) rfl (by decide) xl_A (fun a => ?_)
      refine V_astore C d_Law_least_19 (by decide) rfl ?_
      refine V_iconst C d_Law_least_21 rfl ?_
      exact V_ireturn C d_Law_least_22 (Nat.le_refl _) (Nat.le_refl _) (wR_no hk rfl (by omega) hn hR hF h38)
    · refine VT_catch C [⟨0, 12, 15, 21⟩, ⟨0, 12, 19, 15⟩] ⟨0, 12, 23, 26⟩ [] rfl (by decide) (List.forall_mem_cons.mpr ⟨⟨by decide, xnI, by decide, xl_I, by decide⟩, (List.forall_mem_cons.mpr ⟨⟨by decide, xnA, by decide, xl_A, by decide⟩, (fun z hz => absurd hz List.not_mem_nil)⟩)⟩) rfl (by decide) xl_M (fun a => ?_)
      refine V_astore C d_Law_least_23 (by decide) rfl ?_
      refine V_iconst C d_Law_least_25 rfl ?_
      exact V_ireturn C d_Law_least_26 (Nat.le_refl _) (Nat.le_refl _) (wR_no hk rfl (by omega) hn hR hF h38)
abbrev t_Law_span (v : Vw) (p0 p1 : Int) : Vw → Int → Prop := fun w z => w = v ∧ z = cI (aSp v p0 p1)
theorem c_Law_span (hl : yL l) (hv : OkV v) (A : AtX d b x h) (O : OkX x v) (h38 : h 38 = some (oJ d 1 G)) {p0 p1 : Int} (i0 : inI p0) (i1 : inI p1) :
    yMW l y_Law_span b_Law_span 5 (some .int) [(0, 10, 13, 21)] 9 200 64 512 d b n h [.ref (b + 0), vi p0, vi p1, .ref (b + 38)] (wR d b n h v (kSp v p0 p1) (t_Law_span v p0 p1)) noT := by
  refine yM_ofW hl (by decide +kernel) (Nat.le_of_ble_eq_true rfl) (fun p e s m args below meth c C => ?_)
  refine V_aload_n C d_Law_span_0 rfl rfl ?_
  refine V_iconst C d_Law_span_1 rfl ?_
  refine V_aload_n C d_Law_span_2 rfl rfl ?_
  refine V_iload_n C d_Law_span_3 rfl rfl ?_
  refine V_iload_n C d_Law_span_4 rfl rfl ?_
  refine V_callV C (c_Yf_span hl hv A O i0 i1) wc_Yf_span w_Law_span_5 np_Yf_span (by decide) A.o rfl rfl (Nat.le_of_ble_eq_true rfl) d_Law_span_5 (fun v n1 h1 hp => ?_) (fun Cx n1 h1 hp => ?_)
  · obtain ⟨hk, rfl, rfl, hR, hF⟩ := hp
    have h39 := (hF 38 (by omega)).trans h38
    refine V_i2lC C d_Law_span_8 ?_
    refine V_lastore C h39 (by omega) (by omega) (by decide) d_Law_span_9 ?_
    refine V_goto (tgt := 17) C d_Law_span_10 (by decide) ?_
    refine V_iconst C d_Law_span_17 rfl ?_
    exact V_ireturn C d_Law_span_18 (Nat.le_refl _) (Nat.le_refl _) (wR_ok hk rfl hR hF ⟨rfl, rfl⟩)
  · obtain ⟨hk, hn, hR, hF⟩ := hp
    obtain ⟨hk, rfl⟩ := hk
    refine VT_catch C [] ⟨0, 10, 13, 21⟩ [] rfl (by decide) (fun z hz => absurd hz List.not_mem_nil) rfl (by decide) xl_I (fun a => ?_)
    refine V_astore C d_Law_span_13 (by decide) rfl ?_
    refine V_iconst C d_Law_span_15 rfl ?_
    exact V_ireturn C d_Law_span_16 (Nat.le_refl _) (Nat.le_refl _) (wR_no hk rfl (by omega) hn hR hF h38)
abbrev t_Law_digit (v : Vw) (p0 p1 p2 : Int) : Vw → Int → Prop := fun w z => w = v ∧ z = cI (aDg v p0 p1 p2)
theorem c_Law_digit (hl : yL l) (hv : OkV v) (A : AtX d b x h) (O : OkX x v) (h38 : h 38 = some (oJ d 1 G)) {p0 p1 p2 : Int} (i0 : inI p0) (i1 : inI p1) (i2 : inI p2) :
    yMW l y_Law_digit b_Law_digit 6 (some .int) [(0, 12, 15, 21)] 9 200 64 512 d b n h [.ref (b + 0), vi p0, vi p1, vi p2, .ref (b + 38)] (wR d b n h v (kDg v p0 p1 p2) (t_Law_digit v p0 p1 p2)) noT := by
  refine yM_ofW hl (by decide +kernel) (Nat.le_of_ble_eq_true rfl) (fun p e s m args below meth c C => ?_)
  refine V_aload C d_Law_digit_0 rfl ?_
  refine V_iconst C d_Law_digit_2 rfl ?_
  refine V_aload_n C d_Law_digit_3 rfl rfl ?_
  refine V_iload_n C d_Law_digit_4 rfl rfl ?_
  refine V_iload_n C d_Law_digit_5 rfl rfl ?_
  refine V_iload_n C d_Law_digit_6 rfl rfl ?_
  refine V_callV C (c_Yf_digit hl hv A O i0 i1 i2) wc_Yf_digit w_Law_digit_7 np_Yf_digit (by decide) A.o rfl rfl (Nat.le_of_ble_eq_true rfl) d_Law_digit_7 (fun v n1 h1 hp => ?_) (fun Cx n1 h1 hp => ?_)
  · obtain ⟨hk, rfl, rfl, hR, hF⟩ := hp
    have h39 := (hF 38 (by omega)).trans h38
    refine V_i2lC C d_Law_digit_10 ?_
    refine V_lastore C h39 (by omega) (by omega) (by decide) d_Law_digit_11 ?_
    refine V_goto (tgt := 19) C d_Law_digit_12 (by decide) ?_
    refine V_iconst C d_Law_digit_19 rfl ?_
    exact V_ireturn C d_Law_digit_20 (Nat.le_refl _) (Nat.le_refl _) (wR_ok hk rfl hR hF ⟨rfl, rfl⟩)
  · obtain ⟨hk, hn, hR, hF⟩ := hp
    obtain ⟨hk, rfl⟩ := hk
    refine VT_catch C [] ⟨0, 12, 15, 21⟩ [] rfl (by decide) (fun z hz => absurd hz List.not_mem_nil) rfl (by decide) xl_I (fun a => ?_)
    refine V_astore C d_Law_digit_15 (by decide) rfl ?_
    refine V_iconst C d_Law_digit_17 rfl ?_
    exact V_ireturn C d_Law_digit_18 (Nat.le_refl _) (Nat.le_refl _) (wR_no hk rfl (by omega) hn hR hF h38)
abbrev t_Law_total (v : Vw) (p0 p1 : Int) : Vw → Int → Prop := fun w z => w = v ∧ z = cI (aTo v p0 p1)
theorem c_Law_total (hl : yL l) (hv : OkV v) (A : AtX d b x h) (O : OkX x v) (h38 : h 38 = some (oJ d 1 G)) {p0 p1 : Int} (i0 : inI p0) (i1 : inI p1) :
    yMW l y_Law_total b_Law_total 5 (some .int) [(0, 10, 13, 21)] 9 200 64 512 d b n h [.ref (b + 0), vi p0, vi p1, .ref (b + 38)] (wR d b n h v (kTo v p0 p1) (t_Law_total v p0 p1)) noT := by
  refine yM_ofW hl (by decide +kernel) (Nat.le_of_ble_eq_true rfl) (fun p e s m args below meth c C => ?_)
  refine V_aload_n C d_Law_total_0 rfl rfl ?_
  refine V_iconst C d_Law_total_1 rfl ?_
  refine V_aload_n C d_Law_total_2 rfl rfl ?_
  refine V_iload_n C d_Law_total_3 rfl rfl ?_
  refine V_iload_n C d_Law_total_4 rfl rfl ?_
  refine V_callV C (c_Yf_total hl hv A O i0 i1) wc_Yf_total w_Law_total_5 np_Yf_total (by decide) A.o rfl rfl (Nat.le_of_ble_eq_true rfl) d_Law_total_5 (fun v n1 h1 hp => ?_) (fun Cx n1 h1 hp => ?_)
  · obtain ⟨hk, rfl, rfl, hR, hF⟩ := hp
    have h39 := (hF 38 (by omega)).trans h38
    refine V_i2lC C d_Law_total_8 ?_
    refine V_lastore C h39 (by omega) (by omega) (by decide) d_Law_total_9 ?_
    refine V_goto (tgt := 17) C d_Law_total_10 (by decide) ?_
    refine V_iconst C d_Law_total_17 rfl ?_
    exact V_ireturn C d_Law_total_18 (Nat.le_refl _) (Nat.le_refl _) (wR_ok hk rfl hR hF ⟨rfl, rfl⟩)
  · obtain ⟨hk, hn, hR, hF⟩ := hp
    obtain ⟨hk, rfl⟩ := hk
    refine VT_catch C [] ⟨0, 10, 13, 21⟩ [] rfl (by decide) (fun z hz => absurd hz List.not_mem_nil) rfl (by decide) xl_I (fun a => ?_)
    refine V_astore C d_Law_total_13 (by decide) rfl ?_
    refine V_iconst C d_Law_total_15 rfl ?_
    exact V_ireturn C d_Law_total_16 (Nat.le_refl _) (Nat.le_refl _) (wR_no hk rfl (by omega) hn hR hF h38)
abbrev t_Law_compare (v : Vw) (p0 p1 p2 p3 : Int) : Vw → Int → Prop := fun w z => w = v ∧ z = cI (aCo v p0 p1 p2 p3)
theorem c_Law_compare (hl : yL l) (hv : OkV v) (A : AtX d b x h) (O : OkX x v) (h38 : h 38 = some (oJ d 1 G)) {p0 p1 p2 p3 : Int} (i0 : inI p0) (i1 : inI p1) (i2 : inI p2) (i3 : inI p3) :
    yMW l y_Law_compare b_Law_compare 7 (some .int) [(0, 14, 17, 21)] 9 200 64 512 d b n h [.ref (b + 0), vi p0, vi p1, vi p2, vi p3, .ref (b + 38)] (wR d b n h v (kCo v p0 p1 p2 p3) (t_Law_compare v p0 p1 p2 p3)) noT := by
  refine yM_ofW hl (by decide +kernel) (Nat.le_of_ble_eq_true rfl) (fun p e s m args below meth c C => ?_)
  refine V_aload C d_Law_compare_0 rfl ?_
  refine V_iconst C d_Law_compare_2 rfl ?_
  refine V_aload_n C d_Law_compare_3 rfl rfl ?_
  refine V_iload_n C d_Law_compare_4 rfl rfl ?_
  refine V_iload_n C d_Law_compare_5 rfl rfl ?_
  refine V_iload_n C d_Law_compare_6 rfl rfl ?_
  refine V_iload C d_Law_compare_7 rfl ?_
  refine V_callV C (c_Yf_compare hl hv A O i0 i1 i2 i3) wc_Yf_compare w_Law_compare_9 np_Yf_compare (by decide) A.o rfl rfl (Nat.le_of_ble_eq_true rfl) d_Law_compare_9 (fun v n1 h1 hp => ?_) (fun Cx n1 h1 hp => ?_)
  · obtain ⟨hk, rfl, rfl, hR, hF⟩ := hp
    have h39 := (hF 38 (by omega)).trans h38
    refine V_i2lC C d_Law_compare_12 ?_
    refine V_lastore C h39 (by omega) (by omega) (by decide) d_Law_compare_13 ?_
    refine V_goto (tgt := 21) C d_Law_compare_14 (by decide) ?_
    refine V_iconst C d_Law_compare_21 rfl ?_
    exact V_ireturn C d_Law_compare_22 (Nat.le_refl _) (Nat.le_refl _) (wR_ok hk rfl hR hF ⟨rfl, rfl⟩)
  · obtain ⟨hk, hn, hR, hF⟩ := hp
    obtain ⟨hk, rfl⟩ := hk
    refine VT_catch C [] ⟨0, 14, 17, 21⟩ [] rfl (by decide) (fun z hz => absurd hz List.not_mem_nil) rfl (by decide) xl_I (fun a => ?_)
    refine V_astore C d_Law_compare_17 (by decide) rfl ?_
    refine V_iconst C d_Law_compare_19 rfl ?_
    exact V_ireturn C d_Law_compare_20 (Nat.le_refl _) (Nat.le_refl _) (wR_no hk rfl (by omega) hn hR hF h38)
abbrev t_Law_about (v : Vw) (p0 p1 : Int) : Vw → Int → Prop := fun w z => w = v ∧ z = cI (aAb v p0 p1)
theorem c_Law_about (hl : yL l) (hv : OkV v) (A : AtX d b x h) (O : OkX x v) (h38 : h 38 = some (oJ d 1 G)) {p0 p1 : Int} (i0 : inI p0) (i1 : inI p1) :
    yMW l y_Law_about b_Law_about 5 (some .int) [(0, 10, 13, 21), (0, 10, 17, 15)] 9 200 64 512 d b n h [.ref (b + 0), vi p0, vi p1, .ref (b + 38)] (wR d b n h v (kAb v p0 p1) (t_Law_about v p0 p1)) noT := by
  refine yM_ofW hl (by decide +kernel) (Nat.le_of_ble_eq_true rfl) (fun p e s m args below meth c C => ?_)
  refine V_aload_n C d_Law_about_0 rfl rfl ?_
  refine V_iconst C d_Law_about_1 rfl ?_
  refine V_aload_n C d_Law_about_2 rfl rfl ?_
  refine V_iload_n C d_Law_about_3 rfl rfl ?_
  refine V_iload_n C d_Law_about_4 rfl rfl ?_
  refine V_callV C (c_Yf_about hl hv A O i0 i1) wc_Yf_about w_Law_about_5 np_Yf_about (by decide) A.o rfl rfl (Nat.le_of_ble_eq_true rfl) d_Law_about_5 (fun v n1 h1 hp => ?_) (fun Cx n1 h1 hp => ?_)
  · obtain ⟨hk, rfl, rfl, hR, hF⟩ := hp
    have h39 := (hF 38 (by omega)).trans h38
    refine V_i2lC C d_Law_about_8 ?_
    refine V_lastore C h39 (by omega) (by omega) (by decide) d_Law_about_9 ?_
    refine V_goto (tgt := 21) C d_Law_about_10 (by decide) ?_
    refine V_iconst C d_Law_about_21 rfl ?_
    exact V_ireturn C d_Law_about_22 (Nat.le_refl _) (Nat.le_refl _) (wR_ok hk rfl hR hF ⟨rfl, rfl⟩)
  · obtain ⟨hk, hn, hR, hF⟩ := hp
    rcases hk with ⟨hk, rfl⟩ | ⟨hk, rfl⟩
    · refine VT_catch C [] ⟨0, 10, 13, 21⟩ [⟨0, 10, 17, 15⟩] rfl (by decide) (fun z hz => absurd hz List.not_mem_nil) rfl (by decide) xl_I (fun a => ?_)
      refine V_astore C d_Law_about_13 (by decide) rfl ?_
      refine V_iconst C d_Law_about_15 rfl ?_
      exact V_ireturn C d_Law_about_16 (Nat.le_refl _) (Nat.le_refl _) (wR_no hk rfl (by omega) hn hR hF h38)
    · refine VT_catch C [⟨0, 10, 13, 21⟩] ⟨0, 10, 17, 15⟩ [] rfl (by decide) (List.forall_mem_cons.mpr ⟨⟨by decide, xnI, by decide, xl_I, by decide⟩, (fun z hz => absurd hz List.not_mem_nil)⟩) rfl (by decide) xl_A (fun a => ?_)
      refine V_astore C d_Law_about_17 (by decide) rfl ?_
      refine V_iconst C d_Law_about_19 rfl ?_
      exact V_ireturn C d_Law_about_20 (Nat.le_refl _) (Nat.le_refl _) (wR_no hk rfl (by omega) hn hR hF h38)
abbrev t_Law_over (v : Vw) (p0 p1 : Int) : Vw → Int → Prop := fun w z => w = v ∧ z = p0.tdiv p1
theorem c_Law_over (hl : yL l) (hv : OkV v) (A : AtX d b x h) (O : OkX x v) (h38 : h 38 = some (oJ d 1 G)) {p0 p1 : Int} (i0 : inJ p0) (i1 : inJ p1) :
    yMW l y_Law_over b_Law_over 7 (some .int) [(0, 10, 13, 26)] 9 200 64 512 d b n h [.ref (b + 0), vj p0, vj p1, .ref (b + 38)] (wR d b n h v (kOv p1) (t_Law_over v p0 p1)) noT := by
  refine yM_ofW hl (by decide +kernel) (Nat.le_of_ble_eq_true rfl) (fun p e s m args below meth c C => ?_)
  refine V_aload C d_Law_over_0 rfl ?_
  refine V_iconst C d_Law_over_2 rfl ?_
  refine V_aload_n C d_Law_over_3 rfl rfl ?_
  refine V_lload_n C d_Law_over_4 rfl rfl ?_
  refine V_lload_n C d_Law_over_5 rfl rfl ?_
  refine V_callV C (c_Yf_over hl hv A O i0 i1) wc_Yf_over w_Law_over_6 np_Yf_over (by decide) A.o rfl rfl (Nat.le_of_ble_eq_true rfl) d_Law_over_6 (fun v n1 h1 hp => ?_) (fun Cx n1 h1 hp => ?_)
  · obtain ⟨hk, rfl, rfl, hR, hF⟩ := hp
    have h39 := (hF 38 (by omega)).trans h38
    refine V_lastore C h39 (by omega) (by omega) (by decide) d_Law_over_9 ?_
    refine V_goto (tgt := 17) C d_Law_over_10 (by decide) ?_
    refine V_iconst C d_Law_over_17 rfl ?_
    exact V_ireturn C d_Law_over_18 (Nat.le_refl _) (Nat.le_refl _) (wR_ok hk rfl hR hF ⟨rfl, rfl⟩)
  · obtain ⟨hk, hn, hR, hF⟩ := hp
    obtain ⟨hk, rfl⟩ := hk
    refine VT_catch C [] ⟨0, 10, 13, 26⟩ [] rfl (by decide) (fun z hz => absurd hz List.not_mem_nil) rfl (by decide) xl_M (fun a => ?_)
    refine V_astore C d_Law_over_13 (by decide) rfl ?_
    refine V_iconst C d_Law_over_15 rfl ?_
    exact V_ireturn C d_Law_over_16 (Nat.le_refl _) (Nat.le_refl _) (wR_no hk rfl (by omega) hn hR hF h38)
abbrev t_Law_day (v : Vw) (p0 p1 p2 p3 : Int) : Vw → Int → Prop := fun w z => w = v ∧ z = cI (aDay p0 p1 p2 p3)
theorem c_Law_day (hl : yL l) (hv : OkV v) (A : AtX d b x h) (O : OkX x v) (h38 : h 38 = some (oJ d 1 G)) {p0 p1 p2 p3 : Int} (i0 : inI p0) (i1 : inI p1) (i2 : inI p2) (i3 : inI p3) :
    yMW l y_Law_day b_Law_day 7 (some .int) [(0, 14, 17, 21), (0, 14, 21, 15)] 9 200 64 512 d b n h [.ref (b + 0), vi p0, vi p1, vi p2, vi p3, .ref (b + 38)] (wR d b n h v (kDay p0 p1 p2 p3) (t_Law_day v p0 p1 p2 p3)) noT := by
  refine yM_ofW hl (by decide +kernel) (Nat.le_of_ble_eq_true rfl) (fun p e s m args below meth c C => ?_)
  refine V_aload C d_Law_day_0 rfl ?_
  refine V_iconst C d_Law_day_2 rfl ?_
  refine V_aload_n C d_Law_day_3 rfl rfl ?_
  refine V_iload_n C d_Law_day_4 rfl rfl ?_
  refine V_iload_n C d_Law_day_5 rfl rfl ?_
  refine V_iload_n C d_Law_day_6 rfl rfl ?_
  refine V_iload C d_Law_day_7 rfl ?_
  refine V_callV C (c_Yf_day hl hv A O i0 i1 i2 i3) wc_Yf_day w_Law_day_9 np_Yf_day (by decide) A.o rfl rfl (Nat.le_of_ble_eq_true rfl) d_Law_day_9 (fun v n1 h1 hp => ?_) (fun Cx n1 h1 hp => ?_)
  · obtain ⟨hk, rfl, rfl, hR, hF⟩ := hp
    have h39 := (hF 38 (by omega)).trans h38
    refine V_i2lC C d_Law_day_12 ?_
    refine V_lastore C h39 (by omega) (by omega) (by decide) d_Law_day_13 ?_
    refine V_goto (tgt := 25) C d_Law_day_14 (by decide) ?_
    refine V_iconst C d_Law_day_25 rfl ?_
    exact V_ireturn C d_Law_day_26 (Nat.le_refl _) (Nat.le_refl _) (wR_ok hk rfl hR hF ⟨rfl, rfl⟩)
  · obtain ⟨hk, hn, hR, hF⟩ := hp
    rcases hk with ⟨hk, rfl⟩ | ⟨hk, rfl⟩
    · refine VT_catch C [] ⟨0, 14, 17, 21⟩ [⟨0, 14, 21, 15⟩] rfl (by decide) (fun z hz => absurd hz List.not_mem_nil) rfl (by decide) xl_I (fun a => ?_)
      refine V_astore C d_Law_day_17 (by decide) rfl ?_
      refine V_iconst C d_Law_day_19 rfl ?_
      exact V_ireturn C d_Law_day_20 (Nat.le_refl _) (Nat.le_refl _) (wR_no hk rfl (by omega) hn hR hF h38)
    · refine VT_catch C [⟨0, 14, 17, 21⟩] ⟨0, 14, 21, 15⟩ [] rfl (by decide) (List.forall_mem_cons.mpr ⟨⟨by decide, xnI, by decide, xl_I, by decide⟩, (fun z hz => absurd hz List.not_mem_nil)⟩) rfl (by decide) xl_A (fun a => ?_)
      refine V_astore C d_Law_day_21 (by decide) rfl ?_
      refine V_iconst C d_Law_day_23 rfl ?_
      exact V_ireturn C d_Law_day_24 (Nat.le_refl _) (Nat.le_refl _) (wR_no hk rfl (by omega) hn hR hF h38)
abbrev t_Law_date (v : Vw) (p0 p1 p2 : Int) : Vw → Int → Prop := fun w z => w = v ∧ ∃ a, aDt p0 p1 p2 a ∧ z = cI a
theorem c_Law_date (hl : yL l) (hv : OkV v) (A : AtX d b x h) (O : OkX x v) (h38 : h 38 = some (oJ d 1 G)) {p0 p1 p2 : Int} (i0 : inI p0) (i1 : inI p1) (i2 : inI p2) :
    yMW l y_Law_date b_Law_date 6 (some .int) [(0, 12, 15, 21), (0, 12, 19, 15)] 9 200 64 512 d b n h [.ref (b + 0), vi p0, vi p1, vi p2, .ref (b + 38)] (wR d b n h v (kDt p0 p1 p2) (t_Law_date v p0 p1 p2)) noT := by
  refine yM_ofW hl (by decide +kernel) (Nat.le_of_ble_eq_true rfl) (fun p e s m args below meth c C => ?_)
  refine V_aload C d_Law_date_0 rfl ?_
  refine V_iconst C d_Law_date_2 rfl ?_
  refine V_aload_n C d_Law_date_3 rfl rfl ?_
  refine V_iload_n C d_Law_date_4 rfl rfl ?_
  refine V_iload_n C d_Law_date_5 rfl rfl ?_
  refine V_iload_n C d_Law_date_6 rfl rfl ?_
  refine V_callV C (c_Yf_date hl hv A O i0 i1 i2) wc_Yf_date w_Law_date_7 np_Yf_date (by decide) A.o rfl rfl (Nat.le_of_ble_eq_true rfl) d_Law_date_7 (fun v n1 h1 hp => ?_) (fun Cx n1 h1 hp => ?_)
  · obtain ⟨hk, rfl, ⟨a9, rfl, ha9⟩, hR, hF⟩ := hp
    have h39 := (hF 38 (by omega)).trans h38
    refine V_i2lC C d_Law_date_10 ?_
    refine V_lastore C h39 (by omega) (by omega) (by decide) d_Law_date_11 ?_
    refine V_goto (tgt := 23) C d_Law_date_12 (by decide) ?_
    refine V_iconst C d_Law_date_23 rfl ?_
    exact V_ireturn C d_Law_date_24 (Nat.le_refl _) (Nat.le_refl _) (wR_ok hk rfl hR hF ⟨rfl, a9, ha9, rfl⟩)
  · obtain ⟨hk, hn, hR, hF⟩ := hp
    rcases hk with ⟨hk, rfl⟩ | ⟨hk, rfl⟩
    · refine VT_catch C [] ⟨0, 12, 15, 21⟩ [⟨0, 12, 19, 15⟩] rfl (by decide) (fun z hz => absurd hz List.not_mem_nil) rfl (by decide) xl_I (fun a => ?_)
      refine V_astore C d_Law_date_15 (by decide) rfl ?_
      refine V_iconst C d_Law_date_17 rfl ?_
      exact V_ireturn C d_Law_date_18 (Nat.le_refl _) (Nat.le_refl _) (wR_no hk rfl (by omega) hn hR hF h38)
    · refine VT_catch C [⟨0, 12, 15, 21⟩] ⟨0, 12, 19, 15⟩ [] rfl (by decide) (List.forall_mem_cons.mpr ⟨⟨by decide, xnI, by decide, xl_I, by decide⟩, (fun z hz => absurd hz List.not_mem_nil)⟩) rfl (by decide) xl_A (fun a => ?_)
      refine V_astore C d_Law_date_19 (by decide) rfl ?_
      refine V_iconst C d_Law_date_21 rfl ?_
      exact V_ireturn C d_Law_date_22 (Nat.le_refl _) (Nat.le_refl _) (wR_no hk rfl (by omega) hn hR hF h38)
end LWrap
