/-! WHAT THE STATEMENT GIVES AT THE LAW'S ENTRY -/
abbrev gv_ : List Cond := flatC (Cond.and given_1 narrow_1)
theorem gT_ : ∀ q ∈ yTab, Cond.laysStatic "YearFractions$Calendars" q.1 "[I" ∈ lw_tbl ∧ Cond.arrayOf (.static "YearFractions$Calendars" q.1 "[I") .int ∈ gv_ ∧ Cond.eq (.length (.static "YearFractions$Calendars" q.1 "[I")) (.int (Int32.ofNat q.2.length)) ∈ gv_ ∧ q.2.length < 2 ^ 31 := by decide +kernel
theorem gE_ : ∀ q ∈ yTab, ∀ j, j < q.2.length → Cond.eq (.elem (.static "YearFractions$Calendars" q.1 "[I") (.int (Int32.ofNat j))) (.int (iI (q.2.getD j 0))) ∈ gv_ := by decide +kernel
theorem gI_ : Cond.initialized "YearFractions$Calendars" ∈ lw_tbl := by decide +kernel
theorem gS_ : ∀ q ∈ yStr, q.1 = "YearFractions" ∧ Cond.stringRef q.1 q.2.1 q.2.2 ∈ lw_tbl := by decide +kernel
theorem gN_ : ∀ E ∈ yEx, ∀ N ∈ yEx, E ≠ N → Cond.not (.castable E N) ∈ gv_ := by decide +kernel
theorem gU_ : Cond.laysStatic Bundle.tN "UNASSIGNED_STACK" Bundle.steD ∈ lw_tbl ∧ Cond.laysStatic Bundle.tN "SUPPRESSED_SENTINEL" Bundle.listD ∈ lw_tbl ∧ Cond.initialized Bundle.tN ∈ lw_tbl ∧ Cond.isRef (.static Bundle.tN "UNASSIGNED_STACK" Bundle.steD) ∈ gv_ ∧ Cond.isRef (.static Bundle.tN "SUPPRESSED_SENTINEL" Bundle.listD) ∈ gv_ := by decide +kernel
theorem gA_ : Cond.arrayOver (.object "YearFractions$Row") ∈ lw_tbl := by decide +kernel
theorem gC_ : Cond.instantiable R_Set 5 ∈ lw_tbl ∧ Cond.instantiable R_Row 3 ∈ lw_tbl ∧ Cond.instantiable R_Who 1 ∈ lw_tbl ∧ Cond.instantiable R_Yf 7 ∈ lw_tbl ∧ Cond.instantiable R_Mod 12 ∈ lw_tbl := by decide +kernel
section YStart
variable {s : State} {args : Array Value}
theorem st_tabs (hts : ∀ w ∈ lw_tbl, w.before args s = true) (hgv : (Cond.and given_1 narrow_1).before args s = true) : ∃ ad : Nat → Nat, ∀ (i : Nat) (q : String × List Int), yTab[i]? = some q → va_Z "YearFractions$Calendars" q.1 "[I" (.ref (ad i)) (fun q => s.heap.size ≤ q) s s.heap ∧ va_T .int (ad i) q.2.length (fun j => vi (q.2.getD j 0)) (fun q => s.heap.size ≤ q) s s.heap := by
  have hg := flat_of_before _ hgv
  have hA : ∀ a : Nat, a < s.heap.size → ¬ (fun q => s.heap.size ≤ q) a := fun a h1 h2 => absurd h2 (by show ¬ s.heap.size ≤ a; omega)
  have h : ∀ i : Nat, ∃ t : Nat, ∀ q, yTab[i]? = some q → va_Z "YearFractions$Calendars" q.1 "[I" (.ref t) (fun q => s.heap.size ≤ q) s s.heap ∧ va_T .int t q.2.length (fun j => vi (q.2.getD j 0)) (fun q => s.heap.size ≤ q) s s.heap := by
    intro i
    cases hq : yTab[i]? with
    | none => exact ⟨0, fun q h => by cases h⟩
    | some q =>
      obtain ⟨g1, g2, g3, g4⟩ := gT_ q (List.mem_of_getElem? hq)
      obtain ⟨t, ht, hT⟩ := va_Tof (f := fun j => vi (q.2.getD j 0)) (A := fun q => s.heap.size ≤ q) g4 (hg _ g2) (va_eqt (hg _ g3)) (fun j hj => va_eqt (hg _ (gE_ q (List.mem_of_getElem? hq) j hj))) hA
      refine ⟨t, fun q' h => ?_⟩
      cases h
      exact ⟨va_Zref (hts _ g1) (hts _ gI_) ht hA, hT⟩
  exact ⟨fun i => Classical.choose (h i), fun i q hq => Classical.choose_spec (h i) q hq⟩
theorem st_arr {ty : FieldType} (hty : (Cond.arrayClass ty).before args s = true) : ∃ cA, ArrOfT s cA ty ∧ s.vm.findClass ("[" ++ ty.toString) = some cA := by
  obtain ⟨cA, kA, comp, h1, h2, h3⟩ := Cond.arrayClass_spec hty
  exact ⟨cA, fun n z => ⟨fun k h => (by cases h), kA, h2, comp, h3⟩, h1⟩
theorem st_all (hts : ∀ w ∈ lw_tbl, w.before args s = true) (hgv : (Cond.and given_1 narrow_1).before args s = true) : ∃ d : yD, va_K d.1 vwCl (yT d) s ∧ yG d s.heap.size s := by
  have hg := flat_of_before _ hgv
  have hA : ∀ a : Nat, a < s.heap.size → ¬ (fun q => s.heap.size ≤ q) a := fun a h1 h2 => absurd h2 (by show ¬ s.heap.size ≤ a; omega)
  have htW : ∀ w ∈ yW, w.before args s = true := fun w hw => hts w (yW_tbl hw)
  obtain ⟨g1, g2, g3, g4, g5⟩ := gC_
  obtain ⟨c0, i0, K0⟩ := u_known htW in_Set (hts _ g1)
  obtain ⟨c1, i1, K1⟩ := u_known htW in_Row (hts _ g2)
  obtain ⟨c2, i2, K2⟩ := u_known htW in_Who (hts _ g3)
  obtain ⟨c3, i3, K3⟩ := u_known htW in_Yf (hts _ g4)
  obtain ⟨c4, i4, K4⟩ := u_known htW in_Mod (hts _ g5)
  obtain ⟨aI, f0, f1⟩ := st_arr (htW _ wa_I)
  obtain ⟨aJ, f2, f3⟩ := st_arr (htW _ wa_J)
  obtain ⟨aZ, f4, f5⟩ := st_arr (htW _ wa_Z)
  obtain ⟨comp, aR, kR, r1, -, r3, r4, r5⟩ := Cond.arrayOver_spec (hts _ gA_)
  obtain ⟨ad, had⟩ := st_tabs hts hgv
  refine ⟨((fun k => if k = 0 then c0 else if k = 1 then c1 else if k = 2 then c2 else if k = 3 then c3 else c4, fun k => if k = 0 then i0 else if k = 1 then i1 else if k = 2 then i2 else if k = 3 then i3 else i4), (fun k => if k = 0 then aI else if k = 1 then aJ else if k = 2 then aZ else aR), ad), ⟨?_, ?_⟩, fun w hw => va_Nw.of (yNs_on hw) (hts w (List.mem_filter.mp hw).1), fun q hq => ?_, had, ?_, ?_, va_AO.of (hts _ gA_), fun E hE N hN hne => va_Nc.of (hg _ (gN_ E hE N hN hne))⟩
  · intro k q hq
    match k, hq with
    | 0, hq => cases hq; exact K0
    | 1, hq => cases hq; exact K1
    | 2, hq => cases hq; exact K2
    | 3, hq => cases hq; exact K3
    | 4, hq => cases hq; exact K4
    | k + 5, hq => simp at hq
  · intro k q hq
    match k, hq with
    | 0, hq => cases hq; exact ⟨f0, f1⟩
    | 1, hq => cases hq; exact ⟨f2, f3⟩
    | 2, hq => cases hq; exact ⟨f4, f5⟩
    | 3, hq => cases hq; exact ⟨fun n z => ⟨fun k h => (by cases h), kR, r3, comp, r4⟩, kR, comp, r3, r4, r1, r5⟩
    | k + 4, hq => simp [yT] at hq
  · obtain ⟨e1, e2⟩ := gS_ q hq
    obtain ⟨k, cf, i, a, -, -, -, -, -, h6⟩ := Cond.stringRef_spec (cur := c3) (by rw [e1]; exact K3.2.1) (hts _ e2)
    exact ⟨a, vk_R.of (hts _ e2) h6⟩
  · exact vx_Zqof (hts _ gU_.1) (hts _ gU_.2.2.1) (hg _ gU_.2.2.2.1) hA
  · exact vx_Zqof (hts _ gU_.2.1) (hts _ gU_.2.2.1) (hg _ gU_.2.2.2.2) hA
end YStart
