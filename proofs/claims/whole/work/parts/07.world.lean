/-! WHAT STANDS THROUGHOUT THE RUN, beside the words yW: words that are kept in another way, texts, static tables -/
abbrev yD : Type := va_G × (Nat → ClassId) × (Nat → Nat)
def yT (d : yD) : List (ClassId × FieldType) := [(d.2.1 0, .int), (d.2.1 1, .long), (d.2.1 2, .boolean), (d.2.1 3, .object "YearFractions$Row")]
def yL (l : Launch) : Prop := l.stackTraces = false
def yNk : Cond → Bool
  | .fieldLinkNest .. | .methodLinkNest .. | .castable .. | .declares _ => true
  | _ => false
def yNs : List Cond := lw_tbl.filter yNk
theorem yNs_of {w : Cond} (i : Nat) (h : lw_tbl[i]? = some w) (hg : yNk w = true) : w ∈ yNs := List.mem_filter.mpr ⟨List.mem_of_getElem? h, hg⟩
theorem yNs_on {w : Cond} (h : w ∈ yNs) : w.onTables = true := by
  have h1 := (List.mem_filter.mp h).2
  cases w <;> first | rfl | (simp [yNk] at h1)
theorem yNs_warm {w : Cond} (h : w ∈ yNs) {s U : State} (hW : s.WarmedH U.vm) (hw : va_Nw w s) : va_Nw w U := by
  have h1 := (List.mem_filter.mp h).2
  cases w with
  | fieldLinkNest => exact va_Nw.warmF hW hw
  | methodLinkNest => exact va_Nw.warmM hW hw
  | castable => exact va_Nw.warmC hW hw
  | declares => exact va_Nw.warmD hW hw
  | _ => simp [yNk] at h1
def yStr : List (String × Nat × String) := [("YearFractions", 235, "there are eight rows"), ("YearFractions", 50, "a row has 1 to 48 years"), ("YearFractions", 55, "years are -9999 to 9999"), ("YearFractions", 225, "no such row"), ("YearFractions", 231, "the year is not in the row"), ("YearFractions", 69, "a weight is not below 0"), ("YearFractions", 105, "the sum would have more than 48 years"), ("YearFractions", 245, "a weight would be too great"), ("YearFractions", 116, "the unit is 1 to 1000000000"), ("YearFractions", 118, "the rows have no year together"), ("YearFractions", 129, "below is 1 to 1000000"), ("YearFractions", 131, "above is 0 to below"), ("YearFractions", 143, "all weights of the row are 0"), ("YearFractions", 163, "no such span"), ("YearFractions", 166, "a span's end is 0 or 1"), ("YearFractions", 238, "no such digit"), ("YearFractions", 186, "a row is asked for 0, 1 or 2"), ("YearFractions", 188, "nothing is divided by 0"), ("YearFractions", 240, "no such calendar"), ("YearFractions", 199, "no such month"), ("YearFractions", 205, "no such day"), ("YearFractions", 213, "a day is asked for 0, 1 or 2"), ("YearFractions", 217, "days are -4000000 to 4000000")]
def yTab : List (String × List Int) := [("MONTH_DAYS", [31, 28, 31, 30, 31, 30, 31, 31, 30, 31, 30, 31]), ("LUNAR_LEAPS", [2, 5, 7, 10, 13, 16, 18, 21, 24, 26, 29]), ("FIRST_DAY", [0, -2, 227014, -272788]), ("CYCLE_YEARS", [400, 4, 30, 1]), ("CYCLE_DAYS", [146097, 1461, 10631, 365])]
def yEx : List String := ["java/lang/IndexOutOfBoundsException", "java/lang/IllegalStateException", "java/lang/IllegalArgumentException", "java/lang/ArithmeticException"]
def yGt (d : yD) (b : Nat) (U : State) : Prop := ∀ (i : Nat) (q : String × List Int), yTab[i]? = some q → va_Z "YearFractions$Calendars" q.1 "[I" (.ref (d.2.2 i)) (fun q => b ≤ q) U U.heap ∧ va_T .int (d.2.2 i) q.2.length (fun j => vi (q.2.getD j 0)) (fun q => b ≤ q) U U.heap
def yG (d : yD) (b : Nat) (U : State) : Prop :=
  (∀ w ∈ yNs, va_Nw w U) ∧ (∀ q ∈ yStr, ∃ a, vk_R q.1 q.2.1 q.2.2 a U) ∧ yGt d b U ∧
  vx_Zq Bundle.tN "UNASSIGNED_STACK" Bundle.steD (fun q => b ≤ q) U U.heap ∧ vx_Zq Bundle.tN "SUPPRESSED_SENTINEL" Bundle.listD (fun q => b ≤ q) U U.heap ∧
  va_AO "YearFractions$Row" U ∧ ∀ E ∈ yEx, ∀ N ∈ yEx, E ≠ N → va_Nc E N U
theorem yNc_moved {C T : String} {u U : State} (hvm : u.vm.Alike U.vm) (h : va_Nc C T u) : va_Nc C T U := by
  obtain ⟨c, t, h1, h2, h3⟩ := h
  exact ⟨c, t, by rw [hvm.findClass]; exact h1, by rw [hvm.findClass]; exact h2, by rw [hvm.assignable]; exact h3⟩
theorem yG_to {d : yD} {b : Nat} {s U : State} (hW : s.WarmedH U.vm) (hq : ∀ q : Nat, q < s.heap.size → ¬ b ≤ q → U.heap[q]? = s.heap[q]?) (h : yG d b s) : yG d b U := by
  obtain ⟨h1, h2, h3, h4, h5, h6, h7⟩ := h
  refine ⟨fun w hw => yNs_warm hw hW (h1 w hw), fun q hq1 => ?_, fun i q hi => ⟨va_Z.moved hW.alike ((h3 i q hi).1.kept hq), va_T.moved hW.alike ((h3 i q hi).2.kept hq)⟩, vx_Zq.moved hW.alike (h4.kept hq), vx_Zq.moved hW.alike (h5.kept hq), va_AO.moved hW.alike h6, fun E hE N hN hne => yNc_moved hW.alike (h7 E hE N hN hne)⟩
  obtain ⟨a, ha⟩ := h2 q hq1
  exact ⟨a, ha.warm hW⟩
