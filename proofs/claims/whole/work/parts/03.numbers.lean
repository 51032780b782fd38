/-! NUMBERS: an int or a long by the whole number that it stands for -/
def iI (z : Int) : Int32 := Int32.ofInt z
def jI (z : Int) : Int64 := Int64.ofInt z
abbrev vi (z : Int) : Value := Value.int (iI z)
abbrev vj (z : Int) : Value := Value.long (jI z)
def inI (z : Int) : Prop := -2147483648 ≤ z ∧ z ≤ 2147483647
def inJ (z : Int) : Prop := -9223372036854775808 ≤ z ∧ z ≤ 9223372036854775807
theorem inI_of {z : Int} (h1 : -2147483648 ≤ z) (h2 : z ≤ 2147483647) : inI z := ⟨h1, h2⟩
theorem inJ_of {z : Int} (h1 : -9223372036854775808 ≤ z) (h2 : z ≤ 9223372036854775807) : inJ z := ⟨h1, h2⟩
theorem inI_J {z : Int} (h : inI z) : inJ z := ⟨by have := h.1; omega, by have := h.2; omega⟩
theorem inI_x (x : Int32) : inI x.toInt := ⟨by have := x.le_toInt; omega, by have := x.toInt_lt; omega⟩
theorem inJ_x (x : Int64) : inJ x.toInt := ⟨by have := x.le_toInt; omega, by have := x.toInt_lt; omega⟩
theorem iI_int {z : Int} (h : inI z) : (iI z).toInt = z := Int32.toInt_ofInt_of_le (by have := h.1; omega) (by have := h.2; omega)
theorem jI_int {z : Int} (h : inJ z) : (jI z).toInt = z := Int64.toInt_ofInt_of_le (by have := h.1; omega) (by have := h.2; omega)
theorem iI_eta (x : Int32) : iI x.toInt = x := Int32.ofInt_toInt x
theorem jI_eta (x : Int64) : jI x.toInt = x := Int64.ofInt_toInt x
theorem iI_add (a b : Int) : iI a + iI b = iI (a + b) := (Int32.ofInt_add a b).symm
theorem iI_sub (a b : Int) : iI a - iI b = iI (a - b) := (Int32.ofInt_sub a b).symm
theorem iI_mul (a b : Int) : iI a * iI b = iI (a * b) := (Int32.ofInt_mul a b).symm
theorem iI_neg (a : Int) : -iI a = iI (-a) := (Int32.ofInt_neg a).symm
theorem jI_add (a b : Int) : jI a + jI b = jI (a + b) := (Int64.ofInt_add a b).symm
theorem jI_sub (a b : Int) : jI a - jI b = jI (a - b) := (Int64.ofInt_sub a b).symm
theorem jI_mul (a b : Int) : jI a * jI b = jI (a * b) := (Int64.ofInt_mul a b).symm
theorem jI_neg (a : Int) : -jI a = jI (-a) := (Int64.ofInt_neg a).symm
theorem iI_le {a b : Int} (ha : inI a) (hb : inI b) : iI a ≤ iI b ↔ a ≤ b := by rw [Int32.le_iff_toInt_le, iI_int ha, iI_int hb]
theorem iI_lt {a b : Int} (ha : inI a) (hb : inI b) : iI a < iI b ↔ a < b := by rw [Int32.lt_iff_toInt_lt, iI_int ha, iI_int hb]
theorem iI_eq {a b : Int} (ha : inI a) (hb : inI b) : iI a = iI b ↔ a = b := by rw [← Int32.toInt_inj, iI_int ha, iI_int hb]
theorem jI_le {a b : Int} (ha : inJ a) (hb : inJ b) : jI a ≤ jI b ↔ a ≤ b := by rw [Int64.le_iff_toInt_le, jI_int ha, jI_int hb]
theorem jI_lt {a b : Int} (ha : inJ a) (hb : inJ b) : jI a < jI b ↔ a < b := by rw [Int64.lt_iff_toInt_lt, jI_int ha, jI_int hb]
theorem jI_eq {a b : Int} (ha : inJ a) (hb : inJ b) : jI a = jI b ↔ a = b := by rw [← Int64.toInt_inj, jI_int ha, jI_int hb]
theorem iI_0 : iI 0 = 0 := rfl
theorem iI_1 : iI 1 = 1 := rfl
theorem jI_0 : jI 0 = 0 := rfl
theorem jI_1 : jI 1 = 1 := rfl
theorem inI_0 : inI 0 := ⟨by omega, by omega⟩
theorem inJ_0 : inJ 0 := ⟨by omega, by omega⟩
theorem iI_in {z : Int} {n : Nat} (h0 : 0 ≤ z) (h1 : z < n) (hn : n < 2 ^ 31) : vp_in (iI z) n := by
  rw [vp_in_iff, iI_int ⟨by omega, by omega⟩]
  exact ⟨h0, h1⟩
theorem iI_cl {z : Int} (h : inI z) : (iI z).toNatClampNeg = z.toNat := by
  show (iI z).toInt.toNat = z.toNat
  rw [iI_int h]
theorem iI_nat (n : Nat) : Int32.ofNat n = iI n := Int32.ofInt_eq_ofNat.symm
theorem iI_div {a b : Int} (ha : inI a) (hb : inI b) : iI a / iI b = iI (a.tdiv b) :=
  (Int32.ofInt_tdiv (by rw [Int32.toInt_minValue]; have := ha.1; omega) (by rw [Int32.toInt_maxValue]; have := ha.2; omega) (by rw [Int32.toInt_minValue]; have := hb.1; omega) (by rw [Int32.toInt_maxValue]; have := hb.2; omega)).symm
theorem jI_div {a b : Int} (ha : inJ a) (hb : inJ b) : jI a / jI b = jI (a.tdiv b) :=
  (Int64.ofInt_tdiv (by rw [Int64.toInt_minValue]; have := ha.1; omega) (by rw [Int64.toInt_maxValue]; have := ha.2; omega) (by rw [Int64.toInt_minValue]; have := hb.1; omega) (by rw [Int64.toInt_maxValue]; have := hb.2; omega)).symm
theorem tmod_sub (a b : Int) : a - a.tdiv b * b = a.tmod b := by
  have h := Int.tdiv_mul_add_tmod a b
  omega
theorem iI_rem {a b : Int} (ha : inI a) (hb : inI b) : iI a - iI a / iI b * iI b = iI (a.tmod b) := by
  rw [iI_div ha hb, iI_mul, iI_sub, tmod_sub]
theorem jI_rem {a b : Int} (ha : inJ a) (hb : inJ b) : jI a - jI a / jI b * jI b = jI (a.tmod b) := by
  rw [jI_div ha hb, jI_mul, jI_sub, tmod_sub]
theorem iI_l {z : Int} (h : inI z) : (iI z).toInt64 = jI z := Int64.toInt_inj.mp (by rw [Int32.toInt_toInt64, iI_int h, jI_int (inI_J h)])
theorem jI_i (z : Int) : (jI z).toInt32 = iI z := Int64.toInt32_ofInt
/-! lists of locals: the first that is written at a place -/
def lk : List (Nat × Value) → Nat → Option Value
  | [], _ => none
  | (i, v) :: r, k => match Nat.beq i k with
    | true => some v
    | false => lk r k
theorem lk_mem {k : Nat} {v : Value} : ∀ {l : List (Nat × Value)}, lk l k = some v → (k, v) ∈ l
  | [], h => by cases h
  | (i, w) :: r, h => by
    unfold lk at h
    cases hb : Nat.beq i k with
    | true =>
      rw [hb] at h
      have hi : i = k := Nat.eq_of_beq_eq_true hb
      cases h
      rw [hi]
      exact List.mem_cons_self
    | false =>
      rw [hb] at h
      exact List.mem_cons_of_mem _ (lk_mem h)
theorem lk_has {ls : Array Slot} {nL : Nat} {l : List (Nat × Value)} (h : lv_has ls nL l) {k : Nat} {v : Value} (hk : lk l k = some v) : ls[k]? = some (.val v) := h.2.2 (k, v) (lk_mem hk)
def lsub : List (Nat × Value) → List (Nat × Value) → Prop
  | [], _ => True
  | (i, v) :: r, l => lk l i = some v ∧ lsub r l
theorem lsub_has {ls : Array Slot} {nL : Nat} {l : List (Nat × Value)} (h : lv_has ls nL l) : ∀ {l' : List (Nat × Value)}, lsub l' l → lv_has ls nL l' := by
  intro l' hs
  refine ⟨h.1, h.2.1, ?_⟩
  induction l' with
  | nil => intro q hq; cases hq
  | cons x r ih =>
    intro q hq
    obtain ⟨i, v⟩ := x
    rcases List.mem_cons.mp hq with e | e
    · rw [e]
      exact lk_has h hs.1
    · exact ih hs.2 q e
