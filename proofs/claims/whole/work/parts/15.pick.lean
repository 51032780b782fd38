/-! THE LEAST SET: years by weight, of equal ones the earlier first -/
def bf (W : Nat → Int) (x z : Nat) : Prop := W z < W x ∨ (W x = W z ∧ x < z)
theorem bf_trans {W : Nat → Int} {x y z : Nat} (h1 : bf W x y) (h2 : bf W y z) : bf W x z := by
  unfold bf at *
  omega
theorem bf_ne {W : Nat → Int} {x y : Nat} (h : bf W x y) : x ≠ y := fun q => by
  subst q
  unfold bf at h
  omega
theorem bf_asym {W : Nat → Int} {x y : Nat} (h : bf W x y) (h2 : bf W y x) : False := by
  unfold bf at *
  omega
/-- a row of places 0 .. p - 1 in their order -/
def rkOk (W : Nat → Int) (c : Nat → Nat) (p : Nat) : Prop := (∀ i, i < p → c i < p) ∧ (∀ i j, i < j → j < p → bf W (c i) (c j)) ∧ ∀ x, x < p → ∃ j, j < p ∧ c j = x
def insC (c : Nat → Nat) (a p : Nat) : Nat → Nat := fun i => if i < a then c i else if i = a then p else c (i - 1)
theorem ins_ok {W : Nat → Int} {c : Nat → Nat} {p a : Nat} (h : rkOk W c p) (ha : a ≤ p) (h1 : ∀ i, a ≤ i → i < p → W (c i) < W p) (h2 : 0 < a → ¬ W (c (a - 1)) < W p) : rkOk W (insC c a p) (p + 1) := by
  obtain ⟨k1, k2, k3⟩ := h
  have low : ∀ i, i < a → bf W (c i) p := fun i hi => by
    have e1 : c i < p := k1 i (by omega)
    have e2 : ¬ W (c (a - 1)) < W p := h2 (by omega)
    by_cases e3 : i = a - 1
    · rw [e3] at e1 ⊢
      unfold bf
      omega
    · have e4 := k2 i (a - 1) (by omega) (by omega)
      unfold bf at e4 ⊢
      omega
  refine ⟨fun i hi => ?_, fun i j hij hj => ?_, fun x hx => ?_⟩
  · unfold insC
    by_cases e1 : i < a
    · rw [if_pos e1]; have := k1 i (by omega); omega
    · rw [if_neg e1]
      by_cases e2 : i = a
      · rw [if_pos e2]; omega
      · rw [if_neg e2]; have := k1 (i - 1) (by omega); omega
  · unfold insC
    by_cases e1 : j < a
    · rw [if_pos e1, if_pos (by omega)]; exact k2 i j hij (by omega)
    · rw [if_neg e1]
      by_cases e2 : j = a
      · rw [if_pos e2, if_pos (by omega)]; exact low i (by omega)
      · rw [if_neg e2]
        by_cases e3 : i < a
        · rw [if_pos e3]
          have e4 := h1 (j - 1) (by omega) (by omega)
          have e5 := low i e3
          unfold bf at e5 ⊢
          omega
        · rw [if_neg e3]
          by_cases e4 : i = a
          · rw [if_pos e4]; exact Or.inl (h1 (j - 1) (by omega) (by omega))
          · rw [if_neg e4]; exact k2 (i - 1) (j - 1) (by omega) (by omega)
  · by_cases e1 : x = p
    · exact ⟨a, by omega, by unfold insC; rw [if_neg (by omega), if_pos rfl]; exact e1.symm⟩
    · obtain ⟨j, j1, j2⟩ := k3 x (by omega)
      by_cases e2 : j < a
      · exact ⟨j, by omega, by unfold insC; rw [if_pos e2]; exact j2⟩
      · exact ⟨j + 1, by omega, by unfold insC; rw [if_neg (by omega), if_neg (by omega)]; exact j2⟩
/-- which place is taken next: the one that a walk from the first to the last finds (none: m itself) -/
def pkL (W : Nat → Int) (S : Nat → Bool) : Nat → Option Nat
  | 0 => none
  | k + 1 => match pkL W S k with
    | none => if S k = false then some k else none
    | some x => if S k = false ∧ W x < W k then some k else some x
theorem pkL_in {W : Nat → Int} {S : Nat → Bool} : ∀ k x, pkL W S k = some x → x < k ∧ S x = false ∧ ∀ z, z < k → S z = false → z ≠ x → bf W x z
  | 0, x, h => by cases h
  | k + 1, x, h => by
    unfold pkL at h
    cases hp : pkL W S k with
    | none =>
      rw [hp] at h
      by_cases e1 : S k = false
      · simp only [e1, if_true] at h
        cases h
        refine ⟨by omega, e1, fun z hz hS hn => ?_⟩
        exfalso
        exact pkL_none k hp z (by omega) hS
      · simp only [e1] at h
        cases h
    | some y =>
      rw [hp] at h
      obtain ⟨i1, i2, i3⟩ := pkL_in k y hp
      by_cases e1 : S k = false ∧ W y < W k
      · simp only [e1, if_true] at h
        simp at h
        subst h
        refine ⟨by omega, e1.1, fun z hz hS hn => ?_⟩
        by_cases e2 : z = y
        · rw [e2]; exact Or.inl e1.2
        · have := i3 z (by omega) hS e2
          unfold bf at this ⊢
          omega
      · simp only [e1, if_false] at h
        cases h
        refine ⟨by omega, i2, fun z hz hS hn => ?_⟩
        by_cases e2 : z = k
        · subst e2
          have : ¬ W x < W z := fun q => e1 ⟨hS, q⟩
          unfold bf
          omega
        · exact i3 z (by omega) hS hn
where
  pkL_none {W : Nat → Int} {S : Nat → Bool} : ∀ k, pkL W S k = none → ∀ z, z < k → S z = false → False
    | 0, _, z, hz, _ => by omega
    | k + 1, h, z, hz, hS => by
      unfold pkL at h
      cases hp : pkL W S k with
      | none =>
        rw [hp] at h
        by_cases e1 : S k = false
        · simp [e1] at h
        · by_cases e2 : z = k
          · rw [e2] at hS; exact e1 hS
          · exact pkL_none k hp z (by omega) hS
      | some y =>
        rw [hp] at h
        by_cases e1 : S k = false ∧ W y < W k
        · simp [e1] at h
        · simp [e1] at h
/-- the places that are taken after r steps -/
def selS (W : Nat → Int) (m : Nat) : Nat → Nat → Bool
  | 0 => fun _ => false
  | r + 1 => fun x => selS W m r x || (pkL W (selS W m r) m == some x)
theorem pkL_find {W : Nat → Int} {S : Nat → Bool} {m x : Nat} (hx : x < m) (hS : S x = false) (hm : ∀ z, z < m → S z = false → z ≠ x → bf W x z) : pkL W S m = some x := by
  cases hp : pkL W S m with
  | none => exact (pkL_in.pkL_none m hp x hx hS).elim
  | some y =>
    obtain ⟨i1, i2, i3⟩ := pkL_in m y hp
    by_cases e1 : x = y
    · rw [e1]
    · exact (bf_asym (hm y i1 i2 (fun q => e1 q.symm)) (i3 x hx hS e1)).elim
theorem rk_inj {W : Nat → Int} {c : Nat → Nat} {m i j : Nat} (h : rkOk W c m) (hi : i < m) (hj : j < m) (e : c i = c j) : i = j := by
  rcases (show i < j ∨ i = j ∨ j < i by omega) with q | q | q
  · exact (bf_ne (h.2.1 i j q hj) e).elim
  · exact q
  · exact (bf_ne (h.2.1 j i q hi) e.symm).elim
theorem sel_rk {W : Nat → Int} {c : Nat → Nat} {m : Nat} (h : rkOk W c m) : ∀ r, r ≤ m → (∀ x, selS W m r x = true ↔ ∃ i, i < r ∧ c i = x) ∧ (r < m → pkL W (selS W m r) m = some (c r))
  | 0, _ => by
    have h0 : ∀ x, selS W m 0 x = true ↔ ∃ i, i < 0 ∧ c i = x := fun x => ⟨fun q => (by cases q), fun ⟨i, hi, _⟩ => (by omega)⟩
    refine ⟨h0, fun hm => pkL_find (h.1 0 hm) rfl (fun z hz _ hn => ?_)⟩
    obtain ⟨j, j1, j2⟩ := h.2.2 z hz
    rw [← j2]
    exact h.2.1 0 j (by rcases (show j = 0 ∨ 0 < j by omega) with q | q; · rw [q] at j2; exact absurd j2.symm hn
                        · exact q) j1
  | r + 1, hr => by
    obtain ⟨h1, h2⟩ := sel_rk h r (by omega)
    have h3 := h2 (by omega)
    have hk : ∀ x, selS W m (r + 1) x = true ↔ ∃ i, i < r + 1 ∧ c i = x := fun x => by
      show (selS W m r x || (pkL W (selS W m r) m == some x)) = true ↔ _
      rw [Bool.or_eq_true, h1, h3, beq_iff_eq]
      constructor
      · rintro (⟨i, i1, i2⟩ | q)
        · exact ⟨i, by omega, i2⟩
        · exact ⟨r, by omega, Option.some.inj q⟩
      · rintro ⟨i, i1, i2⟩
        by_cases e1 : i = r
        · rw [e1] at i2; exact Or.inr (by rw [i2])
        · exact Or.inl ⟨i, by omega, i2⟩
    refine ⟨hk, fun hm => pkL_find (h.1 (r + 1) hm) ?_ (fun z hz hS hn => ?_)⟩
    · cases hq : selS W m (r + 1) (c (r + 1)) with
      | false => rfl
      | true =>
        obtain ⟨i, i1, i2⟩ := (hk _).mp hq
        have := rk_inj h (by omega) hm i2
        omega
    · obtain ⟨j, j1, j2⟩ := h.2.2 z hz
      rw [← j2]
      refine h.2.1 (r + 1) j ?_ j1
      rcases (show j < r + 1 ∨ j = r + 1 ∨ r + 1 < j by omega) with q | q | q
      · have : selS W m (r + 1) z = true := (hk z).mpr ⟨j, q, j2⟩
        rw [this] at hS
        cases hS
      · rw [q] at j2; exact absurd j2.symm hn
      · exact q
/-- all weights, and those of the taken places -/
def sumW (W : Nat → Int) : Nat → Int
  | 0 => 0
  | k + 1 => sumW W k + W k
def sumS (W : Nat → Int) (S : Nat → Bool) : Nat → Int
  | 0 => 0
  | k + 1 => sumS W S k + (if S k = true then W k else 0)
theorem sumS_congr {W : Nat → Int} {S S' : Nat → Bool} : ∀ {k}, (∀ x, x < k → S x = S' x) → sumS W S k = sumS W S' k
  | 0, _ => rfl
  | k + 1, h => by
    show sumS W S k + _ = sumS W S' k + _
    rw [sumS_congr (fun x hx => h x (by omega)), h k (by omega)]
theorem sumS_in {W : Nat → Int} {S : Nat → Bool} {B : Int} : ∀ {k : Nat}, (∀ x, x < k → 0 ≤ W x ∧ W x < B) → 0 ≤ sumS W S k ∧ sumS W S k ≤ k * B
  | 0, _ => by show (0 : Int) ≤ 0 ∧ (0 : Int) ≤ ((0 : Nat) : Int) * B; omega
  | k + 1, h => by
    have ih := sumS_in (S := S) (B := B) (k := k) (fun x hx => h x (by omega))
    have h1 := h k (by omega)
    show 0 ≤ sumS W S k + (if S k = true then W k else 0) ∧ sumS W S k + (if S k = true then W k else 0) ≤ ((k + 1 : Nat) : Int) * B
    rw [show ((k + 1 : Nat) : Int) = (k : Int) + 1 by omega, Int.add_mul]
    split <;> omega
theorem sumW_in {W : Nat → Int} {B : Int} : ∀ {k : Nat}, (∀ x, x < k → 0 ≤ W x ∧ W x < B) → 0 ≤ sumW W k ∧ sumW W k ≤ k * B
  | 0, _ => by show (0 : Int) ≤ 0 ∧ (0 : Int) ≤ ((0 : Nat) : Int) * B; omega
  | k + 1, h => by
    have ih := sumW_in (B := B) (k := k) (fun x hx => h x (by omega))
    have h1 := h k (by omega)
    show 0 ≤ sumW W k + W k ∧ sumW W k + W k ≤ ((k + 1 : Nat) : Int) * B
    rw [show ((k + 1 : Nat) : Int) = (k : Int) + 1 by omega, Int.add_mul]
    omega
/-- one place more -/
theorem sumS_add {W : Nat → Int} {S S' : Nat → Bool} {x : Nat} (hx : S x = false) (hx' : S' x = true) (ho : ∀ z, z ≠ x → S' z = S z) : ∀ k, sumS W S' k = sumS W S k + (if x < k then W x else 0)
  | 0 => by show (0 : Int) = 0 + _; rw [if_neg (by omega)]; rfl
  | k + 1 => by
    have ih := sumS_add (W := W) hx hx' ho k
    show sumS W S' k + (if S' k = true then W k else 0) = sumS W S k + (if S k = true then W k else 0) + _
    rw [ih]
    by_cases e1 : k = x
    · subst e1
      rw [hx, hx']
      simp
    · rw [ho k e1]
      generalize (if S k = true then W k else 0) = g
      by_cases e2 : x < k
      · rw [if_pos e2, if_pos (show x < k + 1 by omega)]; omega
      · rw [if_neg e2, if_neg (show ¬ x < k + 1 by omega)]; omega
/-- the least set with at least (u / v) of all: after as many steps as it takes -/
def lsOk (W : Nat → Int) (m : Nat) (u v : Int) (r : Nat) : Prop := r ≤ m ∧ sumW W m * u ≤ sumS W (selS W m r) m * v ∧ ∀ q, q < r → ¬ sumW W m * u ≤ sumS W (selS W m q) m * v
theorem lsOk_one {W : Nat → Int} {m : Nat} {u v : Int} {r r' : Nat} (h : lsOk W m u v r) (h' : lsOk W m u v r') : r = r' := by
  rcases (show r < r' ∨ r = r' ∨ r' < r by omega) with q | q | q
  · exact absurd h.2.1 (h'.2.2 r q)
  · exact q
  · exact absurd h'.2.1 (h.2.2 r' q)
/-- spans: how many begin ahead of place k, where they begin and end -/
def spN (S : Nat → Bool) : Nat → Nat
  | 0 => 0
  | k + 1 => if S k = true ∧ (k = 0 ∨ S (k - 1) = false) then spN S k + 1 else spN S k
def spA (S : Nat → Bool) (f : Int) (F : Nat → Int) : Nat → Nat → Int
  | 0 => F
  | k + 1 => if S k = true ∧ (k = 0 ∨ S (k - 1) = false) then fu (spA S f F k) (spN S k) (f + k) else spA S f F k
def spB (S : Nat → Bool) (f : Int) (F : Nat → Int) : Nat → Nat → Int
  | 0 => F
  | k + 1 => if S k = true then fu (spB S f F k) (spN S (k + 1) - 1) (f + k) else spB S f F k
theorem spN_le (S : Nat → Bool) : ∀ k, spN S k ≤ (k + 1) / 2 ∧ (0 < k → S (k - 1) = false → spN S k ≤ k / 2) ∧ (0 < k → S (k - 1) = true → 0 < spN S k)
  | 0 => ⟨by show 0 ≤ _; omega, fun h => absurd h (by omega), fun h => absurd h (by omega)⟩
  | k + 1 => by
    obtain ⟨h1, h2, h3⟩ := spN_le S k
    have e0 : k + 1 - 1 = k := by omega
    rw [e0]
    show (if _ then _ else _) ≤ _ ∧ (_ → _ → (if _ then _ else _) ≤ _) ∧ (_ → _ → 0 < (if _ then _ else _))
    by_cases e1 : S k = true ∧ (k = 0 ∨ S (k - 1) = false)
    · rw [if_pos e1]
      refine ⟨?_, fun _ q => (by rw [e1.1] at q; cases q), fun _ _ => (by omega)⟩
      rcases e1.2 with q | q
      · subst q
        show 0 + 1 ≤ _
        omega
      · by_cases e2 : 0 < k
        · have := h2 e2 q; omega
        · have e3 : k = 0 := by omega
          subst e3
          show 0 + 1 ≤ _
          omega
    · rw [if_neg e1]
      refine ⟨(by omega), fun _ q => (by omega), fun _ q => ?_⟩
      have e2 : ¬ (k = 0 ∨ S (k - 1) = false) := fun z => e1 ⟨q, z⟩
      have e3 : S (k - 1) = true := by
        cases hq : S (k - 1) with
        | true => rfl
        | false => exact absurd (Or.inr hq) e2
      exact h3 (by omega) e3
theorem spN_congr {S S' : Nat → Bool} : ∀ {k}, (∀ x, x < k → S x = S' x) → spN S k = spN S' k
  | 0, _ => rfl
  | k + 1, h => by
    show (if _ then _ else _) = (if _ then _ else _)
    rw [spN_congr (fun x hx => h x (by omega)), h k (by omega)]
    by_cases e1 : k = 0
    · simp [e1]
    · rw [h (k - 1) (by omega)]
theorem spA_congr {S S' : Nat → Bool} {f : Int} {F F' : Nat → Int} : ∀ {k}, (∀ x, x < k → S x = S' x) → ∀ j, j < spN S k → spA S f F k j = spA S' f F' k j
  | 0, _, j, hj => by exact absurd hj (by show ¬ j < 0; omega)
  | k + 1, h, j, hj => by
    have ih := spA_congr (f := f) (F := F) (F' := F') (k := k) (fun x hx => h x (by omega))
    have e0 := spN_congr (k := k) (fun x hx => h x (by omega))
    have e1 : (S k = true ∧ (k = 0 ∨ S (k - 1) = false)) ↔ (S' k = true ∧ (k = 0 ∨ S' (k - 1) = false)) := by
      rw [h k (by omega)]
      by_cases e1 : k = 0
      · simp [e1]
      · rw [h (k - 1) (by omega)]
    have hj' : j < (if S k = true ∧ (k = 0 ∨ S (k - 1) = false) then spN S k + 1 else spN S k) := hj
    rw [show spA S f F (k + 1) = (if S k = true ∧ (k = 0 ∨ S (k - 1) = false) then fu (spA S f F k) (spN S k) (f + k) else spA S f F k) from rfl, show spA S' f F' (k + 1) = (if S' k = true ∧ (k = 0 ∨ S' (k - 1) = false) then fu (spA S' f F' k) (spN S' k) (f + k) else spA S' f F' k) from rfl]
    by_cases e2 : S k = true ∧ (k = 0 ∨ S (k - 1) = false)
    · rw [if_pos e2, if_pos (e1.mp e2), ← e0]
      rw [if_pos e2] at hj'
      by_cases e3 : j = spN S k
      · rw [e3, fu_eq, fu_eq]
      · rw [fu_ne _ _ e3, fu_ne _ _ e3]; exact ih j (by omega)
    · rw [if_neg e2, if_neg (fun q => e2 (e1.mpr q))]
      rw [if_neg e2] at hj'
      exact ih j hj'
theorem spB_congr {S S' : Nat → Bool} {f : Int} {F F' : Nat → Int} : ∀ {k}, (∀ x, x < k → S x = S' x) → ∀ j, j < spN S k → spB S f F k j = spB S' f F' k j
  | 0, _, j, hj => by exact absurd hj (by show ¬ j < 0; omega)
  | k + 1, h, j, hj => by
    have ih := spB_congr (f := f) (F := F) (F' := F') (k := k) (fun x hx => h x (by omega))
    have e0 := spN_congr (k := k + 1) h
    have e9 := h k (by omega)
    rw [show spB S f F (k + 1) = (if S k = true then fu (spB S f F k) (spN S (k + 1) - 1) (f + k) else spB S f F k) from rfl, show spB S' f F' (k + 1) = (if S' k = true then fu (spB S' f F' k) (spN S' (k + 1) - 1) (f + k) else spB S' f F' k) from rfl]
    by_cases e2 : S k = true
    · rw [if_pos e2, if_pos (by rw [← e9]; exact e2), ← e0]
      by_cases e3 : j = spN S (k + 1) - 1
      · rw [e3, fu_eq, fu_eq]
      · rw [fu_ne _ _ e3, fu_ne _ _ e3]
        have hj' : j < (if S k = true ∧ (k = 0 ∨ S (k - 1) = false) then spN S k + 1 else spN S k) := hj
        have e4 : spN S (k + 1) = (if S k = true ∧ (k = 0 ∨ S (k - 1) = false) then spN S k + 1 else spN S k) := rfl
        by_cases e5 : S k = true ∧ (k = 0 ∨ S (k - 1) = false)
        · rw [if_pos e5] at hj' e4; exact ih j (by omega)
        · rw [if_neg e5] at hj' e4; exact ih j (by omega)
    · rw [if_neg e2, if_neg (by rw [← e9]; exact e2)]
      have hj' : j < (if S k = true ∧ (k = 0 ∨ S (k - 1) = false) then spN S k + 1 else spN S k) := hj
      rw [if_neg (fun q => e2 q.1)] at hj'
      exact ih j hj'
