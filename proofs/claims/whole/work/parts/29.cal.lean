/-! The calendars, as numbers -/
abbrev lun (r : Int) : Prop := r = 2 ∨ r = 5 ∨ r = 7 ∨ r = 10 ∨ r = 13 ∨ r = 16 ∨ r = 18 ∨ r = 21 ∨ r = 24 ∨ r = 26 ∨ r = 29
abbrev leap (c y : Int) : Prop := (c = 0 ∧ y % 4 = 0 ∧ (y % 100 ≠ 0 ∨ y % 400 = 0)) ∨ (c = 1 ∧ y % 4 = 0) ∨ (c = 2 ∧ lun (y % 30))
def lp (c y : Int) : Int := if leap c y then 1 else 0
def yd (c y : Int) : Int := (if c = 2 then 354 else 365) + lp c y
/-- how many of the lunar leap years are not behind r -/
def lcN (r : Int) : Int := (if 2 ≤ r then 1 else 0) + (if 5 ≤ r then 1 else 0) + (if 7 ≤ r then 1 else 0) + (if 10 ≤ r then 1 else 0) + (if 13 ≤ r then 1 else 0) + (if 16 ≤ r then 1 else 0) + (if 18 ≤ r then 1 else 0) + (if 21 ≤ r then 1 else 0) + (if 24 ≤ r then 1 else 0) + (if 26 ≤ r then 1 else 0) + (if 29 ≤ r then 1 else 0)
def ny (c y : Int) : Int := if c = 0 then 365 * (y - 1) + (y - 1) / 4 - (y - 1) / 100 + (y - 1) / 400 else if c = 1 then -2 + 365 * (y - 1) + (y - 1) / 4 else if c = 2 then 227014 + 354 * (y - 1) + 11 * ((y - 1) / 30) + lcN ((y - 1) % 30) else -272788 + 365 * (y - 1)
theorem r30 {r : Int} (h0 : 0 ≤ r) (h1 : r < 30) : r = 0 ∨ r = 1 ∨ r = 2 ∨ r = 3 ∨ r = 4 ∨ r = 5 ∨ r = 6 ∨ r = 7 ∨ r = 8 ∨ r = 9 ∨ r = 10 ∨ r = 11 ∨ r = 12 ∨ r = 13 ∨ r = 14 ∨ r = 15 ∨ r = 16 ∨ r = 17 ∨ r = 18 ∨ r = 19 ∨ r = 20 ∨ r = 21 ∨ r = 22 ∨ r = 23 ∨ r = 24 ∨ r = 25 ∨ r = 26 ∨ r = 27 ∨ r = 28 ∨ r = 29 := by omega
theorem lcN_in {r : Int} (h0 : 0 ≤ r) (h1 : r < 30) : 0 ≤ lcN r ∧ 30 * lcN r < 11 * r + 30 ∧ lcN r ≤ 11 ∧ (r < 29 → lcN (r + 1) = lcN r + (if lun (r + 1) then 1 else 0)) ∧ (r = 29 → lcN r = 11) ∧ (r = 0 → lcN r = 0) := by
  rcases r30 h0 h1 with h | h | h | h | h | h | h | h | h | h | h | h | h | h | h | h | h | h | h | h | h | h | h | h | h | h | h | h | h | h <;> subst h <;> decide
theorem ny0 (y : Int) : ny 0 y = 365 * (y - 1) + (y - 1) / 4 - (y - 1) / 100 + (y - 1) / 400 := rfl
theorem ny1 (y : Int) : ny 1 y = -2 + 365 * (y - 1) + (y - 1) / 4 := rfl
theorem ny2 (y : Int) : ny 2 y = 227014 + 354 * (y - 1) + 11 * ((y - 1) / 30) + lcN ((y - 1) % 30) := rfl
theorem ny3 (y : Int) : ny 3 y = -272788 + 365 * (y - 1) := rfl
theorem c4 {c : Int} (h0 : 0 ≤ c) (h3 : c ≤ 3) : c = 0 ∨ c = 1 ∨ c = 2 ∨ c = 3 := by omega
theorem lpc0 (y : Int) : lp 0 y = if y % 4 = 0 ∧ (y % 100 ≠ 0 ∨ y % 400 = 0) then 1 else 0 := by
  unfold lp
  by_cases q : y % 4 = 0 ∧ (y % 100 ≠ 0 ∨ y % 400 = 0)
  · rw [if_pos q, if_pos (Or.inl ⟨rfl, q⟩)]
  · rw [if_neg q, if_neg (fun w => by rcases w with w | w | w; exact q w.2; exact absurd w.1 (by omega); exact absurd w.1 (by omega))]
theorem lpc1 (y : Int) : lp 1 y = if y % 4 = 0 then 1 else 0 := by
  unfold lp
  by_cases q : y % 4 = 0
  · rw [if_pos q, if_pos (Or.inr (Or.inl ⟨rfl, q⟩))]
  · rw [if_neg q, if_neg (fun w => by rcases w with w | w | w; exact absurd w.1 (by omega); exact q w.2; exact absurd w.1 (by omega))]
theorem lpc2 (y : Int) : lp 2 y = if lun (y % 30) then 1 else 0 := by
  unfold lp
  by_cases q : lun (y % 30)
  · rw [if_pos q, if_pos (Or.inr (Or.inr ⟨rfl, q⟩))]
  · rw [if_neg q, if_neg (fun w => by rcases w with w | w | w; exact absurd w.1 (by omega); exact absurd w.1 (by omega); exact q w.2)]
theorem lpc3 (y : Int) : lp 3 y = 0 := by
  unfold lp
  rw [if_neg (fun w => by rcases w with w | w | w <;> exact absurd w.1 (by omega))]
theorem lp_in (c y : Int) : 0 ≤ lp c y ∧ lp c y ≤ 1 := by unfold lp; split <;> omega
theorem yd_in (c y : Int) : 354 ≤ yd c y ∧ yd c y ≤ 366 := by
  have := lp_in c y
  unfold yd
  split <;> omega
theorem ny_next {c : Int} (h0 : 0 ≤ c) (h3 : c ≤ 3) (y : Int) : ny c (y + 1) = ny c y + yd c y := by
  rcases c4 h0 h3 with rfl | rfl | rfl | rfl
  · rw [ny0, ny0]; unfold yd; rw [lpc0, if_neg (by omega)]; split <;> omega
  · rw [ny1, ny1]; unfold yd; rw [lpc1, if_neg (by omega)]; split <;> omega
  · rw [ny2, ny2]; unfold yd; rw [lpc2, if_pos rfl]
    have e1 : y + 1 - 1 = y := by omega
    rw [e1]
    by_cases q : (y - 1) % 30 = 29
    · have q1 : y % 30 = 0 := by omega
      have q2 : y / 30 = (y - 1) / 30 + 1 := by omega
      rw [q, q1, q2, show lcN 29 = 11 from rfl, show lcN 0 = 0 from rfl, if_neg (by decide)]
      omega
    · have q1 : y % 30 = (y - 1) % 30 + 1 := by omega
      have q2 : y / 30 = (y - 1) / 30 := by omega
      have q3 := (lcN_in (r := (y - 1) % 30) (by omega) (by omega)).2.2.2.1 (by omega)
      rw [q1, q2, q3]
      omega
  · rw [ny3, ny3]; unfold yd; rw [lpc3, if_neg (by omega)]; omega
/-- after how many years, of how many days, the leap years come again -/
def cyN (c : Int) : Int := if c = 0 then 400 else if c = 1 then 4 else if c = 2 then 30 else 1
def cyD (c : Int) : Int := if c = 0 then 146097 else if c = 1 then 1461 else if c = 2 then 10631 else 365
theorem ny_cyc {c : Int} (h0 : 0 ≤ c) (h3 : c ≤ 3) (y : Int) : ny c (y + cyN c) = ny c y + cyD c := by
  rcases c4 h0 h3 with rfl | rfl | rfl | rfl
  · rw [ny0, ny0, show cyN 0 = 400 from rfl, show cyD 0 = 146097 from rfl]; omega
  · rw [ny1, ny1, show cyN 1 = 4 from rfl, show cyD 1 = 1461 from rfl]; omega
  · rw [ny2, ny2, show cyN 2 = 30 from rfl, show cyD 2 = 10631 from rfl, show (y + 30 - 1) % 30 = (y - 1) % 30 by omega]; omega
  · rw [ny3, ny3, show cyN 3 = 1 from rfl, show cyD 3 = 365 from rfl]; omega
theorem ny_lt {c : Int} (h0 : 0 ≤ c) (h3 : c ≤ 3) (y : Int) : ∀ k : Nat, ny c y + 354 * k ≤ ny c (y + k)
  | 0 => by simp
  | k + 1 => by
    have ih := ny_lt h0 h3 y k
    have e1 := ny_next h0 h3 (y + k)
    have e2 := yd_in c (y + k)
    rw [show y + ((k + 1 : Nat) : Int) = y + k + 1 by omega]
    omega
theorem ny_mono {c : Int} (h0 : 0 ≤ c) (h3 : c ≤ 3) {y z : Int} (h : y < z) : ny c y + 354 ≤ ny c z := by
  have := ny_lt h0 h3 y (z - y).toNat
  rw [show y + (((z - y).toNat : Nat) : Int) = z by omega] at this
  omega
/-- the year of day n -/
def isY (c n y : Int) : Prop := ny c y ≤ n ∧ n < ny c (y + 1)
theorem isY_one {c n y z : Int} (h0 : 0 ≤ c) (h3 : c ≤ 3) (h : isY c n y) (h' : isY c n z) : y = z := by
  rcases Int.lt_trichotomy y z with q | q | q
  · by_cases e : y + 1 = z
    · subst e; exact absurd h.2 (by have := h'.1; omega)
    · have := ny_mono h0 h3 (show y + 1 < z by omega)
      have := h.2; have := h'.1; omega
  · exact q
  · by_cases e : z + 1 = y
    · subst e; exact absurd h'.2 (by have := h.1; omega)
    · have := ny_mono h0 h3 (show z + 1 < y by omega)
      have := h'.2; have := h.1; omega
def mo (c : Int) : Int := if c = 3 then 13 else 12
def mT (m : Int) : Int := if m = 2 then 28 else if m = 4 ∨ m = 6 ∨ m = 9 ∨ m = 11 then 30 else 31
def md (c y m : Int) : Int := if c = 3 then (if m = 13 then 5 else 30) else if c = 2 then (if m % 2 = 1 ∨ (m = 12 ∧ leap 2 y) then 30 else 29) else (if m = 2 ∧ leap c y then 29 else mT m)
theorem mT_in (m : Int) : 28 ≤ mT m ∧ mT m ≤ 31 := by
  unfold mT
  by_cases q : m = 2
  · rw [if_pos q]; omega
  · rw [if_neg q]
    by_cases q2 : m = 4 ∨ m = 6 ∨ m = 9 ∨ m = 11
    · rw [if_pos q2]; omega
    · rw [if_neg q2]; omega
theorem md_in (c y m : Int) : 5 ≤ md c y m ∧ md c y m ≤ 31 := by
  have := mT_in m
  unfold md
  by_cases q : c = 3
  · rw [if_pos q]; split <;> omega
  · rw [if_neg q]
    by_cases q2 : c = 2
    · rw [if_pos q2]; split <;> omega
    · rw [if_neg q2]; split <;> omega
/-- the days of the year ahead of month k + 1 -/
def dah (c y : Int) : Nat → Int
  | 0 => 0
  | k + 1 => dah c y k + md c y ((k : Int) + 1)
theorem dah_in (c y : Int) : ∀ k : Nat, 5 * (k : Int) ≤ dah c y k ∧ dah c y k ≤ 31 * (k : Int)
  | 0 => ⟨Int.le_refl 0, Int.le_refl 0⟩
  | k + 1 => by
    have ih := dah_in c y k
    have e1 := md_in c y ((k : Int) + 1)
    have e2 : dah c y (k + 1) = dah c y k + md c y ((k : Int) + 1) := rfl
    rw [e2]; omega
theorem lp_of {c y : Int} : (leap c y → lp c y = 1) ∧ (¬ leap c y → lp c y = 0) := ⟨fun q => if_pos q, fun q => if_neg q⟩
theorem dah12 (c y : Int) : dah c y 12 = 0 + md c y 1 + md c y 2 + md c y 3 + md c y 4 + md c y 5 + md c y 6 + md c y 7 + md c y 8 + md c y 9 + md c y 10 + md c y 11 + md c y 12 := rfl
theorem dah13 (c y : Int) : dah c y 13 = dah c y 12 + md c y 13 := rfl
theorem dah_all {c : Int} (h0 : 0 ≤ c) (h3 : c ≤ 3) (y : Int) : dah c y (mo c).toNat = yd c y := by
  have a : ∀ c : Int, c = 0 ∨ c = 1 → dah c y 12 = yd c y := fun c hc => by
    have n3 : ¬ c = 3 := by omega
    have n2 : ¬ c = 2 := by omega
    have e : ∀ m k : Int, m ≠ 2 → mT m = k → md c y m = k := fun m k hm hk => by unfold md; rw [if_neg n3, if_neg n2, if_neg (fun w => hm w.1)]; exact hk
    have e2 : md c y 2 = 28 + lp c y := by
      unfold md
      rw [if_neg n3, if_neg n2]
      by_cases q : leap c y
      · rw [if_pos ⟨rfl, q⟩, lp_of.1 q]; rfl
      · rw [if_neg (fun w => q w.2), lp_of.2 q]; rfl
    rw [dah12, e2, e 1 31 (by omega) rfl, e 3 31 (by omega) rfl, e 4 30 (by omega) rfl, e 5 31 (by omega) rfl, e 6 30 (by omega) rfl, e 7 31 (by omega) rfl, e 8 31 (by omega) rfl, e 9 30 (by omega) rfl, e 10 31 (by omega) rfl, e 11 30 (by omega) rfl, e 12 31 (by omega) rfl]
    unfold yd
    rw [if_neg n2]
    omega
  rcases c4 h0 h3 with rfl | rfl | rfl | rfl
  · exact a 0 (Or.inl rfl)
  · exact a 1 (Or.inr rfl)
  · show dah 2 y 12 = yd 2 y
    have e : ∀ m : Int, m % 2 = 1 → md 2 y m = 30 := fun m hm => by unfold md; rw [if_neg (by omega), if_pos rfl, if_pos (Or.inl hm)]
    have e2 : ∀ m : Int, m % 2 = 0 → m ≠ 12 → md 2 y m = 29 := fun m hm hn => by unfold md; rw [if_neg (by omega), if_pos rfl, if_neg (by omega)]
    have e3 : md 2 y 12 = 29 + lp 2 y := by
      unfold md
      rw [if_neg (by omega), if_pos rfl]
      by_cases q : leap 2 y
      · rw [if_pos (Or.inr ⟨rfl, q⟩), lp_of.1 q]; rfl
      · rw [if_neg (fun w => by rcases w with w | w; exact absurd w (by decide); exact q w.2), lp_of.2 q]; rfl
    rw [dah12, e 1 (by decide), e2 2 (by decide) (by decide), e 3 (by decide), e2 4 (by decide) (by decide), e 5 (by decide), e2 6 (by decide) (by decide), e 7 (by decide), e2 8 (by decide) (by decide), e 9 (by decide), e2 10 (by decide) (by decide), e 11 (by decide), e3]
    unfold yd
    rw [if_pos rfl]
    omega
  · show dah 3 y 13 = yd 3 y
    have e : ∀ m : Int, m ≠ 13 → md 3 y m = 30 := fun m hm => by unfold md; rw [if_pos rfl, if_neg hm]
    have e3 : md 3 y 13 = 5 := rfl
    rw [dah13, dah12, e 1 (by decide), e 2 (by decide), e 3 (by decide), e 4 (by decide), e 5 (by decide), e 6 (by decide), e 7 (by decide), e 8 (by decide), e 9 (by decide), e 10 (by decide), e 11 (by decide), e 12 (by decide), e3]
    unfold yd
    rw [lpc3, if_neg (by omega)]
    omega
/-- the month of the day that has left days of the year y ahead of it; rem days of the month are ahead of it -/
def isM (c y left : Int) (k : Nat) (rem : Int) : Prop := (k : Int) < mo c ∧ dah c y k + rem = left ∧ 0 ≤ rem ∧ rem < md c y ((k : Int) + 1)
theorem dah_lt (c y : Int) (k : Nat) : ∀ j : Nat, 0 < j → dah c y k + md c y ((k : Int) + 1) ≤ dah c y (k + j)
  | 0, h => absurd h (by omega)
  | j + 1, _ => by
    have e1 : dah c y (k + (j + 1)) = dah c y (k + j) + md c y (((k + j : Nat) : Int) + 1) := rfl
    have e2 := md_in c y (((k + j : Nat) : Int) + 1)
    by_cases q : j = 0
    · subst q; rw [e1]; simp
    · have := dah_lt c y k j (by omega)
      omega
theorem isM_one {c y left : Int} {k k' : Nat} {rem rem' : Int} (h : isM c y left k rem) (h' : isM c y left k' rem') : k = k' ∧ rem = rem' := by
  obtain ⟨a1, a2, a3, a4⟩ := h
  obtain ⟨b1, b2, b3, b4⟩ := h'
  have e : k = k' := by
    rcases Nat.lt_trichotomy k k' with q | q | q
    · have := dah_lt c y k (k' - k) (by omega)
      rw [show k + (k' - k) = k' by omega] at this
      omega
    · exact q
    · have := dah_lt c y k' (k - k') (by omega)
      rw [show k' + (k - k') = k by omega] at this
      omega
  subst e
  exact ⟨rfl, by omega⟩
/-- the answers of day and date -/
def kDay (c y m k : Int) : Nat := if ¬ (0 ≤ c ∧ c < 4) then 1 else if (-9999 ≤ y ∧ y ≤ 9999) ∧ (1 ≤ m ∧ m ≤ mo c) ∧ 1 ≤ k ∧ k ≤ md c y m then 0 else 2
def aDay (c y m k : Int) : Int := ny c y + dah c y (m - 1).toNat + (k - 1)
def kDt (c n w : Int) : Nat := if ¬ (0 ≤ c ∧ c < 4) then 1 else if (0 ≤ w ∧ w ≤ 2) ∧ -4000000 ≤ n ∧ n ≤ 4000000 then 0 else 2
def aDt (c n w z : Int) : Prop := ∃ y, isY c n y ∧ ((w = 0 ∧ z = y) ∨ (w ≠ 0 ∧ ∃ (k : Nat) (rem : Int), isM c y (n - ny c y) k rem ∧ z = if w = 1 then (k : Int) + 1 else rem + 1))
theorem aDt_one {c n w z z' : Int} (h0 : 0 ≤ c) (h3 : c ≤ 3) (h : aDt c n w z) (h' : aDt c n w z') : z = z' := by
  obtain ⟨y, h1, h2⟩ := h
  obtain ⟨y', h1', h2'⟩ := h'
  have e := isY_one h0 h3 h1 h1'
  subst e
  rcases h2 with ⟨a, b⟩ | ⟨a, k, rem, b, d⟩
  · rcases h2' with ⟨a', b'⟩ | ⟨a', -⟩
    · rw [b, b']
    · exact absurd a a'
  · rcases h2' with ⟨a', -⟩ | ⟨-, k', rem', b', d'⟩
    · exact absurd a' a
    · obtain ⟨rfl, rfl⟩ := isM_one b b'
      rw [d, d']
/-- the class's way to the year -/
def mean (c n : Int) : Int := ((n - ny c 1) * cyN c) / cyD c + 1
theorem mean_ok {c : Int} (h0 : 0 ≤ c) (h3 : c ≤ 3) (n : Int) : ny c (mean c n) ≤ n ∧ n < ny c (mean c n + 1 + 1) := by
  have hD : 0 < cyD c := by rcases c4 h0 h3 with rfl | rfl | rfl | rfl <;> decide
  have e1 := Int.mul_ediv_add_emod ((n - ny c 1) * cyN c) (cyD c)
  have e2 := Int.emod_nonneg ((n - ny c 1) * cyN c) (show cyD c ≠ 0 by omega)
  have e3 := Int.emod_lt_of_pos ((n - ny c 1) * cyN c) hD
  unfold mean
  generalize ((n - ny c 1) * cyN c) / cyD c = q at e1 ⊢
  generalize ((n - ny c 1) * cyN c) % cyD c = r at e1 e2 e3
  rcases c4 h0 h3 with rfl | rfl | rfl | rfl
  · rw [show ny 0 1 = 0 from rfl, show cyN 0 = 400 from rfl, show cyD 0 = 146097 from rfl] at *
    rw [ny0, ny0, show q + 1 - 1 = q by omega, show q + 1 + 1 + 1 - 1 = q + 2 by omega]
    omega
  · rw [show ny 1 1 = -2 from rfl, show cyN 1 = 4 from rfl, show cyD 1 = 1461 from rfl] at *
    rw [ny1, ny1]
    omega
  · rw [show ny 2 1 = 227014 from rfl, show cyN 2 = 30 from rfl, show cyD 2 = 10631 from rfl] at *
    rw [ny2, ny2, show q + 1 - 1 = q by omega, show q + 1 + 1 + 1 - 1 = q + 2 by omega]
    have f1 := lcN_in (r := q % 30) (by omega) (by omega)
    have f2 := lcN_in (r := (q + 2) % 30) (by omega) (by omega)
    omega
  · rw [show ny 3 1 = -272788 from rfl, show cyN 3 = 1 from rfl, show cyD 3 = 365 from rfl] at *
    rw [ny3, ny3]
    omega
