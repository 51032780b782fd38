/-! NUMBERS BY PARTS OF NINE DECIMAL DIGITS, the last ones first -/
def vl (f : Nat → Int) : Nat → Int
  | 0 => 0
  | n + 1 => vl f n + f n * 1000000000 ^ n
def dig (f : Nat → Int) (n : Nat) : Prop := ∀ i, i < n → 0 ≤ f i ∧ f i < 1000000000
theorem dig_le {f : Nat → Int} {n k : Nat} (h : dig f n) (hk : k ≤ n) : dig f k := fun i hi => h i (by omega)
theorem Bpos (n : Nat) : (0 : Int) < 1000000000 ^ n := Int.pow_pos (by omega)
theorem vl_congr {f g : Nat → Int} : ∀ {n : Nat}, (∀ i, i < n → f i = g i) → vl f n = vl g n
  | 0, _ => rfl
  | n + 1, h => by
    show vl f n + f n * _ = vl g n + g n * _
    rw [vl_congr (n := n) (fun i hi => h i (by omega)), h n (by omega)]
theorem vl_bound {f : Nat → Int} : ∀ {n : Nat}, dig f n → 0 ≤ vl f n ∧ vl f n < 1000000000 ^ n
  | 0, _ => by show (0 : Int) ≤ 0 ∧ (0 : Int) < 1; omega
  | n + 1, h => by
    have ih := vl_bound (n := n) (dig_le h (by omega))
    have hd := h n (by omega)
    have hp := Bpos n
    show 0 ≤ vl f n + f n * 1000000000 ^ n ∧ vl f n + f n * 1000000000 ^ n < 1000000000 ^ (n + 1)
    rw [Int.pow_succ]
    generalize (1000000000 : Int) ^ n = P at *
    have h1 : 0 ≤ f n * P := Int.mul_nonneg hd.1 (by omega)
    have h2 : f n * P ≤ 999999999 * P := Int.mul_le_mul_of_nonneg_right (by omega) (by omega)
    omega
theorem vl_zero {f : Nat → Int} : ∀ {n : Nat}, (∀ i, i < n → f i = 0) → vl f n = 0
  | 0, _ => rfl
  | n + 1, h => by
    show vl f n + f n * _ = 0
    rw [vl_zero (n := n) (fun i hi => h i (by omega)), h n (by omega)]
    omega
theorem dm_B (s P : Int) : (s % 1000000000) * P + (s / 1000000000) * (P * 1000000000) = s * P := by
  have h := Int.emod_add_mul_ediv s 1000000000
  rw [Int.mul_comm P 1000000000, ← Int.mul_assoc, Int.mul_comm (s / 1000000000) 1000000000, ← Int.add_mul, h]
/-- the order of two numbers is that of the first parts from above that differ -/
theorem vl_lt {f g : Nat → Int} : ∀ {n : Nat} (k : Nat), k < n → dig f n → dig g n → f k < g k → (∀ i, k < i → i < n → f i = g i) → vl f n < vl g n
  | 0, k, hk, _, _, _, _ => absurd hk (by omega)
  | n + 1, k, hk, hf, hg, hlt, hup => by
    show vl f n + f n * 1000000000 ^ n < vl g n + g n * 1000000000 ^ n
    by_cases e : k = n
    · subst e
      have b1 := vl_bound (dig_le hf (Nat.le_succ k))
      have b2 := vl_bound (dig_le hg (Nat.le_succ k))
      have hp := Bpos k
      generalize (1000000000 : Int) ^ k = P at *
      have h2 : (f k + 1) * P ≤ g k * P := Int.mul_le_mul_of_nonneg_right (by omega) (by omega)
      rw [Int.add_mul] at h2
      omega
    · have := vl_lt (n := n) k (by omega) (dig_le hf (by omega)) (dig_le hg (by omega)) hlt (fun i h1 h2 => hup i h1 (by omega))
      rw [hup n (by omega) (by omega)]
      omega
theorem vl_split {f g : Nat → Int} {n : Nat} (hf : dig f n) (hg : dig g n) : (∀ i, i < n → f i = g i) ∨ (∃ k, k < n ∧ f k ≠ g k ∧ ∀ i, k < i → i < n → f i = g i) := by
  induction n with
  | zero => exact Or.inl (fun i hi => absurd hi (by omega))
  | succ n ih =>
    by_cases e : f n = g n
    · rcases ih (dig_le hf (by omega)) (dig_le hg (by omega)) with h | ⟨k, h1, h2, h3⟩
      · refine Or.inl (fun i hi => ?_)
        by_cases e2 : i = n
        · rw [e2]; exact e
        · exact h i (by omega)
      · refine Or.inr ⟨k, by omega, h2, fun i h4 h5 => ?_⟩
        by_cases e2 : i = n
        · rw [e2]; exact e
        · exact h3 i h4 (by omega)
    · exact Or.inr ⟨n, by omega, e, fun i h1 h2 => absurd h1 (by omega)⟩
theorem vl_inj {f g : Nat → Int} {n : Nat} (hf : dig f n) (hg : dig g n) (h : vl f n = vl g n) : ∀ i, i < n → f i = g i := by
  rcases vl_split hf hg with q | ⟨k, h1, h2, h3⟩
  · exact q
  · rcases Int.lt_or_gt_of_ne h2 with q | q
    · have := vl_lt k h1 hf hg q h3; omega
    · have := vl_lt k h1 hg hf q (fun i a b => (h3 i a b).symm); omega
/-- what become leaves: quotients on the way, parts -/
def bcQ (v : Int) : Nat → Int
  | 0 => v
  | n + 1 => bcQ v n / 1000000000
def bcD (v : Int) (i : Nat) : Int := bcQ v i % 1000000000
theorem bcQ_in {v : Int} (h : 0 ≤ v) : ∀ n, 0 ≤ bcQ v n ∧ bcQ v n ≤ v
  | 0 => ⟨h, Int.le_refl _⟩
  | n + 1 => by
    have ih := bcQ_in h n
    show 0 ≤ bcQ v n / 1000000000 ∧ bcQ v n / 1000000000 ≤ v
    omega
theorem bc_dig (v : Int) (n : Nat) : dig (bcD v) n := fun i _ => by
  show 0 ≤ bcQ v i % 1000000000 ∧ bcQ v i % 1000000000 < 1000000000
  omega
theorem bc_val (v : Int) : ∀ n, vl (bcD v) n + bcQ v n * 1000000000 ^ n = v
  | 0 => by show (0 : Int) + v * 1 = v; omega
  | n + 1 => by
    have ih := bc_val v n
    have h := dm_B (bcQ v n) (1000000000 ^ n)
    show vl (bcD v) n + (bcQ v n % 1000000000) * 1000000000 ^ n + (bcQ v n / 1000000000) * 1000000000 ^ (n + 1) = v
    rw [Int.pow_succ]
    omega
theorem bc_all {v : Int} {n : Nat} (h0 : 0 ≤ v) (h : v < 1000000000 ^ n) : vl (bcD v) n = v := by
  have e := bc_val v n
  have b := vl_bound (bc_dig v n)
  have q := (bcQ_in h0 n).1
  have hp := Bpos n
  generalize (1000000000 : Int) ^ n = P at *
  have hq : bcQ v n = 0 := by
    rcases (show 0 < bcQ v n ∨ bcQ v n ≤ 0 by omega) with z | z
    · have h2 : 1 * P ≤ bcQ v n * P := Int.mul_le_mul_of_nonneg_right (by omega) (by omega)
      omega
    · omega
  rw [hq] at e
  omega
theorem bcQ_0 : ∀ n, bcQ 0 n = 0
  | 0 => rfl
  | n + 1 => by show bcQ 0 n / 1000000000 = 0; rw [bcQ_0 n]; rfl
theorem bcD_0 (i : Nat) : bcD 0 i = 0 := by show bcQ 0 i % 1000000000 = 0; rw [bcQ_0]; rfl
/-- a sum -/
def adC (f g : Nat → Int) : Nat → Int
  | 0 => 0
  | i + 1 => (f i + g i + adC f g i) / 1000000000
def adD (f g : Nat → Int) (i : Nat) : Int := (f i + g i + adC f g i) % 1000000000
theorem adC_in {f g : Nat → Int} {n : Nat} (hf : dig f n) (hg : dig g n) : ∀ i, i ≤ n → 0 ≤ adC f g i ∧ adC f g i ≤ 1
  | 0, _ => by show (0 : Int) ≤ 0 ∧ (0 : Int) ≤ 1; omega
  | i + 1, h => by
    have ih := adC_in hf hg i (by omega)
    have h1 := hf i (by omega)
    have h2 := hg i (by omega)
    show 0 ≤ (f i + g i + adC f g i) / 1000000000 ∧ (f i + g i + adC f g i) / 1000000000 ≤ 1
    omega
theorem ad_dig (f g : Nat → Int) (n : Nat) : dig (adD f g) n := fun i _ => by
  show 0 ≤ (f i + g i + adC f g i) % 1000000000 ∧ (f i + g i + adC f g i) % 1000000000 < 1000000000
  omega
theorem ad_val (f g : Nat → Int) : ∀ n, vl (adD f g) n + adC f g n * 1000000000 ^ n = vl f n + vl g n
  | 0 => rfl
  | n + 1 => by
    have ih := ad_val f g n
    have h := dm_B (f n + g n + adC f g n) (1000000000 ^ n)
    show vl (adD f g) n + ((f n + g n + adC f g n) % 1000000000) * 1000000000 ^ n + ((f n + g n + adC f g n) / 1000000000) * 1000000000 ^ (n + 1) = vl f n + f n * 1000000000 ^ n + (vl g n + g n * 1000000000 ^ n)
    rw [Int.pow_succ]
    rw [Int.add_mul, Int.add_mul] at h
    omega
theorem ad_all {f g : Nat → Int} {n : Nat} (hf : dig f n) (hg : dig g n) (h : vl f n + vl g n < 1000000000 ^ n) : vl (adD f g) n = vl f n + vl g n := by
  have e := ad_val f g n
  have b := vl_bound (ad_dig f g n)
  have q := adC_in hf hg n (Nat.le_refl n)
  have hp := Bpos n
  generalize (1000000000 : Int) ^ n = P at *
  rcases (show adC f g n = 0 ∨ adC f g n = 1 by omega) with z | z
  · rw [z] at e; omega
  · rw [z] at e; omega
/-- a number times a small one -/
def scC (g : Nat → Int) (k : Int) : Nat → Int
  | 0 => 0
  | i + 1 => (g i * k + scC g k i) / 1000000000
def scD (g : Nat → Int) (k : Int) (i : Nat) : Int := (g i * k + scC g k i) % 1000000000
theorem scC_in {g : Nat → Int} {k : Int} {n : Nat} (hg : dig g n) (hk : 0 ≤ k) : ∀ i, i ≤ n → 0 ≤ scC g k i ∧ scC g k i ≤ k
  | 0, _ => by show (0 : Int) ≤ 0 ∧ (0 : Int) ≤ k; omega
  | i + 1, h => by
    have ih := scC_in hg hk i (by omega)
    have h1 := hg i (by omega)
    have h2 : 0 ≤ g i * k := Int.mul_nonneg h1.1 hk
    have h3 : g i * k ≤ 999999999 * k := Int.mul_le_mul_of_nonneg_right (by omega) hk
    show 0 ≤ (g i * k + scC g k i) / 1000000000 ∧ (g i * k + scC g k i) / 1000000000 ≤ k
    omega
theorem sc_dig (g : Nat → Int) (k : Int) (n : Nat) : dig (scD g k) n := fun i _ => by
  show 0 ≤ (g i * k + scC g k i) % 1000000000 ∧ (g i * k + scC g k i) % 1000000000 < 1000000000
  omega
theorem sc_val (g : Nat → Int) (k : Int) : ∀ n, vl (scD g k) n + scC g k n * 1000000000 ^ n = vl g n * k
  | 0 => by show (0 : Int) + 0 * 1 = 0 * k; omega
  | n + 1 => by
    have ih := sc_val g k n
    have h := dm_B (g n * k + scC g k n) (1000000000 ^ n)
    show vl (scD g k) n + ((g n * k + scC g k n) % 1000000000) * 1000000000 ^ n + ((g n * k + scC g k n) / 1000000000) * 1000000000 ^ (n + 1) = (vl g n + g n * 1000000000 ^ n) * k
    rw [Int.pow_succ, Int.add_mul, Int.mul_right_comm (g n)]
    rw [Int.add_mul] at h
    omega
theorem sc_all {g : Nat → Int} {k : Int} {n : Nat} (hg : dig g n) (hk : 0 ≤ k) (h : vl g n * k < 1000000000 ^ n) : vl (scD g k) n = vl g n * k := by
  have e := sc_val g k n
  have b := vl_bound (sc_dig g k n)
  have q := scC_in hg hk n (Nat.le_refl n)
  have hp := Bpos n
  generalize (1000000000 : Int) ^ n = P at *
  have hq : scC g k n = 0 := by
    rcases (show 0 < scC g k n ∨ scC g k n ≤ 0 by omega) with z | z
    · have h2 : 1 * P ≤ scC g k n * P := Int.mul_le_mul_of_nonneg_right (by omega) (by omega)
      omega
    · omega
  rw [hq] at e
  omega
theorem vl_add (f : Nat → Int) (i : Nat) : ∀ n, vl f (i + n) = vl f i + 1000000000 ^ i * vl (fun j => f (i + j)) n
  | 0 => by show vl f i = vl f i + 1000000000 ^ i * 0; omega
  | n + 1 => by
    have ih := vl_add f i n
    show vl f (i + n) + f (i + n) * 1000000000 ^ (i + n) = vl f i + 1000000000 ^ i * (vl (fun j => f (i + j)) n + f (i + n) * 1000000000 ^ n)
    rw [ih, Int.mul_add, Int.pow_add, Int.mul_left_comm (1000000000 ^ i) (f (i + n))]
    omega
/-- a number by a small one: from the first part on; after k steps the rest so far -/
def dvR (q : Nat → Int) (u : Int) : Nat → Int
  | 0 => 0
  | k + 1 => (dvR q u k * 1000000000 + q (7 - k)) % u
def dvQ (q : Nat → Int) (u : Int) (i : Nat) : Int := (dvR q u (7 - i) * 1000000000 + q i) / u
def hk8 (f : Nat → Int) : Nat → Int
  | 0 => 0
  | k + 1 => hk8 f k * 1000000000 + f (7 - k)
theorem dvR_in {q : Nat → Int} {u : Int} (hu : 0 < u) : ∀ k, 0 ≤ dvR q u k ∧ dvR q u k < u
  | 0 => ⟨Int.le_refl 0, hu⟩
  | k + 1 => ⟨Int.emod_nonneg _ (by omega), Int.emod_lt_of_pos _ hu⟩
theorem dv_val {q : Nat → Int} {u : Int} : ∀ k, k ≤ 8 → hk8 (dvQ q u) k * u + dvR q u k = hk8 q k
  | 0, _ => by show (0 : Int) * u + 0 = 0; omega
  | k + 1, h => by
    have ih := dv_val (q := q) (u := u) k (by omega)
    have e : 7 - (7 - k) = k := by omega
    have h1 := Int.emod_add_mul_ediv (dvR q u k * 1000000000 + q (7 - k)) u
    show (hk8 (dvQ q u) k * 1000000000 + (dvR q u (7 - (7 - k)) * 1000000000 + q (7 - k)) / u) * u + (dvR q u k * 1000000000 + q (7 - k)) % u = hk8 q k * 1000000000 + q (7 - k)
    rw [e, Int.add_mul, Int.mul_right_comm, Int.mul_comm ((dvR q u k * 1000000000 + q (7 - k)) / u) u]
    omega
theorem dv_dig {q : Nat → Int} {u : Int} (hu : 0 < u) (hq : dig q 8) : dig (dvQ q u) 8 := fun i hi => by
  have h1 := dvR_in (q := q) hu (7 - i)
  have h2 := hq i hi
  show 0 ≤ (dvR q u (7 - i) * 1000000000 + q i) / u ∧ (dvR q u (7 - i) * 1000000000 + q i) / u < 1000000000
  refine ⟨Int.ediv_nonneg (by omega) (by omega), Int.ediv_lt_of_lt_mul hu (by omega)⟩
theorem hk8_vl (f : Nat → Int) : hk8 f 8 = vl f 8 := by
  simp only [hk8, vl]
  simp only [Nat.sub_zero, Nat.reduceSub, Int.reducePow, Int.zero_add, Int.zero_mul, Int.pow_zero, Int.mul_one, Int.pow_succ]
  omega
