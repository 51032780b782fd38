/-! NUMBERS BY DECIMAL DIGITS, the last ones first -/
def wl (f : Nat → Int) : Nat → Int
  | 0 => 0
  | n + 1 => wl f n + f n * 10 ^ n
def dgt (f : Nat → Int) (n : Nat) : Prop := ∀ i, i < n → 0 ≤ f i ∧ f i < 10
theorem dgt_le {f : Nat → Int} {n k : Nat} (h : dgt f n) (hk : k ≤ n) : dgt f k := fun i hi => h i (by omega)
theorem Tpos (n : Nat) : (0 : Int) < 10 ^ n := Int.pow_pos (by omega)
theorem wl_congr {f g : Nat → Int} : ∀ {n : Nat}, (∀ i, i < n → f i = g i) → wl f n = wl g n
  | 0, _ => rfl
  | n + 1, h => by
    show wl f n + f n * _ = wl g n + g n * _
    rw [wl_congr (n := n) (fun i hi => h i (by omega)), h n (by omega)]
theorem wl_bound {f : Nat → Int} : ∀ {n : Nat}, dgt f n → 0 ≤ wl f n ∧ wl f n < 10 ^ n
  | 0, _ => by show (0 : Int) ≤ 0 ∧ (0 : Int) < 1; omega
  | n + 1, h => by
    have ih := wl_bound (n := n) (dgt_le h (by omega))
    have hd := h n (by omega)
    have hp := Tpos n
    show 0 ≤ wl f n + f n * 10 ^ n ∧ wl f n + f n * 10 ^ n < 10 ^ (n + 1)
    rw [Int.pow_succ]
    generalize (10 : Int) ^ n = P at *
    have h1 : 0 ≤ f n * P := Int.mul_nonneg hd.1 (by omega)
    have h2 : f n * P ≤ 9 * P := Int.mul_le_mul_of_nonneg_right (by omega) (by omega)
    omega
theorem wl_zero {f : Nat → Int} : ∀ {n : Nat}, (∀ i, i < n → f i = 0) → wl f n = 0
  | 0, _ => rfl
  | n + 1, h => by
    show wl f n + f n * _ = 0
    rw [wl_zero (n := n) (fun i hi => h i (by omega)), h n (by omega)]
    omega
theorem dm_T (s P : Int) : (s % 10) * P + (s / 10) * (P * 10) = s * P := by
  have h := Int.emod_add_mul_ediv s 10
  rw [Int.mul_comm P 10, ← Int.mul_assoc, Int.mul_comm (s / 10) 10, ← Int.add_mul, h]
/-- the order of two numbers is that of the first parts from above that differ -/
theorem wl_lt {f g : Nat → Int} : ∀ {n : Nat} (k : Nat), k < n → dgt f n → dgt g n → f k < g k → (∀ i, k < i → i < n → f i = g i) → wl f n < wl g n
  | 0, k, hk, _, _, _, _ => absurd hk (by omega)
  | n + 1, k, hk, hf, hg, hlt, hup => by
    show wl f n + f n * 10 ^ n < wl g n + g n * 10 ^ n
    by_cases e : k = n
    · subst e
      have b1 := wl_bound (dgt_le hf (Nat.le_succ k))
      have b2 := wl_bound (dgt_le hg (Nat.le_succ k))
      have hp := Tpos k
      generalize (10 : Int) ^ k = P at *
      have h2 : (f k + 1) * P ≤ g k * P := Int.mul_le_mul_of_nonneg_right (by omega) (by omega)
      rw [Int.add_mul] at h2
      omega
    · have := wl_lt (n := n) k (by omega) (dgt_le hf (by omega)) (dgt_le hg (by omega)) hlt (fun i h1 h2 => hup i h1 (by omega))
      rw [hup n (by omega) (by omega)]
      omega
theorem wl_split {f g : Nat → Int} {n : Nat} (hf : dgt f n) (hg : dgt g n) : (∀ i, i < n → f i = g i) ∨ (∃ k, k < n ∧ f k ≠ g k ∧ ∀ i, k < i → i < n → f i = g i) := by
  induction n with
  | zero => exact Or.inl (fun i hi => absurd hi (by omega))
  | succ n ih =>
    by_cases e : f n = g n
    · rcases ih (dgt_le hf (by omega)) (dgt_le hg (by omega)) with h | ⟨k, h1, h2, h3⟩
      · refine Or.inl (fun i hi => ?_)
        by_cases e2 : i = n
        · rw [e2]; exact e
        · exact h i (by omega)
      · refine Or.inr ⟨k, by omega, h2, fun i h4 h5 => ?_⟩
        by_cases e2 : i = n
        · rw [e2]; exact e
        · exact h3 i h4 (by omega)
    · exact Or.inr ⟨n, by omega, e, fun i h1 h2 => absurd h1 (by omega)⟩
theorem wl_inj {f g : Nat → Int} {n : Nat} (hf : dgt f n) (hg : dgt g n) (h : wl f n = wl g n) : ∀ i, i < n → f i = g i := by
  rcases wl_split hf hg with q | ⟨k, h1, h2, h3⟩
  · exact q
  · rcases Int.lt_or_gt_of_ne h2 with q | q
    · have := wl_lt k h1 hf hg q h3; omega
    · have := wl_lt k h1 hg hf q (fun i a b => (h3 i a b).symm); omega
/-- what become leaves: quotients on the way, parts -/
def tcQ (v : Int) : Nat → Int
  | 0 => v
  | n + 1 => tcQ v n / 10
def tcD (v : Int) (i : Nat) : Int := tcQ v i % 10
theorem tcQ_in {v : Int} (h : 0 ≤ v) : ∀ n, 0 ≤ tcQ v n ∧ tcQ v n ≤ v
  | 0 => ⟨h, Int.le_refl _⟩
  | n + 1 => by
    have ih := tcQ_in h n
    show 0 ≤ tcQ v n / 10 ∧ tcQ v n / 10 ≤ v
    omega
theorem tc_dig (v : Int) (n : Nat) : dgt (tcD v) n := fun i _ => by
  show 0 ≤ tcQ v i % 10 ∧ tcQ v i % 10 < 10
  omega
theorem tc_val (v : Int) : ∀ n, wl (tcD v) n + tcQ v n * 10 ^ n = v
  | 0 => by show (0 : Int) + v * 1 = v; omega
  | n + 1 => by
    have ih := tc_val v n
    have h := dm_T (tcQ v n) (10 ^ n)
    show wl (tcD v) n + (tcQ v n % 10) * 10 ^ n + (tcQ v n / 10) * 10 ^ (n + 1) = v
    rw [Int.pow_succ]
    omega
theorem tc_all {v : Int} {n : Nat} (h0 : 0 ≤ v) (h : v < 10 ^ n) : wl (tcD v) n = v := by
  have e := tc_val v n
  have b := wl_bound (tc_dig v n)
  have q := (tcQ_in h0 n).1
  have hp := Tpos n
  generalize (10 : Int) ^ n = P at *
  have hq : tcQ v n = 0 := by
    rcases (show 0 < tcQ v n ∨ tcQ v n ≤ 0 by omega) with z | z
    · have h2 : 1 * P ≤ tcQ v n * P := Int.mul_le_mul_of_nonneg_right (by omega) (by omega)
      omega
    · omega
  rw [hq] at e
  omega
theorem tcQ_0 : ∀ n, tcQ 0 n = 0
  | 0 => rfl
  | n + 1 => by show tcQ 0 n / 10 = 0; rw [tcQ_0 n]; rfl
theorem tcD_0 (i : Nat) : tcD 0 i = 0 := by show tcQ 0 i % 10 = 0; rw [tcQ_0]; rfl
/-- a sum -/
def taC (f g : Nat → Int) : Nat → Int
  | 0 => 0
  | i + 1 => (f i + g i + taC f g i) / 10
def taD (f g : Nat → Int) (i : Nat) : Int := (f i + g i + taC f g i) % 10
theorem taC_in {f g : Nat → Int} {n : Nat} (hf : dgt f n) (hg : dgt g n) : ∀ i, i ≤ n → 0 ≤ taC f g i ∧ taC f g i ≤ 1
  | 0, _ => by show (0 : Int) ≤ 0 ∧ (0 : Int) ≤ 1; omega
  | i + 1, h => by
    have ih := taC_in hf hg i (by omega)
    have h1 := hf i (by omega)
    have h2 := hg i (by omega)
    show 0 ≤ (f i + g i + taC f g i) / 10 ∧ (f i + g i + taC f g i) / 10 ≤ 1
    omega
theorem ta_dig (f g : Nat → Int) (n : Nat) : dgt (taD f g) n := fun i _ => by
  show 0 ≤ (f i + g i + taC f g i) % 10 ∧ (f i + g i + taC f g i) % 10 < 10
  omega
theorem ta_val (f g : Nat → Int) : ∀ n, wl (taD f g) n + taC f g n * 10 ^ n = wl f n + wl g n
  | 0 => rfl
  | n + 1 => by
    have ih := ta_val f g n
    have h := dm_T (f n + g n + taC f g n) (10 ^ n)
    show wl (taD f g) n + ((f n + g n + taC f g n) % 10) * 10 ^ n + ((f n + g n + taC f g n) / 10) * 10 ^ (n + 1) = wl f n + f n * 10 ^ n + (wl g n + g n * 10 ^ n)
    rw [Int.pow_succ]
    rw [Int.add_mul, Int.add_mul] at h
    omega
theorem ta_all {f g : Nat → Int} {n : Nat} (hf : dgt f n) (hg : dgt g n) (h : wl f n + wl g n < 10 ^ n) : wl (taD f g) n = wl f n + wl g n := by
  have e := ta_val f g n
  have b := wl_bound (ta_dig f g n)
  have q := taC_in hf hg n (Nat.le_refl n)
  have hp := Tpos n
  generalize (10 : Int) ^ n = P at *
  rcases (show taC f g n = 0 ∨ taC f g n = 1 by omega) with z | z
  · rw [z] at e; omega
  · rw [z] at e; omega
/-- a number times a small one -/
def tsC (g : Nat → Int) (k : Int) : Nat → Int
  | 0 => 0
  | i + 1 => (g i * k + tsC g k i) / 10
def tsD (g : Nat → Int) (k : Int) (i : Nat) : Int := (g i * k + tsC g k i) % 10
theorem tsC_in {g : Nat → Int} {k : Int} {n : Nat} (hg : dgt g n) (hk : 0 ≤ k) : ∀ i, i ≤ n → 0 ≤ tsC g k i ∧ tsC g k i ≤ k
  | 0, _ => by show (0 : Int) ≤ 0 ∧ (0 : Int) ≤ k; omega
  | i + 1, h => by
    have ih := tsC_in hg hk i (by omega)
    have h1 := hg i (by omega)
    have h2 : 0 ≤ g i * k := Int.mul_nonneg h1.1 hk
    have h3 : g i * k ≤ 9 * k := Int.mul_le_mul_of_nonneg_right (by omega) hk
    show 0 ≤ (g i * k + tsC g k i) / 10 ∧ (g i * k + tsC g k i) / 10 ≤ k
    omega
theorem ts_dig (g : Nat → Int) (k : Int) (n : Nat) : dgt (tsD g k) n := fun i _ => by
  show 0 ≤ (g i * k + tsC g k i) % 10 ∧ (g i * k + tsC g k i) % 10 < 10
  omega
theorem ts_val (g : Nat → Int) (k : Int) : ∀ n, wl (tsD g k) n + tsC g k n * 10 ^ n = wl g n * k
  | 0 => by show (0 : Int) + 0 * 1 = 0 * k; omega
  | n + 1 => by
    have ih := ts_val g k n
    have h := dm_T (g n * k + tsC g k n) (10 ^ n)
    show wl (tsD g k) n + ((g n * k + tsC g k n) % 10) * 10 ^ n + ((g n * k + tsC g k n) / 10) * 10 ^ (n + 1) = (wl g n + g n * 10 ^ n) * k
    rw [Int.pow_succ, Int.add_mul, Int.mul_right_comm (g n)]
    rw [Int.add_mul] at h
    omega
theorem ts_all {g : Nat → Int} {k : Int} {n : Nat} (hg : dgt g n) (hk : 0 ≤ k) (h : wl g n * k < 10 ^ n) : wl (tsD g k) n = wl g n * k := by
  have e := ts_val g k n
  have b := wl_bound (ts_dig g k n)
  have q := tsC_in hg hk n (Nat.le_refl n)
  have hp := Tpos n
  generalize (10 : Int) ^ n = P at *
  have hq : tsC g k n = 0 := by
    rcases (show 0 < tsC g k n ∨ tsC g k n ≤ 0 by omega) with z | z
    · have h2 : 1 * P ≤ tsC g k n * P := Int.mul_le_mul_of_nonneg_right (by omega) (by omega)
      omega
    · omega
  rw [hq] at e
  omega
theorem wl_add (f : Nat → Int) (i : Nat) : ∀ n, wl f (i + n) = wl f i + 10 ^ i * wl (fun j => f (i + j)) n
  | 0 => by show wl f i = wl f i + 10 ^ i * 0; omega
  | n + 1 => by
    have ih := wl_add f i n
    show wl f (i + n) + f (i + n) * 10 ^ (i + n) = wl f i + 10 ^ i * (wl (fun j => f (i + j)) n + f (i + n) * 10 ^ n)
    rw [ih, Int.mul_add, Int.pow_add, Int.mul_left_comm (10 ^ i) (f (i + n))]
    omega
def qrC (x : Int) (g A : Nat → Int) : Nat → Int
  | 0 => 0
  | j + 1 => (x * g j + A j + qrC x g A j) / 10
def qrD (x : Int) (g A : Nat → Int) (j : Nat) : Int := (x * g j + A j + qrC x g A j) % 10
theorem qr_mul {x z : Int} (hx : 0 ≤ x ∧ x < 10) (hz : 0 ≤ z ∧ z < 10) : 0 ≤ x * z ∧ x * z ≤ 81 := by
  have h1 : 0 ≤ x * z := Int.mul_nonneg hx.1 hz.1
  have h2 : x * z ≤ 9 * z := Int.mul_le_mul_of_nonneg_right (by omega) hz.1
  omega
theorem qrC_in {x : Int} {g A : Nat → Int} {n : Nat} (hx : 0 ≤ x ∧ x < 10) (hg : dgt g n) (hA : dgt A n) : ∀ j, j ≤ n → 0 ≤ qrC x g A j ∧ qrC x g A j ≤ 9
  | 0, _ => by show (0 : Int) ≤ 0 ∧ (0 : Int) ≤ 9; omega
  | j + 1, h => by
    have ih := qrC_in hx hg hA j (by omega)
    have h1 := qr_mul hx (hg j (by omega))
    have h2 := hA j (by omega)
    show 0 ≤ (x * g j + A j + qrC x g A j) / 10 ∧ (x * g j + A j + qrC x g A j) / 10 ≤ 9
    omega
theorem qr_val (x : Int) (g A : Nat → Int) : ∀ n, wl (qrD x g A) n + qrC x g A n * 10 ^ n = x * wl g n + wl A n
  | 0 => by show (0 : Int) + 0 * 1 = x * 0 + 0; omega
  | n + 1 => by
    have ih := qr_val x g A n
    have h := dm_T (x * g n + A n + qrC x g A n) (10 ^ n)
    show wl (qrD x g A) n + ((x * g n + A n + qrC x g A n) % 10) * 10 ^ n + ((x * g n + A n + qrC x g A n) / 10) * 10 ^ (n + 1) = x * (wl g n + g n * 10 ^ n) + (wl A n + A n * 10 ^ n)
    rw [Int.pow_succ, Int.mul_add, ← Int.mul_assoc x]
    rw [Int.add_mul, Int.add_mul] at h
    omega
/-- a number of N digits by a small one, from the first digit on -/
def tdR (q : Nat → Int) (u : Int) (N : Nat) : Nat → Int
  | 0 => 0
  | k + 1 => (tdR q u N k * 10 + q (N - 1 - k)) % u
def tdQ (q : Nat → Int) (u : Int) (N i : Nat) : Int := (tdR q u N (N - 1 - i) * 10 + q i) / u
def tdH (f : Nat → Int) (N : Nat) : Nat → Int
  | 0 => 0
  | k + 1 => tdH f N k * 10 + f (N - 1 - k)
theorem tdR_in {q : Nat → Int} {u : Int} {N : Nat} (hu : 0 < u) : ∀ k, 0 ≤ tdR q u N k ∧ tdR q u N k < u
  | 0 => ⟨Int.le_refl 0, hu⟩
  | k + 1 => ⟨Int.emod_nonneg _ (by omega), Int.emod_lt_of_pos _ hu⟩
theorem td_val {q : Nat → Int} {u : Int} {N : Nat} : ∀ k, k ≤ N → tdH (tdQ q u N) N k * u + tdR q u N k = tdH q N k
  | 0, _ => by show (0 : Int) * u + 0 = 0; omega
  | k + 1, h => by
    have ih := td_val (q := q) (u := u) (N := N) k (by omega)
    have e : N - 1 - (N - 1 - k) = k := by omega
    have h1 := Int.emod_add_mul_ediv (tdR q u N k * 10 + q (N - 1 - k)) u
    show (tdH (tdQ q u N) N k * 10 + (tdR q u N (N - 1 - (N - 1 - k)) * 10 + q (N - 1 - k)) / u) * u + (tdR q u N k * 10 + q (N - 1 - k)) % u = tdH q N k * 10 + q (N - 1 - k)
    rw [e, Int.add_mul, Int.mul_right_comm, Int.mul_comm ((tdR q u N k * 10 + q (N - 1 - k)) / u) u]
    omega
theorem td_dig {q : Nat → Int} {u : Int} {N : Nat} (hu : 0 < u) (hq : dgt q N) : dgt (tdQ q u N) N := fun i hi => by
  have h1 := tdR_in (q := q) (N := N) hu (N - 1 - i)
  have h2 := hq i hi
  show 0 ≤ (tdR q u N (N - 1 - i) * 10 + q i) / u ∧ (tdR q u N (N - 1 - i) * 10 + q i) / u < 10
  refine ⟨Int.ediv_nonneg (by omega) (by omega), Int.ediv_lt_of_lt_mul hu (by omega)⟩
theorem tdH_part (f : Nat → Int) (N : Nat) : ∀ k, k ≤ N → tdH f N k * 10 ^ (N - k) + wl f (N - k) = wl f N
  | 0, _ => by show (0 : Int) * _ + wl f N = _; omega
  | k + 1, h => by
    have ih := tdH_part f N k (by omega)
    have e1 : N - k = (N - (k + 1)) + 1 := by omega
    have e2 : N - 1 - k = N - (k + 1) := by omega
    rw [e1] at ih
    have e3 : wl f (N - (k + 1) + 1) = wl f (N - (k + 1)) + f (N - (k + 1)) * 10 ^ (N - (k + 1)) := rfl
    rw [e3, Int.pow_succ] at ih
    show (tdH f N k * 10 + f (N - 1 - k)) * 10 ^ (N - (k + 1)) + wl f (N - (k + 1)) = _
    rw [e2, Int.add_mul, Int.mul_assoc, Int.mul_comm 10]
    omega
theorem tdH_wl (f : Nat → Int) (N : Nat) : tdH f N N = wl f N := by
  have := tdH_part f N N (Nat.le_refl _)
  rw [Nat.sub_self] at this
  show tdH f N N = _
  have e : wl f 0 = 0 := rfl
  rw [e, Int.pow_zero] at this
  omega
theorem td_all {q : Nat → Int} {u : Int} {N : Nat} (hu : 0 < u) : wl (tdQ q u N) N = wl q N / u ∧ tdR q u N N = wl q N % u := by
  have h := td_val (q := q) (u := u) (N := N) N (Nat.le_refl _)
  have hb := tdR_in (q := q) (N := N) hu N
  rw [tdH_wl, tdH_wl] at h
  have := (Int.ediv_emod_unique hu (a := wl q N) (r := tdR q u N N) (q := wl (tdQ q u N) N)).mpr ⟨by rw [← h, Int.mul_comm]; omega, hb.1, hb.2⟩
  exact ⟨this.1.symm, this.2.symm⟩
theorem wl_first (g : Nat → Int) (n : Nat) : wl g (1 + n) = g 0 + 10 * wl (fun j => g (1 + j)) n := by
  rw [wl_add g 1 n]
  show (0 : Int) + g 0 * 1 + 10 ^ 1 * wl (fun j => g (1 + j)) n = _
  rw [Int.pow_one]
  omega
/-- the digits are the number's -/
theorem wl_dgv {f : Nat → Int} {n i : Nat} (hf : dgt f n) (hi : i < n) : dgv (wl f n) i = f i := by
  have h1 := wl_add f i (1 + (n - 1 - i))
  rw [wl_first, show i + (1 + (n - 1 - i)) = n by omega] at h1
  have hb := wl_bound (dgt_le hf (show i ≤ n by omega))
  have h2 := hf i hi
  unfold dgv
  rw [h1, Int.add_mul_ediv_left _ _ (Int.ne_of_gt (Tpos _)), Int.ediv_eq_zero_of_lt hb.1 hb.2, Int.zero_add]
  show (f (i + 0) + _) % 10 = _
  rw [Nat.add_zero]
  omega
theorem wl_high {F : Nat → Int} {m n : Nat} (hG : ∀ t, m ≤ t → t < m + n → F t = 0) : wl F (m + n) = wl F m := by
  rw [wl_add F m n, wl_zero (f := fun j => F (m + j)) (fun t ht => hG (m + t) (by omega) (by omega)), Int.mul_zero, Int.add_zero]
theorem wl_low {F : Nat → Int} {m n : Nat} (hF : dgt F (m + n)) (h : wl F (m + n) < 10 ^ m) : ∀ t, m ≤ t → t < m + n → F t = 0 := by
  have h1 := wl_add F m n
  have b1 := wl_bound (dgt_le hF (show m ≤ m + n by omega))
  have hG : dgt (fun j => F (m + j)) n := fun j hj => hF (m + j) (by omega)
  have b2 := wl_bound hG
  have hp := Tpos m
  have hz : wl (fun j => F (m + j)) n = 0 := by
    rcases (show 0 < wl (fun j => F (m + j)) n ∨ wl (fun j => F (m + j)) n ≤ 0 by omega) with z | z
    · have := Int.mul_le_mul_of_nonneg_left (show (1 : Int) ≤ wl (fun j => F (m + j)) n by omega) (show (0 : Int) ≤ 10 ^ m by omega)
      omega
    · omega
  intro t h2 h3
  have := wl_inj hG (g := fun _ => 0) (fun j hj => ⟨Int.le_refl _, by show (0 : Int) < 10; omega⟩) (by rw [hz, wl_zero (f := fun _ => (0 : Int)) (fun _ _ => rfl)]) (t - m) (by omega)
  rw [show m + (t - m) = t by omega] at this
  exact this
theorem t36 : (10 : Int) ^ 36 = 1000000000 ^ 4 := rfl
