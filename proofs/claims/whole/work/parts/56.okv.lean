/-! what the calls that go leave is a good state again -/
theorem spA_in (S : Nat → Bool) (f : Int) : ∀ k j, spA S f (fun _ => 0) k j = 0 ∨ ∃ i : Nat, i < k ∧ spA S f (fun _ => 0) k j = f + i
  | 0, j => Or.inl rfl
  | k + 1, j => by
    show (if S k = true ∧ (k = 0 ∨ S (k - 1) = false) then fu (spA S f (fun _ => 0) k) (spN S k) (f + k) else spA S f (fun _ => 0) k) j = 0 ∨ ∃ i : Nat, i < k + 1 ∧ (if S k = true ∧ (k = 0 ∨ S (k - 1) = false) then fu (spA S f (fun _ => 0) k) (spN S k) (f + k) else spA S f (fun _ => 0) k) j = f + i
    have ih : spA S f (fun _ => 0) k j = 0 ∨ ∃ i : Nat, i < k + 1 ∧ spA S f (fun _ => 0) k j = f + i := by
      rcases spA_in S f k j with e | ⟨i, hi, e⟩
      · exact Or.inl e
      · exact Or.inr ⟨i, by omega, e⟩
    by_cases q : S k = true ∧ (k = 0 ∨ S (k - 1) = false)
    · rw [if_pos q]
      by_cases e : j = spN S k
      · rw [e, fu_eq]; exact Or.inr ⟨k, by omega, rfl⟩
      · rw [fu_ne _ _ e]; exact ih
    · rw [if_neg q]; exact ih
theorem spB_in (S : Nat → Bool) (f : Int) : ∀ k j, spB S f (fun _ => 0) k j = 0 ∨ ∃ i : Nat, i < k ∧ spB S f (fun _ => 0) k j = f + i
  | 0, j => Or.inl rfl
  | k + 1, j => by
    show (if S k = true then fu (spB S f (fun _ => 0) k) (spN S (k + 1) - 1) (f + k) else spB S f (fun _ => 0) k) j = 0 ∨ ∃ i : Nat, i < k + 1 ∧ (if S k = true then fu (spB S f (fun _ => 0) k) (spN S (k + 1) - 1) (f + k) else spB S f (fun _ => 0) k) j = f + i
    have ih : spB S f (fun _ => 0) k j = 0 ∨ ∃ i : Nat, i < k + 1 ∧ spB S f (fun _ => 0) k j = f + i := by
      rcases spB_in S f k j with e | ⟨i, hi, e⟩
      · exact Or.inl e
      · exact Or.inr ⟨i, by omega, e⟩
    by_cases q : S k = true
    · rw [if_pos q]
      by_cases e : j = spN S (k + 1) - 1
      · rw [e, fu_eq]; exact Or.inr ⟨k, by omega, rfl⟩
      · rw [fu_ne _ _ e]; exact ih
    · rw [if_neg q]; exact ih
theorem OkV.zero : OkV vw0 := ⟨by show 0 ≤ 8; omega, fun i hi => absurd (show i < 0 from hi) (by omega), fun i hi => absurd (show i < 0 from hi) (by omega), by show 0 ≤ 24; omega, ⟨by show (0 : Int) ≤ 0; omega, by show (0 : Int) ≤ 48000000000; omega⟩, fun i hi => absurd (show i < 0 from hi) (by omega), fun i hi => absurd (show i < 0 from hi) (by omega)⟩
theorem OkV.cl (v : Vw) : OkV (vCl v) := ⟨by show 0 ≤ 8; omega, fun i hi => absurd (show i < 0 from hi) (by omega), fun i hi => absurd (show i < 0 from hi) (by omega), by show 0 ≤ 24; omega, ⟨by show (0 : Int) ≤ 0; omega, by show (0 : Int) ≤ 48000000000; omega⟩, fun i hi => absurd (show i < 0 from hi) (by omega), fun i hi => absurd (show i < 0 from hi) (by omega)⟩
theorem OkV.row0 {v : Vw} (hv : OkV v) {f m : Int} (hk : kRow v f m = 0) : OkV (vRow v f m) := by
  unfold kRow at hk
  by_cases q : 8 ≤ v.rc
  · rw [if_pos q] at hk; omega
  rw [if_neg q] at hk
  by_cases q2 : (1 ≤ m ∧ m ≤ 48) ∧ -9999 ≤ f ∧ f ≤ 9999 - (m - 1)
  · refine hv.new (by omega) ?_ (fun _ _ => ⟨by omega, by decide⟩)
    unfold rowOk; omega
  · rw [if_neg q2] at hk; omega
theorem OkV.wt0 {v : Vw} (hv : OkV v) {r z w : Int} (hw : inJ w) (hk : kWt v r z w = 0) : OkV (vWt v r z w) := by
  unfold kWt at hk
  by_cases q : hasY v r z
  · rw [if_neg (fun t => t q)] at hk
    by_cases q2 : w < 0
    · rw [if_pos q2] at hk; omega
    · refine ⟨hv.rc, hv.ok, fun i hi k hkk => ?_, hv.sn, hv.rs, hv.sa, hv.sb⟩
      show 0 ≤ fu v.W r.toNat (fu (v.W r.toNat) (z - v.F r.toNat).toNat w) i k ∧ fu v.W r.toNat (fu (v.W r.toNat) (z - v.F r.toNat).toNat w) i k < 1000000000 ^ 4
      by_cases e : i = r.toNat
      · subst e
        rw [fu_eq]
        by_cases e2 : k = (z - v.F r.toNat).toNat
        · rw [e2, fu_eq]
          have := hw.2
          omega
        · rw [fu_ne _ _ e2]; exact hv.ww _ hi k hkk
      · rw [fu_ne _ _ e]; exact hv.ww i hi k hkk
  · rw [if_pos q] at hk; omega
theorem OkV.add0 {v : Vw} (hv : OkV v) {a c : Int} (hk : kAdd v a c = 0) : OkV (vAdd v a c) := by
  unfold kAdd at hk
  by_cases q : ¬ (isR v a ∧ isR v c)
  · rw [if_pos q] at hk; omega
  replace q := Classical.not_not.mp q
  rw [if_neg (fun w => w q)] at hk
  by_cases q2 : 8 ≤ v.rc
  · rw [if_pos q2] at hk; omega
  rw [if_neg q2] at hk
  by_cases q3 : 48 ≤ adL v a.toNat c.toNat - adF v a.toNat c.toNat
  · rw [if_pos q3] at hk; omega
  rw [if_neg q3] at hk
  by_cases q4 : ¬ (∀ q, q < adM v a.toNat c.toNat → adW v a.toNat c.toNat q < 1000000000 ^ 4)
  · rw [if_neg q4] at hk; omega
  replace q4 := Classical.not_not.mp q4
  have ha : a.toNat < v.rc := by have := q.1; omega
  have hc : c.toNat < v.rc := by have := q.2; omega
  have r1 := hv.ok _ ha
  have r2 := hv.ok _ hc
  unfold rowOk at r1 r2
  refine hv.new (by omega) ?_ (fun k hk2 => ⟨?_, q4 k hk2⟩)
  · unfold rowOk adM
    unfold adL adF lastR at q3 ⊢
    omega
  · have w1 := (wY_in hv ha (adF v a.toNat c.toNat + k)).1
    have w2 := (wY_in hv hc (adF v a.toNat c.toNat + k)).1
    unfold adW
    omega
theorem OkV.tm0 {v : Vw} (hv : OkV v) {a c u : Int} (hk : kTm v a c u = 0) : OkV (vTm v a c u) := by
  unfold kTm at hk
  by_cases q : ¬ (isR v a ∧ isR v c)
  · rw [if_pos q] at hk; omega
  replace q := Classical.not_not.mp q
  rw [if_neg (fun w => w q)] at hk
  by_cases q2 : 8 ≤ v.rc
  · rw [if_pos q2] at hk; omega
  rw [if_neg q2] at hk
  by_cases q3 : ¬ ((1 ≤ u ∧ u ≤ 1000000000) ∧ tmF v a.toNat c.toNat ≤ tmL v a.toNat c.toNat)
  · rw [if_pos q3] at hk; omega
  replace q3 := Classical.not_not.mp q3
  rw [if_neg (fun w => w q3)] at hk
  by_cases q4 : ¬ (∀ q, q < tmM v a.toNat c.toNat → tmW v a.toNat c.toNat u q < 1000000000 ^ 4)
  · rw [if_neg q4] at hk; omega
  replace q4 := Classical.not_not.mp q4
  have ha : a.toNat < v.rc := by have := q.1; omega
  have hc : c.toNat < v.rc := by have := q.2; omega
  have r1 := hv.ok _ ha
  have r2 := hv.ok _ hc
  unfold rowOk at r1 r2
  have hM : tmM v a.toNat c.toNat ≤ 48 := by
    unfold tmM tmL tmF lastR
    omega
  have N := hv.new (f := tmF v a.toNat c.toNat) (mm := tmM v a.toNat c.toNat) (W := tmW v a.toNat c.toNat u) (by omega) (by
    have q5 := q3.2
    unfold rowOk tmM
    unfold tmL tmF lastR at q5 ⊢
    omega) (fun k hk2 => ⟨by
      unfold tmW tmP
      exact Int.ediv_nonneg (Int.mul_nonneg (wY_in hv ha _).1 (wY_in hv hc _).1) (by omega), q4 k hk2⟩)
  refine ⟨N.rc, N.ok, N.ww, N.sn, ?_, N.sa, N.sb⟩
  have t := tmR_in (v := v) (a := a.toNat) (c0 := c.toNat) (u := u) (by omega) (tmM v a.toNat c.toNat)
  refine ⟨t.1, Int.le_trans t.2 ?_⟩
  have m1 : ((tmM v a.toNat c.toNat : Nat) : Int) * u ≤ 48 * u := Int.mul_le_mul_of_nonneg_right (by omega) (by omega)
  omega
theorem OkV.ls0 {v : Vw} (hv : OkV v) {r : Nat} (hr : r < v.rc) (k : Nat) : OkV (vLs v r k) := by
  have r1 := hv.ok _ hr
  unfold rowOk at r1
  refine ⟨hv.rc, hv.ok, hv.ww, ?_, hv.rs, fun j hj => ?_, fun j hj => ?_⟩
  · have := (spN_le (selS (v.W r) (v.M r) k) (v.M r)).1
    show spN (selS (v.W r) (v.M r) k) (v.M r) ≤ 24
    omega
  · show inI (spA (selS (v.W r) (v.M r) k) (v.F r) (fun _ => 0) (v.M r) j)
    rcases spA_in (selS (v.W r) (v.M r) k) (v.F r) (v.M r) j with e | ⟨i, hi, e⟩
    · rw [e]; exact inI_0
    · rw [e]; unfold inI; omega
  · show inI (spB (selS (v.W r) (v.M r) k) (v.F r) (fun _ => 0) (v.M r) j)
    rcases spB_in (selS (v.W r) (v.M r) k) (v.F r) (v.M r) j with e | ⟨i, hi, e⟩
    · rw [e]; exact inI_0
    · rw [e]; unfold inI; omega
theorem kLs_r {v : Vw} {r u w : Int} (hk : kLs v r u w = 0) : isR v r := by
  unfold kLs at hk
  by_cases q : isR v r
  · exact q
  · rw [if_pos q] at hk; omega
theorem kDt_c {c n w : Int} (hk : kDt c n w = 0) : 0 ≤ c ∧ c ≤ 3 := by
  unfold kDt at hk
  by_cases q : 0 ≤ c ∧ c < 4
  · omega
  · rw [if_pos q] at hk; omega
