/-! What the document asks of each call: the code of what it throws (0: nothing), its answer, the state behind it -/
def wY (v : Vw) (r : Nat) (z : Int) : Int := if v.F r ≤ z ∧ z ≤ v.F r + v.M r - 1 then v.W r (z - v.F r).toNat else 0
def kRow (v : Vw) (f m : Int) : Nat := if 8 ≤ v.rc then 1 else if (1 ≤ m ∧ m ≤ 48) ∧ -9999 ≤ f ∧ f ≤ 9999 - (m - 1) then 0 else 2
def vNew (v : Vw) (f : Int) (m : Nat) (W : Nat → Int) : Vw := Vw.mk (v.rc + 1) (fu v.F v.rc f) (fu v.M v.rc m) (fu v.W v.rc W) v.rs v.sn v.sa v.sb
def vRow (v : Vw) (f m : Int) : Vw := vNew v f m.toNat (fun _ => 0)
def kWt (v : Vw) (r z w : Int) : Nat := if ¬ hasY v r z then 1 else if w < 0 then 2 else 0
def vWt (v : Vw) (r z w : Int) : Vw := v.s_W (fu v.W r.toNat (fu (v.W r.toNat) (z - v.F r.toNat).toNat w))
def lastR (v : Vw) (r : Nat) : Int := v.F r + v.M r - 1
def adF (v : Vw) (a c : Nat) : Int := min (v.F a) (v.F c)
def adL (v : Vw) (a c : Nat) : Int := max (lastR v a) (lastR v c)
def adM (v : Vw) (a c : Nat) : Nat := (adL v a c - adF v a c + 1).toNat
def adW (v : Vw) (a c : Nat) (q : Nat) : Int := wY v a (adF v a c + q) + wY v c (adF v a c + q)
def kAdd (v : Vw) (a c : Int) : Nat := if ¬ (isR v a ∧ isR v c) then 1 else if 8 ≤ v.rc then 2 else if 48 ≤ adL v a.toNat c.toNat - adF v a.toNat c.toNat then 3 else if ∀ q, q < adM v a.toNat c.toNat → adW v a.toNat c.toNat q < 1000000000 ^ 4 then 0 else 4
def vAdd (v : Vw) (a c : Int) : Vw := vNew v (adF v a.toNat c.toNat) (adM v a.toNat c.toNat) (adW v a.toNat c.toNat)
def tmF (v : Vw) (a c : Nat) : Int := max (v.F a) (v.F c)
def tmL (v : Vw) (a c : Nat) : Int := min (lastR v a) (lastR v c)
def tmM (v : Vw) (a c : Nat) : Nat := (tmL v a c - tmF v a c + 1).toNat
def tmP (v : Vw) (a c : Nat) (q : Nat) : Int := wY v a (tmF v a c + q) * wY v c (tmF v a c + q)
def tmW (v : Vw) (a c : Nat) (u : Int) (q : Nat) : Int := tmP v a c q / u
def tmR (v : Vw) (a c : Nat) (u : Int) : Nat → Int := sumW (fun q => tmP v a c q % u)
def kTm (v : Vw) (a c u : Int) : Nat := if ¬ (isR v a ∧ isR v c) then 1 else if 8 ≤ v.rc then 2 else if ¬ ((1 ≤ u ∧ u ≤ 1000000000) ∧ tmF v a.toNat c.toNat ≤ tmL v a.toNat c.toNat) then 3 else if ∀ q, q < tmM v a.toNat c.toNat → tmW v a.toNat c.toNat u q < 1000000000 ^ 4 then 0 else 4
def vTm (v : Vw) (a c u : Int) : Vw := (vNew v (tmF v a.toNat c.toNat) (tmM v a.toNat c.toNat) (tmW v a.toNat c.toNat u)).s_rs (tmR v a.toNat c.toNat u (tmM v a.toNat c.toNat))
def kLs (v : Vw) (r u w : Int) : Nat := if ¬ isR v r then 1 else if ¬ ((1 ≤ w ∧ w ≤ 1000000) ∧ 0 ≤ u ∧ u ≤ w) then 2 else if sumW (v.W r.toNat) (v.M r.toNat) = 0 then 3 else 0
def vLs (v : Vw) (r : Nat) (k : Nat) : Vw := Vw.mk v.rc v.F v.M v.W v.rs (spN (selS (v.W r) (v.M r) k) (v.M r)) (spA (selS (v.W r) (v.M r) k) (v.F r) (fun _ => 0) (v.M r)) (spB (selS (v.W r) (v.M r) k) (v.F r) (fun _ => 0) (v.M r))
def kSp (v : Vw) (k e : Int) : Nat := if (0 ≤ k ∧ k < v.sn) ∧ (e = 0 ∨ e = 1) then 0 else 1
def aSp (v : Vw) (k e : Int) : Int := if e = 0 then v.sa k.toNat else v.sb k.toNat
def kDg (v : Vw) (r z i : Int) : Nat := if hasY v r z ∧ 0 ≤ i ∧ i < 36 then 0 else 1
def aDg (v : Vw) (r z i : Int) : Int := dgv (v.W r.toNat (z - v.F r.toNat).toNat) i.toNat
def kTo (v : Vw) (r i : Int) : Nat := if isR v r ∧ 0 ≤ i ∧ i < 38 then 0 else 1
def aTo (v : Vw) (r i : Int) : Int := dgv (sumW (v.W r.toNat) (v.M r.toNat)) i.toNat
def kCo (v : Vw) (r z r2 z2 : Int) : Nat := if hasY v r z ∧ hasY v r2 z2 then 0 else 1
def aCo (v : Vw) (r z r2 z2 : Int) : Int := cz (v.W r.toNat (z - v.F r.toNat).toNat) (v.W r2.toNat (z2 - v.F r2.toNat).toNat)
def kAb (v : Vw) (r w : Int) : Nat := if ¬ isR v r then 1 else if 0 ≤ w ∧ w ≤ 2 then 0 else 2
def aAb (v : Vw) (r w : Int) : Int := if w = 0 then v.F r.toNat else if w = 1 then lastR v r.toNat else (nzW (v.W r.toNat) (v.M r.toNat) : Nat)
def kOv (z : Int) : Nat := if z = 0 then 1 else 0
def aWr (z : Int) : Int := if 0 < z then z else z - 1
def vCl (v : Vw) : Vw := Vw.mk 0 v.F v.M v.W 0 0 v.sa v.sb
/-! pure facts -/
theorem pkL_congr {W W' : Nat → Int} {S S' : Nat → Bool} : ∀ {k}, (∀ x, x < k → W x = W' x) → (∀ x, x < k → S x = S' x) → pkL W S k = pkL W' S' k
  | 0, _, _ => rfl
  | k + 1, h, hS => by
    have ih := pkL_congr (k := k) (fun x hx => h x (by omega)) (fun x hx => hS x (by omega))
    unfold pkL
    rw [ih, hS k (by omega)]
    cases hq : pkL W' S' k with
    | none => rfl
    | some x =>
      have := (pkL_in k x hq).1
      dsimp only
      rw [h x (by omega), h k (by omega)]
theorem selS_congr {W W' : Nat → Int} {m : Nat} (h : ∀ x, x < m → W x = W' x) : ∀ r, selS W m r = selS W' m r
  | 0 => rfl
  | r + 1 => by
    funext x
    show (selS W m r x || (pkL W (selS W m r) m == some x)) = (selS W' m r x || (pkL W' (selS W' m r) m == some x))
    rw [selS_congr h r, pkL_congr h (fun _ _ => rfl)]
theorem sumS_congrW {W W' : Nat → Int} {S : Nat → Bool} : ∀ {k}, (∀ x, x < k → W x = W' x) → sumS W S k = sumS W' S k
  | 0, _ => rfl
  | k + 1, h => by
    show sumS W S k + (if S k = true then W k else 0) = sumS W' S k + (if S k = true then W' k else 0)
    rw [h k (by omega), sumS_congrW (fun x hx => h x (by omega))]
theorem lsOk_congr {W W' : Nat → Int} {m : Nat} {u w : Int} {r : Nat} (h : ∀ x, x < m → W x = W' x) (H : lsOk W m u w r) : lsOk W' m u w r := by
  unfold lsOk at H ⊢
  rw [← sumW_congr h, ← selS_congr h, ← sumS_congrW h]
  refine ⟨H.1, H.2.1, fun q hq => ?_⟩
  rw [← selS_congr h, ← sumS_congrW h]
  exact H.2.2 q hq
theorem nzW_congr {W W' : Nat → Int} : ∀ {k}, (∀ x, x < k → W x = W' x) → nzW W k = nzW W' k
  | 0, _ => rfl
  | k + 1, h => by
    show (if W k = 0 then nzW W k else nzW W k + 1) = (if W' k = 0 then nzW W' k else nzW W' k + 1)
    rw [h k (by omega), nzW_congr (fun x hx => h x (by omega))]
/-- the throws of a call -/
abbrev tX (d : yD) (b n : Nat) (h : yH) (v : Vw) (P : String → Prop) : String → Nat → yH → Prop := fun C n' h' => P C ∧ n ≤ n' ∧ PX d b h h' v
theorem OkX.rd {x : XS} {v : Vw} (O : OkX x v) (V : OkV v) {i : Nat} (hi : i < v.rc) (z : Int) : (if x.ff i ≤ z ∧ z ≤ x.ff i + x.fm i - 1 then wt (x.PP i) (z - x.ff i).toNat else 0) = wY v i z := by
  rw [O.ff i hi, O.fm i hi]
  unfold wY
  by_cases q : v.F i ≤ z ∧ z ≤ v.F i + v.M i - 1
  · rw [if_pos q, if_pos q, O.ww i hi _ (by omega)]
  · rw [if_neg q, if_neg q]
theorem wY_in {v : Vw} (V : OkV v) {i : Nat} (hi : i < v.rc) (z : Int) : 0 ≤ wY v i z ∧ wY v i z < 1000000000 ^ 4 := by
  unfold wY
  by_cases q : v.F i ≤ z ∧ z ≤ v.F i + v.M i - 1
  · rw [if_pos q]; exact V.ww i hi _ (by omega)
  · rw [if_neg q]; omega
