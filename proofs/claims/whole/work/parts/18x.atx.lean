/-! The class's state: XS as it is kept in the cells 0 .. 28, Vw as the document sees it -/
def XS : Type := (Nat) × (Int) × (Nat → Int) × (Nat → Int) × (Nat → Nat → Int) × (Nat) × (Nat → Int) × (Nat → Int) × (Nat → Int) × (Nat → Int) × (Nat → Int) × (Nat → Int) × (Nat → Int)
def XS.rc (x : XS) : Nat := x.1
def XS.rs (x : XS) : Int := x.2.1
def XS.ff (x : XS) : Nat → Int := x.2.2.1
def XS.fm (x : XS) : Nat → Int := x.2.2.2.1
def XS.PP (x : XS) : Nat → Nat → Int := x.2.2.2.2.1
def XS.sp (x : XS) : Nat := x.2.2.2.2.2.1
def XS.K (x : XS) : Nat → Int := x.2.2.2.2.2.2.1
def XS.T (x : XS) : Nat → Int := x.2.2.2.2.2.2.2.1
def XS.A (x : XS) : Nat → Int := x.2.2.2.2.2.2.2.2.1
def XS.B (x : XS) : Nat → Int := x.2.2.2.2.2.2.2.2.2.1
def XS.l1 (x : XS) : Nat → Int := x.2.2.2.2.2.2.2.2.2.2.1
def XS.l2 (x : XS) : Nat → Int := x.2.2.2.2.2.2.2.2.2.2.2.1
def XS.l3 (x : XS) : Nat → Int := x.2.2.2.2.2.2.2.2.2.2.2.2
def XS.mk (rc : Nat) (rs : Int) (ff : Nat → Int) (fm : Nat → Int) (PP : Nat → Nat → Int) (sp : Nat) (K : Nat → Int) (T : Nat → Int) (A : Nat → Int) (B : Nat → Int) (l1 : Nat → Int) (l2 : Nat → Int) (l3 : Nat → Int) : XS := (rc, rs, ff, fm, PP, sp, K, T, A, B, l1, l2, l3)
def XS.s_rc (x : XS) (z : Nat) : XS := (z, x.2.1, x.2.2.1, x.2.2.2.1, x.2.2.2.2.1, x.2.2.2.2.2.1, x.2.2.2.2.2.2.1, x.2.2.2.2.2.2.2.1, x.2.2.2.2.2.2.2.2.1, x.2.2.2.2.2.2.2.2.2.1, x.2.2.2.2.2.2.2.2.2.2.1, x.2.2.2.2.2.2.2.2.2.2.2.1, x.2.2.2.2.2.2.2.2.2.2.2.2)
def XS.s_rs (x : XS) (z : Int) : XS := (x.1, z, x.2.2.1, x.2.2.2.1, x.2.2.2.2.1, x.2.2.2.2.2.1, x.2.2.2.2.2.2.1, x.2.2.2.2.2.2.2.1, x.2.2.2.2.2.2.2.2.1, x.2.2.2.2.2.2.2.2.2.1, x.2.2.2.2.2.2.2.2.2.2.1, x.2.2.2.2.2.2.2.2.2.2.2.1, x.2.2.2.2.2.2.2.2.2.2.2.2)
def XS.s_ff (x : XS) (z : Nat → Int) : XS := (x.1, x.2.1, z, x.2.2.2.1, x.2.2.2.2.1, x.2.2.2.2.2.1, x.2.2.2.2.2.2.1, x.2.2.2.2.2.2.2.1, x.2.2.2.2.2.2.2.2.1, x.2.2.2.2.2.2.2.2.2.1, x.2.2.2.2.2.2.2.2.2.2.1, x.2.2.2.2.2.2.2.2.2.2.2.1, x.2.2.2.2.2.2.2.2.2.2.2.2)
def XS.s_fm (x : XS) (z : Nat → Int) : XS := (x.1, x.2.1, x.2.2.1, z, x.2.2.2.2.1, x.2.2.2.2.2.1, x.2.2.2.2.2.2.1, x.2.2.2.2.2.2.2.1, x.2.2.2.2.2.2.2.2.1, x.2.2.2.2.2.2.2.2.2.1, x.2.2.2.2.2.2.2.2.2.2.1, x.2.2.2.2.2.2.2.2.2.2.2.1, x.2.2.2.2.2.2.2.2.2.2.2.2)
def XS.s_PP (x : XS) (z : Nat → Nat → Int) : XS := (x.1, x.2.1, x.2.2.1, x.2.2.2.1, z, x.2.2.2.2.2.1, x.2.2.2.2.2.2.1, x.2.2.2.2.2.2.2.1, x.2.2.2.2.2.2.2.2.1, x.2.2.2.2.2.2.2.2.2.1, x.2.2.2.2.2.2.2.2.2.2.1, x.2.2.2.2.2.2.2.2.2.2.2.1, x.2.2.2.2.2.2.2.2.2.2.2.2)
def XS.s_sp (x : XS) (z : Nat) : XS := (x.1, x.2.1, x.2.2.1, x.2.2.2.1, x.2.2.2.2.1, z, x.2.2.2.2.2.2.1, x.2.2.2.2.2.2.2.1, x.2.2.2.2.2.2.2.2.1, x.2.2.2.2.2.2.2.2.2.1, x.2.2.2.2.2.2.2.2.2.2.1, x.2.2.2.2.2.2.2.2.2.2.2.1, x.2.2.2.2.2.2.2.2.2.2.2.2)
def XS.s_K (x : XS) (z : Nat → Int) : XS := (x.1, x.2.1, x.2.2.1, x.2.2.2.1, x.2.2.2.2.1, x.2.2.2.2.2.1, z, x.2.2.2.2.2.2.2.1, x.2.2.2.2.2.2.2.2.1, x.2.2.2.2.2.2.2.2.2.1, x.2.2.2.2.2.2.2.2.2.2.1, x.2.2.2.2.2.2.2.2.2.2.2.1, x.2.2.2.2.2.2.2.2.2.2.2.2)
def XS.s_T (x : XS) (z : Nat → Int) : XS := (x.1, x.2.1, x.2.2.1, x.2.2.2.1, x.2.2.2.2.1, x.2.2.2.2.2.1, x.2.2.2.2.2.2.1, z, x.2.2.2.2.2.2.2.2.1, x.2.2.2.2.2.2.2.2.2.1, x.2.2.2.2.2.2.2.2.2.2.1, x.2.2.2.2.2.2.2.2.2.2.2.1, x.2.2.2.2.2.2.2.2.2.2.2.2)
def XS.s_A (x : XS) (z : Nat → Int) : XS := (x.1, x.2.1, x.2.2.1, x.2.2.2.1, x.2.2.2.2.1, x.2.2.2.2.2.1, x.2.2.2.2.2.2.1, x.2.2.2.2.2.2.2.1, z, x.2.2.2.2.2.2.2.2.2.1, x.2.2.2.2.2.2.2.2.2.2.1, x.2.2.2.2.2.2.2.2.2.2.2.1, x.2.2.2.2.2.2.2.2.2.2.2.2)
def XS.s_B (x : XS) (z : Nat → Int) : XS := (x.1, x.2.1, x.2.2.1, x.2.2.2.1, x.2.2.2.2.1, x.2.2.2.2.2.1, x.2.2.2.2.2.2.1, x.2.2.2.2.2.2.2.1, x.2.2.2.2.2.2.2.2.1, z, x.2.2.2.2.2.2.2.2.2.2.1, x.2.2.2.2.2.2.2.2.2.2.2.1, x.2.2.2.2.2.2.2.2.2.2.2.2)
def XS.s_l1 (x : XS) (z : Nat → Int) : XS := (x.1, x.2.1, x.2.2.1, x.2.2.2.1, x.2.2.2.2.1, x.2.2.2.2.2.1, x.2.2.2.2.2.2.1, x.2.2.2.2.2.2.2.1, x.2.2.2.2.2.2.2.2.1, x.2.2.2.2.2.2.2.2.2.1, z, x.2.2.2.2.2.2.2.2.2.2.2.1, x.2.2.2.2.2.2.2.2.2.2.2.2)
def XS.s_l2 (x : XS) (z : Nat → Int) : XS := (x.1, x.2.1, x.2.2.1, x.2.2.2.1, x.2.2.2.2.1, x.2.2.2.2.2.1, x.2.2.2.2.2.2.1, x.2.2.2.2.2.2.2.1, x.2.2.2.2.2.2.2.2.1, x.2.2.2.2.2.2.2.2.2.1, x.2.2.2.2.2.2.2.2.2.2.1, z, x.2.2.2.2.2.2.2.2.2.2.2.2)
def XS.s_l3 (x : XS) (z : Nat → Int) : XS := (x.1, x.2.1, x.2.2.1, x.2.2.2.1, x.2.2.2.2.1, x.2.2.2.2.2.1, x.2.2.2.2.2.2.1, x.2.2.2.2.2.2.2.1, x.2.2.2.2.2.2.2.2.1, x.2.2.2.2.2.2.2.2.2.1, x.2.2.2.2.2.2.2.2.2.2.1, x.2.2.2.2.2.2.2.2.2.2.2.1, z)
def gX (b : Nat) (i : Nat) : Option Nat := if i < 8 then some (b + (2 + 2 * i)) else none
def AtX (d : yD) (b : Nat) (x : XS) (h : yH) : Prop :=
  (h 0 = some (oO 3 [.ref (b + 1), vi x.rc, vj x.rs, .ref (b + 18), .ref (b + 23), .ref (b + 25), .ref (b + 27)])) ∧ (h 1 = some (oA d 3 8 (gX b))) ∧ (h 18 = some (oO 0 [.ref (b + 19), .ref (b + 20), vi x.sp, .ref (b + 21), .ref (b + 22)])) ∧ (h 19 = some (oI d 48 x.K)) ∧ (h 20 = some (oZ d 48 x.T)) ∧ (h 21 = some (oI d 24 x.A)) ∧ (h 22 = some (oI d 24 x.B)) ∧ (h 23 = some (oO 2 [.ref (b + 24)])) ∧ (h 24 = some (oJ d 8 x.l1)) ∧ (h 25 = some (oO 2 [.ref (b + 26)])) ∧ (h 26 = some (oJ d 8 x.l2)) ∧ (h 27 = some (oO 2 [.ref (b + 28)])) ∧ (h 28 = some (oJ d 8 x.l3)) ∧ (∀ i, i < 8 → h (2 + 2 * i) = some (oO 1 [vi (x.ff i), vi (x.fm i), .ref (b + (3 + 2 * i))])) ∧ (∀ i, i < 8 → h (3 + 2 * i) = some (oJ d 192 (x.PP i)))
theorem AtX.o {d : yD} {b : Nat} {x : XS} {h : yH} (H : AtX d b x h) : h 0 = some (oO 3 [.ref (b + 1), vi x.rc, vj x.rs, .ref (b + 18), .ref (b + 23), .ref (b + 25), .ref (b + 27)]) := H.1
theorem AtX.r {d : yD} {b : Nat} {x : XS} {h : yH} (H : AtX d b x h) : h 1 = some (oA d 3 8 (gX b)) := H.2.1
theorem AtX.s {d : yD} {b : Nat} {x : XS} {h : yH} (H : AtX d b x h) : h 18 = some (oO 0 [.ref (b + 19), .ref (b + 20), vi x.sp, .ref (b + 21), .ref (b + 22)]) := H.2.2.1
theorem AtX.k {d : yD} {b : Nat} {x : XS} {h : yH} (H : AtX d b x h) : h 19 = some (oI d 48 x.K) := H.2.2.2.1
theorem AtX.t {d : yD} {b : Nat} {x : XS} {h : yH} (H : AtX d b x h) : h 20 = some (oZ d 48 x.T) := H.2.2.2.2.1
theorem AtX.a {d : yD} {b : Nat} {x : XS} {h : yH} (H : AtX d b x h) : h 21 = some (oI d 24 x.A) := H.2.2.2.2.2.1
theorem AtX.c {d : yD} {b : Nat} {x : XS} {h : yH} (H : AtX d b x h) : h 22 = some (oI d 24 x.B) := H.2.2.2.2.2.2.1
theorem AtX.o1 {d : yD} {b : Nat} {x : XS} {h : yH} (H : AtX d b x h) : h 23 = some (oO 2 [.ref (b + 24)]) := H.2.2.2.2.2.2.2.1
theorem AtX.p1 {d : yD} {b : Nat} {x : XS} {h : yH} (H : AtX d b x h) : h 24 = some (oJ d 8 x.l1) := H.2.2.2.2.2.2.2.2.1
theorem AtX.o2 {d : yD} {b : Nat} {x : XS} {h : yH} (H : AtX d b x h) : h 25 = some (oO 2 [.ref (b + 26)]) := H.2.2.2.2.2.2.2.2.2.1
theorem AtX.p2 {d : yD} {b : Nat} {x : XS} {h : yH} (H : AtX d b x h) : h 26 = some (oJ d 8 x.l2) := H.2.2.2.2.2.2.2.2.2.2.1
theorem AtX.o3 {d : yD} {b : Nat} {x : XS} {h : yH} (H : AtX d b x h) : h 27 = some (oO 2 [.ref (b + 28)]) := H.2.2.2.2.2.2.2.2.2.2.2.1
theorem AtX.p3 {d : yD} {b : Nat} {x : XS} {h : yH} (H : AtX d b x h) : h 28 = some (oJ d 8 x.l3) := H.2.2.2.2.2.2.2.2.2.2.2.2.1
theorem AtX.w {d : yD} {b : Nat} {x : XS} {h : yH} (H : AtX d b x h) : ∀ i, i < 8 → h (2 + 2 * i) = some (oO 1 [vi (x.ff i), vi (x.fm i), .ref (b + (3 + 2 * i))]) := H.2.2.2.2.2.2.2.2.2.2.2.2.2.1
theorem AtX.p {d : yD} {b : Nat} {x : XS} {h : yH} (H : AtX d b x h) : ∀ i, i < 8 → h (3 + 2 * i) = some (oJ d 192 (x.PP i)) := H.2.2.2.2.2.2.2.2.2.2.2.2.2.2
section AtX
variable {d : yD} {b : Nat} {x : XS} {h : yH}
theorem AtX.set1 (A : AtX d b x h) (G : Nat → Int) : AtX d b (x.s_l1 G) (hs h 24 (oJ d 8 G)) :=
  ⟨(hs_ne _ _ (by omega)).trans A.o, (hs_ne _ _ (by omega)).trans A.r, (hs_ne _ _ (by omega)).trans A.s, (hs_ne _ _ (by omega)).trans A.k, (hs_ne _ _ (by omega)).trans A.t, (hs_ne _ _ (by omega)).trans A.a, (hs_ne _ _ (by omega)).trans A.c, (hs_ne _ _ (by omega)).trans A.o1, hs_eq _ _ _, (hs_ne _ _ (by omega)).trans A.o2, (hs_ne _ _ (by omega)).trans A.p2, (hs_ne _ _ (by omega)).trans A.o3, (hs_ne _ _ (by omega)).trans A.p3, fun j hj => (hs_ne _ _ (by omega)).trans (A.w j hj), fun j hj => (hs_ne _ _ (by omega)).trans (A.p j hj)⟩
theorem AtX.set2 (A : AtX d b x h) (G : Nat → Int) : AtX d b (x.s_l2 G) (hs h 26 (oJ d 8 G)) :=
  ⟨(hs_ne _ _ (by omega)).trans A.o, (hs_ne _ _ (by omega)).trans A.r, (hs_ne _ _ (by omega)).trans A.s, (hs_ne _ _ (by omega)).trans A.k, (hs_ne _ _ (by omega)).trans A.t, (hs_ne _ _ (by omega)).trans A.a, (hs_ne _ _ (by omega)).trans A.c, (hs_ne _ _ (by omega)).trans A.o1, (hs_ne _ _ (by omega)).trans A.p1, (hs_ne _ _ (by omega)).trans A.o2, hs_eq _ _ _, (hs_ne _ _ (by omega)).trans A.o3, (hs_ne _ _ (by omega)).trans A.p3, fun j hj => (hs_ne _ _ (by omega)).trans (A.w j hj), fun j hj => (hs_ne _ _ (by omega)).trans (A.p j hj)⟩
theorem AtX.set3 (A : AtX d b x h) (G : Nat → Int) : AtX d b (x.s_l3 G) (hs h 28 (oJ d 8 G)) :=
  ⟨(hs_ne _ _ (by omega)).trans A.o, (hs_ne _ _ (by omega)).trans A.r, (hs_ne _ _ (by omega)).trans A.s, (hs_ne _ _ (by omega)).trans A.k, (hs_ne _ _ (by omega)).trans A.t, (hs_ne _ _ (by omega)).trans A.a, (hs_ne _ _ (by omega)).trans A.c, (hs_ne _ _ (by omega)).trans A.o1, (hs_ne _ _ (by omega)).trans A.p1, (hs_ne _ _ (by omega)).trans A.o2, (hs_ne _ _ (by omega)).trans A.p2, (hs_ne _ _ (by omega)).trans A.o3, hs_eq _ _ _, fun j hj => (hs_ne _ _ (by omega)).trans (A.w j hj), fun j hj => (hs_ne _ _ (by omega)).trans (A.p j hj)⟩
theorem AtX.setK (A : AtX d b x h) (G : Nat → Int) : AtX d b (x.s_K G) (hs h 19 (oI d 48 G)) :=
  ⟨(hs_ne _ _ (by omega)).trans A.o, (hs_ne _ _ (by omega)).trans A.r, (hs_ne _ _ (by omega)).trans A.s, hs_eq _ _ _, (hs_ne _ _ (by omega)).trans A.t, (hs_ne _ _ (by omega)).trans A.a, (hs_ne _ _ (by omega)).trans A.c, (hs_ne _ _ (by omega)).trans A.o1, (hs_ne _ _ (by omega)).trans A.p1, (hs_ne _ _ (by omega)).trans A.o2, (hs_ne _ _ (by omega)).trans A.p2, (hs_ne _ _ (by omega)).trans A.o3, (hs_ne _ _ (by omega)).trans A.p3, fun j hj => (hs_ne _ _ (by omega)).trans (A.w j hj), fun j hj => (hs_ne _ _ (by omega)).trans (A.p j hj)⟩
theorem AtX.setT (A : AtX d b x h) (G : Nat → Int) : AtX d b (x.s_T G) (hs h 20 (oZ d 48 G)) :=
  ⟨(hs_ne _ _ (by omega)).trans A.o, (hs_ne _ _ (by omega)).trans A.r, (hs_ne _ _ (by omega)).trans A.s, (hs_ne _ _ (by omega)).trans A.k, hs_eq _ _ _, (hs_ne _ _ (by omega)).trans A.a, (hs_ne _ _ (by omega)).trans A.c, (hs_ne _ _ (by omega)).trans A.o1, (hs_ne _ _ (by omega)).trans A.p1, (hs_ne _ _ (by omega)).trans A.o2, (hs_ne _ _ (by omega)).trans A.p2, (hs_ne _ _ (by omega)).trans A.o3, (hs_ne _ _ (by omega)).trans A.p3, fun j hj => (hs_ne _ _ (by omega)).trans (A.w j hj), fun j hj => (hs_ne _ _ (by omega)).trans (A.p j hj)⟩
theorem AtX.setA (A : AtX d b x h) (G : Nat → Int) : AtX d b (x.s_A G) (hs h 21 (oI d 24 G)) :=
  ⟨(hs_ne _ _ (by omega)).trans A.o, (hs_ne _ _ (by omega)).trans A.r, (hs_ne _ _ (by omega)).trans A.s, (hs_ne _ _ (by omega)).trans A.k, (hs_ne _ _ (by omega)).trans A.t, hs_eq _ _ _, (hs_ne _ _ (by omega)).trans A.c, (hs_ne _ _ (by omega)).trans A.o1, (hs_ne _ _ (by omega)).trans A.p1, (hs_ne _ _ (by omega)).trans A.o2, (hs_ne _ _ (by omega)).trans A.p2, (hs_ne _ _ (by omega)).trans A.o3, (hs_ne _ _ (by omega)).trans A.p3, fun j hj => (hs_ne _ _ (by omega)).trans (A.w j hj), fun j hj => (hs_ne _ _ (by omega)).trans (A.p j hj)⟩
theorem AtX.setB (A : AtX d b x h) (G : Nat → Int) : AtX d b (x.s_B G) (hs h 22 (oI d 24 G)) :=
  ⟨(hs_ne _ _ (by omega)).trans A.o, (hs_ne _ _ (by omega)).trans A.r, (hs_ne _ _ (by omega)).trans A.s, (hs_ne _ _ (by omega)).trans A.k, (hs_ne _ _ (by omega)).trans A.t, (hs_ne _ _ (by omega)).trans A.a, hs_eq _ _ _, (hs_ne _ _ (by omega)).trans A.o1, (hs_ne _ _ (by omega)).trans A.p1, (hs_ne _ _ (by omega)).trans A.o2, (hs_ne _ _ (by omega)).trans A.p2, (hs_ne _ _ (by omega)).trans A.o3, (hs_ne _ _ (by omega)).trans A.p3, fun j hj => (hs_ne _ _ (by omega)).trans (A.w j hj), fun j hj => (hs_ne _ _ (by omega)).trans (A.p j hj)⟩
theorem AtX.setSp (A : AtX d b x h) (k : Nat) : AtX d b (x.s_sp k) (hs h 18 (oO 0 [.ref (b + 19), .ref (b + 20), vi k, .ref (b + 21), .ref (b + 22)])) :=
  ⟨(hs_ne _ _ (by omega)).trans A.o, (hs_ne _ _ (by omega)).trans A.r, hs_eq _ _ _, (hs_ne _ _ (by omega)).trans A.k, (hs_ne _ _ (by omega)).trans A.t, (hs_ne _ _ (by omega)).trans A.a, (hs_ne _ _ (by omega)).trans A.c, (hs_ne _ _ (by omega)).trans A.o1, (hs_ne _ _ (by omega)).trans A.p1, (hs_ne _ _ (by omega)).trans A.o2, (hs_ne _ _ (by omega)).trans A.p2, (hs_ne _ _ (by omega)).trans A.o3, (hs_ne _ _ (by omega)).trans A.p3, fun j hj => (hs_ne _ _ (by omega)).trans (A.w j hj), fun j hj => (hs_ne _ _ (by omega)).trans (A.p j hj)⟩
theorem AtX.setRc (A : AtX d b x h) (k : Nat) : AtX d b (x.s_rc k) (hs h 0 (oO 3 [.ref (b + 1), vi k, vj x.rs, .ref (b + 18), .ref (b + 23), .ref (b + 25), .ref (b + 27)])) :=
  ⟨hs_eq _ _ _, (hs_ne _ _ (by omega)).trans A.r, (hs_ne _ _ (by omega)).trans A.s, (hs_ne _ _ (by omega)).trans A.k, (hs_ne _ _ (by omega)).trans A.t, (hs_ne _ _ (by omega)).trans A.a, (hs_ne _ _ (by omega)).trans A.c, (hs_ne _ _ (by omega)).trans A.o1, (hs_ne _ _ (by omega)).trans A.p1, (hs_ne _ _ (by omega)).trans A.o2, (hs_ne _ _ (by omega)).trans A.p2, (hs_ne _ _ (by omega)).trans A.o3, (hs_ne _ _ (by omega)).trans A.p3, fun j hj => (hs_ne _ _ (by omega)).trans (A.w j hj), fun j hj => (hs_ne _ _ (by omega)).trans (A.p j hj)⟩
theorem AtX.setRs (A : AtX d b x h) (z : Int) : AtX d b (x.s_rs z) (hs h 0 (oO 3 [.ref (b + 1), vi x.rc, vj z, .ref (b + 18), .ref (b + 23), .ref (b + 25), .ref (b + 27)])) :=
  ⟨hs_eq _ _ _, (hs_ne _ _ (by omega)).trans A.r, (hs_ne _ _ (by omega)).trans A.s, (hs_ne _ _ (by omega)).trans A.k, (hs_ne _ _ (by omega)).trans A.t, (hs_ne _ _ (by omega)).trans A.a, (hs_ne _ _ (by omega)).trans A.c, (hs_ne _ _ (by omega)).trans A.o1, (hs_ne _ _ (by omega)).trans A.p1, (hs_ne _ _ (by omega)).trans A.o2, (hs_ne _ _ (by omega)).trans A.p2, (hs_ne _ _ (by omega)).trans A.o3, (hs_ne _ _ (by omega)).trans A.p3, fun j hj => (hs_ne _ _ (by omega)).trans (A.w j hj), fun j hj => (hs_ne _ _ (by omega)).trans (A.p j hj)⟩
theorem AtX.setW (A : AtX d b x h) {i : Nat} (hi : i < 8) (f m : Int) : AtX d b ((x.s_ff (fu x.ff i f)).s_fm (fu x.fm i m)) (hs h (2 + 2 * i) (oO 1 [vi f, vi m, .ref (b + (3 + 2 * i))])) :=
  have e1 : (((x.s_ff (fu x.ff i f)).s_fm (fu x.fm i m))).ff i = f := fu_eq _ _ _
  have e2 : (((x.s_ff (fu x.ff i f)).s_fm (fu x.fm i m))).fm i = m := fu_eq _ _ _
  have e3 : ∀ j, j ≠ i → (((x.s_ff (fu x.ff i f)).s_fm (fu x.fm i m))).ff j = x.ff j := fun j hj => fu_ne _ _ hj
  have e4 : ∀ j, j ≠ i → (((x.s_ff (fu x.ff i f)).s_fm (fu x.fm i m))).fm j = x.fm j := fun j hj => fu_ne _ _ hj
  ⟨(hs_ne _ _ (by omega)).trans A.o, (hs_ne _ _ (by omega)).trans A.r, (hs_ne _ _ (by omega)).trans A.s, (hs_ne _ _ (by omega)).trans A.k, (hs_ne _ _ (by omega)).trans A.t, (hs_ne _ _ (by omega)).trans A.a, (hs_ne _ _ (by omega)).trans A.c, (hs_ne _ _ (by omega)).trans A.o1, (hs_ne _ _ (by omega)).trans A.p1, (hs_ne _ _ (by omega)).trans A.o2, (hs_ne _ _ (by omega)).trans A.p2, (hs_ne _ _ (by omega)).trans A.o3, (hs_ne _ _ (by omega)).trans A.p3, fun j hj => by
    by_cases e : j = i
    · subst e; rw [hs_eq, e1, e2]
    · rw [hs_ne _ _ (by omega), e3 j e, e4 j e]; exact A.w j hj, fun j hj => (hs_ne _ _ (by omega)).trans (A.p j hj)⟩
theorem AtX.setP (A : AtX d b x h) {i : Nat} (hi : i < 8) (G : Nat → Int) : AtX d b (x.s_PP (fu x.PP i G)) (hs h (3 + 2 * i) (oJ d 192 G)) :=
  have e1 : ((x.s_PP (fu x.PP i G))).PP i = G := fu_eq _ _ _
  have e3 : ∀ j, j ≠ i → ((x.s_PP (fu x.PP i G))).PP j = x.PP j := fun j hj => fu_ne _ _ hj
  ⟨(hs_ne _ _ (by omega)).trans A.o, (hs_ne _ _ (by omega)).trans A.r, (hs_ne _ _ (by omega)).trans A.s, (hs_ne _ _ (by omega)).trans A.k, (hs_ne _ _ (by omega)).trans A.t, (hs_ne _ _ (by omega)).trans A.a, (hs_ne _ _ (by omega)).trans A.c, (hs_ne _ _ (by omega)).trans A.o1, (hs_ne _ _ (by omega)).trans A.p1, (hs_ne _ _ (by omega)).trans A.o2, (hs_ne _ _ (by omega)).trans A.p2, (hs_ne _ _ (by omega)).trans A.o3, (hs_ne _ _ (by omega)).trans A.p3, fun j hj => (hs_ne _ _ (by omega)).trans (A.w j hj), fun j hj => by
    by_cases e : j = i
    · subst e; rw [hs_eq, e1]
    · rw [hs_ne _ _ (by omega), e3 j e]; exact A.p j hj⟩
end AtX
def Vw : Type := (Nat) × (Nat → Int) × (Nat → Nat) × (Nat → Nat → Int) × (Int) × (Nat) × (Nat → Int) × (Nat → Int)
def Vw.rc (x : Vw) : Nat := x.1
def Vw.F (x : Vw) : Nat → Int := x.2.1
def Vw.M (x : Vw) : Nat → Nat := x.2.2.1
def Vw.W (x : Vw) : Nat → Nat → Int := x.2.2.2.1
def Vw.rs (x : Vw) : Int := x.2.2.2.2.1
def Vw.sn (x : Vw) : Nat := x.2.2.2.2.2.1
def Vw.sa (x : Vw) : Nat → Int := x.2.2.2.2.2.2.1
def Vw.sb (x : Vw) : Nat → Int := x.2.2.2.2.2.2.2
def Vw.mk (rc : Nat) (F : Nat → Int) (M : Nat → Nat) (W : Nat → Nat → Int) (rs : Int) (sn : Nat) (sa : Nat → Int) (sb : Nat → Int) : Vw := (rc, F, M, W, rs, sn, sa, sb)
def Vw.s_rc (x : Vw) (z : Nat) : Vw := (z, x.2.1, x.2.2.1, x.2.2.2.1, x.2.2.2.2.1, x.2.2.2.2.2.1, x.2.2.2.2.2.2.1, x.2.2.2.2.2.2.2)
def Vw.s_F (x : Vw) (z : Nat → Int) : Vw := (x.1, z, x.2.2.1, x.2.2.2.1, x.2.2.2.2.1, x.2.2.2.2.2.1, x.2.2.2.2.2.2.1, x.2.2.2.2.2.2.2)
def Vw.s_M (x : Vw) (z : Nat → Nat) : Vw := (x.1, x.2.1, z, x.2.2.2.1, x.2.2.2.2.1, x.2.2.2.2.2.1, x.2.2.2.2.2.2.1, x.2.2.2.2.2.2.2)
def Vw.s_W (x : Vw) (z : Nat → Nat → Int) : Vw := (x.1, x.2.1, x.2.2.1, z, x.2.2.2.2.1, x.2.2.2.2.2.1, x.2.2.2.2.2.2.1, x.2.2.2.2.2.2.2)
def Vw.s_rs (x : Vw) (z : Int) : Vw := (x.1, x.2.1, x.2.2.1, x.2.2.2.1, z, x.2.2.2.2.2.1, x.2.2.2.2.2.2.1, x.2.2.2.2.2.2.2)
def Vw.s_sn (x : Vw) (z : Nat) : Vw := (x.1, x.2.1, x.2.2.1, x.2.2.2.1, x.2.2.2.2.1, z, x.2.2.2.2.2.2.1, x.2.2.2.2.2.2.2)
def Vw.s_sa (x : Vw) (z : Nat → Int) : Vw := (x.1, x.2.1, x.2.2.1, x.2.2.2.1, x.2.2.2.2.1, x.2.2.2.2.2.1, z, x.2.2.2.2.2.2.2)
def Vw.s_sb (x : Vw) (z : Nat → Int) : Vw := (x.1, x.2.1, x.2.2.1, x.2.2.2.1, x.2.2.2.2.1, x.2.2.2.2.2.1, x.2.2.2.2.2.2.1, z)
def OkX (x : XS) (v : Vw) : Prop :=
  (x.rc = v.rc) ∧ (x.rs = v.rs) ∧ (x.sp = v.sn) ∧ (∀ i, i < v.rc → x.ff i = v.F i) ∧ (∀ i, i < v.rc → x.fm i = v.M i) ∧ (∀ i, i < v.rc → ∀ q, q < v.M i → wt (x.PP i) q = v.W i q) ∧ (∀ i, i < 8 → dig (x.PP i) 192) ∧ (∀ k, k < v.sn → x.A k = v.sa k) ∧ (∀ k, k < v.sn → x.B k = v.sb k)
theorem OkX.rc {x : XS} {v : Vw} (H : OkX x v) : x.rc = v.rc := H.1
theorem OkX.rs {x : XS} {v : Vw} (H : OkX x v) : x.rs = v.rs := H.2.1
theorem OkX.sp {x : XS} {v : Vw} (H : OkX x v) : x.sp = v.sn := H.2.2.1
theorem OkX.ff {x : XS} {v : Vw} (H : OkX x v) : ∀ i, i < v.rc → x.ff i = v.F i := H.2.2.2.1
theorem OkX.fm {x : XS} {v : Vw} (H : OkX x v) : ∀ i, i < v.rc → x.fm i = v.M i := H.2.2.2.2.1
theorem OkX.ww {x : XS} {v : Vw} (H : OkX x v) : ∀ i, i < v.rc → ∀ q, q < v.M i → wt (x.PP i) q = v.W i q := H.2.2.2.2.2.1
theorem OkX.dg {x : XS} {v : Vw} (H : OkX x v) : ∀ i, i < 8 → dig (x.PP i) 192 := H.2.2.2.2.2.2.1
theorem OkX.sa {x : XS} {v : Vw} (H : OkX x v) : ∀ k, k < v.sn → x.A k = v.sa k := H.2.2.2.2.2.2.2.1
theorem OkX.sb {x : XS} {v : Vw} (H : OkX x v) : ∀ k, k < v.sn → x.B k = v.sb k := H.2.2.2.2.2.2.2.2
def OkV (v : Vw) : Prop :=
  (v.rc ≤ 8) ∧ (∀ i, i < v.rc → rowOk (v.F i) (v.M i)) ∧ (∀ i, i < v.rc → ∀ q, q < v.M i → 0 ≤ v.W i q ∧ v.W i q < 1000000000 ^ 4) ∧ (v.sn ≤ 24) ∧ (0 ≤ v.rs ∧ v.rs ≤ 48000000000) ∧ (∀ k, k < v.sn → inI (v.sa k)) ∧ (∀ k, k < v.sn → inI (v.sb k))
theorem OkV.rc {v : Vw} (H : OkV v) : v.rc ≤ 8 := H.1
theorem OkV.ok {v : Vw} (H : OkV v) : ∀ i, i < v.rc → rowOk (v.F i) (v.M i) := H.2.1
theorem OkV.ww {v : Vw} (H : OkV v) : ∀ i, i < v.rc → ∀ q, q < v.M i → 0 ≤ v.W i q ∧ v.W i q < 1000000000 ^ 4 := H.2.2.1
theorem OkV.sn {v : Vw} (H : OkV v) : v.sn ≤ 24 := H.2.2.2.1
theorem OkV.rs {v : Vw} (H : OkV v) : 0 ≤ v.rs ∧ v.rs ≤ 48000000000 := H.2.2.2.2.1
theorem OkV.sa {v : Vw} (H : OkV v) : ∀ k, k < v.sn → inI (v.sa k) := H.2.2.2.2.2.1
theorem OkV.sb {v : Vw} (H : OkV v) : ∀ k, k < v.sn → inI (v.sb k) := H.2.2.2.2.2.2
def RepX (d : yD) (b : Nat) (h : yH) (v : Vw) : Prop := ∃ x, AtX d b x h ∧ OkX x v
/-- the cells of others stand as they were -/
def FrX (h h' : yH) : Prop := ∀ k, 29 ≤ k → h' k = h k
theorem FrX.rfl {h : yH} : FrX h h := fun _ _ => Eq.refl _
theorem FrX.set {h h' : yH} (H : FrX h h') {k : Nat} (hk : k < 29) (e : va_E) : FrX h (hs h' k e) := fun j hj => (hs_ne _ _ (by omega)).trans (H j hj)
abbrev PX (d : yD) (b : Nat) (h h' : yH) (v : Vw) : Prop := RepX d b h' v ∧ FrX h h'
/-- is there such a row; has it that year -/
abbrev isR (v : Vw) (r : Int) : Prop := 0 ≤ r ∧ r < v.rc
abbrev hasY (v : Vw) (r z : Int) : Prop := isR v r ∧ v.F r.toNat ≤ z ∧ z ≤ v.F r.toNat + v.M r.toNat - 1
abbrev xnI : String := "java/lang/IndexOutOfBoundsException"
abbrev xnS : String := "java/lang/IllegalStateException"
abbrev xnA : String := "java/lang/IllegalArgumentException"
abbrev xnM : String := "java/lang/ArithmeticException"
theorem OkX.row {x : XS} {v : Vw} (O : OkX x v) (V : OkV v) {i : Nat} (hi : i < v.rc) : rowOk (x.ff i) (x.fm i) := by rw [O.ff i hi, O.fm i hi]; exact V.ok i hi
/-- what leaves rows and spans as they are -/
theorem OkX.of {x x' : XS} {v : Vw} (O : OkX x v) (h1 : x'.rc = x.rc) (h2 : x'.rs = x.rs) (h3 : x'.sp = x.sp) (h4 : ∀ i, i < v.rc → x'.ff i = x.ff i) (h5 : ∀ i, i < v.rc → x'.fm i = x.fm i) (h6 : ∀ i, i < v.rc → x'.PP i = x.PP i) (h7 : ∀ i, i < 8 → dig (x'.PP i) 192) (h8 : x'.A = x.A) (h9 : x'.B = x.B) : OkX x' v :=
  ⟨h1.trans O.rc, h2.trans O.rs, h3.trans O.sp, fun i hi => (h4 i hi).trans (O.ff i hi), fun i hi => (h5 i hi).trans (O.fm i hi), fun i hi q hq => by rw [h6 i hi]; exact O.ww i hi q hq, h7, fun k hk => by rw [h8]; exact O.sa k hk, fun k hk => by rw [h9]; exact O.sb k hk⟩
theorem OkX.s1 {x : XS} {v : Vw} (O : OkX x v) (G : Nat → Int) : OkX (x.s_l1 G) v := O
theorem OkX.s2 {x : XS} {v : Vw} (O : OkX x v) (G : Nat → Int) : OkX (x.s_l2 G) v := O
theorem OkX.s3 {x : XS} {v : Vw} (O : OkX x v) (G : Nat → Int) : OkX (x.s_l3 G) v := O
