/-! The reference's state: YS as it is kept in the cells 29 .. 37 -/
def YS : Type := (Int) × (Nat) × (Int) × (Nat) × (Nat → Int) × (Nat → Int) × (Nat → Int) × (Nat → Int) × (Nat → Int) × (Nat → Int) × (Nat → Int) × (Nat → Int)
def YS.th (x : YS) : Int := x.1
def YS.rc (x : YS) : Nat := x.2.1
def YS.rs (x : YS) : Int := x.2.2.1
def YS.sp (x : YS) : Nat := x.2.2.2.1
def YS.fs (x : YS) : Nat → Int := x.2.2.2.2.1
def YS.sz (x : YS) : Nat → Int := x.2.2.2.2.2.1
def YS.D (x : YS) : Nat → Int := x.2.2.2.2.2.2.1
def YS.st (x : YS) : Nat → Int := x.2.2.2.2.2.2.2.1
def YS.en (x : YS) : Nat → Int := x.2.2.2.2.2.2.2.2.1
def YS.wd (x : YS) : Nat → Int := x.2.2.2.2.2.2.2.2.2.1
def YS.ot (x : YS) : Nat → Int := x.2.2.2.2.2.2.2.2.2.2.1
def YS.ch (x : YS) : Nat → Int := x.2.2.2.2.2.2.2.2.2.2.2
def YS.mk (th : Int) (rc : Nat) (rs : Int) (sp : Nat) (fs : Nat → Int) (sz : Nat → Int) (D : Nat → Int) (st : Nat → Int) (en : Nat → Int) (wd : Nat → Int) (ot : Nat → Int) (ch : Nat → Int) : YS := (th, rc, rs, sp, fs, sz, D, st, en, wd, ot, ch)
def YS.s_th (x : YS) (z : Int) : YS := (z, x.2.1, x.2.2.1, x.2.2.2.1, x.2.2.2.2.1, x.2.2.2.2.2.1, x.2.2.2.2.2.2.1, x.2.2.2.2.2.2.2.1, x.2.2.2.2.2.2.2.2.1, x.2.2.2.2.2.2.2.2.2.1, x.2.2.2.2.2.2.2.2.2.2.1, x.2.2.2.2.2.2.2.2.2.2.2)
def YS.s_rc (x : YS) (z : Nat) : YS := (x.1, z, x.2.2.1, x.2.2.2.1, x.2.2.2.2.1, x.2.2.2.2.2.1, x.2.2.2.2.2.2.1, x.2.2.2.2.2.2.2.1, x.2.2.2.2.2.2.2.2.1, x.2.2.2.2.2.2.2.2.2.1, x.2.2.2.2.2.2.2.2.2.2.1, x.2.2.2.2.2.2.2.2.2.2.2)
def YS.s_rs (x : YS) (z : Int) : YS := (x.1, x.2.1, z, x.2.2.2.1, x.2.2.2.2.1, x.2.2.2.2.2.1, x.2.2.2.2.2.2.1, x.2.2.2.2.2.2.2.1, x.2.2.2.2.2.2.2.2.1, x.2.2.2.2.2.2.2.2.2.1, x.2.2.2.2.2.2.2.2.2.2.1, x.2.2.2.2.2.2.2.2.2.2.2)
def YS.s_sp (x : YS) (z : Nat) : YS := (x.1, x.2.1, x.2.2.1, z, x.2.2.2.2.1, x.2.2.2.2.2.1, x.2.2.2.2.2.2.1, x.2.2.2.2.2.2.2.1, x.2.2.2.2.2.2.2.2.1, x.2.2.2.2.2.2.2.2.2.1, x.2.2.2.2.2.2.2.2.2.2.1, x.2.2.2.2.2.2.2.2.2.2.2)
def YS.s_fs (x : YS) (z : Nat → Int) : YS := (x.1, x.2.1, x.2.2.1, x.2.2.2.1, z, x.2.2.2.2.2.1, x.2.2.2.2.2.2.1, x.2.2.2.2.2.2.2.1, x.2.2.2.2.2.2.2.2.1, x.2.2.2.2.2.2.2.2.2.1, x.2.2.2.2.2.2.2.2.2.2.1, x.2.2.2.2.2.2.2.2.2.2.2)
def YS.s_sz (x : YS) (z : Nat → Int) : YS := (x.1, x.2.1, x.2.2.1, x.2.2.2.1, x.2.2.2.2.1, z, x.2.2.2.2.2.2.1, x.2.2.2.2.2.2.2.1, x.2.2.2.2.2.2.2.2.1, x.2.2.2.2.2.2.2.2.2.1, x.2.2.2.2.2.2.2.2.2.2.1, x.2.2.2.2.2.2.2.2.2.2.2)
def YS.s_D (x : YS) (z : Nat → Int) : YS := (x.1, x.2.1, x.2.2.1, x.2.2.2.1, x.2.2.2.2.1, x.2.2.2.2.2.1, z, x.2.2.2.2.2.2.2.1, x.2.2.2.2.2.2.2.2.1, x.2.2.2.2.2.2.2.2.2.1, x.2.2.2.2.2.2.2.2.2.2.1, x.2.2.2.2.2.2.2.2.2.2.2)
def YS.s_st (x : YS) (z : Nat → Int) : YS := (x.1, x.2.1, x.2.2.1, x.2.2.2.1, x.2.2.2.2.1, x.2.2.2.2.2.1, x.2.2.2.2.2.2.1, z, x.2.2.2.2.2.2.2.2.1, x.2.2.2.2.2.2.2.2.2.1, x.2.2.2.2.2.2.2.2.2.2.1, x.2.2.2.2.2.2.2.2.2.2.2)
def YS.s_en (x : YS) (z : Nat → Int) : YS := (x.1, x.2.1, x.2.2.1, x.2.2.2.1, x.2.2.2.2.1, x.2.2.2.2.2.1, x.2.2.2.2.2.2.1, x.2.2.2.2.2.2.2.1, z, x.2.2.2.2.2.2.2.2.2.1, x.2.2.2.2.2.2.2.2.2.2.1, x.2.2.2.2.2.2.2.2.2.2.2)
def YS.s_wd (x : YS) (z : Nat → Int) : YS := (x.1, x.2.1, x.2.2.1, x.2.2.2.1, x.2.2.2.2.1, x.2.2.2.2.2.1, x.2.2.2.2.2.2.1, x.2.2.2.2.2.2.2.1, x.2.2.2.2.2.2.2.2.1, z, x.2.2.2.2.2.2.2.2.2.2.1, x.2.2.2.2.2.2.2.2.2.2.2)
def YS.s_ot (x : YS) (z : Nat → Int) : YS := (x.1, x.2.1, x.2.2.1, x.2.2.2.1, x.2.2.2.2.1, x.2.2.2.2.2.1, x.2.2.2.2.2.2.1, x.2.2.2.2.2.2.2.1, x.2.2.2.2.2.2.2.2.1, x.2.2.2.2.2.2.2.2.2.1, z, x.2.2.2.2.2.2.2.2.2.2.2)
def YS.s_ch (x : YS) (z : Nat → Int) : YS := (x.1, x.2.1, x.2.2.1, x.2.2.2.1, x.2.2.2.2.1, x.2.2.2.2.2.1, x.2.2.2.2.2.2.1, x.2.2.2.2.2.2.2.1, x.2.2.2.2.2.2.2.2.1, x.2.2.2.2.2.2.2.2.2.1, x.2.2.2.2.2.2.2.2.2.2.1, z)
def AtM (d : yD) (b : Nat) (y : YS) (h : yH) : Prop :=
  (h 29 = some (oO 4 [vi y.th, vi y.rc, .ref (b + 30), .ref (b + 31), .ref (b + 32), vj y.rs, vi y.sp, .ref (b + 33), .ref (b + 34), .ref (b + 35), .ref (b + 36), .ref (b + 37)])) ∧ (h 30 = some (oI d 8 y.fs)) ∧ (h 31 = some (oI d 8 y.sz)) ∧ (h 32 = some (oI d 13824 y.D)) ∧ (h 33 = some (oI d 48 y.st)) ∧ (h 34 = some (oI d 48 y.en)) ∧ (h 35 = some (oI d 80 y.wd)) ∧ (h 36 = some (oI d 80 y.ot)) ∧ (h 37 = some (oZ d 48 y.ch))
theorem AtM.o {d : yD} {b : Nat} {y : YS} {h : yH} (H : AtM d b y h) : h 29 = some (oO 4 [vi y.th, vi y.rc, .ref (b + 30), .ref (b + 31), .ref (b + 32), vj y.rs, vi y.sp, .ref (b + 33), .ref (b + 34), .ref (b + 35), .ref (b + 36), .ref (b + 37)]) := H.1
theorem AtM.f {d : yD} {b : Nat} {y : YS} {h : yH} (H : AtM d b y h) : h 30 = some (oI d 8 y.fs) := H.2.1
theorem AtM.z {d : yD} {b : Nat} {y : YS} {h : yH} (H : AtM d b y h) : h 31 = some (oI d 8 y.sz) := H.2.2.1
theorem AtM.g {d : yD} {b : Nat} {y : YS} {h : yH} (H : AtM d b y h) : h 32 = some (oI d 13824 y.D) := H.2.2.2.1
theorem AtM.s {d : yD} {b : Nat} {y : YS} {h : yH} (H : AtM d b y h) : h 33 = some (oI d 48 y.st) := H.2.2.2.2.1
theorem AtM.e {d : yD} {b : Nat} {y : YS} {h : yH} (H : AtM d b y h) : h 34 = some (oI d 48 y.en) := H.2.2.2.2.2.1
theorem AtM.w {d : yD} {b : Nat} {y : YS} {h : yH} (H : AtM d b y h) : h 35 = some (oI d 80 y.wd) := H.2.2.2.2.2.2.1
theorem AtM.q {d : yD} {b : Nat} {y : YS} {h : yH} (H : AtM d b y h) : h 36 = some (oI d 80 y.ot) := H.2.2.2.2.2.2.2.1
theorem AtM.c {d : yD} {b : Nat} {y : YS} {h : yH} (H : AtM d b y h) : h 37 = some (oZ d 48 y.ch) := H.2.2.2.2.2.2.2.2
section AtM
variable {d : yD} {b : Nat} {y : YS} {h : yH}
theorem AtM.setF (A : AtM d b y h) (G : Nat → Int) : AtM d b (y.s_fs G) (hs h 30 (oI d 8 G)) :=
  ⟨(hs_ne _ _ (by omega)).trans A.o, hs_eq _ _ _, (hs_ne _ _ (by omega)).trans A.z, (hs_ne _ _ (by omega)).trans A.g, (hs_ne _ _ (by omega)).trans A.s, (hs_ne _ _ (by omega)).trans A.e, (hs_ne _ _ (by omega)).trans A.w, (hs_ne _ _ (by omega)).trans A.q, (hs_ne _ _ (by omega)).trans A.c⟩
theorem AtM.setZ (A : AtM d b y h) (G : Nat → Int) : AtM d b (y.s_sz G) (hs h 31 (oI d 8 G)) :=
  ⟨(hs_ne _ _ (by omega)).trans A.o, (hs_ne _ _ (by omega)).trans A.f, hs_eq _ _ _, (hs_ne _ _ (by omega)).trans A.g, (hs_ne _ _ (by omega)).trans A.s, (hs_ne _ _ (by omega)).trans A.e, (hs_ne _ _ (by omega)).trans A.w, (hs_ne _ _ (by omega)).trans A.q, (hs_ne _ _ (by omega)).trans A.c⟩
theorem AtM.setD (A : AtM d b y h) (G : Nat → Int) : AtM d b (y.s_D G) (hs h 32 (oI d 13824 G)) :=
  ⟨(hs_ne _ _ (by omega)).trans A.o, (hs_ne _ _ (by omega)).trans A.f, (hs_ne _ _ (by omega)).trans A.z, hs_eq _ _ _, (hs_ne _ _ (by omega)).trans A.s, (hs_ne _ _ (by omega)).trans A.e, (hs_ne _ _ (by omega)).trans A.w, (hs_ne _ _ (by omega)).trans A.q, (hs_ne _ _ (by omega)).trans A.c⟩
theorem AtM.setS (A : AtM d b y h) (G : Nat → Int) : AtM d b (y.s_st G) (hs h 33 (oI d 48 G)) :=
  ⟨(hs_ne _ _ (by omega)).trans A.o, (hs_ne _ _ (by omega)).trans A.f, (hs_ne _ _ (by omega)).trans A.z, (hs_ne _ _ (by omega)).trans A.g, hs_eq _ _ _, (hs_ne _ _ (by omega)).trans A.e, (hs_ne _ _ (by omega)).trans A.w, (hs_ne _ _ (by omega)).trans A.q, (hs_ne _ _ (by omega)).trans A.c⟩
theorem AtM.setE (A : AtM d b y h) (G : Nat → Int) : AtM d b (y.s_en G) (hs h 34 (oI d 48 G)) :=
  ⟨(hs_ne _ _ (by omega)).trans A.o, (hs_ne _ _ (by omega)).trans A.f, (hs_ne _ _ (by omega)).trans A.z, (hs_ne _ _ (by omega)).trans A.g, (hs_ne _ _ (by omega)).trans A.s, hs_eq _ _ _, (hs_ne _ _ (by omega)).trans A.w, (hs_ne _ _ (by omega)).trans A.q, (hs_ne _ _ (by omega)).trans A.c⟩
theorem AtM.setW (A : AtM d b y h) (G : Nat → Int) : AtM d b (y.s_wd G) (hs h 35 (oI d 80 G)) :=
  ⟨(hs_ne _ _ (by omega)).trans A.o, (hs_ne _ _ (by omega)).trans A.f, (hs_ne _ _ (by omega)).trans A.z, (hs_ne _ _ (by omega)).trans A.g, (hs_ne _ _ (by omega)).trans A.s, (hs_ne _ _ (by omega)).trans A.e, hs_eq _ _ _, (hs_ne _ _ (by omega)).trans A.q, (hs_ne _ _ (by omega)).trans A.c⟩
theorem AtM.setQ (A : AtM d b y h) (G : Nat → Int) : AtM d b (y.s_ot G) (hs h 36 (oI d 80 G)) :=
  ⟨(hs_ne _ _ (by omega)).trans A.o, (hs_ne _ _ (by omega)).trans A.f, (hs_ne _ _ (by omega)).trans A.z, (hs_ne _ _ (by omega)).trans A.g, (hs_ne _ _ (by omega)).trans A.s, (hs_ne _ _ (by omega)).trans A.e, (hs_ne _ _ (by omega)).trans A.w, hs_eq _ _ _, (hs_ne _ _ (by omega)).trans A.c⟩
theorem AtM.setC (A : AtM d b y h) (G : Nat → Int) : AtM d b (y.s_ch G) (hs h 37 (oZ d 48 G)) :=
  ⟨(hs_ne _ _ (by omega)).trans A.o, (hs_ne _ _ (by omega)).trans A.f, (hs_ne _ _ (by omega)).trans A.z, (hs_ne _ _ (by omega)).trans A.g, (hs_ne _ _ (by omega)).trans A.s, (hs_ne _ _ (by omega)).trans A.e, (hs_ne _ _ (by omega)).trans A.w, (hs_ne _ _ (by omega)).trans A.q, hs_eq _ _ _⟩
theorem AtM.setTh (A : AtM d b y h) (k : Int) : AtM d b (y.s_th k) (hs h 29 (oO 4 [vi k, vi y.rc, .ref (b + 30), .ref (b + 31), .ref (b + 32), vj y.rs, vi y.sp, .ref (b + 33), .ref (b + 34), .ref (b + 35), .ref (b + 36), .ref (b + 37)])) :=
  ⟨hs_eq _ _ _, (hs_ne _ _ (by omega)).trans A.f, (hs_ne _ _ (by omega)).trans A.z, (hs_ne _ _ (by omega)).trans A.g, (hs_ne _ _ (by omega)).trans A.s, (hs_ne _ _ (by omega)).trans A.e, (hs_ne _ _ (by omega)).trans A.w, (hs_ne _ _ (by omega)).trans A.q, (hs_ne _ _ (by omega)).trans A.c⟩
theorem AtM.setRc (A : AtM d b y h) (k : Nat) : AtM d b (y.s_rc k) (hs h 29 (oO 4 [vi y.th, vi k, .ref (b + 30), .ref (b + 31), .ref (b + 32), vj y.rs, vi y.sp, .ref (b + 33), .ref (b + 34), .ref (b + 35), .ref (b + 36), .ref (b + 37)])) :=
  ⟨hs_eq _ _ _, (hs_ne _ _ (by omega)).trans A.f, (hs_ne _ _ (by omega)).trans A.z, (hs_ne _ _ (by omega)).trans A.g, (hs_ne _ _ (by omega)).trans A.s, (hs_ne _ _ (by omega)).trans A.e, (hs_ne _ _ (by omega)).trans A.w, (hs_ne _ _ (by omega)).trans A.q, (hs_ne _ _ (by omega)).trans A.c⟩
theorem AtM.setRs (A : AtM d b y h) (k : Int) : AtM d b (y.s_rs k) (hs h 29 (oO 4 [vi y.th, vi y.rc, .ref (b + 30), .ref (b + 31), .ref (b + 32), vj k, vi y.sp, .ref (b + 33), .ref (b + 34), .ref (b + 35), .ref (b + 36), .ref (b + 37)])) :=
  ⟨hs_eq _ _ _, (hs_ne _ _ (by omega)).trans A.f, (hs_ne _ _ (by omega)).trans A.z, (hs_ne _ _ (by omega)).trans A.g, (hs_ne _ _ (by omega)).trans A.s, (hs_ne _ _ (by omega)).trans A.e, (hs_ne _ _ (by omega)).trans A.w, (hs_ne _ _ (by omega)).trans A.q, (hs_ne _ _ (by omega)).trans A.c⟩
theorem AtM.setSp (A : AtM d b y h) (k : Nat) : AtM d b (y.s_sp k) (hs h 29 (oO 4 [vi y.th, vi y.rc, .ref (b + 30), .ref (b + 31), .ref (b + 32), vj y.rs, vi k, .ref (b + 33), .ref (b + 34), .ref (b + 35), .ref (b + 36), .ref (b + 37)])) :=
  ⟨hs_eq _ _ _, (hs_ne _ _ (by omega)).trans A.f, (hs_ne _ _ (by omega)).trans A.z, (hs_ne _ _ (by omega)).trans A.g, (hs_ne _ _ (by omega)).trans A.s, (hs_ne _ _ (by omega)).trans A.e, (hs_ne _ _ (by omega)).trans A.w, (hs_ne _ _ (by omega)).trans A.q, (hs_ne _ _ (by omega)).trans A.c⟩
end AtM
def OkM (y : YS) (v : Vw) : Prop :=
  (y.rc = v.rc) ∧ (y.rs = v.rs) ∧ (y.sp = v.sn) ∧ (∀ i, i < v.rc → y.fs i = v.F i) ∧ (∀ i, i < v.rc → y.sz i = v.M i) ∧ (∀ i, i < v.rc → ∀ q, q < v.M i → wl (fun k => y.D (36 * (48 * i + q) + k)) 36 = v.W i q) ∧ (dgt y.D 13824) ∧ (∀ k, k < v.sn → y.st k = v.sa k) ∧ (∀ k, k < v.sn → y.en k = v.sb k)
theorem OkM.rc {y : YS} {v : Vw} (H : OkM y v) : y.rc = v.rc := H.1
theorem OkM.rs {y : YS} {v : Vw} (H : OkM y v) : y.rs = v.rs := H.2.1
theorem OkM.sp {y : YS} {v : Vw} (H : OkM y v) : y.sp = v.sn := H.2.2.1
theorem OkM.ff {y : YS} {v : Vw} (H : OkM y v) : ∀ i, i < v.rc → y.fs i = v.F i := H.2.2.2.1
theorem OkM.fm {y : YS} {v : Vw} (H : OkM y v) : ∀ i, i < v.rc → y.sz i = v.M i := H.2.2.2.2.1
theorem OkM.ww {y : YS} {v : Vw} (H : OkM y v) : ∀ i, i < v.rc → ∀ q, q < v.M i → wl (fun k => y.D (36 * (48 * i + q) + k)) 36 = v.W i q := H.2.2.2.2.2.1
theorem OkM.dg {y : YS} {v : Vw} (H : OkM y v) : dgt y.D 13824 := H.2.2.2.2.2.2.1
theorem OkM.sa {y : YS} {v : Vw} (H : OkM y v) : ∀ k, k < v.sn → y.st k = v.sa k := H.2.2.2.2.2.2.2.1
theorem OkM.sb {y : YS} {v : Vw} (H : OkM y v) : ∀ k, k < v.sn → y.en k = v.sb k := H.2.2.2.2.2.2.2.2
/-- the reference stands for v, its last code is t -/
def RepM (d : yD) (b : Nat) (h : yH) (v : Vw) (t : Int) : Prop := ∃ y, AtM d b y h ∧ OkM y v ∧ y.th = t
def FrM (h h' : yH) : Prop := ∀ k, k < 29 ∨ 38 ≤ k → h' k = h k
theorem FrM.rfl {h : yH} : FrM h h := fun _ _ => Eq.refl _
theorem FrM.set {h h' : yH} (H : FrM h h') {k : Nat} (hk : 29 ≤ k ∧ k < 38) (e : va_E) : FrM h (hs h' k e) := fun j hj => (hs_ne _ _ (by omega)).trans (H j hj)
theorem FrM.tr {h h' h'' : yH} (H : FrM h h') (H' : FrM h' h'') : FrM h h'' := fun j hj => (H' j hj).trans (H j hj)
theorem OkM.row {y : YS} {v : Vw} (O : OkM y v) (V : OkV v) {i : Nat} (hi : i < v.rc) : rowOk (y.fs i) (y.sz i) := by rw [O.ff i hi, O.fm i hi]; exact V.ok i hi
theorem OkM.sTh {y : YS} {v : Vw} (O : OkM y v) (k : Int) : OkM (y.s_th k) v := O
theorem OkM.sW {y : YS} {v : Vw} (O : OkM y v) (G : Nat → Int) : OkM (y.s_wd G) v := O
theorem OkM.sQ {y : YS} {v : Vw} (O : OkM y v) (G : Nat → Int) : OkM (y.s_ot G) v := O
theorem OkM.sC {y : YS} {v : Vw} (O : OkM y v) (G : Nat → Int) : OkM (y.s_ch G) v := O
/-- goes: the first of four that does not hold -/
def kG (a b c e : Int) : Int := if a = 0 then 1 else if b = 0 then 2 else if c = 0 then 3 else if e = 0 then 4 else 0
abbrev bi (p : Prop) [Decidable p] : Int := if p then 1 else 0
theorem bi_in (p : Prop) [Decidable p] : 0 ≤ bi p ∧ bi p ≤ 1 := by unfold bi; split <;> omega
theorem bi_0 {p : Prop} [Decidable p] : bi p = 0 ↔ ¬ p := by unfold bi; split <;> simp [*]
theorem bi_1 {p : Prop} [Decidable p] (h : p) : bi p = 1 := if_pos h
theorem bi_n {p : Prop} [Decidable p] (h : ¬ p) : bi p = 0 := if_neg h
theorem bi_cd {p q : Prop} [Decidable p] [Decidable q] (h : p ↔ q) : bi p = bi q := by by_cases e : p; rw [bi_1 e, bi_1 (h.mp e)]; rw [bi_n e, bi_n (fun w => e (h.mpr w))]
/-- what a call of the reference leaves: k its code, w the state behind a call that goes -/
abbrev mR (d : yD) (b : Nat) (h : yH) (v : Vw) (k : Nat) (w : Vw) (a ans : Int) (h' : yH) : Prop := FrM h h' ∧ (k = 0 → RepM d b h' w 0 ∧ a = ans) ∧ (k ≠ 0 → RepM d b h' v k)
