/-! THE INVARIANT between the two objects -/
abbrev UNK : Int32 := -1000000000
def smpOK (x : Int32) : Prop := x = UNK ∨ (-999 ≤ x.toInt ∧ x.toInt ≤ 999)
def rg (x : Int32) (a b : Int) : Prop := a ≤ x.toInt ∧ x.toInt ≤ b
/-- what stays the same where P says so -/
def SameOn (P : Nat → Nat → Bool) (h h' : HS) : Prop := ∀ i k, P i k = true → vi h' i k = vi h i k ∧ ri h' i k = ri h i k
theorem SameOn.rf (P : Nat → Nat → Bool) (h : HS) : SameOn P h h := fun _ _ _ => ⟨rfl, rfl⟩
theorem SameOn.tr {P : Nat → Nat → Bool} {h h1 h2 : HS} (a : SameOn P h h1) (b : SameOn P h1 h2) : SameOn P h h2 := fun i k e => ⟨(b i k e).1.trans (a i k e).1, (b i k e).2.trans (a i k e).2⟩
theorem SameOn.wI {P : Nat → Nat → Bool} {h h' : HS} {i k : Nat} {v : Int32} (a : SameOn P h h') (e : P i k = false) : SameOn P h (wI h' i k v) := by
  intro x y hx
  refine ⟨?_, (a x y hx).2⟩
  rw [vi_wI, if_neg (fun q => by rw [q.1, q.2, e] at hx; cases hx)]
  exact (a x y hx).1
theorem SameOn.wR {P : Nat → Nat → Bool} {h h' : HS} {i k : Nat} {v : Option Nat} (a : SameOn P h h') (e : P i k = false) : SameOn P h (wR h' i k v) := by
  intro x y hx
  refine ⟨(a x y hx).1, ?_⟩
  rw [ri_wR, if_neg (fun q => by rw [q.1, q.2, e] at hx; cases hx)]
  exact (a x y hx).2
theorem SameOn.nw {P : Nat → Nat → Bool} {h h' : HS} {t : Kd} (a : SameOn P h h') (e : ∀ k, P (64 + hN h') k = false) : SameOn P h (nw h' t) := by
  intro x y hx
  have hne : x ≠ 64 + hN h' := fun q => by rw [q, e y] at hx; cases hx
  exact ⟨by rw [vi_nw, if_neg hne]; exact (a x y hx).1, by rw [ri_nw, if_neg hne]; exact (a x y hx).2⟩
/-- waves -/
def RW (h : HS) : Prop := vi h 64 8 = vi h 99 39 ∧ vi h 64 9 = vi h 99 40 ∧ rg (vi h 64 8) 1 99 ∧ rg (vi h 64 9) 1 99 ∧ (vi h 64 8).toInt < (vi h 64 9).toInt
def fpW (i k : Nat) : Bool := (i == 64 && (k == 8 || k == 9)) || (i == 99 && (k == 39 || k == 40))
theorem RW.fr {h h' : HS} (R : RW h) (s : SameOn fpW h h') : RW h' := by
  unfold RW at R ⊢
  rw [(s 64 8 rfl).1, (s 64 9 rfl).1, (s 99 39 rfl).1, (s 99 40 rfl).1]; exact R
/-- the row of times -/
def RP (h : HS) : Prop := vi h 81 1 = vi h 99 51 ∧ rg (vi h 81 1) 0 8 ∧ (∀ i : Nat, (i : Int) < (vi h 81 1).toInt → vi h 82 i = vi h 133 i ∧ rg (vi h 82 i) 0 9999999) ∧ ∀ i : Nat, (i : Int) + 1 < (vi h 81 1).toInt → (vi h 82 i).toInt < (vi h 82 (i + 1)).toInt
def fpP (i k : Nat) : Bool := (i == 81 && k == 1) || (i == 99 && k == 51) || i == 82 || i == 133
theorem RP.fr {h h' : HS} (R : RP h) (s : SameOn fpP h h') : RP h' := by
  unfold RP at R ⊢
  have e1 : ∀ i, vi h' 82 i = vi h 82 i := fun i => (s 82 i rfl).1
  have e2 : ∀ i, vi h' 133 i = vi h 133 i := fun i => (s 133 i rfl).1
  rw [(s 81 1 rfl).1, (s 99 51 rfl).1]
  simp only [e1, e2]; exact R
/-- the catalogues -/
def RE (h : HS) : Prop := (vi h 83 5 = vi h 134 0 ∧ rg (vi h 83 5) 0 100) ∧ (vi h 89 5 = vi h 134 1 ∧ rg (vi h 89 5) 0 100) ∧
  (∀ i : Nat, (i : Int) < (vi h 83 5).toInt → vi h 84 i = vi h 135 i ∧ rg (vi h 84 i) 0 239999 ∧ rg (vi h 85 i) 0 39 ∧ rg (vi h 86 i) 0 39 ∧ (vi h 136 i).toInt = 40 * (vi h 86 i).toInt + (vi h 85 i).toInt ∧ vi h 87 i = vi h 137 i ∧ rg (vi h 87 i) 0 999) ∧
  (∀ i : Nat, (i : Int) < (vi h 89 5).toInt → vi h 90 i = vi h 135 (100 + i) ∧ rg (vi h 90 i) 0 239999 ∧ rg (vi h 91 i) 0 39 ∧ rg (vi h 92 i) 0 39 ∧ (vi h 136 (100 + i)).toInt = 40 * (vi h 92 i).toInt + (vi h 91 i).toInt ∧ vi h 93 i = vi h 137 (100 + i) ∧ rg (vi h 93 i) 0 999)
def fpE (i k : Nat) : Bool := (i == 83 && k == 5) || (i == 89 && k == 5) || i == 84 || i == 85 || i == 86 || i == 87 || i == 90 || i == 91 || i == 92 || i == 93 || i == 134 || i == 135 || i == 136 || i == 137
theorem RE.fr {h h' : HS} (R : RE h) (s : SameOn fpE h h') : RE h' := by
  unfold RE at R ⊢
  have e1 : ∀ i, vi h' 84 i = vi h 84 i := fun i => (s 84 i rfl).1
  have e2 : ∀ i, vi h' 85 i = vi h 85 i := fun i => (s 85 i rfl).1
  have e3 : ∀ i, vi h' 86 i = vi h 86 i := fun i => (s 86 i rfl).1
  have e4 : ∀ i, vi h' 87 i = vi h 87 i := fun i => (s 87 i rfl).1
  have e5 : ∀ i, vi h' 90 i = vi h 90 i := fun i => (s 90 i rfl).1
  have e6 : ∀ i, vi h' 91 i = vi h 91 i := fun i => (s 91 i rfl).1
  have e7 : ∀ i, vi h' 92 i = vi h 92 i := fun i => (s 92 i rfl).1
  have e8 : ∀ i, vi h' 93 i = vi h 93 i := fun i => (s 93 i rfl).1
  have e9 : ∀ i, vi h' 134 i = vi h 134 i := fun i => (s 134 i rfl).1
  have e10 : ∀ i, vi h' 135 i = vi h 135 i := fun i => (s 135 i rfl).1
  have e11 : ∀ i, vi h' 136 i = vi h 136 i := fun i => (s 136 i rfl).1
  have e12 : ∀ i, vi h' 137 i = vi h 137 i := fun i => (s 137 i rfl).1
  rw [(s 83 5 rfl).1, (s 89 5 rfl).1]
  simp only [e1, e2, e3, e4, e5, e6, e7, e8, e9, e10, e11, e12]; exact R
/-- what was felt -/
def RF (h : HS) : Prop := vi h 95 3 = vi h 99 59 ∧ rg (vi h 95 3) 0 100 ∧ ∀ i : Nat, (i : Int) < (vi h 95 3).toInt → vi h 96 i = vi h 138 i ∧ rg (vi h 96 i) 0 1599 ∧ vi h 97 i = vi h 139 i ∧ (0 ≤ (vi h 97 i).toInt ∧ (vi h 97 i).toInt < (vi h 83 5).toInt) ∧ vi h 98 i = vi h 140 i ∧ rg (vi h 98 i) 0 999
def fpF (i k : Nat) : Bool := (i == 95 && k == 3) || (i == 99 && k == 59) || (i == 83 && k == 5) || i == 96 || i == 97 || i == 98 || i == 138 || i == 139 || i == 140
theorem RF.fr {h h' : HS} (R : RF h) (s : SameOn fpF h h') : RF h' := by
  unfold RF at R ⊢
  have e1 : ∀ i, vi h' 96 i = vi h 96 i := fun i => (s 96 i rfl).1
  have e2 : ∀ i, vi h' 97 i = vi h 97 i := fun i => (s 97 i rfl).1
  have e3 : ∀ i, vi h' 98 i = vi h 98 i := fun i => (s 98 i rfl).1
  have e4 : ∀ i, vi h' 138 i = vi h 138 i := fun i => (s 138 i rfl).1
  have e5 : ∀ i, vi h' 139 i = vi h 139 i := fun i => (s 139 i rfl).1
  have e6 : ∀ i, vi h' 140 i = vi h 140 i := fun i => (s 140 i rfl).1
  rw [(s 95 3 rfl).1, (s 99 59 rfl).1, (s 83 5 rfl).1]
  simp only [e1, e2, e3, e4, e5, e6]; exact R
/-- the tape, and the latest fault -/
def RT (h : HS) : Prop := vi h 71 1 = vi h 99 28 ∧ rg (vi h 71 1) 0 600 ∧ (∀ i : Nat, (i : Int) < (vi h 71 1).toInt → vi h 72 i = vi h 116 i ∧ rg (vi h 72 i) 0 255) ∧ vi h 71 13 = vi h 99 35 ∧ vi h 71 14 = vi h 99 37
def fpT (i k : Nat) : Bool := (i == 71 && (k == 1 || k == 13 || k == 14)) || (i == 99 && (k == 28 || k == 35 || k == 37)) || i == 72 || i == 116
theorem RT.fr {h h' : HS} (R : RT h) (s : SameOn fpT h h') : RT h' := by
  unfold RT at R ⊢
  have e1 : ∀ i, vi h' 72 i = vi h 72 i := fun i => (s 72 i rfl).1
  have e2 : ∀ i, vi h' 116 i = vi h 116 i := fun i => (s 116 i rfl).1
  rw [(s 71 1 rfl).1, (s 99 28 rfl).1, (s 71 13 rfl).1, (s 99 35 rfl).1, (s 71 14 rfl).1, (s 99 37 rfl).1]
  simp only [e1, e2]; exact R
/-- the table of distances: the greatest r whose square is not above -/
def isRoot (r : Int) (s : Int) : Prop := 0 ≤ r ∧ r * r ≤ s ∧ s < (r + 1) * (r + 1)
def RD (h : HS) : Prop := ∀ dx dy : Nat, dx < 40 → dy < 40 → rg (vi h 66 (40 * dy + dx)) 0 55 ∧ isRoot (vi h 66 (40 * dy + dx)).toInt ((dx : Int) * dx + (dy : Int) * dy)
def fpD (i _ : Nat) : Bool := i == 66
theorem RD.fr {h h' : HS} (R : RD h) (s : SameOn fpD h h') : RD h' := by
  unfold RD at R ⊢
  have e1 : ∀ i, vi h' 66 i = vi h 66 i := fun i => (s 66 i rfl).1
  simp only [e1]; exact R
/-- a cellar's cells: the object, its samples, its marks' samples and minutes -/
def CelS (h : HS) (q : Nat) : Prop := (142 ≤ q ∧ q + 3 < 64 + hN h) ∧ ki h q = (2, 0) ∧ ki h (q + 1) = (20, 200) ∧ ki h (q + 2) = (20, 40) ∧ ki h (q + 3) = (20, 40) ∧ ri h q 7 = some (q + 1) ∧ ri h q 9 = some (q + 2) ∧ ri h q 10 = some (q + 3)
theorem CelS.b {h : HS} {q : Nat} (C : CelS h q) : 64 ≤ q ∧ q < 64 + hN h := by have := C.1; omega
theorem CelS.b1 {h : HS} {q : Nat} (C : CelS h q) : 64 ≤ q + 1 ∧ q + 1 < 64 + hN h := by have := C.1; omega
theorem CelS.b2 {h : HS} {q : Nat} (C : CelS h q) : 64 ≤ q + 2 ∧ q + 2 < 64 + hN h := by have := C.1; omega
theorem CelS.b3 {h : HS} {q : Nat} (C : CelS h q) : 64 ≤ q + 3 ∧ q + 3 < 64 + hN h := by have := C.1; omega
theorem CelS.o {h : HS} {q : Nat} (C : CelS h q) : (ki h q).1 = 2 := by rw [C.2.1]
theorem CelS.k1 {h : HS} {q : Nat} (C : CelS h q) : ki h (q + 1) = (20, 200) := C.2.2.1
theorem CelS.k2 {h : HS} {q : Nat} (C : CelS h q) : ki h (q + 2) = (20, 40) := C.2.2.2.1
theorem CelS.k3 {h : HS} {q : Nat} (C : CelS h q) : ki h (q + 3) = (20, 40) := C.2.2.2.2.1
theorem CelS.r7 {h : HS} {q : Nat} (C : CelS h q) : ri h q 7 = some (q + 1) := C.2.2.2.2.2.1
theorem CelS.r9 {h : HS} {q : Nat} (C : CelS h q) : ri h q 9 = some (q + 2) := C.2.2.2.2.2.2.1
theorem CelS.r10 {h : HS} {q : Nat} (C : CelS h q) : ri h q 10 = some (q + 3) := C.2.2.2.2.2.2.2
/-- its values, and those of the model -/
def CelA (h : HS) (q c : Nat) : Prop := rg (vi h q 0) 0 39 ∧ rg (vi h q 1) 0 39 ∧ (vi h 100 c).toInt = 40 * (vi h q 1).toInt + (vi h q 0).toInt
def CelB (h : HS) (q c : Nat) : Prop := (vi h q 2 = vi h 101 c ∧ rg (vi h q 2) 0 63) ∧ (vi h q 3 = vi h 102 c ∧ rg (vi h q 3) 0 63) ∧ (vi h q 4 = vi h 103 c ∧ rg (vi h q 4) 10 999)
def CelC (h : HS) (q c : Nat) : Prop := vi h q 5 = vi h 104 c ∧ vi h q 6 = vi h 105 c
def CelD (h : HS) (q c : Nat) : Prop := (vi h q 8 = vi h 107 c ∧ rg (vi h q 8) 0 200) ∧ ∀ i : Nat, (i : Int) < (vi h q 8).toInt → vi h (q + 1) i = vi h 106 (200 * c + i) ∧ smpOK (vi h (q + 1) i)
def CelE (h : HS) (q c : Nat) : Prop := (vi h q 11 = vi h 110 c ∧ rg (vi h q 11) 0 40) ∧ (∀ i : Nat, (i : Int) < (vi h q 11).toInt → (vi h (q + 2) i = vi h 108 (40 * c + i) ∧ rg (vi h (q + 2) i) 0 199) ∧ (vi h (q + 3) i = vi h 109 (40 * c + i) ∧ rg (vi h (q + 3) i) 0 9999)) ∧
  ∀ i : Nat, (i : Int) + 1 < (vi h q 11).toInt → (vi h (q + 2) i).toInt < (vi h (q + 2) (i + 1)).toInt ∧ (vi h (q + 3) i).toInt < (vi h (q + 3) (i + 1)).toInt
def CelF (h : HS) (q c : Nat) : Prop := (vi h q 12 = vi h 111 c ∧ rg (vi h q 12) 0 999999) ∧ (vi h q 13 = vi h 112 c ∧ rg (vi h q 13) 500 700) ∧ (vi h q 14 = vi h 113 c ∧ rg (vi h q 14) 500 700)
def CelG (h : HS) (q c : Nat) : Prop := vi h q 15 = vi h 114 c ∧ rg (vi h q 15) (-50) 50
def CelV (h : HS) (q c : Nat) : Prop := CelA h q c ∧ CelB h q c ∧ CelC h q c ∧ CelD h q c ∧ CelE h q c ∧ CelF h q c ∧ CelG h q c
def RC (h : HS) : Prop := (vi h 99 0 = vi h 64 2 ∧ rg (vi h 64 2) 0 6) ∧
  (∀ c : Nat, (c : Int) < (vi h 64 2).toInt → ∃ q, ri h 67 c = some q ∧ CelS h q ∧ CelV h q c) ∧
  (∀ c : Nat, c < 6 → (vi h 64 2).toInt ≤ c → vi h 104 c = 0 ∧ vi h 105 c = 0 ∧ vi h 107 c = 0 ∧ vi h 110 c = 0 ∧ vi h 111 c = 0 ∧ vi h 114 c = 0) ∧
  ∀ (c c' q q' : Nat), c < c' → (c' : Int) < (vi h 64 2).toInt → ri h 67 c = some q → ri h 67 c' = some q' → q + 4 ≤ q'
def fpC (i k : Nat) : Bool := (i == 64 && k == 2) || (i == 99 && k == 0) || i == 67 || (Nat.ble 100 i && Nat.ble i 114)
/-- a quake: the object, its readings -/
def QkS (h : HS) (u : Nat) : Prop := (142 ≤ u ∧ u + 1 < 64 + hN h) ∧ ki h u = (5, 0) ∧ ki h (u + 1) = (36, 6) ∧ ri h u 0 = some (u + 1)
theorem QkS.b {h : HS} {u : Nat} (C : QkS h u) : 64 ≤ u ∧ u < 64 + hN h := by have := C.1; omega
theorem QkS.b1 {h : HS} {u : Nat} (C : QkS h u) : 64 ≤ u + 1 ∧ u + 1 < 64 + hN h := by have := C.1; omega
theorem QkS.o {h : HS} {u : Nat} (C : QkS h u) : (ki h u).1 = 5 := by rw [C.2.1]
theorem QkS.k1 {h : HS} {u : Nat} (C : QkS h u) : ki h (u + 1) = (36, 6) := C.2.2.1
theorem QkS.r0 {h : HS} {u : Nat} (C : QkS h u) : ri h u 0 = some (u + 1) := C.2.2.2
def RdS (h : HS) (w : Nat) : Prop := (142 ≤ w ∧ w < 64 + hN h) ∧ ki h w = (6, 0)
theorem RdS.b {h : HS} {u : Nat} (C : RdS h u) : 64 ≤ u ∧ u < 64 + hN h := by have := C.1; omega
theorem RdS.o {h : HS} {u : Nat} (C : RdS h u) : (ki h u).1 = 6 := by rw [C.2]
/-- a reading's values, and those of the model at e = 6 q + c -/
def RdV (h : HS) (w e : Nat) : Prop := (vi h w 0 = vi h 126 e ∧ rg (vi h w 0) 0 9999999) ∧ (vi h w 1 = vi h 127 e ∧ rg (vi h w 1) 0 9999999) ∧
  ((vi h w 2 = -1 ∧ vi h 125 e = 0) ∨ (vi h w 2 = vi h 128 e ∧ vi h w 3 = vi h 129 e ∧ vi h 125 e = 1 ∧ rg (vi h w 2) 0 9999999 ∧ rg (vi h w 3) 0 9999999)) ∧
  (vi h w 4 = vi h 130 e ∧ rg (vi h w 4) (-1) 1) ∧ (vi h w 5 = vi h 131 e ∧ rg (vi h w 5) 0 999999)
def PlV (h : HS) (u q : Nat) : Prop := (vi h u 1 = -1 ∧ vi h 132 q = -1) ∨ (rg (vi h u 1) 0 39 ∧ rg (vi h u 2) 0 39 ∧ (vi h 132 q).toInt = 40 * (vi h u 2).toInt + (vi h u 1).toInt)
def RdR (h : HS) (u q c : Nat) : Prop := (ri h (u + 1) c = none ∧ vi h 124 (6 * q + c) = 0) ∨ (∃ w, ri h (u + 1) c = some w ∧ vi h 124 (6 * q + c) = 1 ∧ RdS h w ∧ RdV h w (6 * q + c) ∧ (c : Int) < (vi h 64 2).toInt)
def RQ (h : HS) : Prop := (vi h 99 38 = vi h 64 7 ∧ rg (vi h 64 7) 0 16) ∧
  (∀ q : Nat, (q : Int) < (vi h 64 7).toInt → ∃ u, ri h 80 q = some u ∧ QkS h u ∧ PlV h u q ∧ ∀ c, c < 6 → RdR h u q c) ∧
  (∀ q : Nat, q < 16 → (vi h 64 7).toInt ≤ q → vi h 132 q = -1 ∧ ∀ c, c < 6 → vi h 124 (6 * q + c) = 0) ∧
  (∀ (q q' u u' : Nat), q < q' → (q' : Int) < (vi h 64 7).toInt → ri h 80 q = some u → ri h 80 q' = some u' → u ≠ u') ∧
  ∀ (q q' c c' u u' w : Nat), (q : Int) < (vi h 64 7).toInt → (q' : Int) < (vi h 64 7).toInt → ri h 80 q = some u → ri h 80 q' = some u' → c < 6 → c' < 6 → ri h (u + 1) c = some w → ri h (u' + 1) c' = some w → q = q' ∧ c = c'
def fpQ (i k : Nat) : Bool := (i == 64 && (k == 7 || k == 2)) || (i == 99 && k == 38) || i == 80 || (Nat.ble 124 i && Nat.ble i 132)
