/-! THE STATIC SHAPE of the heap behind the two constructors: cells 64 .. 141 -/
def shL : List Kd := [(11, 0), (3, 0), (20, 1600), (32, 6), (7, 0), (0, 0), (20, 7), (9, 0), (20, 600), (20, 40), (8, 0), (20, 600), (20, 40), (8, 0), (20, 600), (20, 40), (35, 16), (10, 0), (20, 8), (1, 0), (20, 100), (20, 100), (20, 100), (20, 100), (21, 100), (1, 0), (20, 100), (20, 100), (20, 100), (20, 100), (21, 100), (4, 0), (20, 100), (20, 100), (20, 100), (12, 0), (20, 6), (20, 6), (20, 6), (20, 6), (20, 6), (20, 6), (20, 1200), (20, 6), (20, 240), (20, 240), (20, 6), (20, 6), (20, 6), (20, 6), (20, 6), (20, 8), (20, 600), (20, 620), (20, 1220), (20, 1220), (20, 16), (20, 17), (20, 16), (20, 17), (21, 96), (21, 96), (20, 96), (20, 96), (20, 96), (20, 96), (20, 96), (20, 96), (20, 16), (20, 8), (20, 2), (20, 200), (20, 200), (20, 200), (20, 100), (20, 100), (20, 100), (21, 100)]
def shK (i : Nat) : Kd := shL.getD (i - 64) (0, 0)
def sRL (i : Nat) : List (Nat × Nat) := match i with
  | 64 => [(0, 65), (1, 67), (3, 68), (4, 69), (5, 71), (6, 80), (10, 81), (11, 83), (12, 89), (13, 95)]
  | 65 => [(0, 66)]
  | 69 => [(0, 70)]
  | 71 => [(0, 72), (9, 73)]
  | 74 => [(0, 75), (3, 76)]
  | 77 => [(0, 78), (3, 79)]
  | 81 => [(0, 82)]
  | 83 => [(0, 84), (1, 85), (2, 86), (3, 87), (4, 88)]
  | 89 => [(0, 90), (1, 91), (2, 92), (3, 93), (4, 94)]
  | 95 => [(0, 96), (1, 97), (2, 98)]
  | 99 => [(1, 100), (2, 101), (3, 102), (4, 103), (5, 104), (6, 105), (7, 106), (8, 107), (9, 108), (10, 109), (11, 110), (12, 111), (13, 112), (14, 113), (15, 114), (16, 115), (17, 116), (18, 117), (19, 118), (20, 119), (21, 120), (22, 121), (23, 122), (24, 123), (41, 124), (42, 125), (43, 126), (44, 127), (45, 128), (46, 129), (47, 130), (48, 131), (49, 132), (50, 133), (52, 134), (53, 135), (54, 136), (55, 137), (56, 138), (57, 139), (58, 140), (60, 141)]
  | _ => []
def sR (i k : Nat) : Option Nat := (sRL i).lookup k
def Shp (h : HS) : Prop := 78 ≤ hN h ∧ (∀ i, 64 ≤ i → i < 142 → ki h i = shK i) ∧ ∀ i, 64 ≤ i → i < 142 → ∀ k r, sR i k = some r → ri h i k = some r
theorem Shp.b {h : HS} (S : Shp h) (i : Nat) (h1 : (64).ble i = true) (h2 : (i + 1).ble 142 = true) : 64 ≤ i ∧ i < 64 + hN h := by
  have a := Nat.le_of_ble_eq_true h1
  have b := Nat.le_of_ble_eq_true h2
  have c := S.1
  omega
theorem Shp.k {h : HS} (S : Shp h) (i : Nat) {t n : Nat} (h1 : (64).ble i = true) (h2 : (i + 1).ble 142 = true) (e : shK i = (t, n)) : ki h i = (t, n) := (S.2.1 i (Nat.le_of_ble_eq_true h1) (Nat.le_of_ble_eq_true h2)).trans e
theorem Shp.o {h : HS} (S : Shp h) (i : Nat) {t : Nat} (h1 : (64).ble i = true) (h2 : (i + 1).ble 142 = true) (e : (shK i).1 = t) : (ki h i).1 = t := by rw [S.2.1 i (Nat.le_of_ble_eq_true h1) (Nat.le_of_ble_eq_true h2)]; exact e
theorem Shp.r {h : HS} (S : Shp h) (i k : Nat) {r : Nat} (h1 : (64).ble i = true) (h2 : (i + 1).ble 142 = true) (e : sR i k = some r) : ri h i k = some r := S.2.2 i (Nat.le_of_ble_eq_true h1) (Nat.le_of_ble_eq_true h2) k r e
theorem Shp.wI {h : HS} (S : Shp h) (i k : Nat) (v : Int32) : Shp (wI h i k v) := S
theorem Shp.wR {h : HS} (S : Shp h) {i k : Nat} {v : Option Nat} (hn : sR i k = none ∨ sR i k = v) : Shp (wR h i k v) := by
  refine ⟨S.1, S.2.1, fun a h1 h2 b r e => ?_⟩
  rw [ri_wR]
  by_cases q : a = i ∧ b = k
  · rw [if_pos q]
    rw [q.1, q.2] at e
    rcases hn with z | z
    · rw [z] at e; cases e
    · rw [← z]; exact e
  · rw [if_neg q]
    exact S.2.2 a h1 h2 b r e
theorem Shp.nw {h : HS} (S : Shp h) (t : Kd) : Shp (nw h t) := by
  have c := S.1
  refine ⟨by rw [hN_nw]; omega, fun a h1 h2 => ?_, fun a h1 h2 b r e => ?_⟩
  · rw [ki_nw, if_neg (by omega)]; exact S.2.1 a h1 h2
  · rw [ri_nw, if_neg (by omega)]; exact S.2.2 a h1 h2 b r e
