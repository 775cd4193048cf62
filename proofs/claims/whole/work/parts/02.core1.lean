/-! THE ABSTRACT HEAP: cells by number (64 ..), each with a kind, ints and references -/
/-- a kind (t, n): t < 13 an object of class t of vwCl; 20 int[], 21 boolean[], 30 + t references to class t, of n places -/
abbrev Kd : Type := Nat × Nat
abbrev HS : Type := Nat × (Nat → Kd) × (Nat → Nat → Int32) × (Nat → Nat → Option Nat)
def hN (h : HS) : Nat := h.1
def ki (h : HS) (i : Nat) : Kd := h.2.1 i
def vi (h : HS) (i k : Nat) : Int32 := h.2.2.1 i k
def ri (h : HS) (i k : Nat) : Option Nat := h.2.2.2 i k
def wI (h : HS) (i k : Nat) (v : Int32) : HS := (h.1, h.2.1, fun a b => if a = i ∧ b = k then v else h.2.2.1 a b, h.2.2.2)
def wR (h : HS) (i k : Nat) (v : Option Nat) : HS := (h.1, h.2.1, h.2.2.1, fun a b => if a = i ∧ b = k then v else h.2.2.2 a b)
def nw (h : HS) (t : Kd) : HS := (h.1 + 1, fun a => if a = 64 + h.1 then t else h.2.1 a, fun a b => if a = 64 + h.1 then 0 else h.2.2.1 a b, fun a b => if a = 64 + h.1 then none else h.2.2.2 a b)
theorem hN_wI (h : HS) (i k : Nat) (v : Int32) : hN (wI h i k v) = hN h := rfl
theorem hN_wR (h : HS) (i k : Nat) (v : Option Nat) : hN (wR h i k v) = hN h := rfl
theorem hN_nw (h : HS) (t : Kd) : hN (nw h t) = hN h + 1 := rfl
theorem ki_wI (h : HS) (i k : Nat) (v : Int32) (a : Nat) : ki (wI h i k v) a = ki h a := rfl
theorem ki_wR (h : HS) (i k : Nat) (v : Option Nat) (a : Nat) : ki (wR h i k v) a = ki h a := rfl
theorem ki_nw (h : HS) (t : Kd) (a : Nat) : ki (nw h t) a = if a = 64 + hN h then t else ki h a := rfl
theorem vi_wI (h : HS) (i k : Nat) (v : Int32) (a b : Nat) : vi (wI h i k v) a b = if a = i ∧ b = k then v else vi h a b := rfl
theorem vi_wR (h : HS) (i k : Nat) (v : Option Nat) (a b : Nat) : vi (wR h i k v) a b = vi h a b := rfl
theorem vi_nw (h : HS) (t : Kd) (a b : Nat) : vi (nw h t) a b = if a = 64 + hN h then 0 else vi h a b := rfl
theorem ri_wI (h : HS) (i k : Nat) (v : Int32) (a b : Nat) : ri (wI h i k v) a b = ri h a b := rfl
theorem ri_wR (h : HS) (i k : Nat) (v : Option Nat) (a b : Nat) : ri (wR h i k v) a b = if a = i ∧ b = k then v else ri h a b := rfl
theorem ri_nw (h : HS) (t : Kd) (a b : Nat) : ri (nw h t) a b = if a = 64 + hN h then none else ri h a b := rfl
/-- what is fixed over a run: the launch, the first address of ours, the addresses of what was there, classes' numbers and slots, array classes, the script -/
abbrev GC : Type := Launch × Nat × (Nat → Nat) × va_G × (Nat → ClassId) × Nat × (Nat → Int32)
abbrev gl (G : GC) : Launch := G.1
abbrev gb (G : GC) : Nat := G.2.1
abbrev gx (G : GC) : Nat → Nat := G.2.2.1
abbrev gD (G : GC) : va_G := G.2.2.2.1
abbrev gt (G : GC) : Nat → ClassId := G.2.2.2.2.1
abbrev gL (G : GC) : Nat := G.2.2.2.2.2.1
abbrev gX (G : GC) : Nat → Int32 := G.2.2.2.2.2.2
def gA (G : GC) : Nat → Prop := fun q => gb G ≤ q
def ad (G : GC) (i : Nat) : Nat := if i < 64 then gx G i else gb G + (i - 64)
def cv (G : GC) (v : Value) : Value := match v with
  | .ref i => .ref (ad G i)
  | w => w
theorem cv_cat (G : GC) (v : Value) : (cv G v).category = v.category := by cases v <;> rfl
theorem cv_cats (G : GC) (l : List Value) : ((l.map (cv G)).map fun v => v.category) = l.map fun v => v.category := by
  rw [List.map_map]; exact List.map_congr_left (fun v _ => cv_cat G v)
theorem cv_rf (G : GC) (r : Option Nat) : cv G (va_rf r) = va_rf (r.map (ad G)) := by cases r <;> rfl
theorem ad_cell (G : GC) (j : Nat) : ad G (64 + j) = gb G + j := by
  unfold ad; rw [if_neg (by omega), Nat.add_sub_cancel_left]
theorem ad_of {G : GC} {i : Nat} (h : 64 ≤ i) : ad G i = gb G + (i - 64) := by unfold ad; rw [if_neg (by omega)]
def fty (t : Nat) : Nat → FieldType := match t with
  | 0 => tyX0
  | 1 => tyX1
  | 2 => tyX2
  | 3 => tyX3
  | 4 => tyX4
  | 5 => tyX5
  | 6 => tyX6
  | 7 => tyX7
  | 8 => tyX8
  | 9 => tyX9
  | 10 => tyX10
  | 11 => tyX11
  | _ => tyX12
def nF (t : Nat) : Nat := match t with
  | 0 => 1
  | 1 => 6
  | 2 => 16
  | 3 => 1
  | 4 => 4
  | 5 => 3
  | 6 => 6
  | 7 => 5
  | 8 => 5
  | 9 => 17
  | 10 => 2
  | 11 => 14
  | _ => 61
def isR (t k : Nat) : Bool := match fty t k with
  | .int => false
  | .boolean => false
  | _ => true
def fsOf (G : GC) (h : HS) (t i : Nat) : List Value := (List.range (nF t)).map (fun k => if isR t k = true then va_rf ((ri h i k).map (ad G)) else .int (vi h i k))
def cellE (G : GC) (h : HS) (i : Nat) : va_E := if (ki h i).1 < 13 then .inr ((ki h i).1, fsOf G h (ki h i).1 i)
  else if (ki h i).1 < 30 then .inl (gt G (ki h i).1, (ki h i).2, .inl (vi h i))
  else .inl (gt G (ki h i).1, (ki h i).2, .inr (.inr (.inr (.inr (fun j => (ri h i j).map (ad G))))))
def cw (G : GC) (h : HS) : va_W := (List.range (hN h)).map (fun j => (gb G + j, cellE G h (64 + j)))
theorem fs_len (G : GC) (h : HS) (t i : Nat) : (fsOf G h t i).length = nF t := by simp [fsOf]
theorem fs_int {G : GC} {h : HS} {t i k : Nat} (hk : k < nF t) (hr : isR t k = false) : (fsOf G h t i)[k]? = some (.int (vi h i k)) := by
  simp [fsOf, hk, hr]
theorem fs_ref {G : GC} {h : HS} {t i k : Nat} (hk : k < nF t) (hr : isR t k = true) : (fsOf G h t i)[k]? = some (va_rf ((ri h i k).map (ad G))) := by
  simp [fsOf, hk, hr]
theorem fs_wI {G : GC} {h : HS} {t i k : Nat} {v : Int32} (hk : k < nF t) (hr : isR t k = false) : (fsOf G h t i).set k (.int v) = fsOf G (wI h i k v) t i := by
  apply List.ext_getElem?
  intro j
  by_cases hj : j < nF t
  · by_cases e : k = j
    · subst e
      rw [List.getElem?_set_self (by rw [fs_len]; exact hk), fs_int hk hr, vi_wI, if_pos ⟨rfl, rfl⟩]
    · rw [List.getElem?_set_ne e]
      cases hrj : isR t j with
      | true => rw [fs_ref hj hrj, fs_ref hj hrj, ri_wI]
      | false => rw [fs_int hj hrj, fs_int hj hrj, vi_wI, if_neg (fun q => e q.2.symm)]
  · rw [List.getElem?_eq_none (by rw [List.length_set, fs_len]; omega), List.getElem?_eq_none (by rw [fs_len]; omega)]
theorem fs_wR {G : GC} {h : HS} {t i k : Nat} {r : Option Nat} (hk : k < nF t) (hr : isR t k = true) : (fsOf G h t i).set k (va_rf (r.map (ad G))) = fsOf G (wR h i k r) t i := by
  apply List.ext_getElem?
  intro j
  by_cases hj : j < nF t
  · by_cases e : k = j
    · subst e
      rw [List.getElem?_set_self (by rw [fs_len]; exact hk), fs_ref hk hr, ri_wR, if_pos ⟨rfl, rfl⟩]
    · rw [List.getElem?_set_ne e]
      cases hrj : isR t j with
      | true => rw [fs_ref hj hrj, fs_ref hj hrj, ri_wR, if_neg (fun q => e q.2.symm)]
      | false => rw [fs_int hj hrj, fs_int hj hrj, vi_wR]
  · rw [List.getElem?_eq_none (by rw [List.length_set, fs_len]; omega), List.getElem?_eq_none (by rw [fs_len]; omega)]
theorem fs_other {G : GC} {h h' : HS} {t i : Nat} (hv : ∀ k, vi h' i k = vi h i k) (hr : ∀ k, ri h' i k = ri h i k) : fsOf G h' t i = fsOf G h t i := by
  unfold fsOf
  exact List.map_congr_left (fun k _ => by rw [hv, hr])
theorem cell_obj {G : GC} {h : HS} {i t n : Nat} (e : ki h i = (t, n)) (ht : t < 13) : cellE G h i = .inr (t, fsOf G h t i) := by
  unfold cellE; rw [e]; exact if_pos ht
theorem cell_int {G : GC} {h : HS} {i t n : Nat} (e : ki h i = (t, n)) (h1 : ¬ t < 13) (h2 : t < 30) : cellE G h i = .inl (gt G t, n, .inl (vi h i)) := by
  unfold cellE; rw [e]
  show (if t < 13 then _ else _) = _
  rw [if_neg h1]
  exact if_pos h2
theorem cell_ref {G : GC} {h : HS} {i t n : Nat} (e : ki h i = (t, n)) (h2 : ¬ t < 30) : cellE G h i = .inl (gt G t, n, .inr (.inr (.inr (.inr (fun j => (ri h i j).map (ad G)))))) := by
  unfold cellE; rw [e]
  show (if t < 13 then _ else _) = _
  rw [if_neg (by omega)]
  exact if_neg h2
theorem cell_same {G : GC} {h h' : HS} {i : Nat} (hk : ki h' i = ki h i) (hv : ∀ k, vi h' i k = vi h i k) (hr : ∀ k, ri h' i k = ri h i k) : cellE G h' i = cellE G h i := by
  unfold cellE
  rw [hk, fs_other hv hr, show vi h' i = vi h i from funext hv, show ri h' i = ri h i from funext hr]
theorem cw_len (G : GC) (h : HS) : (cw G h).length = hN h := by simp [cw]
theorem cw_get {G : GC} {h : HS} {j : Nat} (hj : j < hN h) : (cw G h)[j]? = some (gb G + j, cellE G h (64 + j)) := by simp [cw, hj]
theorem cw_at {G : GC} {h : HS} {i : Nat} (h1 : 64 ≤ i) (h2 : i < 64 + hN h) : (cw G h)[i - 64]? = some (ad G i, cellE G h i) := by
  rw [cw_get (by omega), ad_of h1, show 64 + (i - 64) = i by omega]
theorem cw_D (G : GC) (h : HS) : va_D (gA G) (cw G h) := by
  refine ⟨fun i j p q hi hj e => ?_, fun k q hk => ?_⟩
  · have h1 : i < hN h := by rw [← cw_len G h]; exact (List.getElem?_eq_some_iff.mp hi).1
    have h2 : j < hN h := by rw [← cw_len G h]; exact (List.getElem?_eq_some_iff.mp hj).1
    rw [cw_get h1] at hi; rw [cw_get h2] at hj
    cases hi; cases hj
    have e' : gb G + i = gb G + j := e
    omega
  · have h1 : k < hN h := by rw [← cw_len G h]; exact (List.getElem?_eq_some_iff.mp hk).1
    rw [cw_get h1] at hk
    cases hk
    exact Nat.le_add_right _ _
theorem cw_set {G : GC} {h h' : HS} {i : Nat} {e : va_E} (h1 : 64 ≤ i) (h2 : i < 64 + hN h) (hn : hN h' = hN h) (he : cellE G h' i = e) (ho : ∀ a, a ≠ i → cellE G h' a = cellE G h a) : (cw G h).set (i - 64) (ad G i, e) = cw G h' := by
  apply List.ext_getElem?
  intro j
  by_cases hj : j < hN h
  · by_cases q : i - 64 = j
    · subst q
      rw [List.getElem?_set_self (by rw [cw_len]; exact hj), cw_get (by omega), ad_of h1, show 64 + (i - 64) = i by omega, he]
    · rw [List.getElem?_set_ne q, cw_get hj, cw_get (by omega), ho _ (by omega)]
  · rw [List.getElem?_eq_none (by rw [List.length_set, cw_len]; omega), List.getElem?_eq_none (by rw [cw_len]; omega)]
theorem cw_push {G : GC} {h h' : HS} {e : va_E} (hn : hN h' = hN h + 1) (he : cellE G h' (64 + hN h) = e) (ho : ∀ a, a < 64 + hN h → cellE G h' a = cellE G h a) : cw G h ++ [(gb G + hN h, e)] = cw G h' := by
  apply List.ext_getElem?
  intro j
  by_cases hj : j < hN h
  · rw [List.getElem?_append_left (by rw [cw_len]; exact hj), cw_get hj, cw_get (by omega), ho _ (by omega)]
  · by_cases q : j = hN h
    · subst q
      rw [List.getElem?_append_right (by rw [cw_len]; exact Nat.le_refl _), cw_len, Nat.sub_self, cw_get (by omega), he]
      rfl
    · rw [List.getElem?_eq_none (by rw [List.length_append, cw_len]; simp; omega), List.getElem?_eq_none (by rw [cw_len]; omega)]
/-- the array classes of ours -/
def tyL (G : GC) : List (ClassId × FieldType) := [(gt G 20, .int), (gt G 21, .boolean), (gt G 32, .object RX2), (gt G 35, .object RX5), (gt G 36, .object RX6)]
theorem nF_at {t : Nat} {q : vw_C} (h : vwCl[t]? = some q) : q.2.2 = nF t := by
  match t, h with
  | 0, h | 1, h | 2, h | 3, h | 4, h | 5, h | 6, h | 7, h | 8, h | 9, h | 10, h | 11, h | 12, h => cases h; rfl
  | t + 13, h => simp at h
