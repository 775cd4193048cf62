/-! the invariant behind the constructors -/
/-- h is h' but for row 66, which is f -/
def E66 (f : Nat → Int32) (N : Nat) (h h' : HS) : Prop := hN h = N ∧ hN h' = N ∧ (∀ i, ki h i = ki h' i) ∧ (∀ i k, ri h i k = ri h' i k) ∧ (∀ i k, i ≠ 66 → vi h i k = vi h' i k) ∧ ∀ k, vi h 66 k = f k
theorem E66.wR {f : Nat → Int32} {N : Nat} {h h' : HS} {i k : Nat} {v : Option Nat} (e : E66 f N h h') : E66 f N (wR h i k v) (wR h' i k v) :=
  ⟨e.1, e.2.1, e.2.2.1, fun a b => by rw [ri_wR, ri_wR, e.2.2.2.1], e.2.2.2.2.1, e.2.2.2.2.2⟩
theorem E66.wI {f : Nat → Int32} {N : Nat} {h h' : HS} {i k : Nat} {v : Int32} (hi : i ≠ 66) (e : E66 f N h h') : E66 f N (wI h i k v) (wI h' i k v) :=
  ⟨e.1, e.2.1, e.2.2.1, e.2.2.2.1, fun a b hab => by rw [vi_wI, vi_wI, e.2.2.2.2.1 a b hab], fun b => by rw [vi_wI, if_neg (fun z => hi z.1.symm)]; exact e.2.2.2.2.2 b⟩
theorem E66.nw {f : Nat → Int32} {N : Nat} {h h' : HS} {t : Kd} (h3 : 3 ≤ N) (e : E66 f N h h') : E66 f (N + 1) (nw h t) (nw h' t) := by
  obtain ⟨e1, e2, e3, e4, e5, e6⟩ := e
  refine ⟨by rw [hN_nw, e1], by rw [hN_nw, e2], fun a => by rw [ki_nw, ki_nw, e1, e2, e3], fun a b => by rw [ri_nw, ri_nw, e1, e2, e4], fun a b hab => by rw [vi_nw, vi_nw, e1, e2, e5 a b hab], fun b => ?_⟩
  rw [vi_nw, e1, if_neg (by omega)]; exact e6 b
theorem E66.base {f g : Nat → Int32} {N : Nat} {h : HS} (e : hN h = N) : E66 f N (setR h 66 f) (setR h 66 g) :=
  ⟨e, e, fun _ => rfl, fun _ _ => rfl, fun a b hab => by rw [viS hab, viS hab], fun b => vi_setR h 66 f b⟩
abbrev hZ : HS := hM (fun _ => 0)
set_option maxRecDepth 20000 in
set_option maxHeartbeats 4000000 in
theorem e66c (f : Nat → Int32) : E66 f 35 (hC f) (hC (fun _ => 0)) := by
  unfold hC
  refine E66.wR ?_
  refine E66.wR ?_
  refine E66.nw (by decide) ?_
  refine E66.wR ?_
  refine E66.nw (by decide) ?_
  refine E66.wR ?_
  refine E66.nw (by decide) ?_
  refine E66.nw (by decide) ?_
  refine E66.wR ?_
  refine E66.wR ?_
  refine E66.nw (by decide) ?_
  refine E66.wR ?_
  refine E66.nw (by decide) ?_
  refine E66.wR ?_
  refine E66.nw (by decide) ?_
  refine E66.wR ?_
  refine E66.nw (by decide) ?_
  refine E66.wR ?_
  refine E66.nw (by decide) ?_
  refine E66.nw (by decide) ?_
  refine E66.wR ?_
  refine E66.wR ?_
  refine E66.nw (by decide) ?_
  refine E66.wR ?_
  refine E66.nw (by decide) ?_
  refine E66.wR ?_
  refine E66.nw (by decide) ?_
  refine E66.wR ?_
  refine E66.nw (by decide) ?_
  refine E66.wR ?_
  refine E66.nw (by decide) ?_
  refine E66.nw (by decide) ?_
  refine E66.wR ?_
  refine E66.wR ?_
  refine E66.nw (by decide) ?_
  refine E66.nw (by decide) ?_
  refine E66.wI (by decide) ?_
  refine E66.wI (by decide) ?_
  refine E66.wR ?_
  refine E66.nw (by decide) ?_
  refine E66.wR ?_
  refine E66.wR ?_
  refine E66.wR ?_
  refine E66.nw (by decide) ?_
  refine E66.wR ?_
  refine E66.nw (by decide) ?_
  refine E66.nw (by decide) ?_
  refine E66.wR ?_
  refine E66.wR ?_
  refine E66.nw (by decide) ?_
  refine E66.wR ?_
  refine E66.nw (by decide) ?_
  refine E66.nw (by decide) ?_
  refine E66.wI (by decide) ?_
  refine E66.wR ?_
  refine E66.nw (by decide) ?_
  refine E66.wR ?_
  refine E66.nw (by decide) ?_
  refine E66.nw (by decide) ?_
  refine E66.wR ?_
  refine E66.wR ?_
  refine E66.nw (by decide) ?_
  refine E66.nw (by decide) ?_
  refine E66.wR ?_
  refine E66.nw (by decide) ?_
  refine E66.wR ?_
  refine E66.nw (by decide) ?_
  refine E66.wR ?_
  exact E66.base rfl
set_option maxRecDepth 20000 in
set_option maxHeartbeats 4000000 in
theorem e66 (f : Nat → Int32) : E66 f 78 (hM f) hZ := by
  unfold hZ hM
  refine E66.wR ?_
  refine E66.nw (by decide) ?_
  refine E66.wR ?_
  refine E66.nw (by decide) ?_
  refine E66.wR ?_
  refine E66.nw (by decide) ?_
  refine E66.wR ?_
  refine E66.nw (by decide) ?_
  refine E66.wR ?_
  refine E66.nw (by decide) ?_
  refine E66.wR ?_
  refine E66.nw (by decide) ?_
  refine E66.wR ?_
  refine E66.nw (by decide) ?_
  refine E66.wR ?_
  refine E66.nw (by decide) ?_
  refine E66.wR ?_
  refine E66.nw (by decide) ?_
  refine E66.wR ?_
  refine E66.wI (by decide) ?_
  refine E66.wI (by decide) ?_
  refine E66.wI (by decide) ?_
  refine E66.wI (by decide) ?_
  refine E66.wI (by decide) ?_
  refine E66.wI (by decide) ?_
  refine E66.wI (by decide) ?_
  refine E66.wI (by decide) ?_
  refine E66.wI (by decide) ?_
  refine E66.wI (by decide) ?_
  refine E66.wI (by decide) ?_
  refine E66.wI (by decide) ?_
  refine E66.wI (by decide) ?_
  refine E66.wI (by decide) ?_
  refine E66.wI (by decide) ?_
  refine E66.wI (by decide) ?_
  refine E66.nw (by decide) ?_
  refine E66.wR ?_
  refine E66.nw (by decide) ?_
  refine E66.wR ?_
  refine E66.nw (by decide) ?_
  refine E66.wR ?_
  refine E66.nw (by decide) ?_
  refine E66.wR ?_
  refine E66.nw (by decide) ?_
  refine E66.wR ?_
  refine E66.nw (by decide) ?_
  refine E66.wR ?_
  refine E66.nw (by decide) ?_
  refine E66.wR ?_
  refine E66.nw (by decide) ?_
  refine E66.wR ?_
  refine E66.nw (by decide) ?_
  refine E66.wI (by decide) ?_
  refine E66.wI (by decide) ?_
  refine E66.wI (by decide) ?_
  refine E66.wR ?_
  refine E66.nw (by decide) ?_
  refine E66.wR ?_
  refine E66.nw (by decide) ?_
  refine E66.wR ?_
  refine E66.nw (by decide) ?_
  refine E66.wR ?_
  refine E66.nw (by decide) ?_
  refine E66.wR ?_
  refine E66.nw (by decide) ?_
  refine E66.wR ?_
  refine E66.nw (by decide) ?_
  refine E66.wR ?_
  refine E66.nw (by decide) ?_
  refine E66.wR ?_
  refine E66.nw (by decide) ?_
  refine E66.wR ?_
  refine E66.nw (by decide) ?_
  refine E66.wR ?_
  refine E66.nw (by decide) ?_
  refine E66.wR ?_
  refine E66.nw (by decide) ?_
  refine E66.wR ?_
  refine E66.nw (by decide) ?_
  refine E66.wR ?_
  refine E66.nw (by decide) ?_
  refine E66.wR ?_
  refine E66.nw (by decide) ?_
  refine E66.wR ?_
  refine E66.nw (by decide) ?_
  refine E66.wR ?_
  refine E66.nw (by decide) ?_
  refine E66.wR ?_
  refine E66.nw (by decide) ?_
  refine E66.wR ?_
  refine E66.nw (by decide) ?_
  refine E66.wR ?_
  refine E66.nw (by decide) ?_
  refine E66.wR ?_
  refine E66.nw (by decide) ?_
  refine E66.wR ?_
  refine E66.nw (by decide) ?_
  refine E66.wR ?_
  refine E66.nw (by decide) ?_
  refine E66.wR ?_
  refine E66.nw (by decide) ?_
  refine E66.wR ?_
  refine E66.nw (by decide) ?_
  refine E66.nw (by decide) ?_
  exact e66c f
