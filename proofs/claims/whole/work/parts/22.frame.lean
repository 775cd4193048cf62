/-! what the relations of cellars and quakes rest on -/
theorem CelS.fr {h h' : HS} {q : Nat} (C : CelS h q) (hn : hN h ≤ hN h') (hk : ∀ i, i < 64 + hN h → ki h' i = ki h i) (hr : ∀ k, ri h' q k = ri h q k) : CelS h' q := by
  have c1 := C.1
  exact ⟨by omega, by rw [hk _ (by omega)]; exact C.2.1, by rw [hk _ (by omega)]; exact C.k1, by rw [hk _ (by omega)]; exact C.k2, by rw [hk _ (by omega)]; exact C.k3, by rw [hr]; exact C.r7, by rw [hr]; exact C.r9, by rw [hr]; exact C.r10⟩
theorem CelV.fr {h h' : HS} {q c : Nat} (V : CelV h q c) (v0 : ∀ k, vi h' q k = vi h q k) (v1 : ∀ k, vi h' (q + 1) k = vi h (q + 1) k) (v2 : ∀ k, vi h' (q + 2) k = vi h (q + 2) k) (v3 : ∀ k, vi h' (q + 3) k = vi h (q + 3) k)
    (m0 : ∀ i, 100 ≤ i → i ≤ 114 → i ≠ 106 → i ≠ 108 → i ≠ 109 → vi h' i c = vi h i c) (m1 : ∀ k, k < 200 → vi h' 106 (200 * c + k) = vi h 106 (200 * c + k)) (m2 : ∀ k, k < 40 → vi h' 108 (40 * c + k) = vi h 108 (40 * c + k) ∧ vi h' 109 (40 * c + k) = vi h 109 (40 * c + k)) : CelV h' q c := by
  obtain ⟨A, B, Cc, Dd, E, F, Gg⟩ := V
  have m := fun i a b c d e => m0 i a b c d e
  have e100 := m 100 (by decide) (by decide) (by decide) (by decide) (by decide)
  have e101 := m 101 (by decide) (by decide) (by decide) (by decide) (by decide)
  have e102 := m 102 (by decide) (by decide) (by decide) (by decide) (by decide)
  have e103 := m 103 (by decide) (by decide) (by decide) (by decide) (by decide)
  have e104 := m 104 (by decide) (by decide) (by decide) (by decide) (by decide)
  have e105 := m 105 (by decide) (by decide) (by decide) (by decide) (by decide)
  have e107 := m 107 (by decide) (by decide) (by decide) (by decide) (by decide)
  have e110 := m 110 (by decide) (by decide) (by decide) (by decide) (by decide)
  have e111 := m 111 (by decide) (by decide) (by decide) (by decide) (by decide)
  have e112 := m 112 (by decide) (by decide) (by decide) (by decide) (by decide)
  have e113 := m 113 (by decide) (by decide) (by decide) (by decide) (by decide)
  have e114 := m 114 (by decide) (by decide) (by decide) (by decide) (by decide)
  refine ⟨?_, ?_, ?_, ?_, ?_, ?_, ?_⟩
  · unfold CelA at A ⊢; rw [v0, v0, e100]; exact A
  · unfold CelB at B ⊢; rw [v0, v0, v0, e101, e102, e103]; exact B
  · unfold CelC at Cc ⊢; rw [v0, v0, e104, e105]; exact Cc
  · unfold CelD at Dd ⊢
    obtain ⟨⟨d1, d2⟩, d3⟩ := Dd
    rw [v0, e107]
    refine ⟨⟨d1, d2⟩, fun i hi => ?_⟩
    have d2' := d2.2
    rw [v1, m1 i (by omega)]; exact d3 i hi
  · unfold CelE at E ⊢
    obtain ⟨⟨d1, d2⟩, d3, d4⟩ := E
    have d2' := d2.2
    rw [v0, e110]
    refine ⟨⟨d1, d2⟩, fun i hi => ?_, fun i hi => ?_⟩
    · rw [v2, v3, (m2 i (by omega)).1, (m2 i (by omega)).2]; exact d3 i hi
    · rw [v2, v2, v3, v3]; exact d4 i hi
  · unfold CelF at F ⊢; rw [v0, v0, v0, e111, e112, e113]; exact F
  · unfold CelG at Gg ⊢; rw [v0, e114]; exact Gg
theorem RC.fr {h h' : HS} (R : RC h) (s : SameOn fpC h h') (hn : hN h ≤ hN h') (hk : ∀ i, i < 64 + hN h → ki h' i = ki h i) (hd : ∀ i, 142 ≤ i → i < 64 + hN h → (ki h i).1 = 2 ∨ (ki h i).1 = 20 → ∀ k, vi h' i k = vi h i k ∧ ri h' i k = ri h i k) : RC h' := by
  obtain ⟨r1, r2, r3, r4⟩ := R
  have e0 := (s 64 2 rfl).1
  have e1 := (s 99 0 rfl).1
  have e2 : ∀ c, ri h' 67 c = ri h 67 c := fun c => (s 67 c rfl).2
  have em : ∀ i, 100 ≤ i → i ≤ 114 → ∀ k, vi h' i k = vi h i k := fun i a b k => (s i k (by unfold fpC; rw [show Nat.ble 100 i = true from Nat.ble_eq_true_of_le a, show Nat.ble i 114 = true from Nat.ble_eq_true_of_le b]; simp)).1
  refine ⟨by rw [e0, e1]; exact r1, fun c hc => ?_, fun c hc h6 => ?_, fun c c' q q' a b d e => ?_⟩
  · rw [e0] at hc
    obtain ⟨q, a1, a2, a3⟩ := r2 c hc
    have b := a2.1
    have k0 := hd q (by omega) (by omega) (Or.inl a2.o)
    have k1 := hd (q + 1) (by omega) (by omega) (Or.inr (by rw [a2.k1]))
    have k2 := hd (q + 2) (by omega) (by omega) (Or.inr (by rw [a2.k2]))
    have k3 := hd (q + 3) (by omega) (by omega) (Or.inr (by rw [a2.k3]))
    exact ⟨q, by rw [e2]; exact a1, a2.fr hn hk (fun k => (k0 k).2), a3.fr (fun k => (k0 k).1) (fun k => (k1 k).1) (fun k => (k2 k).1) (fun k => (k3 k).1) (fun i x y _ _ _ => em i x y c) (fun k _ => em 106 (by decide) (by decide) _) (fun k _ => ⟨em 108 (by decide) (by decide) _, em 109 (by decide) (by decide) _⟩)⟩
  · rw [e0] at h6
    rw [em 104 (by decide) (by decide), em 105 (by decide) (by decide), em 107 (by decide) (by decide), em 110 (by decide) (by decide), em 111 (by decide) (by decide), em 114 (by decide) (by decide)]
    exact r3 c hc h6
  · rw [e0] at b; rw [e2] at d e
    exact r4 c c' q q' a b d e
/-- the model's places of cellar c -/
def ownM (c i k : Nat) : Bool := if i == 106 then Nat.ble (200 * c) k && Nat.ble (k + 1) (200 * c + 200) else if i == 108 || i == 109 then Nat.ble (40 * c) k && Nat.ble (k + 1) (40 * c + 40) else k == c
theorem ownM_106 {c c0 k : Nat} (h : c ≠ c0) (hk : k < 200) : ownM c0 106 (200 * c + k) = false := by
  show (Nat.ble (200 * c0) (200 * c + k) && Nat.ble (200 * c + k + 1) (200 * c0 + 200)) = false
  refine Bool.eq_false_iff.mpr (fun e => ?_)
  rw [Bool.and_eq_true, Nat.ble_eq, Nat.ble_eq] at e
  omega
theorem ownM_108 {c c0 k : Nat} (h : c ≠ c0) (hk : k < 40) : ownM c0 108 (40 * c + k) = false := by
  show (Nat.ble (40 * c0) (40 * c + k) && Nat.ble (40 * c + k + 1) (40 * c0 + 40)) = false
  refine Bool.eq_false_iff.mpr (fun e => ?_)
  rw [Bool.and_eq_true, Nat.ble_eq, Nat.ble_eq] at e
  omega
theorem ownM_109 {c c0 k : Nat} (h : c ≠ c0) (hk : k < 40) : ownM c0 109 (40 * c + k) = false := by
  show (Nat.ble (40 * c0) (40 * c + k) && Nat.ble (40 * c + k + 1) (40 * c0 + 40)) = false
  refine Bool.eq_false_iff.mpr (fun e => ?_)
  rw [Bool.and_eq_true, Nat.ble_eq, Nat.ble_eq] at e
  omega
theorem ownM_o {c c0 i : Nat} (h : c ≠ c0) (h1 : i ≠ 106) (h2 : i ≠ 108) (h3 : i ≠ 109) : ownM c0 i c = false := by
  unfold ownM
  simp [h1, h2, h3, h]
theorem RC.one {h h' : HS} (R : RC h) {c0 q0 : Nat} (hc : (c0 : Int) < (vi h 64 2).toInt) (hq : ri h 67 c0 = some q0) (hV : CelV h' q0 c0) (hn : hN h' = hN h) (hk : ∀ i, ki h' i = ki h i) (e0 : vi h' 64 2 = vi h 64 2) (e1 : vi h' 99 0 = vi h 99 0) (e2 : ∀ i k, ri h' i k = ri h i k)
    (em : ∀ i k, 100 ≤ i → i ≤ 114 → ownM c0 i k = false → vi h' i k = vi h i k) (ed : ∀ i, 142 ≤ i → (i < q0 ∨ q0 + 4 ≤ i) → ∀ k, vi h' i k = vi h i k) : RC h' := by
  obtain ⟨r1, r2, r3, r4⟩ := R
  refine ⟨by rw [e0, e1]; exact r1, fun c hcc => ?_, fun c hcc h6 => ?_, fun c c' q q' a b d e => ?_⟩
  · rw [e0] at hcc
    obtain ⟨q, a1, a2, a3⟩ := r2 c hcc
    have a2' : CelS h' q := a2.fr (by omega) (fun i _ => hk i) (fun k => e2 q k)
    by_cases e : c = c0
    · subst e
      have : q = q0 := Option.some.inj (a1.symm.trans hq)
      subst this
      exact ⟨q, by rw [e2]; exact a1, a2', hV⟩
    · have hsep : q + 4 ≤ q0 ∨ q0 + 4 ≤ q := by
        rcases Nat.lt_or_gt_of_ne e with z | z
        · exact Or.inl (r4 c c0 q q0 z hc a1 hq)
        · exact Or.inr (r4 c0 c q0 q z hcc hq a1)
      have b := a2.1
      exact ⟨q, by rw [e2]; exact a1, a2', a3.fr (fun k => ed q (by omega) (by omega) k) (fun k => ed (q + 1) (by omega) (by omega) k) (fun k => ed (q + 2) (by omega) (by omega) k) (fun k => ed (q + 3) (by omega) (by omega) k)
        (fun i x y n1 n2 n3 => em i c x y (ownM_o e n1 n2 n3)) (fun k hk' => em 106 _ (by decide) (by decide) (ownM_106 e hk')) (fun k hk' => ⟨em 108 _ (by decide) (by decide) (ownM_108 e hk'), em 109 _ (by decide) (by decide) (ownM_109 e hk')⟩)⟩
  · rw [e0] at h6
    have ne : c ≠ c0 := by omega
    rw [em 104 _ (by decide) (by decide) (ownM_o ne (by decide) (by decide) (by decide)), em 105 _ (by decide) (by decide) (ownM_o ne (by decide) (by decide) (by decide)), em 107 _ (by decide) (by decide) (ownM_o ne (by decide) (by decide) (by decide)), em 110 _ (by decide) (by decide) (ownM_o ne (by decide) (by decide) (by decide)), em 111 _ (by decide) (by decide) (ownM_o ne (by decide) (by decide) (by decide)), em 114 _ (by decide) (by decide) (ownM_o ne (by decide) (by decide) (by decide))]
    exact r3 c hcc h6
  · rw [e0] at b; rw [e2] at d e
    exact r4 c c' q q' a b d e
theorem RQ.fr {h h' : HS} (R : RQ h) (s : SameOn fpQ h h') (hn : hN h ≤ hN h') (hk : ∀ i, i < 64 + hN h → ki h' i = ki h i) (hd : ∀ i, 142 ≤ i → i < 64 + hN h → (ki h i).1 = 5 ∨ (ki h i).1 = 36 ∨ (ki h i).1 = 6 → ∀ k, vi h' i k = vi h i k ∧ ri h' i k = ri h i k) : RQ h' := by
  obtain ⟨r1, r2, r3, r4, r5⟩ := R
  have e0 := (s 64 7 rfl).1
  have e00 := (s 64 2 rfl).1
  have e1 := (s 99 38 rfl).1
  have e2 : ∀ c, ri h' 80 c = ri h 80 c := fun c => (s 80 c rfl).2
  have em : ∀ i, 124 ≤ i → i ≤ 132 → ∀ k, vi h' i k = vi h i k := fun i a b k => (s i k (by unfold fpQ; rw [show Nat.ble 124 i = true from Nat.ble_eq_true_of_le a, show Nat.ble i 132 = true from Nat.ble_eq_true_of_le b]; simp)).1
  have key : ∀ q : Nat, (q : Int) < (vi h 64 7).toInt → ∀ u, ri h 80 q = some u → ∀ c, c < 6 → ri h' (u + 1) c = ri h (u + 1) c := by
    intro q hq u hu c hc
    obtain ⟨u', a1, a2, -⟩ := r2 q hq
    have : u' = u := Option.some.inj (a1.symm.trans hu)
    subst this
    have b := a2.1
    exact (hd (u' + 1) (by omega) (by omega) (Or.inr (Or.inl (by rw [a2.k1]))) c).2
  refine ⟨by rw [e0, e1]; exact r1, fun q hq => ?_, fun q hq h6 => ?_, fun q q' u u' a b d e => ?_, fun q q' c c' u u' w a b a1 b1 d d' e e' => ?_⟩
  · rw [e0] at hq
    obtain ⟨u, a1, a2, a3, a4⟩ := r2 q hq
    have b := a2.1
    have k0 := hd u (by omega) (by omega) (Or.inl a2.o)
    have k1 := hd (u + 1) (by omega) (by omega) (Or.inr (Or.inl (by rw [a2.k1])))
    refine ⟨u, by rw [e2]; exact a1, ⟨by omega, by rw [hk _ (by omega)]; exact a2.2.1, by rw [hk _ (by omega)]; exact a2.k1, by rw [(k0 0).2]; exact a2.r0⟩, ?_, fun c hc => ?_⟩
    · unfold PlV at a3 ⊢; rw [(k0 1).1, (k0 2).1, em 132 (by decide) (by decide)]; exact a3
    · rcases a4 c hc with ⟨x1, x2⟩ | ⟨w, x1, x2, x3, x4, x5⟩
      · exact Or.inl ⟨by rw [(k1 c).2]; exact x1, by rw [em 124 (by decide) (by decide)]; exact x2⟩
      · have bw := x3.1
        have kw := hd w (by omega) (by omega) (Or.inr (Or.inr x3.o))
        refine Or.inr ⟨w, by rw [(k1 c).2]; exact x1, by rw [em 124 (by decide) (by decide)]; exact x2, ⟨by omega, by rw [hk _ (by omega)]; exact x3.2⟩, ?_, by rw [e00]; exact x5⟩
        unfold RdV at x4 ⊢
        rw [(kw 0).1, (kw 1).1, (kw 2).1, (kw 3).1, (kw 4).1, (kw 5).1, em 125 (by decide) (by decide), em 126 (by decide) (by decide), em 127 (by decide) (by decide), em 128 (by decide) (by decide), em 129 (by decide) (by decide), em 130 (by decide) (by decide), em 131 (by decide) (by decide)]
        exact x4
  · rw [e0] at h6
    rw [em 132 (by decide) (by decide)]
    obtain ⟨x1, x2⟩ := r3 q hq h6
    exact ⟨x1, fun c hc => by rw [em 124 (by decide) (by decide)]; exact x2 c hc⟩
  · rw [e0] at b; rw [e2] at d e
    exact r4 q q' u u' a b d e
  · rw [e0] at a b; rw [e2] at a1 b1
    rw [key q a u a1 c d] at e
    rw [key q' b u' b1 c' d'] at e'
    exact r5 q q' c c' u u' w a b a1 b1 d d' e e'
