/-! the invariant behind the constructors -/
theorem sh_k : ∀ j, j < 78 → ki hZ (64 + j) = shK (64 + j) := by decide +kernel
theorem sh_r : ∀ j, j < 78 → ∀ q ∈ sRL (64 + j), ri hZ (64 + j) q.1 = some q.2 := by decide +kernel
theorem lkup {k r : Nat} : ∀ (l : List (Nat × Nat)), l.lookup k = some r → (k, r) ∈ l
  | [], h => by cases h
  | (a, b) :: l, h => by
    rw [List.lookup_cons] at h
    by_cases e : k = a
    · subst e; simp at h; subst h; exact List.mem_cons_self
    · have : (k == a) = false := by simp [e]
      rw [this] at h
      exact List.mem_cons_of_mem _ (lkup l h)
theorem shp0 (f : Nat → Int32) : Shp (hM f) := by
  obtain ⟨e1, e2, e3, e4, e5, e6⟩ := e66 f
  refine ⟨by rw [e1]; exact Nat.le_refl _, fun i h1 h2 => ?_, fun i h1 h2 k r e => ?_⟩
  · rw [e3]; have := sh_k (i - 64) (by omega); rwa [show 64 + (i - 64) = i by omega] at this
  · rw [e4]; have := sh_r (i - 64) (by omega) (k, r) (by rw [show 64 + (i - 64) = i by omega]; exact lkup _ e)
    rwa [show 64 + (i - 64) = i by omega] at this
theorem zv : vi hZ 64 8 = 10 ∧ vi hZ 99 39 = 10 ∧ vi hZ 64 9 = 17 ∧ vi hZ 99 40 = 17 ∧ vi hZ 81 1 = 0 ∧ vi hZ 99 51 = 0 ∧ vi hZ 83 5 = 0 ∧ vi hZ 134 0 = 0 ∧ vi hZ 89 5 = 0 ∧ vi hZ 134 1 = 0 ∧ vi hZ 95 3 = 0 ∧ vi hZ 99 59 = 0 := by decide +kernel
theorem zt : vi hZ 71 1 = 0 ∧ vi hZ 99 28 = 0 ∧ vi hZ 71 13 = 0 ∧ vi hZ 99 35 = 0 ∧ vi hZ 71 14 = -1 ∧ vi hZ 99 37 = -1 ∧ ri hZ 71 15 = some 74 ∧ ri hZ 71 16 = some 77 ∧ vi hZ 74 1 = 0 ∧ vi hZ 74 2 = 0 ∧ vi hZ 99 25 = 0 ∧ vi hZ 121 0 = 0 := by decide +kernel
theorem zc : vi hZ 99 0 = 0 ∧ vi hZ 64 2 = 0 ∧ vi hZ 99 38 = 0 ∧ vi hZ 64 7 = 0 := by decide +kernel
theorem zr : ∀ c, c < 6 → vi hZ 104 c = 0 ∧ vi hZ 105 c = 0 ∧ vi hZ 107 c = 0 ∧ vi hZ 110 c = 0 ∧ vi hZ 111 c = 0 ∧ vi hZ 114 c = 0 := by decide +kernel
theorem zq : ∀ q, q < 16 → vi hZ 132 q = -1 := by decide +kernel
theorem zd : ∀ q, q < 96 → vi hZ 124 q = 0 := by decide +kernel
theorem inv0 (f : Nat → Int32) (hf : ∀ k, k < 1600 → f k = tab k) : Inv (hM f) := by
  have z0 : ∀ i : Nat, ¬ (i : Int) < (0 : Int32).toInt := fun i h => by have e : (0 : Int32).toInt = 0 := rfl; omega
  have z1 : ∀ i : Nat, ¬ (i : Int) + 1 < (0 : Int32).toInt := fun i h => by have e : (0 : Int32).toInt = 0 := rfl; omega
  have shp := shp0 f
  obtain ⟨e1, e2, e3, e4, e5, e6⟩ := e66 f
  obtain ⟨a1, a2, a3, a4, a5, a6, a7, a8, a9, a10, a11, a12⟩ := zv
  obtain ⟨t1, t2, t3, t4, t5, t6, t7, t8, t9, t10, t11, t12⟩ := zt
  obtain ⟨c1, c2, c3, c4⟩ := zc
  have b1 := (e5 64 8 (by decide)).trans a1
  have b2 := (e5 99 39 (by decide)).trans a2
  have b3 := (e5 64 9 (by decide)).trans a3
  have b4 := (e5 99 40 (by decide)).trans a4
  have b5 := (e5 81 1 (by decide)).trans a5
  have b6 := (e5 99 51 (by decide)).trans a6
  have b7 := (e5 83 5 (by decide)).trans a7
  have b8 := (e5 134 0 (by decide)).trans a8
  have b9 := (e5 89 5 (by decide)).trans a9
  have b10 := (e5 134 1 (by decide)).trans a10
  have b11 := (e5 95 3 (by decide)).trans a11
  have b12 := (e5 99 59 (by decide)).trans a12
  have s1 := (e5 71 1 (by decide)).trans t1
  have s2 := (e5 99 28 (by decide)).trans t2
  have s3 := (e5 71 13 (by decide)).trans t3
  have s4 := (e5 99 35 (by decide)).trans t4
  have s5 := (e5 71 14 (by decide)).trans t5
  have s6 := (e5 99 37 (by decide)).trans t6
  have s7 := (e4 71 15).trans t7
  have s8 := (e4 71 16).trans t8
  have s9 := (e5 74 1 (by decide)).trans t9
  have s10 := (e5 74 2 (by decide)).trans t10
  have s11 := (e5 99 25 (by decide)).trans t11
  have s12 := (e5 121 0 (by decide)).trans t12
  have d1 := (e5 99 0 (by decide)).trans c1
  have d2 := (e5 64 2 (by decide)).trans c2
  have d3 := (e5 99 38 (by decide)).trans c3
  have d4 := (e5 64 7 (by decide)).trans c4
  have r0 : ∀ b : Int, 0 ≤ b → rg 0 0 b := fun b hb => ⟨by decide, by have e : (0 : Int32).toInt = 0 := rfl; omega⟩
  refine ⟨shp, ?_, ?_, ?_, ?_, ?_, ?_, ?_, ?_, ?_⟩
  · intro dx dy hx hy
    rw [e6, hf _ (by omega)]
    obtain ⟨r1, r2, r3⟩ := rt_ok dy hy dx hx
    unfold tab
    rw [show (40 * dy + dx) % 40 = dx by omega, show (40 * dy + dx) / 40 = dy by omega, show rp (dx + 1) dy = rt (dx * dx + dy * dy) from rfl]
    unfold rg isRoot
    rw [i_nI (by omega)]
    refine ⟨by omega, by omega, ?_, ?_⟩
    · exact_mod_cast r2
    · exact_mod_cast r3
  · unfold RW; rw [b1, b2, b3, b4]; exact ⟨rfl, rfl, ⟨by decide, by decide⟩, ⟨by decide, by decide⟩, by decide⟩
  · unfold RP; rw [b5, b6]; exact ⟨rfl, r0 _ (by decide), fun i hi => absurd hi (z0 i), fun i hi => absurd hi (z1 i)⟩
  · unfold RE; rw [b7, b8, b9, b10]; exact ⟨⟨rfl, r0 _ (by decide)⟩, ⟨rfl, r0 _ (by decide)⟩, fun i hi => absurd hi (z0 i), fun i hi => absurd hi (z0 i)⟩
  · unfold RF; rw [b11, b12]; exact ⟨rfl, r0 _ (by decide), fun i hi => absurd hi (z0 i)⟩
  · unfold RT; rw [s1, s2, s3, s4, s5, s6]; exact ⟨rfl, r0 _ (by decide), fun i hi => absurd hi (z0 i), rfl, rfl⟩
  · refine ⟨74, 77, [], Or.inl ⟨rfl, rfl⟩, s7, s8, ⟨by decide, by decide, by decide, fun l hl => by cases hl⟩, ⟨s9.trans (by decide), s10.trans (by decide), fun i hi => absurd hi (Nat.not_lt_zero _)⟩, s11.trans (by decide), fun l hl => absurd hl (Nat.not_lt_zero _), fun l hl => ?_, fun i hi => absurd hi (Nat.not_lt_zero _)⟩
    have : l = 0 := Nat.le_zero.mp hl
    subst this; exact s12.trans (by decide)
  · unfold RC; rw [d1, d2]
    refine ⟨⟨rfl, r0 _ (by decide)⟩, fun c hc => absurd hc (z0 c), fun c hc _ => ?_, fun c c' q q' _ h => absurd h (z0 c')⟩
    rw [e5 104 c (by decide), e5 105 c (by decide), e5 107 c (by decide), e5 110 c (by decide), e5 111 c (by decide), e5 114 c (by decide)]
    exact zr c hc
  · unfold RQ; rw [d3, d4]
    refine ⟨⟨rfl, r0 _ (by decide)⟩, fun c hc => absurd hc (z0 c), fun q hq _ => ⟨(e5 132 q (by decide)).trans (zq q hq), fun c hc => (e5 124 _ (by decide)).trans (zd _ (by omega))⟩, fun c c' q q' _ h => absurd h (z0 c'), fun q q' c c' u u' w h => absurd h (z0 q)⟩
