/-! pair: rules -/
abbrev zPz (i k : Nat) : Prop := i = 71 ∨ (73 ≤ i ∧ i ≤ 79) ∨ (i = 99 ∧ 25 ≤ k ∧ k ≤ 37) ∨ (118 ≤ i ∧ i ≤ 123)
theorem fz_D (i k : Nat) (h : fpD i k = true) : ¬ zPz i k := by unfold fpD at h; simp at h; omega
theorem fz_W (i k : Nat) (h : fpW i k = true) : ¬ zPz i k := by unfold fpW at h; simp at h; omega
theorem fz_P (i k : Nat) (h : fpP i k = true) : ¬ zPz i k := by unfold fpP at h; simp at h; omega
theorem fz_E (i k : Nat) (h : fpE i k = true) : ¬ zPz i k := by unfold fpE at h; simp at h; omega
theorem fz_F (i k : Nat) (h : fpF i k = true) : ¬ zPz i k := by unfold fpF at h; simp at h; omega
theorem fz_Q (i k : Nat) (h : fpQ i k = true) : ¬ zPz i k := by unfold fpQ at h; simp at h; omega
theorem fz_C (i k : Nat) (h : fpC i k = true) : ¬ zPz i k := by unfold fpC at h; simp at h; omega
theorem Inv.rul {h h' : HS} (I : Inv h) (hn : hN h' = hN h) (hk : ∀ i, ki h' i = ki h i) (hv : ∀ i k, ¬ zPz i k → vi h' i k = vi h i k) (hr : ∀ i k, ¬ (i = 71 ∧ (k = 15 ∨ k = 16)) → ri h' i k = ri h i k) (T : RT h') (G : RG h') : Inv h' := by
  have so : ∀ {P : Nat → Nat → Bool}, (∀ i k, P i k = true → ¬ zPz i k) → SameOn P h h' := fun hP i k e => ⟨hv i k (hP i k e), hr i k (fun z => hP i k e (Or.inl z.1))⟩
  have S : Shp h' := by
    refine ⟨by rw [hn]; exact I.S.1, fun i a b => by rw [hk]; exact I.S.2.1 i a b, fun i a b k r e => ?_⟩
    rw [hr i k ?_]
    · exact I.S.2.2 i a b k r e
    · rintro ⟨rfl, rfl | rfl⟩
      · exact absurd ((show sR 71 15 = none by decide).symm.trans e) (fun z => by cases z)
      · exact absurd ((show sR 71 16 = none by decide).symm.trans e) (fun z => by cases z)
  exact ⟨S, I.D.fr (so fz_D), I.W.fr (so fz_W), I.P.fr (so fz_P), I.E.fr (so fz_E), I.F.fr (so fz_F), T, G, I.C.fr (so fz_C) (by rw [hn]; exact Nat.le_refl _) (fun i _ => hk i) (fun i h1 h2 h3 k => ⟨hv i k (by unfold zPz; omega), hr i k (by omega)⟩), I.Q.fr (so fz_Q) (by rw [hn]; exact Nat.le_refl _) (fun i _ => hk i) (fun i h1 h2 h3 k => ⟨hv i k (by unfold zPz; omega), hr i k (by omega)⟩)⟩
theorem rt_0 {h : HS} (a : vi h 71 1 = iZ 0) (b : vi h 99 28 = iZ 0) (c : vi h 71 13 = vi h 99 35) (e : vi h 71 14 = vi h 99 37) : RT h := by
  have z : (iZ 0).toInt = 0 := by decide
  refine ⟨a.trans b.symm, ?_, fun i hi => ?_, c, e⟩
  · rw [a]; unfold rg; rw [z]; omega
  · rw [a, z] at hi; omega
theorem zQR.shp {T : Nat → Int} {n : Nat} {vd cm : Int} {h h1 : HS} {q q0 : Nat} {r : Int32} (Z : zQR T n vd cm h q q0 r h1) (S : Shp h) : Shp h1 := by
  obtain ⟨H1, D1, a1, z⟩ := Z
  rcases z with ⟨y1, y2, rfl, y4, y5⟩ | ⟨y1, y2, rfl, y4, y5, y6⟩
  · exact D1.shp S
  · exact ((D1.shp S).wR (Or.inl rfl)).wR (Or.inl rfl)

set_option maxRecDepth 20000 in
set_option maxHeartbeats 2000000 in
theorem pair16 {G : GC} : PairI G M_X11_rules M_X12_rules [] := by
  intro h I
  obtain ⟨q0, q, p0, hq, h15, h16, gp, c0, m0⟩ := id I.G
  have hq' : q = 74 ∨ q = 77 := by omega
  obtain ⟨n, hn, e1⟩ := of_rgZ (b := 600) I.T.2.1
  have et : (vi h 71 1).toInt = (n : Int) := by rw [e1]; exact iZ_t (by omega)
  have F : TF h (fun i => (vi h 72 i).toInt) n := ⟨I.S, hn, e1, fun i hi => ⟨vi_eta _ _ _, (I.T.2.2.1 i (by omega)).2⟩⟩
  refine ⟨zQR (fun i => (vi h 72 i).toInt) n (vi h 71 7).toInt (vi h 71 8).toInt h q q0, fun K k => ?_, fun r h1 Z K k => ?_⟩
  · show Go G 60 8 400 M_X11_rules 0 [.ref 64] [] h K
    exact c_rules (d := 52) I.S (qpr_of I.S hq') hq' h16 h15 F (vi_eta _ _ _) (vi_eta _ _ _) ⟨i_lo _, i_hi _⟩ (fun r h1 Z => k r h1 Z (Z.shp I.S))
  · show Go G 60 0 0 M_X12_rules 0 [.ref 99, un, un] [] h1 K
    have S1 := Z.shp I.S
    obtain ⟨H1, D1, a1, z⟩ := Z
    have v1 : ∀ i k, vi h1 i k = vi H1 i k := by
      rcases z with ⟨y1, y2, rfl, y4, y5⟩ | ⟨y1, y2, rfl, y4, y5, y6⟩
      · exact fun _ _ => rfl
      · exact fun _ _ => rfl
    have n1 : hN h1 = hN h := by
      rcases z with ⟨y1, y2, rfl, y4, y5⟩ | ⟨y1, y2, rfl, y4, y5, y6⟩
      · exact D1.1
      · exact D1.1
    have k1 : ∀ i, ki h1 i = ki h i := by
      rcases z with ⟨y1, y2, rfl, y4, y5⟩ | ⟨y1, y2, rfl, y4, y5, y6⟩
      · exact D1.2.1
      · exact D1.2.1
    have TM1 : TM h1 (fun i => (vi h 72 i).toInt) n := by
      refine ⟨S1, hn, ?_, fun i hi => ?_⟩
      · rw [v1, D1.2.2.2 99 28 (by unfold zPw; omega), ← I.T.1]; exact e1
      · have t := I.T.2.2.1 i (by omega)
        rw [v1, D1.2.2.2 116 i (by unfold zPw; omega), ← t.1]
        exact ⟨vi_eta _ _ _, t.2⟩
    refine m_rules (d := 22) (vd := (vi h 71 7).toInt) (cm := (vi h 71 8).toInt) TM1 (fun h2 D2 r1 b1 b2 b3 => ?_) (fun h2 p vd' cm' D2 r1 r2 gp' EM b1 b2 b3 => ?_)
    · rcases z with ⟨y1, rfl, rfl, y4, y5⟩ | ⟨y1, -⟩
      · refine k h2 (I.rul (D2.1.trans n1) (fun i => (D2.2.1 i).trans (k1 i)) (fun i k z => (D2.2.2.2 i k (by unfold zPz at z; unfold zPx; omega)).trans (D1.2.2.2 i k (by unfold zPz at z; unfold zPw; omega))) (fun i k _ => (D2.2.2.1 i k).trans (D1.2.2.1 i k)) (rt_0 ((D2.2.2.2 _ _ (by unfold zPx; omega)).trans a1) b1 (((D2.2.2.2 _ _ (by unfold zPx; omega)).trans y4).trans b2.symm) (((D2.2.2.2 _ _ (by unfold zPx; omega)).trans y5).trans b3.symm)) ?_)
        have w : ∀ i k, ¬ zPx i k → ¬ zPw q i k → vi h2 i k = vi h i k := fun i k a b => (D2.2.2.2 i k a).trans (D1.2.2.2 i k b)
        obtain ⟨c1, c2, c3⟩ := c0
        obtain ⟨m1, m2, m3, m4⟩ := m0
        refine ⟨q0, q, p0, hq, (D2.2.2.1 _ _).trans ((D1.2.2.1 _ _).trans h15), (D2.2.2.1 _ _).trans ((D1.2.2.1 _ _).trans h16), gp, ⟨?_, ?_, fun i hi => ?_⟩, ⟨?_, fun l hl => ?_, fun l hl => ?_, fun i hi => ?_⟩⟩
        · rw [w _ _ (by unfold zPx; omega) (by unfold zPw; omega)]; exact c1
        · rw [w _ _ (by unfold zPx; omega) (by unfold zPw; omega)]; exact c2
        · rw [w _ _ (by unfold zPx; omega) (by unfold zPw; omega)]; exact c3 i hi
        · rw [w _ _ (by unfold zPx; omega) (by unfold zPw; omega)]; exact m1
        · rw [w _ _ (by unfold zPx; omega) (by unfold zPw; omega)]; exact m2 l hl
        · rw [w _ _ (by unfold zPx; omega) (by unfold zPw; omega)]; exact m3 l hl
        · rw [w 118 (2 * i) (by unfold zPx; omega) (by unfold zPw; omega), w 118 (2 * i + 1) (by unfold zPx; omega) (by unfold zPw; omega)]; exact m4 i hi
      · exact absurd y1 r1
    · rcases z with ⟨y1, -⟩ | ⟨y1, rfl, rfl, y4, y5, y6⟩
      · exact absurd r1 y1
      · have kk := k h2 (I.rul (D2.1.trans n1) (fun i => (D2.2.1 i).trans (k1 i)) (fun i k z => (D2.2.2.2 i k (by unfold zPz at z; unfold zPy; omega)).trans (D1.2.2.2 i k (by unfold zPz at z; unfold zPw; omega))) (fun i k z => (D2.2.2.1 i k).trans (by rw [ri_wR, if_neg (by omega), ri_wR, if_neg (by omega)]; exact D1.2.2.1 i k)) (rt_0 ((D2.2.2.2 _ _ (by unfold zPy; omega)).trans a1) b1 (((D2.2.2.2 _ _ (by unfold zPy; omega)).trans y5).trans b2.symm) (((D2.2.2.2 _ _ (by unfold zPy; omega)).trans y6).trans b3.symm)) (by
            rw [r2] at y4
            obtain ⟨-, -, -, -, ⟨o1, o2, o3⟩, l1⟩ := y4
            refine ⟨q, q0, p, by omega, (D2.2.2.1 _ _).trans (by rw [ri_wR, if_neg (by decide), ri_wR, if_pos ⟨rfl, rfl⟩]), (D2.2.2.1 _ _).trans (by rw [ri_wR, if_pos ⟨rfl, rfl⟩]), gp', ⟨?_, ?_, fun i hi => ?_⟩, EM⟩
            · exact (D2.2.2.2 q 1 (by unfold zPy; omega)).trans (o1.trans (iZ_nat _))
            · exact (D2.2.2.2 q 2 (by unfold zPy; omega)).trans (l1.trans (iZ_nat _))
            · exact (D2.2.2.2 (q + 1) i (by unfold zPy; omega)).trans (o3 i hi)))
        rw [r2] at kk
        exact kk
