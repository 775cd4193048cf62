/-! pairs: place, second, beat -/
theorem Go_aaloadNZ {G : GC} {d mc ms : Nat} {M : MI} {pc pc' : Nat} {lv st : List Value} {h : HS} {K : Option Value → HS → Prop} {X : Int} {i n k t j : Nat} (hd : decode M.2.2.1 pc = .ok (.aaload, 1)) (hp : pc + 1 = pc') (hi : 64 ≤ i ∧ i < 64 + hN h) (hkd : ki h i = (t, n)) (hj : aTy t = some j) (hX : X = (k : Int)) (hk : k < n) (hn : n ≤ 100000) (hv : ri h i k = none) (kk : Go G d mc ms M pc' lv (.null :: st) h K) : Go G d mc ms M pc lv (.int (iZ X) :: .ref i :: st) h K := by
  refine Go_aaload hd hp hi hkd hj (iz_ix hX hk hn) ?_
  rw [iz_cl hX hk hn, hv]; exact kk
theorem qk_cases {h : HS} (I : Inv h) {nq : Nat} (hn : nq ≤ 16) (en : vi h 64 7 = iZ (nq : Int)) (A : Int) : (¬ (0 ≤ A ∧ A < nq)) ∨ ∃ q u : Nat, A = (q : Int) ∧ q < nq ∧ ri h 80 q = some u ∧ QkS h u ∧ PlV h u q ∧ ∀ c, c < 6 → RdR h u q c := by
  by_cases c : 0 ≤ A ∧ A < nq
  · obtain ⟨u, a1, a2, a3, a4⟩ := I.Q.2.1 A.toNat (by rw [en, iZ_t (by omega)]; omega)
    exact Or.inr ⟨A.toNat, u, by omega, by omega, a1, a2, a3, a4⟩
  · exact Or.inl c
theorem rd_cases {h : HS} {u q nc : Nat} (hn : nc ≤ 6) (en : vi h 64 2 = iZ (nc : Int)) (R : ∀ c, c < 6 → RdR h u q c) (B : Int) : (¬ (0 ≤ B ∧ B < 6)) ∨ ∃ c : Nat, B = (c : Int) ∧ c < 6 ∧ ((ri h (u + 1) c = none ∧ vi h 124 (6 * q + c) = iZ 0) ∨ ∃ w, ri h (u + 1) c = some w ∧ vi h 124 (6 * q + c) = iZ 1 ∧ RdS h w ∧ RdV h w (6 * q + c) ∧ c < nc) := by
  by_cases c : 0 ≤ B ∧ B < 6
  · refine Or.inr ⟨B.toNat, by omega, by omega, ?_⟩
    rcases R B.toNat (by omega) with ⟨a, b⟩ | ⟨w, a1, a2, a3, a4, a5⟩
    · exact Or.inl ⟨a, b⟩
    · exact Or.inr ⟨w, a1, a2, a3, a4, by rw [en, iZ_t (by omega)] at a5; omega⟩
  · exact Or.inl c
theorem fq_W (i k : Nat) (h : fpW i k = true) : i < 124 ∨ (132 < i ∧ i < 142) := by unfold fpW at h; simp at h; omega
theorem fq_P (i k : Nat) (h : fpP i k = true) : i < 124 ∨ (132 < i ∧ i < 142) := by unfold fpP at h; simp at h; omega
theorem fq_E (i k : Nat) (h : fpE i k = true) : i < 124 ∨ (132 < i ∧ i < 142) := by unfold fpE at h; simp at h; omega
theorem fq_F (i k : Nat) (h : fpF i k = true) : i < 124 ∨ (132 < i ∧ i < 142) := by unfold fpF at h; simp at h; omega
theorem fq_T (i k : Nat) (h : fpT i k = true) : i < 124 ∨ (132 < i ∧ i < 142) := by unfold fpT at h; simp at h; omega
theorem fq_D (i k : Nat) (h : fpD i k = true) : i < 124 ∨ (132 < i ∧ i < 142) := by unfold fpD at h; simp at h; omega
theorem fq_G (i k : Nat) (h : fpG i k = true) : i < 124 ∨ (132 < i ∧ i < 142) := by unfold fpG at h; simp at h; omega
theorem fq_C (i k : Nat) (h : fpC i k = true) : i < 124 ∨ (132 < i ∧ i < 142) := by unfold fpC at h; simp at h; omega
/-- a reading (q, c) is told anew: the object w, old or new -/
theorem RQ.rd {h h' : HS} (R : RQ h) {q u c w : Nat} (hq : (q : Int) < (vi h 64 7).toInt) (hu : ri h 80 q = some u) (hc : c < 6) (hn : hN h ≤ hN h') (hk : ∀ i, i < 64 + hN h → ki h' i = ki h i) (e7 : vi h' 64 7 = vi h 64 7) (e2 : vi h' 64 2 = vi h 64 2) (e38 : vi h' 99 38 = vi h 99 38) (e80 : ∀ k, ri h' 80 k = ri h 80 k)
    (wk : w < 64 + hN h → (ki h w).1 = 6) (wo : ∀ q' u' c' : Nat, (q' : Int) < (vi h 64 7).toInt → ri h 80 q' = some u' → c' < 6 → ri h (u' + 1) c' = some w → q' = q ∧ c' = c) (hd : ∀ i k, 142 ≤ i → i < 64 + hN h → i ≠ w → vi h' i k = vi h i k) (hr : ∀ i k, 142 ≤ i → i < 64 + hN h → ¬ (i = u + 1 ∧ k = c) → ri h' i k = ri h i k) (em : ∀ i k, 124 ≤ i → i ≤ 132 → (i = 132 ∨ k ≠ 6 * q + c) → vi h' i k = vi h i k)
    (rw' : ri h' (u + 1) c = some w) (m1 : vi h' 124 (6 * q + c) = 1) (RS : RdS h' w) (V : RdV h' w (6 * q + c)) (hcn : (c : Int) < (vi h 64 2).toInt) : RQ h' := by
  obtain ⟨r1, r2, r3, r4, r5⟩ := R
  have r2' := r2
  have uu : ∀ q' u' : Nat, (q' : Int) < (vi h 64 7).toInt → ri h 80 q' = some u' → QkS h u' := by
    intro q' u' a b
    obtain ⟨u1, a1, a2, -⟩ := r2 q' a
    rw [a1] at b; cases b; exact a2
  have une : ∀ q' u' : Nat, (q' : Int) < (vi h 64 7).toInt → ri h 80 q' = some u' → q' ≠ q → u' ≠ u := by
    intro q' u' a b ne e
    rcases Nat.lt_or_gt_of_ne ne with z | z
    · exact r4 q' q u' u z hq b hu e
    · exact r4 q q' u u' z a hu b e.symm
  have rr : ∀ q' u' c' : Nat, (q' : Int) < (vi h 64 7).toInt → ri h 80 q' = some u' → c' < 6 → ¬ (q' = q ∧ c' = c) → ri h' (u' + 1) c' = ri h (u' + 1) c' := by
    intro q' u' c' a b cc ne
    have b1 := (uu q' u' a b).1
    refine hr _ _ (by omega) (by omega) (fun z => ne ?_)
    refine ⟨Classical.byContradiction fun z2 => une q' u' a b z2 (by omega), z.2⟩
  refine ⟨by rw [e7, e38]; exact r1, fun q' hq' => ?_, fun q' hq' h6 => ?_, fun q' q'' u' u'' a b d e => ?_, fun q' q'' c' c'' u' u'' v a b a1 b1 d d' e e' => ?_⟩
  · rw [e7] at hq'
    obtain ⟨u', a1, a2, a3, a4⟩ := r2 q' hq'
    have b := a2.1
    have nw1 : u' ≠ w := fun z => by have := wk (by omega); rw [← z, a2.o] at this; cases this
    have nz : ¬ (u' = u + 1 ∧ 0 = c) := by
      rintro ⟨z1, z2⟩
      have o1 := a2.2.1
      have o2 := (uu q u hq hu).k1
      rw [z1, o2] at o1; cases o1
    refine ⟨u', by rw [e80]; exact a1, ⟨by omega, by rw [hk _ (by omega)]; exact a2.2.1, by rw [hk _ (by omega)]; exact a2.k1, by rw [hr _ _ (by omega) (by omega) nz]; exact a2.r0⟩, ?_, fun c' hc' => ?_⟩
    · unfold PlV at a3 ⊢; rw [hd _ _ (by omega) (by omega) nw1, hd _ _ (by omega) (by omega) nw1, em 132 _ (by decide) (by decide) (Or.inl rfl)]; exact a3
    · by_cases z : q' = q ∧ c' = c
      · obtain ⟨rfl, rfl⟩ := z
        rw [hu] at a1; cases a1
        exact Or.inr ⟨w, rw', m1, RS, V, by rw [e2]; exact hcn⟩
      · have ne : 6 * q' + c' ≠ 6 * q + c := by omega
        rcases a4 c' hc' with ⟨x1, x2⟩ | ⟨v, x1, x2, x3, x4, x5⟩
        · exact Or.inl ⟨by rw [rr q' u' c' hq' a1 hc' z]; exact x1, by rw [em 124 _ (by decide) (by decide) (Or.inr ne)]; exact x2⟩
        · have bw := x3.1
          have nv : v ≠ w := fun zz => z (wo q' u' c' hq' a1 hc' (zz ▸ x1))
          refine Or.inr ⟨v, by rw [rr q' u' c' hq' a1 hc' z]; exact x1, by rw [em 124 _ (by decide) (by decide) (Or.inr ne)]; exact x2, ⟨by omega, by rw [hk _ (by omega)]; exact x3.2⟩, ?_, by rw [e2]; exact x5⟩
          unfold RdV at x4 ⊢
          rw [hd v 0 (by omega) (by omega) nv, hd v 1 (by omega) (by omega) nv, hd v 2 (by omega) (by omega) nv, hd v 3 (by omega) (by omega) nv, hd v 4 (by omega) (by omega) nv, hd v 5 (by omega) (by omega) nv, em 125 _ (by decide) (by decide) (Or.inr ne), em 126 _ (by decide) (by decide) (Or.inr ne), em 127 _ (by decide) (by decide) (Or.inr ne), em 128 _ (by decide) (by decide) (Or.inr ne), em 129 _ (by decide) (by decide) (Or.inr ne), em 130 _ (by decide) (by decide) (Or.inr ne), em 131 _ (by decide) (by decide) (Or.inr ne)]
          exact x4
  · rw [e7] at h6
    rw [em 132 _ (by decide) (by decide) (Or.inl rfl)]
    obtain ⟨x1, x2⟩ := r3 q' hq' h6
    exact ⟨x1, fun c' hc' => by rw [em 124 _ (by decide) (by decide) (Or.inr (by omega))]; exact x2 c' hc'⟩
  · rw [e7] at b; rw [e80] at d e
    exact r4 q' q'' u' u'' a b d e
  · rw [e7] at a b; rw [e80] at a1 b1
    by_cases z : q' = q ∧ c' = c
    · obtain ⟨rfl, rfl⟩ := z
      rw [hu] at a1; cases a1
      rw [rw'] at e; cases e
      by_cases z' : q'' = q' ∧ c'' = c'
      · exact ⟨z'.1.symm, z'.2.symm⟩
      · rw [rr q'' u'' c'' b b1 d' z'] at e'
        exact absurd (wo q'' u'' c'' b b1 d' e') z'
    · rw [rr q' u' c' a a1 d z] at e
      by_cases z' : q'' = q ∧ c'' = c
      · obtain ⟨rfl, rfl⟩ := z'
        rw [hu] at b1; cases b1
        rw [rw'] at e'; cases e'
        exact absurd (wo q' u' c' a a1 d e) z
      · rw [rr q'' u'' c'' b b1 d' z'] at e'
        exact r5 q' q'' c' c'' u' u'' v a b a1 b1 d d' e e'
/-- all but w's fields and the model's places of reading e stay -/
def DifR (w e : Nat) (h h' : HS) : Prop := hN h' = hN h ∧ (∀ i, ki h' i = ki h i) ∧ (∀ i k, ri h' i k = ri h i k) ∧ ∀ i k, ¬ (i = w ∨ (125 ≤ i ∧ i ≤ 131 ∧ k = e)) → vi h' i k = vi h i k
theorem DifR.rf (w e : Nat) (h : HS) : DifR w e h h := ⟨rfl, fun _ => rfl, fun _ _ => rfl, fun _ _ _ => rfl⟩
theorem DifR.wI {w e : Nat} {h h' : HS} {i k : Nat} {v : Int32} (a : DifR w e h h') (o : i = w ∨ (125 ≤ i ∧ i ≤ 131 ∧ k = e)) : DifR w e h (wI h' i k v) := by
  refine ⟨a.1, a.2.1, a.2.2.1, fun x y hx => ?_⟩
  rw [vi_wI, if_neg (fun z => by rw [z.1, z.2] at hx; exact hx o)]
  exact a.2.2.2 x y hx
theorem Inv.rd {h h' : HS} (I : Inv h) {q u c w : Nat} (hq : (q : Int) < (vi h 64 7).toInt) (hu : ri h 80 q = some u) (hc : c < 6) (hw : ri h (u + 1) c = some w) (RS : RdS h w) (h1 : vi h 124 (6 * q + c) = 1) (hcn : (c : Int) < (vi h 64 2).toInt) (D : DifR w (6 * q + c) h h') (V : RdV h' w (6 * q + c)) : Inv h' := by
  obtain ⟨d1, d2, d3, d4⟩ := D
  have b := RS.1
  have so : ∀ {P : Nat → Nat → Bool}, (∀ i k, P i k = true → i < 124 ∨ (132 < i ∧ i < 142)) → SameOn P h h' := by
    intro P hP i k e
    have := hP i k e
    exact ⟨d4 i k (by omega), d3 i k⟩
  have S' : Shp h' := ⟨by rw [d1]; exact I.S.1, fun i a b => by rw [d2]; exact I.S.2.1 i a b, fun i a b k r e => by rw [d3]; exact I.S.2.2 i a b k r e⟩
  refine ⟨S', I.D.fr (so fq_D), I.W.fr (so fq_W), I.P.fr (so fq_P), I.E.fr (so fq_E), I.F.fr (so fq_F), I.T.fr (so fq_T), I.G.fr (so fq_G), I.C.fr (so fq_C) (by omega) (fun i _ => d2 i) (fun i h1 h2 h3 k => ⟨d4 i k (fun z => ?_), d3 i k⟩), ?_⟩
  · rcases z with rfl | z
    · rw [RS.o] at h3; omega
    · omega
  · exact I.Q.rd hq hu hc (by omega) (fun i _ => d2 i) (d4 _ _ (by omega)) (d4 _ _ (by omega)) (d4 _ _ (by omega)) (fun k => d3 _ _) (fun _ => RS.o) (fun q' u' c' a a1 d e => I.Q.2.2.2.2 q' q c' c u' u w a hq a1 hu d hc e hw) (fun i k x y z => d4 i k (by omega)) (fun i k _ _ _ => d3 i k) (fun i k x y z => d4 i k (by omega)) (by rw [d3]; exact hw) (by rw [d4 _ _ (by omega)]; exact h1) ⟨by omega, by rw [d2]; exact RS.2⟩ V hcn
/-- a quake's place is told -/
theorem Inv.pl {h : HS} (I : Inv h) {q u : Nat} {X Y : Int} (hq : (q : Int) < (vi h 64 7).toInt) (hu : ri h 80 q = some u) (QS : QkS h u) (hX : 0 ≤ X ∧ X ≤ 39) (hY : 0 ≤ Y ∧ Y ≤ 39) : Inv (wI (wI (wI h u 1 (iZ X)) u 2 (iZ Y)) 132 q (iZ (40 * Y + X))) := by
  have b := QS.1
  have d4 : ∀ i k, ¬ (i = u ∨ (i = 132 ∧ k = q)) → vi (wI (wI (wI h u 1 (iZ X)) u 2 (iZ Y)) 132 q (iZ (40 * Y + X))) i k = vi h i k := fun i k z => (vi_skip (by omega)).trans ((vi_skip (by omega)).trans (vi_skip (by omega)))
  have so : ∀ {P : Nat → Nat → Bool}, (∀ i k, P i k = true → i < 124 ∨ (132 < i ∧ i < 142)) → SameOn P h (wI (wI (wI h u 1 (iZ X)) u 2 (iZ Y)) 132 q (iZ (40 * Y + X))) := by
    intro P hP i k e
    have := hP i k e
    exact ⟨d4 i k (by omega), rfl⟩
  refine ⟨I.S, I.D.fr (so fq_D), I.W.fr (so fq_W), I.P.fr (so fq_P), I.E.fr (so fq_E), I.F.fr (so fq_F), I.T.fr (so fq_T), I.G.fr (so fq_G), I.C.fr (so fq_C) (Nat.le_refl _) (fun i _ => rfl) (fun i h1 h2 h3 k => ⟨d4 i k (fun z => ?_), rfl⟩), ?_⟩
  · rcases z with rfl | z
    · rw [QS.o] at h3; omega
    · omega
  · obtain ⟨r1, r2, r3, r4, r5⟩ := I.Q
    have e7 := d4 64 7 (by omega)
    have e2 := d4 64 2 (by omega)
    refine ⟨by rw [e7, d4 99 38 (by omega)]; exact r1, fun q' hq' => ?_, fun q' hq' h6 => ?_, fun q' q'' u' u'' a b d e => ?_, fun q' q'' c' c'' u' u'' v a b a1 b1 d d' e e' => ?_⟩
    · rw [e7] at hq'
      obtain ⟨u', a1, a2, a3, a4⟩ := r2 q' hq'
      have bb := a2.1
      refine ⟨u', a1, a2, ?_, fun c' hc' => ?_⟩
      · by_cases z : q' = q
        · subst z
          rw [hu] at a1; cases a1
          refine Or.inr ⟨?_, ?_, ?_⟩
          · rw [vi_skip (by omega), vi_skip (by omega), vi_same]; exact rgz hX (by omega)
          · rw [vi_skip (by omega), vi_same]; exact rgz hY (by omega)
          · rw [vi_same, vi_skip (by omega), vi_same, vi_skip (by omega), vi_skip (by omega), vi_same, iZ_t (by omega), iZ_t (by omega), iZ_t (by omega)]
        · have un : u' ≠ u := by
            intro e
            rcases Nat.lt_or_gt_of_ne z with y | y
            · exact r4 q' q u' u y hq a1 hu e
            · exact r4 q q' u u' y hq' hu a1 e.symm
          unfold PlV at a3 ⊢; rw [d4 u' 1 (by omega), d4 u' 2 (by omega), d4 132 q' (by omega)]; exact a3
      · rcases a4 c' hc' with ⟨x1, x2⟩ | ⟨v, x1, x2, x3, x4, x5⟩
        · exact Or.inl ⟨x1, by rw [d4 _ _ (by omega)]; exact x2⟩
        · have nv : v ≠ u := fun z => by have := x3.o; rw [z, QS.o] at this; cases this
          have bv := x3.1
          refine Or.inr ⟨v, x1, by rw [d4 _ _ (by omega)]; exact x2, x3, ?_, by rw [e2]; exact x5⟩
          unfold RdV at x4 ⊢
          rw [d4 v 0 (by omega), d4 v 1 (by omega), d4 v 2 (by omega), d4 v 3 (by omega), d4 v 4 (by omega), d4 v 5 (by omega), d4 125 _ (by omega), d4 126 _ (by omega), d4 127 _ (by omega), d4 128 _ (by omega), d4 129 _ (by omega), d4 130 _ (by omega), d4 131 _ (by omega)]
          exact x4
    · rw [e7] at h6
      rw [d4 132 q' (by omega)]
      obtain ⟨x1, x2⟩ := r3 q' hq' h6
      exact ⟨x1, fun c' hc' => by rw [d4 _ _ (by omega)]; exact x2 c' hc'⟩
    · rw [e7] at b; exact r4 q' q'' u' u'' a b d e
    · rw [e7] at a b; exact r5 q' q'' c' c'' u' u'' v a b a1 b1 d d' e e'
set_option maxRecDepth 20000 in
set_option maxHeartbeats 1000000 in
theorem s_isSpan {G : GC} {d mc ms : Nat} {h : HS} {K : Option Value → HS → Prop} {x y : Int} (hx : -2147483648 ≤ x ∧ x < 2147483648) (hy : -2147483648 ≤ y ∧ y < 2147483648) (hk : K (some (.int (b2i (0 ≤ x ∧ x ≤ y ∧ y ≤ 9999999)))) h) : Go G (d + 1) mc ms M_X11_isSpan 0 [.int (iZ x), .int (iZ y)] [] h K := by
  refine Go_iload_n (pc' := 1) dX11_isSpan_0 rfl rfl rfl ?_
  refine Go_iconst (v := iZ 0) (pc' := 2) dX11_isSpan_1 rfl (by decide) ?_
  refine Go_ldcwZ (X := 9999999) (pc' := 5) dX11_isSpan_2 rfl kn_RX11_352 (by decide) ?_
  refine Go_callS_i (pc' := 8) (As := [.int _, .int _, .int _]) (st := []) dX11_isSpan_5 rfl ok_X11_within km_RX11_94 rfl (Nat.le_of_ble_eq_true rfl) rfl rfl rfl (Nat.le_of_ble_eq_true rfl) (Nat.lt_succ_self _) ?_
  refine s_withinY (by first | exact ⟨i_lo _, i_hi _⟩ | omega) (by first | exact ⟨i_lo _, i_hi _⟩ | omega) (by first | exact ⟨i_lo _, i_hi _⟩ | omega) ?_
  refine ⟨_, rfl, ?_⟩
  refine Go_if_eqb (tgt := 26) (pc' := 11) dX11_isSpan_8 (by decide) rfl (fun c8 => ?_) (fun c8 => ?_)
  · refine Go_iconst (v := iZ 0) (pc' := 27) dX11_isSpan_26 rfl (by decide) ?_
    refine Go_ireturn (ty := .boolean) dX11_isSpan_27 rfl rfl ?_
    rw [b2i_f (by omega)] at hk; exact hk
  · refine Go_iload_n (pc' := 12) dX11_isSpan_11 rfl rfl rfl ?_
    refine Go_iload_n (pc' := 13) dX11_isSpan_12 rfl rfl rfl ?_
    refine Go_ldcwZ (X := 9999999) (pc' := 16) dX11_isSpan_13 rfl kn_RX11_352 (by decide) ?_
    refine Go_callS_i (pc' := 19) (As := [.int _, .int _, .int _]) (st := []) dX11_isSpan_16 rfl ok_X11_within km_RX11_94 rfl (Nat.le_of_ble_eq_true rfl) rfl rfl rfl (Nat.le_of_ble_eq_true rfl) (Nat.lt_succ_self _) ?_
    refine s_withinY (by first | exact ⟨i_lo _, i_hi _⟩ | omega) (by first | exact ⟨i_lo _, i_hi _⟩ | omega) (by first | exact ⟨i_lo _, i_hi _⟩ | omega) ?_
    refine ⟨_, rfl, ?_⟩
    refine Go_if_eqb (tgt := 26) (pc' := 22) dX11_isSpan_19 (by decide) rfl (fun c19 => ?_) (fun c19 => ?_)
    · refine Go_iconst (v := iZ 0) (pc' := 27) dX11_isSpan_26 rfl (by decide) ?_
      refine Go_ireturn (ty := .boolean) dX11_isSpan_27 rfl rfl ?_
      rw [b2i_f (by omega)] at hk; exact hk
    · refine Go_iconst (v := iZ 1) (pc' := 23) dX11_isSpan_22 rfl (by decide) ?_
      refine Go_goto (tgt := 27) dX11_isSpan_23 (by decide) ?_
      refine Go_ireturn (ty := .boolean) dX11_isSpan_27 rfl rfl ?_
      rw [b2i_t (by omega)] at hk; exact hk
set_option maxRecDepth 20000 in
set_option maxHeartbeats 1000000 in
theorem s_areTimes {G : GC} {d mc ms : Nat} {h : HS} {K : Option Value → HS → Prop} {x y : Int} (hx : -2147483648 ≤ x ∧ x < 2147483648) (hy : -2147483648 ≤ y ∧ y < 2147483648) (hk : K (some (.int (b2i (0 ≤ x ∧ x ≤ y ∧ y ≤ 9999999)))) h) : Go G (d + 1) mc ms M_X12_areTimes 0 [.int (iZ x), .int (iZ y)] [] h K := by
  refine Go_iload_n (pc' := 1) dX12_areTimes_0 rfl rfl rfl ?_
  refine Go_iconst (v := iZ 0) (pc' := 2) dX12_areTimes_1 rfl (by decide) ?_
  refine Go_ldcwZ (X := 9999999) (pc' := 5) dX12_areTimes_2 rfl kn_RX12_339 (by decide) ?_
  refine Go_callS_i (pc' := 8) (As := [.int _, .int _, .int _]) (st := []) dX12_areTimes_5 rfl ok_X12_isIn km_RX12_147 rfl (Nat.le_of_ble_eq_true rfl) rfl rfl rfl (Nat.le_of_ble_eq_true rfl) (Nat.lt_succ_self _) ?_
  refine s_isInY (by first | exact ⟨i_lo _, i_hi _⟩ | omega) (by first | exact ⟨i_lo _, i_hi _⟩ | omega) (by first | exact ⟨i_lo _, i_hi _⟩ | omega) ?_
  refine ⟨_, rfl, ?_⟩
  refine Go_if_eqb (tgt := 26) (pc' := 11) dX12_areTimes_8 (by decide) rfl (fun c8 => ?_) (fun c8 => ?_)
  · refine Go_iconst (v := iZ 0) (pc' := 27) dX12_areTimes_26 rfl (by decide) ?_
    refine Go_ireturn (ty := .boolean) dX12_areTimes_27 rfl rfl ?_
    rw [b2i_f (by omega)] at hk; exact hk
  · refine Go_iload_n (pc' := 12) dX12_areTimes_11 rfl rfl rfl ?_
    refine Go_iload_n (pc' := 13) dX12_areTimes_12 rfl rfl rfl ?_
    refine Go_ldcwZ (X := 9999999) (pc' := 16) dX12_areTimes_13 rfl kn_RX12_339 (by decide) ?_
    refine Go_callS_i (pc' := 19) (As := [.int _, .int _, .int _]) (st := []) dX12_areTimes_16 rfl ok_X12_isIn km_RX12_147 rfl (Nat.le_of_ble_eq_true rfl) rfl rfl rfl (Nat.le_of_ble_eq_true rfl) (Nat.lt_succ_self _) ?_
    refine s_isInY (by first | exact ⟨i_lo _, i_hi _⟩ | omega) (by first | exact ⟨i_lo _, i_hi _⟩ | omega) (by first | exact ⟨i_lo _, i_hi _⟩ | omega) ?_
    refine ⟨_, rfl, ?_⟩
    refine Go_if_eqb (tgt := 26) (pc' := 22) dX12_areTimes_19 (by decide) rfl (fun c19 => ?_) (fun c19 => ?_)
    · refine Go_iconst (v := iZ 0) (pc' := 27) dX12_areTimes_26 rfl (by decide) ?_
      refine Go_ireturn (ty := .boolean) dX12_areTimes_27 rfl rfl ?_
      rw [b2i_f (by omega)] at hk; exact hk
    · refine Go_iconst (v := iZ 1) (pc' := 23) dX12_areTimes_22 rfl (by decide) ?_
      refine Go_goto (tgt := 27) dX12_areTimes_23 (by decide) ?_
      refine Go_ireturn (ty := .boolean) dX12_areTimes_27 rfl rfl ?_
      rw [b2i_t (by omega)] at hk; exact hk
set_option maxRecDepth 20000 in
set_option maxHeartbeats 1000000 in
theorem pair30 {G : GC} (a b c : Int32) : PairI G M_X11_place M_X12_place [.int a, .int b, .int c] := by
  intro h I
  obtain ⟨Az, hva, rfl⟩ := i_eta a
  obtain ⟨Bz, hvb, rfl⟩ := i_eta b
  obtain ⟨Cz, hvc, rfl⟩ := i_eta c
  obtain ⟨nq, hnq, eq7⟩ := of_rgZ (b := 16) I.Q.1.2
  have eq38 : vi h 99 38 = iZ (nq : Int) := I.Q.1.1.trans eq7
  obtain ⟨nc, hnc, ec2⟩ := of_rgZ (b := 6) I.C.1.2
  have ec0 : vi h 99 0 = iZ (nc : Int) := I.C.1.1.trans ec2
  rcases qk_cases I hnq eq7 Az with hq0 | ⟨q, u, rfl, hq, hu, QS, PV, RR⟩
  · refine PairI.ro' (fun _ => iZ 0) h I (fun K k => ?_) (fun K k => ?_)
    · show Go G 60 0 0 M_X11_place 0 [.ref 64, .int (iZ Az), .int (iZ Bz), .int (iZ Cz), un] [] h K
      refine Go_aload_n (pc' := 1) dX11_place_0 rfl rfl rfl ?_
      refine Go_iload_n (pc' := 2) dX11_place_1 rfl rfl rfl ?_
      refine Go_callV_r (pc' := 5) (As := [.int _]) (st := []) dX11_place_2 rfl ok_X11_quakeOf km_RX11_230 (I.S.o 64 rfl rfl rfl) (I.S.b 64 rfl rfl) ⟨_, _, rfl⟩ rfl (Nat.le_of_ble_eq_true rfl) rfl rfl rfl (Nat.le_of_ble_eq_true rfl) (Nat.lt_succ_self _) ?_
      refine Go_iload_n (pc' := 1) dX11_quakeOf_0 rfl rfl rfl ?_
      refine Go_iconst (v := iZ 0) (pc' := 2) dX11_quakeOf_1 rfl (by decide) ?_
      refine Go_aload_n (pc' := 3) dX11_quakeOf_2 rfl rfl rfl ?_
      refine Go_getIv (v := (iZ (nq : Int))) (pc' := 6) dX11_quakeOf_3 rfl kf_RX11_226 (by decide) (by decide) rfl (I.S.b 64 rfl rfl) (I.S.o 64 rfl rfl rfl) (eq7) ?_
      refine Go_iconst (v := iZ 1) (pc' := 7) dX11_quakeOf_6 rfl (by decide) ?_
      refine Go_isubZ (pc' := 8) dX11_quakeOf_7 rfl ?_
      refine Go_callS_i (pc' := 11) (As := [.int _, .int _, .int _]) (st := []) dX11_quakeOf_8 rfl ok_X11_within km_RX11_94 rfl (Nat.le_of_ble_eq_true rfl) rfl rfl rfl (Nat.le_of_ble_eq_true rfl) (Nat.lt_succ_self _) ?_
      refine s_withinY (by first | exact ⟨i_lo _, i_hi _⟩ | omega) (by first | exact ⟨i_lo _, i_hi _⟩ | omega) (by first | exact ⟨i_lo _, i_hi _⟩ | omega) ?_
      refine ⟨_, rfl, ?_⟩
      refine Go_if_eqb (tgt := 32) (pc' := 14) dX11_quakeOf_11 (by decide) rfl (fun q11 => ?_) (fun q11 => by exfalso; omega)
      refine Go_null (pc' := 33) dX11_quakeOf_32 rfl ?_
      refine Go_areturn (r := none) dX11_quakeOf_33 rfl ?_
      refine ⟨none, rfl, ?_⟩
      refine Go_astoreN (pc' := 7) (lv' := [.ref _, .int _, .int _, .int _, .null]) dX11_place_5 rfl (Nat.le_of_ble_eq_true rfl) rfl rfl ?_
      refine Go_aloadN (pc' := 9) dX11_place_7 rfl rfl ?_
      refine Go_ifnullN (tgt := 20) dX11_place_9 (by decide) ?_
      refine Go_iconst (v := iZ 0) (pc' := 21) dX11_place_20 rfl (by decide) ?_
      refine Go_ireturn (ty := .boolean) dX11_place_21 rfl rfl ?_
      exact k
    · show Go G 60 0 0 M_X12_place 0 [.ref 99, .int (iZ Az), .int (iZ Bz), .int (iZ Cz)] [] h K
      refine Go_aload_n (pc' := 1) dX12_place_0 rfl rfl rfl ?_
      refine Go_iload_n (pc' := 2) dX12_place_1 rfl rfl rfl ?_
      refine Go_callV_i (pc' := 5) (As := [.int _]) (st := []) dX12_place_2 rfl ok_X12_isQuake km_RX12_340 (I.S.o 99 rfl rfl rfl) (I.S.b 99 rfl rfl) ⟨_, _, rfl⟩ rfl (Nat.le_of_ble_eq_true rfl) rfl rfl rfl (Nat.le_of_ble_eq_true rfl) (Nat.lt_succ_self _) ?_
      refine Go_iload_n (pc' := 1) dX12_isQuake_0 rfl rfl rfl ?_
      refine Go_iconst (v := iZ 0) (pc' := 2) dX12_isQuake_1 rfl (by decide) ?_
      refine Go_aload_n (pc' := 3) dX12_isQuake_2 rfl rfl rfl ?_
      refine Go_getIv (v := (iZ (nq : Int))) (pc' := 6) dX12_isQuake_3 rfl kf_RX12_336 (by decide) (by decide) rfl (I.S.b 99 rfl rfl) (I.S.o 99 rfl rfl rfl) (eq38) ?_
      refine Go_iconst (v := iZ 1) (pc' := 7) dX12_isQuake_6 rfl (by decide) ?_
      refine Go_isubZ (pc' := 8) dX12_isQuake_7 rfl ?_
      refine Go_callS_i (pc' := 11) (As := [.int _, .int _, .int _]) (st := []) dX12_isQuake_8 rfl ok_X12_isIn km_RX12_147 rfl (Nat.le_of_ble_eq_true rfl) rfl rfl rfl (Nat.le_of_ble_eq_true rfl) (Nat.lt_succ_self _) ?_
      refine s_isInY (by first | exact ⟨i_lo _, i_hi _⟩ | omega) (by first | exact ⟨i_lo _, i_hi _⟩ | omega) (by first | exact ⟨i_lo _, i_hi _⟩ | omega) ?_
      refine ⟨_, rfl, ?_⟩
      refine Go_ireturn (ty := .boolean) dX12_isQuake_11 rfl b2i_nb ?_
      refine ⟨_, rfl, ?_⟩
      refine Go_if_eqb (tgt := 16) (pc' := 8) dX12_place_5 (by decide) rfl (fun c5 => ?_) (fun c5 => by exfalso; omega)
      refine Go_iconst (v := iZ 0) (pc' := 17) dX12_place_16 rfl (by decide) ?_
      refine Go_ireturn (ty := .boolean) dX12_place_17 rfl rfl ?_
      exact k
  · have hu0 := QS.1
    refine ⟨fun r h1 => (((0 ≤ Bz ∧ Bz ≤ 39) ∧ (0 ≤ Cz ∧ Cz ≤ 39)) ∧ r = iZ 1 ∧ h1 = (wI (wI h u 1 (iZ Bz)) u 2 (iZ Cz))) ∨ (¬ ((0 ≤ Bz ∧ Bz ≤ 39) ∧ (0 ≤ Cz ∧ Cz ≤ 39)) ∧ r = iZ 0 ∧ h = h1), fun K k => ?_, ?_⟩
    · refine Go.more (d := 60) (mc := 0) (ms := 0) ?_ (by omega) (by omega) (by omega)
      show Go G 60 0 0 M_X11_place 0 [.ref 64, .int (iZ (q : Int)), .int (iZ Bz), .int (iZ Cz), un] [] h K
      refine Go_aload_n (pc' := 1) dX11_place_0 rfl rfl rfl ?_
      refine Go_iload_n (pc' := 2) dX11_place_1 rfl rfl rfl ?_
      refine Go_callV_r (pc' := 5) (As := [.int _]) (st := []) dX11_place_2 rfl ok_X11_quakeOf km_RX11_230 (I.S.o 64 rfl rfl rfl) (I.S.b 64 rfl rfl) ⟨_, _, rfl⟩ rfl (Nat.le_of_ble_eq_true rfl) rfl rfl rfl (Nat.le_of_ble_eq_true rfl) (Nat.lt_succ_self _) ?_
      refine Go_iload_n (pc' := 1) dX11_quakeOf_0 rfl rfl rfl ?_
      refine Go_iconst (v := iZ 0) (pc' := 2) dX11_quakeOf_1 rfl (by decide) ?_
      refine Go_aload_n (pc' := 3) dX11_quakeOf_2 rfl rfl rfl ?_
      refine Go_getIv (v := (iZ (nq : Int))) (pc' := 6) dX11_quakeOf_3 rfl kf_RX11_226 (by decide) (by decide) rfl (I.S.b 64 rfl rfl) (I.S.o 64 rfl rfl rfl) (eq7) ?_
      refine Go_iconst (v := iZ 1) (pc' := 7) dX11_quakeOf_6 rfl (by decide) ?_
      refine Go_isubZ (pc' := 8) dX11_quakeOf_7 rfl ?_
      refine Go_callS_i (pc' := 11) (As := [.int _, .int _, .int _]) (st := []) dX11_quakeOf_8 rfl ok_X11_within km_RX11_94 rfl (Nat.le_of_ble_eq_true rfl) rfl rfl rfl (Nat.le_of_ble_eq_true rfl) (Nat.lt_succ_self _) ?_
      refine s_withinY (by first | exact ⟨i_lo _, i_hi _⟩ | omega) (by first | exact ⟨i_lo _, i_hi _⟩ | omega) (by first | exact ⟨i_lo _, i_hi _⟩ | omega) ?_
      refine ⟨_, rfl, ?_⟩
      refine Go_if_eqb (tgt := 32) (pc' := 14) dX11_quakeOf_11 (by decide) rfl (fun q11 => by exfalso; omega) (fun q11 => ?_)
      refine Go_iload_n (pc' := 15) dX11_quakeOf_14 rfl rfl rfl ?_
      refine Go_aload_n (pc' := 16) dX11_quakeOf_15 rfl rfl rfl ?_
      refine Go_getRs (pc' := 19) dX11_quakeOf_16 rfl kf_RX11_45 (by decide) (by decide) rfl (I.S.b 64 rfl rfl) (I.S.o 64 rfl rfl rfl) (I.S.r 64 6 rfl rfl rfl) ?_
      refine Go_alenZ (n := 16) (pc' := 20) dX11_quakeOf_19 rfl (I.S.b 80 rfl rfl) (I.S.k 80 rfl rfl rfl) (Or.inr (Or.inr ⟨_, rfl⟩)) ?_
      refine Go_icmp_geY (tgt := 32) (pc' := 23) dX11_quakeOf_20 (by decide) rfl (by first | exact ⟨i_lo _, i_hi _⟩ | omega) (by first | exact ⟨i_lo _, i_hi _⟩ | omega) (fun q20 => by exfalso; omega) (fun q20 => ?_)
      refine Go_aload_n (pc' := 24) dX11_quakeOf_23 rfl rfl rfl ?_
      refine Go_getRs (pc' := 27) dX11_quakeOf_24 rfl kf_RX11_45 (by decide) (by decide) rfl (I.S.b 64 rfl rfl) (I.S.o 64 rfl rfl rfl) (I.S.r 64 6 rfl rfl rfl) ?_
      refine Go_iload_n (pc' := 28) dX11_quakeOf_27 rfl rfl rfl ?_
      refine Go_aaloadZ (n := 16) (k := q) (pc' := 29) dX11_quakeOf_28 rfl (I.S.b 80 rfl rfl) (I.S.k 80 rfl rfl rfl) rfl rfl (by omega) (by decide) hu ?_
      refine Go_goto (tgt := 33) dX11_quakeOf_29 (by decide) ?_
      refine Go_areturn (r := some _) dX11_quakeOf_33 rfl ?_
      refine ⟨some _, rfl, ?_⟩
      refine Go_astore (pc' := 7) (lv' := [.ref _, .int _, .int _, .int _, .ref _]) dX11_place_5 rfl (Nat.le_of_ble_eq_true rfl) rfl rfl ?_
      refine Go_aload (pc' := 9) dX11_place_7 rfl rfl ?_
      refine Go_ifnull (pc' := 12) dX11_place_9 rfl ?_
      refine Go_iload_n (pc' := 13) dX11_place_12 rfl rfl rfl ?_
      refine Go_iload_n (pc' := 14) dX11_place_13 rfl rfl rfl ?_
      refine Go_callS_i (pc' := 17) (As := [.int _, .int _]) (st := []) dX11_place_14 rfl ok_X11_isCell km_RX11_80 rfl (Nat.le_of_ble_eq_true rfl) rfl rfl rfl (Nat.le_of_ble_eq_true rfl) (Nat.lt_succ_self _) ?_
      refine s_isCellY (by first | exact ⟨i_lo _, i_hi _⟩ | omega) (by first | exact ⟨i_lo _, i_hi _⟩ | omega) ?_
      refine ⟨_, rfl, ?_⟩
      refine Go_if_neb (tgt := 22) (pc' := 20) dX11_place_17 (by decide) rfl (fun c17 => ?_) (fun c17 => ?_)
      · refine Go_aload (pc' := 24) dX11_place_22 rfl rfl ?_
        refine Go_iload_n (pc' := 25) dX11_place_24 rfl rfl rfl ?_
        refine Go_putI (pc' := 28) dX11_place_25 rfl kf_RX11_300 (by decide) (by decide) rfl QS.b QS.o (Or.inl rfl) rfl rfl ?_
        refine Go_aload (pc' := 30) dX11_place_28 rfl rfl ?_
        refine Go_iload_n (pc' := 31) dX11_place_30 rfl rfl rfl ?_
        refine Go_putI (pc' := 34) dX11_place_31 rfl kf_RX11_303 (by decide) (by decide) rfl QS.b QS.o (Or.inl rfl) rfl rfl ?_
        refine Go_iconst (v := iZ 1) (pc' := 35) dX11_place_34 rfl (by decide) ?_
        refine Go_ireturn (ty := .boolean) dX11_place_35 rfl rfl ?_
        exact k _ _ (Or.inl ⟨by omega, rfl, rfl⟩) I.S
      · refine Go_iconst (v := iZ 0) (pc' := 21) dX11_place_20 rfl (by decide) ?_
        refine Go_ireturn (ty := .boolean) dX11_place_21 rfl rfl ?_
        exact k _ _ (Or.inr ⟨by omega, rfl, rfl⟩) I.S
    · rintro r h1 (⟨hc, rfl, rfl⟩ | ⟨hc, rfl, rfl⟩) K k
      · show Go G 60 0 0 M_X12_place 0 [.ref 99, .int (iZ (q : Int)), .int (iZ Bz), .int (iZ Cz)] [] (wI (wI h u 1 (iZ Bz)) u 2 (iZ Cz)) K
        refine Go_aload_n (pc' := 1) dX12_place_0 rfl rfl rfl ?_
        refine Go_iload_n (pc' := 2) dX12_place_1 rfl rfl rfl ?_
        refine Go_callV_i (pc' := 5) (As := [.int _]) (st := []) dX12_place_2 rfl ok_X12_isQuake km_RX12_340 (I.S.o 99 rfl rfl rfl) (I.S.b 99 rfl rfl) ⟨_, _, rfl⟩ rfl (Nat.le_of_ble_eq_true rfl) rfl rfl rfl (Nat.le_of_ble_eq_true rfl) (Nat.lt_succ_self _) ?_
        refine Go_iload_n (pc' := 1) dX12_isQuake_0 rfl rfl rfl ?_
        refine Go_iconst (v := iZ 0) (pc' := 2) dX12_isQuake_1 rfl (by decide) ?_
        refine Go_aload_n (pc' := 3) dX12_isQuake_2 rfl rfl rfl ?_
        refine Go_getIv (v := (iZ (nq : Int))) (pc' := 6) dX12_isQuake_3 rfl kf_RX12_336 (by decide) (by decide) rfl (I.S.b 99 rfl rfl) (I.S.o 99 rfl rfl rfl) ((vi_skip (Or.inl (by omega))).trans ((vi_skip (Or.inl (by omega))).trans (eq38))) ?_
        refine Go_iconst (v := iZ 1) (pc' := 7) dX12_isQuake_6 rfl (by decide) ?_
        refine Go_isubZ (pc' := 8) dX12_isQuake_7 rfl ?_
        refine Go_callS_i (pc' := 11) (As := [.int _, .int _, .int _]) (st := []) dX12_isQuake_8 rfl ok_X12_isIn km_RX12_147 rfl (Nat.le_of_ble_eq_true rfl) rfl rfl rfl (Nat.le_of_ble_eq_true rfl) (Nat.lt_succ_self _) ?_
        refine s_isInY (by first | exact ⟨i_lo _, i_hi _⟩ | omega) (by first | exact ⟨i_lo _, i_hi _⟩ | omega) (by first | exact ⟨i_lo _, i_hi _⟩ | omega) ?_
        refine ⟨_, rfl, ?_⟩
        refine Go_ireturn (ty := .boolean) dX12_isQuake_11 rfl b2i_nb ?_
        refine ⟨_, rfl, ?_⟩
        refine Go_if_eqb (tgt := 16) (pc' := 8) dX12_place_5 (by decide) rfl (fun c5 => by exfalso; omega) (fun c5 => ?_)
        refine Go_iload_n (pc' := 9) dX12_place_8 rfl rfl rfl ?_
        refine Go_iload_n (pc' := 10) dX12_place_9 rfl rfl rfl ?_
        refine Go_callS_i (pc' := 13) (As := [.int _, .int _]) (st := []) dX12_place_10 rfl ok_X12_isCell km_RX12_154 rfl (Nat.le_of_ble_eq_true rfl) rfl rfl rfl (Nat.le_of_ble_eq_true rfl) (Nat.lt_succ_self _) ?_
        refine s_isCellMY (by first | exact ⟨i_lo _, i_hi _⟩ | omega) (by first | exact ⟨i_lo _, i_hi _⟩ | omega) ?_
        refine ⟨_, rfl, ?_⟩
        refine Go_if_neb (tgt := 18) (pc' := 16) dX12_place_13 (by decide) rfl (fun c13 => ?_) (fun c13 => ?_)
        · refine Go_aload_n (pc' := 19) dX12_place_18 rfl rfl rfl ?_
          refine Go_getRs (pc' := 22) dX12_place_19 rfl kf_RX12_117 (by decide) (by decide) rfl (I.S.b 99 rfl rfl) (I.S.o 99 rfl rfl rfl) (I.S.r 99 49 rfl rfl rfl) ?_
          refine Go_iload_n (pc' := 23) dX12_place_22 rfl rfl rfl ?_
          refine Go_bipush (v := iZ 40) (pc' := 25) dX12_place_23 rfl (by decide) ?_
          refine Go_iload_n (pc' := 26) dX12_place_25 rfl rfl rfl ?_
          refine Go_imulZ (pc' := 27) dX12_place_26 rfl ?_
          refine Go_iload_n (pc' := 28) dX12_place_27 rfl rfl rfl ?_
          refine Go_iaddZ (pc' := 29) dX12_place_28 rfl ?_
          refine Go_iastoreZ (n := 16) (k := q) (pc' := 30) dX12_place_29 rfl (I.S.b 132 rfl rfl) (I.S.k 132 rfl rfl rfl) rfl (by omega) (by decide) ?_
          refine Go_iconst (v := iZ 1) (pc' := 31) dX12_place_30 rfl (by decide) ?_
          refine Go_ireturn (ty := .boolean) dX12_place_31 rfl rfl ?_
          exact k _ (I.pl (by rw [eq7, iZ_t (by omega)]; omega) hu QS (by omega) (by omega))
        · refine Go_iconst (v := iZ 0) (pc' := 17) dX12_place_16 rfl (by decide) ?_
          refine Go_ireturn (ty := .boolean) dX12_place_17 rfl rfl ?_
          exfalso; omega
      · show Go G 60 0 0 M_X12_place 0 [.ref 99, .int (iZ (q : Int)), .int (iZ Bz), .int (iZ Cz)] [] h K
        refine Go_aload_n (pc' := 1) dX12_place_0 rfl rfl rfl ?_
        refine Go_iload_n (pc' := 2) dX12_place_1 rfl rfl rfl ?_
        refine Go_callV_i (pc' := 5) (As := [.int _]) (st := []) dX12_place_2 rfl ok_X12_isQuake km_RX12_340 (I.S.o 99 rfl rfl rfl) (I.S.b 99 rfl rfl) ⟨_, _, rfl⟩ rfl (Nat.le_of_ble_eq_true rfl) rfl rfl rfl (Nat.le_of_ble_eq_true rfl) (Nat.lt_succ_self _) ?_
        refine Go_iload_n (pc' := 1) dX12_isQuake_0 rfl rfl rfl ?_
        refine Go_iconst (v := iZ 0) (pc' := 2) dX12_isQuake_1 rfl (by decide) ?_
        refine Go_aload_n (pc' := 3) dX12_isQuake_2 rfl rfl rfl ?_
        refine Go_getIv (v := (iZ (nq : Int))) (pc' := 6) dX12_isQuake_3 rfl kf_RX12_336 (by decide) (by decide) rfl (I.S.b 99 rfl rfl) (I.S.o 99 rfl rfl rfl) (eq38) ?_
        refine Go_iconst (v := iZ 1) (pc' := 7) dX12_isQuake_6 rfl (by decide) ?_
        refine Go_isubZ (pc' := 8) dX12_isQuake_7 rfl ?_
        refine Go_callS_i (pc' := 11) (As := [.int _, .int _, .int _]) (st := []) dX12_isQuake_8 rfl ok_X12_isIn km_RX12_147 rfl (Nat.le_of_ble_eq_true rfl) rfl rfl rfl (Nat.le_of_ble_eq_true rfl) (Nat.lt_succ_self _) ?_
        refine s_isInY (by first | exact ⟨i_lo _, i_hi _⟩ | omega) (by first | exact ⟨i_lo _, i_hi _⟩ | omega) (by first | exact ⟨i_lo _, i_hi _⟩ | omega) ?_
        refine ⟨_, rfl, ?_⟩
        refine Go_ireturn (ty := .boolean) dX12_isQuake_11 rfl b2i_nb ?_
        refine ⟨_, rfl, ?_⟩
        refine Go_if_eqb (tgt := 16) (pc' := 8) dX12_place_5 (by decide) rfl (fun c5 => by exfalso; omega) (fun c5 => ?_)
        refine Go_iload_n (pc' := 9) dX12_place_8 rfl rfl rfl ?_
        refine Go_iload_n (pc' := 10) dX12_place_9 rfl rfl rfl ?_
        refine Go_callS_i (pc' := 13) (As := [.int _, .int _]) (st := []) dX12_place_10 rfl ok_X12_isCell km_RX12_154 rfl (Nat.le_of_ble_eq_true rfl) rfl rfl rfl (Nat.le_of_ble_eq_true rfl) (Nat.lt_succ_self _) ?_
        refine s_isCellMY (by first | exact ⟨i_lo _, i_hi _⟩ | omega) (by first | exact ⟨i_lo _, i_hi _⟩ | omega) ?_
        refine ⟨_, rfl, ?_⟩
        refine Go_if_neb (tgt := 18) (pc' := 16) dX12_place_13 (by decide) rfl (fun c13 => ?_) (fun c13 => ?_)
        · refine Go_aload_n (pc' := 19) dX12_place_18 rfl rfl rfl ?_
          refine Go_getRs (pc' := 22) dX12_place_19 rfl kf_RX12_117 (by decide) (by decide) rfl (I.S.b 99 rfl rfl) (I.S.o 99 rfl rfl rfl) (I.S.r 99 49 rfl rfl rfl) ?_
          refine Go_iload_n (pc' := 23) dX12_place_22 rfl rfl rfl ?_
          refine Go_bipush (v := iZ 40) (pc' := 25) dX12_place_23 rfl (by decide) ?_
          refine Go_iload_n (pc' := 26) dX12_place_25 rfl rfl rfl ?_
          refine Go_imulZ (pc' := 27) dX12_place_26 rfl ?_
          refine Go_iload_n (pc' := 28) dX12_place_27 rfl rfl rfl ?_
          refine Go_iaddZ (pc' := 29) dX12_place_28 rfl ?_
          refine Go_iastoreZ (n := 16) (k := q) (pc' := 30) dX12_place_29 rfl (I.S.b 132 rfl rfl) (I.S.k 132 rfl rfl rfl) rfl (by omega) (by decide) ?_
          refine Go_iconst (v := iZ 1) (pc' := 31) dX12_place_30 rfl (by decide) ?_
          refine Go_ireturn (ty := .boolean) dX12_place_31 rfl rfl ?_
          exfalso; omega
        · refine Go_iconst (v := iZ 0) (pc' := 17) dX12_place_16 rfl (by decide) ?_
          refine Go_ireturn (ty := .boolean) dX12_place_17 rfl rfl ?_
          exact k _ I
set_option maxRecDepth 20000 in
set_option maxHeartbeats 1000000 in
theorem pair22 {G : GC} (a b c e : Int32) : PairI G M_X11_beat M_X12_beat [.int a, .int b, .int c, .int e] := by
  intro h I
  obtain ⟨Az, hva, rfl⟩ := i_eta a
  obtain ⟨Bz, hvb, rfl⟩ := i_eta b
  obtain ⟨Cz, hvc, rfl⟩ := i_eta c
  obtain ⟨Ez, hve, rfl⟩ := i_eta e
  obtain ⟨nq, hnq, eq7⟩ := of_rgZ (b := 16) I.Q.1.2
  have eq38 : vi h 99 38 = iZ (nq : Int) := I.Q.1.1.trans eq7
  obtain ⟨nc, hnc, ec2⟩ := of_rgZ (b := 6) I.C.1.2
  have ec0 : vi h 99 0 = iZ (nc : Int) := I.C.1.1.trans ec2
  rcases qk_cases I hnq eq7 Az with hq0 | ⟨q, u, rfl, hq, hu, QS, PV, RR⟩
  · refine PairI.ro' (fun _ => iZ 0) h I (fun K k => ?_) (fun K k => ?_)
    · show Go G 60 0 0 M_X11_beat 0 [.ref 64, .int (iZ Az), .int (iZ Bz), .int (iZ Cz), .int (iZ Ez), un] [] h K
      refine Go_aload_n (pc' := 1) dX11_beat_0 rfl rfl rfl ?_
      refine Go_iload_n (pc' := 2) dX11_beat_1 rfl rfl rfl ?_
      refine Go_iload_n (pc' := 3) dX11_beat_2 rfl rfl rfl ?_
      refine Go_callV_r (pc' := 6) (As := [.int _, .int _]) (st := []) dX11_beat_3 rfl ok_X11_readingOf km_RX11_241 (I.S.o 64 rfl rfl rfl) (I.S.b 64 rfl rfl) ⟨_, _, rfl⟩ rfl (Nat.le_of_ble_eq_true rfl) rfl rfl rfl (Nat.le_of_ble_eq_true rfl) (Nat.lt_succ_self _) ?_
      refine Go_aload_n (pc' := 1) dX11_readingOf_0 rfl rfl rfl ?_
      refine Go_iload_n (pc' := 2) dX11_readingOf_1 rfl rfl rfl ?_
      refine Go_callV_r (pc' := 5) (As := [.int _]) (st := []) dX11_readingOf_2 rfl ok_X11_quakeOf km_RX11_230 (I.S.o 64 rfl rfl rfl) (I.S.b 64 rfl rfl) ⟨_, _, rfl⟩ rfl (Nat.le_of_ble_eq_true rfl) rfl rfl rfl (Nat.le_of_ble_eq_true rfl) (Nat.lt_succ_self _) ?_
      refine Go_iload_n (pc' := 1) dX11_quakeOf_0 rfl rfl rfl ?_
      refine Go_iconst (v := iZ 0) (pc' := 2) dX11_quakeOf_1 rfl (by decide) ?_
      refine Go_aload_n (pc' := 3) dX11_quakeOf_2 rfl rfl rfl ?_
      refine Go_getIv (v := (iZ (nq : Int))) (pc' := 6) dX11_quakeOf_3 rfl kf_RX11_226 (by decide) (by decide) rfl (I.S.b 64 rfl rfl) (I.S.o 64 rfl rfl rfl) (eq7) ?_
      refine Go_iconst (v := iZ 1) (pc' := 7) dX11_quakeOf_6 rfl (by decide) ?_
      refine Go_isubZ (pc' := 8) dX11_quakeOf_7 rfl ?_
      refine Go_callS_i (pc' := 11) (As := [.int _, .int _, .int _]) (st := []) dX11_quakeOf_8 rfl ok_X11_within km_RX11_94 rfl (Nat.le_of_ble_eq_true rfl) rfl rfl rfl (Nat.le_of_ble_eq_true rfl) (Nat.lt_succ_self _) ?_
      refine s_withinY (by first | exact ⟨i_lo _, i_hi _⟩ | omega) (by first | exact ⟨i_lo _, i_hi _⟩ | omega) (by first | exact ⟨i_lo _, i_hi _⟩ | omega) ?_
      refine ⟨_, rfl, ?_⟩
      refine Go_if_eqb (tgt := 32) (pc' := 14) dX11_quakeOf_11 (by decide) rfl (fun q11 => ?_) (fun q11 => by exfalso; omega)
      refine Go_null (pc' := 33) dX11_quakeOf_32 rfl ?_
      refine Go_areturn (r := none) dX11_quakeOf_33 rfl ?_
      refine ⟨none, rfl, ?_⟩
      refine Go_astore_nN (pc' := 6) (lv' := [.ref _, .int _, .int _, .null]) dX11_readingOf_5 rfl rfl (Nat.le_of_ble_eq_true rfl) rfl rfl ?_
      refine Go_aload_nN (pc' := 7) dX11_readingOf_6 rfl rfl rfl ?_
      refine Go_ifnonnullN (pc' := 10) dX11_readingOf_7 rfl ?_
      refine Go_null (pc' := 11) dX11_readingOf_10 rfl ?_
      refine Go_goto (tgt := 19) dX11_readingOf_11 (by decide) ?_
      refine Go_areturn (r := none) dX11_readingOf_19 rfl ?_
      refine ⟨none, rfl, ?_⟩
      refine Go_astoreN (pc' := 8) (lv' := [.ref _, .int _, .int _, .int _, .int _, .null]) dX11_beat_6 rfl (Nat.le_of_ble_eq_true rfl) rfl rfl ?_
      refine Go_aloadN (pc' := 10) dX11_beat_8 rfl rfl ?_
      refine Go_ifnullN (tgt := 33) dX11_beat_10 (by decide) ?_
      refine Go_iconst (v := iZ 0) (pc' := 34) dX11_beat_33 rfl (by decide) ?_
      refine Go_ireturn (ty := .boolean) dX11_beat_34 rfl rfl ?_
      exact k
    · show Go G 60 0 0 M_X12_beat 0 [.ref 99, .int (iZ Az), .int (iZ Bz), .int (iZ Cz), .int (iZ Ez)] [] h K
      refine Go_aload_n (pc' := 1) dX12_beat_0 rfl rfl rfl ?_
      refine Go_iload_n (pc' := 2) dX12_beat_1 rfl rfl rfl ?_
      refine Go_iload_n (pc' := 3) dX12_beat_2 rfl rfl rfl ?_
      refine Go_callV_i (pc' := 6) (As := [.int _, .int _]) (st := []) dX12_beat_3 rfl ok_X12_isReading km_RX12_346 (I.S.o 99 rfl rfl rfl) (I.S.b 99 rfl rfl) ⟨_, _, rfl⟩ rfl (Nat.le_of_ble_eq_true rfl) rfl rfl rfl (Nat.le_of_ble_eq_true rfl) (Nat.lt_succ_self _) ?_
      refine Go_aload_n (pc' := 1) dX12_isReading_0 rfl rfl rfl ?_
      refine Go_iload_n (pc' := 2) dX12_isReading_1 rfl rfl rfl ?_
      refine Go_callV_i (pc' := 5) (As := [.int _]) (st := []) dX12_isReading_2 rfl ok_X12_isQuake km_RX12_340 (I.S.o 99 rfl rfl rfl) (I.S.b 99 rfl rfl) ⟨_, _, rfl⟩ rfl (Nat.le_of_ble_eq_true rfl) rfl rfl rfl (Nat.le_of_ble_eq_true rfl) (Nat.lt_succ_self _) ?_
      refine Go_iload_n (pc' := 1) dX12_isQuake_0 rfl rfl rfl ?_
      refine Go_iconst (v := iZ 0) (pc' := 2) dX12_isQuake_1 rfl (by decide) ?_
      refine Go_aload_n (pc' := 3) dX12_isQuake_2 rfl rfl rfl ?_
      refine Go_getIv (v := (iZ (nq : Int))) (pc' := 6) dX12_isQuake_3 rfl kf_RX12_336 (by decide) (by decide) rfl (I.S.b 99 rfl rfl) (I.S.o 99 rfl rfl rfl) (eq38) ?_
      refine Go_iconst (v := iZ 1) (pc' := 7) dX12_isQuake_6 rfl (by decide) ?_
      refine Go_isubZ (pc' := 8) dX12_isQuake_7 rfl ?_
      refine Go_callS_i (pc' := 11) (As := [.int _, .int _, .int _]) (st := []) dX12_isQuake_8 rfl ok_X12_isIn km_RX12_147 rfl (Nat.le_of_ble_eq_true rfl) rfl rfl rfl (Nat.le_of_ble_eq_true rfl) (Nat.lt_succ_self _) ?_
      refine s_isInY (by first | exact ⟨i_lo _, i_hi _⟩ | omega) (by first | exact ⟨i_lo _, i_hi _⟩ | omega) (by first | exact ⟨i_lo _, i_hi _⟩ | omega) ?_
      refine ⟨_, rfl, ?_⟩
      refine Go_ireturn (ty := .boolean) dX12_isQuake_11 rfl b2i_nb ?_
      refine ⟨_, rfl, ?_⟩
      refine Go_if_eqb (tgt := 34) (pc' := 8) dX12_isReading_5 (by decide) rfl (fun o5 => ?_) (fun o5 => by exfalso; omega)
      refine Go_iconst (v := iZ 0) (pc' := 35) dX12_isReading_34 rfl (by decide) ?_
      refine Go_ireturn (ty := .boolean) dX12_isReading_35 rfl rfl ?_
      refine ⟨_, rfl, ?_⟩
      refine Go_if_eqY (tgt := 29) (pc' := 9) dX12_beat_6 (by decide) rfl (by first | exact ⟨i_lo _, i_hi _⟩ | omega) (fun c6 => ?_) (fun c6 => by exfalso; omega)
      refine Go_iconst (v := iZ 0) (pc' := 30) dX12_beat_29 rfl (by decide) ?_
      refine Go_ireturn (ty := .boolean) dX12_beat_30 rfl rfl ?_
      exact k
  · have hu0 := QS.1
    rcases rd_cases hnc ec2 RR Bz with hc0 | ⟨c, rfl, hc6, ⟨hw, h0⟩ | ⟨w, hw, h0, RS, RV, hcn⟩⟩
    · refine PairI.ro' (fun _ => iZ 0) h I (fun K k => ?_) (fun K k => ?_)
      · show Go G 60 0 0 M_X11_beat 0 [.ref 64, .int (iZ (q : Int)), .int (iZ Bz), .int (iZ Cz), .int (iZ Ez), un] [] h K
        refine Go_aload_n (pc' := 1) dX11_beat_0 rfl rfl rfl ?_
        refine Go_iload_n (pc' := 2) dX11_beat_1 rfl rfl rfl ?_
        refine Go_iload_n (pc' := 3) dX11_beat_2 rfl rfl rfl ?_
        refine Go_callV_r (pc' := 6) (As := [.int _, .int _]) (st := []) dX11_beat_3 rfl ok_X11_readingOf km_RX11_241 (I.S.o 64 rfl rfl rfl) (I.S.b 64 rfl rfl) ⟨_, _, rfl⟩ rfl (Nat.le_of_ble_eq_true rfl) rfl rfl rfl (Nat.le_of_ble_eq_true rfl) (Nat.lt_succ_self _) ?_
        refine Go_aload_n (pc' := 1) dX11_readingOf_0 rfl rfl rfl ?_
        refine Go_iload_n (pc' := 2) dX11_readingOf_1 rfl rfl rfl ?_
        refine Go_callV_r (pc' := 5) (As := [.int _]) (st := []) dX11_readingOf_2 rfl ok_X11_quakeOf km_RX11_230 (I.S.o 64 rfl rfl rfl) (I.S.b 64 rfl rfl) ⟨_, _, rfl⟩ rfl (Nat.le_of_ble_eq_true rfl) rfl rfl rfl (Nat.le_of_ble_eq_true rfl) (Nat.lt_succ_self _) ?_
        refine Go_iload_n (pc' := 1) dX11_quakeOf_0 rfl rfl rfl ?_
        refine Go_iconst (v := iZ 0) (pc' := 2) dX11_quakeOf_1 rfl (by decide) ?_
        refine Go_aload_n (pc' := 3) dX11_quakeOf_2 rfl rfl rfl ?_
        refine Go_getIv (v := (iZ (nq : Int))) (pc' := 6) dX11_quakeOf_3 rfl kf_RX11_226 (by decide) (by decide) rfl (I.S.b 64 rfl rfl) (I.S.o 64 rfl rfl rfl) (eq7) ?_
        refine Go_iconst (v := iZ 1) (pc' := 7) dX11_quakeOf_6 rfl (by decide) ?_
        refine Go_isubZ (pc' := 8) dX11_quakeOf_7 rfl ?_
        refine Go_callS_i (pc' := 11) (As := [.int _, .int _, .int _]) (st := []) dX11_quakeOf_8 rfl ok_X11_within km_RX11_94 rfl (Nat.le_of_ble_eq_true rfl) rfl rfl rfl (Nat.le_of_ble_eq_true rfl) (Nat.lt_succ_self _) ?_
        refine s_withinY (by first | exact ⟨i_lo _, i_hi _⟩ | omega) (by first | exact ⟨i_lo _, i_hi _⟩ | omega) (by first | exact ⟨i_lo _, i_hi _⟩ | omega) ?_
        refine ⟨_, rfl, ?_⟩
        refine Go_if_eqb (tgt := 32) (pc' := 14) dX11_quakeOf_11 (by decide) rfl (fun q11 => by exfalso; omega) (fun q11 => ?_)
        refine Go_iload_n (pc' := 15) dX11_quakeOf_14 rfl rfl rfl ?_
        refine Go_aload_n (pc' := 16) dX11_quakeOf_15 rfl rfl rfl ?_
        refine Go_getRs (pc' := 19) dX11_quakeOf_16 rfl kf_RX11_45 (by decide) (by decide) rfl (I.S.b 64 rfl rfl) (I.S.o 64 rfl rfl rfl) (I.S.r 64 6 rfl rfl rfl) ?_
        refine Go_alenZ (n := 16) (pc' := 20) dX11_quakeOf_19 rfl (I.S.b 80 rfl rfl) (I.S.k 80 rfl rfl rfl) (Or.inr (Or.inr ⟨_, rfl⟩)) ?_
        refine Go_icmp_geY (tgt := 32) (pc' := 23) dX11_quakeOf_20 (by decide) rfl (by first | exact ⟨i_lo _, i_hi _⟩ | omega) (by first | exact ⟨i_lo _, i_hi _⟩ | omega) (fun q20 => by exfalso; omega) (fun q20 => ?_)
        refine Go_aload_n (pc' := 24) dX11_quakeOf_23 rfl rfl rfl ?_
        refine Go_getRs (pc' := 27) dX11_quakeOf_24 rfl kf_RX11_45 (by decide) (by decide) rfl (I.S.b 64 rfl rfl) (I.S.o 64 rfl rfl rfl) (I.S.r 64 6 rfl rfl rfl) ?_
        refine Go_iload_n (pc' := 28) dX11_quakeOf_27 rfl rfl rfl ?_
        refine Go_aaloadZ (n := 16) (k := q) (pc' := 29) dX11_quakeOf_28 rfl (I.S.b 80 rfl rfl) (I.S.k 80 rfl rfl rfl) rfl rfl (by omega) (by decide) hu ?_
        refine Go_goto (tgt := 33) dX11_quakeOf_29 (by decide) ?_
        refine Go_areturn (r := some _) dX11_quakeOf_33 rfl ?_
        refine ⟨some _, rfl, ?_⟩
        refine Go_astore_n (pc' := 6) (lv' := [.ref _, .int _, .int _, .ref _]) dX11_readingOf_5 rfl rfl (Nat.le_of_ble_eq_true rfl) rfl rfl ?_
        refine Go_aload_n (pc' := 7) dX11_readingOf_6 rfl rfl rfl ?_
        refine Go_ifnonnull (tgt := 14) dX11_readingOf_7 (by decide) ?_
        refine Go_aload_n (pc' := 15) dX11_readingOf_14 rfl rfl rfl ?_
        refine Go_iload_n (pc' := 16) dX11_readingOf_15 rfl rfl rfl ?_
        refine Go_callV_r (pc' := 19) (As := [.int _]) (st := []) dX11_readingOf_16 rfl ok_X5_reading km_RX11_271 QS.o QS.b ⟨_, _, rfl⟩ rfl (Nat.le_of_ble_eq_true rfl) rfl rfl rfl (Nat.le_of_ble_eq_true rfl) (Nat.lt_succ_self _) ?_
        refine Go_iload_n (pc' := 1) dX5_reading_0 rfl rfl rfl ?_
        refine Go_if_ltY (tgt := 22) (pc' := 4) dX5_reading_1 (by decide) rfl (by first | exact ⟨i_lo _, i_hi _⟩ | omega) (fun r1 => ?_) (fun r1 => ?_)
        · refine Go_null (pc' := 23) dX5_reading_22 rfl ?_
          refine Go_areturn (r := none) dX5_reading_23 rfl ?_
          refine ⟨none, rfl, ?_⟩
          refine Go_areturn (r := none) dX11_readingOf_19 rfl ?_
          refine ⟨none, rfl, ?_⟩
          refine Go_astoreN (pc' := 8) (lv' := [.ref _, .int _, .int _, .int _, .int _, .null]) dX11_beat_6 rfl (Nat.le_of_ble_eq_true rfl) rfl rfl ?_
          refine Go_aloadN (pc' := 10) dX11_beat_8 rfl rfl ?_
          refine Go_ifnullN (tgt := 33) dX11_beat_10 (by decide) ?_
          refine Go_iconst (v := iZ 0) (pc' := 34) dX11_beat_33 rfl (by decide) ?_
          refine Go_ireturn (ty := .boolean) dX11_beat_34 rfl rfl ?_
          exact k
        · refine Go_iload_n (pc' := 5) dX5_reading_4 rfl rfl rfl ?_
          refine Go_aload_n (pc' := 6) dX5_reading_5 rfl rfl rfl ?_
          refine Go_getRs (pc' := 9) dX5_reading_6 rfl kf_RX5_11 (by decide) (by decide) rfl QS.b QS.o QS.r0 ?_
          refine Go_alenZ (n := 6) (pc' := 10) dX5_reading_9 rfl QS.b1 QS.k1 (Or.inr (Or.inr ⟨_, rfl⟩)) ?_
          refine Go_icmp_geY (tgt := 22) (pc' := 13) dX5_reading_10 (by decide) rfl (by first | exact ⟨i_lo _, i_hi _⟩ | omega) (by first | exact ⟨i_lo _, i_hi _⟩ | omega) (fun r10 => ?_) (fun r10 => ?_)
          · refine Go_null (pc' := 23) dX5_reading_22 rfl ?_
            refine Go_areturn (r := none) dX5_reading_23 rfl ?_
            refine ⟨none, rfl, ?_⟩
            refine Go_areturn (r := none) dX11_readingOf_19 rfl ?_
            refine ⟨none, rfl, ?_⟩
            refine Go_astoreN (pc' := 8) (lv' := [.ref _, .int _, .int _, .int _, .int _, .null]) dX11_beat_6 rfl (Nat.le_of_ble_eq_true rfl) rfl rfl ?_
            refine Go_aloadN (pc' := 10) dX11_beat_8 rfl rfl ?_
            refine Go_ifnullN (tgt := 33) dX11_beat_10 (by decide) ?_
            refine Go_iconst (v := iZ 0) (pc' := 34) dX11_beat_33 rfl (by decide) ?_
            refine Go_ireturn (ty := .boolean) dX11_beat_34 rfl rfl ?_
            exact k
          · exfalso; omega
      · show Go G 60 0 0 M_X12_beat 0 [.ref 99, .int (iZ (q : Int)), .int (iZ Bz), .int (iZ Cz), .int (iZ Ez)] [] h K
        refine Go_aload_n (pc' := 1) dX12_beat_0 rfl rfl rfl ?_
        refine Go_iload_n (pc' := 2) dX12_beat_1 rfl rfl rfl ?_
        refine Go_iload_n (pc' := 3) dX12_beat_2 rfl rfl rfl ?_
        refine Go_callV_i (pc' := 6) (As := [.int _, .int _]) (st := []) dX12_beat_3 rfl ok_X12_isReading km_RX12_346 (I.S.o 99 rfl rfl rfl) (I.S.b 99 rfl rfl) ⟨_, _, rfl⟩ rfl (Nat.le_of_ble_eq_true rfl) rfl rfl rfl (Nat.le_of_ble_eq_true rfl) (Nat.lt_succ_self _) ?_
        refine Go_aload_n (pc' := 1) dX12_isReading_0 rfl rfl rfl ?_
        refine Go_iload_n (pc' := 2) dX12_isReading_1 rfl rfl rfl ?_
        refine Go_callV_i (pc' := 5) (As := [.int _]) (st := []) dX12_isReading_2 rfl ok_X12_isQuake km_RX12_340 (I.S.o 99 rfl rfl rfl) (I.S.b 99 rfl rfl) ⟨_, _, rfl⟩ rfl (Nat.le_of_ble_eq_true rfl) rfl rfl rfl (Nat.le_of_ble_eq_true rfl) (Nat.lt_succ_self _) ?_
        refine Go_iload_n (pc' := 1) dX12_isQuake_0 rfl rfl rfl ?_
        refine Go_iconst (v := iZ 0) (pc' := 2) dX12_isQuake_1 rfl (by decide) ?_
        refine Go_aload_n (pc' := 3) dX12_isQuake_2 rfl rfl rfl ?_
        refine Go_getIv (v := (iZ (nq : Int))) (pc' := 6) dX12_isQuake_3 rfl kf_RX12_336 (by decide) (by decide) rfl (I.S.b 99 rfl rfl) (I.S.o 99 rfl rfl rfl) (eq38) ?_
        refine Go_iconst (v := iZ 1) (pc' := 7) dX12_isQuake_6 rfl (by decide) ?_
        refine Go_isubZ (pc' := 8) dX12_isQuake_7 rfl ?_
        refine Go_callS_i (pc' := 11) (As := [.int _, .int _, .int _]) (st := []) dX12_isQuake_8 rfl ok_X12_isIn km_RX12_147 rfl (Nat.le_of_ble_eq_true rfl) rfl rfl rfl (Nat.le_of_ble_eq_true rfl) (Nat.lt_succ_self _) ?_
        refine s_isInY (by first | exact ⟨i_lo _, i_hi _⟩ | omega) (by first | exact ⟨i_lo _, i_hi _⟩ | omega) (by first | exact ⟨i_lo _, i_hi _⟩ | omega) ?_
        refine ⟨_, rfl, ?_⟩
        refine Go_ireturn (ty := .boolean) dX12_isQuake_11 rfl b2i_nb ?_
        refine ⟨_, rfl, ?_⟩
        refine Go_if_eqb (tgt := 34) (pc' := 8) dX12_isReading_5 (by decide) rfl (fun o5 => by exfalso; omega) (fun o5 => ?_)
        refine Go_aload_n (pc' := 9) dX12_isReading_8 rfl rfl rfl ?_
        refine Go_iload_n (pc' := 10) dX12_isReading_9 rfl rfl rfl ?_
        refine Go_callV_i (pc' := 13) (As := [.int _]) (st := []) dX12_isReading_10 rfl ok_X12_isCellar km_RX12_158 (I.S.o 99 rfl rfl rfl) (I.S.b 99 rfl rfl) ⟨_, _, rfl⟩ rfl (Nat.le_of_ble_eq_true rfl) rfl rfl rfl (Nat.le_of_ble_eq_true rfl) (Nat.lt_succ_self _) ?_
        refine Go_iload_n (pc' := 1) dX12_isCellar_0 rfl rfl rfl ?_
        refine Go_iconst (v := iZ 0) (pc' := 2) dX12_isCellar_1 rfl (by decide) ?_
        refine Go_aload_n (pc' := 3) dX12_isCellar_2 rfl rfl rfl ?_
        refine Go_getIv (v := (iZ (nc : Int))) (pc' := 6) dX12_isCellar_3 rfl kf_RX12_151 (by decide) (by decide) rfl (I.S.b 99 rfl rfl) (I.S.o 99 rfl rfl rfl) (ec0) ?_
        refine Go_iconst (v := iZ 1) (pc' := 7) dX12_isCellar_6 rfl (by decide) ?_
        refine Go_isubZ (pc' := 8) dX12_isCellar_7 rfl ?_
        refine Go_callS_i (pc' := 11) (As := [.int _, .int _, .int _]) (st := []) dX12_isCellar_8 rfl ok_X12_isIn km_RX12_147 rfl (Nat.le_of_ble_eq_true rfl) rfl rfl rfl (Nat.le_of_ble_eq_true rfl) (Nat.lt_succ_self _) ?_
        refine s_isInY (by first | exact ⟨i_lo _, i_hi _⟩ | omega) (by first | exact ⟨i_lo _, i_hi _⟩ | omega) (by first | exact ⟨i_lo _, i_hi _⟩ | omega) ?_
        refine ⟨_, rfl, ?_⟩
        refine Go_ireturn (ty := .boolean) dX12_isCellar_11 rfl b2i_nb ?_
        refine ⟨_, rfl, ?_⟩
        refine Go_if_eqb (tgt := 34) (pc' := 16) dX12_isReading_13 (by decide) rfl (fun o13 => ?_) (fun o13 => by exfalso; omega)
        refine Go_iconst (v := iZ 0) (pc' := 35) dX12_isReading_34 rfl (by decide) ?_
        refine Go_ireturn (ty := .boolean) dX12_isReading_35 rfl rfl ?_
        refine ⟨_, rfl, ?_⟩
        refine Go_if_eqY (tgt := 29) (pc' := 9) dX12_beat_6 (by decide) rfl (by first | exact ⟨i_lo _, i_hi _⟩ | omega) (fun c6 => ?_) (fun c6 => by exfalso; omega)
        refine Go_iconst (v := iZ 0) (pc' := 30) dX12_beat_29 rfl (by decide) ?_
        refine Go_ireturn (ty := .boolean) dX12_beat_30 rfl rfl ?_
        exact k
    · refine PairI.ro' (fun _ => iZ 0) h I (fun K k => ?_) (fun K k => ?_)
      · show Go G 60 0 0 M_X11_beat 0 [.ref 64, .int (iZ (q : Int)), .int (iZ (c : Int)), .int (iZ Cz), .int (iZ Ez), un] [] h K
        refine Go_aload_n (pc' := 1) dX11_beat_0 rfl rfl rfl ?_
        refine Go_iload_n (pc' := 2) dX11_beat_1 rfl rfl rfl ?_
        refine Go_iload_n (pc' := 3) dX11_beat_2 rfl rfl rfl ?_
        refine Go_callV_r (pc' := 6) (As := [.int _, .int _]) (st := []) dX11_beat_3 rfl ok_X11_readingOf km_RX11_241 (I.S.o 64 rfl rfl rfl) (I.S.b 64 rfl rfl) ⟨_, _, rfl⟩ rfl (Nat.le_of_ble_eq_true rfl) rfl rfl rfl (Nat.le_of_ble_eq_true rfl) (Nat.lt_succ_self _) ?_
        refine Go_aload_n (pc' := 1) dX11_readingOf_0 rfl rfl rfl ?_
        refine Go_iload_n (pc' := 2) dX11_readingOf_1 rfl rfl rfl ?_
        refine Go_callV_r (pc' := 5) (As := [.int _]) (st := []) dX11_readingOf_2 rfl ok_X11_quakeOf km_RX11_230 (I.S.o 64 rfl rfl rfl) (I.S.b 64 rfl rfl) ⟨_, _, rfl⟩ rfl (Nat.le_of_ble_eq_true rfl) rfl rfl rfl (Nat.le_of_ble_eq_true rfl) (Nat.lt_succ_self _) ?_
        refine Go_iload_n (pc' := 1) dX11_quakeOf_0 rfl rfl rfl ?_
        refine Go_iconst (v := iZ 0) (pc' := 2) dX11_quakeOf_1 rfl (by decide) ?_
        refine Go_aload_n (pc' := 3) dX11_quakeOf_2 rfl rfl rfl ?_
        refine Go_getIv (v := (iZ (nq : Int))) (pc' := 6) dX11_quakeOf_3 rfl kf_RX11_226 (by decide) (by decide) rfl (I.S.b 64 rfl rfl) (I.S.o 64 rfl rfl rfl) (eq7) ?_
        refine Go_iconst (v := iZ 1) (pc' := 7) dX11_quakeOf_6 rfl (by decide) ?_
        refine Go_isubZ (pc' := 8) dX11_quakeOf_7 rfl ?_
        refine Go_callS_i (pc' := 11) (As := [.int _, .int _, .int _]) (st := []) dX11_quakeOf_8 rfl ok_X11_within km_RX11_94 rfl (Nat.le_of_ble_eq_true rfl) rfl rfl rfl (Nat.le_of_ble_eq_true rfl) (Nat.lt_succ_self _) ?_
        refine s_withinY (by first | exact ⟨i_lo _, i_hi _⟩ | omega) (by first | exact ⟨i_lo _, i_hi _⟩ | omega) (by first | exact ⟨i_lo _, i_hi _⟩ | omega) ?_
        refine ⟨_, rfl, ?_⟩
        refine Go_if_eqb (tgt := 32) (pc' := 14) dX11_quakeOf_11 (by decide) rfl (fun q11 => by exfalso; omega) (fun q11 => ?_)
        refine Go_iload_n (pc' := 15) dX11_quakeOf_14 rfl rfl rfl ?_
        refine Go_aload_n (pc' := 16) dX11_quakeOf_15 rfl rfl rfl ?_
        refine Go_getRs (pc' := 19) dX11_quakeOf_16 rfl kf_RX11_45 (by decide) (by decide) rfl (I.S.b 64 rfl rfl) (I.S.o 64 rfl rfl rfl) (I.S.r 64 6 rfl rfl rfl) ?_
        refine Go_alenZ (n := 16) (pc' := 20) dX11_quakeOf_19 rfl (I.S.b 80 rfl rfl) (I.S.k 80 rfl rfl rfl) (Or.inr (Or.inr ⟨_, rfl⟩)) ?_
        refine Go_icmp_geY (tgt := 32) (pc' := 23) dX11_quakeOf_20 (by decide) rfl (by first | exact ⟨i_lo _, i_hi _⟩ | omega) (by first | exact ⟨i_lo _, i_hi _⟩ | omega) (fun q20 => by exfalso; omega) (fun q20 => ?_)
        refine Go_aload_n (pc' := 24) dX11_quakeOf_23 rfl rfl rfl ?_
        refine Go_getRs (pc' := 27) dX11_quakeOf_24 rfl kf_RX11_45 (by decide) (by decide) rfl (I.S.b 64 rfl rfl) (I.S.o 64 rfl rfl rfl) (I.S.r 64 6 rfl rfl rfl) ?_
        refine Go_iload_n (pc' := 28) dX11_quakeOf_27 rfl rfl rfl ?_
        refine Go_aaloadZ (n := 16) (k := q) (pc' := 29) dX11_quakeOf_28 rfl (I.S.b 80 rfl rfl) (I.S.k 80 rfl rfl rfl) rfl rfl (by omega) (by decide) hu ?_
        refine Go_goto (tgt := 33) dX11_quakeOf_29 (by decide) ?_
        refine Go_areturn (r := some _) dX11_quakeOf_33 rfl ?_
        refine ⟨some _, rfl, ?_⟩
        refine Go_astore_n (pc' := 6) (lv' := [.ref _, .int _, .int _, .ref _]) dX11_readingOf_5 rfl rfl (Nat.le_of_ble_eq_true rfl) rfl rfl ?_
        refine Go_aload_n (pc' := 7) dX11_readingOf_6 rfl rfl rfl ?_
        refine Go_ifnonnull (tgt := 14) dX11_readingOf_7 (by decide) ?_
        refine Go_aload_n (pc' := 15) dX11_readingOf_14 rfl rfl rfl ?_
        refine Go_iload_n (pc' := 16) dX11_readingOf_15 rfl rfl rfl ?_
        refine Go_callV_r (pc' := 19) (As := [.int _]) (st := []) dX11_readingOf_16 rfl ok_X5_reading km_RX11_271 QS.o QS.b ⟨_, _, rfl⟩ rfl (Nat.le_of_ble_eq_true rfl) rfl rfl rfl (Nat.le_of_ble_eq_true rfl) (Nat.lt_succ_self _) ?_
        refine Go_iload_n (pc' := 1) dX5_reading_0 rfl rfl rfl ?_
        refine Go_if_ltY (tgt := 22) (pc' := 4) dX5_reading_1 (by decide) rfl (by first | exact ⟨i_lo _, i_hi _⟩ | omega) (fun r1 => by exfalso; omega) (fun r1 => ?_)
        refine Go_iload_n (pc' := 5) dX5_reading_4 rfl rfl rfl ?_
        refine Go_aload_n (pc' := 6) dX5_reading_5 rfl rfl rfl ?_
        refine Go_getRs (pc' := 9) dX5_reading_6 rfl kf_RX5_11 (by decide) (by decide) rfl QS.b QS.o QS.r0 ?_
        refine Go_alenZ (n := 6) (pc' := 10) dX5_reading_9 rfl QS.b1 QS.k1 (Or.inr (Or.inr ⟨_, rfl⟩)) ?_
        refine Go_icmp_geY (tgt := 22) (pc' := 13) dX5_reading_10 (by decide) rfl (by first | exact ⟨i_lo _, i_hi _⟩ | omega) (by first | exact ⟨i_lo _, i_hi _⟩ | omega) (fun r10 => by exfalso; omega) (fun r10 => ?_)
        refine Go_aload_n (pc' := 14) dX5_reading_13 rfl rfl rfl ?_
        refine Go_getRs (pc' := 17) dX5_reading_14 rfl kf_RX5_11 (by decide) (by decide) rfl QS.b QS.o QS.r0 ?_
        refine Go_iload_n (pc' := 18) dX5_reading_17 rfl rfl rfl ?_
        refine Go_aaloadNZ (n := 6) (k := c) (pc' := 19) dX5_reading_18 rfl QS.b1 QS.k1 rfl rfl (by omega) (by decide) hw ?_
        refine Go_goto (tgt := 23) dX5_reading_19 (by decide) ?_
        refine Go_areturn (r := none) dX5_reading_23 rfl ?_
        refine ⟨none, rfl, ?_⟩
        refine Go_areturn (r := none) dX11_readingOf_19 rfl ?_
        refine ⟨none, rfl, ?_⟩
        refine Go_astoreN (pc' := 8) (lv' := [.ref _, .int _, .int _, .int _, .int _, .null]) dX11_beat_6 rfl (Nat.le_of_ble_eq_true rfl) rfl rfl ?_
        refine Go_aloadN (pc' := 10) dX11_beat_8 rfl rfl ?_
        refine Go_ifnullN (tgt := 33) dX11_beat_10 (by decide) ?_
        refine Go_iconst (v := iZ 0) (pc' := 34) dX11_beat_33 rfl (by decide) ?_
        refine Go_ireturn (ty := .boolean) dX11_beat_34 rfl rfl ?_
        exact k
      · show Go G 60 0 0 M_X12_beat 0 [.ref 99, .int (iZ (q : Int)), .int (iZ (c : Int)), .int (iZ Cz), .int (iZ Ez)] [] h K
        refine Go_aload_n (pc' := 1) dX12_beat_0 rfl rfl rfl ?_
        refine Go_iload_n (pc' := 2) dX12_beat_1 rfl rfl rfl ?_
        refine Go_iload_n (pc' := 3) dX12_beat_2 rfl rfl rfl ?_
        refine Go_callV_i (pc' := 6) (As := [.int _, .int _]) (st := []) dX12_beat_3 rfl ok_X12_isReading km_RX12_346 (I.S.o 99 rfl rfl rfl) (I.S.b 99 rfl rfl) ⟨_, _, rfl⟩ rfl (Nat.le_of_ble_eq_true rfl) rfl rfl rfl (Nat.le_of_ble_eq_true rfl) (Nat.lt_succ_self _) ?_
        refine Go_aload_n (pc' := 1) dX12_isReading_0 rfl rfl rfl ?_
        refine Go_iload_n (pc' := 2) dX12_isReading_1 rfl rfl rfl ?_
        refine Go_callV_i (pc' := 5) (As := [.int _]) (st := []) dX12_isReading_2 rfl ok_X12_isQuake km_RX12_340 (I.S.o 99 rfl rfl rfl) (I.S.b 99 rfl rfl) ⟨_, _, rfl⟩ rfl (Nat.le_of_ble_eq_true rfl) rfl rfl rfl (Nat.le_of_ble_eq_true rfl) (Nat.lt_succ_self _) ?_
        refine Go_iload_n (pc' := 1) dX12_isQuake_0 rfl rfl rfl ?_
        refine Go_iconst (v := iZ 0) (pc' := 2) dX12_isQuake_1 rfl (by decide) ?_
        refine Go_aload_n (pc' := 3) dX12_isQuake_2 rfl rfl rfl ?_
        refine Go_getIv (v := (iZ (nq : Int))) (pc' := 6) dX12_isQuake_3 rfl kf_RX12_336 (by decide) (by decide) rfl (I.S.b 99 rfl rfl) (I.S.o 99 rfl rfl rfl) (eq38) ?_
        refine Go_iconst (v := iZ 1) (pc' := 7) dX12_isQuake_6 rfl (by decide) ?_
        refine Go_isubZ (pc' := 8) dX12_isQuake_7 rfl ?_
        refine Go_callS_i (pc' := 11) (As := [.int _, .int _, .int _]) (st := []) dX12_isQuake_8 rfl ok_X12_isIn km_RX12_147 rfl (Nat.le_of_ble_eq_true rfl) rfl rfl rfl (Nat.le_of_ble_eq_true rfl) (Nat.lt_succ_self _) ?_
        refine s_isInY (by first | exact ⟨i_lo _, i_hi _⟩ | omega) (by first | exact ⟨i_lo _, i_hi _⟩ | omega) (by first | exact ⟨i_lo _, i_hi _⟩ | omega) ?_
        refine ⟨_, rfl, ?_⟩
        refine Go_ireturn (ty := .boolean) dX12_isQuake_11 rfl b2i_nb ?_
        refine ⟨_, rfl, ?_⟩
        refine Go_if_eqb (tgt := 34) (pc' := 8) dX12_isReading_5 (by decide) rfl (fun o5 => by exfalso; omega) (fun o5 => ?_)
        refine Go_aload_n (pc' := 9) dX12_isReading_8 rfl rfl rfl ?_
        refine Go_iload_n (pc' := 10) dX12_isReading_9 rfl rfl rfl ?_
        refine Go_callV_i (pc' := 13) (As := [.int _]) (st := []) dX12_isReading_10 rfl ok_X12_isCellar km_RX12_158 (I.S.o 99 rfl rfl rfl) (I.S.b 99 rfl rfl) ⟨_, _, rfl⟩ rfl (Nat.le_of_ble_eq_true rfl) rfl rfl rfl (Nat.le_of_ble_eq_true rfl) (Nat.lt_succ_self _) ?_
        refine Go_iload_n (pc' := 1) dX12_isCellar_0 rfl rfl rfl ?_
        refine Go_iconst (v := iZ 0) (pc' := 2) dX12_isCellar_1 rfl (by decide) ?_
        refine Go_aload_n (pc' := 3) dX12_isCellar_2 rfl rfl rfl ?_
        refine Go_getIv (v := (iZ (nc : Int))) (pc' := 6) dX12_isCellar_3 rfl kf_RX12_151 (by decide) (by decide) rfl (I.S.b 99 rfl rfl) (I.S.o 99 rfl rfl rfl) (ec0) ?_
        refine Go_iconst (v := iZ 1) (pc' := 7) dX12_isCellar_6 rfl (by decide) ?_
        refine Go_isubZ (pc' := 8) dX12_isCellar_7 rfl ?_
        refine Go_callS_i (pc' := 11) (As := [.int _, .int _, .int _]) (st := []) dX12_isCellar_8 rfl ok_X12_isIn km_RX12_147 rfl (Nat.le_of_ble_eq_true rfl) rfl rfl rfl (Nat.le_of_ble_eq_true rfl) (Nat.lt_succ_self _) ?_
        refine s_isInY (by first | exact ⟨i_lo _, i_hi _⟩ | omega) (by first | exact ⟨i_lo _, i_hi _⟩ | omega) (by first | exact ⟨i_lo _, i_hi _⟩ | omega) ?_
        refine ⟨_, rfl, ?_⟩
        refine Go_ireturn (ty := .boolean) dX12_isCellar_11 rfl b2i_nb ?_
        refine ⟨_, rfl, ?_⟩
        refine Go_if_eqb (tgt := 34) (pc' := 16) dX12_isReading_13 (by decide) rfl (fun o13 => ?_) (fun o13 => ?_)
        · refine Go_iconst (v := iZ 0) (pc' := 35) dX12_isReading_34 rfl (by decide) ?_
          refine Go_ireturn (ty := .boolean) dX12_isReading_35 rfl rfl ?_
          refine ⟨_, rfl, ?_⟩
          refine Go_if_eqY (tgt := 29) (pc' := 9) dX12_beat_6 (by decide) rfl (by first | exact ⟨i_lo _, i_hi _⟩ | omega) (fun c6 => ?_) (fun c6 => by exfalso; omega)
          refine Go_iconst (v := iZ 0) (pc' := 30) dX12_beat_29 rfl (by decide) ?_
          refine Go_ireturn (ty := .boolean) dX12_beat_30 rfl rfl ?_
          exact k
        · refine Go_aload_n (pc' := 17) dX12_isReading_16 rfl rfl rfl ?_
          refine Go_getRs (pc' := 20) dX12_isReading_17 rfl kf_RX12_92 (by decide) (by decide) rfl (I.S.b 99 rfl rfl) (I.S.o 99 rfl rfl rfl) (I.S.r 99 41 rfl rfl rfl) ?_
          refine Go_bipush (v := iZ 6) (pc' := 22) dX12_isReading_20 rfl (by decide) ?_
          refine Go_iload_n (pc' := 23) dX12_isReading_22 rfl rfl rfl ?_
          refine Go_imulZ (pc' := 24) dX12_isReading_23 rfl ?_
          refine Go_iload_n (pc' := 25) dX12_isReading_24 rfl rfl rfl ?_
          refine Go_iaddZ (pc' := 26) dX12_isReading_25 rfl ?_
          refine Go_baloadZ (n := 96) (k := (6 * q + c)) (v := (iZ 0)) (pc' := 27) dX12_isReading_26 rfl (I.S.b 124 rfl rfl) (I.S.k 124 rfl rfl rfl) (by omega) (by omega) (by decide) (h0) ?_
          refine Go_if_eqY (tgt := 34) (pc' := 30) dX12_isReading_27 (by decide) rfl (by first | exact ⟨i_lo _, i_hi _⟩ | omega) (fun o27 => ?_) (fun o27 => by exfalso; omega)
          refine Go_iconst (v := iZ 0) (pc' := 35) dX12_isReading_34 rfl (by decide) ?_
          refine Go_ireturn (ty := .boolean) dX12_isReading_35 rfl rfl ?_
          refine ⟨_, rfl, ?_⟩
          refine Go_if_eqY (tgt := 29) (pc' := 9) dX12_beat_6 (by decide) rfl (by first | exact ⟨i_lo _, i_hi _⟩ | omega) (fun c6 => ?_) (fun c6 => by exfalso; omega)
          refine Go_iconst (v := iZ 0) (pc' := 30) dX12_beat_29 rfl (by decide) ?_
          refine Go_ireturn (ty := .boolean) dX12_beat_30 rfl rfl ?_
          exact k
    · have hw0 := RS.1
      refine ⟨fun r h1 => (((-1 ≤ Cz ∧ Cz ≤ 1) ∧ (0 ≤ Ez ∧ Ez ≤ 999999)) ∧ r = iZ 1 ∧ h1 = (wI (wI h w 4 (iZ Cz)) w 5 (iZ Ez))) ∨ (¬ ((-1 ≤ Cz ∧ Cz ≤ 1) ∧ (0 ≤ Ez ∧ Ez ≤ 999999)) ∧ r = iZ 0 ∧ h = h1), fun K k => ?_, ?_⟩
      · refine Go.more (d := 60) (mc := 0) (ms := 0) ?_ (by omega) (by omega) (by omega)
        show Go G 60 0 0 M_X11_beat 0 [.ref 64, .int (iZ (q : Int)), .int (iZ (c : Int)), .int (iZ Cz), .int (iZ Ez), un] [] h K
        refine Go_aload_n (pc' := 1) dX11_beat_0 rfl rfl rfl ?_
        refine Go_iload_n (pc' := 2) dX11_beat_1 rfl rfl rfl ?_
        refine Go_iload_n (pc' := 3) dX11_beat_2 rfl rfl rfl ?_
        refine Go_callV_r (pc' := 6) (As := [.int _, .int _]) (st := []) dX11_beat_3 rfl ok_X11_readingOf km_RX11_241 (I.S.o 64 rfl rfl rfl) (I.S.b 64 rfl rfl) ⟨_, _, rfl⟩ rfl (Nat.le_of_ble_eq_true rfl) rfl rfl rfl (Nat.le_of_ble_eq_true rfl) (Nat.lt_succ_self _) ?_
        refine Go_aload_n (pc' := 1) dX11_readingOf_0 rfl rfl rfl ?_
        refine Go_iload_n (pc' := 2) dX11_readingOf_1 rfl rfl rfl ?_
        refine Go_callV_r (pc' := 5) (As := [.int _]) (st := []) dX11_readingOf_2 rfl ok_X11_quakeOf km_RX11_230 (I.S.o 64 rfl rfl rfl) (I.S.b 64 rfl rfl) ⟨_, _, rfl⟩ rfl (Nat.le_of_ble_eq_true rfl) rfl rfl rfl (Nat.le_of_ble_eq_true rfl) (Nat.lt_succ_self _) ?_
        refine Go_iload_n (pc' := 1) dX11_quakeOf_0 rfl rfl rfl ?_
        refine Go_iconst (v := iZ 0) (pc' := 2) dX11_quakeOf_1 rfl (by decide) ?_
        refine Go_aload_n (pc' := 3) dX11_quakeOf_2 rfl rfl rfl ?_
        refine Go_getIv (v := (iZ (nq : Int))) (pc' := 6) dX11_quakeOf_3 rfl kf_RX11_226 (by decide) (by decide) rfl (I.S.b 64 rfl rfl) (I.S.o 64 rfl rfl rfl) (eq7) ?_
        refine Go_iconst (v := iZ 1) (pc' := 7) dX11_quakeOf_6 rfl (by decide) ?_
        refine Go_isubZ (pc' := 8) dX11_quakeOf_7 rfl ?_
        refine Go_callS_i (pc' := 11) (As := [.int _, .int _, .int _]) (st := []) dX11_quakeOf_8 rfl ok_X11_within km_RX11_94 rfl (Nat.le_of_ble_eq_true rfl) rfl rfl rfl (Nat.le_of_ble_eq_true rfl) (Nat.lt_succ_self _) ?_
        refine s_withinY (by first | exact ⟨i_lo _, i_hi _⟩ | omega) (by first | exact ⟨i_lo _, i_hi _⟩ | omega) (by first | exact ⟨i_lo _, i_hi _⟩ | omega) ?_
        refine ⟨_, rfl, ?_⟩
        refine Go_if_eqb (tgt := 32) (pc' := 14) dX11_quakeOf_11 (by decide) rfl (fun q11 => by exfalso; omega) (fun q11 => ?_)
        refine Go_iload_n (pc' := 15) dX11_quakeOf_14 rfl rfl rfl ?_
        refine Go_aload_n (pc' := 16) dX11_quakeOf_15 rfl rfl rfl ?_
        refine Go_getRs (pc' := 19) dX11_quakeOf_16 rfl kf_RX11_45 (by decide) (by decide) rfl (I.S.b 64 rfl rfl) (I.S.o 64 rfl rfl rfl) (I.S.r 64 6 rfl rfl rfl) ?_
        refine Go_alenZ (n := 16) (pc' := 20) dX11_quakeOf_19 rfl (I.S.b 80 rfl rfl) (I.S.k 80 rfl rfl rfl) (Or.inr (Or.inr ⟨_, rfl⟩)) ?_
        refine Go_icmp_geY (tgt := 32) (pc' := 23) dX11_quakeOf_20 (by decide) rfl (by first | exact ⟨i_lo _, i_hi _⟩ | omega) (by first | exact ⟨i_lo _, i_hi _⟩ | omega) (fun q20 => by exfalso; omega) (fun q20 => ?_)
        refine Go_aload_n (pc' := 24) dX11_quakeOf_23 rfl rfl rfl ?_
        refine Go_getRs (pc' := 27) dX11_quakeOf_24 rfl kf_RX11_45 (by decide) (by decide) rfl (I.S.b 64 rfl rfl) (I.S.o 64 rfl rfl rfl) (I.S.r 64 6 rfl rfl rfl) ?_
        refine Go_iload_n (pc' := 28) dX11_quakeOf_27 rfl rfl rfl ?_
        refine Go_aaloadZ (n := 16) (k := q) (pc' := 29) dX11_quakeOf_28 rfl (I.S.b 80 rfl rfl) (I.S.k 80 rfl rfl rfl) rfl rfl (by omega) (by decide) hu ?_
        refine Go_goto (tgt := 33) dX11_quakeOf_29 (by decide) ?_
        refine Go_areturn (r := some _) dX11_quakeOf_33 rfl ?_
        refine ⟨some _, rfl, ?_⟩
        refine Go_astore_n (pc' := 6) (lv' := [.ref _, .int _, .int _, .ref _]) dX11_readingOf_5 rfl rfl (Nat.le_of_ble_eq_true rfl) rfl rfl ?_
        refine Go_aload_n (pc' := 7) dX11_readingOf_6 rfl rfl rfl ?_
        refine Go_ifnonnull (tgt := 14) dX11_readingOf_7 (by decide) ?_
        refine Go_aload_n (pc' := 15) dX11_readingOf_14 rfl rfl rfl ?_
        refine Go_iload_n (pc' := 16) dX11_readingOf_15 rfl rfl rfl ?_
        refine Go_callV_r (pc' := 19) (As := [.int _]) (st := []) dX11_readingOf_16 rfl ok_X5_reading km_RX11_271 QS.o QS.b ⟨_, _, rfl⟩ rfl (Nat.le_of_ble_eq_true rfl) rfl rfl rfl (Nat.le_of_ble_eq_true rfl) (Nat.lt_succ_self _) ?_
        refine Go_iload_n (pc' := 1) dX5_reading_0 rfl rfl rfl ?_
        refine Go_if_ltY (tgt := 22) (pc' := 4) dX5_reading_1 (by decide) rfl (by first | exact ⟨i_lo _, i_hi _⟩ | omega) (fun r1 => by exfalso; omega) (fun r1 => ?_)
        refine Go_iload_n (pc' := 5) dX5_reading_4 rfl rfl rfl ?_
        refine Go_aload_n (pc' := 6) dX5_reading_5 rfl rfl rfl ?_
        refine Go_getRs (pc' := 9) dX5_reading_6 rfl kf_RX5_11 (by decide) (by decide) rfl QS.b QS.o QS.r0 ?_
        refine Go_alenZ (n := 6) (pc' := 10) dX5_reading_9 rfl QS.b1 QS.k1 (Or.inr (Or.inr ⟨_, rfl⟩)) ?_
        refine Go_icmp_geY (tgt := 22) (pc' := 13) dX5_reading_10 (by decide) rfl (by first | exact ⟨i_lo _, i_hi _⟩ | omega) (by first | exact ⟨i_lo _, i_hi _⟩ | omega) (fun r10 => by exfalso; omega) (fun r10 => ?_)
        refine Go_aload_n (pc' := 14) dX5_reading_13 rfl rfl rfl ?_
        refine Go_getRs (pc' := 17) dX5_reading_14 rfl kf_RX5_11 (by decide) (by decide) rfl QS.b QS.o QS.r0 ?_
        refine Go_iload_n (pc' := 18) dX5_reading_17 rfl rfl rfl ?_
        refine Go_aaloadZ (n := 6) (k := c) (pc' := 19) dX5_reading_18 rfl QS.b1 QS.k1 rfl rfl (by omega) (by decide) hw ?_
        refine Go_goto (tgt := 23) dX5_reading_19 (by decide) ?_
        refine Go_areturn (r := some _) dX5_reading_23 rfl ?_
        refine ⟨some _, rfl, ?_⟩
        refine Go_areturn (r := some _) dX11_readingOf_19 rfl ?_
        refine ⟨some _, rfl, ?_⟩
        refine Go_astore (pc' := 8) (lv' := [.ref _, .int _, .int _, .int _, .int _, .ref _]) dX11_beat_6 rfl (Nat.le_of_ble_eq_true rfl) rfl rfl ?_
        refine Go_aload (pc' := 10) dX11_beat_8 rfl rfl ?_
        refine Go_ifnull (pc' := 13) dX11_beat_10 rfl ?_
        refine Go_iload_n (pc' := 14) dX11_beat_13 rfl rfl rfl ?_
        refine Go_iconst (v := iZ (-1)) (pc' := 15) dX11_beat_14 rfl (by decide) ?_
        refine Go_iconst (v := iZ 1) (pc' := 16) dX11_beat_15 rfl (by decide) ?_
        refine Go_callS_i (pc' := 19) (As := [.int _, .int _, .int _]) (st := []) dX11_beat_16 rfl ok_X11_within km_RX11_94 rfl (Nat.le_of_ble_eq_true rfl) rfl rfl rfl (Nat.le_of_ble_eq_true rfl) (Nat.lt_succ_self _) ?_
        refine s_withinY (by first | exact ⟨i_lo _, i_hi _⟩ | omega) (by first | exact ⟨i_lo _, i_hi _⟩ | omega) (by first | exact ⟨i_lo _, i_hi _⟩ | omega) ?_
        refine ⟨_, rfl, ?_⟩
        refine Go_if_eqb (tgt := 33) (pc' := 22) dX11_beat_19 (by decide) rfl (fun c19 => ?_) (fun c19 => ?_)
        · refine Go_iconst (v := iZ 0) (pc' := 34) dX11_beat_33 rfl (by decide) ?_
          refine Go_ireturn (ty := .boolean) dX11_beat_34 rfl rfl ?_
          exact k _ _ (Or.inr ⟨by omega, rfl, rfl⟩) I.S
        · refine Go_iload (pc' := 24) dX11_beat_22 rfl rfl ?_
          refine Go_iconst (v := iZ 0) (pc' := 25) dX11_beat_24 rfl (by decide) ?_
          refine Go_ldcZ (X := 999999) (pc' := 27) dX11_beat_25 rfl kn_RX11_162 (by decide) ?_
          refine Go_callS_i (pc' := 30) (As := [.int _, .int _, .int _]) (st := []) dX11_beat_27 rfl ok_X11_within km_RX11_94 rfl (Nat.le_of_ble_eq_true rfl) rfl rfl rfl (Nat.le_of_ble_eq_true rfl) (Nat.lt_succ_self _) ?_
          refine s_withinY (by first | exact ⟨i_lo _, i_hi _⟩ | omega) (by first | exact ⟨i_lo _, i_hi _⟩ | omega) (by first | exact ⟨i_lo _, i_hi _⟩ | omega) ?_
          refine ⟨_, rfl, ?_⟩
          refine Go_if_neb (tgt := 35) (pc' := 33) dX11_beat_30 (by decide) rfl (fun c30 => ?_) (fun c30 => ?_)
          · refine Go_aload (pc' := 37) dX11_beat_35 rfl rfl ?_
            refine Go_iload_n (pc' := 38) dX11_beat_37 rfl rfl rfl ?_
            refine Go_putI (pc' := 41) dX11_beat_38 rfl kf_RX11_253 (by decide) (by decide) rfl RS.b RS.o (Or.inl rfl) rfl rfl ?_
            refine Go_aload (pc' := 43) dX11_beat_41 rfl rfl ?_
            refine Go_iload (pc' := 45) dX11_beat_43 rfl rfl ?_
            refine Go_putI (pc' := 48) dX11_beat_45 rfl kf_RX11_256 (by decide) (by decide) rfl RS.b RS.o (Or.inl rfl) rfl rfl ?_
            refine Go_iconst (v := iZ 1) (pc' := 49) dX11_beat_48 rfl (by decide) ?_
            refine Go_ireturn (ty := .boolean) dX11_beat_49 rfl rfl ?_
            exact k _ _ (Or.inl ⟨by omega, rfl, rfl⟩) I.S
          · refine Go_iconst (v := iZ 0) (pc' := 34) dX11_beat_33 rfl (by decide) ?_
            refine Go_ireturn (ty := .boolean) dX11_beat_34 rfl rfl ?_
            exact k _ _ (Or.inr ⟨by omega, rfl, rfl⟩) I.S
      · rintro r h1 (⟨hc, rfl, rfl⟩ | ⟨hc, rfl, rfl⟩) K k
        · show Go G 60 0 0 M_X12_beat 0 [.ref 99, .int (iZ (q : Int)), .int (iZ (c : Int)), .int (iZ Cz), .int (iZ Ez)] [] (wI (wI h w 4 (iZ Cz)) w 5 (iZ Ez)) K
          refine Go_aload_n (pc' := 1) dX12_beat_0 rfl rfl rfl ?_
          refine Go_iload_n (pc' := 2) dX12_beat_1 rfl rfl rfl ?_
          refine Go_iload_n (pc' := 3) dX12_beat_2 rfl rfl rfl ?_
          refine Go_callV_i (pc' := 6) (As := [.int _, .int _]) (st := []) dX12_beat_3 rfl ok_X12_isReading km_RX12_346 (I.S.o 99 rfl rfl rfl) (I.S.b 99 rfl rfl) ⟨_, _, rfl⟩ rfl (Nat.le_of_ble_eq_true rfl) rfl rfl rfl (Nat.le_of_ble_eq_true rfl) (Nat.lt_succ_self _) ?_
          refine Go_aload_n (pc' := 1) dX12_isReading_0 rfl rfl rfl ?_
          refine Go_iload_n (pc' := 2) dX12_isReading_1 rfl rfl rfl ?_
          refine Go_callV_i (pc' := 5) (As := [.int _]) (st := []) dX12_isReading_2 rfl ok_X12_isQuake km_RX12_340 (I.S.o 99 rfl rfl rfl) (I.S.b 99 rfl rfl) ⟨_, _, rfl⟩ rfl (Nat.le_of_ble_eq_true rfl) rfl rfl rfl (Nat.le_of_ble_eq_true rfl) (Nat.lt_succ_self _) ?_
          refine Go_iload_n (pc' := 1) dX12_isQuake_0 rfl rfl rfl ?_
          refine Go_iconst (v := iZ 0) (pc' := 2) dX12_isQuake_1 rfl (by decide) ?_
          refine Go_aload_n (pc' := 3) dX12_isQuake_2 rfl rfl rfl ?_
          refine Go_getIv (v := (iZ (nq : Int))) (pc' := 6) dX12_isQuake_3 rfl kf_RX12_336 (by decide) (by decide) rfl (I.S.b 99 rfl rfl) (I.S.o 99 rfl rfl rfl) ((vi_skip (Or.inl (by omega))).trans ((vi_skip (Or.inl (by omega))).trans (eq38))) ?_
          refine Go_iconst (v := iZ 1) (pc' := 7) dX12_isQuake_6 rfl (by decide) ?_
          refine Go_isubZ (pc' := 8) dX12_isQuake_7 rfl ?_
          refine Go_callS_i (pc' := 11) (As := [.int _, .int _, .int _]) (st := []) dX12_isQuake_8 rfl ok_X12_isIn km_RX12_147 rfl (Nat.le_of_ble_eq_true rfl) rfl rfl rfl (Nat.le_of_ble_eq_true rfl) (Nat.lt_succ_self _) ?_
          refine s_isInY (by first | exact ⟨i_lo _, i_hi _⟩ | omega) (by first | exact ⟨i_lo _, i_hi _⟩ | omega) (by first | exact ⟨i_lo _, i_hi _⟩ | omega) ?_
          refine ⟨_, rfl, ?_⟩
          refine Go_ireturn (ty := .boolean) dX12_isQuake_11 rfl b2i_nb ?_
          refine ⟨_, rfl, ?_⟩
          refine Go_if_eqb (tgt := 34) (pc' := 8) dX12_isReading_5 (by decide) rfl (fun o5 => by exfalso; omega) (fun o5 => ?_)
          refine Go_aload_n (pc' := 9) dX12_isReading_8 rfl rfl rfl ?_
          refine Go_iload_n (pc' := 10) dX12_isReading_9 rfl rfl rfl ?_
          refine Go_callV_i (pc' := 13) (As := [.int _]) (st := []) dX12_isReading_10 rfl ok_X12_isCellar km_RX12_158 (I.S.o 99 rfl rfl rfl) (I.S.b 99 rfl rfl) ⟨_, _, rfl⟩ rfl (Nat.le_of_ble_eq_true rfl) rfl rfl rfl (Nat.le_of_ble_eq_true rfl) (Nat.lt_succ_self _) ?_
          refine Go_iload_n (pc' := 1) dX12_isCellar_0 rfl rfl rfl ?_
          refine Go_iconst (v := iZ 0) (pc' := 2) dX12_isCellar_1 rfl (by decide) ?_
          refine Go_aload_n (pc' := 3) dX12_isCellar_2 rfl rfl rfl ?_
          refine Go_getIv (v := (iZ (nc : Int))) (pc' := 6) dX12_isCellar_3 rfl kf_RX12_151 (by decide) (by decide) rfl (I.S.b 99 rfl rfl) (I.S.o 99 rfl rfl rfl) ((vi_skip (Or.inl (by omega))).trans ((vi_skip (Or.inl (by omega))).trans (ec0))) ?_
          refine Go_iconst (v := iZ 1) (pc' := 7) dX12_isCellar_6 rfl (by decide) ?_
          refine Go_isubZ (pc' := 8) dX12_isCellar_7 rfl ?_
          refine Go_callS_i (pc' := 11) (As := [.int _, .int _, .int _]) (st := []) dX12_isCellar_8 rfl ok_X12_isIn km_RX12_147 rfl (Nat.le_of_ble_eq_true rfl) rfl rfl rfl (Nat.le_of_ble_eq_true rfl) (Nat.lt_succ_self _) ?_
          refine s_isInY (by first | exact ⟨i_lo _, i_hi _⟩ | omega) (by first | exact ⟨i_lo _, i_hi _⟩ | omega) (by first | exact ⟨i_lo _, i_hi _⟩ | omega) ?_
          refine ⟨_, rfl, ?_⟩
          refine Go_ireturn (ty := .boolean) dX12_isCellar_11 rfl b2i_nb ?_
          refine ⟨_, rfl, ?_⟩
          refine Go_if_eqb (tgt := 34) (pc' := 16) dX12_isReading_13 (by decide) rfl (fun o13 => by exfalso; omega) (fun o13 => ?_)
          refine Go_aload_n (pc' := 17) dX12_isReading_16 rfl rfl rfl ?_
          refine Go_getRs (pc' := 20) dX12_isReading_17 rfl kf_RX12_92 (by decide) (by decide) rfl (I.S.b 99 rfl rfl) (I.S.o 99 rfl rfl rfl) (I.S.r 99 41 rfl rfl rfl) ?_
          refine Go_bipush (v := iZ 6) (pc' := 22) dX12_isReading_20 rfl (by decide) ?_
          refine Go_iload_n (pc' := 23) dX12_isReading_22 rfl rfl rfl ?_
          refine Go_imulZ (pc' := 24) dX12_isReading_23 rfl ?_
          refine Go_iload_n (pc' := 25) dX12_isReading_24 rfl rfl rfl ?_
          refine Go_iaddZ (pc' := 26) dX12_isReading_25 rfl ?_
          refine Go_baloadZ (n := 96) (k := (6 * q + c)) (v := (iZ 1)) (pc' := 27) dX12_isReading_26 rfl (I.S.b 124 rfl rfl) (I.S.k 124 rfl rfl rfl) (by omega) (by omega) (by decide) ((vi_skip (Or.inl (by omega))).trans ((vi_skip (Or.inl (by omega))).trans (h0))) ?_
          refine Go_if_eqY (tgt := 34) (pc' := 30) dX12_isReading_27 (by decide) rfl (by first | exact ⟨i_lo _, i_hi _⟩ | omega) (fun o27 => by exfalso; omega) (fun o27 => ?_)
          refine Go_iconst (v := iZ 1) (pc' := 31) dX12_isReading_30 rfl (by decide) ?_
          refine Go_goto (tgt := 35) dX12_isReading_31 (by decide) ?_
          refine Go_ireturn (ty := .boolean) dX12_isReading_35 rfl rfl ?_
          refine ⟨_, rfl, ?_⟩
          refine Go_if_eqY (tgt := 29) (pc' := 9) dX12_beat_6 (by decide) rfl (by first | exact ⟨i_lo _, i_hi _⟩ | omega) (fun c6 => by exfalso; omega) (fun c6 => ?_)
          refine Go_iload_n (pc' := 10) dX12_beat_9 rfl rfl rfl ?_
          refine Go_iconst (v := iZ (-1)) (pc' := 11) dX12_beat_10 rfl (by decide) ?_
          refine Go_iconst (v := iZ 1) (pc' := 12) dX12_beat_11 rfl (by decide) ?_
          refine Go_callS_i (pc' := 15) (As := [.int _, .int _, .int _]) (st := []) dX12_beat_12 rfl ok_X12_isIn km_RX12_147 rfl (Nat.le_of_ble_eq_true rfl) rfl rfl rfl (Nat.le_of_ble_eq_true rfl) (Nat.lt_succ_self _) ?_
          refine s_isInY (by first | exact ⟨i_lo _, i_hi _⟩ | omega) (by first | exact ⟨i_lo _, i_hi _⟩ | omega) (by first | exact ⟨i_lo _, i_hi _⟩ | omega) ?_
          refine ⟨_, rfl, ?_⟩
          refine Go_if_eqb (tgt := 29) (pc' := 18) dX12_beat_15 (by decide) rfl (fun c15 => ?_) (fun c15 => ?_)
          · refine Go_iconst (v := iZ 0) (pc' := 30) dX12_beat_29 rfl (by decide) ?_
            refine Go_ireturn (ty := .boolean) dX12_beat_30 rfl rfl ?_
            exfalso; omega
          · refine Go_iload (pc' := 20) dX12_beat_18 rfl rfl ?_
            refine Go_iconst (v := iZ 0) (pc' := 21) dX12_beat_20 rfl (by decide) ?_
            refine Go_ldcZ (X := 999999) (pc' := 23) dX12_beat_21 rfl kn_RX12_184 (by decide) ?_
            refine Go_callS_i (pc' := 26) (As := [.int _, .int _, .int _]) (st := []) dX12_beat_23 rfl ok_X12_isIn km_RX12_147 rfl (Nat.le_of_ble_eq_true rfl) rfl rfl rfl (Nat.le_of_ble_eq_true rfl) (Nat.lt_succ_self _) ?_
            refine s_isInY (by first | exact ⟨i_lo _, i_hi _⟩ | omega) (by first | exact ⟨i_lo _, i_hi _⟩ | omega) (by first | exact ⟨i_lo _, i_hi _⟩ | omega) ?_
            refine ⟨_, rfl, ?_⟩
            refine Go_if_neb (tgt := 31) (pc' := 29) dX12_beat_26 (by decide) rfl (fun c26 => ?_) (fun c26 => ?_)
            · refine Go_aload_n (pc' := 32) dX12_beat_31 rfl rfl rfl ?_
              refine Go_getRs (pc' := 35) dX12_beat_32 rfl kf_RX12_111 (by decide) (by decide) rfl (I.S.b 99 rfl rfl) (I.S.o 99 rfl rfl rfl) (I.S.r 99 47 rfl rfl rfl) ?_
              refine Go_bipush (v := iZ 6) (pc' := 37) dX12_beat_35 rfl (by decide) ?_
              refine Go_iload_n (pc' := 38) dX12_beat_37 rfl rfl rfl ?_
              refine Go_imulZ (pc' := 39) dX12_beat_38 rfl ?_
              refine Go_iload_n (pc' := 40) dX12_beat_39 rfl rfl rfl ?_
              refine Go_iaddZ (pc' := 41) dX12_beat_40 rfl ?_
              refine Go_iload_n (pc' := 42) dX12_beat_41 rfl rfl rfl ?_
              refine Go_iastoreZ (n := 96) (k := (6 * q + c)) (pc' := 43) dX12_beat_42 rfl (I.S.b 130 rfl rfl) (I.S.k 130 rfl rfl rfl) (by omega) (by omega) (by decide) ?_
              refine Go_aload_n (pc' := 44) dX12_beat_43 rfl rfl rfl ?_
              refine Go_getRs (pc' := 47) dX12_beat_44 rfl kf_RX12_114 (by decide) (by decide) rfl (I.S.b 99 rfl rfl) (I.S.o 99 rfl rfl rfl) (I.S.r 99 48 rfl rfl rfl) ?_
              refine Go_bipush (v := iZ 6) (pc' := 49) dX12_beat_47 rfl (by decide) ?_
              refine Go_iload_n (pc' := 50) dX12_beat_49 rfl rfl rfl ?_
              refine Go_imulZ (pc' := 51) dX12_beat_50 rfl ?_
              refine Go_iload_n (pc' := 52) dX12_beat_51 rfl rfl rfl ?_
              refine Go_iaddZ (pc' := 53) dX12_beat_52 rfl ?_
              refine Go_iload (pc' := 55) dX12_beat_53 rfl rfl ?_
              refine Go_iastoreZ (n := 96) (k := (6 * q + c)) (pc' := 56) dX12_beat_55 rfl (I.S.b 131 rfl rfl) (I.S.k 131 rfl rfl rfl) (by omega) (by omega) (by decide) ?_
              refine Go_iconst (v := iZ 1) (pc' := 57) dX12_beat_56 rfl (by decide) ?_
              refine Go_ireturn (ty := .boolean) dX12_beat_57 rfl rfl ?_
              exact k _ (I.rd (by rw [eq7, iZ_t (by omega)]; omega) hu hc6 hw RS h0 (by rw [ec2, iZ_t (by omega)]; omega) (((((DifR.rf _ _ _).wI (by omega)).wI (by omega)).wI (by omega)).wI (by omega)) ⟨⟨((vi_skip (by omega)).trans ((vi_skip (by omega)).trans ((vi_skip (by omega)).trans ((vi_skip (by omega)).trans (rfl))))).trans (RV.1.1.trans ((vi_skip (by omega)).trans ((vi_skip (by omega)).trans ((vi_skip (by omega)).trans ((vi_skip (by omega)).trans (rfl))))).symm), by rw [show vi (wI (wI (wI (wI h w 4 (iZ Cz)) w 5 (iZ Ez)) 130 (6 * q + c) (iZ Cz)) 131 (6 * q + c) (iZ Ez)) w 0 = vi h w 0 from ((vi_skip (by omega)).trans ((vi_skip (by omega)).trans ((vi_skip (by omega)).trans ((vi_skip (by omega)).trans (rfl)))))]; exact RV.1.2⟩, ⟨((vi_skip (by omega)).trans ((vi_skip (by omega)).trans ((vi_skip (by omega)).trans ((vi_skip (by omega)).trans (rfl))))).trans (RV.2.1.1.trans ((vi_skip (by omega)).trans ((vi_skip (by omega)).trans ((vi_skip (by omega)).trans ((vi_skip (by omega)).trans (rfl))))).symm), by rw [show vi (wI (wI (wI (wI h w 4 (iZ Cz)) w 5 (iZ Ez)) 130 (6 * q + c) (iZ Cz)) 131 (6 * q + c) (iZ Ez)) w 1 = vi h w 1 from ((vi_skip (by omega)).trans ((vi_skip (by omega)).trans ((vi_skip (by omega)).trans ((vi_skip (by omega)).trans (rfl)))))]; exact RV.2.1.2⟩, by rw [show vi (wI (wI (wI (wI h w 4 (iZ Cz)) w 5 (iZ Ez)) 130 (6 * q + c) (iZ Cz)) 131 (6 * q + c) (iZ Ez)) w 2 = vi h w 2 from ((vi_skip (by omega)).trans ((vi_skip (by omega)).trans ((vi_skip (by omega)).trans ((vi_skip (by omega)).trans (rfl))))), show vi (wI (wI (wI (wI h w 4 (iZ Cz)) w 5 (iZ Ez)) 130 (6 * q + c) (iZ Cz)) 131 (6 * q + c) (iZ Ez)) w 3 = vi h w 3 from ((vi_skip (by omega)).trans ((vi_skip (by omega)).trans ((vi_skip (by omega)).trans ((vi_skip (by omega)).trans (rfl))))), show vi (wI (wI (wI (wI h w 4 (iZ Cz)) w 5 (iZ Ez)) 130 (6 * q + c) (iZ Cz)) 131 (6 * q + c) (iZ Ez)) 125 (6 * q + c) = vi h 125 (6 * q + c) from ((vi_skip (by omega)).trans ((vi_skip (by omega)).trans ((vi_skip (by omega)).trans ((vi_skip (by omega)).trans (rfl))))), show vi (wI (wI (wI (wI h w 4 (iZ Cz)) w 5 (iZ Ez)) 130 (6 * q + c) (iZ Cz)) 131 (6 * q + c) (iZ Ez)) 128 (6 * q + c) = vi h 128 (6 * q + c) from ((vi_skip (by omega)).trans ((vi_skip (by omega)).trans ((vi_skip (by omega)).trans ((vi_skip (by omega)).trans (rfl))))), show vi (wI (wI (wI (wI h w 4 (iZ Cz)) w 5 (iZ Ez)) 130 (6 * q + c) (iZ Cz)) 131 (6 * q + c) (iZ Ez)) 129 (6 * q + c) = vi h 129 (6 * q + c) from ((vi_skip (by omega)).trans ((vi_skip (by omega)).trans ((vi_skip (by omega)).trans ((vi_skip (by omega)).trans (rfl)))))]; exact RV.2.2.1, ⟨(((vi_skip (Or.inl (by omega))).trans ((vi_skip (Or.inl (by omega))).trans ((vi_skip (Or.inr (by decide))).trans (vi_same)))).trans ((vi_skip (Or.inl (by decide))).trans (vi_same)).symm), by rw [show vi (wI (wI (wI (wI h w 4 (iZ Cz)) w 5 (iZ Ez)) 130 (6 * q + c) (iZ Cz)) 131 (6 * q + c) (iZ Ez)) w 4 = iZ Cz from ((vi_skip (Or.inl (by omega))).trans ((vi_skip (Or.inl (by omega))).trans ((vi_skip (Or.inr (by decide))).trans (vi_same))))]; exact rgz (by omega) (by omega)⟩, ⟨(((vi_skip (Or.inl (by omega))).trans ((vi_skip (Or.inl (by omega))).trans (vi_same))).trans (vi_same).symm), by rw [show vi (wI (wI (wI (wI h w 4 (iZ Cz)) w 5 (iZ Ez)) 130 (6 * q + c) (iZ Cz)) 131 (6 * q + c) (iZ Ez)) w 5 = iZ Ez from ((vi_skip (Or.inl (by omega))).trans ((vi_skip (Or.inl (by omega))).trans (vi_same)))]; exact rgz (by omega) (by omega)⟩⟩)
            · refine Go_iconst (v := iZ 0) (pc' := 30) dX12_beat_29 rfl (by decide) ?_
              refine Go_ireturn (ty := .boolean) dX12_beat_30 rfl rfl ?_
              exfalso; omega
        · show Go G 60 0 0 M_X12_beat 0 [.ref 99, .int (iZ (q : Int)), .int (iZ (c : Int)), .int (iZ Cz), .int (iZ Ez)] [] h K
          refine Go_aload_n (pc' := 1) dX12_beat_0 rfl rfl rfl ?_
          refine Go_iload_n (pc' := 2) dX12_beat_1 rfl rfl rfl ?_
          refine Go_iload_n (pc' := 3) dX12_beat_2 rfl rfl rfl ?_
          refine Go_callV_i (pc' := 6) (As := [.int _, .int _]) (st := []) dX12_beat_3 rfl ok_X12_isReading km_RX12_346 (I.S.o 99 rfl rfl rfl) (I.S.b 99 rfl rfl) ⟨_, _, rfl⟩ rfl (Nat.le_of_ble_eq_true rfl) rfl rfl rfl (Nat.le_of_ble_eq_true rfl) (Nat.lt_succ_self _) ?_
          refine Go_aload_n (pc' := 1) dX12_isReading_0 rfl rfl rfl ?_
          refine Go_iload_n (pc' := 2) dX12_isReading_1 rfl rfl rfl ?_
          refine Go_callV_i (pc' := 5) (As := [.int _]) (st := []) dX12_isReading_2 rfl ok_X12_isQuake km_RX12_340 (I.S.o 99 rfl rfl rfl) (I.S.b 99 rfl rfl) ⟨_, _, rfl⟩ rfl (Nat.le_of_ble_eq_true rfl) rfl rfl rfl (Nat.le_of_ble_eq_true rfl) (Nat.lt_succ_self _) ?_
          refine Go_iload_n (pc' := 1) dX12_isQuake_0 rfl rfl rfl ?_
          refine Go_iconst (v := iZ 0) (pc' := 2) dX12_isQuake_1 rfl (by decide) ?_
          refine Go_aload_n (pc' := 3) dX12_isQuake_2 rfl rfl rfl ?_
          refine Go_getIv (v := (iZ (nq : Int))) (pc' := 6) dX12_isQuake_3 rfl kf_RX12_336 (by decide) (by decide) rfl (I.S.b 99 rfl rfl) (I.S.o 99 rfl rfl rfl) (eq38) ?_
          refine Go_iconst (v := iZ 1) (pc' := 7) dX12_isQuake_6 rfl (by decide) ?_
          refine Go_isubZ (pc' := 8) dX12_isQuake_7 rfl ?_
          refine Go_callS_i (pc' := 11) (As := [.int _, .int _, .int _]) (st := []) dX12_isQuake_8 rfl ok_X12_isIn km_RX12_147 rfl (Nat.le_of_ble_eq_true rfl) rfl rfl rfl (Nat.le_of_ble_eq_true rfl) (Nat.lt_succ_self _) ?_
          refine s_isInY (by first | exact ⟨i_lo _, i_hi _⟩ | omega) (by first | exact ⟨i_lo _, i_hi _⟩ | omega) (by first | exact ⟨i_lo _, i_hi _⟩ | omega) ?_
          refine ⟨_, rfl, ?_⟩
          refine Go_ireturn (ty := .boolean) dX12_isQuake_11 rfl b2i_nb ?_
          refine ⟨_, rfl, ?_⟩
          refine Go_if_eqb (tgt := 34) (pc' := 8) dX12_isReading_5 (by decide) rfl (fun o5 => by exfalso; omega) (fun o5 => ?_)
          refine Go_aload_n (pc' := 9) dX12_isReading_8 rfl rfl rfl ?_
          refine Go_iload_n (pc' := 10) dX12_isReading_9 rfl rfl rfl ?_
          refine Go_callV_i (pc' := 13) (As := [.int _]) (st := []) dX12_isReading_10 rfl ok_X12_isCellar km_RX12_158 (I.S.o 99 rfl rfl rfl) (I.S.b 99 rfl rfl) ⟨_, _, rfl⟩ rfl (Nat.le_of_ble_eq_true rfl) rfl rfl rfl (Nat.le_of_ble_eq_true rfl) (Nat.lt_succ_self _) ?_
          refine Go_iload_n (pc' := 1) dX12_isCellar_0 rfl rfl rfl ?_
          refine Go_iconst (v := iZ 0) (pc' := 2) dX12_isCellar_1 rfl (by decide) ?_
          refine Go_aload_n (pc' := 3) dX12_isCellar_2 rfl rfl rfl ?_
          refine Go_getIv (v := (iZ (nc : Int))) (pc' := 6) dX12_isCellar_3 rfl kf_RX12_151 (by decide) (by decide) rfl (I.S.b 99 rfl rfl) (I.S.o 99 rfl rfl rfl) (ec0) ?_
          refine Go_iconst (v := iZ 1) (pc' := 7) dX12_isCellar_6 rfl (by decide) ?_
          refine Go_isubZ (pc' := 8) dX12_isCellar_7 rfl ?_
          refine Go_callS_i (pc' := 11) (As := [.int _, .int _, .int _]) (st := []) dX12_isCellar_8 rfl ok_X12_isIn km_RX12_147 rfl (Nat.le_of_ble_eq_true rfl) rfl rfl rfl (Nat.le_of_ble_eq_true rfl) (Nat.lt_succ_self _) ?_
          refine s_isInY (by first | exact ⟨i_lo _, i_hi _⟩ | omega) (by first | exact ⟨i_lo _, i_hi _⟩ | omega) (by first | exact ⟨i_lo _, i_hi _⟩ | omega) ?_
          refine ⟨_, rfl, ?_⟩
          refine Go_ireturn (ty := .boolean) dX12_isCellar_11 rfl b2i_nb ?_
          refine ⟨_, rfl, ?_⟩
          refine Go_if_eqb (tgt := 34) (pc' := 16) dX12_isReading_13 (by decide) rfl (fun o13 => by exfalso; omega) (fun o13 => ?_)
          refine Go_aload_n (pc' := 17) dX12_isReading_16 rfl rfl rfl ?_
          refine Go_getRs (pc' := 20) dX12_isReading_17 rfl kf_RX12_92 (by decide) (by decide) rfl (I.S.b 99 rfl rfl) (I.S.o 99 rfl rfl rfl) (I.S.r 99 41 rfl rfl rfl) ?_
          refine Go_bipush (v := iZ 6) (pc' := 22) dX12_isReading_20 rfl (by decide) ?_
          refine Go_iload_n (pc' := 23) dX12_isReading_22 rfl rfl rfl ?_
          refine Go_imulZ (pc' := 24) dX12_isReading_23 rfl ?_
          refine Go_iload_n (pc' := 25) dX12_isReading_24 rfl rfl rfl ?_
          refine Go_iaddZ (pc' := 26) dX12_isReading_25 rfl ?_
          refine Go_baloadZ (n := 96) (k := (6 * q + c)) (v := (iZ 1)) (pc' := 27) dX12_isReading_26 rfl (I.S.b 124 rfl rfl) (I.S.k 124 rfl rfl rfl) (by omega) (by omega) (by decide) (h0) ?_
          refine Go_if_eqY (tgt := 34) (pc' := 30) dX12_isReading_27 (by decide) rfl (by first | exact ⟨i_lo _, i_hi _⟩ | omega) (fun o27 => by exfalso; omega) (fun o27 => ?_)
          refine Go_iconst (v := iZ 1) (pc' := 31) dX12_isReading_30 rfl (by decide) ?_
          refine Go_goto (tgt := 35) dX12_isReading_31 (by decide) ?_
          refine Go_ireturn (ty := .boolean) dX12_isReading_35 rfl rfl ?_
          refine ⟨_, rfl, ?_⟩
          refine Go_if_eqY (tgt := 29) (pc' := 9) dX12_beat_6 (by decide) rfl (by first | exact ⟨i_lo _, i_hi _⟩ | omega) (fun c6 => by exfalso; omega) (fun c6 => ?_)
          refine Go_iload_n (pc' := 10) dX12_beat_9 rfl rfl rfl ?_
          refine Go_iconst (v := iZ (-1)) (pc' := 11) dX12_beat_10 rfl (by decide) ?_
          refine Go_iconst (v := iZ 1) (pc' := 12) dX12_beat_11 rfl (by decide) ?_
          refine Go_callS_i (pc' := 15) (As := [.int _, .int _, .int _]) (st := []) dX12_beat_12 rfl ok_X12_isIn km_RX12_147 rfl (Nat.le_of_ble_eq_true rfl) rfl rfl rfl (Nat.le_of_ble_eq_true rfl) (Nat.lt_succ_self _) ?_
          refine s_isInY (by first | exact ⟨i_lo _, i_hi _⟩ | omega) (by first | exact ⟨i_lo _, i_hi _⟩ | omega) (by first | exact ⟨i_lo _, i_hi _⟩ | omega) ?_
          refine ⟨_, rfl, ?_⟩
          refine Go_if_eqb (tgt := 29) (pc' := 18) dX12_beat_15 (by decide) rfl (fun c15 => ?_) (fun c15 => ?_)
          · refine Go_iconst (v := iZ 0) (pc' := 30) dX12_beat_29 rfl (by decide) ?_
            refine Go_ireturn (ty := .boolean) dX12_beat_30 rfl rfl ?_
            exact k _ I
          · refine Go_iload (pc' := 20) dX12_beat_18 rfl rfl ?_
            refine Go_iconst (v := iZ 0) (pc' := 21) dX12_beat_20 rfl (by decide) ?_
            refine Go_ldcZ (X := 999999) (pc' := 23) dX12_beat_21 rfl kn_RX12_184 (by decide) ?_
            refine Go_callS_i (pc' := 26) (As := [.int _, .int _, .int _]) (st := []) dX12_beat_23 rfl ok_X12_isIn km_RX12_147 rfl (Nat.le_of_ble_eq_true rfl) rfl rfl rfl (Nat.le_of_ble_eq_true rfl) (Nat.lt_succ_self _) ?_
            refine s_isInY (by first | exact ⟨i_lo _, i_hi _⟩ | omega) (by first | exact ⟨i_lo _, i_hi _⟩ | omega) (by first | exact ⟨i_lo _, i_hi _⟩ | omega) ?_
            refine ⟨_, rfl, ?_⟩
            refine Go_if_neb (tgt := 31) (pc' := 29) dX12_beat_26 (by decide) rfl (fun c26 => ?_) (fun c26 => ?_)
            · refine Go_aload_n (pc' := 32) dX12_beat_31 rfl rfl rfl ?_
              refine Go_getRs (pc' := 35) dX12_beat_32 rfl kf_RX12_111 (by decide) (by decide) rfl (I.S.b 99 rfl rfl) (I.S.o 99 rfl rfl rfl) (I.S.r 99 47 rfl rfl rfl) ?_
              refine Go_bipush (v := iZ 6) (pc' := 37) dX12_beat_35 rfl (by decide) ?_
              refine Go_iload_n (pc' := 38) dX12_beat_37 rfl rfl rfl ?_
              refine Go_imulZ (pc' := 39) dX12_beat_38 rfl ?_
              refine Go_iload_n (pc' := 40) dX12_beat_39 rfl rfl rfl ?_
              refine Go_iaddZ (pc' := 41) dX12_beat_40 rfl ?_
              refine Go_iload_n (pc' := 42) dX12_beat_41 rfl rfl rfl ?_
              refine Go_iastoreZ (n := 96) (k := (6 * q + c)) (pc' := 43) dX12_beat_42 rfl (I.S.b 130 rfl rfl) (I.S.k 130 rfl rfl rfl) (by omega) (by omega) (by decide) ?_
              refine Go_aload_n (pc' := 44) dX12_beat_43 rfl rfl rfl ?_
              refine Go_getRs (pc' := 47) dX12_beat_44 rfl kf_RX12_114 (by decide) (by decide) rfl (I.S.b 99 rfl rfl) (I.S.o 99 rfl rfl rfl) (I.S.r 99 48 rfl rfl rfl) ?_
              refine Go_bipush (v := iZ 6) (pc' := 49) dX12_beat_47 rfl (by decide) ?_
              refine Go_iload_n (pc' := 50) dX12_beat_49 rfl rfl rfl ?_
              refine Go_imulZ (pc' := 51) dX12_beat_50 rfl ?_
              refine Go_iload_n (pc' := 52) dX12_beat_51 rfl rfl rfl ?_
              refine Go_iaddZ (pc' := 53) dX12_beat_52 rfl ?_
              refine Go_iload (pc' := 55) dX12_beat_53 rfl rfl ?_
              refine Go_iastoreZ (n := 96) (k := (6 * q + c)) (pc' := 56) dX12_beat_55 rfl (I.S.b 131 rfl rfl) (I.S.k 131 rfl rfl rfl) (by omega) (by omega) (by decide) ?_
              refine Go_iconst (v := iZ 1) (pc' := 57) dX12_beat_56 rfl (by decide) ?_
              refine Go_ireturn (ty := .boolean) dX12_beat_57 rfl rfl ?_
              exfalso; omega
            · refine Go_iconst (v := iZ 0) (pc' := 30) dX12_beat_29 rfl (by decide) ?_
              refine Go_ireturn (ty := .boolean) dX12_beat_30 rfl rfl ?_
              exact k _ I
set_option maxRecDepth 20000 in
set_option maxHeartbeats 1000000 in
theorem pair21 {G : GC} (a b c e : Int32) : PairI G M_X11_second M_X12_second [.int a, .int b, .int c, .int e] := by
  intro h I
  obtain ⟨Az, hva, rfl⟩ := i_eta a
  obtain ⟨Bz, hvb, rfl⟩ := i_eta b
  obtain ⟨Cz, hvc, rfl⟩ := i_eta c
  obtain ⟨Ez, hve, rfl⟩ := i_eta e
  obtain ⟨nq, hnq, eq7⟩ := of_rgZ (b := 16) I.Q.1.2
  have eq38 : vi h 99 38 = iZ (nq : Int) := I.Q.1.1.trans eq7
  obtain ⟨nc, hnc, ec2⟩ := of_rgZ (b := 6) I.C.1.2
  have ec0 : vi h 99 0 = iZ (nc : Int) := I.C.1.1.trans ec2
  rcases qk_cases I hnq eq7 Az with hq0 | ⟨q, u, rfl, hq, hu, QS, PV, RR⟩
  · refine PairI.ro' (fun _ => iZ 0) h I (fun K k => ?_) (fun K k => ?_)
    · show Go G 60 0 0 M_X11_second 0 [.ref 64, .int (iZ Az), .int (iZ Bz), .int (iZ Cz), .int (iZ Ez), un] [] h K
      refine Go_aload_n (pc' := 1) dX11_second_0 rfl rfl rfl ?_
      refine Go_iload_n (pc' := 2) dX11_second_1 rfl rfl rfl ?_
      refine Go_iload_n (pc' := 3) dX11_second_2 rfl rfl rfl ?_
      refine Go_callV_r (pc' := 6) (As := [.int _, .int _]) (st := []) dX11_second_3 rfl ok_X11_readingOf km_RX11_241 (I.S.o 64 rfl rfl rfl) (I.S.b 64 rfl rfl) ⟨_, _, rfl⟩ rfl (Nat.le_of_ble_eq_true rfl) rfl rfl rfl (Nat.le_of_ble_eq_true rfl) (Nat.lt_succ_self _) ?_
      refine Go_aload_n (pc' := 1) dX11_readingOf_0 rfl rfl rfl ?_
      refine Go_iload_n (pc' := 2) dX11_readingOf_1 rfl rfl rfl ?_
      refine Go_callV_r (pc' := 5) (As := [.int _]) (st := []) dX11_readingOf_2 rfl ok_X11_quakeOf km_RX11_230 (I.S.o 64 rfl rfl rfl) (I.S.b 64 rfl rfl) ⟨_, _, rfl⟩ rfl (Nat.le_of_ble_eq_true rfl) rfl rfl rfl (Nat.le_of_ble_eq_true rfl) (Nat.lt_succ_self _) ?_
      refine Go_iload_n (pc' := 1) dX11_quakeOf_0 rfl rfl rfl ?_
      refine Go_iconst (v := iZ 0) (pc' := 2) dX11_quakeOf_1 rfl (by decide) ?_
      refine Go_aload_n (pc' := 3) dX11_quakeOf_2 rfl rfl rfl ?_
      refine Go_getIv (v := (iZ (nq : Int))) (pc' := 6) dX11_quakeOf_3 rfl kf_RX11_226 (by decide) (by decide) rfl (I.S.b 64 rfl rfl) (I.S.o 64 rfl rfl rfl) (eq7) ?_
      refine Go_iconst (v := iZ 1) (pc' := 7) dX11_quakeOf_6 rfl (by decide) ?_
      refine Go_isubZ (pc' := 8) dX11_quakeOf_7 rfl ?_
      refine Go_callS_i (pc' := 11) (As := [.int _, .int _, .int _]) (st := []) dX11_quakeOf_8 rfl ok_X11_within km_RX11_94 rfl (Nat.le_of_ble_eq_true rfl) rfl rfl rfl (Nat.le_of_ble_eq_true rfl) (Nat.lt_succ_self _) ?_
      refine s_withinY (by first | exact ⟨i_lo _, i_hi _⟩ | omega) (by first | exact ⟨i_lo _, i_hi _⟩ | omega) (by first | exact ⟨i_lo _, i_hi _⟩ | omega) ?_
      refine ⟨_, rfl, ?_⟩
      refine Go_if_eqb (tgt := 32) (pc' := 14) dX11_quakeOf_11 (by decide) rfl (fun q11 => ?_) (fun q11 => by exfalso; omega)
      refine Go_null (pc' := 33) dX11_quakeOf_32 rfl ?_
      refine Go_areturn (r := none) dX11_quakeOf_33 rfl ?_
      refine ⟨none, rfl, ?_⟩
      refine Go_astore_nN (pc' := 6) (lv' := [.ref _, .int _, .int _, .null]) dX11_readingOf_5 rfl rfl (Nat.le_of_ble_eq_true rfl) rfl rfl ?_
      refine Go_aload_nN (pc' := 7) dX11_readingOf_6 rfl rfl rfl ?_
      refine Go_ifnonnullN (pc' := 10) dX11_readingOf_7 rfl ?_
      refine Go_null (pc' := 11) dX11_readingOf_10 rfl ?_
      refine Go_goto (tgt := 19) dX11_readingOf_11 (by decide) ?_
      refine Go_areturn (r := none) dX11_readingOf_19 rfl ?_
      refine ⟨none, rfl, ?_⟩
      refine Go_astoreN (pc' := 8) (lv' := [.ref _, .int _, .int _, .int _, .int _, .null]) dX11_second_6 rfl (Nat.le_of_ble_eq_true rfl) rfl rfl ?_
      refine Go_aloadN (pc' := 10) dX11_second_8 rfl rfl ?_
      refine Go_ifnullN (tgt := 27) dX11_second_10 (by decide) ?_
      refine Go_iconst (v := iZ 0) (pc' := 28) dX11_second_27 rfl (by decide) ?_
      refine Go_ireturn (ty := .boolean) dX11_second_28 rfl rfl ?_
      exact k
    · show Go G 60 0 0 M_X12_second 0 [.ref 99, .int (iZ Az), .int (iZ Bz), .int (iZ Cz), .int (iZ Ez), un] [] h K
      refine Go_aload_n (pc' := 1) dX12_second_0 rfl rfl rfl ?_
      refine Go_iload_n (pc' := 2) dX12_second_1 rfl rfl rfl ?_
      refine Go_iload_n (pc' := 3) dX12_second_2 rfl rfl rfl ?_
      refine Go_callV_i (pc' := 6) (As := [.int _, .int _]) (st := []) dX12_second_3 rfl ok_X12_isReading km_RX12_346 (I.S.o 99 rfl rfl rfl) (I.S.b 99 rfl rfl) ⟨_, _, rfl⟩ rfl (Nat.le_of_ble_eq_true rfl) rfl rfl rfl (Nat.le_of_ble_eq_true rfl) (Nat.lt_succ_self _) ?_
      refine Go_aload_n (pc' := 1) dX12_isReading_0 rfl rfl rfl ?_
      refine Go_iload_n (pc' := 2) dX12_isReading_1 rfl rfl rfl ?_
      refine Go_callV_i (pc' := 5) (As := [.int _]) (st := []) dX12_isReading_2 rfl ok_X12_isQuake km_RX12_340 (I.S.o 99 rfl rfl rfl) (I.S.b 99 rfl rfl) ⟨_, _, rfl⟩ rfl (Nat.le_of_ble_eq_true rfl) rfl rfl rfl (Nat.le_of_ble_eq_true rfl) (Nat.lt_succ_self _) ?_
      refine Go_iload_n (pc' := 1) dX12_isQuake_0 rfl rfl rfl ?_
      refine Go_iconst (v := iZ 0) (pc' := 2) dX12_isQuake_1 rfl (by decide) ?_
      refine Go_aload_n (pc' := 3) dX12_isQuake_2 rfl rfl rfl ?_
      refine Go_getIv (v := (iZ (nq : Int))) (pc' := 6) dX12_isQuake_3 rfl kf_RX12_336 (by decide) (by decide) rfl (I.S.b 99 rfl rfl) (I.S.o 99 rfl rfl rfl) (eq38) ?_
      refine Go_iconst (v := iZ 1) (pc' := 7) dX12_isQuake_6 rfl (by decide) ?_
      refine Go_isubZ (pc' := 8) dX12_isQuake_7 rfl ?_
      refine Go_callS_i (pc' := 11) (As := [.int _, .int _, .int _]) (st := []) dX12_isQuake_8 rfl ok_X12_isIn km_RX12_147 rfl (Nat.le_of_ble_eq_true rfl) rfl rfl rfl (Nat.le_of_ble_eq_true rfl) (Nat.lt_succ_self _) ?_
      refine s_isInY (by first | exact ⟨i_lo _, i_hi _⟩ | omega) (by first | exact ⟨i_lo _, i_hi _⟩ | omega) (by first | exact ⟨i_lo _, i_hi _⟩ | omega) ?_
      refine ⟨_, rfl, ?_⟩
      refine Go_ireturn (ty := .boolean) dX12_isQuake_11 rfl b2i_nb ?_
      refine ⟨_, rfl, ?_⟩
      refine Go_if_eqb (tgt := 34) (pc' := 8) dX12_isReading_5 (by decide) rfl (fun o5 => ?_) (fun o5 => by exfalso; omega)
      refine Go_iconst (v := iZ 0) (pc' := 35) dX12_isReading_34 rfl (by decide) ?_
      refine Go_ireturn (ty := .boolean) dX12_isReading_35 rfl rfl ?_
      refine ⟨_, rfl, ?_⟩
      refine Go_if_eqY (tgt := 23) (pc' := 9) dX12_second_6 (by decide) rfl (by first | exact ⟨i_lo _, i_hi _⟩ | omega) (fun c6 => ?_) (fun c6 => by exfalso; omega)
      refine Go_iconst (v := iZ 0) (pc' := 24) dX12_second_23 rfl (by decide) ?_
      refine Go_ireturn (ty := .boolean) dX12_second_24 rfl rfl ?_
      exact k
  · have hu0 := QS.1
    rcases rd_cases hnc ec2 RR Bz with hc0 | ⟨c, rfl, hc6, ⟨hw, h0⟩ | ⟨w, hw, h0, RS, RV, hcn⟩⟩
    · refine PairI.ro' (fun _ => iZ 0) h I (fun K k => ?_) (fun K k => ?_)
      · show Go G 60 0 0 M_X11_second 0 [.ref 64, .int (iZ (q : Int)), .int (iZ Bz), .int (iZ Cz), .int (iZ Ez), un] [] h K
        refine Go_aload_n (pc' := 1) dX11_second_0 rfl rfl rfl ?_
        refine Go_iload_n (pc' := 2) dX11_second_1 rfl rfl rfl ?_
        refine Go_iload_n (pc' := 3) dX11_second_2 rfl rfl rfl ?_
        refine Go_callV_r (pc' := 6) (As := [.int _, .int _]) (st := []) dX11_second_3 rfl ok_X11_readingOf km_RX11_241 (I.S.o 64 rfl rfl rfl) (I.S.b 64 rfl rfl) ⟨_, _, rfl⟩ rfl (Nat.le_of_ble_eq_true rfl) rfl rfl rfl (Nat.le_of_ble_eq_true rfl) (Nat.lt_succ_self _) ?_
        refine Go_aload_n (pc' := 1) dX11_readingOf_0 rfl rfl rfl ?_
        refine Go_iload_n (pc' := 2) dX11_readingOf_1 rfl rfl rfl ?_
        refine Go_callV_r (pc' := 5) (As := [.int _]) (st := []) dX11_readingOf_2 rfl ok_X11_quakeOf km_RX11_230 (I.S.o 64 rfl rfl rfl) (I.S.b 64 rfl rfl) ⟨_, _, rfl⟩ rfl (Nat.le_of_ble_eq_true rfl) rfl rfl rfl (Nat.le_of_ble_eq_true rfl) (Nat.lt_succ_self _) ?_
        refine Go_iload_n (pc' := 1) dX11_quakeOf_0 rfl rfl rfl ?_
        refine Go_iconst (v := iZ 0) (pc' := 2) dX11_quakeOf_1 rfl (by decide) ?_
        refine Go_aload_n (pc' := 3) dX11_quakeOf_2 rfl rfl rfl ?_
        refine Go_getIv (v := (iZ (nq : Int))) (pc' := 6) dX11_quakeOf_3 rfl kf_RX11_226 (by decide) (by decide) rfl (I.S.b 64 rfl rfl) (I.S.o 64 rfl rfl rfl) (eq7) ?_
        refine Go_iconst (v := iZ 1) (pc' := 7) dX11_quakeOf_6 rfl (by decide) ?_
        refine Go_isubZ (pc' := 8) dX11_quakeOf_7 rfl ?_
        refine Go_callS_i (pc' := 11) (As := [.int _, .int _, .int _]) (st := []) dX11_quakeOf_8 rfl ok_X11_within km_RX11_94 rfl (Nat.le_of_ble_eq_true rfl) rfl rfl rfl (Nat.le_of_ble_eq_true rfl) (Nat.lt_succ_self _) ?_
        refine s_withinY (by first | exact ⟨i_lo _, i_hi _⟩ | omega) (by first | exact ⟨i_lo _, i_hi _⟩ | omega) (by first | exact ⟨i_lo _, i_hi _⟩ | omega) ?_
        refine ⟨_, rfl, ?_⟩
        refine Go_if_eqb (tgt := 32) (pc' := 14) dX11_quakeOf_11 (by decide) rfl (fun q11 => by exfalso; omega) (fun q11 => ?_)
        refine Go_iload_n (pc' := 15) dX11_quakeOf_14 rfl rfl rfl ?_
        refine Go_aload_n (pc' := 16) dX11_quakeOf_15 rfl rfl rfl ?_
        refine Go_getRs (pc' := 19) dX11_quakeOf_16 rfl kf_RX11_45 (by decide) (by decide) rfl (I.S.b 64 rfl rfl) (I.S.o 64 rfl rfl rfl) (I.S.r 64 6 rfl rfl rfl) ?_
        refine Go_alenZ (n := 16) (pc' := 20) dX11_quakeOf_19 rfl (I.S.b 80 rfl rfl) (I.S.k 80 rfl rfl rfl) (Or.inr (Or.inr ⟨_, rfl⟩)) ?_
        refine Go_icmp_geY (tgt := 32) (pc' := 23) dX11_quakeOf_20 (by decide) rfl (by first | exact ⟨i_lo _, i_hi _⟩ | omega) (by first | exact ⟨i_lo _, i_hi _⟩ | omega) (fun q20 => by exfalso; omega) (fun q20 => ?_)
        refine Go_aload_n (pc' := 24) dX11_quakeOf_23 rfl rfl rfl ?_
        refine Go_getRs (pc' := 27) dX11_quakeOf_24 rfl kf_RX11_45 (by decide) (by decide) rfl (I.S.b 64 rfl rfl) (I.S.o 64 rfl rfl rfl) (I.S.r 64 6 rfl rfl rfl) ?_
        refine Go_iload_n (pc' := 28) dX11_quakeOf_27 rfl rfl rfl ?_
        refine Go_aaloadZ (n := 16) (k := q) (pc' := 29) dX11_quakeOf_28 rfl (I.S.b 80 rfl rfl) (I.S.k 80 rfl rfl rfl) rfl rfl (by omega) (by decide) hu ?_
        refine Go_goto (tgt := 33) dX11_quakeOf_29 (by decide) ?_
        refine Go_areturn (r := some _) dX11_quakeOf_33 rfl ?_
        refine ⟨some _, rfl, ?_⟩
        refine Go_astore_n (pc' := 6) (lv' := [.ref _, .int _, .int _, .ref _]) dX11_readingOf_5 rfl rfl (Nat.le_of_ble_eq_true rfl) rfl rfl ?_
        refine Go_aload_n (pc' := 7) dX11_readingOf_6 rfl rfl rfl ?_
        refine Go_ifnonnull (tgt := 14) dX11_readingOf_7 (by decide) ?_
        refine Go_aload_n (pc' := 15) dX11_readingOf_14 rfl rfl rfl ?_
        refine Go_iload_n (pc' := 16) dX11_readingOf_15 rfl rfl rfl ?_
        refine Go_callV_r (pc' := 19) (As := [.int _]) (st := []) dX11_readingOf_16 rfl ok_X5_reading km_RX11_271 QS.o QS.b ⟨_, _, rfl⟩ rfl (Nat.le_of_ble_eq_true rfl) rfl rfl rfl (Nat.le_of_ble_eq_true rfl) (Nat.lt_succ_self _) ?_
        refine Go_iload_n (pc' := 1) dX5_reading_0 rfl rfl rfl ?_
        refine Go_if_ltY (tgt := 22) (pc' := 4) dX5_reading_1 (by decide) rfl (by first | exact ⟨i_lo _, i_hi _⟩ | omega) (fun r1 => ?_) (fun r1 => ?_)
        · refine Go_null (pc' := 23) dX5_reading_22 rfl ?_
          refine Go_areturn (r := none) dX5_reading_23 rfl ?_
          refine ⟨none, rfl, ?_⟩
          refine Go_areturn (r := none) dX11_readingOf_19 rfl ?_
          refine ⟨none, rfl, ?_⟩
          refine Go_astoreN (pc' := 8) (lv' := [.ref _, .int _, .int _, .int _, .int _, .null]) dX11_second_6 rfl (Nat.le_of_ble_eq_true rfl) rfl rfl ?_
          refine Go_aloadN (pc' := 10) dX11_second_8 rfl rfl ?_
          refine Go_ifnullN (tgt := 27) dX11_second_10 (by decide) ?_
          refine Go_iconst (v := iZ 0) (pc' := 28) dX11_second_27 rfl (by decide) ?_
          refine Go_ireturn (ty := .boolean) dX11_second_28 rfl rfl ?_
          exact k
        · refine Go_iload_n (pc' := 5) dX5_reading_4 rfl rfl rfl ?_
          refine Go_aload_n (pc' := 6) dX5_reading_5 rfl rfl rfl ?_
          refine Go_getRs (pc' := 9) dX5_reading_6 rfl kf_RX5_11 (by decide) (by decide) rfl QS.b QS.o QS.r0 ?_
          refine Go_alenZ (n := 6) (pc' := 10) dX5_reading_9 rfl QS.b1 QS.k1 (Or.inr (Or.inr ⟨_, rfl⟩)) ?_
          refine Go_icmp_geY (tgt := 22) (pc' := 13) dX5_reading_10 (by decide) rfl (by first | exact ⟨i_lo _, i_hi _⟩ | omega) (by first | exact ⟨i_lo _, i_hi _⟩ | omega) (fun r10 => ?_) (fun r10 => ?_)
          · refine Go_null (pc' := 23) dX5_reading_22 rfl ?_
            refine Go_areturn (r := none) dX5_reading_23 rfl ?_
            refine ⟨none, rfl, ?_⟩
            refine Go_areturn (r := none) dX11_readingOf_19 rfl ?_
            refine ⟨none, rfl, ?_⟩
            refine Go_astoreN (pc' := 8) (lv' := [.ref _, .int _, .int _, .int _, .int _, .null]) dX11_second_6 rfl (Nat.le_of_ble_eq_true rfl) rfl rfl ?_
            refine Go_aloadN (pc' := 10) dX11_second_8 rfl rfl ?_
            refine Go_ifnullN (tgt := 27) dX11_second_10 (by decide) ?_
            refine Go_iconst (v := iZ 0) (pc' := 28) dX11_second_27 rfl (by decide) ?_
            refine Go_ireturn (ty := .boolean) dX11_second_28 rfl rfl ?_
            exact k
          · exfalso; omega
      · show Go G 60 0 0 M_X12_second 0 [.ref 99, .int (iZ (q : Int)), .int (iZ Bz), .int (iZ Cz), .int (iZ Ez), un] [] h K
        refine Go_aload_n (pc' := 1) dX12_second_0 rfl rfl rfl ?_
        refine Go_iload_n (pc' := 2) dX12_second_1 rfl rfl rfl ?_
        refine Go_iload_n (pc' := 3) dX12_second_2 rfl rfl rfl ?_
        refine Go_callV_i (pc' := 6) (As := [.int _, .int _]) (st := []) dX12_second_3 rfl ok_X12_isReading km_RX12_346 (I.S.o 99 rfl rfl rfl) (I.S.b 99 rfl rfl) ⟨_, _, rfl⟩ rfl (Nat.le_of_ble_eq_true rfl) rfl rfl rfl (Nat.le_of_ble_eq_true rfl) (Nat.lt_succ_self _) ?_
        refine Go_aload_n (pc' := 1) dX12_isReading_0 rfl rfl rfl ?_
        refine Go_iload_n (pc' := 2) dX12_isReading_1 rfl rfl rfl ?_
        refine Go_callV_i (pc' := 5) (As := [.int _]) (st := []) dX12_isReading_2 rfl ok_X12_isQuake km_RX12_340 (I.S.o 99 rfl rfl rfl) (I.S.b 99 rfl rfl) ⟨_, _, rfl⟩ rfl (Nat.le_of_ble_eq_true rfl) rfl rfl rfl (Nat.le_of_ble_eq_true rfl) (Nat.lt_succ_self _) ?_
        refine Go_iload_n (pc' := 1) dX12_isQuake_0 rfl rfl rfl ?_
        refine Go_iconst (v := iZ 0) (pc' := 2) dX12_isQuake_1 rfl (by decide) ?_
        refine Go_aload_n (pc' := 3) dX12_isQuake_2 rfl rfl rfl ?_
        refine Go_getIv (v := (iZ (nq : Int))) (pc' := 6) dX12_isQuake_3 rfl kf_RX12_336 (by decide) (by decide) rfl (I.S.b 99 rfl rfl) (I.S.o 99 rfl rfl rfl) (eq38) ?_
        refine Go_iconst (v := iZ 1) (pc' := 7) dX12_isQuake_6 rfl (by decide) ?_
        refine Go_isubZ (pc' := 8) dX12_isQuake_7 rfl ?_
        refine Go_callS_i (pc' := 11) (As := [.int _, .int _, .int _]) (st := []) dX12_isQuake_8 rfl ok_X12_isIn km_RX12_147 rfl (Nat.le_of_ble_eq_true rfl) rfl rfl rfl (Nat.le_of_ble_eq_true rfl) (Nat.lt_succ_self _) ?_
        refine s_isInY (by first | exact ⟨i_lo _, i_hi _⟩ | omega) (by first | exact ⟨i_lo _, i_hi _⟩ | omega) (by first | exact ⟨i_lo _, i_hi _⟩ | omega) ?_
        refine ⟨_, rfl, ?_⟩
        refine Go_ireturn (ty := .boolean) dX12_isQuake_11 rfl b2i_nb ?_
        refine ⟨_, rfl, ?_⟩
        refine Go_if_eqb (tgt := 34) (pc' := 8) dX12_isReading_5 (by decide) rfl (fun o5 => by exfalso; omega) (fun o5 => ?_)
        refine Go_aload_n (pc' := 9) dX12_isReading_8 rfl rfl rfl ?_
        refine Go_iload_n (pc' := 10) dX12_isReading_9 rfl rfl rfl ?_
        refine Go_callV_i (pc' := 13) (As := [.int _]) (st := []) dX12_isReading_10 rfl ok_X12_isCellar km_RX12_158 (I.S.o 99 rfl rfl rfl) (I.S.b 99 rfl rfl) ⟨_, _, rfl⟩ rfl (Nat.le_of_ble_eq_true rfl) rfl rfl rfl (Nat.le_of_ble_eq_true rfl) (Nat.lt_succ_self _) ?_
        refine Go_iload_n (pc' := 1) dX12_isCellar_0 rfl rfl rfl ?_
        refine Go_iconst (v := iZ 0) (pc' := 2) dX12_isCellar_1 rfl (by decide) ?_
        refine Go_aload_n (pc' := 3) dX12_isCellar_2 rfl rfl rfl ?_
        refine Go_getIv (v := (iZ (nc : Int))) (pc' := 6) dX12_isCellar_3 rfl kf_RX12_151 (by decide) (by decide) rfl (I.S.b 99 rfl rfl) (I.S.o 99 rfl rfl rfl) (ec0) ?_
        refine Go_iconst (v := iZ 1) (pc' := 7) dX12_isCellar_6 rfl (by decide) ?_
        refine Go_isubZ (pc' := 8) dX12_isCellar_7 rfl ?_
        refine Go_callS_i (pc' := 11) (As := [.int _, .int _, .int _]) (st := []) dX12_isCellar_8 rfl ok_X12_isIn km_RX12_147 rfl (Nat.le_of_ble_eq_true rfl) rfl rfl rfl (Nat.le_of_ble_eq_true rfl) (Nat.lt_succ_self _) ?_
        refine s_isInY (by first | exact ⟨i_lo _, i_hi _⟩ | omega) (by first | exact ⟨i_lo _, i_hi _⟩ | omega) (by first | exact ⟨i_lo _, i_hi _⟩ | omega) ?_
        refine ⟨_, rfl, ?_⟩
        refine Go_ireturn (ty := .boolean) dX12_isCellar_11 rfl b2i_nb ?_
        refine ⟨_, rfl, ?_⟩
        refine Go_if_eqb (tgt := 34) (pc' := 16) dX12_isReading_13 (by decide) rfl (fun o13 => ?_) (fun o13 => by exfalso; omega)
        refine Go_iconst (v := iZ 0) (pc' := 35) dX12_isReading_34 rfl (by decide) ?_
        refine Go_ireturn (ty := .boolean) dX12_isReading_35 rfl rfl ?_
        refine ⟨_, rfl, ?_⟩
        refine Go_if_eqY (tgt := 23) (pc' := 9) dX12_second_6 (by decide) rfl (by first | exact ⟨i_lo _, i_hi _⟩ | omega) (fun c6 => ?_) (fun c6 => by exfalso; omega)
        refine Go_iconst (v := iZ 0) (pc' := 24) dX12_second_23 rfl (by decide) ?_
        refine Go_ireturn (ty := .boolean) dX12_second_24 rfl rfl ?_
        exact k
    · refine PairI.ro' (fun _ => iZ 0) h I (fun K k => ?_) (fun K k => ?_)
      · show Go G 60 0 0 M_X11_second 0 [.ref 64, .int (iZ (q : Int)), .int (iZ (c : Int)), .int (iZ Cz), .int (iZ Ez), un] [] h K
        refine Go_aload_n (pc' := 1) dX11_second_0 rfl rfl rfl ?_
        refine Go_iload_n (pc' := 2) dX11_second_1 rfl rfl rfl ?_
        refine Go_iload_n (pc' := 3) dX11_second_2 rfl rfl rfl ?_
        refine Go_callV_r (pc' := 6) (As := [.int _, .int _]) (st := []) dX11_second_3 rfl ok_X11_readingOf km_RX11_241 (I.S.o 64 rfl rfl rfl) (I.S.b 64 rfl rfl) ⟨_, _, rfl⟩ rfl (Nat.le_of_ble_eq_true rfl) rfl rfl rfl (Nat.le_of_ble_eq_true rfl) (Nat.lt_succ_self _) ?_
        refine Go_aload_n (pc' := 1) dX11_readingOf_0 rfl rfl rfl ?_
        refine Go_iload_n (pc' := 2) dX11_readingOf_1 rfl rfl rfl ?_
        refine Go_callV_r (pc' := 5) (As := [.int _]) (st := []) dX11_readingOf_2 rfl ok_X11_quakeOf km_RX11_230 (I.S.o 64 rfl rfl rfl) (I.S.b 64 rfl rfl) ⟨_, _, rfl⟩ rfl (Nat.le_of_ble_eq_true rfl) rfl rfl rfl (Nat.le_of_ble_eq_true rfl) (Nat.lt_succ_self _) ?_
        refine Go_iload_n (pc' := 1) dX11_quakeOf_0 rfl rfl rfl ?_
        refine Go_iconst (v := iZ 0) (pc' := 2) dX11_quakeOf_1 rfl (by decide) ?_
        refine Go_aload_n (pc' := 3) dX11_quakeOf_2 rfl rfl rfl ?_
        refine Go_getIv (v := (iZ (nq : Int))) (pc' := 6) dX11_quakeOf_3 rfl kf_RX11_226 (by decide) (by decide) rfl (I.S.b 64 rfl rfl) (I.S.o 64 rfl rfl rfl) (eq7) ?_
        refine Go_iconst (v := iZ 1) (pc' := 7) dX11_quakeOf_6 rfl (by decide) ?_
        refine Go_isubZ (pc' := 8) dX11_quakeOf_7 rfl ?_
        refine Go_callS_i (pc' := 11) (As := [.int _, .int _, .int _]) (st := []) dX11_quakeOf_8 rfl ok_X11_within km_RX11_94 rfl (Nat.le_of_ble_eq_true rfl) rfl rfl rfl (Nat.le_of_ble_eq_true rfl) (Nat.lt_succ_self _) ?_
        refine s_withinY (by first | exact ⟨i_lo _, i_hi _⟩ | omega) (by first | exact ⟨i_lo _, i_hi _⟩ | omega) (by first | exact ⟨i_lo _, i_hi _⟩ | omega) ?_
        refine ⟨_, rfl, ?_⟩
        refine Go_if_eqb (tgt := 32) (pc' := 14) dX11_quakeOf_11 (by decide) rfl (fun q11 => by exfalso; omega) (fun q11 => ?_)
        refine Go_iload_n (pc' := 15) dX11_quakeOf_14 rfl rfl rfl ?_
        refine Go_aload_n (pc' := 16) dX11_quakeOf_15 rfl rfl rfl ?_
        refine Go_getRs (pc' := 19) dX11_quakeOf_16 rfl kf_RX11_45 (by decide) (by decide) rfl (I.S.b 64 rfl rfl) (I.S.o 64 rfl rfl rfl) (I.S.r 64 6 rfl rfl rfl) ?_
        refine Go_alenZ (n := 16) (pc' := 20) dX11_quakeOf_19 rfl (I.S.b 80 rfl rfl) (I.S.k 80 rfl rfl rfl) (Or.inr (Or.inr ⟨_, rfl⟩)) ?_
        refine Go_icmp_geY (tgt := 32) (pc' := 23) dX11_quakeOf_20 (by decide) rfl (by first | exact ⟨i_lo _, i_hi _⟩ | omega) (by first | exact ⟨i_lo _, i_hi _⟩ | omega) (fun q20 => by exfalso; omega) (fun q20 => ?_)
        refine Go_aload_n (pc' := 24) dX11_quakeOf_23 rfl rfl rfl ?_
        refine Go_getRs (pc' := 27) dX11_quakeOf_24 rfl kf_RX11_45 (by decide) (by decide) rfl (I.S.b 64 rfl rfl) (I.S.o 64 rfl rfl rfl) (I.S.r 64 6 rfl rfl rfl) ?_
        refine Go_iload_n (pc' := 28) dX11_quakeOf_27 rfl rfl rfl ?_
        refine Go_aaloadZ (n := 16) (k := q) (pc' := 29) dX11_quakeOf_28 rfl (I.S.b 80 rfl rfl) (I.S.k 80 rfl rfl rfl) rfl rfl (by omega) (by decide) hu ?_
        refine Go_goto (tgt := 33) dX11_quakeOf_29 (by decide) ?_
        refine Go_areturn (r := some _) dX11_quakeOf_33 rfl ?_
        refine ⟨some _, rfl, ?_⟩
        refine Go_astore_n (pc' := 6) (lv' := [.ref _, .int _, .int _, .ref _]) dX11_readingOf_5 rfl rfl (Nat.le_of_ble_eq_true rfl) rfl rfl ?_
        refine Go_aload_n (pc' := 7) dX11_readingOf_6 rfl rfl rfl ?_
        refine Go_ifnonnull (tgt := 14) dX11_readingOf_7 (by decide) ?_
        refine Go_aload_n (pc' := 15) dX11_readingOf_14 rfl rfl rfl ?_
        refine Go_iload_n (pc' := 16) dX11_readingOf_15 rfl rfl rfl ?_
        refine Go_callV_r (pc' := 19) (As := [.int _]) (st := []) dX11_readingOf_16 rfl ok_X5_reading km_RX11_271 QS.o QS.b ⟨_, _, rfl⟩ rfl (Nat.le_of_ble_eq_true rfl) rfl rfl rfl (Nat.le_of_ble_eq_true rfl) (Nat.lt_succ_self _) ?_
        refine Go_iload_n (pc' := 1) dX5_reading_0 rfl rfl rfl ?_
        refine Go_if_ltY (tgt := 22) (pc' := 4) dX5_reading_1 (by decide) rfl (by first | exact ⟨i_lo _, i_hi _⟩ | omega) (fun r1 => by exfalso; omega) (fun r1 => ?_)
        refine Go_iload_n (pc' := 5) dX5_reading_4 rfl rfl rfl ?_
        refine Go_aload_n (pc' := 6) dX5_reading_5 rfl rfl rfl ?_
        refine Go_getRs (pc' := 9) dX5_reading_6 rfl kf_RX5_11 (by decide) (by decide) rfl QS.b QS.o QS.r0 ?_
        refine Go_alenZ (n := 6) (pc' := 10) dX5_reading_9 rfl QS.b1 QS.k1 (Or.inr (Or.inr ⟨_, rfl⟩)) ?_
        refine Go_icmp_geY (tgt := 22) (pc' := 13) dX5_reading_10 (by decide) rfl (by first | exact ⟨i_lo _, i_hi _⟩ | omega) (by first | exact ⟨i_lo _, i_hi _⟩ | omega) (fun r10 => by exfalso; omega) (fun r10 => ?_)
        refine Go_aload_n (pc' := 14) dX5_reading_13 rfl rfl rfl ?_
        refine Go_getRs (pc' := 17) dX5_reading_14 rfl kf_RX5_11 (by decide) (by decide) rfl QS.b QS.o QS.r0 ?_
        refine Go_iload_n (pc' := 18) dX5_reading_17 rfl rfl rfl ?_
        refine Go_aaloadNZ (n := 6) (k := c) (pc' := 19) dX5_reading_18 rfl QS.b1 QS.k1 rfl rfl (by omega) (by decide) hw ?_
        refine Go_goto (tgt := 23) dX5_reading_19 (by decide) ?_
        refine Go_areturn (r := none) dX5_reading_23 rfl ?_
        refine ⟨none, rfl, ?_⟩
        refine Go_areturn (r := none) dX11_readingOf_19 rfl ?_
        refine ⟨none, rfl, ?_⟩
        refine Go_astoreN (pc' := 8) (lv' := [.ref _, .int _, .int _, .int _, .int _, .null]) dX11_second_6 rfl (Nat.le_of_ble_eq_true rfl) rfl rfl ?_
        refine Go_aloadN (pc' := 10) dX11_second_8 rfl rfl ?_
        refine Go_ifnullN (tgt := 27) dX11_second_10 (by decide) ?_
        refine Go_iconst (v := iZ 0) (pc' := 28) dX11_second_27 rfl (by decide) ?_
        refine Go_ireturn (ty := .boolean) dX11_second_28 rfl rfl ?_
        exact k
      · show Go G 60 0 0 M_X12_second 0 [.ref 99, .int (iZ (q : Int)), .int (iZ (c : Int)), .int (iZ Cz), .int (iZ Ez), un] [] h K
        refine Go_aload_n (pc' := 1) dX12_second_0 rfl rfl rfl ?_
        refine Go_iload_n (pc' := 2) dX12_second_1 rfl rfl rfl ?_
        refine Go_iload_n (pc' := 3) dX12_second_2 rfl rfl rfl ?_
        refine Go_callV_i (pc' := 6) (As := [.int _, .int _]) (st := []) dX12_second_3 rfl ok_X12_isReading km_RX12_346 (I.S.o 99 rfl rfl rfl) (I.S.b 99 rfl rfl) ⟨_, _, rfl⟩ rfl (Nat.le_of_ble_eq_true rfl) rfl rfl rfl (Nat.le_of_ble_eq_true rfl) (Nat.lt_succ_self _) ?_
        refine Go_aload_n (pc' := 1) dX12_isReading_0 rfl rfl rfl ?_
        refine Go_iload_n (pc' := 2) dX12_isReading_1 rfl rfl rfl ?_
        refine Go_callV_i (pc' := 5) (As := [.int _]) (st := []) dX12_isReading_2 rfl ok_X12_isQuake km_RX12_340 (I.S.o 99 rfl rfl rfl) (I.S.b 99 rfl rfl) ⟨_, _, rfl⟩ rfl (Nat.le_of_ble_eq_true rfl) rfl rfl rfl (Nat.le_of_ble_eq_true rfl) (Nat.lt_succ_self _) ?_
        refine Go_iload_n (pc' := 1) dX12_isQuake_0 rfl rfl rfl ?_
        refine Go_iconst (v := iZ 0) (pc' := 2) dX12_isQuake_1 rfl (by decide) ?_
        refine Go_aload_n (pc' := 3) dX12_isQuake_2 rfl rfl rfl ?_
        refine Go_getIv (v := (iZ (nq : Int))) (pc' := 6) dX12_isQuake_3 rfl kf_RX12_336 (by decide) (by decide) rfl (I.S.b 99 rfl rfl) (I.S.o 99 rfl rfl rfl) (eq38) ?_
        refine Go_iconst (v := iZ 1) (pc' := 7) dX12_isQuake_6 rfl (by decide) ?_
        refine Go_isubZ (pc' := 8) dX12_isQuake_7 rfl ?_
        refine Go_callS_i (pc' := 11) (As := [.int _, .int _, .int _]) (st := []) dX12_isQuake_8 rfl ok_X12_isIn km_RX12_147 rfl (Nat.le_of_ble_eq_true rfl) rfl rfl rfl (Nat.le_of_ble_eq_true rfl) (Nat.lt_succ_self _) ?_
        refine s_isInY (by first | exact ⟨i_lo _, i_hi _⟩ | omega) (by first | exact ⟨i_lo _, i_hi _⟩ | omega) (by first | exact ⟨i_lo _, i_hi _⟩ | omega) ?_
        refine ⟨_, rfl, ?_⟩
        refine Go_ireturn (ty := .boolean) dX12_isQuake_11 rfl b2i_nb ?_
        refine ⟨_, rfl, ?_⟩
        refine Go_if_eqb (tgt := 34) (pc' := 8) dX12_isReading_5 (by decide) rfl (fun o5 => by exfalso; omega) (fun o5 => ?_)
        refine Go_aload_n (pc' := 9) dX12_isReading_8 rfl rfl rfl ?_
        refine Go_iload_n (pc' := 10) dX12_isReading_9 rfl rfl rfl ?_
        refine Go_callV_i (pc' := 13) (As := [.int _]) (st := []) dX12_isReading_10 rfl ok_X12_isCellar km_RX12_158 (I.S.o 99 rfl rfl rfl) (I.S.b 99 rfl rfl) ⟨_, _, rfl⟩ rfl (Nat.le_of_ble_eq_true rfl) rfl rfl rfl (Nat.le_of_ble_eq_true rfl) (Nat.lt_succ_self _) ?_
        refine Go_iload_n (pc' := 1) dX12_isCellar_0 rfl rfl rfl ?_
        refine Go_iconst (v := iZ 0) (pc' := 2) dX12_isCellar_1 rfl (by decide) ?_
        refine Go_aload_n (pc' := 3) dX12_isCellar_2 rfl rfl rfl ?_
        refine Go_getIv (v := (iZ (nc : Int))) (pc' := 6) dX12_isCellar_3 rfl kf_RX12_151 (by decide) (by decide) rfl (I.S.b 99 rfl rfl) (I.S.o 99 rfl rfl rfl) (ec0) ?_
        refine Go_iconst (v := iZ 1) (pc' := 7) dX12_isCellar_6 rfl (by decide) ?_
        refine Go_isubZ (pc' := 8) dX12_isCellar_7 rfl ?_
        refine Go_callS_i (pc' := 11) (As := [.int _, .int _, .int _]) (st := []) dX12_isCellar_8 rfl ok_X12_isIn km_RX12_147 rfl (Nat.le_of_ble_eq_true rfl) rfl rfl rfl (Nat.le_of_ble_eq_true rfl) (Nat.lt_succ_self _) ?_
        refine s_isInY (by first | exact ⟨i_lo _, i_hi _⟩ | omega) (by first | exact ⟨i_lo _, i_hi _⟩ | omega) (by first | exact ⟨i_lo _, i_hi _⟩ | omega) ?_
        refine ⟨_, rfl, ?_⟩
        refine Go_ireturn (ty := .boolean) dX12_isCellar_11 rfl b2i_nb ?_
        refine ⟨_, rfl, ?_⟩
        refine Go_if_eqb (tgt := 34) (pc' := 16) dX12_isReading_13 (by decide) rfl (fun o13 => ?_) (fun o13 => ?_)
        · refine Go_iconst (v := iZ 0) (pc' := 35) dX12_isReading_34 rfl (by decide) ?_
          refine Go_ireturn (ty := .boolean) dX12_isReading_35 rfl rfl ?_
          refine ⟨_, rfl, ?_⟩
          refine Go_if_eqY (tgt := 23) (pc' := 9) dX12_second_6 (by decide) rfl (by first | exact ⟨i_lo _, i_hi _⟩ | omega) (fun c6 => ?_) (fun c6 => by exfalso; omega)
          refine Go_iconst (v := iZ 0) (pc' := 24) dX12_second_23 rfl (by decide) ?_
          refine Go_ireturn (ty := .boolean) dX12_second_24 rfl rfl ?_
          exact k
        · refine Go_aload_n (pc' := 17) dX12_isReading_16 rfl rfl rfl ?_
          refine Go_getRs (pc' := 20) dX12_isReading_17 rfl kf_RX12_92 (by decide) (by decide) rfl (I.S.b 99 rfl rfl) (I.S.o 99 rfl rfl rfl) (I.S.r 99 41 rfl rfl rfl) ?_
          refine Go_bipush (v := iZ 6) (pc' := 22) dX12_isReading_20 rfl (by decide) ?_
          refine Go_iload_n (pc' := 23) dX12_isReading_22 rfl rfl rfl ?_
          refine Go_imulZ (pc' := 24) dX12_isReading_23 rfl ?_
          refine Go_iload_n (pc' := 25) dX12_isReading_24 rfl rfl rfl ?_
          refine Go_iaddZ (pc' := 26) dX12_isReading_25 rfl ?_
          refine Go_baloadZ (n := 96) (k := (6 * q + c)) (v := (iZ 0)) (pc' := 27) dX12_isReading_26 rfl (I.S.b 124 rfl rfl) (I.S.k 124 rfl rfl rfl) (by omega) (by omega) (by decide) (h0) ?_
          refine Go_if_eqY (tgt := 34) (pc' := 30) dX12_isReading_27 (by decide) rfl (by first | exact ⟨i_lo _, i_hi _⟩ | omega) (fun o27 => ?_) (fun o27 => by exfalso; omega)
          refine Go_iconst (v := iZ 0) (pc' := 35) dX12_isReading_34 rfl (by decide) ?_
          refine Go_ireturn (ty := .boolean) dX12_isReading_35 rfl rfl ?_
          refine ⟨_, rfl, ?_⟩
          refine Go_if_eqY (tgt := 23) (pc' := 9) dX12_second_6 (by decide) rfl (by first | exact ⟨i_lo _, i_hi _⟩ | omega) (fun c6 => ?_) (fun c6 => by exfalso; omega)
          refine Go_iconst (v := iZ 0) (pc' := 24) dX12_second_23 rfl (by decide) ?_
          refine Go_ireturn (ty := .boolean) dX12_second_24 rfl rfl ?_
          exact k
    · have hw0 := RS.1
      by_cases cm : Cz = -1
      · subst cm
        refine ⟨fun r h1 => r = iZ 1 ∧ h1 = (wI (wI h w 2 (iZ (-1))) w 3 (iZ Ez)), fun K k => ?_, ?_⟩
        · refine Go.more (d := 60) (mc := 0) (ms := 0) ?_ (by omega) (by omega) (by omega)
          show Go G 60 0 0 M_X11_second 0 [.ref 64, .int (iZ (q : Int)), .int (iZ (c : Int)), .int (iZ (-1)), .int (iZ Ez), un] [] h K
          refine Go_aload_n (pc' := 1) dX11_second_0 rfl rfl rfl ?_
          refine Go_iload_n (pc' := 2) dX11_second_1 rfl rfl rfl ?_
          refine Go_iload_n (pc' := 3) dX11_second_2 rfl rfl rfl ?_
          refine Go_callV_r (pc' := 6) (As := [.int _, .int _]) (st := []) dX11_second_3 rfl ok_X11_readingOf km_RX11_241 (I.S.o 64 rfl rfl rfl) (I.S.b 64 rfl rfl) ⟨_, _, rfl⟩ rfl (Nat.le_of_ble_eq_true rfl) rfl rfl rfl (Nat.le_of_ble_eq_true rfl) (Nat.lt_succ_self _) ?_
          refine Go_aload_n (pc' := 1) dX11_readingOf_0 rfl rfl rfl ?_
          refine Go_iload_n (pc' := 2) dX11_readingOf_1 rfl rfl rfl ?_
          refine Go_callV_r (pc' := 5) (As := [.int _]) (st := []) dX11_readingOf_2 rfl ok_X11_quakeOf km_RX11_230 (I.S.o 64 rfl rfl rfl) (I.S.b 64 rfl rfl) ⟨_, _, rfl⟩ rfl (Nat.le_of_ble_eq_true rfl) rfl rfl rfl (Nat.le_of_ble_eq_true rfl) (Nat.lt_succ_self _) ?_
          refine Go_iload_n (pc' := 1) dX11_quakeOf_0 rfl rfl rfl ?_
          refine Go_iconst (v := iZ 0) (pc' := 2) dX11_quakeOf_1 rfl (by decide) ?_
          refine Go_aload_n (pc' := 3) dX11_quakeOf_2 rfl rfl rfl ?_
          refine Go_getIv (v := (iZ (nq : Int))) (pc' := 6) dX11_quakeOf_3 rfl kf_RX11_226 (by decide) (by decide) rfl (I.S.b 64 rfl rfl) (I.S.o 64 rfl rfl rfl) (eq7) ?_
          refine Go_iconst (v := iZ 1) (pc' := 7) dX11_quakeOf_6 rfl (by decide) ?_
          refine Go_isubZ (pc' := 8) dX11_quakeOf_7 rfl ?_
          refine Go_callS_i (pc' := 11) (As := [.int _, .int _, .int _]) (st := []) dX11_quakeOf_8 rfl ok_X11_within km_RX11_94 rfl (Nat.le_of_ble_eq_true rfl) rfl rfl rfl (Nat.le_of_ble_eq_true rfl) (Nat.lt_succ_self _) ?_
          refine s_withinY (by first | exact ⟨i_lo _, i_hi _⟩ | omega) (by first | exact ⟨i_lo _, i_hi _⟩ | omega) (by first | exact ⟨i_lo _, i_hi _⟩ | omega) ?_
          refine ⟨_, rfl, ?_⟩
          refine Go_if_eqb (tgt := 32) (pc' := 14) dX11_quakeOf_11 (by decide) rfl (fun q11 => by exfalso; omega) (fun q11 => ?_)
          refine Go_iload_n (pc' := 15) dX11_quakeOf_14 rfl rfl rfl ?_
          refine Go_aload_n (pc' := 16) dX11_quakeOf_15 rfl rfl rfl ?_
          refine Go_getRs (pc' := 19) dX11_quakeOf_16 rfl kf_RX11_45 (by decide) (by decide) rfl (I.S.b 64 rfl rfl) (I.S.o 64 rfl rfl rfl) (I.S.r 64 6 rfl rfl rfl) ?_
          refine Go_alenZ (n := 16) (pc' := 20) dX11_quakeOf_19 rfl (I.S.b 80 rfl rfl) (I.S.k 80 rfl rfl rfl) (Or.inr (Or.inr ⟨_, rfl⟩)) ?_
          refine Go_icmp_geY (tgt := 32) (pc' := 23) dX11_quakeOf_20 (by decide) rfl (by first | exact ⟨i_lo _, i_hi _⟩ | omega) (by first | exact ⟨i_lo _, i_hi _⟩ | omega) (fun q20 => by exfalso; omega) (fun q20 => ?_)
          refine Go_aload_n (pc' := 24) dX11_quakeOf_23 rfl rfl rfl ?_
          refine Go_getRs (pc' := 27) dX11_quakeOf_24 rfl kf_RX11_45 (by decide) (by decide) rfl (I.S.b 64 rfl rfl) (I.S.o 64 rfl rfl rfl) (I.S.r 64 6 rfl rfl rfl) ?_
          refine Go_iload_n (pc' := 28) dX11_quakeOf_27 rfl rfl rfl ?_
          refine Go_aaloadZ (n := 16) (k := q) (pc' := 29) dX11_quakeOf_28 rfl (I.S.b 80 rfl rfl) (I.S.k 80 rfl rfl rfl) rfl rfl (by omega) (by decide) hu ?_
          refine Go_goto (tgt := 33) dX11_quakeOf_29 (by decide) ?_
          refine Go_areturn (r := some _) dX11_quakeOf_33 rfl ?_
          refine ⟨some _, rfl, ?_⟩
          refine Go_astore_n (pc' := 6) (lv' := [.ref _, .int _, .int _, .ref _]) dX11_readingOf_5 rfl rfl (Nat.le_of_ble_eq_true rfl) rfl rfl ?_
          refine Go_aload_n (pc' := 7) dX11_readingOf_6 rfl rfl rfl ?_
          refine Go_ifnonnull (tgt := 14) dX11_readingOf_7 (by decide) ?_
          refine Go_aload_n (pc' := 15) dX11_readingOf_14 rfl rfl rfl ?_
          refine Go_iload_n (pc' := 16) dX11_readingOf_15 rfl rfl rfl ?_
          refine Go_callV_r (pc' := 19) (As := [.int _]) (st := []) dX11_readingOf_16 rfl ok_X5_reading km_RX11_271 QS.o QS.b ⟨_, _, rfl⟩ rfl (Nat.le_of_ble_eq_true rfl) rfl rfl rfl (Nat.le_of_ble_eq_true rfl) (Nat.lt_succ_self _) ?_
          refine Go_iload_n (pc' := 1) dX5_reading_0 rfl rfl rfl ?_
          refine Go_if_ltY (tgt := 22) (pc' := 4) dX5_reading_1 (by decide) rfl (by first | exact ⟨i_lo _, i_hi _⟩ | omega) (fun r1 => by exfalso; omega) (fun r1 => ?_)
          refine Go_iload_n (pc' := 5) dX5_reading_4 rfl rfl rfl ?_
          refine Go_aload_n (pc' := 6) dX5_reading_5 rfl rfl rfl ?_
          refine Go_getRs (pc' := 9) dX5_reading_6 rfl kf_RX5_11 (by decide) (by decide) rfl QS.b QS.o QS.r0 ?_
          refine Go_alenZ (n := 6) (pc' := 10) dX5_reading_9 rfl QS.b1 QS.k1 (Or.inr (Or.inr ⟨_, rfl⟩)) ?_
          refine Go_icmp_geY (tgt := 22) (pc' := 13) dX5_reading_10 (by decide) rfl (by first | exact ⟨i_lo _, i_hi _⟩ | omega) (by first | exact ⟨i_lo _, i_hi _⟩ | omega) (fun r10 => by exfalso; omega) (fun r10 => ?_)
          refine Go_aload_n (pc' := 14) dX5_reading_13 rfl rfl rfl ?_
          refine Go_getRs (pc' := 17) dX5_reading_14 rfl kf_RX5_11 (by decide) (by decide) rfl QS.b QS.o QS.r0 ?_
          refine Go_iload_n (pc' := 18) dX5_reading_17 rfl rfl rfl ?_
          refine Go_aaloadZ (n := 6) (k := c) (pc' := 19) dX5_reading_18 rfl QS.b1 QS.k1 rfl rfl (by omega) (by decide) hw ?_
          refine Go_goto (tgt := 23) dX5_reading_19 (by decide) ?_
          refine Go_areturn (r := some _) dX5_reading_23 rfl ?_
          refine ⟨some _, rfl, ?_⟩
          refine Go_areturn (r := some _) dX11_readingOf_19 rfl ?_
          refine ⟨some _, rfl, ?_⟩
          refine Go_astore (pc' := 8) (lv' := [.ref _, .int _, .int _, .int _, .int _, .ref _]) dX11_second_6 rfl (Nat.le_of_ble_eq_true rfl) rfl rfl ?_
          refine Go_aload (pc' := 10) dX11_second_8 rfl rfl ?_
          refine Go_ifnull (pc' := 13) dX11_second_10 rfl ?_
          refine Go_iload_n (pc' := 14) dX11_second_13 rfl rfl rfl ?_
          refine Go_iconst (v := iZ (-1)) (pc' := 15) dX11_second_14 rfl (by decide) ?_
          refine Go_icmp_eqY (tgt := 29) (pc' := 18) dX11_second_15 (by decide) rfl (by first | exact ⟨i_lo _, i_hi _⟩ | omega) (by first | exact ⟨i_lo _, i_hi _⟩ | omega) (fun c15 => ?_) (fun c15 => by exfalso; omega)
          refine Go_aload (pc' := 31) dX11_second_29 rfl rfl ?_
          refine Go_iload_n (pc' := 32) dX11_second_31 rfl rfl rfl ?_
          refine Go_putI (pc' := 35) dX11_second_32 rfl kf_RX11_245 (by decide) (by decide) rfl RS.b RS.o (Or.inl rfl) rfl rfl ?_
          refine Go_aload (pc' := 37) dX11_second_35 rfl rfl ?_
          refine Go_iload (pc' := 39) dX11_second_37 rfl rfl ?_
          refine Go_putI (pc' := 42) dX11_second_39 rfl kf_RX11_250 (by decide) (by decide) rfl RS.b RS.o (Or.inl rfl) rfl rfl ?_
          refine Go_iconst (v := iZ 1) (pc' := 43) dX11_second_42 rfl (by decide) ?_
          refine Go_ireturn (ty := .boolean) dX11_second_43 rfl rfl ?_
          exact k _ _ ⟨rfl, rfl⟩ I.S
        · rintro r h1 ⟨rfl, rfl⟩ K k
          show Go G 60 0 0 M_X12_second 0 [.ref 99, .int (iZ (q : Int)), .int (iZ (c : Int)), .int (iZ (-1)), .int (iZ Ez), un] [] (wI (wI h w 2 (iZ (-1))) w 3 (iZ Ez)) K
          refine Go_aload_n (pc' := 1) dX12_second_0 rfl rfl rfl ?_
          refine Go_iload_n (pc' := 2) dX12_second_1 rfl rfl rfl ?_
          refine Go_iload_n (pc' := 3) dX12_second_2 rfl rfl rfl ?_
          refine Go_callV_i (pc' := 6) (As := [.int _, .int _]) (st := []) dX12_second_3 rfl ok_X12_isReading km_RX12_346 (I.S.o 99 rfl rfl rfl) (I.S.b 99 rfl rfl) ⟨_, _, rfl⟩ rfl (Nat.le_of_ble_eq_true rfl) rfl rfl rfl (Nat.le_of_ble_eq_true rfl) (Nat.lt_succ_self _) ?_
          refine Go_aload_n (pc' := 1) dX12_isReading_0 rfl rfl rfl ?_
          refine Go_iload_n (pc' := 2) dX12_isReading_1 rfl rfl rfl ?_
          refine Go_callV_i (pc' := 5) (As := [.int _]) (st := []) dX12_isReading_2 rfl ok_X12_isQuake km_RX12_340 (I.S.o 99 rfl rfl rfl) (I.S.b 99 rfl rfl) ⟨_, _, rfl⟩ rfl (Nat.le_of_ble_eq_true rfl) rfl rfl rfl (Nat.le_of_ble_eq_true rfl) (Nat.lt_succ_self _) ?_
          refine Go_iload_n (pc' := 1) dX12_isQuake_0 rfl rfl rfl ?_
          refine Go_iconst (v := iZ 0) (pc' := 2) dX12_isQuake_1 rfl (by decide) ?_
          refine Go_aload_n (pc' := 3) dX12_isQuake_2 rfl rfl rfl ?_
          refine Go_getIv (v := (iZ (nq : Int))) (pc' := 6) dX12_isQuake_3 rfl kf_RX12_336 (by decide) (by decide) rfl (I.S.b 99 rfl rfl) (I.S.o 99 rfl rfl rfl) ((vi_skip (Or.inl (by omega))).trans ((vi_skip (Or.inl (by omega))).trans (eq38))) ?_
          refine Go_iconst (v := iZ 1) (pc' := 7) dX12_isQuake_6 rfl (by decide) ?_
          refine Go_isubZ (pc' := 8) dX12_isQuake_7 rfl ?_
          refine Go_callS_i (pc' := 11) (As := [.int _, .int _, .int _]) (st := []) dX12_isQuake_8 rfl ok_X12_isIn km_RX12_147 rfl (Nat.le_of_ble_eq_true rfl) rfl rfl rfl (Nat.le_of_ble_eq_true rfl) (Nat.lt_succ_self _) ?_
          refine s_isInY (by first | exact ⟨i_lo _, i_hi _⟩ | omega) (by first | exact ⟨i_lo _, i_hi _⟩ | omega) (by first | exact ⟨i_lo _, i_hi _⟩ | omega) ?_
          refine ⟨_, rfl, ?_⟩
          refine Go_ireturn (ty := .boolean) dX12_isQuake_11 rfl b2i_nb ?_
          refine ⟨_, rfl, ?_⟩
          refine Go_if_eqb (tgt := 34) (pc' := 8) dX12_isReading_5 (by decide) rfl (fun o5 => by exfalso; omega) (fun o5 => ?_)
          refine Go_aload_n (pc' := 9) dX12_isReading_8 rfl rfl rfl ?_
          refine Go_iload_n (pc' := 10) dX12_isReading_9 rfl rfl rfl ?_
          refine Go_callV_i (pc' := 13) (As := [.int _]) (st := []) dX12_isReading_10 rfl ok_X12_isCellar km_RX12_158 (I.S.o 99 rfl rfl rfl) (I.S.b 99 rfl rfl) ⟨_, _, rfl⟩ rfl (Nat.le_of_ble_eq_true rfl) rfl rfl rfl (Nat.le_of_ble_eq_true rfl) (Nat.lt_succ_self _) ?_
          refine Go_iload_n (pc' := 1) dX12_isCellar_0 rfl rfl rfl ?_
          refine Go_iconst (v := iZ 0) (pc' := 2) dX12_isCellar_1 rfl (by decide) ?_
          refine Go_aload_n (pc' := 3) dX12_isCellar_2 rfl rfl rfl ?_
          refine Go_getIv (v := (iZ (nc : Int))) (pc' := 6) dX12_isCellar_3 rfl kf_RX12_151 (by decide) (by decide) rfl (I.S.b 99 rfl rfl) (I.S.o 99 rfl rfl rfl) ((vi_skip (Or.inl (by omega))).trans ((vi_skip (Or.inl (by omega))).trans (ec0))) ?_
          refine Go_iconst (v := iZ 1) (pc' := 7) dX12_isCellar_6 rfl (by decide) ?_
          refine Go_isubZ (pc' := 8) dX12_isCellar_7 rfl ?_
          refine Go_callS_i (pc' := 11) (As := [.int _, .int _, .int _]) (st := []) dX12_isCellar_8 rfl ok_X12_isIn km_RX12_147 rfl (Nat.le_of_ble_eq_true rfl) rfl rfl rfl (Nat.le_of_ble_eq_true rfl) (Nat.lt_succ_self _) ?_
          refine s_isInY (by first | exact ⟨i_lo _, i_hi _⟩ | omega) (by first | exact ⟨i_lo _, i_hi _⟩ | omega) (by first | exact ⟨i_lo _, i_hi _⟩ | omega) ?_
          refine ⟨_, rfl, ?_⟩
          refine Go_ireturn (ty := .boolean) dX12_isCellar_11 rfl b2i_nb ?_
          refine ⟨_, rfl, ?_⟩
          refine Go_if_eqb (tgt := 34) (pc' := 16) dX12_isReading_13 (by decide) rfl (fun o13 => by exfalso; omega) (fun o13 => ?_)
          refine Go_aload_n (pc' := 17) dX12_isReading_16 rfl rfl rfl ?_
          refine Go_getRs (pc' := 20) dX12_isReading_17 rfl kf_RX12_92 (by decide) (by decide) rfl (I.S.b 99 rfl rfl) (I.S.o 99 rfl rfl rfl) (I.S.r 99 41 rfl rfl rfl) ?_
          refine Go_bipush (v := iZ 6) (pc' := 22) dX12_isReading_20 rfl (by decide) ?_
          refine Go_iload_n (pc' := 23) dX12_isReading_22 rfl rfl rfl ?_
          refine Go_imulZ (pc' := 24) dX12_isReading_23 rfl ?_
          refine Go_iload_n (pc' := 25) dX12_isReading_24 rfl rfl rfl ?_
          refine Go_iaddZ (pc' := 26) dX12_isReading_25 rfl ?_
          refine Go_baloadZ (n := 96) (k := (6 * q + c)) (v := (iZ 1)) (pc' := 27) dX12_isReading_26 rfl (I.S.b 124 rfl rfl) (I.S.k 124 rfl rfl rfl) (by omega) (by omega) (by decide) ((vi_skip (Or.inl (by omega))).trans ((vi_skip (Or.inl (by omega))).trans (h0))) ?_
          refine Go_if_eqY (tgt := 34) (pc' := 30) dX12_isReading_27 (by decide) rfl (by first | exact ⟨i_lo _, i_hi _⟩ | omega) (fun o27 => by exfalso; omega) (fun o27 => ?_)
          refine Go_iconst (v := iZ 1) (pc' := 31) dX12_isReading_30 rfl (by decide) ?_
          refine Go_goto (tgt := 35) dX12_isReading_31 (by decide) ?_
          refine Go_ireturn (ty := .boolean) dX12_isReading_35 rfl rfl ?_
          refine ⟨_, rfl, ?_⟩
          refine Go_if_eqY (tgt := 23) (pc' := 9) dX12_second_6 (by decide) rfl (by first | exact ⟨i_lo _, i_hi _⟩ | omega) (fun c6 => by exfalso; omega) (fun c6 => ?_)
          refine Go_iload_n (pc' := 10) dX12_second_9 rfl rfl rfl ?_
          refine Go_iconst (v := iZ (-1)) (pc' := 11) dX12_second_10 rfl (by decide) ?_
          refine Go_icmp_eqY (tgt := 25) (pc' := 14) dX12_second_11 (by decide) rfl (by first | exact ⟨i_lo _, i_hi _⟩ | omega) (by first | exact ⟨i_lo _, i_hi _⟩ | omega) (fun c11 => ?_) (fun c11 => by exfalso; omega)
          refine Go_bipush (v := iZ 6) (pc' := 27) dX12_second_25 rfl (by decide) ?_
          refine Go_iload_n (pc' := 28) dX12_second_27 rfl rfl rfl ?_
          refine Go_imulZ (pc' := 29) dX12_second_28 rfl ?_
          refine Go_iload_n (pc' := 30) dX12_second_29 rfl rfl rfl ?_
          refine Go_iaddZ (pc' := 31) dX12_second_30 rfl ?_
          refine Go_istore (pc' := 33) (lv' := [.ref _, .int _, .int _, .int _, .int _, .int _]) dX12_second_31 rfl (Nat.le_of_ble_eq_true rfl) rfl rfl ?_
          refine Go_aload_n (pc' := 34) dX12_second_33 rfl rfl rfl ?_
          refine Go_getRs (pc' := 37) dX12_second_34 rfl kf_RX12_96 (by decide) (by decide) rfl (I.S.b 99 rfl rfl) (I.S.o 99 rfl rfl rfl) (I.S.r 99 42 rfl rfl rfl) ?_
          refine Go_iload (pc' := 39) dX12_second_37 rfl rfl ?_
          refine Go_iload_n (pc' := 40) dX12_second_39 rfl rfl rfl ?_
          refine Go_iconst (v := iZ (-1)) (pc' := 41) dX12_second_40 rfl (by decide) ?_
          refine Go_icmp_eqY (tgt := 48) (pc' := 44) dX12_second_41 (by decide) rfl (by first | exact ⟨i_lo _, i_hi _⟩ | omega) (by first | exact ⟨i_lo _, i_hi _⟩ | omega) (fun c41 => ?_) (fun c41 => by exfalso; omega)
          refine Go_iconst (v := iZ 0) (pc' := 49) dX12_second_48 rfl (by decide) ?_
          refine Go_bastoreZ (n := 96) (k := (6 * q + c)) (pc' := 50) dX12_second_49 rfl (I.S.b 125 rfl rfl) (I.S.k 125 rfl rfl rfl) (by omega) (by omega) (by decide) (by decide) ?_
          refine Go_aload_n (pc' := 51) dX12_second_50 rfl rfl rfl ?_
          refine Go_getRs (pc' := 54) dX12_second_51 rfl kf_RX12_105 (by decide) (by decide) rfl (I.S.b 99 rfl rfl) (I.S.o 99 rfl rfl rfl) (I.S.r 99 45 rfl rfl rfl) ?_
          refine Go_iload (pc' := 56) dX12_second_54 rfl rfl ?_
          refine Go_iload_n (pc' := 57) dX12_second_56 rfl rfl rfl ?_
          refine Go_iastoreZ (n := 96) (k := (6 * q + c)) (pc' := 58) dX12_second_57 rfl (I.S.b 128 rfl rfl) (I.S.k 128 rfl rfl rfl) (by omega) (by omega) (by decide) ?_
          refine Go_aload_n (pc' := 59) dX12_second_58 rfl rfl rfl ?_
          refine Go_getRs (pc' := 62) dX12_second_59 rfl kf_RX12_108 (by decide) (by decide) rfl (I.S.b 99 rfl rfl) (I.S.o 99 rfl rfl rfl) (I.S.r 99 46 rfl rfl rfl) ?_
          refine Go_iload (pc' := 64) dX12_second_62 rfl rfl ?_
          refine Go_iload (pc' := 66) dX12_second_64 rfl rfl ?_
          refine Go_iastoreZ (n := 96) (k := (6 * q + c)) (pc' := 67) dX12_second_66 rfl (I.S.b 129 rfl rfl) (I.S.k 129 rfl rfl rfl) (by omega) (by omega) (by decide) ?_
          refine Go_iconst (v := iZ 1) (pc' := 68) dX12_second_67 rfl (by decide) ?_
          refine Go_ireturn (ty := .boolean) dX12_second_68 rfl rfl ?_
          exact k _ (I.rd (by rw [eq7, iZ_t (by omega)]; omega) hu hc6 hw RS h0 (by rw [ec2, iZ_t (by omega)]; omega) ((((((DifR.rf _ _ _).wI (by omega)).wI (by omega)).wI (by omega)).wI (by omega)).wI (by omega)) ⟨⟨((vi_skip (by omega)).trans ((vi_skip (by omega)).trans ((vi_skip (by omega)).trans ((vi_skip (by omega)).trans ((vi_skip (by omega)).trans (rfl)))))).trans (RV.1.1.trans ((vi_skip (by omega)).trans ((vi_skip (by omega)).trans ((vi_skip (by omega)).trans ((vi_skip (by omega)).trans ((vi_skip (by omega)).trans (rfl)))))).symm), by rw [show vi (wI (wI (wI (wI (wI h w 2 (iZ (-1))) w 3 (iZ Ez)) 125 (6 * q + c) (iZ 0)) 128 (6 * q + c) (iZ (-1))) 129 (6 * q + c) (iZ Ez)) w 0 = vi h w 0 from ((vi_skip (by omega)).trans ((vi_skip (by omega)).trans ((vi_skip (by omega)).trans ((vi_skip (by omega)).trans ((vi_skip (by omega)).trans (rfl))))))]; exact RV.1.2⟩, ⟨((vi_skip (by omega)).trans ((vi_skip (by omega)).trans ((vi_skip (by omega)).trans ((vi_skip (by omega)).trans ((vi_skip (by omega)).trans (rfl)))))).trans (RV.2.1.1.trans ((vi_skip (by omega)).trans ((vi_skip (by omega)).trans ((vi_skip (by omega)).trans ((vi_skip (by omega)).trans ((vi_skip (by omega)).trans (rfl)))))).symm), by rw [show vi (wI (wI (wI (wI (wI h w 2 (iZ (-1))) w 3 (iZ Ez)) 125 (6 * q + c) (iZ 0)) 128 (6 * q + c) (iZ (-1))) 129 (6 * q + c) (iZ Ez)) w 1 = vi h w 1 from ((vi_skip (by omega)).trans ((vi_skip (by omega)).trans ((vi_skip (by omega)).trans ((vi_skip (by omega)).trans ((vi_skip (by omega)).trans (rfl))))))]; exact RV.2.1.2⟩, Or.inl ⟨(((vi_skip (Or.inl (by omega))).trans ((vi_skip (Or.inl (by omega))).trans ((vi_skip (Or.inl (by omega))).trans ((vi_skip (Or.inr (by decide))).trans (vi_same)))))).trans (show iZ (-1) = (-1 : Int32) from by decide), ((vi_skip (Or.inl (by decide))).trans ((vi_skip (Or.inl (by decide))).trans (vi_same)))⟩, ⟨((vi_skip (by omega)).trans ((vi_skip (by omega)).trans ((vi_skip (by omega)).trans ((vi_skip (by omega)).trans ((vi_skip (by omega)).trans (rfl)))))).trans (RV.2.2.2.1.1.trans ((vi_skip (by omega)).trans ((vi_skip (by omega)).trans ((vi_skip (by omega)).trans ((vi_skip (by omega)).trans ((vi_skip (by omega)).trans (rfl)))))).symm), by rw [show vi (wI (wI (wI (wI (wI h w 2 (iZ (-1))) w 3 (iZ Ez)) 125 (6 * q + c) (iZ 0)) 128 (6 * q + c) (iZ (-1))) 129 (6 * q + c) (iZ Ez)) w 4 = vi h w 4 from ((vi_skip (by omega)).trans ((vi_skip (by omega)).trans ((vi_skip (by omega)).trans ((vi_skip (by omega)).trans ((vi_skip (by omega)).trans (rfl))))))]; exact RV.2.2.2.1.2⟩, ⟨((vi_skip (by omega)).trans ((vi_skip (by omega)).trans ((vi_skip (by omega)).trans ((vi_skip (by omega)).trans ((vi_skip (by omega)).trans (rfl)))))).trans (RV.2.2.2.2.1.trans ((vi_skip (by omega)).trans ((vi_skip (by omega)).trans ((vi_skip (by omega)).trans ((vi_skip (by omega)).trans ((vi_skip (by omega)).trans (rfl)))))).symm), by rw [show vi (wI (wI (wI (wI (wI h w 2 (iZ (-1))) w 3 (iZ Ez)) 125 (6 * q + c) (iZ 0)) 128 (6 * q + c) (iZ (-1))) 129 (6 * q + c) (iZ Ez)) w 5 = vi h w 5 from ((vi_skip (by omega)).trans ((vi_skip (by omega)).trans ((vi_skip (by omega)).trans ((vi_skip (by omega)).trans ((vi_skip (by omega)).trans (rfl))))))]; exact RV.2.2.2.2.2⟩⟩)
      · refine ⟨fun r h1 => ((0 ≤ Cz ∧ Cz ≤ Ez ∧ Ez ≤ 9999999) ∧ r = iZ 1 ∧ h1 = (wI (wI h w 2 (iZ Cz)) w 3 (iZ Ez))) ∨ (¬ (0 ≤ Cz ∧ Cz ≤ Ez ∧ Ez ≤ 9999999) ∧ r = iZ 0 ∧ h = h1), fun K k => ?_, ?_⟩
        · refine Go.more (d := 60) (mc := 0) (ms := 0) ?_ (by omega) (by omega) (by omega)
          show Go G 60 0 0 M_X11_second 0 [.ref 64, .int (iZ (q : Int)), .int (iZ (c : Int)), .int (iZ Cz), .int (iZ Ez), un] [] h K
          refine Go_aload_n (pc' := 1) dX11_second_0 rfl rfl rfl ?_
          refine Go_iload_n (pc' := 2) dX11_second_1 rfl rfl rfl ?_
          refine Go_iload_n (pc' := 3) dX11_second_2 rfl rfl rfl ?_
          refine Go_callV_r (pc' := 6) (As := [.int _, .int _]) (st := []) dX11_second_3 rfl ok_X11_readingOf km_RX11_241 (I.S.o 64 rfl rfl rfl) (I.S.b 64 rfl rfl) ⟨_, _, rfl⟩ rfl (Nat.le_of_ble_eq_true rfl) rfl rfl rfl (Nat.le_of_ble_eq_true rfl) (Nat.lt_succ_self _) ?_
          refine Go_aload_n (pc' := 1) dX11_readingOf_0 rfl rfl rfl ?_
          refine Go_iload_n (pc' := 2) dX11_readingOf_1 rfl rfl rfl ?_
          refine Go_callV_r (pc' := 5) (As := [.int _]) (st := []) dX11_readingOf_2 rfl ok_X11_quakeOf km_RX11_230 (I.S.o 64 rfl rfl rfl) (I.S.b 64 rfl rfl) ⟨_, _, rfl⟩ rfl (Nat.le_of_ble_eq_true rfl) rfl rfl rfl (Nat.le_of_ble_eq_true rfl) (Nat.lt_succ_self _) ?_
          refine Go_iload_n (pc' := 1) dX11_quakeOf_0 rfl rfl rfl ?_
          refine Go_iconst (v := iZ 0) (pc' := 2) dX11_quakeOf_1 rfl (by decide) ?_
          refine Go_aload_n (pc' := 3) dX11_quakeOf_2 rfl rfl rfl ?_
          refine Go_getIv (v := (iZ (nq : Int))) (pc' := 6) dX11_quakeOf_3 rfl kf_RX11_226 (by decide) (by decide) rfl (I.S.b 64 rfl rfl) (I.S.o 64 rfl rfl rfl) (eq7) ?_
          refine Go_iconst (v := iZ 1) (pc' := 7) dX11_quakeOf_6 rfl (by decide) ?_
          refine Go_isubZ (pc' := 8) dX11_quakeOf_7 rfl ?_
          refine Go_callS_i (pc' := 11) (As := [.int _, .int _, .int _]) (st := []) dX11_quakeOf_8 rfl ok_X11_within km_RX11_94 rfl (Nat.le_of_ble_eq_true rfl) rfl rfl rfl (Nat.le_of_ble_eq_true rfl) (Nat.lt_succ_self _) ?_
          refine s_withinY (by first | exact ⟨i_lo _, i_hi _⟩ | omega) (by first | exact ⟨i_lo _, i_hi _⟩ | omega) (by first | exact ⟨i_lo _, i_hi _⟩ | omega) ?_
          refine ⟨_, rfl, ?_⟩
          refine Go_if_eqb (tgt := 32) (pc' := 14) dX11_quakeOf_11 (by decide) rfl (fun q11 => by exfalso; omega) (fun q11 => ?_)
          refine Go_iload_n (pc' := 15) dX11_quakeOf_14 rfl rfl rfl ?_
          refine Go_aload_n (pc' := 16) dX11_quakeOf_15 rfl rfl rfl ?_
          refine Go_getRs (pc' := 19) dX11_quakeOf_16 rfl kf_RX11_45 (by decide) (by decide) rfl (I.S.b 64 rfl rfl) (I.S.o 64 rfl rfl rfl) (I.S.r 64 6 rfl rfl rfl) ?_
          refine Go_alenZ (n := 16) (pc' := 20) dX11_quakeOf_19 rfl (I.S.b 80 rfl rfl) (I.S.k 80 rfl rfl rfl) (Or.inr (Or.inr ⟨_, rfl⟩)) ?_
          refine Go_icmp_geY (tgt := 32) (pc' := 23) dX11_quakeOf_20 (by decide) rfl (by first | exact ⟨i_lo _, i_hi _⟩ | omega) (by first | exact ⟨i_lo _, i_hi _⟩ | omega) (fun q20 => by exfalso; omega) (fun q20 => ?_)
          refine Go_aload_n (pc' := 24) dX11_quakeOf_23 rfl rfl rfl ?_
          refine Go_getRs (pc' := 27) dX11_quakeOf_24 rfl kf_RX11_45 (by decide) (by decide) rfl (I.S.b 64 rfl rfl) (I.S.o 64 rfl rfl rfl) (I.S.r 64 6 rfl rfl rfl) ?_
          refine Go_iload_n (pc' := 28) dX11_quakeOf_27 rfl rfl rfl ?_
          refine Go_aaloadZ (n := 16) (k := q) (pc' := 29) dX11_quakeOf_28 rfl (I.S.b 80 rfl rfl) (I.S.k 80 rfl rfl rfl) rfl rfl (by omega) (by decide) hu ?_
          refine Go_goto (tgt := 33) dX11_quakeOf_29 (by decide) ?_
          refine Go_areturn (r := some _) dX11_quakeOf_33 rfl ?_
          refine ⟨some _, rfl, ?_⟩
          refine Go_astore_n (pc' := 6) (lv' := [.ref _, .int _, .int _, .ref _]) dX11_readingOf_5 rfl rfl (Nat.le_of_ble_eq_true rfl) rfl rfl ?_
          refine Go_aload_n (pc' := 7) dX11_readingOf_6 rfl rfl rfl ?_
          refine Go_ifnonnull (tgt := 14) dX11_readingOf_7 (by decide) ?_
          refine Go_aload_n (pc' := 15) dX11_readingOf_14 rfl rfl rfl ?_
          refine Go_iload_n (pc' := 16) dX11_readingOf_15 rfl rfl rfl ?_
          refine Go_callV_r (pc' := 19) (As := [.int _]) (st := []) dX11_readingOf_16 rfl ok_X5_reading km_RX11_271 QS.o QS.b ⟨_, _, rfl⟩ rfl (Nat.le_of_ble_eq_true rfl) rfl rfl rfl (Nat.le_of_ble_eq_true rfl) (Nat.lt_succ_self _) ?_
          refine Go_iload_n (pc' := 1) dX5_reading_0 rfl rfl rfl ?_
          refine Go_if_ltY (tgt := 22) (pc' := 4) dX5_reading_1 (by decide) rfl (by first | exact ⟨i_lo _, i_hi _⟩ | omega) (fun r1 => by exfalso; omega) (fun r1 => ?_)
          refine Go_iload_n (pc' := 5) dX5_reading_4 rfl rfl rfl ?_
          refine Go_aload_n (pc' := 6) dX5_reading_5 rfl rfl rfl ?_
          refine Go_getRs (pc' := 9) dX5_reading_6 rfl kf_RX5_11 (by decide) (by decide) rfl QS.b QS.o QS.r0 ?_
          refine Go_alenZ (n := 6) (pc' := 10) dX5_reading_9 rfl QS.b1 QS.k1 (Or.inr (Or.inr ⟨_, rfl⟩)) ?_
          refine Go_icmp_geY (tgt := 22) (pc' := 13) dX5_reading_10 (by decide) rfl (by first | exact ⟨i_lo _, i_hi _⟩ | omega) (by first | exact ⟨i_lo _, i_hi _⟩ | omega) (fun r10 => by exfalso; omega) (fun r10 => ?_)
          refine Go_aload_n (pc' := 14) dX5_reading_13 rfl rfl rfl ?_
          refine Go_getRs (pc' := 17) dX5_reading_14 rfl kf_RX5_11 (by decide) (by decide) rfl QS.b QS.o QS.r0 ?_
          refine Go_iload_n (pc' := 18) dX5_reading_17 rfl rfl rfl ?_
          refine Go_aaloadZ (n := 6) (k := c) (pc' := 19) dX5_reading_18 rfl QS.b1 QS.k1 rfl rfl (by omega) (by decide) hw ?_
          refine Go_goto (tgt := 23) dX5_reading_19 (by decide) ?_
          refine Go_areturn (r := some _) dX5_reading_23 rfl ?_
          refine ⟨some _, rfl, ?_⟩
          refine Go_areturn (r := some _) dX11_readingOf_19 rfl ?_
          refine ⟨some _, rfl, ?_⟩
          refine Go_astore (pc' := 8) (lv' := [.ref _, .int _, .int _, .int _, .int _, .ref _]) dX11_second_6 rfl (Nat.le_of_ble_eq_true rfl) rfl rfl ?_
          refine Go_aload (pc' := 10) dX11_second_8 rfl rfl ?_
          refine Go_ifnull (pc' := 13) dX11_second_10 rfl ?_
          refine Go_iload_n (pc' := 14) dX11_second_13 rfl rfl rfl ?_
          refine Go_iconst (v := iZ (-1)) (pc' := 15) dX11_second_14 rfl (by decide) ?_
          refine Go_icmp_eqY (tgt := 29) (pc' := 18) dX11_second_15 (by decide) rfl (by first | exact ⟨i_lo _, i_hi _⟩ | omega) (by first | exact ⟨i_lo _, i_hi _⟩ | omega) (fun c15 => by exfalso; omega) (fun c15 => ?_)
          refine Go_iload_n (pc' := 19) dX11_second_18 rfl rfl rfl ?_
          refine Go_iload (pc' := 21) dX11_second_19 rfl rfl ?_
          refine Go_callS_i (pc' := 24) (As := [.int _, .int _]) (st := []) dX11_second_21 rfl ok_X11_isSpan km_RX11_234 rfl (Nat.le_of_ble_eq_true rfl) rfl rfl rfl (Nat.le_of_ble_eq_true rfl) (Nat.lt_succ_self _) ?_
          refine s_isSpan (by first | exact ⟨i_lo _, i_hi _⟩ | omega) (by first | exact ⟨i_lo _, i_hi _⟩ | omega) ?_
          refine ⟨_, rfl, ?_⟩
          refine Go_if_neb (tgt := 29) (pc' := 27) dX11_second_24 (by decide) rfl (fun c24 => ?_) (fun c24 => ?_)
          · refine Go_aload (pc' := 31) dX11_second_29 rfl rfl ?_
            refine Go_iload_n (pc' := 32) dX11_second_31 rfl rfl rfl ?_
            refine Go_putI (pc' := 35) dX11_second_32 rfl kf_RX11_245 (by decide) (by decide) rfl RS.b RS.o (Or.inl rfl) rfl rfl ?_
            refine Go_aload (pc' := 37) dX11_second_35 rfl rfl ?_
            refine Go_iload (pc' := 39) dX11_second_37 rfl rfl ?_
            refine Go_putI (pc' := 42) dX11_second_39 rfl kf_RX11_250 (by decide) (by decide) rfl RS.b RS.o (Or.inl rfl) rfl rfl ?_
            refine Go_iconst (v := iZ 1) (pc' := 43) dX11_second_42 rfl (by decide) ?_
            refine Go_ireturn (ty := .boolean) dX11_second_43 rfl rfl ?_
            exact k _ _ (Or.inl ⟨by omega, rfl, rfl⟩) I.S
          · refine Go_iconst (v := iZ 0) (pc' := 28) dX11_second_27 rfl (by decide) ?_
            refine Go_ireturn (ty := .boolean) dX11_second_28 rfl rfl ?_
            exact k _ _ (Or.inr ⟨by omega, rfl, rfl⟩) I.S
        · rintro r h1 (⟨hc, rfl, rfl⟩ | ⟨hc, rfl, rfl⟩) K k
          · show Go G 60 0 0 M_X12_second 0 [.ref 99, .int (iZ (q : Int)), .int (iZ (c : Int)), .int (iZ Cz), .int (iZ Ez), un] [] (wI (wI h w 2 (iZ Cz)) w 3 (iZ Ez)) K
            refine Go_aload_n (pc' := 1) dX12_second_0 rfl rfl rfl ?_
            refine Go_iload_n (pc' := 2) dX12_second_1 rfl rfl rfl ?_
            refine Go_iload_n (pc' := 3) dX12_second_2 rfl rfl rfl ?_
            refine Go_callV_i (pc' := 6) (As := [.int _, .int _]) (st := []) dX12_second_3 rfl ok_X12_isReading km_RX12_346 (I.S.o 99 rfl rfl rfl) (I.S.b 99 rfl rfl) ⟨_, _, rfl⟩ rfl (Nat.le_of_ble_eq_true rfl) rfl rfl rfl (Nat.le_of_ble_eq_true rfl) (Nat.lt_succ_self _) ?_
            refine Go_aload_n (pc' := 1) dX12_isReading_0 rfl rfl rfl ?_
            refine Go_iload_n (pc' := 2) dX12_isReading_1 rfl rfl rfl ?_
            refine Go_callV_i (pc' := 5) (As := [.int _]) (st := []) dX12_isReading_2 rfl ok_X12_isQuake km_RX12_340 (I.S.o 99 rfl rfl rfl) (I.S.b 99 rfl rfl) ⟨_, _, rfl⟩ rfl (Nat.le_of_ble_eq_true rfl) rfl rfl rfl (Nat.le_of_ble_eq_true rfl) (Nat.lt_succ_self _) ?_
            refine Go_iload_n (pc' := 1) dX12_isQuake_0 rfl rfl rfl ?_
            refine Go_iconst (v := iZ 0) (pc' := 2) dX12_isQuake_1 rfl (by decide) ?_
            refine Go_aload_n (pc' := 3) dX12_isQuake_2 rfl rfl rfl ?_
            refine Go_getIv (v := (iZ (nq : Int))) (pc' := 6) dX12_isQuake_3 rfl kf_RX12_336 (by decide) (by decide) rfl (I.S.b 99 rfl rfl) (I.S.o 99 rfl rfl rfl) ((vi_skip (Or.inl (by omega))).trans ((vi_skip (Or.inl (by omega))).trans (eq38))) ?_
            refine Go_iconst (v := iZ 1) (pc' := 7) dX12_isQuake_6 rfl (by decide) ?_
            refine Go_isubZ (pc' := 8) dX12_isQuake_7 rfl ?_
            refine Go_callS_i (pc' := 11) (As := [.int _, .int _, .int _]) (st := []) dX12_isQuake_8 rfl ok_X12_isIn km_RX12_147 rfl (Nat.le_of_ble_eq_true rfl) rfl rfl rfl (Nat.le_of_ble_eq_true rfl) (Nat.lt_succ_self _) ?_
            refine s_isInY (by first | exact ⟨i_lo _, i_hi _⟩ | omega) (by first | exact ⟨i_lo _, i_hi _⟩ | omega) (by first | exact ⟨i_lo _, i_hi _⟩ | omega) ?_
            refine ⟨_, rfl, ?_⟩
            refine Go_ireturn (ty := .boolean) dX12_isQuake_11 rfl b2i_nb ?_
            refine ⟨_, rfl, ?_⟩
            refine Go_if_eqb (tgt := 34) (pc' := 8) dX12_isReading_5 (by decide) rfl (fun o5 => by exfalso; omega) (fun o5 => ?_)
            refine Go_aload_n (pc' := 9) dX12_isReading_8 rfl rfl rfl ?_
            refine Go_iload_n (pc' := 10) dX12_isReading_9 rfl rfl rfl ?_
            refine Go_callV_i (pc' := 13) (As := [.int _]) (st := []) dX12_isReading_10 rfl ok_X12_isCellar km_RX12_158 (I.S.o 99 rfl rfl rfl) (I.S.b 99 rfl rfl) ⟨_, _, rfl⟩ rfl (Nat.le_of_ble_eq_true rfl) rfl rfl rfl (Nat.le_of_ble_eq_true rfl) (Nat.lt_succ_self _) ?_
            refine Go_iload_n (pc' := 1) dX12_isCellar_0 rfl rfl rfl ?_
            refine Go_iconst (v := iZ 0) (pc' := 2) dX12_isCellar_1 rfl (by decide) ?_
            refine Go_aload_n (pc' := 3) dX12_isCellar_2 rfl rfl rfl ?_
            refine Go_getIv (v := (iZ (nc : Int))) (pc' := 6) dX12_isCellar_3 rfl kf_RX12_151 (by decide) (by decide) rfl (I.S.b 99 rfl rfl) (I.S.o 99 rfl rfl rfl) ((vi_skip (Or.inl (by omega))).trans ((vi_skip (Or.inl (by omega))).trans (ec0))) ?_
            refine Go_iconst (v := iZ 1) (pc' := 7) dX12_isCellar_6 rfl (by decide) ?_
            refine Go_isubZ (pc' := 8) dX12_isCellar_7 rfl ?_
            refine Go_callS_i (pc' := 11) (As := [.int _, .int _, .int _]) (st := []) dX12_isCellar_8 rfl ok_X12_isIn km_RX12_147 rfl (Nat.le_of_ble_eq_true rfl) rfl rfl rfl (Nat.le_of_ble_eq_true rfl) (Nat.lt_succ_self _) ?_
            refine s_isInY (by first | exact ⟨i_lo _, i_hi _⟩ | omega) (by first | exact ⟨i_lo _, i_hi _⟩ | omega) (by first | exact ⟨i_lo _, i_hi _⟩ | omega) ?_
            refine ⟨_, rfl, ?_⟩
            refine Go_ireturn (ty := .boolean) dX12_isCellar_11 rfl b2i_nb ?_
            refine ⟨_, rfl, ?_⟩
            refine Go_if_eqb (tgt := 34) (pc' := 16) dX12_isReading_13 (by decide) rfl (fun o13 => by exfalso; omega) (fun o13 => ?_)
            refine Go_aload_n (pc' := 17) dX12_isReading_16 rfl rfl rfl ?_
            refine Go_getRs (pc' := 20) dX12_isReading_17 rfl kf_RX12_92 (by decide) (by decide) rfl (I.S.b 99 rfl rfl) (I.S.o 99 rfl rfl rfl) (I.S.r 99 41 rfl rfl rfl) ?_
            refine Go_bipush (v := iZ 6) (pc' := 22) dX12_isReading_20 rfl (by decide) ?_
            refine Go_iload_n (pc' := 23) dX12_isReading_22 rfl rfl rfl ?_
            refine Go_imulZ (pc' := 24) dX12_isReading_23 rfl ?_
            refine Go_iload_n (pc' := 25) dX12_isReading_24 rfl rfl rfl ?_
            refine Go_iaddZ (pc' := 26) dX12_isReading_25 rfl ?_
            refine Go_baloadZ (n := 96) (k := (6 * q + c)) (v := (iZ 1)) (pc' := 27) dX12_isReading_26 rfl (I.S.b 124 rfl rfl) (I.S.k 124 rfl rfl rfl) (by omega) (by omega) (by decide) ((vi_skip (Or.inl (by omega))).trans ((vi_skip (Or.inl (by omega))).trans (h0))) ?_
            refine Go_if_eqY (tgt := 34) (pc' := 30) dX12_isReading_27 (by decide) rfl (by first | exact ⟨i_lo _, i_hi _⟩ | omega) (fun o27 => by exfalso; omega) (fun o27 => ?_)
            refine Go_iconst (v := iZ 1) (pc' := 31) dX12_isReading_30 rfl (by decide) ?_
            refine Go_goto (tgt := 35) dX12_isReading_31 (by decide) ?_
            refine Go_ireturn (ty := .boolean) dX12_isReading_35 rfl rfl ?_
            refine ⟨_, rfl, ?_⟩
            refine Go_if_eqY (tgt := 23) (pc' := 9) dX12_second_6 (by decide) rfl (by first | exact ⟨i_lo _, i_hi _⟩ | omega) (fun c6 => by exfalso; omega) (fun c6 => ?_)
            refine Go_iload_n (pc' := 10) dX12_second_9 rfl rfl rfl ?_
            refine Go_iconst (v := iZ (-1)) (pc' := 11) dX12_second_10 rfl (by decide) ?_
            refine Go_icmp_eqY (tgt := 25) (pc' := 14) dX12_second_11 (by decide) rfl (by first | exact ⟨i_lo _, i_hi _⟩ | omega) (by first | exact ⟨i_lo _, i_hi _⟩ | omega) (fun c11 => by exfalso; omega) (fun c11 => ?_)
            refine Go_iload_n (pc' := 15) dX12_second_14 rfl rfl rfl ?_
            refine Go_iload (pc' := 17) dX12_second_15 rfl rfl ?_
            refine Go_callS_i (pc' := 20) (As := [.int _, .int _]) (st := []) dX12_second_17 rfl ok_X12_areTimes km_RX12_343 rfl (Nat.le_of_ble_eq_true rfl) rfl rfl rfl (Nat.le_of_ble_eq_true rfl) (Nat.lt_succ_self _) ?_
            refine s_areTimes (by first | exact ⟨i_lo _, i_hi _⟩ | omega) (by first | exact ⟨i_lo _, i_hi _⟩ | omega) ?_
            refine ⟨_, rfl, ?_⟩
            refine Go_if_neb (tgt := 25) (pc' := 23) dX12_second_20 (by decide) rfl (fun c20 => ?_) (fun c20 => ?_)
            · refine Go_bipush (v := iZ 6) (pc' := 27) dX12_second_25 rfl (by decide) ?_
              refine Go_iload_n (pc' := 28) dX12_second_27 rfl rfl rfl ?_
              refine Go_imulZ (pc' := 29) dX12_second_28 rfl ?_
              refine Go_iload_n (pc' := 30) dX12_second_29 rfl rfl rfl ?_
              refine Go_iaddZ (pc' := 31) dX12_second_30 rfl ?_
              refine Go_istore (pc' := 33) (lv' := [.ref _, .int _, .int _, .int _, .int _, .int _]) dX12_second_31 rfl (Nat.le_of_ble_eq_true rfl) rfl rfl ?_
              refine Go_aload_n (pc' := 34) dX12_second_33 rfl rfl rfl ?_
              refine Go_getRs (pc' := 37) dX12_second_34 rfl kf_RX12_96 (by decide) (by decide) rfl (I.S.b 99 rfl rfl) (I.S.o 99 rfl rfl rfl) (I.S.r 99 42 rfl rfl rfl) ?_
              refine Go_iload (pc' := 39) dX12_second_37 rfl rfl ?_
              refine Go_iload_n (pc' := 40) dX12_second_39 rfl rfl rfl ?_
              refine Go_iconst (v := iZ (-1)) (pc' := 41) dX12_second_40 rfl (by decide) ?_
              refine Go_icmp_eqY (tgt := 48) (pc' := 44) dX12_second_41 (by decide) rfl (by first | exact ⟨i_lo _, i_hi _⟩ | omega) (by first | exact ⟨i_lo _, i_hi _⟩ | omega) (fun c41 => by exfalso; omega) (fun c41 => ?_)
              refine Go_iconst (v := iZ 1) (pc' := 45) dX12_second_44 rfl (by decide) ?_
              refine Go_goto (tgt := 49) dX12_second_45 (by decide) ?_
              refine Go_bastoreZ (n := 96) (k := (6 * q + c)) (pc' := 50) dX12_second_49 rfl (I.S.b 125 rfl rfl) (I.S.k 125 rfl rfl rfl) (by omega) (by omega) (by decide) (by decide) ?_
              refine Go_aload_n (pc' := 51) dX12_second_50 rfl rfl rfl ?_
              refine Go_getRs (pc' := 54) dX12_second_51 rfl kf_RX12_105 (by decide) (by decide) rfl (I.S.b 99 rfl rfl) (I.S.o 99 rfl rfl rfl) (I.S.r 99 45 rfl rfl rfl) ?_
              refine Go_iload (pc' := 56) dX12_second_54 rfl rfl ?_
              refine Go_iload_n (pc' := 57) dX12_second_56 rfl rfl rfl ?_
              refine Go_iastoreZ (n := 96) (k := (6 * q + c)) (pc' := 58) dX12_second_57 rfl (I.S.b 128 rfl rfl) (I.S.k 128 rfl rfl rfl) (by omega) (by omega) (by decide) ?_
              refine Go_aload_n (pc' := 59) dX12_second_58 rfl rfl rfl ?_
              refine Go_getRs (pc' := 62) dX12_second_59 rfl kf_RX12_108 (by decide) (by decide) rfl (I.S.b 99 rfl rfl) (I.S.o 99 rfl rfl rfl) (I.S.r 99 46 rfl rfl rfl) ?_
              refine Go_iload (pc' := 64) dX12_second_62 rfl rfl ?_
              refine Go_iload (pc' := 66) dX12_second_64 rfl rfl ?_
              refine Go_iastoreZ (n := 96) (k := (6 * q + c)) (pc' := 67) dX12_second_66 rfl (I.S.b 129 rfl rfl) (I.S.k 129 rfl rfl rfl) (by omega) (by omega) (by decide) ?_
              refine Go_iconst (v := iZ 1) (pc' := 68) dX12_second_67 rfl (by decide) ?_
              refine Go_ireturn (ty := .boolean) dX12_second_68 rfl rfl ?_
              exact k _ (I.rd (by rw [eq7, iZ_t (by omega)]; omega) hu hc6 hw RS h0 (by rw [ec2, iZ_t (by omega)]; omega) ((((((DifR.rf _ _ _).wI (by omega)).wI (by omega)).wI (by omega)).wI (by omega)).wI (by omega)) ⟨⟨((vi_skip (by omega)).trans ((vi_skip (by omega)).trans ((vi_skip (by omega)).trans ((vi_skip (by omega)).trans ((vi_skip (by omega)).trans (rfl)))))).trans (RV.1.1.trans ((vi_skip (by omega)).trans ((vi_skip (by omega)).trans ((vi_skip (by omega)).trans ((vi_skip (by omega)).trans ((vi_skip (by omega)).trans (rfl)))))).symm), by rw [show vi (wI (wI (wI (wI (wI h w 2 (iZ Cz)) w 3 (iZ Ez)) 125 (6 * q + c) (iZ 1)) 128 (6 * q + c) (iZ Cz)) 129 (6 * q + c) (iZ Ez)) w 0 = vi h w 0 from ((vi_skip (by omega)).trans ((vi_skip (by omega)).trans ((vi_skip (by omega)).trans ((vi_skip (by omega)).trans ((vi_skip (by omega)).trans (rfl))))))]; exact RV.1.2⟩, ⟨((vi_skip (by omega)).trans ((vi_skip (by omega)).trans ((vi_skip (by omega)).trans ((vi_skip (by omega)).trans ((vi_skip (by omega)).trans (rfl)))))).trans (RV.2.1.1.trans ((vi_skip (by omega)).trans ((vi_skip (by omega)).trans ((vi_skip (by omega)).trans ((vi_skip (by omega)).trans ((vi_skip (by omega)).trans (rfl)))))).symm), by rw [show vi (wI (wI (wI (wI (wI h w 2 (iZ Cz)) w 3 (iZ Ez)) 125 (6 * q + c) (iZ 1)) 128 (6 * q + c) (iZ Cz)) 129 (6 * q + c) (iZ Ez)) w 1 = vi h w 1 from ((vi_skip (by omega)).trans ((vi_skip (by omega)).trans ((vi_skip (by omega)).trans ((vi_skip (by omega)).trans ((vi_skip (by omega)).trans (rfl))))))]; exact RV.2.1.2⟩, Or.inr ⟨(((vi_skip (Or.inl (by omega))).trans ((vi_skip (Or.inl (by omega))).trans ((vi_skip (Or.inl (by omega))).trans ((vi_skip (Or.inr (by decide))).trans (vi_same))))).trans ((vi_skip (Or.inl (by decide))).trans (vi_same)).symm), (((vi_skip (Or.inl (by omega))).trans ((vi_skip (Or.inl (by omega))).trans ((vi_skip (Or.inl (by omega))).trans (vi_same)))).trans (vi_same).symm), ((vi_skip (Or.inl (by decide))).trans ((vi_skip (Or.inl (by decide))).trans (vi_same))), by rw [show vi (wI (wI (wI (wI (wI h w 2 (iZ Cz)) w 3 (iZ Ez)) 125 (6 * q + c) (iZ 1)) 128 (6 * q + c) (iZ Cz)) 129 (6 * q + c) (iZ Ez)) w 2 = iZ Cz from ((vi_skip (Or.inl (by omega))).trans ((vi_skip (Or.inl (by omega))).trans ((vi_skip (Or.inl (by omega))).trans ((vi_skip (Or.inr (by decide))).trans (vi_same)))))]; exact rgz (by omega) (by omega), by rw [show vi (wI (wI (wI (wI (wI h w 2 (iZ Cz)) w 3 (iZ Ez)) 125 (6 * q + c) (iZ 1)) 128 (6 * q + c) (iZ Cz)) 129 (6 * q + c) (iZ Ez)) w 3 = iZ Ez from ((vi_skip (Or.inl (by omega))).trans ((vi_skip (Or.inl (by omega))).trans ((vi_skip (Or.inl (by omega))).trans (vi_same))))]; exact rgz (by omega) (by omega)⟩, ⟨((vi_skip (by omega)).trans ((vi_skip (by omega)).trans ((vi_skip (by omega)).trans ((vi_skip (by omega)).trans ((vi_skip (by omega)).trans (rfl)))))).trans (RV.2.2.2.1.1.trans ((vi_skip (by omega)).trans ((vi_skip (by omega)).trans ((vi_skip (by omega)).trans ((vi_skip (by omega)).trans ((vi_skip (by omega)).trans (rfl)))))).symm), by rw [show vi (wI (wI (wI (wI (wI h w 2 (iZ Cz)) w 3 (iZ Ez)) 125 (6 * q + c) (iZ 1)) 128 (6 * q + c) (iZ Cz)) 129 (6 * q + c) (iZ Ez)) w 4 = vi h w 4 from ((vi_skip (by omega)).trans ((vi_skip (by omega)).trans ((vi_skip (by omega)).trans ((vi_skip (by omega)).trans ((vi_skip (by omega)).trans (rfl))))))]; exact RV.2.2.2.1.2⟩, ⟨((vi_skip (by omega)).trans ((vi_skip (by omega)).trans ((vi_skip (by omega)).trans ((vi_skip (by omega)).trans ((vi_skip (by omega)).trans (rfl)))))).trans (RV.2.2.2.2.1.trans ((vi_skip (by omega)).trans ((vi_skip (by omega)).trans ((vi_skip (by omega)).trans ((vi_skip (by omega)).trans ((vi_skip (by omega)).trans (rfl)))))).symm), by rw [show vi (wI (wI (wI (wI (wI h w 2 (iZ Cz)) w 3 (iZ Ez)) 125 (6 * q + c) (iZ 1)) 128 (6 * q + c) (iZ Cz)) 129 (6 * q + c) (iZ Ez)) w 5 = vi h w 5 from ((vi_skip (by omega)).trans ((vi_skip (by omega)).trans ((vi_skip (by omega)).trans ((vi_skip (by omega)).trans ((vi_skip (by omega)).trans (rfl))))))]; exact RV.2.2.2.2.2⟩⟩)
            · refine Go_iconst (v := iZ 0) (pc' := 24) dX12_second_23 rfl (by decide) ?_
              refine Go_ireturn (ty := .boolean) dX12_second_24 rfl rfl ?_
              exfalso; omega
          · show Go G 60 0 0 M_X12_second 0 [.ref 99, .int (iZ (q : Int)), .int (iZ (c : Int)), .int (iZ Cz), .int (iZ Ez), un] [] h K
            refine Go_aload_n (pc' := 1) dX12_second_0 rfl rfl rfl ?_
            refine Go_iload_n (pc' := 2) dX12_second_1 rfl rfl rfl ?_
            refine Go_iload_n (pc' := 3) dX12_second_2 rfl rfl rfl ?_
            refine Go_callV_i (pc' := 6) (As := [.int _, .int _]) (st := []) dX12_second_3 rfl ok_X12_isReading km_RX12_346 (I.S.o 99 rfl rfl rfl) (I.S.b 99 rfl rfl) ⟨_, _, rfl⟩ rfl (Nat.le_of_ble_eq_true rfl) rfl rfl rfl (Nat.le_of_ble_eq_true rfl) (Nat.lt_succ_self _) ?_
            refine Go_aload_n (pc' := 1) dX12_isReading_0 rfl rfl rfl ?_
            refine Go_iload_n (pc' := 2) dX12_isReading_1 rfl rfl rfl ?_
            refine Go_callV_i (pc' := 5) (As := [.int _]) (st := []) dX12_isReading_2 rfl ok_X12_isQuake km_RX12_340 (I.S.o 99 rfl rfl rfl) (I.S.b 99 rfl rfl) ⟨_, _, rfl⟩ rfl (Nat.le_of_ble_eq_true rfl) rfl rfl rfl (Nat.le_of_ble_eq_true rfl) (Nat.lt_succ_self _) ?_
            refine Go_iload_n (pc' := 1) dX12_isQuake_0 rfl rfl rfl ?_
            refine Go_iconst (v := iZ 0) (pc' := 2) dX12_isQuake_1 rfl (by decide) ?_
            refine Go_aload_n (pc' := 3) dX12_isQuake_2 rfl rfl rfl ?_
            refine Go_getIv (v := (iZ (nq : Int))) (pc' := 6) dX12_isQuake_3 rfl kf_RX12_336 (by decide) (by decide) rfl (I.S.b 99 rfl rfl) (I.S.o 99 rfl rfl rfl) (eq38) ?_
            refine Go_iconst (v := iZ 1) (pc' := 7) dX12_isQuake_6 rfl (by decide) ?_
            refine Go_isubZ (pc' := 8) dX12_isQuake_7 rfl ?_
            refine Go_callS_i (pc' := 11) (As := [.int _, .int _, .int _]) (st := []) dX12_isQuake_8 rfl ok_X12_isIn km_RX12_147 rfl (Nat.le_of_ble_eq_true rfl) rfl rfl rfl (Nat.le_of_ble_eq_true rfl) (Nat.lt_succ_self _) ?_
            refine s_isInY (by first | exact ⟨i_lo _, i_hi _⟩ | omega) (by first | exact ⟨i_lo _, i_hi _⟩ | omega) (by first | exact ⟨i_lo _, i_hi _⟩ | omega) ?_
            refine ⟨_, rfl, ?_⟩
            refine Go_ireturn (ty := .boolean) dX12_isQuake_11 rfl b2i_nb ?_
            refine ⟨_, rfl, ?_⟩
            refine Go_if_eqb (tgt := 34) (pc' := 8) dX12_isReading_5 (by decide) rfl (fun o5 => by exfalso; omega) (fun o5 => ?_)
            refine Go_aload_n (pc' := 9) dX12_isReading_8 rfl rfl rfl ?_
            refine Go_iload_n (pc' := 10) dX12_isReading_9 rfl rfl rfl ?_
            refine Go_callV_i (pc' := 13) (As := [.int _]) (st := []) dX12_isReading_10 rfl ok_X12_isCellar km_RX12_158 (I.S.o 99 rfl rfl rfl) (I.S.b 99 rfl rfl) ⟨_, _, rfl⟩ rfl (Nat.le_of_ble_eq_true rfl) rfl rfl rfl (Nat.le_of_ble_eq_true rfl) (Nat.lt_succ_self _) ?_
            refine Go_iload_n (pc' := 1) dX12_isCellar_0 rfl rfl rfl ?_
            refine Go_iconst (v := iZ 0) (pc' := 2) dX12_isCellar_1 rfl (by decide) ?_
            refine Go_aload_n (pc' := 3) dX12_isCellar_2 rfl rfl rfl ?_
            refine Go_getIv (v := (iZ (nc : Int))) (pc' := 6) dX12_isCellar_3 rfl kf_RX12_151 (by decide) (by decide) rfl (I.S.b 99 rfl rfl) (I.S.o 99 rfl rfl rfl) (ec0) ?_
            refine Go_iconst (v := iZ 1) (pc' := 7) dX12_isCellar_6 rfl (by decide) ?_
            refine Go_isubZ (pc' := 8) dX12_isCellar_7 rfl ?_
            refine Go_callS_i (pc' := 11) (As := [.int _, .int _, .int _]) (st := []) dX12_isCellar_8 rfl ok_X12_isIn km_RX12_147 rfl (Nat.le_of_ble_eq_true rfl) rfl rfl rfl (Nat.le_of_ble_eq_true rfl) (Nat.lt_succ_self _) ?_
            refine s_isInY (by first | exact ⟨i_lo _, i_hi _⟩ | omega) (by first | exact ⟨i_lo _, i_hi _⟩ | omega) (by first | exact ⟨i_lo _, i_hi _⟩ | omega) ?_
            refine ⟨_, rfl, ?_⟩
            refine Go_ireturn (ty := .boolean) dX12_isCellar_11 rfl b2i_nb ?_
            refine ⟨_, rfl, ?_⟩
            refine Go_if_eqb (tgt := 34) (pc' := 16) dX12_isReading_13 (by decide) rfl (fun o13 => by exfalso; omega) (fun o13 => ?_)
            refine Go_aload_n (pc' := 17) dX12_isReading_16 rfl rfl rfl ?_
            refine Go_getRs (pc' := 20) dX12_isReading_17 rfl kf_RX12_92 (by decide) (by decide) rfl (I.S.b 99 rfl rfl) (I.S.o 99 rfl rfl rfl) (I.S.r 99 41 rfl rfl rfl) ?_
            refine Go_bipush (v := iZ 6) (pc' := 22) dX12_isReading_20 rfl (by decide) ?_
            refine Go_iload_n (pc' := 23) dX12_isReading_22 rfl rfl rfl ?_
            refine Go_imulZ (pc' := 24) dX12_isReading_23 rfl ?_
            refine Go_iload_n (pc' := 25) dX12_isReading_24 rfl rfl rfl ?_
            refine Go_iaddZ (pc' := 26) dX12_isReading_25 rfl ?_
            refine Go_baloadZ (n := 96) (k := (6 * q + c)) (v := (iZ 1)) (pc' := 27) dX12_isReading_26 rfl (I.S.b 124 rfl rfl) (I.S.k 124 rfl rfl rfl) (by omega) (by omega) (by decide) (h0) ?_
            refine Go_if_eqY (tgt := 34) (pc' := 30) dX12_isReading_27 (by decide) rfl (by first | exact ⟨i_lo _, i_hi _⟩ | omega) (fun o27 => by exfalso; omega) (fun o27 => ?_)
            refine Go_iconst (v := iZ 1) (pc' := 31) dX12_isReading_30 rfl (by decide) ?_
            refine Go_goto (tgt := 35) dX12_isReading_31 (by decide) ?_
            refine Go_ireturn (ty := .boolean) dX12_isReading_35 rfl rfl ?_
            refine ⟨_, rfl, ?_⟩
            refine Go_if_eqY (tgt := 23) (pc' := 9) dX12_second_6 (by decide) rfl (by first | exact ⟨i_lo _, i_hi _⟩ | omega) (fun c6 => by exfalso; omega) (fun c6 => ?_)
            refine Go_iload_n (pc' := 10) dX12_second_9 rfl rfl rfl ?_
            refine Go_iconst (v := iZ (-1)) (pc' := 11) dX12_second_10 rfl (by decide) ?_
            refine Go_icmp_eqY (tgt := 25) (pc' := 14) dX12_second_11 (by decide) rfl (by first | exact ⟨i_lo _, i_hi _⟩ | omega) (by first | exact ⟨i_lo _, i_hi _⟩ | omega) (fun c11 => by exfalso; omega) (fun c11 => ?_)
            refine Go_iload_n (pc' := 15) dX12_second_14 rfl rfl rfl ?_
            refine Go_iload (pc' := 17) dX12_second_15 rfl rfl ?_
            refine Go_callS_i (pc' := 20) (As := [.int _, .int _]) (st := []) dX12_second_17 rfl ok_X12_areTimes km_RX12_343 rfl (Nat.le_of_ble_eq_true rfl) rfl rfl rfl (Nat.le_of_ble_eq_true rfl) (Nat.lt_succ_self _) ?_
            refine s_areTimes (by first | exact ⟨i_lo _, i_hi _⟩ | omega) (by first | exact ⟨i_lo _, i_hi _⟩ | omega) ?_
            refine ⟨_, rfl, ?_⟩
            refine Go_if_neb (tgt := 25) (pc' := 23) dX12_second_20 (by decide) rfl (fun c20 => ?_) (fun c20 => ?_)
            · refine Go_bipush (v := iZ 6) (pc' := 27) dX12_second_25 rfl (by decide) ?_
              refine Go_iload_n (pc' := 28) dX12_second_27 rfl rfl rfl ?_
              refine Go_imulZ (pc' := 29) dX12_second_28 rfl ?_
              refine Go_iload_n (pc' := 30) dX12_second_29 rfl rfl rfl ?_
              refine Go_iaddZ (pc' := 31) dX12_second_30 rfl ?_
              refine Go_istore (pc' := 33) (lv' := [.ref _, .int _, .int _, .int _, .int _, .int _]) dX12_second_31 rfl (Nat.le_of_ble_eq_true rfl) rfl rfl ?_
              refine Go_aload_n (pc' := 34) dX12_second_33 rfl rfl rfl ?_
              refine Go_getRs (pc' := 37) dX12_second_34 rfl kf_RX12_96 (by decide) (by decide) rfl (I.S.b 99 rfl rfl) (I.S.o 99 rfl rfl rfl) (I.S.r 99 42 rfl rfl rfl) ?_
              refine Go_iload (pc' := 39) dX12_second_37 rfl rfl ?_
              refine Go_iload_n (pc' := 40) dX12_second_39 rfl rfl rfl ?_
              refine Go_iconst (v := iZ (-1)) (pc' := 41) dX12_second_40 rfl (by decide) ?_
              refine Go_icmp_eqY (tgt := 48) (pc' := 44) dX12_second_41 (by decide) rfl (by first | exact ⟨i_lo _, i_hi _⟩ | omega) (by first | exact ⟨i_lo _, i_hi _⟩ | omega) (fun c41 => by exfalso; omega) (fun c41 => ?_)
              refine Go_iconst (v := iZ 1) (pc' := 45) dX12_second_44 rfl (by decide) ?_
              refine Go_goto (tgt := 49) dX12_second_45 (by decide) ?_
              refine Go_bastoreZ (n := 96) (k := (6 * q + c)) (pc' := 50) dX12_second_49 rfl (I.S.b 125 rfl rfl) (I.S.k 125 rfl rfl rfl) (by omega) (by omega) (by decide) (by decide) ?_
              refine Go_aload_n (pc' := 51) dX12_second_50 rfl rfl rfl ?_
              refine Go_getRs (pc' := 54) dX12_second_51 rfl kf_RX12_105 (by decide) (by decide) rfl (I.S.b 99 rfl rfl) (I.S.o 99 rfl rfl rfl) (I.S.r 99 45 rfl rfl rfl) ?_
              refine Go_iload (pc' := 56) dX12_second_54 rfl rfl ?_
              refine Go_iload_n (pc' := 57) dX12_second_56 rfl rfl rfl ?_
              refine Go_iastoreZ (n := 96) (k := (6 * q + c)) (pc' := 58) dX12_second_57 rfl (I.S.b 128 rfl rfl) (I.S.k 128 rfl rfl rfl) (by omega) (by omega) (by decide) ?_
              refine Go_aload_n (pc' := 59) dX12_second_58 rfl rfl rfl ?_
              refine Go_getRs (pc' := 62) dX12_second_59 rfl kf_RX12_108 (by decide) (by decide) rfl (I.S.b 99 rfl rfl) (I.S.o 99 rfl rfl rfl) (I.S.r 99 46 rfl rfl rfl) ?_
              refine Go_iload (pc' := 64) dX12_second_62 rfl rfl ?_
              refine Go_iload (pc' := 66) dX12_second_64 rfl rfl ?_
              refine Go_iastoreZ (n := 96) (k := (6 * q + c)) (pc' := 67) dX12_second_66 rfl (I.S.b 129 rfl rfl) (I.S.k 129 rfl rfl rfl) (by omega) (by omega) (by decide) ?_
              refine Go_iconst (v := iZ 1) (pc' := 68) dX12_second_67 rfl (by decide) ?_
              refine Go_ireturn (ty := .boolean) dX12_second_68 rfl rfl ?_
              exfalso; omega
            · refine Go_iconst (v := iZ 0) (pc' := 24) dX12_second_23 rfl (by decide) ?_
              refine Go_ireturn (ty := .boolean) dX12_second_24 rfl rfl ?_
              exact k _ I
