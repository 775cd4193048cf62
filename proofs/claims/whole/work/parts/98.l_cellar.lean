/-! pair: cellar -/
theorem RQ.c2 {h h' : HS} (R : RQ h) (le : (vi h 64 2).toInt ≤ (vi h' 64 2).toInt) (e0 : vi h' 64 7 = vi h 64 7) (e1 : vi h' 99 38 = vi h 99 38) (e2 : ∀ c, ri h' 80 c = ri h 80 c) (em : ∀ i, 124 ≤ i → i ≤ 132 → ∀ k, vi h' i k = vi h i k) (hn : hN h ≤ hN h') (hk : ∀ i, i < 64 + hN h → ki h' i = ki h i) (hd : ∀ i, 142 ≤ i → i < 64 + hN h → (ki h i).1 = 5 ∨ (ki h i).1 = 36 ∨ (ki h i).1 = 6 → ∀ k, vi h' i k = vi h i k ∧ ri h' i k = ri h i k) : RQ h' := by
  obtain ⟨r1, r2, r3, r4, r5⟩ := R
  have key : ∀ q : Nat, (q : Int) < (vi h 64 7).toInt → ∀ u, ri h 80 q = some u → ∀ c, c < 6 → ri h' (u + 1) c = ri h (u + 1) c := by
    intro q hq u hu c hc
    obtain ⟨u', a1, a2, -⟩ := r2 q hq
    have : u' = u := Option.some.inj (a1.symm.trans hu)
    subst this
    have b := a2.1
    exact (hd (u' + 1) (by omega) (by omega) (Or.inr (Or.inl (by rw [a2.k1]))) c).2
  refine ⟨by rw [e0, e1]; exact r1, fun q hq => ?_, fun q hq h6 => ?_, fun q q' u u' a b d e => ?_, fun q q' c c' u u' w a b a1 b1 d d' e e' => ?_⟩
  · rw [e0] at hq
    obtain ⟨u, a1, a2, a3, a4⟩ := r2 q hq
    have b := a2.1
    have k0 := hd u (by omega) (by omega) (Or.inl a2.o)
    have k1 := hd (u + 1) (by omega) (by omega) (Or.inr (Or.inl (by rw [a2.k1])))
    refine ⟨u, by rw [e2]; exact a1, ⟨by omega, by rw [hk _ (by omega)]; exact a2.2.1, by rw [hk _ (by omega)]; exact a2.k1, by rw [(k0 0).2]; exact a2.r0⟩, ?_, fun c hc => ?_⟩
    · unfold PlV at a3 ⊢; rw [(k0 1).1, (k0 2).1, em 132 (by decide) (by decide)]; exact a3
    · rcases a4 c hc with ⟨x1, x2⟩ | ⟨w, x1, x2, x3, x4, x5⟩
      · exact Or.inl ⟨by rw [(k1 c).2]; exact x1, by rw [em 124 (by decide) (by decide)]; exact x2⟩
      · have bw := x3.1
        have kw := hd w (by omega) (by omega) (Or.inr (Or.inr x3.o))
        refine Or.inr ⟨w, by rw [(k1 c).2]; exact x1, by rw [em 124 (by decide) (by decide)]; exact x2, ⟨by omega, by rw [hk _ (by omega)]; exact x3.2⟩, ?_, Int.lt_of_lt_of_le x5 le⟩
        unfold RdV at x4 ⊢
        rw [(kw 0).1, (kw 1).1, (kw 2).1, (kw 3).1, (kw 4).1, (kw 5).1, em 125 (by decide) (by decide), em 126 (by decide) (by decide), em 127 (by decide) (by decide), em 128 (by decide) (by decide), em 129 (by decide) (by decide), em 130 (by decide) (by decide), em 131 (by decide) (by decide)]
        exact x4
  · rw [e0] at h6
    rw [em 132 (by decide) (by decide)]
    obtain ⟨x1, x2⟩ := r3 q hq h6
    exact ⟨x1, fun c hc => by rw [em 124 (by decide) (by decide)]; exact x2 c hc⟩
  · rw [e0] at b; rw [e2] at d e
    exact r4 q q' u u' a b d e
  · rw [e0] at a b; rw [e2] at a1 b1
    rw [key q a u a1 c d] at e
    rw [key q' b u' b1 c' d'] at e'
    exact r5 q q' c c' u u' w a b a1 b1 d d' e e'
/-- a new cellar is put behind the nc -/
theorem RC.new {h h' : HS} (R : RC h) {nc N : Nat} {X Y : Int} (hN0 : N = 64 + hN h) (h142 : 142 ≤ N) (hc6 : nc < 6) (e2 : vi h 64 2 = iZ (nc : Int)) (hX : 0 ≤ X ∧ X ≤ 39) (hY : 0 ≤ Y ∧ Y ≤ 39) (hn : hN h' = hN h + 4) (hk : ∀ i, i < N → ki h' i = ki h i) (k0 : ki h' N = (2, 0)) (k1 : ki h' (N + 1) = (20, 200)) (k2 : ki h' (N + 2) = (20, 40)) (k3 : ki h' (N + 3) = (20, 40)) (e2' : vi h' 64 2 = iZ ((nc : Int) + 1)) (e0' : vi h' 99 0 = iZ ((nc : Int) + 1))
    (ev : ∀ i k, 100 ≤ i → i < N → (¬ (i ≤ 103 ∧ k = nc) ∧ ¬ ((i = 112 ∨ i = 113) ∧ k = nc)) → vi h' i k = vi h i k) (er : ∀ i k, 142 ≤ i → i < N → ri h' i k = ri h i k) (e67 : ∀ k, k ≠ nc → ri h' 67 k = ri h 67 k) (r67 : ri h' 67 nc = some N) (r7 : ri h' N 7 = some (N + 1)) (r9 : ri h' N 9 = some (N + 2)) (r10 : ri h' N 10 = some (N + 3))
    (v0 : vi h' N 0 = iZ X) (v1 : vi h' N 1 = iZ Y) (v2 : vi h' N 2 = iZ 8) (v3 : vi h' N 3 = iZ 16) (v4 : vi h' N 4 = iZ 99) (v13 : vi h' N 13 = iZ 600) (v14 : vi h' N 14 = iZ 600) (vz : ∀ k, k = 5 ∨ k = 6 ∨ k = 8 ∨ k = 11 ∨ k = 12 ∨ k = 15 → vi h' N k = 0) (m0 : vi h' 100 nc = iZ (40 * Y + X)) (m1 : vi h' 101 nc = iZ 8) (m2 : vi h' 102 nc = iZ 16) (m3 : vi h' 103 nc = iZ 99) (m12 : vi h' 112 nc = iZ 600) (m13 : vi h' 113 nc = iZ 600) : RC h' := by
  obtain ⟨r1, r2, r3, r4⟩ := R
  have ez : (vi h 64 2).toInt = (nc : Int) := by rw [e2, iZ_t (by omega)]
  have ez' : (vi h' 64 2).toInt = (nc : Int) + 1 := by rw [e2', iZ_t (by omega)]
  rw [ez] at r2 r3 r4
  have cc : ∀ c o : Nat, (c : Int) < nc → ri h 67 c = some o → CelS h o := by
    intro c o a b
    obtain ⟨o1, a1, a2, -⟩ := r2 c a
    rw [a1] at b; cases b; exact a2
  refine ⟨⟨e0'.trans e2'.symm, by rw [e2']; exact rgz (by omega) (by omega)⟩, fun c hc => ?_, fun c hc h6 => ?_, fun c c' o o' a b d e => ?_⟩
  · rw [ez'] at hc
    by_cases z : c = nc
    · subst z
      obtain ⟨z1, z2, z3, z4, z5, z6⟩ := r3 c hc6 (by omega)
      have g : ∀ i, 104 ≤ i → i ≤ 114 → i ≠ 112 → i ≠ 113 → vi h' i c = vi h i c := fun i a b d e => ev i c (by omega) (by omega) (by omega)
      have n0 : (0 : Int32).toInt = 0 := rfl
      refine ⟨N, r67, ⟨by omega, k0, k1, k2, k3, r7, r9, r10⟩, ⟨?_, ?_, ?_⟩, ⟨⟨?_, ?_⟩, ⟨?_, ?_⟩, ?_, ?_⟩, ⟨?_, ?_⟩, ⟨⟨?_, ?_⟩, ?_⟩, ⟨⟨?_, ?_⟩, ?_, ?_⟩, ⟨⟨?_, ?_⟩, ⟨?_, ?_⟩, ?_, ?_⟩, ?_, ?_⟩
      · rw [v0]; exact rgz hX (by omega)
      · rw [v1]; exact rgz hY (by omega)
      · rw [v0, v1, m0, iZ_t (by omega), iZ_t (by omega), iZ_t (by omega)]
      · rw [v2, m1]
      · rw [v2]; exact rgz (by omega) (by omega)
      · rw [v3, m2]
      · rw [v3]; exact rgz (by omega) (by omega)
      · rw [v4, m3]
      · rw [v4]; exact rgz (by omega) (by omega)
      · rw [vz 5 (by omega), g 104 (by omega) (by omega) (by omega) (by omega), z1]
      · rw [vz 6 (by omega), g 105 (by omega) (by omega) (by omega) (by omega), z2]
      · rw [vz 8 (by omega), g 107 (by omega) (by omega) (by omega) (by omega), z3]
      · rw [vz 8 (by omega)]; unfold rg; rw [n0]; omega
      · intro i hi; rw [vz 8 (by omega), n0] at hi; omega
      · rw [vz 11 (by omega), g 110 (by omega) (by omega) (by omega) (by omega), z4]
      · rw [vz 11 (by omega)]; unfold rg; rw [n0]; omega
      · intro i hi; rw [vz 11 (by omega), n0] at hi; omega
      · intro i hi; rw [vz 11 (by omega), n0] at hi; omega
      · rw [vz 12 (by omega), g 111 (by omega) (by omega) (by omega) (by omega), z5]
      · rw [vz 12 (by omega)]; unfold rg; rw [n0]; omega
      · rw [v13, m12]
      · rw [v13]; exact rgz (by omega) (by omega)
      · rw [v14, m13]
      · rw [v14]; exact rgz (by omega) (by omega)
      · rw [vz 15 (by omega), g 114 (by omega) (by omega) (by omega) (by omega), z6]
      · rw [vz 15 (by omega)]; unfold rg; rw [n0]; omega
    · obtain ⟨o, a1, a2, a3⟩ := r2 c (by omega)
      have b := a2.1
      refine ⟨o, by rw [e67 c z]; exact a1, a2.fr (by omega) (fun i hi => hk i (by omega)) (fun k => er _ _ (by omega) (by omega)), a3.fr (fun k => ev _ _ (by omega) (by omega) (by omega)) (fun k => ev _ _ (by omega) (by omega) (by omega)) (fun k => ev _ _ (by omega) (by omega) (by omega)) (fun k => ev _ _ (by omega) (by omega) (by omega)) (fun i x y _ _ _ => ev i c (by omega) (by omega) (by omega)) (fun k hk' => ev 106 _ (by omega) (by omega) (by omega)) (fun k hk' => ⟨ev 108 _ (by omega) (by omega) (by omega), ev 109 _ (by omega) (by omega) (by omega)⟩)⟩
  · rw [ez'] at h6
    rw [ev 104 _ (by omega) (by omega) (by omega), ev 105 _ (by omega) (by omega) (by omega), ev 107 _ (by omega) (by omega) (by omega), ev 110 _ (by omega) (by omega) (by omega), ev 111 _ (by omega) (by omega) (by omega), ev 114 _ (by omega) (by omega) (by omega)]
    exact r3 c hc (by omega)
  · rw [ez'] at b
    rw [e67 c (by omega)] at d
    have bo := (cc c o (by omega) d).1
    by_cases z : c' = nc
    · subst z; rw [r67] at e; cases e; omega
    · rw [e67 c' z] at e
      exact r4 c c' o o' a (by omega) d e
def hC0 (h : HS) (X Y : Int) : HS := wI (wI (wI (wI (wI (nw h (2, 0)) (64 + hN h) 0 (iZ X)) (64 + hN h) 1 (iZ Y)) (64 + hN h) 2 (iZ 8)) (64 + hN h) 3 (iZ 16)) (64 + hN h) 4 (iZ 99)
def hCb (h : HS) (X Y : Int) : HS := wI (wI (wR (nw (wR (nw (wR (nw (hC0 h X Y) (20, 200)) (64 + hN h) 7 (some (64 + hN h + 1))) (20, 40)) (64 + hN h) 9 (some (64 + hN h + 2))) (20, 40)) (64 + hN h) 10 (some (64 + hN h + 3))) (64 + hN h) 13 (iZ 600)) (64 + hN h) 14 (iZ 600)
theorem hCb_n {h : HS} {X Y : Int} : hN (hCb h X Y) = hN h + 4 := rfl
theorem hC0_n {h : HS} {X Y : Int} : hN (hC0 h X Y) = hN h + 1 := rfl
theorem hC0_v {h : HS} {X Y : Int} {i k : Nat} (hi : i < 64 + hN h) : vi (hC0 h X Y) i k = vi h i k := (vi_skip (Or.inl (by omega))).trans ((vi_skip (Or.inl (by omega))).trans ((vi_skip (Or.inl (by omega))).trans ((vi_skip (Or.inl (by omega))).trans ((vi_skip (Or.inl (by omega))).trans (vi_nwo (t := (2, 0)) (by omega))))))
theorem hCb_N {h : HS} {X Y : Int} {i k : Nat} (h13 : i ≠ 64 + hN h ∨ (k ≠ 13 ∧ k ≠ 14)) (hi : i ≤ 64 + hN h) : vi (hCb h X Y) i k = vi (hC0 h X Y) i k :=
  (vi_skip (by omega)).trans ((vi_skip (by omega)).trans ((vi_nwo (t := (20, 40)) (show i ≠ 64 + (hN h + 3) by omega)).trans ((vi_nwo (t := (20, 40)) (show i ≠ 64 + (hN h + 2) by omega)).trans (vi_nwo (t := (20, 200)) (show i ≠ 64 + (hN h + 1) by omega)))))
theorem hCb_r {h : HS} {X Y : Int} {i k : Nat} (hi : i < 64 + hN h) : ri (hCb h X Y) i k = ri h i k :=
  (ri_skip (Or.inl (by omega))).trans ((ri_nwo (t := (20, 40)) (show i ≠ 64 + (hN h + 3) by omega)).trans ((ri_skip (Or.inl (by omega))).trans ((ri_nwo (t := (20, 40)) (show i ≠ 64 + (hN h + 2) by omega)).trans ((ri_skip (Or.inl (by omega))).trans ((ri_nwo (t := (20, 200)) (show i ≠ 64 + (hN h + 1) by omega)).trans (ri_nwo (t := (2, 0)) (by omega)))))))
theorem hCb_k {h : HS} {X Y : Int} {i : Nat} (hi : i < 64 + hN h) : ki (hCb h X Y) i = ki h i := (ki_nwo (t := (20, 40)) (show i ≠ 64 + (hN h + 3) by omega)).trans ((ki_nwo (t := (20, 40)) (show i ≠ 64 + (hN h + 2) by omega)).trans ((ki_nwo (t := (20, 200)) (show i ≠ 64 + (hN h + 1) by omega)).trans (ki_nwo (t := (2, 0)) (by omega))))
theorem hCb_k0 {h : HS} {X Y : Int} : ki (hCb h X Y) (64 + hN h) = (2, 0) := (ki_nwo (t := (20, 40)) (show 64 + hN h ≠ 64 + (hN h + 3) by omega)).trans ((ki_nwo (t := (20, 40)) (show 64 + hN h ≠ 64 + (hN h + 2) by omega)).trans ((ki_nwo (t := (20, 200)) (show 64 + hN h ≠ 64 + (hN h + 1) by omega)).trans (ki_nws (t := (2, 0)) rfl)))
theorem hCb_k1 {h : HS} {X Y : Int} : ki (hCb h X Y) (64 + hN h + 1) = (20, 200) := (ki_nwo (t := (20, 40)) (show 64 + hN h + 1 ≠ 64 + (hN h + 3) by omega)).trans ((ki_nwo (t := (20, 40)) (show 64 + hN h + 1 ≠ 64 + (hN h + 2) by omega)).trans (ki_nws (t := (20, 200)) rfl))
theorem hCb_k2 {h : HS} {X Y : Int} : ki (hCb h X Y) (64 + hN h + 2) = (20, 40) := (ki_nwo (t := (20, 40)) (show 64 + hN h + 2 ≠ 64 + (hN h + 3) by omega)).trans (ki_nws (t := (20, 40)) rfl)
theorem hCb_k3 {h : HS} {X Y : Int} : ki (hCb h X Y) (64 + hN h + 3) = (20, 40) := ki_nws (t := (20, 40)) rfl
def hCc (h : HS) (X Y : Int) (nc : Nat) : HS := wI (wR (hCb h X Y) 67 nc (some (64 + hN h))) 64 2 (iZ ((nc : Int) + 1))
theorem hCc_S {h : HS} {X Y : Int} {nc : Nat} (S : Shp h) : Shp (wR (hCb h X Y) 67 nc (some (64 + hN h))) := by
  have c := S.1
  refine ⟨by show 78 ≤ hN h + 4; omega, fun i a b => (hCb_k (by omega)).trans (S.2.1 i a b), fun i a b k r e => ?_⟩
  have n67 : i ≠ 67 := fun z => by subst z; unfold sR at e; cases e
  rw [ri_skip (Or.inl n67), hCb_r (by omega)]; exact S.2.2 i a b k r e
theorem Inv.nc {h : HS} (I : Inv h) {nc : Nat} {X Y : Int} (hc6 : nc < 6) (e2 : vi h 64 2 = iZ (nc : Int)) (hX : 0 ≤ X ∧ X ≤ 39) (hY : 0 ≤ Y ∧ Y ≤ 39) : Inv (wI (wI (wI (wI (wI (wI (wI (hCc h X Y nc) 100 nc (iZ (40 * Y + X))) 101 nc (iZ 8)) 102 nc (iZ 16)) 103 nc (iZ 99)) 112 nc (iZ 600)) 113 nc (iZ 600)) 99 0 (iZ ((nc : Int) + 1))) := by
  have c := I.S.1
  have v : ∀ i k, i < 64 + hN h → (i ≠ 64 ∨ k ≠ 2) → (i ≠ 99 ∨ k ≠ 0) → (¬ (100 ≤ i ∧ i ≤ 103 ∧ k = nc) ∧ ¬ ((i = 112 ∨ i = 113) ∧ k = nc)) → vi (wI (wI (wI (wI (wI (wI (wI (hCc h X Y nc) 100 nc (iZ (40 * Y + X))) 101 nc (iZ 8)) 102 nc (iZ 16)) 103 nc (iZ 99)) 112 nc (iZ 600)) 113 nc (iZ 600)) 99 0 (iZ ((nc : Int) + 1))) i k = vi h i k := fun i k a b d e => ((vi_skip (by omega)).trans ((vi_skip (by omega)).trans ((vi_skip (by omega)).trans ((vi_skip (by omega)).trans ((vi_skip (by omega)).trans ((vi_skip (by omega)).trans ((vi_skip (by omega)).trans ((vi_skip (by omega)).trans ((hCb_N (by omega) (by omega)).trans (hC0_v a))))))))))
  have r : ∀ i k, i < 64 + hN h → (i ≠ 67 ∨ k ≠ nc) → ri (wI (wI (wI (wI (wI (wI (wI (hCc h X Y nc) 100 nc (iZ (40 * Y + X))) 101 nc (iZ 8)) 102 nc (iZ 16)) 103 nc (iZ 99)) 112 nc (iZ 600)) 113 nc (iZ 600)) 99 0 (iZ ((nc : Int) + 1))) i k = ri h i k := fun i k a b => (ri_skip b).trans (hCb_r a)
  have so : ∀ {P : Nat → Nat → Bool}, (∀ i k, P i k = true → i < 100 ∨ (114 < i ∧ i < 142)) → (∀ k, P 67 k = false) → P 64 2 = false → P 99 0 = false → SameOn P h (wI (wI (wI (wI (wI (wI (wI (hCc h X Y nc) 100 nc (iZ (40 * Y + X))) 101 nc (iZ 8)) 102 nc (iZ 16)) 103 nc (iZ 99)) 112 nc (iZ 600)) 113 nc (iZ 600)) 99 0 (iZ ((nc : Int) + 1))) := by
    intro P hP h67 h1 h2 i k e
    have a := hP i k e
    refine ⟨v i k (by omega) ?_ ?_ (by omega), r i k (by omega) (Or.inl (fun z => by rw [z, h67] at e; cases e))⟩
    · by_cases z : i = 64 ∧ k = 2
      · rw [z.1, z.2, h1] at e; cases e
      · omega
    · by_cases z : i = 99 ∧ k = 0
      · rw [z.1, z.2, h2] at e; cases e
      · omega
  refine ⟨hCc_S I.S, I.D.fr (so fp_D (fun _ => rfl) rfl rfl), I.W.fr (so fp_W (fun _ => rfl) rfl rfl), I.P.fr (so fp_P (fun _ => rfl) rfl rfl), I.E.fr (so fp_E (fun _ => rfl) rfl rfl), I.F.fr (so fp_F (fun _ => rfl) rfl rfl), I.T.fr (so fp_T (fun _ => rfl) rfl rfl), I.G.fr (so fp_G (fun _ => rfl) rfl rfl), ?_, ?_⟩
  · have w : ∀ k, k ≠ 13 → k ≠ 14 → vi (wI (wI (wI (wI (wI (wI (wI (hCc h X Y nc) 100 nc (iZ (40 * Y + X))) 101 nc (iZ 8)) 102 nc (iZ 16)) 103 nc (iZ 99)) 112 nc (iZ 600)) 113 nc (iZ 600)) 99 0 (iZ ((nc : Int) + 1))) (64 + hN h) k = vi (hC0 h X Y) (64 + hN h) k := fun k a b => ((vi_skip (by omega)).trans ((vi_skip (by omega)).trans ((vi_skip (by omega)).trans ((vi_skip (by omega)).trans ((vi_skip (by omega)).trans ((vi_skip (by omega)).trans ((vi_skip (by omega)).trans ((vi_skip (by omega)).trans (hCb_N (by omega) (by omega))))))))))
    refine I.C.new (N := 64 + hN h) (X := X) (Y := Y) rfl (by omega) hc6 e2 hX hY rfl (fun i hi => hCb_k hi) hCb_k0 hCb_k1 hCb_k2 hCb_k3 ?_ vi_same (fun i k a b e => v i k (by omega) (by omega) (by omega) (by omega)) (fun i k a b => r i k (by omega) (by omega)) (fun k hk => r 67 k (by omega) (Or.inr hk)) ri_same ?_ ?_ ?_ ?_ ?_ ?_ ?_ ?_ ?_ ?_ ?_ ?_ ?_ ?_ ?_ ?_ ?_
    · exact ((vi_skip (by omega)).trans ((vi_skip (by omega)).trans ((vi_skip (by omega)).trans ((vi_skip (by omega)).trans ((vi_skip (by omega)).trans ((vi_skip (by omega)).trans ((vi_skip (by omega)).trans (vi_same))))))))
    · exact (ri_skip (Or.inl (by omega))).trans ((ri_skip (Or.inr (by decide))).trans ((ri_nwo (t := (20, 40)) (show 64 + hN h ≠ 64 + (hN h + 3) by omega)).trans ((ri_skip (Or.inr (by decide))).trans ((ri_nwo (t := (20, 40)) (show 64 + hN h ≠ 64 + (hN h + 2) by omega)).trans ri_same))))
    · exact (ri_skip (Or.inl (by omega))).trans ((ri_skip (Or.inr (by decide))).trans ((ri_nwo (t := (20, 40)) (show 64 + hN h ≠ 64 + (hN h + 3) by omega)).trans ri_same))
    · exact (ri_skip (Or.inl (by omega))).trans ri_same
    · rw [w 0 (by omega) (by omega)]; exact (vi_skip (by omega)).trans ((vi_skip (by omega)).trans ((vi_skip (by omega)).trans ((vi_skip (by omega)).trans vi_same)))
    · rw [w 1 (by omega) (by omega)]; exact (vi_skip (by omega)).trans ((vi_skip (by omega)).trans ((vi_skip (by omega)).trans vi_same))
    · rw [w 2 (by omega) (by omega)]; exact (vi_skip (by omega)).trans ((vi_skip (by omega)).trans vi_same)
    · rw [w 3 (by omega) (by omega)]; exact (vi_skip (by omega)).trans vi_same
    · rw [w 4 (by omega) (by omega)]; exact vi_same
    · exact ((vi_skip (by omega)).trans ((vi_skip (by omega)).trans ((vi_skip (by omega)).trans ((vi_skip (by omega)).trans ((vi_skip (by omega)).trans ((vi_skip (by omega)).trans ((vi_skip (by omega)).trans ((vi_skip (by omega)).trans ((vi_skip (by omega)).trans (vi_same))))))))))
    · exact ((vi_skip (by omega)).trans ((vi_skip (by omega)).trans ((vi_skip (by omega)).trans ((vi_skip (by omega)).trans ((vi_skip (by omega)).trans ((vi_skip (by omega)).trans ((vi_skip (by omega)).trans ((vi_skip (by omega)).trans (vi_same)))))))))
    · intro k hk
      rw [w k (by omega) (by omega)]
      exact (vi_skip (by omega)).trans ((vi_skip (by omega)).trans ((vi_skip (by omega)).trans ((vi_skip (by omega)).trans ((vi_skip (by omega)).trans (vi_nws (t := (2, 0)) rfl)))))
    · exact ((vi_skip (by omega)).trans ((vi_skip (by omega)).trans ((vi_skip (by omega)).trans ((vi_skip (by omega)).trans ((vi_skip (by omega)).trans ((vi_skip (by omega)).trans (vi_same)))))))
    · exact ((vi_skip (by omega)).trans ((vi_skip (by omega)).trans ((vi_skip (by omega)).trans ((vi_skip (by omega)).trans ((vi_skip (by omega)).trans (vi_same))))))
    · exact ((vi_skip (by omega)).trans ((vi_skip (by omega)).trans ((vi_skip (by omega)).trans ((vi_skip (by omega)).trans (vi_same)))))
    · exact ((vi_skip (by omega)).trans ((vi_skip (by omega)).trans ((vi_skip (by omega)).trans (vi_same))))
    · exact ((vi_skip (by omega)).trans ((vi_skip (by omega)).trans (vi_same)))
    · exact ((vi_skip (by omega)).trans (vi_same))
  · refine I.Q.c2 ?_ (v 64 7 (by omega) (by decide) (by decide) (by omega)) (v 99 38 (by omega) (by decide) (by decide) (by omega)) (fun c => r 80 c (by omega) (Or.inl (by decide))) (fun i a b k => v i k (by omega) (by omega) (by omega) (by omega)) (show hN h ≤ hN h + 4 by omega) (fun i hi => hCb_k hi) (fun i h1 h2 h3 k => ⟨v i k (by omega) (by omega) (by omega) (by omega), r i k (by omega) (by omega)⟩)
    rw [e2, iZ_t (by omega), show vi (wI (wI (wI (wI (wI (wI (wI (hCc h X Y nc) 100 nc (iZ (40 * Y + X))) 101 nc (iZ 8)) 102 nc (iZ 16)) 103 nc (iZ 99)) 112 nc (iZ 600)) 113 nc (iZ 600)) 99 0 (iZ ((nc : Int) + 1))) 64 2 = iZ ((nc : Int) + 1) from ((vi_skip (by omega)).trans ((vi_skip (by omega)).trans ((vi_skip (by omega)).trans ((vi_skip (by omega)).trans ((vi_skip (by omega)).trans ((vi_skip (by omega)).trans ((vi_skip (by omega)).trans (vi_same)))))))), iZ_t (by omega)]; omega
set_option maxRecDepth 20000 in
set_option maxHeartbeats 1000000 in
theorem s_initL {G : GC} {d : Nat} {h : HS} {K : Option Value → HS → Prop} {X Y : Int} (hk : K none (hCb h X Y)) : Go G (d + 1) 3 280 M_X2_init 0 [.ref (64 + hN h), .int (iZ X), .int (iZ Y)] [] (nw h (2, 0)) K := by
  refine Go_aload_n (pc' := 1) dX2_init_0 rfl rfl rfl ?_
  refine Go_objInit (pc' := 4) dX2_init_1 rfl km_RX2_3 oi_inst oi_code (Nat.le_of_ble_eq_true rfl) (Nat.succ_pos _) ?_
  refine Go_aload_n (pc' := 5) dX2_init_4 rfl rfl rfl ?_
  refine Go_iload_n (pc' := 6) dX2_init_5 rfl rfl rfl ?_
  refine Go_putI (pc' := 9) dX2_init_6 rfl kf_RX2_9 (by decide) (by decide) rfl ⟨by omega, by show 64 + hN h < 64 + (hN h + 1); omega⟩ (show (ki (nw h (2, 0)) (64 + hN h)).1 = 2 by rw [ki_nws rfl]) (Or.inr ⟨rfl, rfl, rfl⟩) rfl rfl ?_
  refine Go_aload_n (pc' := 10) dX2_init_9 rfl rfl rfl ?_
  refine Go_iload_n (pc' := 11) dX2_init_10 rfl rfl rfl ?_
  refine Go_putI (pc' := 14) dX2_init_11 rfl kf_RX2_15 (by decide) (by decide) rfl ⟨by omega, by show 64 + hN h < 64 + (hN h + 1); omega⟩ (show (ki (nw h (2, 0)) (64 + hN h)).1 = 2 by rw [ki_nws rfl]) (Or.inr ⟨rfl, rfl, rfl⟩) rfl rfl ?_
  refine Go_aload_n (pc' := 15) dX2_init_14 rfl rfl rfl ?_
  refine Go_bipush (v := iZ 8) (pc' := 17) dX2_init_15 rfl (by decide) ?_
  refine Go_putI (pc' := 20) dX2_init_17 rfl kf_RX2_18 (by decide) (by decide) rfl ⟨by omega, by show 64 + hN h < 64 + (hN h + 1); omega⟩ (show (ki (nw h (2, 0)) (64 + hN h)).1 = 2 by rw [ki_nws rfl]) (Or.inl rfl) rfl rfl ?_
  refine Go_aload_n (pc' := 21) dX2_init_20 rfl rfl rfl ?_
  refine Go_bipush (v := iZ 16) (pc' := 23) dX2_init_21 rfl (by decide) ?_
  refine Go_putI (pc' := 26) dX2_init_23 rfl kf_RX2_21 (by decide) (by decide) rfl ⟨by omega, by show 64 + hN h < 64 + (hN h + 1); omega⟩ (show (ki (nw h (2, 0)) (64 + hN h)).1 = 2 by rw [ki_nws rfl]) (Or.inl rfl) rfl rfl ?_
  refine Go_aload_n (pc' := 27) dX2_init_26 rfl rfl rfl ?_
  refine Go_bipush (v := iZ 99) (pc' := 29) dX2_init_27 rfl (by decide) ?_
  refine Go_putI (pc' := 32) dX2_init_29 rfl kf_RX2_24 (by decide) (by decide) rfl ⟨by omega, by show 64 + hN h < 64 + (hN h + 1); omega⟩ (show (ki (nw h (2, 0)) (64 + hN h)).1 = 2 by rw [ki_nws rfl]) (Or.inl rfl) rfl rfl ?_
  refine Go_aload_n (pc' := 33) dX2_init_32 rfl rfl rfl ?_
  refine Go_sipush (v := iZ 200) (pc' := 36) dX2_init_33 rfl (by decide) ?_
  show Go G _ 3 280 M_X2_init 36 _ _ (hC0 h X Y) K
  refine Go_newarrayL (t := 20) (n := 200) (N := 64 + hN h + 1) (mc := 2) (ms := 80) (pc' := 38) dX2_init_36 rfl (Or.inl ⟨rfl, rfl⟩) (by decide) (by decide) (Nat.le_of_ble_eq_true rfl) (Nat.le_of_ble_eq_true rfl) rfl ?_
  refine Go_putRs (pc' := 41) dX2_init_38 rfl kf_RX2_27 (by decide) (by decide) rfl ⟨by omega, by show 64 + hN h < 64 + (hN h + 2); omega⟩ (by have z : ki (nw (hC0 h X Y) (20, 200)) (64 + hN h) = (2, 0) := (ki_nwo (t := (20, 200)) (show 64 + hN h ≠ 64 + (hN h + 1) by omega)).trans (ki_nws (t := (2, 0)) rfl); rw [z]) (Or.inr ⟨rfl, rfl, rfl⟩) (fun v => by cases v <;> exact ⟨rfl, rfl⟩) ?_
  refine Go_aload_n (pc' := 42) dX2_init_41 rfl rfl rfl ?_
  refine Go_bipush (v := iZ 40) (pc' := 44) dX2_init_42 rfl (by decide) ?_
  refine Go_newarrayL (t := 20) (n := 40) (N := 64 + hN h + 2) (mc := 1) (ms := 40) (pc' := 46) dX2_init_44 rfl (Or.inl ⟨rfl, rfl⟩) (by decide) (by decide) (Nat.le_of_ble_eq_true rfl) (Nat.le_of_ble_eq_true rfl) rfl ?_
  refine Go_putRs (pc' := 49) dX2_init_46 rfl kf_RX2_31 (by decide) (by decide) rfl ⟨by omega, by show 64 + hN h < 64 + (hN h + 3); omega⟩ (by have z : ki (nw (wR (nw (hC0 h X Y) (20, 200)) (64 + hN h) 7 (some (64 + hN h + 1))) (20, 40)) (64 + hN h) = (2, 0) := (ki_nwo (t := (20, 40)) (show 64 + hN h ≠ 64 + (hN h + 2) by omega)).trans ((ki_nwo (t := (20, 200)) (show 64 + hN h ≠ 64 + (hN h + 1) by omega)).trans (ki_nws (t := (2, 0)) rfl)); rw [z]) (Or.inr ⟨rfl, rfl, rfl⟩) (fun v => by cases v <;> exact ⟨rfl, rfl⟩) ?_
  refine Go_aload_n (pc' := 50) dX2_init_49 rfl rfl rfl ?_
  refine Go_bipush (v := iZ 40) (pc' := 52) dX2_init_50 rfl (by decide) ?_
  refine Go_newarrayL (t := 20) (n := 40) (N := 64 + hN h + 3) (mc := 0) (ms := 0) (pc' := 54) dX2_init_52 rfl (Or.inl ⟨rfl, rfl⟩) (by decide) (by decide) (Nat.le_of_ble_eq_true rfl) (Nat.le_of_ble_eq_true rfl) rfl ?_
  refine Go_putRs (pc' := 57) dX2_init_54 rfl kf_RX2_34 (by decide) (by decide) rfl ⟨by omega, by show 64 + hN h < 64 + (hN h + 4); omega⟩ (by exact congrArg Prod.fst (hCb_k0 (X := X) (Y := Y))) (Or.inr ⟨rfl, rfl, rfl⟩) (fun v => by cases v <;> exact ⟨rfl, rfl⟩) ?_
  refine Go_aload_n (pc' := 58) dX2_init_57 rfl rfl rfl ?_
  refine Go_sipush (v := iZ 600) (pc' := 61) dX2_init_58 rfl (by decide) ?_
  refine Go_putI (pc' := 64) dX2_init_61 rfl kf_RX2_37 (by decide) (by decide) rfl ⟨by omega, by show 64 + hN h < 64 + (hN h + 4); omega⟩ (congrArg Prod.fst (hCb_k0 (X := X) (Y := Y))) (Or.inl rfl) rfl rfl ?_
  refine Go_aload_n (pc' := 65) dX2_init_64 rfl rfl rfl ?_
  refine Go_sipush (v := iZ 600) (pc' := 68) dX2_init_65 rfl (by decide) ?_
  refine Go_putI (pc' := 71) dX2_init_68 rfl kf_RX2_40 (by decide) (by decide) rfl ⟨by omega, by show 64 + hN h < 64 + (hN h + 4); omega⟩ (congrArg Prod.fst (hCb_k0 (X := X) (Y := Y))) (Or.inl rfl) rfl rfl ?_
  refine Go_return dX2_init_71 rfl ?_
  exact hk
set_option maxRecDepth 20000 in
set_option maxHeartbeats 10000000 in
theorem pair0 {G : GC} (a b : Int32) : PairI G M_X11_cellar M_X12_cellar [.int a, .int b] := by
  intro h I
  obtain ⟨Az, hva, rfl⟩ := i_eta a
  obtain ⟨Bz, hvb, rfl⟩ := i_eta b
  obtain ⟨nc, hnc, ec2⟩ := of_rgZ (b := 6) I.C.1.2
  have ec0 : vi h 99 0 = iZ (nc : Int) := I.C.1.1.trans ec2
  have c78 := I.S.1
  refine ⟨fun r h1 => ((((0 ≤ Az ∧ Az ≤ 39) ∧ (0 ≤ Bz ∧ Bz ≤ 39)) ∧ nc < 6) ∧ r = iZ (nc : Int) ∧ h1 = hCc h Az Bz nc) ∨ (¬ (((0 ≤ Az ∧ Az ≤ 39) ∧ (0 ≤ Bz ∧ Bz ≤ 39)) ∧ nc < 6) ∧ r = iZ (-1) ∧ h = h1), fun K k => ?_, ?_⟩
  · refine Go.more (d := 60) (mc := 4) (ms := 296) ?_ (by omega) (by omega) (by omega)
    show Go G 60 4 296 M_X11_cellar 0 [.ref 64, .int (iZ Az), .int (iZ Bz)] [] h K
    refine Go_iload_n (pc' := 1) dX11_cellar_0 rfl rfl rfl ?_
    refine Go_iload_n (pc' := 2) dX11_cellar_1 rfl rfl rfl ?_
    refine Go_callS_i (pc' := 5) (As := [.int _, .int _]) (st := []) dX11_cellar_2 rfl ok_X11_isCell km_RX11_80 rfl (Nat.le_of_ble_eq_true rfl) rfl rfl rfl (Nat.le_of_ble_eq_true rfl) (Nat.lt_succ_self _) ?_
    refine s_isCellY (by first | exact ⟨i_lo _, i_hi _⟩ | omega) (by first | exact ⟨i_lo _, i_hi _⟩ | omega) ?_
    refine ⟨_, rfl, ?_⟩
    refine Go_if_eqb (tgt := 17) (pc' := 8) dX11_cellar_5 (by decide) rfl (fun c5 => ?_) (fun c5 => ?_)
    · refine Go_iconst (v := iZ (-1)) (pc' := 18) dX11_cellar_17 rfl (by decide) ?_
      refine Go_ireturn (ty := .int) dX11_cellar_18 rfl rfl ?_
      exact k _ _ (Or.inr ⟨by omega, rfl, rfl⟩) I.S
    · refine Go_aload_n (pc' := 9) dX11_cellar_8 rfl rfl rfl ?_
      refine Go_getIv (v := (iZ (nc : Int))) (pc' := 12) dX11_cellar_9 rfl kf_RX11_84 (by decide) (by decide) rfl (I.S.b 64 rfl rfl) (I.S.o 64 rfl rfl rfl) (ec2) ?_
      refine Go_bipush (v := iZ 6) (pc' := 14) dX11_cellar_12 rfl (by decide) ?_
      refine Go_icmp_ltY (tgt := 19) (pc' := 17) dX11_cellar_14 (by decide) rfl (by first | exact ⟨i_lo _, i_hi _⟩ | omega) (by first | exact ⟨i_lo _, i_hi _⟩ | omega) (fun c14 => ?_) (fun c14 => ?_)
      · refine Go_aload_n (pc' := 20) dX11_cellar_19 rfl rfl rfl ?_
        refine Go_getRs (pc' := 23) dX11_cellar_20 rfl kf_RX11_18 (by decide) (by decide) rfl (I.S.b 64 rfl rfl) (I.S.o 64 rfl rfl rfl) (I.S.r 64 1 rfl rfl rfl) ?_
        refine Go_aload_n (pc' := 24) dX11_cellar_23 rfl rfl rfl ?_
        refine Go_getIv (v := (iZ (nc : Int))) (pc' := 27) dX11_cellar_24 rfl kf_RX11_84 (by decide) (by decide) rfl (I.S.b 64 rfl rfl) (I.S.o 64 rfl rfl rfl) (ec2) ?_
        refine Go_newL (t := 2) (N := 64 + hN h) (mc := 3) (ms := 280) (pc' := 30) dX11_cellar_27 rfl (by decide) kc_RX11_16 inst2 ini2 (defv 2 (by decide)) (Nat.le_of_ble_eq_true rfl) (Nat.le_of_ble_eq_true rfl) rfl ?_
        refine Go_dup (pc' := 31) dX11_cellar_30 rfl rfl ?_
        refine Go_iload_n (pc' := 32) dX11_cellar_31 rfl rfl rfl ?_
        refine Go_iload_n (pc' := 33) dX11_cellar_32 rfl rfl rfl ?_
        refine Go_callI_v (mc := 0) (ms := 0) (mc2 := 3) (ms2 := 280) (pc' := 36) (As := [.int _, .int _]) (st := [.ref _, .int _, .ref _]) dX11_cellar_33 rfl ok_X2_init km_RX11_87 rfl (Nat.le_of_ble_eq_true rfl) rfl rfl rfl (Nat.le_of_ble_eq_true rfl) (Nat.lt_succ_self _) (Nat.le_of_ble_eq_true rfl) (Nat.le_of_ble_eq_true rfl) ?_
        refine s_initL ?_
        refine ⟨rfl, ?_⟩
        refine Go_aastoreZ (t := 32) (n := 6) (k := nc) (pc' := 37) dX11_cellar_36 rfl ⟨by decide, by show 67 < 64 + (hN h + 4); omega⟩ ((hCb_k (by omega)).trans (I.S.k 67 rfl rfl rfl)) rfl ⟨by omega, by show 64 + hN h < 64 + (hN h + 4); omega⟩ (congrArg Prod.fst hCb_k0) rfl (by omega) (by decide) ?_
        have S1 : Shp (wR (hCb h Az Bz) 67 nc (some (64 + hN h))) := hCc_S I.S
        refine Go_aload_n (pc' := 38) dX11_cellar_37 rfl rfl rfl ?_
        refine Go_dup (pc' := 39) dX11_cellar_38 rfl rfl ?_
        refine Go_getIv (v := (iZ (nc : Int))) (pc' := 42) dX11_cellar_39 rfl kf_RX11_84 (by decide) (by decide) rfl (S1.b 64 rfl rfl) (S1.o 64 rfl rfl rfl) ((hCb_N (by omega) (by omega)).trans ((hC0_v (by omega)).trans ec2)) ?_
        refine Go_iconst (v := iZ 1) (pc' := 43) dX11_cellar_42 rfl (by decide) ?_
        refine Go_iaddZ (pc' := 44) dX11_cellar_43 rfl ?_
        refine Go_putI (pc' := 47) dX11_cellar_44 rfl kf_RX11_84 (by decide) (by decide) rfl (S1.b 64 rfl rfl) (S1.o 64 rfl rfl rfl) (Or.inl rfl) rfl rfl ?_
        refine Go_aload_n (pc' := 48) dX11_cellar_47 rfl rfl rfl ?_
        refine Go_getIv (v := (iZ ((nc : Int) + 1))) (pc' := 51) dX11_cellar_48 rfl kf_RX11_84 (by decide) (by decide) rfl (S1.b 64 rfl rfl) (S1.o 64 rfl rfl rfl) (vi_same) ?_
        refine Go_iconst (v := iZ 1) (pc' := 52) dX11_cellar_51 rfl (by decide) ?_
        refine Go_isubZ (pc' := 53) dX11_cellar_52 rfl ?_
        refine Go_ireturn (ty := .int) dX11_cellar_53 rfl rfl ?_
        refine (congrArg (fun z => K (some (.int (iZ z))) _) (show ((((nc : Int) + 1) - 1) : Int) = (nc : Int) by omega)).mpr (k _ _ (Or.inl ⟨by omega, rfl, rfl⟩) S1)
      · refine Go_iconst (v := iZ (-1)) (pc' := 18) dX11_cellar_17 rfl (by decide) ?_
        refine Go_ireturn (ty := .int) dX11_cellar_18 rfl rfl ?_
        exact k _ _ (Or.inr ⟨by omega, rfl, rfl⟩) I.S
  · rintro r h1 (⟨hc, rfl, rfl⟩ | ⟨hc, rfl, rfl⟩) K k
    · have S1 : Shp (hCc h Az Bz nc) := hCc_S I.S
      show Go G 60 0 0 M_X12_cellar 0 [.ref 99, .int (iZ Az), .int (iZ Bz), un] [] (hCc h Az Bz nc) K
      refine Go_iload_n (pc' := 1) dX12_cellar_0 rfl rfl rfl ?_
      refine Go_iload_n (pc' := 2) dX12_cellar_1 rfl rfl rfl ?_
      refine Go_callS_i (pc' := 5) (As := [.int _, .int _]) (st := []) dX12_cellar_2 rfl ok_X12_isCell km_RX12_154 rfl (Nat.le_of_ble_eq_true rfl) rfl rfl rfl (Nat.le_of_ble_eq_true rfl) (Nat.lt_succ_self _) ?_
      refine s_isCellMY (by first | exact ⟨i_lo _, i_hi _⟩ | omega) (by first | exact ⟨i_lo _, i_hi _⟩ | omega) ?_
      refine ⟨_, rfl, ?_⟩
      refine Go_if_eqb (tgt := 17) (pc' := 8) dX12_cellar_5 (by decide) rfl (fun c5 => ?_) (fun c5 => ?_)
      · refine Go_iconst (v := iZ (-1)) (pc' := 18) dX12_cellar_17 rfl (by decide) ?_
        refine Go_ireturn (ty := .int) dX12_cellar_18 rfl rfl ?_
        exfalso; omega
      · refine Go_aload_n (pc' := 9) dX12_cellar_8 rfl rfl rfl ?_
        refine Go_getIv (v := (iZ (nc : Int))) (pc' := 12) dX12_cellar_9 rfl kf_RX12_151 (by decide) (by decide) rfl (S1.b 99 rfl rfl) (S1.o 99 rfl rfl rfl) ((vi_skip (by decide)).trans ((hCb_N (by omega) (by omega)).trans ((hC0_v (by omega)).trans ec0))) ?_
        refine Go_bipush (v := iZ 6) (pc' := 14) dX12_cellar_12 rfl (by decide) ?_
        refine Go_icmp_neY (tgt := 19) (pc' := 17) dX12_cellar_14 (by decide) rfl (by first | exact ⟨i_lo _, i_hi _⟩ | omega) (by first | exact ⟨i_lo _, i_hi _⟩ | omega) (fun c14 => ?_) (fun c14 => ?_)
        · refine Go_aload_n (pc' := 20) dX12_cellar_19 rfl rfl rfl ?_
          refine Go_getIv (v := (iZ (nc : Int))) (pc' := 23) dX12_cellar_20 rfl kf_RX12_151 (by decide) (by decide) rfl (S1.b 99 rfl rfl) (S1.o 99 rfl rfl rfl) ((vi_skip (by decide)).trans ((hCb_N (by omega) (by omega)).trans ((hC0_v (by omega)).trans ec0))) ?_
          refine Go_istore_n (pc' := 24) (lv' := [.ref _, .int _, .int _, .int _]) dX12_cellar_23 rfl rfl (Nat.le_of_ble_eq_true rfl) rfl rfl ?_
          refine Go_aload_n (pc' := 25) dX12_cellar_24 rfl rfl rfl ?_
          refine Go_getRs (pc' := 28) dX12_cellar_25 rfl kf_RX12_7 (by decide) (by decide) rfl (S1.b 99 rfl rfl) (S1.o 99 rfl rfl rfl) (S1.r 99 1 rfl rfl rfl) ?_
          refine Go_iload_n (pc' := 29) dX12_cellar_28 rfl rfl rfl ?_
          refine Go_bipush (v := iZ 40) (pc' := 31) dX12_cellar_29 rfl (by decide) ?_
          refine Go_iload_n (pc' := 32) dX12_cellar_31 rfl rfl rfl ?_
          refine Go_imulZ (pc' := 33) dX12_cellar_32 rfl ?_
          refine Go_iload_n (pc' := 34) dX12_cellar_33 rfl rfl rfl ?_
          refine Go_iaddZ (pc' := 35) dX12_cellar_34 rfl ?_
          refine Go_iastoreZ (n := 6) (k := nc) (pc' := 36) dX12_cellar_35 rfl (S1.b 100 rfl rfl) (S1.k 100 rfl rfl rfl) rfl (by omega) (by decide) ?_
          refine Go_aload_n (pc' := 37) dX12_cellar_36 rfl rfl rfl ?_
          refine Go_getRs (pc' := 40) dX12_cellar_37 rfl kf_RX12_13 (by decide) (by decide) rfl (S1.b 99 rfl rfl) (S1.o 99 rfl rfl rfl) (S1.r 99 2 rfl rfl rfl) ?_
          refine Go_iload_n (pc' := 41) dX12_cellar_40 rfl rfl rfl ?_
          refine Go_bipush (v := iZ 8) (pc' := 43) dX12_cellar_41 rfl (by decide) ?_
          refine Go_iastoreZ (n := 6) (k := nc) (pc' := 44) dX12_cellar_43 rfl (S1.b 101 rfl rfl) (S1.k 101 rfl rfl rfl) rfl (by omega) (by decide) ?_
          refine Go_aload_n (pc' := 45) dX12_cellar_44 rfl rfl rfl ?_
          refine Go_getRs (pc' := 48) dX12_cellar_45 rfl kf_RX12_16 (by decide) (by decide) rfl (S1.b 99 rfl rfl) (S1.o 99 rfl rfl rfl) (S1.r 99 3 rfl rfl rfl) ?_
          refine Go_iload_n (pc' := 49) dX12_cellar_48 rfl rfl rfl ?_
          refine Go_bipush (v := iZ 16) (pc' := 51) dX12_cellar_49 rfl (by decide) ?_
          refine Go_iastoreZ (n := 6) (k := nc) (pc' := 52) dX12_cellar_51 rfl (S1.b 102 rfl rfl) (S1.k 102 rfl rfl rfl) rfl (by omega) (by decide) ?_
          refine Go_aload_n (pc' := 53) dX12_cellar_52 rfl rfl rfl ?_
          refine Go_getRs (pc' := 56) dX12_cellar_53 rfl kf_RX12_19 (by decide) (by decide) rfl (S1.b 99 rfl rfl) (S1.o 99 rfl rfl rfl) (S1.r 99 4 rfl rfl rfl) ?_
          refine Go_iload_n (pc' := 57) dX12_cellar_56 rfl rfl rfl ?_
          refine Go_bipush (v := iZ 99) (pc' := 59) dX12_cellar_57 rfl (by decide) ?_
          refine Go_iastoreZ (n := 6) (k := nc) (pc' := 60) dX12_cellar_59 rfl (S1.b 103 rfl rfl) (S1.k 103 rfl rfl rfl) rfl (by omega) (by decide) ?_
          refine Go_aload_n (pc' := 61) dX12_cellar_60 rfl rfl rfl ?_
          refine Go_getRs (pc' := 64) dX12_cellar_61 rfl kf_RX12_46 (by decide) (by decide) rfl (S1.b 99 rfl rfl) (S1.o 99 rfl rfl rfl) (S1.r 99 13 rfl rfl rfl) ?_
          refine Go_iload_n (pc' := 65) dX12_cellar_64 rfl rfl rfl ?_
          refine Go_sipush (v := iZ 600) (pc' := 68) dX12_cellar_65 rfl (by decide) ?_
          refine Go_iastoreZ (n := 6) (k := nc) (pc' := 69) dX12_cellar_68 rfl (S1.b 112 rfl rfl) (S1.k 112 rfl rfl rfl) rfl (by omega) (by decide) ?_
          refine Go_aload_n (pc' := 70) dX12_cellar_69 rfl rfl rfl ?_
          refine Go_getRs (pc' := 73) dX12_cellar_70 rfl kf_RX12_49 (by decide) (by decide) rfl (S1.b 99 rfl rfl) (S1.o 99 rfl rfl rfl) (S1.r 99 14 rfl rfl rfl) ?_
          refine Go_iload_n (pc' := 74) dX12_cellar_73 rfl rfl rfl ?_
          refine Go_sipush (v := iZ 600) (pc' := 77) dX12_cellar_74 rfl (by decide) ?_
          refine Go_iastoreZ (n := 6) (k := nc) (pc' := 78) dX12_cellar_77 rfl (S1.b 113 rfl rfl) (S1.k 113 rfl rfl rfl) rfl (by omega) (by decide) ?_
          refine Go_aload_n (pc' := 79) dX12_cellar_78 rfl rfl rfl ?_
          refine Go_dup (pc' := 80) dX12_cellar_79 rfl rfl ?_
          refine Go_getIv (v := (iZ (nc : Int))) (pc' := 83) dX12_cellar_80 rfl kf_RX12_151 (by decide) (by decide) rfl (S1.b 99 rfl rfl) (S1.o 99 rfl rfl rfl) ((vi_skip (Or.inl (by decide))).trans ((vi_skip (Or.inl (by decide))).trans ((vi_skip (Or.inl (by decide))).trans ((vi_skip (Or.inl (by decide))).trans ((vi_skip (Or.inl (by decide))).trans ((vi_skip (Or.inl (by decide))).trans ((vi_skip (by decide)).trans ((hCb_N (by omega) (by omega)).trans ((hC0_v (by omega)).trans ec0))))))))) ?_
          refine Go_iconst (v := iZ 1) (pc' := 84) dX12_cellar_83 rfl (by decide) ?_
          refine Go_iaddZ (pc' := 85) dX12_cellar_84 rfl ?_
          refine Go_putI (pc' := 88) dX12_cellar_85 rfl kf_RX12_151 (by decide) (by decide) rfl (S1.b 99 rfl rfl) (S1.o 99 rfl rfl rfl) (Or.inl rfl) rfl rfl ?_
          refine Go_iload_n (pc' := 89) dX12_cellar_88 rfl rfl rfl ?_
          refine Go_ireturn (ty := .int) dX12_cellar_89 rfl rfl ?_
          exact k _ (I.nc (by omega) ec2 hc.1.1 hc.1.2)
        · refine Go_iconst (v := iZ (-1)) (pc' := 18) dX12_cellar_17 rfl (by decide) ?_
          refine Go_ireturn (ty := .int) dX12_cellar_18 rfl rfl ?_
          exfalso; omega
    · show Go G 60 0 0 M_X12_cellar 0 [.ref 99, .int (iZ Az), .int (iZ Bz), un] [] h K
      refine Go_iload_n (pc' := 1) dX12_cellar_0 rfl rfl rfl ?_
      refine Go_iload_n (pc' := 2) dX12_cellar_1 rfl rfl rfl ?_
      refine Go_callS_i (pc' := 5) (As := [.int _, .int _]) (st := []) dX12_cellar_2 rfl ok_X12_isCell km_RX12_154 rfl (Nat.le_of_ble_eq_true rfl) rfl rfl rfl (Nat.le_of_ble_eq_true rfl) (Nat.lt_succ_self _) ?_
      refine s_isCellMY (by first | exact ⟨i_lo _, i_hi _⟩ | omega) (by first | exact ⟨i_lo _, i_hi _⟩ | omega) ?_
      refine ⟨_, rfl, ?_⟩
      refine Go_if_eqb (tgt := 17) (pc' := 8) dX12_cellar_5 (by decide) rfl (fun c5 => ?_) (fun c5 => ?_)
      · refine Go_iconst (v := iZ (-1)) (pc' := 18) dX12_cellar_17 rfl (by decide) ?_
        refine Go_ireturn (ty := .int) dX12_cellar_18 rfl rfl ?_
        exact k _ I
      · refine Go_aload_n (pc' := 9) dX12_cellar_8 rfl rfl rfl ?_
        refine Go_getIv (v := (iZ (nc : Int))) (pc' := 12) dX12_cellar_9 rfl kf_RX12_151 (by decide) (by decide) rfl (I.S.b 99 rfl rfl) (I.S.o 99 rfl rfl rfl) (ec0) ?_
        refine Go_bipush (v := iZ 6) (pc' := 14) dX12_cellar_12 rfl (by decide) ?_
        refine Go_icmp_neY (tgt := 19) (pc' := 17) dX12_cellar_14 (by decide) rfl (by first | exact ⟨i_lo _, i_hi _⟩ | omega) (by first | exact ⟨i_lo _, i_hi _⟩ | omega) (fun c14 => ?_) (fun c14 => ?_)
        · exfalso; omega
        · refine Go_iconst (v := iZ (-1)) (pc' := 18) dX12_cellar_17 rfl (by decide) ?_
          refine Go_ireturn (ty := .int) dX12_cellar_18 rfl rfl ?_
          exact k _ I
