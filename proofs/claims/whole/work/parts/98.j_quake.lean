/-! pair: quake -/
theorem vi_nwo {h : HS} {t : Kd} {a b : Nat} (e : a ≠ 64 + hN h) : vi (nw h t) a b = vi h a b := by rw [vi_nw, if_neg e]
theorem ri_nwo {h : HS} {t : Kd} {a b : Nat} (e : a ≠ 64 + hN h) : ri (nw h t) a b = ri h a b := by rw [ri_nw, if_neg e]
theorem ki_nwo {h : HS} {t : Kd} {a : Nat} (e : a ≠ 64 + hN h) : ki (nw h t) a = ki h a := by rw [ki_nw, if_neg e]
theorem vi_nws {h : HS} {t : Kd} {a b : Nat} (e : a = 64 + hN h) : vi (nw h t) a b = 0 := by rw [vi_nw, if_pos e]
theorem ri_nws {h : HS} {t : Kd} {a b : Nat} (e : a = 64 + hN h) : ri (nw h t) a b = none := by rw [ri_nw, if_pos e]
theorem ki_nws {h : HS} {t : Kd} {a : Nat} (e : a = 64 + hN h) : ki (nw h t) a = t := by rw [ki_nw, if_pos e]
theorem Go_aastoreZ {G : GC} {d mc ms : Nat} {M : MI} {pc pc' : Nat} {lv st : List Value} {h : HS} {K : Option Value → HS → Prop} {X : Int} {i n k t j b : Nat} (hd : decode M.2.2.1 pc = .ok (.aastore, 1)) (hp : pc + 1 = pc') (hi : 64 ≤ i ∧ i < 64 + hN h) (hkd : ki h i = (t, n)) (hj : aTy t = some j) (hb : 64 ≤ b ∧ b < 64 + hN h) (hkb : (ki h b).1 = t - 30) (hX : X = (k : Int)) (hk : k < n) (hn : n ≤ 100000) (kk : Go G d mc ms M pc' lv st (wR h i k (some b)) K) : Go G d mc ms M pc lv (.ref b :: .int (iZ X) :: .ref i :: st) h K := by
  refine Go_aastore hd hp hi hkd hj hb hkb (iz_ix hX hk hn) ?_
  rw [iz_cl hX hk hn]; exact kk
/-- a new quake is put behind the nq -/
theorem RQ.new {h h' : HS} (R : RQ h) {nq N : Nat} (hN0 : N = 64 + hN h) (hq16 : nq < 16) (e7 : vi h 64 7 = iZ (nq : Int)) (hn : hN h' = hN h + 2) (hk : ∀ i, i < N → ki h' i = ki h i) (k1 : ki h' N = (5, 0)) (k2 : ki h' (N + 1) = (36, 6)) (e7' : vi h' 64 7 = iZ ((nq : Int) + 1)) (e38 : vi h' 99 38 = iZ ((nq : Int) + 1)) (e2 : vi h' 64 2 = vi h 64 2)
    (ev : ∀ i k, 124 ≤ i → i < N → vi h' i k = vi h i k) (er : ∀ i k, 142 ≤ i → i < N → ri h' i k = ri h i k) (e80 : ∀ k, k ≠ nq → ri h' 80 k = ri h 80 k) (r80 : ri h' 80 nq = some N) (rN : ri h' N 0 = some (N + 1)) (rN1 : ∀ k, ri h' (N + 1) k = none) (vN : vi h' N 1 = iZ (-1)) (h142 : 142 ≤ N) : RQ h' := by
  obtain ⟨r1, r2, r3, r4, r5⟩ := R
  have ez : (vi h 64 7).toInt = (nq : Int) := by rw [e7, iZ_t (by omega)]
  have ez' : (vi h' 64 7).toInt = (nq : Int) + 1 := by rw [e7', iZ_t (by omega)]
  rw [ez] at r2 r3 r4 r5
  have uu : ∀ q u : Nat, (q : Int) < nq → ri h 80 q = some u → QkS h u := by
    intro q u a b
    obtain ⟨u1, a1, a2, -⟩ := r2 q a
    rw [a1] at b; cases b; exact a2
  refine ⟨⟨e38.trans e7'.symm, by rw [e7']; exact rgz (by omega) (by omega)⟩, fun q hq => ?_, fun q hq h6 => ?_, fun q q' u u' a b d e => ?_, fun q q' c c' u u' w a b a1 b1 d d' e e' => ?_⟩
  · rw [ez'] at hq
    by_cases z : q = nq
    · subst z
      refine ⟨N, r80, ⟨by omega, k1, k2, rN⟩, Or.inl ⟨vN, ?_⟩, fun c hc => Or.inl ⟨rN1 c, ?_⟩⟩
      · rw [ev 132 _ (by decide) (by omega)]; exact (r3 q hq16 (by omega)).1
      · rw [ev 124 _ (by decide) (by omega)]; exact (r3 q hq16 (by omega)).2 c hc
    · obtain ⟨u, a1, a2, a3, a4⟩ := r2 q (by omega)
      have b := a2.1
      refine ⟨u, by rw [e80 q z]; exact a1, ⟨by omega, by rw [hk _ (by omega)]; exact a2.2.1, by rw [hk _ (by omega)]; exact a2.k1, by rw [er _ _ (by omega) (by omega)]; exact a2.r0⟩, ?_, fun c hc => ?_⟩
      · unfold PlV at a3 ⊢; rw [ev u 1 (by omega) (by omega), ev u 2 (by omega) (by omega), ev 132 _ (by decide) (by omega)]; exact a3
      · rcases a4 c hc with ⟨x1, x2⟩ | ⟨w, x1, x2, x3, x4, x5⟩
        · exact Or.inl ⟨by rw [er _ _ (by omega) (by omega)]; exact x1, by rw [ev 124 _ (by decide) (by omega)]; exact x2⟩
        · have bw := x3.1
          refine Or.inr ⟨w, by rw [er _ _ (by omega) (by omega)]; exact x1, by rw [ev 124 _ (by decide) (by omega)]; exact x2, ⟨by omega, by rw [hk _ (by omega)]; exact x3.2⟩, ?_, by rw [e2]; exact x5⟩
          unfold RdV at x4 ⊢
          rw [ev w 0 (by omega) (by omega), ev w 1 (by omega) (by omega), ev w 2 (by omega) (by omega), ev w 3 (by omega) (by omega), ev w 4 (by omega) (by omega), ev w 5 (by omega) (by omega), ev 125 _ (by decide) (by omega), ev 126 _ (by decide) (by omega), ev 127 _ (by decide) (by omega), ev 128 _ (by decide) (by omega), ev 129 _ (by decide) (by omega), ev 130 _ (by decide) (by omega), ev 131 _ (by decide) (by omega)]
          exact x4
  · rw [ez'] at h6
    rw [ev 132 _ (by decide) (by omega)]
    obtain ⟨x1, x2⟩ := r3 q hq (by omega)
    exact ⟨x1, fun c hc => by rw [ev 124 _ (by decide) (by omega)]; exact x2 c hc⟩
  · rw [ez'] at b
    rw [e80 q (by omega)] at d
    have bu := (uu q u (by omega) d).1
    by_cases z : q' = nq
    · subst z; rw [r80] at e; cases e; omega
    · rw [e80 q' z] at e
      exact r4 q q' u u' a (by omega) d e
  · rw [ez'] at a b
    have sm : ∀ (q : Nat) (u c w : Nat), (q : Int) < (nq : Int) + 1 → ri h' 80 q = some u → ri h' (u + 1) c = some w → (q : Int) < nq ∧ ri h 80 q = some u ∧ ri h (u + 1) c = some w := by
      intro q u c w a a1 e
      by_cases z : q = nq
      · subst z; rw [r80] at a1; cases a1; rw [rN1] at e; cases e
      · rw [e80 q z] at a1
        have bu := (uu q u (by omega) a1).1
        rw [er _ _ (by omega) (by omega)] at e
        exact ⟨by omega, a1, e⟩
    obtain ⟨s1, s2, s3⟩ := sm q u c w a a1 e
    obtain ⟨t1, t2, t3⟩ := sm q' u' c' w b b1 e'
    exact r5 q q' c c' u u' w s1 t1 s2 t2 d d' s3 t3
def hQ1 (h : HS) (nq : Nat) : HS := wR (wI (wI (wR (nw (nw h (5, 0)) (36, 6)) (64 + hN h) 0 (some (64 + hN h + 1))) (64 + hN h) 1 (iZ (-1))) (64 + hN h) 2 (iZ (-1))) 80 nq (some (64 + hN h))
theorem hQ1_v {h : HS} {nq i k : Nat} (hi : i < 64 + hN h) : vi (hQ1 h nq) i k = vi h i k := (vi_skip (Or.inl (by omega))).trans ((vi_skip (Or.inl (by omega))).trans ((vi_nwo (t := (36, 6)) (by rw [hN_nw]; omega)).trans (vi_nwo (t := (5, 0)) (by omega))))
theorem hQ1_r {h : HS} {nq i k : Nat} (hi : i < 64 + hN h) (n : i ≠ 80 ∨ k ≠ nq) : ri (hQ1 h nq) i k = ri h i k := (ri_skip n).trans ((ri_skip (Or.inl (by omega))).trans ((ri_nwo (t := (36, 6)) (by rw [hN_nw]; omega)).trans (ri_nwo (t := (5, 0)) (by omega))))
theorem hQ1_k {h : HS} {nq i : Nat} (hi : i < 64 + hN h) : ki (hQ1 h nq) i = ki h i := (ki_nwo (t := (36, 6)) (by rw [hN_nw]; omega)).trans (ki_nwo (t := (5, 0)) (by omega))
theorem hQ1_n {h : HS} {nq : Nat} : hN (hQ1 h nq) = hN h + 2 := rfl
theorem hQ1_S {h : HS} {nq : Nat} (S : Shp h) : Shp (hQ1 h nq) := by
  have c := S.1
  refine ⟨by rw [hQ1_n]; omega, fun i a b => by rw [hQ1_k (by omega)]; exact S.2.1 i a b, fun i a b k r e => ?_⟩
  have n80 : i ≠ 80 := fun z => by subst z; unfold sR at e; cases e
  rw [hQ1_r (by omega) (Or.inl n80)]; exact S.2.2 i a b k r e
theorem Inv.nq {h : HS} (I : Inv h) {nq : Nat} (hq16 : nq < 16) (e7 : vi h 64 7 = iZ (nq : Int)) : Inv (wI (wI (hQ1 h nq) 64 7 (iZ ((nq : Int) + 1))) 99 38 (iZ ((nq : Int) + 1))) := by
  have c := I.S.1
  have v : ∀ i k, i < 64 + hN h → (i ≠ 64 ∨ k ≠ 7) → (i ≠ 99 ∨ k ≠ 38) → vi (wI (wI (hQ1 h nq) 64 7 (iZ ((nq : Int) + 1))) 99 38 (iZ ((nq : Int) + 1))) i k = vi h i k := fun i k a b d => (vi_skip d).trans ((vi_skip b).trans (hQ1_v a))
  have so : ∀ {P : Nat → Nat → Bool}, (∀ i k, P i k = true → i < 142 ∧ i ≠ 80) → P 64 7 = false → P 99 38 = false → SameOn P h (wI (wI (hQ1 h nq) 64 7 (iZ ((nq : Int) + 1))) 99 38 (iZ ((nq : Int) + 1))) := by
    intro P hP h1 h2 i k e
    obtain ⟨a, b⟩ := hP i k e
    refine ⟨v i k (by omega) ?_ ?_, hQ1_r (by omega) (Or.inl b)⟩
    · by_cases z : i = 64 ∧ k = 7
      · rw [z.1, z.2, h1] at e; cases e
      · omega
    · by_cases z : i = 99 ∧ k = 38
      · rw [z.1, z.2, h2] at e; cases e
      · omega
  refine ⟨hQ1_S I.S, I.D.fr (so (by intro i k h; unfold fpD at h; simp at h; omega) rfl rfl), I.W.fr (so (by intro i k h; unfold fpW at h; simp at h; omega) rfl rfl), I.P.fr (so (by intro i k h; unfold fpP at h; simp at h; omega) rfl rfl), I.E.fr (so (by intro i k h; unfold fpE at h; simp at h; omega) rfl rfl), I.F.fr (so (by intro i k h; unfold fpF at h; simp at h; omega) rfl rfl), I.T.fr (so (by intro i k h; unfold fpT at h; simp at h; omega) rfl rfl), I.G.fr (so (by intro i k h; unfold fpG at h; simp at h; omega) rfl rfl), I.C.fr (so (by intro i k h; unfold fpC at h; simp at h; omega) rfl rfl) (show hN h ≤ hN h + 2 by omega) (fun i hi => hQ1_k (nq := nq) hi) (fun i h1 h2 h3 k => ⟨v i k (by omega) (by omega) (by omega), hQ1_r (by omega) (by omega)⟩), ?_⟩
  refine I.Q.new (N := 64 + hN h) rfl hq16 e7 rfl (fun i hi => hQ1_k (nq := nq) hi) ?_ ?_ ((vi_skip (by decide)).trans vi_same) vi_same (v 64 2 (by omega) (by decide) (by decide)) (fun i k a b => v i k (by omega) (by omega) (by omega)) (fun i k a b => hQ1_r b (by omega)) (fun k hk => hQ1_r (by omega) (Or.inr hk)) ri_same ?_ ?_ ?_ (by omega)
  · exact (ki_nwo (by rw [hN_nw]; omega)).trans (ki_nws rfl)
  · exact ki_nws rfl
  · exact (ri_skip (Or.inl (by omega))).trans ri_same
  · intro k; exact (ri_skip (Or.inl (by omega))).trans ((ri_skip (Or.inl (by omega))).trans (ri_nws rfl))
  · exact (vi_skip (Or.inl (by omega))).trans ((vi_skip (Or.inl (by omega))).trans ((vi_skip (Or.inr (by decide))).trans vi_same))
set_option maxRecDepth 20000 in
set_option maxHeartbeats 1000000 in
theorem s_initQ {G : GC} {d : Nat} {h : HS} {K : Option Value → HS → Prop} (hk : K none (wI (wI (wR (nw (nw h (5, 0)) (36, 6)) (64 + hN h) 0 (some (64 + hN h + 1))) (64 + hN h) 1 (iZ (-1))) (64 + hN h) 2 (iZ (-1)))) : Go G (d + 1) 1 6 M_X5_init 0 [.ref (64 + hN h)] [] (nw h (5, 0)) K := by
  have nb : 64 ≤ (64 + hN h) ∧ (64 + hN h) < 64 + hN (nw (nw h (5, 0)) (36, 6)) := ⟨by omega, by show 64 + hN h < 64 + (hN h + 2); omega⟩
  have nk : (ki (nw (nw h (5, 0)) (36, 6)) (64 + hN h)).1 = 5 := by rw [ki_nwo (by rw [hN_nw]; omega), ki_nws rfl]
  refine Go_aload_n (pc' := 1) dX5_init_0 rfl rfl rfl ?_
  refine Go_objInit (pc' := 4) dX5_init_1 rfl km_RX5_3 oi_inst oi_code (Nat.le_of_ble_eq_true rfl) (Nat.succ_pos _) ?_
  refine Go_aload_n (pc' := 5) dX5_init_4 rfl rfl rfl ?_
  refine Go_bipush (v := iZ 6) (pc' := 7) dX5_init_5 rfl (by decide) ?_
  refine Go_anewarrayL (t := 36) (n := 6) (N := 64 + hN h + 1) (mc := 0) (ms := 0) (pc' := 10) dX5_init_7 rfl rfl kc_RX5_9 ao6 (by decide) (by decide) (Nat.le_of_ble_eq_true rfl) (Nat.le_of_ble_eq_true rfl) rfl ?_
  refine Go_putRs (pc' := 13) dX5_init_10 rfl kf_RX5_11 (by decide) (by decide) rfl nb nk (Or.inr ⟨rfl, rfl, rfl⟩) (fun v => by cases v <;> exact ⟨rfl, rfl⟩) ?_
  refine Go_aload_n (pc' := 14) dX5_init_13 rfl rfl rfl ?_
  refine Go_iconst (v := iZ (-1)) (pc' := 15) dX5_init_14 rfl (by decide) ?_
  refine Go_putI (pc' := 18) dX5_init_15 rfl kf_RX5_17 (by decide) (by decide) rfl nb nk (Or.inl rfl) rfl rfl ?_
  refine Go_aload_n (pc' := 19) dX5_init_18 rfl rfl rfl ?_
  refine Go_iconst (v := iZ (-1)) (pc' := 20) dX5_init_19 rfl (by decide) ?_
  refine Go_putI (pc' := 23) dX5_init_20 rfl kf_RX5_21 (by decide) (by decide) rfl nb nk (Or.inl rfl) rfl rfl ?_
  refine Go_return dX5_init_23 rfl ?_
  exact hk
set_option maxRecDepth 20000 in
set_option maxHeartbeats 1000000 in
theorem pair19 {G : GC} : PairI G M_X11_quake M_X12_quake [] := by
  intro h I
  obtain ⟨nq, hnq, eq7⟩ := of_rgZ (b := 16) I.Q.1.2
  have eq38 : vi h 99 38 = iZ (nq : Int) := I.Q.1.1.trans eq7
  obtain ⟨nc, hnc, ec2⟩ := of_rgZ (b := 6) I.C.1.2
  have ec0 : vi h 99 0 = iZ (nc : Int) := I.C.1.1.trans ec2
  have c78 := I.S.1
  refine ⟨fun r h1 => (nq < 16 ∧ r = iZ (nq : Int) ∧ h1 = wI (hQ1 h nq) 64 7 (iZ ((nq : Int) + 1))) ∨ (¬ nq < 16 ∧ r = iZ (-1) ∧ h = h1), fun K k => ?_, ?_⟩
  · refine Go.more (d := 60) (mc := 2) (ms := 9) ?_ (by omega) (by omega) (by omega)
    show Go G 60 2 9 M_X11_quake 0 [.ref 64] [] h K
    by_cases h16 : nq < 16
    · refine Go_aload_n (pc' := 1) dX11_quake_0 rfl rfl rfl ?_
      refine Go_getIv (v := (iZ (nq : Int))) (pc' := 4) dX11_quake_1 rfl kf_RX11_226 (by decide) (by decide) rfl (I.S.b 64 rfl rfl) (I.S.o 64 rfl rfl rfl) (eq7) ?_
      refine Go_bipush (v := iZ 16) (pc' := 6) dX11_quake_4 rfl (by decide) ?_
      refine Go_icmp_ltY (tgt := 11) (pc' := 9) dX11_quake_6 (by decide) rfl (by first | exact ⟨i_lo _, i_hi _⟩ | omega) (by first | exact ⟨i_lo _, i_hi _⟩ | omega) (fun c6 => ?_) (fun c6 => by exfalso; omega)
      refine Go_aload_n (pc' := 12) dX11_quake_11 rfl rfl rfl ?_
      refine Go_getRs (pc' := 15) dX11_quake_12 rfl kf_RX11_45 (by decide) (by decide) rfl (I.S.b 64 rfl rfl) (I.S.o 64 rfl rfl rfl) (I.S.r 64 6 rfl rfl rfl) ?_
      refine Go_aload_n (pc' := 16) dX11_quake_15 rfl rfl rfl ?_
      refine Go_getIv (v := (iZ (nq : Int))) (pc' := 19) dX11_quake_16 rfl kf_RX11_226 (by decide) (by decide) rfl (I.S.b 64 rfl rfl) (I.S.o 64 rfl rfl rfl) (eq7) ?_
      refine Go_newL (t := 5) (N := 64 + hN h) (mc := 1) (ms := 6) (pc' := 22) dX11_quake_19 rfl (by decide) kc_RX11_43 inst5 ini5 (defv 5 (by decide)) (Nat.le_of_ble_eq_true rfl) (Nat.le_of_ble_eq_true rfl) rfl ?_
      refine Go_dup (pc' := 23) dX11_quake_22 rfl rfl ?_
      refine Go_callI_v (mc := 0) (ms := 0) (mc2 := 1) (ms2 := 6) (pc' := 26) (As := []) (st := [.ref _, .int _, .ref _]) dX11_quake_23 rfl ok_X5_init km_RX11_229 rfl (Nat.le_of_ble_eq_true rfl) rfl rfl rfl (Nat.le_of_ble_eq_true rfl) (Nat.lt_succ_self _) (Nat.le_of_ble_eq_true rfl) (Nat.le_of_ble_eq_true rfl) ?_
      refine s_initQ ?_
      refine ⟨rfl, ?_⟩
      refine Go_aastoreZ (t := 35) (n := 16) (k := nq) (pc' := 27) dX11_quake_26 rfl ⟨by decide, by show 80 < 64 + (hN h + 2); omega⟩ ((ki_nwo (by rw [hN_nw]; omega)).trans ((ki_nwo (by omega)).trans (I.S.k 80 rfl rfl rfl))) rfl ⟨by omega, by show 64 + hN h < 64 + (hN h + 2); omega⟩ (show (ki (nw (nw h (5, 0)) (36, 6)) (64 + hN h)).1 = 5 by rw [ki_nwo (by rw [hN_nw]; omega), ki_nws rfl]) rfl h16 (by decide) ?_
      show Go G 60 0 0 M_X11_quake 27 [.ref 64] [] (hQ1 h nq) K
      have S1 : Shp (hQ1 h nq) := hQ1_S I.S
      refine Go_aload_n (pc' := 28) dX11_quake_27 rfl rfl rfl ?_
      refine Go_dup (pc' := 29) dX11_quake_28 rfl rfl ?_
      refine Go_getIv (v := (iZ (nq : Int))) (pc' := 32) dX11_quake_29 rfl kf_RX11_226 (by decide) (by decide) rfl (S1.b 64 rfl rfl) (S1.o 64 rfl rfl rfl) ((hQ1_v (by omega)).trans eq7) ?_
      refine Go_iconst (v := iZ 1) (pc' := 33) dX11_quake_32 rfl (by decide) ?_
      refine Go_iaddZ (pc' := 34) dX11_quake_33 rfl ?_
      refine Go_putI (pc' := 37) dX11_quake_34 rfl kf_RX11_226 (by decide) (by decide) rfl (S1.b 64 rfl rfl) (S1.o 64 rfl rfl rfl) (Or.inl rfl) rfl rfl ?_
      refine Go_aload_n (pc' := 38) dX11_quake_37 rfl rfl rfl ?_
      refine Go_getIv (v := (iZ ((nq : Int) + 1))) (pc' := 41) dX11_quake_38 rfl kf_RX11_226 (by decide) (by decide) rfl (S1.b 64 rfl rfl) (S1.o 64 rfl rfl rfl) (vi_same) ?_
      refine Go_iconst (v := iZ 1) (pc' := 42) dX11_quake_41 rfl (by decide) ?_
      refine Go_isubZ (pc' := 43) dX11_quake_42 rfl ?_
      refine Go_ireturn (ty := .int) dX11_quake_43 rfl rfl ?_
      refine (congrArg (fun z => K (some (.int (iZ z))) _) (show ((((nq : Int) + 1) - 1) : Int) = (nq : Int) by omega)).mpr (k _ _ (Or.inl ⟨h16, rfl, rfl⟩) S1)
    · refine Go_aload_n (pc' := 1) dX11_quake_0 rfl rfl rfl ?_
      refine Go_getIv (v := (iZ (nq : Int))) (pc' := 4) dX11_quake_1 rfl kf_RX11_226 (by decide) (by decide) rfl (I.S.b 64 rfl rfl) (I.S.o 64 rfl rfl rfl) (eq7) ?_
      refine Go_bipush (v := iZ 16) (pc' := 6) dX11_quake_4 rfl (by decide) ?_
      refine Go_icmp_ltY (tgt := 11) (pc' := 9) dX11_quake_6 (by decide) rfl (by first | exact ⟨i_lo _, i_hi _⟩ | omega) (by first | exact ⟨i_lo _, i_hi _⟩ | omega) (fun c6 => by exfalso; omega) (fun c6 => ?_)
      refine Go_iconst (v := iZ (-1)) (pc' := 10) dX11_quake_9 rfl (by decide) ?_
      refine Go_ireturn (ty := .int) dX11_quake_10 rfl rfl ?_
      exact k _ _ (Or.inr ⟨h16, rfl, rfl⟩) I.S
  · rintro r h1 (⟨h16, rfl, rfl⟩ | ⟨h16, rfl, rfl⟩) K k
    · have S1 : Shp (wI (hQ1 h nq) 64 7 (iZ ((nq : Int) + 1))) := hQ1_S I.S
      show Go G 60 0 0 M_X12_quake 0 [.ref 99] [] (wI (hQ1 h nq) 64 7 (iZ ((nq : Int) + 1))) K
      refine Go_aload_n (pc' := 1) dX12_quake_0 rfl rfl rfl ?_
      refine Go_getIv (v := (iZ (nq : Int))) (pc' := 4) dX12_quake_1 rfl kf_RX12_336 (by decide) (by decide) rfl (S1.b 99 rfl rfl) (S1.o 99 rfl rfl rfl) ((vi_skip (by decide)).trans ((hQ1_v (by omega)).trans eq38)) ?_
      refine Go_bipush (v := iZ 16) (pc' := 6) dX12_quake_4 rfl (by decide) ?_
      refine Go_icmp_neY (tgt := 11) (pc' := 9) dX12_quake_6 (by decide) rfl (by first | exact ⟨i_lo _, i_hi _⟩ | omega) (by first | exact ⟨i_lo _, i_hi _⟩ | omega) (fun c6 => ?_) (fun c6 => by exfalso; omega)
      refine Go_aload_n (pc' := 12) dX12_quake_11 rfl rfl rfl ?_
      refine Go_dup (pc' := 13) dX12_quake_12 rfl rfl ?_
      refine Go_getIv (v := (iZ (nq : Int))) (pc' := 16) dX12_quake_13 rfl kf_RX12_336 (by decide) (by decide) rfl (S1.b 99 rfl rfl) (S1.o 99 rfl rfl rfl) ((vi_skip (by decide)).trans ((hQ1_v (by omega)).trans eq38)) ?_
      refine Go_iconst (v := iZ 1) (pc' := 17) dX12_quake_16 rfl (by decide) ?_
      refine Go_iaddZ (pc' := 18) dX12_quake_17 rfl ?_
      refine Go_putI (pc' := 21) dX12_quake_18 rfl kf_RX12_336 (by decide) (by decide) rfl (S1.b 99 rfl rfl) (S1.o 99 rfl rfl rfl) (Or.inl rfl) rfl rfl ?_
      refine Go_aload_n (pc' := 22) dX12_quake_21 rfl rfl rfl ?_
      refine Go_getIv (v := (iZ ((nq : Int) + 1))) (pc' := 25) dX12_quake_22 rfl kf_RX12_336 (by decide) (by decide) rfl (S1.b 99 rfl rfl) (S1.o 99 rfl rfl rfl) (vi_same) ?_
      refine Go_iconst (v := iZ 1) (pc' := 26) dX12_quake_25 rfl (by decide) ?_
      refine Go_isubZ (pc' := 27) dX12_quake_26 rfl ?_
      refine Go_ireturn (ty := .int) dX12_quake_27 rfl rfl ?_
      refine (congrArg (fun z => K (some (.int (iZ z))) _) (show ((((nq : Int) + 1) - 1) : Int) = (nq : Int) by omega)).mpr (k _ (I.nq h16 eq7))
    · show Go G 60 0 0 M_X12_quake 0 [.ref 99] [] h K
      refine Go_aload_n (pc' := 1) dX12_quake_0 rfl rfl rfl ?_
      refine Go_getIv (v := (iZ (nq : Int))) (pc' := 4) dX12_quake_1 rfl kf_RX12_336 (by decide) (by decide) rfl (I.S.b 99 rfl rfl) (I.S.o 99 rfl rfl rfl) (eq38) ?_
      refine Go_bipush (v := iZ 16) (pc' := 6) dX12_quake_4 rfl (by decide) ?_
      refine Go_icmp_neY (tgt := 11) (pc' := 9) dX12_quake_6 (by decide) rfl (by first | exact ⟨i_lo _, i_hi _⟩ | omega) (by first | exact ⟨i_lo _, i_hi _⟩ | omega) (fun c6 => by exfalso; omega) (fun c6 => ?_)
      refine Go_iconst (v := iZ (-1)) (pc' := 10) dX12_quake_9 rfl (by decide) ?_
      refine Go_ireturn (ty := .int) dX12_quake_10 rfl rfl ?_
      exact k _ I
