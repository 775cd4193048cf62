/-! pair: read -/
theorem shp_wR {h : HS} (S : Shp h) {i k : Nat} {v : Option Nat} (hi : 142 ≤ i) : Shp (wR h i k v) := ⟨S.1, S.2.1, fun a h1 h2 b r e => (ri_skip (Or.inl (by omega))).trans (S.2.2 a h1 h2 b r e)⟩
theorem difR_wS {w e : Nat} {h h' : HS} {i k : Nat} {v : Int32} (a : DifR w e h h') (n : ¬ (i = w ∨ (125 ≤ i ∧ i ≤ 131 ∧ k = e))) (s : vi h i k = v) : DifR w e h (wI h' i k v) := by
  refine ⟨a.1, a.2.1, a.2.2.1, fun x y hx => ?_⟩
  rw [vi_wI]
  by_cases z : x = i ∧ y = k
  · rw [if_pos z, z.1, z.2, s]
  · rw [if_neg z]; exact a.2.2.2 x y hx
/-- a reading is told for the first time -/
theorem Inv.rn {h h' : HS} (I : Inv h) {q u c N : Nat} (hN0 : N = 64 + hN h) (hq : (q : Int) < (vi h 64 7).toInt) (hu : ri h 80 q = some u) (QS : QkS h u) (hc : c < 6) (hcn : (c : Int) < (vi h 64 2).toInt) (hn : hN h' = hN h + 1) (hk : ∀ i, i < N → ki h' i = ki h i) (kN : ki h' N = (6, 0)) (ev : ∀ i k, i < N → ¬ (124 ≤ i ∧ i ≤ 131 ∧ k = 6 * q + c) → vi h' i k = vi h i k) (er : ∀ i k, i < N → ¬ (i = u + 1 ∧ k = c) → ri h' i k = ri h i k) (rw' : ri h' (u + 1) c = some N) (m1 : vi h' 124 (6 * q + c) = 1) (V : RdV h' N (6 * q + c)) : Inv h' := by
  have c78 := I.S.1
  have b := QS.1
  have so : ∀ {P : Nat → Nat → Bool}, (∀ i k, P i k = true → i < 124 ∨ (132 < i ∧ i < 142)) → SameOn P h h' := by
    intro P hP i k e
    have := hP i k e
    exact ⟨ev i k (by omega) (by omega), er i k (by omega) (by omega)⟩
  have S' : Shp h' := ⟨by omega, fun i a b => by rw [hk _ (by omega)]; exact I.S.2.1 i a b, fun i a b k r e => by rw [er _ _ (by omega) (by omega)]; exact I.S.2.2 i a b k r e⟩
  refine ⟨S', I.D.fr (so fq_D), I.W.fr (so fq_W), I.P.fr (so fq_P), I.E.fr (so fq_E), I.F.fr (so fq_F), I.T.fr (so fq_T), I.G.fr (so fq_G), I.C.fr (so fq_C) (by omega) (fun i hi => hk i (by omega)) (fun i h1 h2 h3 k => ⟨ev i k (by omega) (by omega), er i k (by omega) (fun z => ?_)⟩), ?_⟩
  · rw [z.1, QS.k1] at h3; simp at h3
  · refine I.Q.rd (w := N) hq hu hc (by omega) (fun i hi => hk i (by omega)) (ev _ _ (by omega) (by omega)) (ev _ _ (by omega) (by omega)) (ev _ _ (by omega) (by omega)) (fun k => er _ _ (by omega) (by omega)) (fun z => by omega) (fun q' u' c' a a1 d e => ?_) (fun i k x y z => ev i k (by omega) (by omega)) (fun i k x y z => er i k (by omega) z) (fun i k x y z => ev i k (by omega) (by omega)) rw' m1 ⟨by omega, kN⟩ V hcn
    obtain ⟨u1, x1, x2, x3, x4⟩ := I.Q.2.1 q' a
    rw [a1] at x1; cases x1
    rcases x4 c' d with ⟨y1, -⟩ | ⟨w, y1, -, y3, -⟩
    · rw [y1] at e; cases e
    · rw [y1] at e; cases e
      have := y3.1; omega
set_option maxRecDepth 20000 in
set_option maxHeartbeats 10000000 in
theorem pair20 {G : GC} (a b c e : Int32) : PairI G M_X11_read M_X12_read [.int a, .int b, .int c, .int e] := by
  intro h I
  obtain ⟨Az, hva, rfl⟩ := i_eta a
  obtain ⟨Bz, hvb, rfl⟩ := i_eta b
  obtain ⟨Cz, hvc, rfl⟩ := i_eta c
  obtain ⟨Ez, hve, rfl⟩ := i_eta e
  obtain ⟨nq, hnq, eq7⟩ := of_rgZ (b := 16) I.Q.1.2
  have eq38 : vi h 99 38 = iZ (nq : Int) := I.Q.1.1.trans eq7
  obtain ⟨nc, hnc, ec2⟩ := of_rgZ (b := 6) I.C.1.2
  have ec0 : vi h 99 0 = iZ (nc : Int) := I.C.1.1.trans ec2
  rcases qk_cases I hnq eq7 Az with hq0 | ⟨q, u, rfl, hq, hu, QS, PV, RR⟩
  · refine PairI.ro' (fun _ => iZ 0) h I (fun K k => ?_) (fun K k => ?_)
    · show Go G 60 0 0 M_X11_read 0 [.ref 64, .int (iZ Az), .int (iZ Bz), .int (iZ Cz), .int (iZ Ez), un] [] h K
      refine Go_aload_n (pc' := 1) dX11_read_0 rfl rfl rfl ?_
      refine Go_iload_n (pc' := 2) dX11_read_1 rfl rfl rfl ?_
      refine Go_callV_r (pc' := 5) (As := [.int _]) (st := []) dX11_read_2 rfl ok_X11_quakeOf km_RX11_230 (I.S.o 64 rfl rfl rfl) (I.S.b 64 rfl rfl) ⟨_, _, rfl⟩ rfl (Nat.le_of_ble_eq_true rfl) rfl rfl rfl (Nat.le_of_ble_eq_true rfl) (Nat.lt_succ_self _) ?_
      refine Go_iload_n (pc' := 1) dX11_quakeOf_0 rfl rfl rfl ?_
      refine Go_iconst (v := iZ 0) (pc' := 2) dX11_quakeOf_1 rfl (by decide) ?_
      refine Go_aload_n (pc' := 3) dX11_quakeOf_2 rfl rfl rfl ?_
      refine Go_getIv (v := (iZ (nq : Int))) (pc' := 6) dX11_quakeOf_3 rfl kf_RX11_226 (by decide) (by decide) rfl (I.S.b 64 rfl rfl) (I.S.o 64 rfl rfl rfl) (eq7) ?_
      refine Go_iconst (v := iZ 1) (pc' := 7) dX11_quakeOf_6 rfl (by decide) ?_
      refine Go_isubZ (pc' := 8) dX11_quakeOf_7 rfl ?_
      refine Go_callS_i (pc' := 11) (As := [.int _, .int _, .int _]) (st := []) dX11_quakeOf_8 rfl ok_X11_within km_RX11_94 rfl (Nat.le_of_ble_eq_true rfl) rfl rfl rfl (Nat.le_of_ble_eq_true rfl) (Nat.lt_succ_self _) ?_
      refine s_withinY (by first | exact ⟨i_lo _, i_hi _⟩ | omega) (by first | exact ⟨i_lo _, i_hi _⟩ | omega) (by first | exact ⟨i_lo _, i_hi _⟩ | omega) ?_
      refine ⟨_, rfl, ?_⟩
      refine Go_if_eqb (tgt := 32) (pc' := 14) dX11_quakeOf_11 (by decide) rfl (fun q11 => ?_) (fun q11 => by exfalso; omega)
      refine Go_null (pc' := 33) dX11_quakeOf_32 rfl ?_
      refine Go_areturn (r := none) dX11_quakeOf_33 rfl ?_
      refine ⟨none, rfl, ?_⟩
      refine Go_astoreN (pc' := 7) (lv' := [.ref _, .int _, .int _, .int _, .int _, .null]) dX11_read_5 rfl (Nat.le_of_ble_eq_true rfl) rfl rfl ?_
      refine Go_aloadN (pc' := 9) dX11_read_7 rfl rfl ?_
      refine Go_ifnullN (tgt := 29) dX11_read_9 (by decide) ?_
      refine Go_iconst (v := iZ 0) (pc' := 30) dX11_read_29 rfl (by decide) ?_
      refine Go_ireturn (ty := .boolean) dX11_read_30 rfl rfl ?_
      exact k
    · show Go G 60 0 0 M_X12_read 0 [.ref 99, .int (iZ Az), .int (iZ Bz), .int (iZ Cz), .int (iZ Ez), un] [] h K
      refine Go_aload_n (pc' := 1) dX12_read_0 rfl rfl rfl ?_
      refine Go_iload_n (pc' := 2) dX12_read_1 rfl rfl rfl ?_
      refine Go_callV_i (pc' := 5) (As := [.int _]) (st := []) dX12_read_2 rfl ok_X12_isQuake km_RX12_340 (I.S.o 99 rfl rfl rfl) (I.S.b 99 rfl rfl) ⟨_, _, rfl⟩ rfl (Nat.le_of_ble_eq_true rfl) rfl rfl rfl (Nat.le_of_ble_eq_true rfl) (Nat.lt_succ_self _) ?_
      refine Go_iload_n (pc' := 1) dX12_isQuake_0 rfl rfl rfl ?_
      refine Go_iconst (v := iZ 0) (pc' := 2) dX12_isQuake_1 rfl (by decide) ?_
      refine Go_aload_n (pc' := 3) dX12_isQuake_2 rfl rfl rfl ?_
      refine Go_getIv (v := (iZ (nq : Int))) (pc' := 6) dX12_isQuake_3 rfl kf_RX12_336 (by decide) (by decide) rfl (I.S.b 99 rfl rfl) (I.S.o 99 rfl rfl rfl) (eq38) ?_
      refine Go_iconst (v := iZ 1) (pc' := 7) dX12_isQuake_6 rfl (by decide) ?_
      refine Go_isubZ (pc' := 8) dX12_isQuake_7 rfl ?_
      refine Go_callS_i (pc' := 11) (As := [.int _, .int _, .int _]) (st := []) dX12_isQuake_8 rfl ok_X12_isIn km_RX12_147 rfl (Nat.le_of_ble_eq_true rfl) rfl rfl rfl (Nat.le_of_ble_eq_true rfl) (Nat.lt_succ_self _) ?_
      refine s_isInY (by first | exact ⟨i_lo _, i_hi _⟩ | omega) (by first | exact ⟨i_lo _, i_hi _⟩ | omega) (by first | exact ⟨i_lo _, i_hi _⟩ | omega) ?_
      refine ⟨_, rfl, ?_⟩
      refine Go_ireturn (ty := .boolean) dX12_isQuake_11 rfl b2i_nb ?_
      refine ⟨_, rfl, ?_⟩
      refine Go_if_eqb (tgt := 25) (pc' := 8) dX12_read_5 (by decide) rfl (fun c5 => ?_) (fun c5 => by exfalso; omega)
      refine Go_iconst (v := iZ 0) (pc' := 26) dX12_read_25 rfl (by decide) ?_
      refine Go_ireturn (ty := .boolean) dX12_read_26 rfl rfl ?_
      exact k
  · have hu0 := QS.1
    have c78 := I.S.1
    by_cases hcc : 0 ≤ Bz ∧ Bz < nc
    · obtain ⟨c, rfl⟩ : ∃ c : Nat, Bz = (c : Int) := ⟨Bz.toNat, by omega⟩
      obtain ⟨o, ho, CS, CV⟩ := cel_ex I hnc ec2 (c := c) (by omega)
      have hqz : (q : Int) < (vi h 64 7).toInt := by rw [eq7, iZ_t (by omega)]; omega
      have hcz : (c : Int) < (vi h 64 2).toInt := by rw [ec2, iZ_t (by omega)]; omega
      rcases RR c (by omega) with ⟨hw, h0⟩ | ⟨w, hw, h0, RS, RV, -⟩
      · refine ⟨fun r h1 => ((0 ≤ Cz ∧ Cz ≤ Ez ∧ Ez ≤ 9999999) ∧ r = iZ 1 ∧ h1 = (wI (wI (wI (wI (wI (wI (wR (nw h (6, 0)) (u + 1) c (some (64 + hN h))) (64 + hN h) 0 (iZ Cz)) (64 + hN h) 1 (iZ Ez)) (64 + hN h) 2 (iZ (-1))) (64 + hN h) 3 (iZ (-1))) (64 + hN h) 4 (iZ 0)) (64 + hN h) 5 (iZ 0))) ∨ (¬ (0 ≤ Cz ∧ Cz ≤ Ez ∧ Ez ≤ 9999999) ∧ r = iZ 0 ∧ h = h1), fun K k => ?_, ?_⟩
        · refine Go.more (d := 60) (mc := 1) (ms := 6) ?_ (by omega) (by omega) (by omega)
          show Go G 60 1 6 M_X11_read 0 [.ref 64, .int (iZ (q : Int)), .int (iZ (c : Int)), .int (iZ Cz), .int (iZ Ez), un] [] h K
          refine Go_aload_n (pc' := 1) dX11_read_0 rfl rfl rfl ?_
          refine Go_iload_n (pc' := 2) dX11_read_1 rfl rfl rfl ?_
          refine Go_callV_r (pc' := 5) (As := [.int _]) (st := []) dX11_read_2 rfl ok_X11_quakeOf km_RX11_230 (I.S.o 64 rfl rfl rfl) (I.S.b 64 rfl rfl) ⟨_, _, rfl⟩ rfl (Nat.le_of_ble_eq_true rfl) rfl rfl rfl (Nat.le_of_ble_eq_true rfl) (Nat.lt_succ_self _) ?_
          refine Go_iload_n (pc' := 1) dX11_quakeOf_0 rfl rfl rfl ?_
          refine Go_iconst (v := iZ 0) (pc' := 2) dX11_quakeOf_1 rfl (by decide) ?_
          refine Go_aload_n (pc' := 3) dX11_quakeOf_2 rfl rfl rfl ?_
          refine Go_getIv (v := (iZ (nq : Int))) (pc' := 6) dX11_quakeOf_3 rfl kf_RX11_226 (by decide) (by decide) rfl (I.S.b 64 rfl rfl) (I.S.o 64 rfl rfl rfl) (eq7) ?_
          refine Go_iconst (v := iZ 1) (pc' := 7) dX11_quakeOf_6 rfl (by decide) ?_
          refine Go_isubZ (pc' := 8) dX11_quakeOf_7 rfl ?_
          refine Go_callS_i (pc' := 11) (As := [.int _, .int _, .int _]) (st := []) dX11_quakeOf_8 rfl ok_X11_within km_RX11_94 rfl (Nat.le_of_ble_eq_true rfl) rfl rfl rfl (Nat.le_of_ble_eq_true rfl) (Nat.lt_succ_self _) ?_
          refine s_withinY (by first | exact ⟨i_lo _, i_hi _⟩ | omega) (by first | exact ⟨i_lo _, i_hi _⟩ | omega) (by first | exact ⟨i_lo _, i_hi _⟩ | omega) ?_
          refine ⟨_, rfl, ?_⟩
          refine Go_if_eqb (tgt := 32) (pc' := 14) dX11_quakeOf_11 (by decide) rfl (fun q11 => by exfalso; omega) (fun q11 => ?_)
          refine Go_iload_n (pc' := 15) dX11_quakeOf_14 rfl rfl rfl ?_
          refine Go_aload_n (pc' := 16) dX11_quakeOf_15 rfl rfl rfl ?_
          refine Go_getRs (pc' := 19) dX11_quakeOf_16 rfl kf_RX11_45 (by decide) (by decide) rfl (I.S.b 64 rfl rfl) (I.S.o 64 rfl rfl rfl) (I.S.r 64 6 rfl rfl rfl) ?_
          refine Go_alenZ (n := 16) (pc' := 20) dX11_quakeOf_19 rfl (I.S.b 80 rfl rfl) (I.S.k 80 rfl rfl rfl) (Or.inr (Or.inr ⟨_, rfl⟩)) ?_
          refine Go_icmp_geY (tgt := 32) (pc' := 23) dX11_quakeOf_20 (by decide) rfl (by first | exact ⟨i_lo _, i_hi _⟩ | omega) (by first | exact ⟨i_lo _, i_hi _⟩ | omega) (fun q20 => by exfalso; omega) (fun q20 => ?_)
          refine Go_aload_n (pc' := 24) dX11_quakeOf_23 rfl rfl rfl ?_
          refine Go_getRs (pc' := 27) dX11_quakeOf_24 rfl kf_RX11_45 (by decide) (by decide) rfl (I.S.b 64 rfl rfl) (I.S.o 64 rfl rfl rfl) (I.S.r 64 6 rfl rfl rfl) ?_
          refine Go_iload_n (pc' := 28) dX11_quakeOf_27 rfl rfl rfl ?_
          refine Go_aaloadZ (n := 16) (k := q) (pc' := 29) dX11_quakeOf_28 rfl (I.S.b 80 rfl rfl) (I.S.k 80 rfl rfl rfl) rfl rfl (by omega) (by decide) hu ?_
          refine Go_goto (tgt := 33) dX11_quakeOf_29 (by decide) ?_
          refine Go_areturn (r := some _) dX11_quakeOf_33 rfl ?_
          refine ⟨some _, rfl, ?_⟩
          refine Go_astore (pc' := 7) (lv' := [.ref _, .int _, .int _, .int _, .int _, .ref _]) dX11_read_5 rfl (Nat.le_of_ble_eq_true rfl) rfl rfl ?_
          refine Go_aload (pc' := 9) dX11_read_7 rfl rfl ?_
          refine Go_ifnull (pc' := 12) dX11_read_9 rfl ?_
          refine Go_aload_n (pc' := 13) dX11_read_12 rfl rfl rfl ?_
          refine Go_iload_n (pc' := 14) dX11_read_13 rfl rfl rfl ?_
          refine Go_callV_r (pc' := 17) (As := [.int _]) (st := []) dX11_read_14 rfl ok_X11_cellarOf km_RX11_90 (I.S.o 64 rfl rfl rfl) (I.S.b 64 rfl rfl) ⟨_, _, rfl⟩ rfl (Nat.le_of_ble_eq_true rfl) rfl rfl rfl (Nat.le_of_ble_eq_true rfl) (Nat.lt_succ_self _) ?_
          refine Go_iload_n (pc' := 1) dX11_cellarOf_0 rfl rfl rfl ?_
          refine Go_iconst (v := iZ 0) (pc' := 2) dX11_cellarOf_1 rfl (by decide) ?_
          refine Go_aload_n (pc' := 3) dX11_cellarOf_2 rfl rfl rfl ?_
          refine Go_getIv (v := (iZ (nc : Int))) (pc' := 6) dX11_cellarOf_3 rfl kf_RX11_84 (by decide) (by decide) rfl (I.S.b 64 rfl rfl) (I.S.o 64 rfl rfl rfl) (ec2) ?_
          refine Go_iconst (v := iZ 1) (pc' := 7) dX11_cellarOf_6 rfl (by decide) ?_
          refine Go_isubZ (pc' := 8) dX11_cellarOf_7 rfl ?_
          refine Go_callS_i (pc' := 11) (As := [.int _, .int _, .int _]) (st := []) dX11_cellarOf_8 rfl ok_X11_within km_RX11_94 rfl (Nat.le_of_ble_eq_true rfl) rfl rfl rfl (Nat.le_of_ble_eq_true rfl) (Nat.lt_succ_self _) ?_
          refine s_withinY (by first | exact ⟨i_lo _, i_hi _⟩ | omega) (by first | exact ⟨i_lo _, i_hi _⟩ | omega) (by first | exact ⟨i_lo _, i_hi _⟩ | omega) ?_
          refine ⟨_, rfl, ?_⟩
          refine Go_if_eqb (tgt := 32) (pc' := 14) dX11_cellarOf_11 (by decide) rfl (fun q11 => by exfalso; omega) (fun q11 => ?_)
          refine Go_iload_n (pc' := 15) dX11_cellarOf_14 rfl rfl rfl ?_
          refine Go_aload_n (pc' := 16) dX11_cellarOf_15 rfl rfl rfl ?_
          refine Go_getRs (pc' := 19) dX11_cellarOf_16 rfl kf_RX11_18 (by decide) (by decide) rfl (I.S.b 64 rfl rfl) (I.S.o 64 rfl rfl rfl) (I.S.r 64 1 rfl rfl rfl) ?_
          refine Go_alenZ (n := 6) (pc' := 20) dX11_cellarOf_19 rfl (I.S.b 67 rfl rfl) (I.S.k 67 rfl rfl rfl) (Or.inr (Or.inr ⟨_, rfl⟩)) ?_
          refine Go_icmp_geY (tgt := 32) (pc' := 23) dX11_cellarOf_20 (by decide) rfl (by first | exact ⟨i_lo _, i_hi _⟩ | omega) (by first | exact ⟨i_lo _, i_hi _⟩ | omega) (fun q20 => by exfalso; omega) (fun q20 => ?_)
          refine Go_aload_n (pc' := 24) dX11_cellarOf_23 rfl rfl rfl ?_
          refine Go_getRs (pc' := 27) dX11_cellarOf_24 rfl kf_RX11_18 (by decide) (by decide) rfl (I.S.b 64 rfl rfl) (I.S.o 64 rfl rfl rfl) (I.S.r 64 1 rfl rfl rfl) ?_
          refine Go_iload_n (pc' := 28) dX11_cellarOf_27 rfl rfl rfl ?_
          refine Go_aaloadZ (n := 6) (k := c) (pc' := 29) dX11_cellarOf_28 rfl (I.S.b 67 rfl rfl) (I.S.k 67 rfl rfl rfl) rfl rfl (by omega) (by decide) ho ?_
          refine Go_goto (tgt := 33) dX11_cellarOf_29 (by decide) ?_
          refine Go_areturn (r := some _) dX11_cellarOf_33 rfl ?_
          refine ⟨some _, rfl, ?_⟩
          refine Go_ifnull (pc' := 20) dX11_read_17 rfl ?_
          refine Go_iload_n (pc' := 21) dX11_read_20 rfl rfl rfl ?_
          refine Go_iload (pc' := 23) dX11_read_21 rfl rfl ?_
          refine Go_callS_i (pc' := 26) (As := [.int _, .int _]) (st := []) dX11_read_23 rfl ok_X11_isSpan km_RX11_234 rfl (Nat.le_of_ble_eq_true rfl) rfl rfl rfl (Nat.le_of_ble_eq_true rfl) (Nat.lt_succ_self _) ?_
          refine s_isSpan (by first | exact ⟨i_lo _, i_hi _⟩ | omega) (by first | exact ⟨i_lo _, i_hi _⟩ | omega) ?_
          refine ⟨_, rfl, ?_⟩
          refine Go_if_neb (tgt := 31) (pc' := 29) dX11_read_26 (by decide) rfl (fun c26 => ?_) (fun c26 => ?_)
          · refine Go_aload (pc' := 33) dX11_read_31 rfl rfl ?_
            refine Go_iload_n (pc' := 34) dX11_read_33 rfl rfl rfl ?_
            refine Go_iload_n (pc' := 35) dX11_read_34 rfl rfl rfl ?_
            refine Go_iload (pc' := 37) dX11_read_35 rfl rfl ?_
            refine Go_callV_vA (mc := 0) (ms := 0) (mc2 := 1) (ms2 := 6) (pc' := 40) (As := [.int _, .int _, .int _]) (st := []) dX11_read_37 rfl ok_X5_readAnew km_RX11_237 QS.o QS.b ⟨_, _, rfl⟩ rfl (Nat.le_of_ble_eq_true rfl) rfl rfl rfl (Nat.le_of_ble_eq_true rfl) (Nat.lt_succ_self _) (Nat.le_of_ble_eq_true rfl) (Nat.le_of_ble_eq_true rfl) ?_
            refine Go_iload_n (pc' := 1) dX5_readAnew_0 rfl rfl rfl ?_
            refine Go_if_ltY (tgt := 13) (pc' := 4) dX5_readAnew_1 (by decide) rfl (by first | exact ⟨i_lo _, i_hi _⟩ | omega) (fun c1 => by exfalso; omega) (fun c1 => ?_)
            refine Go_iload_n (pc' := 5) dX5_readAnew_4 rfl rfl rfl ?_
            refine Go_aload_n (pc' := 6) dX5_readAnew_5 rfl rfl rfl ?_
            refine Go_getRs (pc' := 9) dX5_readAnew_6 rfl kf_RX5_11 (by decide) (by decide) rfl QS.b QS.o QS.r0 ?_
            refine Go_alenZ (n := 6) (pc' := 10) dX5_readAnew_9 rfl QS.b1 QS.k1 (Or.inr (Or.inr ⟨_, rfl⟩)) ?_
            refine Go_icmp_ltY (tgt := 14) (pc' := 13) dX5_readAnew_10 (by decide) rfl (by first | exact ⟨i_lo _, i_hi _⟩ | omega) (by first | exact ⟨i_lo _, i_hi _⟩ | omega) (fun c10 => ?_) (fun c10 => by exfalso; omega)
            refine Go_aload_n (pc' := 15) dX5_readAnew_14 rfl rfl rfl ?_
            refine Go_getRs (pc' := 18) dX5_readAnew_15 rfl kf_RX5_11 (by decide) (by decide) rfl QS.b QS.o QS.r0 ?_
            refine Go_iload_n (pc' := 19) dX5_readAnew_18 rfl rfl rfl ?_
            refine Go_aaloadNZ (n := 6) (k := c) (pc' := 20) dX5_readAnew_19 rfl QS.b1 QS.k1 rfl rfl (by omega) (by decide) hw ?_
            refine Go_astoreN (pc' := 22) (lv' := [.ref _, .int _, .int _, .int _, .null]) dX5_readAnew_20 rfl (Nat.le_of_ble_eq_true rfl) rfl rfl ?_
            refine Go_aloadN (pc' := 24) dX5_readAnew_22 rfl rfl ?_
            refine Go_ifnonnullN (pc' := 27) dX5_readAnew_24 rfl ?_
            refine Go_newL (t := 6) (N := 64 + hN h) (mc := 0) (ms := 0) (pc' := 30) dX5_readAnew_27 rfl (by decide) kc_RX5_9 inst6 ini6 (defv 6 (by decide)) (Nat.le_of_ble_eq_true rfl) (Nat.le_of_ble_eq_true rfl) rfl ?_
            refine Go_dup (pc' := 31) dX5_readAnew_30 rfl rfl ?_
            refine Go_callIN_v (mc := 0) (ms := 0) (mc2 := 0) (ms2 := 0) (pc' := 34) (As := []) (st := [.ref _]) dX5_readAnew_31 rfl ok_X6_init km_RX5_24 rfl (Nat.le_of_ble_eq_true rfl) rfl rfl rfl (Nat.le_of_ble_eq_true rfl) (Nat.lt_succ_self _) (Nat.le_of_ble_eq_true rfl) (Nat.le_of_ble_eq_true rfl) ?_
            refine Go_aload_n (pc' := 1) dX6_init_0 rfl rfl rfl ?_
            refine Go_objInit (pc' := 4) dX6_init_1 rfl km_RX6_3 oi_inst oi_code (Nat.le_of_ble_eq_true rfl) (Nat.succ_pos _) ?_
            refine Go_return dX6_init_4 rfl ?_
            refine ⟨rfl, ?_⟩
            have kN : ki (nw h (6, 0)) (64 + hN h) = (6, 0) := ki_nws rfl
            have k0 : (ki (nw h (6, 0)) u).1 = 5 := by rw [ki_nwo (by omega)]; exact QS.o
            have k1 : ki (nw h (6, 0)) (u + 1) = (36, 6) := by rw [ki_nwo (by omega)]; exact QS.k1
            have hNN : hN (nw h (6, 0)) = hN h + 1 := rfl
            have r0 : ri (nw h (6, 0)) u 0 = some (u + 1) := by rw [ri_nwo (by omega)]; exact QS.r0
            have S1 : Shp (nw h (6, 0)) := I.S.nw _
            refine Go_astore (pc' := 36) (lv' := [.ref _, .int _, .int _, .int _, .ref _]) dX5_readAnew_34 rfl (Nat.le_of_ble_eq_true rfl) rfl rfl ?_
            refine Go_aload_n (pc' := 37) dX5_readAnew_36 rfl rfl rfl ?_
            refine Go_getRs (pc' := 40) dX5_readAnew_37 rfl kf_RX5_11 (by decide) (by decide) rfl ⟨by omega, by omega⟩ k0 r0 ?_
            refine Go_iload_n (pc' := 41) dX5_readAnew_40 rfl rfl rfl ?_
            refine Go_aload (pc' := 43) dX5_readAnew_41 rfl rfl ?_
            refine Go_aastoreZ (t := 36) (n := 6) (k := c) (pc' := 44) dX5_readAnew_43 rfl ⟨by omega, by omega⟩ k1 rfl ⟨by omega, by omega⟩ (by rw [kN]) rfl (by omega) (by decide) ?_
            refine Go_aload (pc' := 46) dX5_readAnew_44 rfl rfl ?_
            refine Go_iload_n (pc' := 47) dX5_readAnew_46 rfl rfl rfl ?_
            refine Go_putI (pc' := 50) dX5_readAnew_47 rfl kf_RX5_25 (by decide) (by decide) rfl ⟨by omega, by show _ < 64 + (hN h + 1); omega⟩ (show (ki (nw h (6, 0)) (64 + hN h)).1 = 6 by rw [kN]) (Or.inl rfl) rfl rfl ?_
            refine Go_aload (pc' := 52) dX5_readAnew_50 rfl rfl ?_
            refine Go_iload_n (pc' := 53) dX5_readAnew_52 rfl rfl rfl ?_
            refine Go_putI (pc' := 56) dX5_readAnew_53 rfl kf_RX5_28 (by decide) (by decide) rfl ⟨by omega, by show _ < 64 + (hN h + 1); omega⟩ (show (ki (nw h (6, 0)) (64 + hN h)).1 = 6 by rw [kN]) (Or.inl rfl) rfl rfl ?_
            refine Go_aload (pc' := 58) dX5_readAnew_56 rfl rfl ?_
            refine Go_iconst (v := iZ (-1)) (pc' := 59) dX5_readAnew_58 rfl (by decide) ?_
            refine Go_putI (pc' := 62) dX5_readAnew_59 rfl kf_RX5_31 (by decide) (by decide) rfl ⟨by omega, by show _ < 64 + (hN h + 1); omega⟩ (show (ki (nw h (6, 0)) (64 + hN h)).1 = 6 by rw [kN]) (Or.inl rfl) rfl rfl ?_
            refine Go_aload (pc' := 64) dX5_readAnew_62 rfl rfl ?_
            refine Go_iconst (v := iZ (-1)) (pc' := 65) dX5_readAnew_64 rfl (by decide) ?_
            refine Go_putI (pc' := 68) dX5_readAnew_65 rfl kf_RX5_34 (by decide) (by decide) rfl ⟨by omega, by show _ < 64 + (hN h + 1); omega⟩ (show (ki (nw h (6, 0)) (64 + hN h)).1 = 6 by rw [kN]) (Or.inl rfl) rfl rfl ?_
            refine Go_aload (pc' := 70) dX5_readAnew_68 rfl rfl ?_
            refine Go_iconst (v := iZ 0) (pc' := 71) dX5_readAnew_70 rfl (by decide) ?_
            refine Go_putI (pc' := 74) dX5_readAnew_71 rfl kf_RX5_37 (by decide) (by decide) rfl ⟨by omega, by show _ < 64 + (hN h + 1); omega⟩ (show (ki (nw h (6, 0)) (64 + hN h)).1 = 6 by rw [kN]) (Or.inl rfl) rfl rfl ?_
            refine Go_aload (pc' := 76) dX5_readAnew_74 rfl rfl ?_
            refine Go_iconst (v := iZ 0) (pc' := 77) dX5_readAnew_76 rfl (by decide) ?_
            refine Go_putI (pc' := 80) dX5_readAnew_77 rfl kf_RX5_40 (by decide) (by decide) rfl ⟨by omega, by show _ < 64 + (hN h + 1); omega⟩ (show (ki (nw h (6, 0)) (64 + hN h)).1 = 6 by rw [kN]) (Or.inl rfl) rfl rfl ?_
            refine Go_return dX5_readAnew_80 rfl ?_
            refine ⟨rfl, ?_⟩
            refine Go_iconst (v := iZ 1) (pc' := 41) dX11_read_40 rfl (by decide) ?_
            refine Go_ireturn (ty := .boolean) dX11_read_41 rfl rfl ?_
            exact k _ _ (Or.inl ⟨by omega, rfl, rfl⟩) (shp_wR S1 (by omega))
          · refine Go_iconst (v := iZ 0) (pc' := 30) dX11_read_29 rfl (by decide) ?_
            refine Go_ireturn (ty := .boolean) dX11_read_30 rfl rfl ?_
            exact k _ _ (Or.inr ⟨by omega, rfl, rfl⟩) I.S
        · rintro r h1 (⟨hc, rfl, rfl⟩ | ⟨hc, rfl, rfl⟩) K k
          · have S1 : Shp (wI (wI (wI (wI (wI (wI (wR (nw h (6, 0)) (u + 1) c (some (64 + hN h))) (64 + hN h) 0 (iZ Cz)) (64 + hN h) 1 (iZ Ez)) (64 + hN h) 2 (iZ (-1))) (64 + hN h) 3 (iZ (-1))) (64 + hN h) 4 (iZ 0)) (64 + hN h) 5 (iZ 0)) := shp_wR (I.S.nw _) (by omega)
            show Go G 60 0 0 M_X12_read 0 [.ref 99, .int (iZ (q : Int)), .int (iZ (c : Int)), .int (iZ Cz), .int (iZ Ez), un] [] (wI (wI (wI (wI (wI (wI (wR (nw h (6, 0)) (u + 1) c (some (64 + hN h))) (64 + hN h) 0 (iZ Cz)) (64 + hN h) 1 (iZ Ez)) (64 + hN h) 2 (iZ (-1))) (64 + hN h) 3 (iZ (-1))) (64 + hN h) 4 (iZ 0)) (64 + hN h) 5 (iZ 0)) K
            refine Go_aload_n (pc' := 1) dX12_read_0 rfl rfl rfl ?_
            refine Go_iload_n (pc' := 2) dX12_read_1 rfl rfl rfl ?_
            refine Go_callV_i (pc' := 5) (As := [.int _]) (st := []) dX12_read_2 rfl ok_X12_isQuake km_RX12_340 (S1.o 99 rfl rfl rfl) (S1.b 99 rfl rfl) ⟨_, _, rfl⟩ rfl (Nat.le_of_ble_eq_true rfl) rfl rfl rfl (Nat.le_of_ble_eq_true rfl) (Nat.lt_succ_self _) ?_
            refine Go_iload_n (pc' := 1) dX12_isQuake_0 rfl rfl rfl ?_
            refine Go_iconst (v := iZ 0) (pc' := 2) dX12_isQuake_1 rfl (by decide) ?_
            refine Go_aload_n (pc' := 3) dX12_isQuake_2 rfl rfl rfl ?_
            refine Go_getIv (v := (iZ (nq : Int))) (pc' := 6) dX12_isQuake_3 rfl kf_RX12_336 (by decide) (by decide) rfl (S1.b 99 rfl rfl) (S1.o 99 rfl rfl rfl) ((vi_skip (Or.inl (by omega))).trans ((vi_skip (Or.inl (by omega))).trans ((vi_skip (Or.inl (by omega))).trans ((vi_skip (Or.inl (by omega))).trans ((vi_skip (Or.inl (by omega))).trans ((vi_skip (Or.inl (by omega))).trans ((vi_nwo (t := (6, 0)) (by omega)).trans eq38))))))) ?_
            refine Go_iconst (v := iZ 1) (pc' := 7) dX12_isQuake_6 rfl (by decide) ?_
            refine Go_isubZ (pc' := 8) dX12_isQuake_7 rfl ?_
            refine Go_callS_i (pc' := 11) (As := [.int _, .int _, .int _]) (st := []) dX12_isQuake_8 rfl ok_X12_isIn km_RX12_147 rfl (Nat.le_of_ble_eq_true rfl) rfl rfl rfl (Nat.le_of_ble_eq_true rfl) (Nat.lt_succ_self _) ?_
            refine s_isInY (by first | exact ⟨i_lo _, i_hi _⟩ | omega) (by first | exact ⟨i_lo _, i_hi _⟩ | omega) (by first | exact ⟨i_lo _, i_hi _⟩ | omega) ?_
            refine ⟨_, rfl, ?_⟩
            refine Go_ireturn (ty := .boolean) dX12_isQuake_11 rfl b2i_nb ?_
            refine ⟨_, rfl, ?_⟩
            refine Go_if_eqb (tgt := 25) (pc' := 8) dX12_read_5 (by decide) rfl (fun c5 => by exfalso; omega) (fun c5 => ?_)
            refine Go_aload_n (pc' := 9) dX12_read_8 rfl rfl rfl ?_
            refine Go_iload_n (pc' := 10) dX12_read_9 rfl rfl rfl ?_
            refine Go_callV_i (pc' := 13) (As := [.int _]) (st := []) dX12_read_10 rfl ok_X12_isCellar km_RX12_158 (S1.o 99 rfl rfl rfl) (S1.b 99 rfl rfl) ⟨_, _, rfl⟩ rfl (Nat.le_of_ble_eq_true rfl) rfl rfl rfl (Nat.le_of_ble_eq_true rfl) (Nat.lt_succ_self _) ?_
            refine Go_iload_n (pc' := 1) dX12_isCellar_0 rfl rfl rfl ?_
            refine Go_iconst (v := iZ 0) (pc' := 2) dX12_isCellar_1 rfl (by decide) ?_
            refine Go_aload_n (pc' := 3) dX12_isCellar_2 rfl rfl rfl ?_
            refine Go_getIv (v := (iZ (nc : Int))) (pc' := 6) dX12_isCellar_3 rfl kf_RX12_151 (by decide) (by decide) rfl (S1.b 99 rfl rfl) (S1.o 99 rfl rfl rfl) ((vi_skip (Or.inl (by omega))).trans ((vi_skip (Or.inl (by omega))).trans ((vi_skip (Or.inl (by omega))).trans ((vi_skip (Or.inl (by omega))).trans ((vi_skip (Or.inl (by omega))).trans ((vi_skip (Or.inl (by omega))).trans ((vi_nwo (t := (6, 0)) (by omega)).trans ec0))))))) ?_
            refine Go_iconst (v := iZ 1) (pc' := 7) dX12_isCellar_6 rfl (by decide) ?_
            refine Go_isubZ (pc' := 8) dX12_isCellar_7 rfl ?_
            refine Go_callS_i (pc' := 11) (As := [.int _, .int _, .int _]) (st := []) dX12_isCellar_8 rfl ok_X12_isIn km_RX12_147 rfl (Nat.le_of_ble_eq_true rfl) rfl rfl rfl (Nat.le_of_ble_eq_true rfl) (Nat.lt_succ_self _) ?_
            refine s_isInY (by first | exact ⟨i_lo _, i_hi _⟩ | omega) (by first | exact ⟨i_lo _, i_hi _⟩ | omega) (by first | exact ⟨i_lo _, i_hi _⟩ | omega) ?_
            refine ⟨_, rfl, ?_⟩
            refine Go_ireturn (ty := .boolean) dX12_isCellar_11 rfl b2i_nb ?_
            refine ⟨_, rfl, ?_⟩
            refine Go_if_eqb (tgt := 25) (pc' := 16) dX12_read_13 (by decide) rfl (fun c13 => by exfalso; omega) (fun c13 => ?_)
            refine Go_iload_n (pc' := 17) dX12_read_16 rfl rfl rfl ?_
            refine Go_iload (pc' := 19) dX12_read_17 rfl rfl ?_
            refine Go_callS_i (pc' := 22) (As := [.int _, .int _]) (st := []) dX12_read_19 rfl ok_X12_areTimes km_RX12_343 rfl (Nat.le_of_ble_eq_true rfl) rfl rfl rfl (Nat.le_of_ble_eq_true rfl) (Nat.lt_succ_self _) ?_
            refine s_areTimes (by first | exact ⟨i_lo _, i_hi _⟩ | omega) (by first | exact ⟨i_lo _, i_hi _⟩ | omega) ?_
            refine ⟨_, rfl, ?_⟩
            refine Go_if_neb (tgt := 27) (pc' := 25) dX12_read_22 (by decide) rfl (fun c22 => ?_) (fun c22 => ?_)
            · refine Go_bipush (v := iZ 6) (pc' := 29) dX12_read_27 rfl (by decide) ?_
              refine Go_iload_n (pc' := 30) dX12_read_29 rfl rfl rfl ?_
              refine Go_imulZ (pc' := 31) dX12_read_30 rfl ?_
              refine Go_iload_n (pc' := 32) dX12_read_31 rfl rfl rfl ?_
              refine Go_iaddZ (pc' := 33) dX12_read_32 rfl ?_
              refine Go_istore (pc' := 35) (lv' := [.ref _, .int _, .int _, .int _, .int _, .int _]) dX12_read_33 rfl (Nat.le_of_ble_eq_true rfl) rfl rfl ?_
              refine Go_aload_n (pc' := 36) dX12_read_35 rfl rfl rfl ?_
              refine Go_getRs (pc' := 39) dX12_read_36 rfl kf_RX12_92 (by decide) (by decide) rfl (S1.b 99 rfl rfl) (S1.o 99 rfl rfl rfl) (S1.r 99 41 rfl rfl rfl) ?_
              refine Go_iload (pc' := 41) dX12_read_39 rfl rfl ?_
              refine Go_iconst (v := iZ 1) (pc' := 42) dX12_read_41 rfl (by decide) ?_
              refine Go_bastoreZ (n := 96) (k := (6 * q + c)) (pc' := 43) dX12_read_42 rfl (S1.b 124 rfl rfl) (S1.k 124 rfl rfl rfl) (by omega) (by omega) (by decide) (by decide) ?_
              refine Go_aload_n (pc' := 44) dX12_read_43 rfl rfl rfl ?_
              refine Go_getRs (pc' := 47) dX12_read_44 rfl kf_RX12_96 (by decide) (by decide) rfl (S1.b 99 rfl rfl) (S1.o 99 rfl rfl rfl) (S1.r 99 42 rfl rfl rfl) ?_
              refine Go_iload (pc' := 49) dX12_read_47 rfl rfl ?_
              refine Go_iconst (v := iZ 0) (pc' := 50) dX12_read_49 rfl (by decide) ?_
              refine Go_bastoreZ (n := 96) (k := (6 * q + c)) (pc' := 51) dX12_read_50 rfl (S1.b 125 rfl rfl) (S1.k 125 rfl rfl rfl) (by omega) (by omega) (by decide) (by decide) ?_
              refine Go_aload_n (pc' := 52) dX12_read_51 rfl rfl rfl ?_
              refine Go_getRs (pc' := 55) dX12_read_52 rfl kf_RX12_99 (by decide) (by decide) rfl (S1.b 99 rfl rfl) (S1.o 99 rfl rfl rfl) (S1.r 99 43 rfl rfl rfl) ?_
              refine Go_iload (pc' := 57) dX12_read_55 rfl rfl ?_
              refine Go_iload_n (pc' := 58) dX12_read_57 rfl rfl rfl ?_
              refine Go_iastoreZ (n := 96) (k := (6 * q + c)) (pc' := 59) dX12_read_58 rfl (S1.b 126 rfl rfl) (S1.k 126 rfl rfl rfl) (by omega) (by omega) (by decide) ?_
              refine Go_aload_n (pc' := 60) dX12_read_59 rfl rfl rfl ?_
              refine Go_getRs (pc' := 63) dX12_read_60 rfl kf_RX12_102 (by decide) (by decide) rfl (S1.b 99 rfl rfl) (S1.o 99 rfl rfl rfl) (S1.r 99 44 rfl rfl rfl) ?_
              refine Go_iload (pc' := 65) dX12_read_63 rfl rfl ?_
              refine Go_iload (pc' := 67) dX12_read_65 rfl rfl ?_
              refine Go_iastoreZ (n := 96) (k := (6 * q + c)) (pc' := 68) dX12_read_67 rfl (S1.b 127 rfl rfl) (S1.k 127 rfl rfl rfl) (by omega) (by omega) (by decide) ?_
              refine Go_aload_n (pc' := 69) dX12_read_68 rfl rfl rfl ?_
              refine Go_getRs (pc' := 72) dX12_read_69 rfl kf_RX12_111 (by decide) (by decide) rfl (S1.b 99 rfl rfl) (S1.o 99 rfl rfl rfl) (S1.r 99 47 rfl rfl rfl) ?_
              refine Go_iload (pc' := 74) dX12_read_72 rfl rfl ?_
              refine Go_iconst (v := iZ 0) (pc' := 75) dX12_read_74 rfl (by decide) ?_
              refine Go_iastoreZ (n := 96) (k := (6 * q + c)) (pc' := 76) dX12_read_75 rfl (S1.b 130 rfl rfl) (S1.k 130 rfl rfl rfl) (by omega) (by omega) (by decide) ?_
              refine Go_aload_n (pc' := 77) dX12_read_76 rfl rfl rfl ?_
              refine Go_getRs (pc' := 80) dX12_read_77 rfl kf_RX12_114 (by decide) (by decide) rfl (S1.b 99 rfl rfl) (S1.o 99 rfl rfl rfl) (S1.r 99 48 rfl rfl rfl) ?_
              refine Go_iload (pc' := 82) dX12_read_80 rfl rfl ?_
              refine Go_iconst (v := iZ 0) (pc' := 83) dX12_read_82 rfl (by decide) ?_
              refine Go_iastoreZ (n := 96) (k := (6 * q + c)) (pc' := 84) dX12_read_83 rfl (S1.b 131 rfl rfl) (S1.k 131 rfl rfl rfl) (by omega) (by omega) (by decide) ?_
              refine Go_iconst (v := iZ 1) (pc' := 85) dX12_read_84 rfl (by decide) ?_
              refine Go_ireturn (ty := .boolean) dX12_read_85 rfl rfl ?_
              have c7 : hN (wI (wI (wI (wI (wI (wI (wI (wI (wI (wI (wI (wI (wR (nw h (6, 0)) (u + 1) c (some (64 + hN h))) (64 + hN h) 0 (iZ Cz)) (64 + hN h) 1 (iZ Ez)) (64 + hN h) 2 (iZ (-1))) (64 + hN h) 3 (iZ (-1))) (64 + hN h) 4 (iZ 0)) (64 + hN h) 5 (iZ 0)) 124 (6 * q + c) (iZ 1)) 125 (6 * q + c) (iZ 0)) 126 (6 * q + c) (iZ Cz)) 127 (6 * q + c) (iZ Ez)) 130 (6 * q + c) (iZ 0)) 131 (6 * q + c) (iZ 0)) = hN h + 1 := rfl
              refine k _ (I.rn (N := 64 + hN h) rfl hqz hu QS (by omega) hcz rfl (fun i hi => ki_nwo (t := (6, 0)) (by omega)) (ki_nws (t := (6, 0)) rfl) (fun i j h1 h2 => (vi_skip (by omega)).trans ((vi_skip (by omega)).trans ((vi_skip (by omega)).trans ((vi_skip (by omega)).trans ((vi_skip (by omega)).trans ((vi_skip (by omega)).trans ((vi_skip (by omega)).trans ((vi_skip (by omega)).trans ((vi_skip (by omega)).trans ((vi_skip (by omega)).trans ((vi_skip (by omega)).trans ((vi_skip (by omega)).trans (vi_nwo (t := (6, 0)) (by omega)))))))))))))) (fun i j h1 h2 => (ri_skip (by omega)).trans (ri_nwo (t := (6, 0)) (by omega))) ri_same ((vi_skip (Or.inl (by decide))).trans ((vi_skip (Or.inl (by decide))).trans ((vi_skip (Or.inl (by decide))).trans ((vi_skip (Or.inl (by decide))).trans ((vi_skip (Or.inl (by decide))).trans (vi_same)))))) ⟨⟨(((vi_skip (Or.inl (by omega))).trans ((vi_skip (Or.inl (by omega))).trans ((vi_skip (Or.inl (by omega))).trans ((vi_skip (Or.inl (by omega))).trans ((vi_skip (Or.inl (by omega))).trans ((vi_skip (Or.inl (by omega))).trans ((vi_skip (Or.inr (by decide))).trans ((vi_skip (Or.inr (by decide))).trans ((vi_skip (Or.inr (by decide))).trans ((vi_skip (Or.inr (by decide))).trans ((vi_skip (Or.inr (by decide))).trans (vi_same)))))))))))).trans ((vi_skip (Or.inl (by decide))).trans ((vi_skip (Or.inl (by decide))).trans ((vi_skip (Or.inl (by decide))).trans (vi_same)))).symm), ?_⟩, ⟨(((vi_skip (Or.inl (by omega))).trans ((vi_skip (Or.inl (by omega))).trans ((vi_skip (Or.inl (by omega))).trans ((vi_skip (Or.inl (by omega))).trans ((vi_skip (Or.inl (by omega))).trans ((vi_skip (Or.inl (by omega))).trans ((vi_skip (Or.inr (by decide))).trans ((vi_skip (Or.inr (by decide))).trans ((vi_skip (Or.inr (by decide))).trans ((vi_skip (Or.inr (by decide))).trans (vi_same))))))))))).trans ((vi_skip (Or.inl (by decide))).trans ((vi_skip (Or.inl (by decide))).trans (vi_same))).symm), ?_⟩, Or.inl ⟨(((vi_skip (Or.inl (by omega))).trans ((vi_skip (Or.inl (by omega))).trans ((vi_skip (Or.inl (by omega))).trans ((vi_skip (Or.inl (by omega))).trans ((vi_skip (Or.inl (by omega))).trans ((vi_skip (Or.inl (by omega))).trans ((vi_skip (Or.inr (by decide))).trans ((vi_skip (Or.inr (by decide))).trans ((vi_skip (Or.inr (by decide))).trans (vi_same))))))))))).trans (show iZ (-1) = (-1 : Int32) from by decide), ((vi_skip (Or.inl (by decide))).trans ((vi_skip (Or.inl (by decide))).trans ((vi_skip (Or.inl (by decide))).trans ((vi_skip (Or.inl (by decide))).trans (vi_same)))))⟩, ⟨(((vi_skip (Or.inl (by omega))).trans ((vi_skip (Or.inl (by omega))).trans ((vi_skip (Or.inl (by omega))).trans ((vi_skip (Or.inl (by omega))).trans ((vi_skip (Or.inl (by omega))).trans ((vi_skip (Or.inl (by omega))).trans ((vi_skip (Or.inr (by decide))).trans (vi_same)))))))).trans ((vi_skip (Or.inl (by decide))).trans (vi_same)).symm), ?_⟩, ⟨(((vi_skip (Or.inl (by omega))).trans ((vi_skip (Or.inl (by omega))).trans ((vi_skip (Or.inl (by omega))).trans ((vi_skip (Or.inl (by omega))).trans ((vi_skip (Or.inl (by omega))).trans ((vi_skip (Or.inl (by omega))).trans (vi_same))))))).trans (vi_same).symm), ?_⟩⟩)
              · rw [show vi (wI (wI (wI (wI (wI (wI (wI (wI (wI (wI (wI (wI (wR (nw h (6, 0)) (u + 1) c (some (64 + hN h))) (64 + hN h) 0 (iZ Cz)) (64 + hN h) 1 (iZ Ez)) (64 + hN h) 2 (iZ (-1))) (64 + hN h) 3 (iZ (-1))) (64 + hN h) 4 (iZ 0)) (64 + hN h) 5 (iZ 0)) 124 (6 * q + c) (iZ 1)) 125 (6 * q + c) (iZ 0)) 126 (6 * q + c) (iZ Cz)) 127 (6 * q + c) (iZ Ez)) 130 (6 * q + c) (iZ 0)) 131 (6 * q + c) (iZ 0)) (64 + hN h) 0 = (iZ Cz) from ((vi_skip (Or.inl (by omega))).trans ((vi_skip (Or.inl (by omega))).trans ((vi_skip (Or.inl (by omega))).trans ((vi_skip (Or.inl (by omega))).trans ((vi_skip (Or.inl (by omega))).trans ((vi_skip (Or.inl (by omega))).trans ((vi_skip (Or.inr (by decide))).trans ((vi_skip (Or.inr (by decide))).trans ((vi_skip (Or.inr (by decide))).trans ((vi_skip (Or.inr (by decide))).trans ((vi_skip (Or.inr (by decide))).trans (vi_same))))))))))))]; exact rgz (by omega) (by omega)
              · rw [show vi (wI (wI (wI (wI (wI (wI (wI (wI (wI (wI (wI (wI (wR (nw h (6, 0)) (u + 1) c (some (64 + hN h))) (64 + hN h) 0 (iZ Cz)) (64 + hN h) 1 (iZ Ez)) (64 + hN h) 2 (iZ (-1))) (64 + hN h) 3 (iZ (-1))) (64 + hN h) 4 (iZ 0)) (64 + hN h) 5 (iZ 0)) 124 (6 * q + c) (iZ 1)) 125 (6 * q + c) (iZ 0)) 126 (6 * q + c) (iZ Cz)) 127 (6 * q + c) (iZ Ez)) 130 (6 * q + c) (iZ 0)) 131 (6 * q + c) (iZ 0)) (64 + hN h) 1 = (iZ Ez) from ((vi_skip (Or.inl (by omega))).trans ((vi_skip (Or.inl (by omega))).trans ((vi_skip (Or.inl (by omega))).trans ((vi_skip (Or.inl (by omega))).trans ((vi_skip (Or.inl (by omega))).trans ((vi_skip (Or.inl (by omega))).trans ((vi_skip (Or.inr (by decide))).trans ((vi_skip (Or.inr (by decide))).trans ((vi_skip (Or.inr (by decide))).trans ((vi_skip (Or.inr (by decide))).trans (vi_same)))))))))))]; exact rgz (by omega) (by omega)
              · rw [show vi (wI (wI (wI (wI (wI (wI (wI (wI (wI (wI (wI (wI (wR (nw h (6, 0)) (u + 1) c (some (64 + hN h))) (64 + hN h) 0 (iZ Cz)) (64 + hN h) 1 (iZ Ez)) (64 + hN h) 2 (iZ (-1))) (64 + hN h) 3 (iZ (-1))) (64 + hN h) 4 (iZ 0)) (64 + hN h) 5 (iZ 0)) 124 (6 * q + c) (iZ 1)) 125 (6 * q + c) (iZ 0)) 126 (6 * q + c) (iZ Cz)) 127 (6 * q + c) (iZ Ez)) 130 (6 * q + c) (iZ 0)) 131 (6 * q + c) (iZ 0)) (64 + hN h) 4 = (iZ 0) from ((vi_skip (Or.inl (by omega))).trans ((vi_skip (Or.inl (by omega))).trans ((vi_skip (Or.inl (by omega))).trans ((vi_skip (Or.inl (by omega))).trans ((vi_skip (Or.inl (by omega))).trans ((vi_skip (Or.inl (by omega))).trans ((vi_skip (Or.inr (by decide))).trans (vi_same))))))))]; exact rgz (by omega) (by omega)
              · rw [show vi (wI (wI (wI (wI (wI (wI (wI (wI (wI (wI (wI (wI (wR (nw h (6, 0)) (u + 1) c (some (64 + hN h))) (64 + hN h) 0 (iZ Cz)) (64 + hN h) 1 (iZ Ez)) (64 + hN h) 2 (iZ (-1))) (64 + hN h) 3 (iZ (-1))) (64 + hN h) 4 (iZ 0)) (64 + hN h) 5 (iZ 0)) 124 (6 * q + c) (iZ 1)) 125 (6 * q + c) (iZ 0)) 126 (6 * q + c) (iZ Cz)) 127 (6 * q + c) (iZ Ez)) 130 (6 * q + c) (iZ 0)) 131 (6 * q + c) (iZ 0)) (64 + hN h) 5 = (iZ 0) from ((vi_skip (Or.inl (by omega))).trans ((vi_skip (Or.inl (by omega))).trans ((vi_skip (Or.inl (by omega))).trans ((vi_skip (Or.inl (by omega))).trans ((vi_skip (Or.inl (by omega))).trans ((vi_skip (Or.inl (by omega))).trans (vi_same)))))))]; exact rgz (by omega) (by omega)
            · refine Go_iconst (v := iZ 0) (pc' := 26) dX12_read_25 rfl (by decide) ?_
              refine Go_ireturn (ty := .boolean) dX12_read_26 rfl rfl ?_
              exfalso; omega
          · show Go G 60 0 0 M_X12_read 0 [.ref 99, .int (iZ (q : Int)), .int (iZ (c : Int)), .int (iZ Cz), .int (iZ Ez), un] [] h K
            refine Go_aload_n (pc' := 1) dX12_read_0 rfl rfl rfl ?_
            refine Go_iload_n (pc' := 2) dX12_read_1 rfl rfl rfl ?_
            refine Go_callV_i (pc' := 5) (As := [.int _]) (st := []) dX12_read_2 rfl ok_X12_isQuake km_RX12_340 (I.S.o 99 rfl rfl rfl) (I.S.b 99 rfl rfl) ⟨_, _, rfl⟩ rfl (Nat.le_of_ble_eq_true rfl) rfl rfl rfl (Nat.le_of_ble_eq_true rfl) (Nat.lt_succ_self _) ?_
            refine Go_iload_n (pc' := 1) dX12_isQuake_0 rfl rfl rfl ?_
            refine Go_iconst (v := iZ 0) (pc' := 2) dX12_isQuake_1 rfl (by decide) ?_
            refine Go_aload_n (pc' := 3) dX12_isQuake_2 rfl rfl rfl ?_
            refine Go_getIv (v := (iZ (nq : Int))) (pc' := 6) dX12_isQuake_3 rfl kf_RX12_336 (by decide) (by decide) rfl (I.S.b 99 rfl rfl) (I.S.o 99 rfl rfl rfl) (eq38) ?_
            refine Go_iconst (v := iZ 1) (pc' := 7) dX12_isQuake_6 rfl (by decide) ?_
            refine Go_isubZ (pc' := 8) dX12_isQuake_7 rfl ?_
            refine Go_callS_i (pc' := 11) (As := [.int _, .int _, .int _]) (st := []) dX12_isQuake_8 rfl ok_X12_isIn km_RX12_147 rfl (Nat.le_of_ble_eq_true rfl) rfl rfl rfl (Nat.le_of_ble_eq_true rfl) (Nat.lt_succ_self _) ?_
            refine s_isInY (by first | exact ⟨i_lo _, i_hi _⟩ | omega) (by first | exact ⟨i_lo _, i_hi _⟩ | omega) (by first | exact ⟨i_lo _, i_hi _⟩ | omega) ?_
            refine ⟨_, rfl, ?_⟩
            refine Go_ireturn (ty := .boolean) dX12_isQuake_11 rfl b2i_nb ?_
            refine ⟨_, rfl, ?_⟩
            refine Go_if_eqb (tgt := 25) (pc' := 8) dX12_read_5 (by decide) rfl (fun c5 => by exfalso; omega) (fun c5 => ?_)
            refine Go_aload_n (pc' := 9) dX12_read_8 rfl rfl rfl ?_
            refine Go_iload_n (pc' := 10) dX12_read_9 rfl rfl rfl ?_
            refine Go_callV_i (pc' := 13) (As := [.int _]) (st := []) dX12_read_10 rfl ok_X12_isCellar km_RX12_158 (I.S.o 99 rfl rfl rfl) (I.S.b 99 rfl rfl) ⟨_, _, rfl⟩ rfl (Nat.le_of_ble_eq_true rfl) rfl rfl rfl (Nat.le_of_ble_eq_true rfl) (Nat.lt_succ_self _) ?_
            refine Go_iload_n (pc' := 1) dX12_isCellar_0 rfl rfl rfl ?_
            refine Go_iconst (v := iZ 0) (pc' := 2) dX12_isCellar_1 rfl (by decide) ?_
            refine Go_aload_n (pc' := 3) dX12_isCellar_2 rfl rfl rfl ?_
            refine Go_getIv (v := (iZ (nc : Int))) (pc' := 6) dX12_isCellar_3 rfl kf_RX12_151 (by decide) (by decide) rfl (I.S.b 99 rfl rfl) (I.S.o 99 rfl rfl rfl) (ec0) ?_
            refine Go_iconst (v := iZ 1) (pc' := 7) dX12_isCellar_6 rfl (by decide) ?_
            refine Go_isubZ (pc' := 8) dX12_isCellar_7 rfl ?_
            refine Go_callS_i (pc' := 11) (As := [.int _, .int _, .int _]) (st := []) dX12_isCellar_8 rfl ok_X12_isIn km_RX12_147 rfl (Nat.le_of_ble_eq_true rfl) rfl rfl rfl (Nat.le_of_ble_eq_true rfl) (Nat.lt_succ_self _) ?_
            refine s_isInY (by first | exact ⟨i_lo _, i_hi _⟩ | omega) (by first | exact ⟨i_lo _, i_hi _⟩ | omega) (by first | exact ⟨i_lo _, i_hi _⟩ | omega) ?_
            refine ⟨_, rfl, ?_⟩
            refine Go_ireturn (ty := .boolean) dX12_isCellar_11 rfl b2i_nb ?_
            refine ⟨_, rfl, ?_⟩
            refine Go_if_eqb (tgt := 25) (pc' := 16) dX12_read_13 (by decide) rfl (fun c13 => by exfalso; omega) (fun c13 => ?_)
            refine Go_iload_n (pc' := 17) dX12_read_16 rfl rfl rfl ?_
            refine Go_iload (pc' := 19) dX12_read_17 rfl rfl ?_
            refine Go_callS_i (pc' := 22) (As := [.int _, .int _]) (st := []) dX12_read_19 rfl ok_X12_areTimes km_RX12_343 rfl (Nat.le_of_ble_eq_true rfl) rfl rfl rfl (Nat.le_of_ble_eq_true rfl) (Nat.lt_succ_self _) ?_
            refine s_areTimes (by first | exact ⟨i_lo _, i_hi _⟩ | omega) (by first | exact ⟨i_lo _, i_hi _⟩ | omega) ?_
            refine ⟨_, rfl, ?_⟩
            refine Go_if_neb (tgt := 27) (pc' := 25) dX12_read_22 (by decide) rfl (fun c22 => ?_) (fun c22 => ?_)
            · refine Go_bipush (v := iZ 6) (pc' := 29) dX12_read_27 rfl (by decide) ?_
              refine Go_iload_n (pc' := 30) dX12_read_29 rfl rfl rfl ?_
              refine Go_imulZ (pc' := 31) dX12_read_30 rfl ?_
              refine Go_iload_n (pc' := 32) dX12_read_31 rfl rfl rfl ?_
              refine Go_iaddZ (pc' := 33) dX12_read_32 rfl ?_
              refine Go_istore (pc' := 35) (lv' := [.ref _, .int _, .int _, .int _, .int _, .int _]) dX12_read_33 rfl (Nat.le_of_ble_eq_true rfl) rfl rfl ?_
              refine Go_aload_n (pc' := 36) dX12_read_35 rfl rfl rfl ?_
              refine Go_getRs (pc' := 39) dX12_read_36 rfl kf_RX12_92 (by decide) (by decide) rfl (I.S.b 99 rfl rfl) (I.S.o 99 rfl rfl rfl) (I.S.r 99 41 rfl rfl rfl) ?_
              refine Go_iload (pc' := 41) dX12_read_39 rfl rfl ?_
              refine Go_iconst (v := iZ 1) (pc' := 42) dX12_read_41 rfl (by decide) ?_
              refine Go_bastoreZ (n := 96) (k := (6 * q + c)) (pc' := 43) dX12_read_42 rfl (I.S.b 124 rfl rfl) (I.S.k 124 rfl rfl rfl) (by omega) (by omega) (by decide) (by decide) ?_
              refine Go_aload_n (pc' := 44) dX12_read_43 rfl rfl rfl ?_
              refine Go_getRs (pc' := 47) dX12_read_44 rfl kf_RX12_96 (by decide) (by decide) rfl (I.S.b 99 rfl rfl) (I.S.o 99 rfl rfl rfl) (I.S.r 99 42 rfl rfl rfl) ?_
              refine Go_iload (pc' := 49) dX12_read_47 rfl rfl ?_
              refine Go_iconst (v := iZ 0) (pc' := 50) dX12_read_49 rfl (by decide) ?_
              refine Go_bastoreZ (n := 96) (k := (6 * q + c)) (pc' := 51) dX12_read_50 rfl (I.S.b 125 rfl rfl) (I.S.k 125 rfl rfl rfl) (by omega) (by omega) (by decide) (by decide) ?_
              refine Go_aload_n (pc' := 52) dX12_read_51 rfl rfl rfl ?_
              refine Go_getRs (pc' := 55) dX12_read_52 rfl kf_RX12_99 (by decide) (by decide) rfl (I.S.b 99 rfl rfl) (I.S.o 99 rfl rfl rfl) (I.S.r 99 43 rfl rfl rfl) ?_
              refine Go_iload (pc' := 57) dX12_read_55 rfl rfl ?_
              refine Go_iload_n (pc' := 58) dX12_read_57 rfl rfl rfl ?_
              refine Go_iastoreZ (n := 96) (k := (6 * q + c)) (pc' := 59) dX12_read_58 rfl (I.S.b 126 rfl rfl) (I.S.k 126 rfl rfl rfl) (by omega) (by omega) (by decide) ?_
              refine Go_aload_n (pc' := 60) dX12_read_59 rfl rfl rfl ?_
              refine Go_getRs (pc' := 63) dX12_read_60 rfl kf_RX12_102 (by decide) (by decide) rfl (I.S.b 99 rfl rfl) (I.S.o 99 rfl rfl rfl) (I.S.r 99 44 rfl rfl rfl) ?_
              refine Go_iload (pc' := 65) dX12_read_63 rfl rfl ?_
              refine Go_iload (pc' := 67) dX12_read_65 rfl rfl ?_
              refine Go_iastoreZ (n := 96) (k := (6 * q + c)) (pc' := 68) dX12_read_67 rfl (I.S.b 127 rfl rfl) (I.S.k 127 rfl rfl rfl) (by omega) (by omega) (by decide) ?_
              refine Go_aload_n (pc' := 69) dX12_read_68 rfl rfl rfl ?_
              refine Go_getRs (pc' := 72) dX12_read_69 rfl kf_RX12_111 (by decide) (by decide) rfl (I.S.b 99 rfl rfl) (I.S.o 99 rfl rfl rfl) (I.S.r 99 47 rfl rfl rfl) ?_
              refine Go_iload (pc' := 74) dX12_read_72 rfl rfl ?_
              refine Go_iconst (v := iZ 0) (pc' := 75) dX12_read_74 rfl (by decide) ?_
              refine Go_iastoreZ (n := 96) (k := (6 * q + c)) (pc' := 76) dX12_read_75 rfl (I.S.b 130 rfl rfl) (I.S.k 130 rfl rfl rfl) (by omega) (by omega) (by decide) ?_
              refine Go_aload_n (pc' := 77) dX12_read_76 rfl rfl rfl ?_
              refine Go_getRs (pc' := 80) dX12_read_77 rfl kf_RX12_114 (by decide) (by decide) rfl (I.S.b 99 rfl rfl) (I.S.o 99 rfl rfl rfl) (I.S.r 99 48 rfl rfl rfl) ?_
              refine Go_iload (pc' := 82) dX12_read_80 rfl rfl ?_
              refine Go_iconst (v := iZ 0) (pc' := 83) dX12_read_82 rfl (by decide) ?_
              refine Go_iastoreZ (n := 96) (k := (6 * q + c)) (pc' := 84) dX12_read_83 rfl (I.S.b 131 rfl rfl) (I.S.k 131 rfl rfl rfl) (by omega) (by omega) (by decide) ?_
              refine Go_iconst (v := iZ 1) (pc' := 85) dX12_read_84 rfl (by decide) ?_
              refine Go_ireturn (ty := .boolean) dX12_read_85 rfl rfl ?_
              exfalso; omega
            · refine Go_iconst (v := iZ 0) (pc' := 26) dX12_read_25 rfl (by decide) ?_
              refine Go_ireturn (ty := .boolean) dX12_read_26 rfl rfl ?_
              exact k _ I
      · have hw0 := RS.1
        refine ⟨fun r h1 => ((0 ≤ Cz ∧ Cz ≤ Ez ∧ Ez ≤ 9999999) ∧ r = iZ 1 ∧ h1 = (wI (wI (wI (wI (wI (wI h w 0 (iZ Cz)) w 1 (iZ Ez)) w 2 (iZ (-1))) w 3 (iZ (-1))) w 4 (iZ 0)) w 5 (iZ 0))) ∨ (¬ (0 ≤ Cz ∧ Cz ≤ Ez ∧ Ez ≤ 9999999) ∧ r = iZ 0 ∧ h = h1), fun K k => ?_, ?_⟩
        · refine Go.more (d := 60) (mc := 0) (ms := 0) ?_ (by omega) (by omega) (by omega)
          show Go G 60 0 0 M_X11_read 0 [.ref 64, .int (iZ (q : Int)), .int (iZ (c : Int)), .int (iZ Cz), .int (iZ Ez), un] [] h K
          refine Go_aload_n (pc' := 1) dX11_read_0 rfl rfl rfl ?_
          refine Go_iload_n (pc' := 2) dX11_read_1 rfl rfl rfl ?_
          refine Go_callV_r (pc' := 5) (As := [.int _]) (st := []) dX11_read_2 rfl ok_X11_quakeOf km_RX11_230 (I.S.o 64 rfl rfl rfl) (I.S.b 64 rfl rfl) ⟨_, _, rfl⟩ rfl (Nat.le_of_ble_eq_true rfl) rfl rfl rfl (Nat.le_of_ble_eq_true rfl) (Nat.lt_succ_self _) ?_
          refine Go_iload_n (pc' := 1) dX11_quakeOf_0 rfl rfl rfl ?_
          refine Go_iconst (v := iZ 0) (pc' := 2) dX11_quakeOf_1 rfl (by decide) ?_
          refine Go_aload_n (pc' := 3) dX11_quakeOf_2 rfl rfl rfl ?_
          refine Go_getIv (v := (iZ (nq : Int))) (pc' := 6) dX11_quakeOf_3 rfl kf_RX11_226 (by decide) (by decide) rfl (I.S.b 64 rfl rfl) (I.S.o 64 rfl rfl rfl) (eq7) ?_
          refine Go_iconst (v := iZ 1) (pc' := 7) dX11_quakeOf_6 rfl (by decide) ?_
          refine Go_isubZ (pc' := 8) dX11_quakeOf_7 rfl ?_
          refine Go_callS_i (pc' := 11) (As := [.int _, .int _, .int _]) (st := []) dX11_quakeOf_8 rfl ok_X11_within km_RX11_94 rfl (Nat.le_of_ble_eq_true rfl) rfl rfl rfl (Nat.le_of_ble_eq_true rfl) (Nat.lt_succ_self _) ?_
          refine s_withinY (by first | exact ⟨i_lo _, i_hi _⟩ | omega) (by first | exact ⟨i_lo _, i_hi _⟩ | omega) (by first | exact ⟨i_lo _, i_hi _⟩ | omega) ?_
          refine ⟨_, rfl, ?_⟩
          refine Go_if_eqb (tgt := 32) (pc' := 14) dX11_quakeOf_11 (by decide) rfl (fun q11 => by exfalso; omega) (fun q11 => ?_)
          refine Go_iload_n (pc' := 15) dX11_quakeOf_14 rfl rfl rfl ?_
          refine Go_aload_n (pc' := 16) dX11_quakeOf_15 rfl rfl rfl ?_
          refine Go_getRs (pc' := 19) dX11_quakeOf_16 rfl kf_RX11_45 (by decide) (by decide) rfl (I.S.b 64 rfl rfl) (I.S.o 64 rfl rfl rfl) (I.S.r 64 6 rfl rfl rfl) ?_
          refine Go_alenZ (n := 16) (pc' := 20) dX11_quakeOf_19 rfl (I.S.b 80 rfl rfl) (I.S.k 80 rfl rfl rfl) (Or.inr (Or.inr ⟨_, rfl⟩)) ?_
          refine Go_icmp_geY (tgt := 32) (pc' := 23) dX11_quakeOf_20 (by decide) rfl (by first | exact ⟨i_lo _, i_hi _⟩ | omega) (by first | exact ⟨i_lo _, i_hi _⟩ | omega) (fun q20 => by exfalso; omega) (fun q20 => ?_)
          refine Go_aload_n (pc' := 24) dX11_quakeOf_23 rfl rfl rfl ?_
          refine Go_getRs (pc' := 27) dX11_quakeOf_24 rfl kf_RX11_45 (by decide) (by decide) rfl (I.S.b 64 rfl rfl) (I.S.o 64 rfl rfl rfl) (I.S.r 64 6 rfl rfl rfl) ?_
          refine Go_iload_n (pc' := 28) dX11_quakeOf_27 rfl rfl rfl ?_
          refine Go_aaloadZ (n := 16) (k := q) (pc' := 29) dX11_quakeOf_28 rfl (I.S.b 80 rfl rfl) (I.S.k 80 rfl rfl rfl) rfl rfl (by omega) (by decide) hu ?_
          refine Go_goto (tgt := 33) dX11_quakeOf_29 (by decide) ?_
          refine Go_areturn (r := some _) dX11_quakeOf_33 rfl ?_
          refine ⟨some _, rfl, ?_⟩
          refine Go_astore (pc' := 7) (lv' := [.ref _, .int _, .int _, .int _, .int _, .ref _]) dX11_read_5 rfl (Nat.le_of_ble_eq_true rfl) rfl rfl ?_
          refine Go_aload (pc' := 9) dX11_read_7 rfl rfl ?_
          refine Go_ifnull (pc' := 12) dX11_read_9 rfl ?_
          refine Go_aload_n (pc' := 13) dX11_read_12 rfl rfl rfl ?_
          refine Go_iload_n (pc' := 14) dX11_read_13 rfl rfl rfl ?_
          refine Go_callV_r (pc' := 17) (As := [.int _]) (st := []) dX11_read_14 rfl ok_X11_cellarOf km_RX11_90 (I.S.o 64 rfl rfl rfl) (I.S.b 64 rfl rfl) ⟨_, _, rfl⟩ rfl (Nat.le_of_ble_eq_true rfl) rfl rfl rfl (Nat.le_of_ble_eq_true rfl) (Nat.lt_succ_self _) ?_
          refine Go_iload_n (pc' := 1) dX11_cellarOf_0 rfl rfl rfl ?_
          refine Go_iconst (v := iZ 0) (pc' := 2) dX11_cellarOf_1 rfl (by decide) ?_
          refine Go_aload_n (pc' := 3) dX11_cellarOf_2 rfl rfl rfl ?_
          refine Go_getIv (v := (iZ (nc : Int))) (pc' := 6) dX11_cellarOf_3 rfl kf_RX11_84 (by decide) (by decide) rfl (I.S.b 64 rfl rfl) (I.S.o 64 rfl rfl rfl) (ec2) ?_
          refine Go_iconst (v := iZ 1) (pc' := 7) dX11_cellarOf_6 rfl (by decide) ?_
          refine Go_isubZ (pc' := 8) dX11_cellarOf_7 rfl ?_
          refine Go_callS_i (pc' := 11) (As := [.int _, .int _, .int _]) (st := []) dX11_cellarOf_8 rfl ok_X11_within km_RX11_94 rfl (Nat.le_of_ble_eq_true rfl) rfl rfl rfl (Nat.le_of_ble_eq_true rfl) (Nat.lt_succ_self _) ?_
          refine s_withinY (by first | exact ⟨i_lo _, i_hi _⟩ | omega) (by first | exact ⟨i_lo _, i_hi _⟩ | omega) (by first | exact ⟨i_lo _, i_hi _⟩ | omega) ?_
          refine ⟨_, rfl, ?_⟩
          refine Go_if_eqb (tgt := 32) (pc' := 14) dX11_cellarOf_11 (by decide) rfl (fun q11 => by exfalso; omega) (fun q11 => ?_)
          refine Go_iload_n (pc' := 15) dX11_cellarOf_14 rfl rfl rfl ?_
          refine Go_aload_n (pc' := 16) dX11_cellarOf_15 rfl rfl rfl ?_
          refine Go_getRs (pc' := 19) dX11_cellarOf_16 rfl kf_RX11_18 (by decide) (by decide) rfl (I.S.b 64 rfl rfl) (I.S.o 64 rfl rfl rfl) (I.S.r 64 1 rfl rfl rfl) ?_
          refine Go_alenZ (n := 6) (pc' := 20) dX11_cellarOf_19 rfl (I.S.b 67 rfl rfl) (I.S.k 67 rfl rfl rfl) (Or.inr (Or.inr ⟨_, rfl⟩)) ?_
          refine Go_icmp_geY (tgt := 32) (pc' := 23) dX11_cellarOf_20 (by decide) rfl (by first | exact ⟨i_lo _, i_hi _⟩ | omega) (by first | exact ⟨i_lo _, i_hi _⟩ | omega) (fun q20 => by exfalso; omega) (fun q20 => ?_)
          refine Go_aload_n (pc' := 24) dX11_cellarOf_23 rfl rfl rfl ?_
          refine Go_getRs (pc' := 27) dX11_cellarOf_24 rfl kf_RX11_18 (by decide) (by decide) rfl (I.S.b 64 rfl rfl) (I.S.o 64 rfl rfl rfl) (I.S.r 64 1 rfl rfl rfl) ?_
          refine Go_iload_n (pc' := 28) dX11_cellarOf_27 rfl rfl rfl ?_
          refine Go_aaloadZ (n := 6) (k := c) (pc' := 29) dX11_cellarOf_28 rfl (I.S.b 67 rfl rfl) (I.S.k 67 rfl rfl rfl) rfl rfl (by omega) (by decide) ho ?_
          refine Go_goto (tgt := 33) dX11_cellarOf_29 (by decide) ?_
          refine Go_areturn (r := some _) dX11_cellarOf_33 rfl ?_
          refine ⟨some _, rfl, ?_⟩
          refine Go_ifnull (pc' := 20) dX11_read_17 rfl ?_
          refine Go_iload_n (pc' := 21) dX11_read_20 rfl rfl rfl ?_
          refine Go_iload (pc' := 23) dX11_read_21 rfl rfl ?_
          refine Go_callS_i (pc' := 26) (As := [.int _, .int _]) (st := []) dX11_read_23 rfl ok_X11_isSpan km_RX11_234 rfl (Nat.le_of_ble_eq_true rfl) rfl rfl rfl (Nat.le_of_ble_eq_true rfl) (Nat.lt_succ_self _) ?_
          refine s_isSpan (by first | exact ⟨i_lo _, i_hi _⟩ | omega) (by first | exact ⟨i_lo _, i_hi _⟩ | omega) ?_
          refine ⟨_, rfl, ?_⟩
          refine Go_if_neb (tgt := 31) (pc' := 29) dX11_read_26 (by decide) rfl (fun c26 => ?_) (fun c26 => ?_)
          · refine Go_aload (pc' := 33) dX11_read_31 rfl rfl ?_
            refine Go_iload_n (pc' := 34) dX11_read_33 rfl rfl rfl ?_
            refine Go_iload_n (pc' := 35) dX11_read_34 rfl rfl rfl ?_
            refine Go_iload (pc' := 37) dX11_read_35 rfl rfl ?_
            refine Go_callV_v (pc' := 40) (As := [.int _, .int _, .int _]) (st := []) dX11_read_37 rfl ok_X5_readAnew km_RX11_237 QS.o QS.b ⟨_, _, rfl⟩ rfl (Nat.le_of_ble_eq_true rfl) rfl rfl rfl (Nat.le_of_ble_eq_true rfl) (Nat.lt_succ_self _) ?_
            refine Go_iload_n (pc' := 1) dX5_readAnew_0 rfl rfl rfl ?_
            refine Go_if_ltY (tgt := 13) (pc' := 4) dX5_readAnew_1 (by decide) rfl (by first | exact ⟨i_lo _, i_hi _⟩ | omega) (fun a1 => by exfalso; omega) (fun a1 => ?_)
            refine Go_iload_n (pc' := 5) dX5_readAnew_4 rfl rfl rfl ?_
            refine Go_aload_n (pc' := 6) dX5_readAnew_5 rfl rfl rfl ?_
            refine Go_getRs (pc' := 9) dX5_readAnew_6 rfl kf_RX5_11 (by decide) (by decide) rfl QS.b QS.o QS.r0 ?_
            refine Go_alenZ (n := 6) (pc' := 10) dX5_readAnew_9 rfl QS.b1 QS.k1 (Or.inr (Or.inr ⟨_, rfl⟩)) ?_
            refine Go_icmp_ltY (tgt := 14) (pc' := 13) dX5_readAnew_10 (by decide) rfl (by first | exact ⟨i_lo _, i_hi _⟩ | omega) (by first | exact ⟨i_lo _, i_hi _⟩ | omega) (fun a10 => ?_) (fun a10 => by exfalso; omega)
            refine Go_aload_n (pc' := 15) dX5_readAnew_14 rfl rfl rfl ?_
            refine Go_getRs (pc' := 18) dX5_readAnew_15 rfl kf_RX5_11 (by decide) (by decide) rfl QS.b QS.o QS.r0 ?_
            refine Go_iload_n (pc' := 19) dX5_readAnew_18 rfl rfl rfl ?_
            refine Go_aaloadZ (n := 6) (k := c) (pc' := 20) dX5_readAnew_19 rfl QS.b1 QS.k1 rfl rfl (by omega) (by decide) hw ?_
            refine Go_astore (pc' := 22) (lv' := [.ref _, .int _, .int _, .int _, .ref _]) dX5_readAnew_20 rfl (Nat.le_of_ble_eq_true rfl) rfl rfl ?_
            refine Go_aload (pc' := 24) dX5_readAnew_22 rfl rfl ?_
            refine Go_ifnonnull (tgt := 44) dX5_readAnew_24 (by decide) ?_
            refine Go_aload (pc' := 46) dX5_readAnew_44 rfl rfl ?_
            refine Go_iload_n (pc' := 47) dX5_readAnew_46 rfl rfl rfl ?_
            refine Go_putI (pc' := 50) dX5_readAnew_47 rfl kf_RX5_25 (by decide) (by decide) rfl RS.b RS.o (Or.inl rfl) rfl rfl ?_
            refine Go_aload (pc' := 52) dX5_readAnew_50 rfl rfl ?_
            refine Go_iload_n (pc' := 53) dX5_readAnew_52 rfl rfl rfl ?_
            refine Go_putI (pc' := 56) dX5_readAnew_53 rfl kf_RX5_28 (by decide) (by decide) rfl RS.b RS.o (Or.inl rfl) rfl rfl ?_
            refine Go_aload (pc' := 58) dX5_readAnew_56 rfl rfl ?_
            refine Go_iconst (v := iZ (-1)) (pc' := 59) dX5_readAnew_58 rfl (by decide) ?_
            refine Go_putI (pc' := 62) dX5_readAnew_59 rfl kf_RX5_31 (by decide) (by decide) rfl RS.b RS.o (Or.inl rfl) rfl rfl ?_
            refine Go_aload (pc' := 64) dX5_readAnew_62 rfl rfl ?_
            refine Go_iconst (v := iZ (-1)) (pc' := 65) dX5_readAnew_64 rfl (by decide) ?_
            refine Go_putI (pc' := 68) dX5_readAnew_65 rfl kf_RX5_34 (by decide) (by decide) rfl RS.b RS.o (Or.inl rfl) rfl rfl ?_
            refine Go_aload (pc' := 70) dX5_readAnew_68 rfl rfl ?_
            refine Go_iconst (v := iZ 0) (pc' := 71) dX5_readAnew_70 rfl (by decide) ?_
            refine Go_putI (pc' := 74) dX5_readAnew_71 rfl kf_RX5_37 (by decide) (by decide) rfl RS.b RS.o (Or.inl rfl) rfl rfl ?_
            refine Go_aload (pc' := 76) dX5_readAnew_74 rfl rfl ?_
            refine Go_iconst (v := iZ 0) (pc' := 77) dX5_readAnew_76 rfl (by decide) ?_
            refine Go_putI (pc' := 80) dX5_readAnew_77 rfl kf_RX5_40 (by decide) (by decide) rfl RS.b RS.o (Or.inl rfl) rfl rfl ?_
            refine Go_return dX5_readAnew_80 rfl ?_
            refine ⟨rfl, ?_⟩
            refine Go_iconst (v := iZ 1) (pc' := 41) dX11_read_40 rfl (by decide) ?_
            refine Go_ireturn (ty := .boolean) dX11_read_41 rfl rfl ?_
            exact k _ _ (Or.inl ⟨by omega, rfl, rfl⟩) I.S
          · refine Go_iconst (v := iZ 0) (pc' := 30) dX11_read_29 rfl (by decide) ?_
            refine Go_ireturn (ty := .boolean) dX11_read_30 rfl rfl ?_
            exact k _ _ (Or.inr ⟨by omega, rfl, rfl⟩) I.S
        · rintro r h1 (⟨hc, rfl, rfl⟩ | ⟨hc, rfl, rfl⟩) K k
          · show Go G 60 0 0 M_X12_read 0 [.ref 99, .int (iZ (q : Int)), .int (iZ (c : Int)), .int (iZ Cz), .int (iZ Ez), un] [] (wI (wI (wI (wI (wI (wI h w 0 (iZ Cz)) w 1 (iZ Ez)) w 2 (iZ (-1))) w 3 (iZ (-1))) w 4 (iZ 0)) w 5 (iZ 0)) K
            refine Go_aload_n (pc' := 1) dX12_read_0 rfl rfl rfl ?_
            refine Go_iload_n (pc' := 2) dX12_read_1 rfl rfl rfl ?_
            refine Go_callV_i (pc' := 5) (As := [.int _]) (st := []) dX12_read_2 rfl ok_X12_isQuake km_RX12_340 (I.S.o 99 rfl rfl rfl) (I.S.b 99 rfl rfl) ⟨_, _, rfl⟩ rfl (Nat.le_of_ble_eq_true rfl) rfl rfl rfl (Nat.le_of_ble_eq_true rfl) (Nat.lt_succ_self _) ?_
            refine Go_iload_n (pc' := 1) dX12_isQuake_0 rfl rfl rfl ?_
            refine Go_iconst (v := iZ 0) (pc' := 2) dX12_isQuake_1 rfl (by decide) ?_
            refine Go_aload_n (pc' := 3) dX12_isQuake_2 rfl rfl rfl ?_
            refine Go_getIv (v := (iZ (nq : Int))) (pc' := 6) dX12_isQuake_3 rfl kf_RX12_336 (by decide) (by decide) rfl (I.S.b 99 rfl rfl) (I.S.o 99 rfl rfl rfl) ((vi_skip (Or.inl (by omega))).trans ((vi_skip (Or.inl (by omega))).trans ((vi_skip (Or.inl (by omega))).trans ((vi_skip (Or.inl (by omega))).trans ((vi_skip (Or.inl (by omega))).trans ((vi_skip (Or.inl (by omega))).trans (eq38))))))) ?_
            refine Go_iconst (v := iZ 1) (pc' := 7) dX12_isQuake_6 rfl (by decide) ?_
            refine Go_isubZ (pc' := 8) dX12_isQuake_7 rfl ?_
            refine Go_callS_i (pc' := 11) (As := [.int _, .int _, .int _]) (st := []) dX12_isQuake_8 rfl ok_X12_isIn km_RX12_147 rfl (Nat.le_of_ble_eq_true rfl) rfl rfl rfl (Nat.le_of_ble_eq_true rfl) (Nat.lt_succ_self _) ?_
            refine s_isInY (by first | exact ⟨i_lo _, i_hi _⟩ | omega) (by first | exact ⟨i_lo _, i_hi _⟩ | omega) (by first | exact ⟨i_lo _, i_hi _⟩ | omega) ?_
            refine ⟨_, rfl, ?_⟩
            refine Go_ireturn (ty := .boolean) dX12_isQuake_11 rfl b2i_nb ?_
            refine ⟨_, rfl, ?_⟩
            refine Go_if_eqb (tgt := 25) (pc' := 8) dX12_read_5 (by decide) rfl (fun c5 => by exfalso; omega) (fun c5 => ?_)
            refine Go_aload_n (pc' := 9) dX12_read_8 rfl rfl rfl ?_
            refine Go_iload_n (pc' := 10) dX12_read_9 rfl rfl rfl ?_
            refine Go_callV_i (pc' := 13) (As := [.int _]) (st := []) dX12_read_10 rfl ok_X12_isCellar km_RX12_158 (I.S.o 99 rfl rfl rfl) (I.S.b 99 rfl rfl) ⟨_, _, rfl⟩ rfl (Nat.le_of_ble_eq_true rfl) rfl rfl rfl (Nat.le_of_ble_eq_true rfl) (Nat.lt_succ_self _) ?_
            refine Go_iload_n (pc' := 1) dX12_isCellar_0 rfl rfl rfl ?_
            refine Go_iconst (v := iZ 0) (pc' := 2) dX12_isCellar_1 rfl (by decide) ?_
            refine Go_aload_n (pc' := 3) dX12_isCellar_2 rfl rfl rfl ?_
            refine Go_getIv (v := (iZ (nc : Int))) (pc' := 6) dX12_isCellar_3 rfl kf_RX12_151 (by decide) (by decide) rfl (I.S.b 99 rfl rfl) (I.S.o 99 rfl rfl rfl) ((vi_skip (Or.inl (by omega))).trans ((vi_skip (Or.inl (by omega))).trans ((vi_skip (Or.inl (by omega))).trans ((vi_skip (Or.inl (by omega))).trans ((vi_skip (Or.inl (by omega))).trans ((vi_skip (Or.inl (by omega))).trans (ec0))))))) ?_
            refine Go_iconst (v := iZ 1) (pc' := 7) dX12_isCellar_6 rfl (by decide) ?_
            refine Go_isubZ (pc' := 8) dX12_isCellar_7 rfl ?_
            refine Go_callS_i (pc' := 11) (As := [.int _, .int _, .int _]) (st := []) dX12_isCellar_8 rfl ok_X12_isIn km_RX12_147 rfl (Nat.le_of_ble_eq_true rfl) rfl rfl rfl (Nat.le_of_ble_eq_true rfl) (Nat.lt_succ_self _) ?_
            refine s_isInY (by first | exact ⟨i_lo _, i_hi _⟩ | omega) (by first | exact ⟨i_lo _, i_hi _⟩ | omega) (by first | exact ⟨i_lo _, i_hi _⟩ | omega) ?_
            refine ⟨_, rfl, ?_⟩
            refine Go_ireturn (ty := .boolean) dX12_isCellar_11 rfl b2i_nb ?_
            refine ⟨_, rfl, ?_⟩
            refine Go_if_eqb (tgt := 25) (pc' := 16) dX12_read_13 (by decide) rfl (fun c13 => by exfalso; omega) (fun c13 => ?_)
            refine Go_iload_n (pc' := 17) dX12_read_16 rfl rfl rfl ?_
            refine Go_iload (pc' := 19) dX12_read_17 rfl rfl ?_
            refine Go_callS_i (pc' := 22) (As := [.int _, .int _]) (st := []) dX12_read_19 rfl ok_X12_areTimes km_RX12_343 rfl (Nat.le_of_ble_eq_true rfl) rfl rfl rfl (Nat.le_of_ble_eq_true rfl) (Nat.lt_succ_self _) ?_
            refine s_areTimes (by first | exact ⟨i_lo _, i_hi _⟩ | omega) (by first | exact ⟨i_lo _, i_hi _⟩ | omega) ?_
            refine ⟨_, rfl, ?_⟩
            refine Go_if_neb (tgt := 27) (pc' := 25) dX12_read_22 (by decide) rfl (fun c22 => ?_) (fun c22 => ?_)
            · refine Go_bipush (v := iZ 6) (pc' := 29) dX12_read_27 rfl (by decide) ?_
              refine Go_iload_n (pc' := 30) dX12_read_29 rfl rfl rfl ?_
              refine Go_imulZ (pc' := 31) dX12_read_30 rfl ?_
              refine Go_iload_n (pc' := 32) dX12_read_31 rfl rfl rfl ?_
              refine Go_iaddZ (pc' := 33) dX12_read_32 rfl ?_
              refine Go_istore (pc' := 35) (lv' := [.ref _, .int _, .int _, .int _, .int _, .int _]) dX12_read_33 rfl (Nat.le_of_ble_eq_true rfl) rfl rfl ?_
              refine Go_aload_n (pc' := 36) dX12_read_35 rfl rfl rfl ?_
              refine Go_getRs (pc' := 39) dX12_read_36 rfl kf_RX12_92 (by decide) (by decide) rfl (I.S.b 99 rfl rfl) (I.S.o 99 rfl rfl rfl) (I.S.r 99 41 rfl rfl rfl) ?_
              refine Go_iload (pc' := 41) dX12_read_39 rfl rfl ?_
              refine Go_iconst (v := iZ 1) (pc' := 42) dX12_read_41 rfl (by decide) ?_
              refine Go_bastoreZ (n := 96) (k := (6 * q + c)) (pc' := 43) dX12_read_42 rfl (I.S.b 124 rfl rfl) (I.S.k 124 rfl rfl rfl) (by omega) (by omega) (by decide) (by decide) ?_
              refine Go_aload_n (pc' := 44) dX12_read_43 rfl rfl rfl ?_
              refine Go_getRs (pc' := 47) dX12_read_44 rfl kf_RX12_96 (by decide) (by decide) rfl (I.S.b 99 rfl rfl) (I.S.o 99 rfl rfl rfl) (I.S.r 99 42 rfl rfl rfl) ?_
              refine Go_iload (pc' := 49) dX12_read_47 rfl rfl ?_
              refine Go_iconst (v := iZ 0) (pc' := 50) dX12_read_49 rfl (by decide) ?_
              refine Go_bastoreZ (n := 96) (k := (6 * q + c)) (pc' := 51) dX12_read_50 rfl (I.S.b 125 rfl rfl) (I.S.k 125 rfl rfl rfl) (by omega) (by omega) (by decide) (by decide) ?_
              refine Go_aload_n (pc' := 52) dX12_read_51 rfl rfl rfl ?_
              refine Go_getRs (pc' := 55) dX12_read_52 rfl kf_RX12_99 (by decide) (by decide) rfl (I.S.b 99 rfl rfl) (I.S.o 99 rfl rfl rfl) (I.S.r 99 43 rfl rfl rfl) ?_
              refine Go_iload (pc' := 57) dX12_read_55 rfl rfl ?_
              refine Go_iload_n (pc' := 58) dX12_read_57 rfl rfl rfl ?_
              refine Go_iastoreZ (n := 96) (k := (6 * q + c)) (pc' := 59) dX12_read_58 rfl (I.S.b 126 rfl rfl) (I.S.k 126 rfl rfl rfl) (by omega) (by omega) (by decide) ?_
              refine Go_aload_n (pc' := 60) dX12_read_59 rfl rfl rfl ?_
              refine Go_getRs (pc' := 63) dX12_read_60 rfl kf_RX12_102 (by decide) (by decide) rfl (I.S.b 99 rfl rfl) (I.S.o 99 rfl rfl rfl) (I.S.r 99 44 rfl rfl rfl) ?_
              refine Go_iload (pc' := 65) dX12_read_63 rfl rfl ?_
              refine Go_iload (pc' := 67) dX12_read_65 rfl rfl ?_
              refine Go_iastoreZ (n := 96) (k := (6 * q + c)) (pc' := 68) dX12_read_67 rfl (I.S.b 127 rfl rfl) (I.S.k 127 rfl rfl rfl) (by omega) (by omega) (by decide) ?_
              refine Go_aload_n (pc' := 69) dX12_read_68 rfl rfl rfl ?_
              refine Go_getRs (pc' := 72) dX12_read_69 rfl kf_RX12_111 (by decide) (by decide) rfl (I.S.b 99 rfl rfl) (I.S.o 99 rfl rfl rfl) (I.S.r 99 47 rfl rfl rfl) ?_
              refine Go_iload (pc' := 74) dX12_read_72 rfl rfl ?_
              refine Go_iconst (v := iZ 0) (pc' := 75) dX12_read_74 rfl (by decide) ?_
              refine Go_iastoreZ (n := 96) (k := (6 * q + c)) (pc' := 76) dX12_read_75 rfl (I.S.b 130 rfl rfl) (I.S.k 130 rfl rfl rfl) (by omega) (by omega) (by decide) ?_
              refine Go_aload_n (pc' := 77) dX12_read_76 rfl rfl rfl ?_
              refine Go_getRs (pc' := 80) dX12_read_77 rfl kf_RX12_114 (by decide) (by decide) rfl (I.S.b 99 rfl rfl) (I.S.o 99 rfl rfl rfl) (I.S.r 99 48 rfl rfl rfl) ?_
              refine Go_iload (pc' := 82) dX12_read_80 rfl rfl ?_
              refine Go_iconst (v := iZ 0) (pc' := 83) dX12_read_82 rfl (by decide) ?_
              refine Go_iastoreZ (n := 96) (k := (6 * q + c)) (pc' := 84) dX12_read_83 rfl (I.S.b 131 rfl rfl) (I.S.k 131 rfl rfl rfl) (by omega) (by omega) (by decide) ?_
              refine Go_iconst (v := iZ 1) (pc' := 85) dX12_read_84 rfl (by decide) ?_
              refine Go_ireturn (ty := .boolean) dX12_read_85 rfl rfl ?_
              exact k _ (I.rd hqz hu (by omega) hw RS h0 hcz ((((((difR_wS (((((((DifR.rf _ _ _).wI (by omega)).wI (by omega)).wI (by omega)).wI (by omega)).wI (by omega)).wI (by omega)) (by omega) h0).wI (by omega)).wI (by omega)).wI (by omega)).wI (by omega)).wI (by omega)) ⟨⟨(((vi_skip (Or.inl (by omega))).trans ((vi_skip (Or.inl (by omega))).trans ((vi_skip (Or.inl (by omega))).trans ((vi_skip (Or.inl (by omega))).trans ((vi_skip (Or.inl (by omega))).trans ((vi_skip (Or.inl (by omega))).trans ((vi_skip (Or.inr (by decide))).trans ((vi_skip (Or.inr (by decide))).trans ((vi_skip (Or.inr (by decide))).trans ((vi_skip (Or.inr (by decide))).trans ((vi_skip (Or.inr (by decide))).trans (vi_same)))))))))))).trans ((vi_skip (Or.inl (by decide))).trans ((vi_skip (Or.inl (by decide))).trans ((vi_skip (Or.inl (by decide))).trans (vi_same)))).symm), by rw [show vi (wI (wI (wI (wI (wI (wI (wI (wI (wI (wI (wI (wI h w 0 (iZ Cz)) w 1 (iZ Ez)) w 2 (iZ (-1))) w 3 (iZ (-1))) w 4 (iZ 0)) w 5 (iZ 0)) 124 (6 * q + c) (iZ 1)) 125 (6 * q + c) (iZ 0)) 126 (6 * q + c) (iZ Cz)) 127 (6 * q + c) (iZ Ez)) 130 (6 * q + c) (iZ 0)) 131 (6 * q + c) (iZ 0)) w 0 = (iZ Cz) from ((vi_skip (Or.inl (by omega))).trans ((vi_skip (Or.inl (by omega))).trans ((vi_skip (Or.inl (by omega))).trans ((vi_skip (Or.inl (by omega))).trans ((vi_skip (Or.inl (by omega))).trans ((vi_skip (Or.inl (by omega))).trans ((vi_skip (Or.inr (by decide))).trans ((vi_skip (Or.inr (by decide))).trans ((vi_skip (Or.inr (by decide))).trans ((vi_skip (Or.inr (by decide))).trans ((vi_skip (Or.inr (by decide))).trans (vi_same))))))))))))]; exact rgz (by omega) (by omega)⟩, ⟨(((vi_skip (Or.inl (by omega))).trans ((vi_skip (Or.inl (by omega))).trans ((vi_skip (Or.inl (by omega))).trans ((vi_skip (Or.inl (by omega))).trans ((vi_skip (Or.inl (by omega))).trans ((vi_skip (Or.inl (by omega))).trans ((vi_skip (Or.inr (by decide))).trans ((vi_skip (Or.inr (by decide))).trans ((vi_skip (Or.inr (by decide))).trans ((vi_skip (Or.inr (by decide))).trans (vi_same))))))))))).trans ((vi_skip (Or.inl (by decide))).trans ((vi_skip (Or.inl (by decide))).trans (vi_same))).symm), by rw [show vi (wI (wI (wI (wI (wI (wI (wI (wI (wI (wI (wI (wI h w 0 (iZ Cz)) w 1 (iZ Ez)) w 2 (iZ (-1))) w 3 (iZ (-1))) w 4 (iZ 0)) w 5 (iZ 0)) 124 (6 * q + c) (iZ 1)) 125 (6 * q + c) (iZ 0)) 126 (6 * q + c) (iZ Cz)) 127 (6 * q + c) (iZ Ez)) 130 (6 * q + c) (iZ 0)) 131 (6 * q + c) (iZ 0)) w 1 = (iZ Ez) from ((vi_skip (Or.inl (by omega))).trans ((vi_skip (Or.inl (by omega))).trans ((vi_skip (Or.inl (by omega))).trans ((vi_skip (Or.inl (by omega))).trans ((vi_skip (Or.inl (by omega))).trans ((vi_skip (Or.inl (by omega))).trans ((vi_skip (Or.inr (by decide))).trans ((vi_skip (Or.inr (by decide))).trans ((vi_skip (Or.inr (by decide))).trans ((vi_skip (Or.inr (by decide))).trans (vi_same)))))))))))]; exact rgz (by omega) (by omega)⟩, Or.inl ⟨(((vi_skip (Or.inl (by omega))).trans ((vi_skip (Or.inl (by omega))).trans ((vi_skip (Or.inl (by omega))).trans ((vi_skip (Or.inl (by omega))).trans ((vi_skip (Or.inl (by omega))).trans ((vi_skip (Or.inl (by omega))).trans ((vi_skip (Or.inr (by decide))).trans ((vi_skip (Or.inr (by decide))).trans ((vi_skip (Or.inr (by decide))).trans (vi_same))))))))))).trans (show iZ (-1) = (-1 : Int32) from by decide), ((vi_skip (Or.inl (by decide))).trans ((vi_skip (Or.inl (by decide))).trans ((vi_skip (Or.inl (by decide))).trans ((vi_skip (Or.inl (by decide))).trans (vi_same)))))⟩, ⟨(((vi_skip (Or.inl (by omega))).trans ((vi_skip (Or.inl (by omega))).trans ((vi_skip (Or.inl (by omega))).trans ((vi_skip (Or.inl (by omega))).trans ((vi_skip (Or.inl (by omega))).trans ((vi_skip (Or.inl (by omega))).trans ((vi_skip (Or.inr (by decide))).trans (vi_same)))))))).trans ((vi_skip (Or.inl (by decide))).trans (vi_same)).symm), by rw [show vi (wI (wI (wI (wI (wI (wI (wI (wI (wI (wI (wI (wI h w 0 (iZ Cz)) w 1 (iZ Ez)) w 2 (iZ (-1))) w 3 (iZ (-1))) w 4 (iZ 0)) w 5 (iZ 0)) 124 (6 * q + c) (iZ 1)) 125 (6 * q + c) (iZ 0)) 126 (6 * q + c) (iZ Cz)) 127 (6 * q + c) (iZ Ez)) 130 (6 * q + c) (iZ 0)) 131 (6 * q + c) (iZ 0)) w 4 = (iZ 0) from ((vi_skip (Or.inl (by omega))).trans ((vi_skip (Or.inl (by omega))).trans ((vi_skip (Or.inl (by omega))).trans ((vi_skip (Or.inl (by omega))).trans ((vi_skip (Or.inl (by omega))).trans ((vi_skip (Or.inl (by omega))).trans ((vi_skip (Or.inr (by decide))).trans (vi_same))))))))]; exact rgz (by omega) (by omega)⟩, ⟨(((vi_skip (Or.inl (by omega))).trans ((vi_skip (Or.inl (by omega))).trans ((vi_skip (Or.inl (by omega))).trans ((vi_skip (Or.inl (by omega))).trans ((vi_skip (Or.inl (by omega))).trans ((vi_skip (Or.inl (by omega))).trans (vi_same))))))).trans (vi_same).symm), by rw [show vi (wI (wI (wI (wI (wI (wI (wI (wI (wI (wI (wI (wI h w 0 (iZ Cz)) w 1 (iZ Ez)) w 2 (iZ (-1))) w 3 (iZ (-1))) w 4 (iZ 0)) w 5 (iZ 0)) 124 (6 * q + c) (iZ 1)) 125 (6 * q + c) (iZ 0)) 126 (6 * q + c) (iZ Cz)) 127 (6 * q + c) (iZ Ez)) 130 (6 * q + c) (iZ 0)) 131 (6 * q + c) (iZ 0)) w 5 = (iZ 0) from ((vi_skip (Or.inl (by omega))).trans ((vi_skip (Or.inl (by omega))).trans ((vi_skip (Or.inl (by omega))).trans ((vi_skip (Or.inl (by omega))).trans ((vi_skip (Or.inl (by omega))).trans ((vi_skip (Or.inl (by omega))).trans (vi_same)))))))]; exact rgz (by omega) (by omega)⟩⟩)
            · refine Go_iconst (v := iZ 0) (pc' := 26) dX12_read_25 rfl (by decide) ?_
              refine Go_ireturn (ty := .boolean) dX12_read_26 rfl rfl ?_
              exfalso; omega
          · show Go G 60 0 0 M_X12_read 0 [.ref 99, .int (iZ (q : Int)), .int (iZ (c : Int)), .int (iZ Cz), .int (iZ Ez), un] [] h K
            refine Go_aload_n (pc' := 1) dX12_read_0 rfl rfl rfl ?_
            refine Go_iload_n (pc' := 2) dX12_read_1 rfl rfl rfl ?_
            refine Go_callV_i (pc' := 5) (As := [.int _]) (st := []) dX12_read_2 rfl ok_X12_isQuake km_RX12_340 (I.S.o 99 rfl rfl rfl) (I.S.b 99 rfl rfl) ⟨_, _, rfl⟩ rfl (Nat.le_of_ble_eq_true rfl) rfl rfl rfl (Nat.le_of_ble_eq_true rfl) (Nat.lt_succ_self _) ?_
            refine Go_iload_n (pc' := 1) dX12_isQuake_0 rfl rfl rfl ?_
            refine Go_iconst (v := iZ 0) (pc' := 2) dX12_isQuake_1 rfl (by decide) ?_
            refine Go_aload_n (pc' := 3) dX12_isQuake_2 rfl rfl rfl ?_
            refine Go_getIv (v := (iZ (nq : Int))) (pc' := 6) dX12_isQuake_3 rfl kf_RX12_336 (by decide) (by decide) rfl (I.S.b 99 rfl rfl) (I.S.o 99 rfl rfl rfl) (eq38) ?_
            refine Go_iconst (v := iZ 1) (pc' := 7) dX12_isQuake_6 rfl (by decide) ?_
            refine Go_isubZ (pc' := 8) dX12_isQuake_7 rfl ?_
            refine Go_callS_i (pc' := 11) (As := [.int _, .int _, .int _]) (st := []) dX12_isQuake_8 rfl ok_X12_isIn km_RX12_147 rfl (Nat.le_of_ble_eq_true rfl) rfl rfl rfl (Nat.le_of_ble_eq_true rfl) (Nat.lt_succ_self _) ?_
            refine s_isInY (by first | exact ⟨i_lo _, i_hi _⟩ | omega) (by first | exact ⟨i_lo _, i_hi _⟩ | omega) (by first | exact ⟨i_lo _, i_hi _⟩ | omega) ?_
            refine ⟨_, rfl, ?_⟩
            refine Go_ireturn (ty := .boolean) dX12_isQuake_11 rfl b2i_nb ?_
            refine ⟨_, rfl, ?_⟩
            refine Go_if_eqb (tgt := 25) (pc' := 8) dX12_read_5 (by decide) rfl (fun c5 => by exfalso; omega) (fun c5 => ?_)
            refine Go_aload_n (pc' := 9) dX12_read_8 rfl rfl rfl ?_
            refine Go_iload_n (pc' := 10) dX12_read_9 rfl rfl rfl ?_
            refine Go_callV_i (pc' := 13) (As := [.int _]) (st := []) dX12_read_10 rfl ok_X12_isCellar km_RX12_158 (I.S.o 99 rfl rfl rfl) (I.S.b 99 rfl rfl) ⟨_, _, rfl⟩ rfl (Nat.le_of_ble_eq_true rfl) rfl rfl rfl (Nat.le_of_ble_eq_true rfl) (Nat.lt_succ_self _) ?_
            refine Go_iload_n (pc' := 1) dX12_isCellar_0 rfl rfl rfl ?_
            refine Go_iconst (v := iZ 0) (pc' := 2) dX12_isCellar_1 rfl (by decide) ?_
            refine Go_aload_n (pc' := 3) dX12_isCellar_2 rfl rfl rfl ?_
            refine Go_getIv (v := (iZ (nc : Int))) (pc' := 6) dX12_isCellar_3 rfl kf_RX12_151 (by decide) (by decide) rfl (I.S.b 99 rfl rfl) (I.S.o 99 rfl rfl rfl) (ec0) ?_
            refine Go_iconst (v := iZ 1) (pc' := 7) dX12_isCellar_6 rfl (by decide) ?_
            refine Go_isubZ (pc' := 8) dX12_isCellar_7 rfl ?_
            refine Go_callS_i (pc' := 11) (As := [.int _, .int _, .int _]) (st := []) dX12_isCellar_8 rfl ok_X12_isIn km_RX12_147 rfl (Nat.le_of_ble_eq_true rfl) rfl rfl rfl (Nat.le_of_ble_eq_true rfl) (Nat.lt_succ_self _) ?_
            refine s_isInY (by first | exact ⟨i_lo _, i_hi _⟩ | omega) (by first | exact ⟨i_lo _, i_hi _⟩ | omega) (by first | exact ⟨i_lo _, i_hi _⟩ | omega) ?_
            refine ⟨_, rfl, ?_⟩
            refine Go_ireturn (ty := .boolean) dX12_isCellar_11 rfl b2i_nb ?_
            refine ⟨_, rfl, ?_⟩
            refine Go_if_eqb (tgt := 25) (pc' := 16) dX12_read_13 (by decide) rfl (fun c13 => by exfalso; omega) (fun c13 => ?_)
            refine Go_iload_n (pc' := 17) dX12_read_16 rfl rfl rfl ?_
            refine Go_iload (pc' := 19) dX12_read_17 rfl rfl ?_
            refine Go_callS_i (pc' := 22) (As := [.int _, .int _]) (st := []) dX12_read_19 rfl ok_X12_areTimes km_RX12_343 rfl (Nat.le_of_ble_eq_true rfl) rfl rfl rfl (Nat.le_of_ble_eq_true rfl) (Nat.lt_succ_self _) ?_
            refine s_areTimes (by first | exact ⟨i_lo _, i_hi _⟩ | omega) (by first | exact ⟨i_lo _, i_hi _⟩ | omega) ?_
            refine ⟨_, rfl, ?_⟩
            refine Go_if_neb (tgt := 27) (pc' := 25) dX12_read_22 (by decide) rfl (fun c22 => ?_) (fun c22 => ?_)
            · refine Go_bipush (v := iZ 6) (pc' := 29) dX12_read_27 rfl (by decide) ?_
              refine Go_iload_n (pc' := 30) dX12_read_29 rfl rfl rfl ?_
              refine Go_imulZ (pc' := 31) dX12_read_30 rfl ?_
              refine Go_iload_n (pc' := 32) dX12_read_31 rfl rfl rfl ?_
              refine Go_iaddZ (pc' := 33) dX12_read_32 rfl ?_
              refine Go_istore (pc' := 35) (lv' := [.ref _, .int _, .int _, .int _, .int _, .int _]) dX12_read_33 rfl (Nat.le_of_ble_eq_true rfl) rfl rfl ?_
              refine Go_aload_n (pc' := 36) dX12_read_35 rfl rfl rfl ?_
              refine Go_getRs (pc' := 39) dX12_read_36 rfl kf_RX12_92 (by decide) (by decide) rfl (I.S.b 99 rfl rfl) (I.S.o 99 rfl rfl rfl) (I.S.r 99 41 rfl rfl rfl) ?_
              refine Go_iload (pc' := 41) dX12_read_39 rfl rfl ?_
              refine Go_iconst (v := iZ 1) (pc' := 42) dX12_read_41 rfl (by decide) ?_
              refine Go_bastoreZ (n := 96) (k := (6 * q + c)) (pc' := 43) dX12_read_42 rfl (I.S.b 124 rfl rfl) (I.S.k 124 rfl rfl rfl) (by omega) (by omega) (by decide) (by decide) ?_
              refine Go_aload_n (pc' := 44) dX12_read_43 rfl rfl rfl ?_
              refine Go_getRs (pc' := 47) dX12_read_44 rfl kf_RX12_96 (by decide) (by decide) rfl (I.S.b 99 rfl rfl) (I.S.o 99 rfl rfl rfl) (I.S.r 99 42 rfl rfl rfl) ?_
              refine Go_iload (pc' := 49) dX12_read_47 rfl rfl ?_
              refine Go_iconst (v := iZ 0) (pc' := 50) dX12_read_49 rfl (by decide) ?_
              refine Go_bastoreZ (n := 96) (k := (6 * q + c)) (pc' := 51) dX12_read_50 rfl (I.S.b 125 rfl rfl) (I.S.k 125 rfl rfl rfl) (by omega) (by omega) (by decide) (by decide) ?_
              refine Go_aload_n (pc' := 52) dX12_read_51 rfl rfl rfl ?_
              refine Go_getRs (pc' := 55) dX12_read_52 rfl kf_RX12_99 (by decide) (by decide) rfl (I.S.b 99 rfl rfl) (I.S.o 99 rfl rfl rfl) (I.S.r 99 43 rfl rfl rfl) ?_
              refine Go_iload (pc' := 57) dX12_read_55 rfl rfl ?_
              refine Go_iload_n (pc' := 58) dX12_read_57 rfl rfl rfl ?_
              refine Go_iastoreZ (n := 96) (k := (6 * q + c)) (pc' := 59) dX12_read_58 rfl (I.S.b 126 rfl rfl) (I.S.k 126 rfl rfl rfl) (by omega) (by omega) (by decide) ?_
              refine Go_aload_n (pc' := 60) dX12_read_59 rfl rfl rfl ?_
              refine Go_getRs (pc' := 63) dX12_read_60 rfl kf_RX12_102 (by decide) (by decide) rfl (I.S.b 99 rfl rfl) (I.S.o 99 rfl rfl rfl) (I.S.r 99 44 rfl rfl rfl) ?_
              refine Go_iload (pc' := 65) dX12_read_63 rfl rfl ?_
              refine Go_iload (pc' := 67) dX12_read_65 rfl rfl ?_
              refine Go_iastoreZ (n := 96) (k := (6 * q + c)) (pc' := 68) dX12_read_67 rfl (I.S.b 127 rfl rfl) (I.S.k 127 rfl rfl rfl) (by omega) (by omega) (by decide) ?_
              refine Go_aload_n (pc' := 69) dX12_read_68 rfl rfl rfl ?_
              refine Go_getRs (pc' := 72) dX12_read_69 rfl kf_RX12_111 (by decide) (by decide) rfl (I.S.b 99 rfl rfl) (I.S.o 99 rfl rfl rfl) (I.S.r 99 47 rfl rfl rfl) ?_
              refine Go_iload (pc' := 74) dX12_read_72 rfl rfl ?_
              refine Go_iconst (v := iZ 0) (pc' := 75) dX12_read_74 rfl (by decide) ?_
              refine Go_iastoreZ (n := 96) (k := (6 * q + c)) (pc' := 76) dX12_read_75 rfl (I.S.b 130 rfl rfl) (I.S.k 130 rfl rfl rfl) (by omega) (by omega) (by decide) ?_
              refine Go_aload_n (pc' := 77) dX12_read_76 rfl rfl rfl ?_
              refine Go_getRs (pc' := 80) dX12_read_77 rfl kf_RX12_114 (by decide) (by decide) rfl (I.S.b 99 rfl rfl) (I.S.o 99 rfl rfl rfl) (I.S.r 99 48 rfl rfl rfl) ?_
              refine Go_iload (pc' := 82) dX12_read_80 rfl rfl ?_
              refine Go_iconst (v := iZ 0) (pc' := 83) dX12_read_82 rfl (by decide) ?_
              refine Go_iastoreZ (n := 96) (k := (6 * q + c)) (pc' := 84) dX12_read_83 rfl (I.S.b 131 rfl rfl) (I.S.k 131 rfl rfl rfl) (by omega) (by omega) (by decide) ?_
              refine Go_iconst (v := iZ 1) (pc' := 85) dX12_read_84 rfl (by decide) ?_
              refine Go_ireturn (ty := .boolean) dX12_read_85 rfl rfl ?_
              exfalso; omega
            · refine Go_iconst (v := iZ 0) (pc' := 26) dX12_read_25 rfl (by decide) ?_
              refine Go_ireturn (ty := .boolean) dX12_read_26 rfl rfl ?_
              exact k _ I
    · refine PairI.ro' (fun _ => iZ 0) h I (fun K k => ?_) (fun K k => ?_)
      · show Go G 60 0 0 M_X11_read 0 [.ref 64, .int (iZ (q : Int)), .int (iZ Bz), .int (iZ Cz), .int (iZ Ez), un] [] h K
        refine Go_aload_n (pc' := 1) dX11_read_0 rfl rfl rfl ?_
        refine Go_iload_n (pc' := 2) dX11_read_1 rfl rfl rfl ?_
        refine Go_callV_r (pc' := 5) (As := [.int _]) (st := []) dX11_read_2 rfl ok_X11_quakeOf km_RX11_230 (I.S.o 64 rfl rfl rfl) (I.S.b 64 rfl rfl) ⟨_, _, rfl⟩ rfl (Nat.le_of_ble_eq_true rfl) rfl rfl rfl (Nat.le_of_ble_eq_true rfl) (Nat.lt_succ_self _) ?_
        refine Go_iload_n (pc' := 1) dX11_quakeOf_0 rfl rfl rfl ?_
        refine Go_iconst (v := iZ 0) (pc' := 2) dX11_quakeOf_1 rfl (by decide) ?_
        refine Go_aload_n (pc' := 3) dX11_quakeOf_2 rfl rfl rfl ?_
        refine Go_getIv (v := (iZ (nq : Int))) (pc' := 6) dX11_quakeOf_3 rfl kf_RX11_226 (by decide) (by decide) rfl (I.S.b 64 rfl rfl) (I.S.o 64 rfl rfl rfl) (eq7) ?_
        refine Go_iconst (v := iZ 1) (pc' := 7) dX11_quakeOf_6 rfl (by decide) ?_
        refine Go_isubZ (pc' := 8) dX11_quakeOf_7 rfl ?_
        refine Go_callS_i (pc' := 11) (As := [.int _, .int _, .int _]) (st := []) dX11_quakeOf_8 rfl ok_X11_within km_RX11_94 rfl (Nat.le_of_ble_eq_true rfl) rfl rfl rfl (Nat.le_of_ble_eq_true rfl) (Nat.lt_succ_self _) ?_
        refine s_withinY (by first | exact ⟨i_lo _, i_hi _⟩ | omega) (by first | exact ⟨i_lo _, i_hi _⟩ | omega) (by first | exact ⟨i_lo _, i_hi _⟩ | omega) ?_
        refine ⟨_, rfl, ?_⟩
        refine Go_if_eqb (tgt := 32) (pc' := 14) dX11_quakeOf_11 (by decide) rfl (fun q11 => by exfalso; omega) (fun q11 => ?_)
        refine Go_iload_n (pc' := 15) dX11_quakeOf_14 rfl rfl rfl ?_
        refine Go_aload_n (pc' := 16) dX11_quakeOf_15 rfl rfl rfl ?_
        refine Go_getRs (pc' := 19) dX11_quakeOf_16 rfl kf_RX11_45 (by decide) (by decide) rfl (I.S.b 64 rfl rfl) (I.S.o 64 rfl rfl rfl) (I.S.r 64 6 rfl rfl rfl) ?_
        refine Go_alenZ (n := 16) (pc' := 20) dX11_quakeOf_19 rfl (I.S.b 80 rfl rfl) (I.S.k 80 rfl rfl rfl) (Or.inr (Or.inr ⟨_, rfl⟩)) ?_
        refine Go_icmp_geY (tgt := 32) (pc' := 23) dX11_quakeOf_20 (by decide) rfl (by first | exact ⟨i_lo _, i_hi _⟩ | omega) (by first | exact ⟨i_lo _, i_hi _⟩ | omega) (fun q20 => by exfalso; omega) (fun q20 => ?_)
        refine Go_aload_n (pc' := 24) dX11_quakeOf_23 rfl rfl rfl ?_
        refine Go_getRs (pc' := 27) dX11_quakeOf_24 rfl kf_RX11_45 (by decide) (by decide) rfl (I.S.b 64 rfl rfl) (I.S.o 64 rfl rfl rfl) (I.S.r 64 6 rfl rfl rfl) ?_
        refine Go_iload_n (pc' := 28) dX11_quakeOf_27 rfl rfl rfl ?_
        refine Go_aaloadZ (n := 16) (k := q) (pc' := 29) dX11_quakeOf_28 rfl (I.S.b 80 rfl rfl) (I.S.k 80 rfl rfl rfl) rfl rfl (by omega) (by decide) hu ?_
        refine Go_goto (tgt := 33) dX11_quakeOf_29 (by decide) ?_
        refine Go_areturn (r := some _) dX11_quakeOf_33 rfl ?_
        refine ⟨some _, rfl, ?_⟩
        refine Go_astore (pc' := 7) (lv' := [.ref _, .int _, .int _, .int _, .int _, .ref _]) dX11_read_5 rfl (Nat.le_of_ble_eq_true rfl) rfl rfl ?_
        refine Go_aload (pc' := 9) dX11_read_7 rfl rfl ?_
        refine Go_ifnull (pc' := 12) dX11_read_9 rfl ?_
        refine Go_aload_n (pc' := 13) dX11_read_12 rfl rfl rfl ?_
        refine Go_iload_n (pc' := 14) dX11_read_13 rfl rfl rfl ?_
        refine Go_callV_r (pc' := 17) (As := [.int _]) (st := []) dX11_read_14 rfl ok_X11_cellarOf km_RX11_90 (I.S.o 64 rfl rfl rfl) (I.S.b 64 rfl rfl) ⟨_, _, rfl⟩ rfl (Nat.le_of_ble_eq_true rfl) rfl rfl rfl (Nat.le_of_ble_eq_true rfl) (Nat.lt_succ_self _) ?_
        refine Go_iload_n (pc' := 1) dX11_cellarOf_0 rfl rfl rfl ?_
        refine Go_iconst (v := iZ 0) (pc' := 2) dX11_cellarOf_1 rfl (by decide) ?_
        refine Go_aload_n (pc' := 3) dX11_cellarOf_2 rfl rfl rfl ?_
        refine Go_getIv (v := (iZ (nc : Int))) (pc' := 6) dX11_cellarOf_3 rfl kf_RX11_84 (by decide) (by decide) rfl (I.S.b 64 rfl rfl) (I.S.o 64 rfl rfl rfl) (ec2) ?_
        refine Go_iconst (v := iZ 1) (pc' := 7) dX11_cellarOf_6 rfl (by decide) ?_
        refine Go_isubZ (pc' := 8) dX11_cellarOf_7 rfl ?_
        refine Go_callS_i (pc' := 11) (As := [.int _, .int _, .int _]) (st := []) dX11_cellarOf_8 rfl ok_X11_within km_RX11_94 rfl (Nat.le_of_ble_eq_true rfl) rfl rfl rfl (Nat.le_of_ble_eq_true rfl) (Nat.lt_succ_self _) ?_
        refine s_withinY (by first | exact ⟨i_lo _, i_hi _⟩ | omega) (by first | exact ⟨i_lo _, i_hi _⟩ | omega) (by first | exact ⟨i_lo _, i_hi _⟩ | omega) ?_
        refine ⟨_, rfl, ?_⟩
        refine Go_if_eqb (tgt := 32) (pc' := 14) dX11_cellarOf_11 (by decide) rfl (fun q11 => ?_) (fun q11 => by exfalso; omega)
        refine Go_null (pc' := 33) dX11_cellarOf_32 rfl ?_
        refine Go_areturn (r := none) dX11_cellarOf_33 rfl ?_
        refine ⟨none, rfl, ?_⟩
        refine Go_ifnullN (tgt := 29) dX11_read_17 (by decide) ?_
        refine Go_iconst (v := iZ 0) (pc' := 30) dX11_read_29 rfl (by decide) ?_
        refine Go_ireturn (ty := .boolean) dX11_read_30 rfl rfl ?_
        exact k
      · show Go G 60 0 0 M_X12_read 0 [.ref 99, .int (iZ (q : Int)), .int (iZ Bz), .int (iZ Cz), .int (iZ Ez), un] [] h K
        refine Go_aload_n (pc' := 1) dX12_read_0 rfl rfl rfl ?_
        refine Go_iload_n (pc' := 2) dX12_read_1 rfl rfl rfl ?_
        refine Go_callV_i (pc' := 5) (As := [.int _]) (st := []) dX12_read_2 rfl ok_X12_isQuake km_RX12_340 (I.S.o 99 rfl rfl rfl) (I.S.b 99 rfl rfl) ⟨_, _, rfl⟩ rfl (Nat.le_of_ble_eq_true rfl) rfl rfl rfl (Nat.le_of_ble_eq_true rfl) (Nat.lt_succ_self _) ?_
        refine Go_iload_n (pc' := 1) dX12_isQuake_0 rfl rfl rfl ?_
        refine Go_iconst (v := iZ 0) (pc' := 2) dX12_isQuake_1 rfl (by decide) ?_
        refine Go_aload_n (pc' := 3) dX12_isQuake_2 rfl rfl rfl ?_
        refine Go_getIv (v := (iZ (nq : Int))) (pc' := 6) dX12_isQuake_3 rfl kf_RX12_336 (by decide) (by decide) rfl (I.S.b 99 rfl rfl) (I.S.o 99 rfl rfl rfl) (eq38) ?_
        refine Go_iconst (v := iZ 1) (pc' := 7) dX12_isQuake_6 rfl (by decide) ?_
        refine Go_isubZ (pc' := 8) dX12_isQuake_7 rfl ?_
        refine Go_callS_i (pc' := 11) (As := [.int _, .int _, .int _]) (st := []) dX12_isQuake_8 rfl ok_X12_isIn km_RX12_147 rfl (Nat.le_of_ble_eq_true rfl) rfl rfl rfl (Nat.le_of_ble_eq_true rfl) (Nat.lt_succ_self _) ?_
        refine s_isInY (by first | exact ⟨i_lo _, i_hi _⟩ | omega) (by first | exact ⟨i_lo _, i_hi _⟩ | omega) (by first | exact ⟨i_lo _, i_hi _⟩ | omega) ?_
        refine ⟨_, rfl, ?_⟩
        refine Go_ireturn (ty := .boolean) dX12_isQuake_11 rfl b2i_nb ?_
        refine ⟨_, rfl, ?_⟩
        refine Go_if_eqb (tgt := 25) (pc' := 8) dX12_read_5 (by decide) rfl (fun c5 => by exfalso; omega) (fun c5 => ?_)
        refine Go_aload_n (pc' := 9) dX12_read_8 rfl rfl rfl ?_
        refine Go_iload_n (pc' := 10) dX12_read_9 rfl rfl rfl ?_
        refine Go_callV_i (pc' := 13) (As := [.int _]) (st := []) dX12_read_10 rfl ok_X12_isCellar km_RX12_158 (I.S.o 99 rfl rfl rfl) (I.S.b 99 rfl rfl) ⟨_, _, rfl⟩ rfl (Nat.le_of_ble_eq_true rfl) rfl rfl rfl (Nat.le_of_ble_eq_true rfl) (Nat.lt_succ_self _) ?_
        refine Go_iload_n (pc' := 1) dX12_isCellar_0 rfl rfl rfl ?_
        refine Go_iconst (v := iZ 0) (pc' := 2) dX12_isCellar_1 rfl (by decide) ?_
        refine Go_aload_n (pc' := 3) dX12_isCellar_2 rfl rfl rfl ?_
        refine Go_getIv (v := (iZ (nc : Int))) (pc' := 6) dX12_isCellar_3 rfl kf_RX12_151 (by decide) (by decide) rfl (I.S.b 99 rfl rfl) (I.S.o 99 rfl rfl rfl) (ec0) ?_
        refine Go_iconst (v := iZ 1) (pc' := 7) dX12_isCellar_6 rfl (by decide) ?_
        refine Go_isubZ (pc' := 8) dX12_isCellar_7 rfl ?_
        refine Go_callS_i (pc' := 11) (As := [.int _, .int _, .int _]) (st := []) dX12_isCellar_8 rfl ok_X12_isIn km_RX12_147 rfl (Nat.le_of_ble_eq_true rfl) rfl rfl rfl (Nat.le_of_ble_eq_true rfl) (Nat.lt_succ_self _) ?_
        refine s_isInY (by first | exact ⟨i_lo _, i_hi _⟩ | omega) (by first | exact ⟨i_lo _, i_hi _⟩ | omega) (by first | exact ⟨i_lo _, i_hi _⟩ | omega) ?_
        refine ⟨_, rfl, ?_⟩
        refine Go_ireturn (ty := .boolean) dX12_isCellar_11 rfl b2i_nb ?_
        refine ⟨_, rfl, ?_⟩
        refine Go_if_eqb (tgt := 25) (pc' := 16) dX12_read_13 (by decide) rfl (fun c13 => ?_) (fun c13 => by exfalso; omega)
        refine Go_iconst (v := iZ 0) (pc' := 26) dX12_read_25 rfl (by decide) ?_
        refine Go_ireturn (ty := .boolean) dX12_read_26 rfl rfl ?_
        exact k
