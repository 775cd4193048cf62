/-! pairs: waves, end, fault, look, pick -/
theorem nI_m1 {n : Nat} (h : 0 < n) : nI n - 1 = nI (n - 1) := by
  have := nI_pred (n - 1)
  rwa [show n - 1 + 1 = n by omega] at this
theorem ix_m1 {n : Nat} (h : 0 < n) (h2 : n < 2 ^ 31) : (nI n - 1).toNatClampNeg = n - 1 := by rw [nI_m1 h]; exact nI_clamp (by omega)
theorem inR_m1 {n N : Nat} (h : 0 < n) (h2 : n ≤ N) (hN : N ≤ 100000) : inR (nI n - 1) N := by rw [nI_m1 h]; exact inR_nI (by omega) hN
theorem of_rg {x : Int32} {b : Nat} (h : rg x 0 b) : ∃ n : Nat, n ≤ b ∧ x = nI n := ⟨x.toInt.toNat, by have := h.1; have := h.2; omega, i_nat h.1⟩
set_option maxRecDepth 20000 in
set_option maxHeartbeats 1000000 in
theorem pair18 {G : GC} (a b : Int32) : PairI G M_X11_waves M_X12_waves [.int a, .int b] := by
  intro h I
  refine ⟨fun r h1 => ((1 ≤ a.toInt ∧ a.toInt ≤ 99 ∧ b.toInt ≤ 99 ∧ a.toInt < b.toInt) ∧ r = 1 ∧ h1 = wI (wI h 64 8 a) 64 9 b) ∨ (¬ (1 ≤ a.toInt ∧ a.toInt ≤ 99 ∧ b.toInt ≤ 99 ∧ a.toInt < b.toInt) ∧ r = 0 ∧ h = h1), fun K k => ?_, ?_⟩
  · refine Go.more (d := 60) (mc := 0) (ms := 0) ?_ (by omega) (by omega) (by omega)
    show Go G 60 0 0 M_X11_waves 0 [.ref 64, .int a, .int b] [] h K
    refine Go_iload_n (pc' := 1) dX11_waves_0 rfl rfl rfl ?_
    refine Go_iconst (v := 1) (pc' := 2) dX11_waves_1 rfl (by decide) ?_
    refine Go_bipush (v := 99) (pc' := 4) dX11_waves_2 rfl (by decide) ?_
    refine Go_callS_i (pc' := 7) (As := [.int _, .int _, .int _]) (st := []) dX11_waves_4 rfl ok_X11_within km_RX11_94 rfl (Nat.le_of_ble_eq_true rfl) rfl rfl rfl (Nat.le_of_ble_eq_true rfl) (Nat.lt_succ_self _) ?_
    refine s_withinZ (l := (1)) (u := (99)) rfl rfl ?_
    refine ⟨_, rfl, ?_⟩
    refine Go_if_eqb (tgt := 25) (pc' := 10) dX11_waves_7 (by decide) rfl (fun c7 => ?_) (fun c7 => ?_)
    · refine Go_iconst (v := 0) (pc' := 26) dX11_waves_25 rfl (by decide) ?_
      refine Go_ireturn (ty := .boolean) dX11_waves_26 rfl rfl ?_
      exact k _ _ (Or.inr ⟨by omega, rfl, rfl⟩) I.S
    · refine Go_iload_n (pc' := 11) dX11_waves_10 rfl rfl rfl ?_
      refine Go_iconst (v := 1) (pc' := 12) dX11_waves_11 rfl (by decide) ?_
      refine Go_bipush (v := 99) (pc' := 14) dX11_waves_12 rfl (by decide) ?_
      refine Go_callS_i (pc' := 17) (As := [.int _, .int _, .int _]) (st := []) dX11_waves_14 rfl ok_X11_within km_RX11_94 rfl (Nat.le_of_ble_eq_true rfl) rfl rfl rfl (Nat.le_of_ble_eq_true rfl) (Nat.lt_succ_self _) ?_
      refine s_withinZ (l := (1)) (u := (99)) rfl rfl ?_
      refine ⟨_, rfl, ?_⟩
      refine Go_if_eqb (tgt := 25) (pc' := 20) dX11_waves_17 (by decide) rfl (fun c17 => ?_) (fun c17 => ?_)
      · refine Go_iconst (v := 0) (pc' := 26) dX11_waves_25 rfl (by decide) ?_
        refine Go_ireturn (ty := .boolean) dX11_waves_26 rfl rfl ?_
        exact k _ _ (Or.inr ⟨by omega, rfl, rfl⟩) I.S
      · refine Go_iload_n (pc' := 21) dX11_waves_20 rfl rfl rfl ?_
        refine Go_iload_n (pc' := 22) dX11_waves_21 rfl rfl rfl ?_
        refine Go_icmp_gtZ (X := _) (Y := _) (tgt := 27) (pc' := 25) dX11_waves_22 (by decide) rfl rfl rfl (fun c22 => ?_) (fun c22 => ?_)
        · refine Go_aload_n (pc' := 28) dX11_waves_27 rfl rfl rfl ?_
          refine Go_iload_n (pc' := 29) dX11_waves_28 rfl rfl rfl ?_
          refine Go_putI (pc' := 32) dX11_waves_29 rfl kf_RX11_49 (by decide) (by decide) rfl (I.S.b 64 rfl rfl) (I.S.o 64 rfl rfl rfl) (Or.inl rfl) rfl rfl ?_
          refine Go_aload_n (pc' := 33) dX11_waves_32 rfl rfl rfl ?_
          refine Go_iload_n (pc' := 34) dX11_waves_33 rfl rfl rfl ?_
          refine Go_putI (pc' := 37) dX11_waves_34 rfl kf_RX11_53 (by decide) (by decide) rfl (I.S.b 64 rfl rfl) (I.S.o 64 rfl rfl rfl) (Or.inl rfl) rfl rfl ?_
          refine Go_iconst (v := 1) (pc' := 38) dX11_waves_37 rfl (by decide) ?_
          refine Go_ireturn (ty := .boolean) dX11_waves_38 rfl rfl ?_
          exact k _ _ (Or.inl ⟨by omega, rfl, rfl⟩) I.S
        · refine Go_iconst (v := 0) (pc' := 26) dX11_waves_25 rfl (by decide) ?_
          refine Go_ireturn (ty := .boolean) dX11_waves_26 rfl rfl ?_
          exact k _ _ (Or.inr ⟨by omega, rfl, rfl⟩) I.S
  · have e1 : 1 ≤ a.toInt ∧ a.toInt ≤ 99 → (a + 1).toInt = a.toInt + 1 := fun q => i_add (by show _ ≤ a.toInt + 1; omega) (by show a.toInt + 1 < _; omega)
    rintro r h1 (⟨hc, rfl, rfl⟩ | ⟨hc, rfl, rfl⟩) K k
    · show Go G 60 0 0 M_X12_waves 0 [.ref 99, .int a, .int b] [] (wI (wI h 64 8 a) 64 9 b) K
      refine Go_iload_n (pc' := 1) dX12_waves_0 rfl rfl rfl ?_
      refine Go_iconst (v := 1) (pc' := 2) dX12_waves_1 rfl (by decide) ?_
      refine Go_bipush (v := 99) (pc' := 4) dX12_waves_2 rfl (by decide) ?_
      refine Go_callS_i (pc' := 7) (As := [.int _, .int _, .int _]) (st := []) dX12_waves_4 rfl ok_X12_isIn km_RX12_147 rfl (Nat.le_of_ble_eq_true rfl) rfl rfl rfl (Nat.le_of_ble_eq_true rfl) (Nat.lt_succ_self _) ?_
      refine s_isInZ (l := (1)) (u := (99)) rfl rfl ?_
      refine ⟨_, rfl, ?_⟩
      refine Go_if_eqb (tgt := 22) (pc' := 10) dX12_waves_7 (by decide) rfl (fun c7 => ?_) (fun c7 => ?_)
      · refine Go_iconst (v := 0) (pc' := 23) dX12_waves_22 rfl (by decide) ?_
        refine Go_ireturn (ty := .boolean) dX12_waves_23 rfl rfl ?_
        exfalso; omega
      · refine Go_iload_n (pc' := 11) dX12_waves_10 rfl rfl rfl ?_
        refine Go_iload_n (pc' := 12) dX12_waves_11 rfl rfl rfl ?_
        refine Go_iconst (v := 1) (pc' := 13) dX12_waves_12 rfl (by decide) ?_
        refine Go_iadd (pc' := 14) dX12_waves_13 rfl ?_
        refine Go_bipush (v := 99) (pc' := 16) dX12_waves_14 rfl (by decide) ?_
        refine Go_callS_i (pc' := 19) (As := [.int _, .int _, .int _]) (st := []) dX12_waves_16 rfl ok_X12_isIn km_RX12_147 rfl (Nat.le_of_ble_eq_true rfl) rfl rfl rfl (Nat.le_of_ble_eq_true rfl) (Nat.lt_succ_self _) ?_
        refine s_isInZ (u := (99)) rfl rfl ?_
        refine ⟨_, rfl, ?_⟩
        refine Go_if_neb (tgt := 24) (pc' := 22) dX12_waves_19 (by decide) rfl (fun c19 => ?_) (fun c19 => ?_)
        · refine Go_aload_n (pc' := 25) dX12_waves_24 rfl rfl rfl ?_
          refine Go_iload_n (pc' := 26) dX12_waves_25 rfl rfl rfl ?_
          refine Go_putI (pc' := 29) dX12_waves_26 rfl kf_RX12_86 (by decide) (by decide) rfl (I.S.b 99 rfl rfl) (I.S.o 99 rfl rfl rfl) (Or.inl rfl) rfl rfl ?_
          refine Go_aload_n (pc' := 30) dX12_waves_29 rfl rfl rfl ?_
          refine Go_iload_n (pc' := 31) dX12_waves_30 rfl rfl rfl ?_
          refine Go_putI (pc' := 34) dX12_waves_31 rfl kf_RX12_89 (by decide) (by decide) rfl (I.S.b 99 rfl rfl) (I.S.o 99 rfl rfl rfl) (Or.inl rfl) rfl rfl ?_
          refine Go_iconst (v := 1) (pc' := 35) dX12_waves_34 rfl (by decide) ?_
          refine Go_ireturn (ty := .boolean) dX12_waves_35 rfl rfl ?_
          refine k _ ⟨I.S, I.D.fr (((((SameOn.rf _ _).wI rfl).wI rfl).wI rfl).wI rfl), ?_, I.P.fr (((((SameOn.rf _ _).wI rfl).wI rfl).wI rfl).wI rfl), I.E.fr (((((SameOn.rf _ _).wI rfl).wI rfl).wI rfl).wI rfl), I.F.fr (((((SameOn.rf _ _).wI rfl).wI rfl).wI rfl).wI rfl), I.T.fr (((((SameOn.rf _ _).wI rfl).wI rfl).wI rfl).wI rfl), I.G.fr (((((SameOn.rf _ _).wI rfl).wI rfl).wI rfl).wI rfl), stat_C (stat_C (stat_C (stat_C (I.C) (by decide) rfl) (by decide) rfl) (by decide) rfl) (by decide) rfl, stat_Q (stat_Q (stat_Q (stat_Q (I.Q) (by decide) rfl) (by decide) rfl) (by decide) rfl) (by decide) rfl⟩
          unfold RW rg
          simp [vi_wI]
          omega
        · refine Go_iconst (v := 0) (pc' := 23) dX12_waves_22 rfl (by decide) ?_
          refine Go_ireturn (ty := .boolean) dX12_waves_23 rfl rfl ?_
          exfalso; omega
    · show Go G 60 0 0 M_X12_waves 0 [.ref 99, .int a, .int b] [] h K
      refine Go_iload_n (pc' := 1) dX12_waves_0 rfl rfl rfl ?_
      refine Go_iconst (v := 1) (pc' := 2) dX12_waves_1 rfl (by decide) ?_
      refine Go_bipush (v := 99) (pc' := 4) dX12_waves_2 rfl (by decide) ?_
      refine Go_callS_i (pc' := 7) (As := [.int _, .int _, .int _]) (st := []) dX12_waves_4 rfl ok_X12_isIn km_RX12_147 rfl (Nat.le_of_ble_eq_true rfl) rfl rfl rfl (Nat.le_of_ble_eq_true rfl) (Nat.lt_succ_self _) ?_
      refine s_isInZ (l := (1)) (u := (99)) rfl rfl ?_
      refine ⟨_, rfl, ?_⟩
      refine Go_if_eqb (tgt := 22) (pc' := 10) dX12_waves_7 (by decide) rfl (fun c7 => ?_) (fun c7 => ?_)
      · refine Go_iconst (v := 0) (pc' := 23) dX12_waves_22 rfl (by decide) ?_
        refine Go_ireturn (ty := .boolean) dX12_waves_23 rfl rfl ?_
        exact k _ I
      · refine Go_iload_n (pc' := 11) dX12_waves_10 rfl rfl rfl ?_
        refine Go_iload_n (pc' := 12) dX12_waves_11 rfl rfl rfl ?_
        refine Go_iconst (v := 1) (pc' := 13) dX12_waves_12 rfl (by decide) ?_
        refine Go_iadd (pc' := 14) dX12_waves_13 rfl ?_
        refine Go_bipush (v := 99) (pc' := 16) dX12_waves_14 rfl (by decide) ?_
        refine Go_callS_i (pc' := 19) (As := [.int _, .int _, .int _]) (st := []) dX12_waves_16 rfl ok_X12_isIn km_RX12_147 rfl (Nat.le_of_ble_eq_true rfl) rfl rfl rfl (Nat.le_of_ble_eq_true rfl) (Nat.lt_succ_self _) ?_
        refine s_isInZ (u := (99)) rfl rfl ?_
        refine ⟨_, rfl, ?_⟩
        refine Go_if_neb (tgt := 24) (pc' := 22) dX12_waves_19 (by decide) rfl (fun c19 => ?_) (fun c19 => ?_)
        · refine Go_aload_n (pc' := 25) dX12_waves_24 rfl rfl rfl ?_
          refine Go_iload_n (pc' := 26) dX12_waves_25 rfl rfl rfl ?_
          refine Go_putI (pc' := 29) dX12_waves_26 rfl kf_RX12_86 (by decide) (by decide) rfl (I.S.b 99 rfl rfl) (I.S.o 99 rfl rfl rfl) (Or.inl rfl) rfl rfl ?_
          refine Go_aload_n (pc' := 30) dX12_waves_29 rfl rfl rfl ?_
          refine Go_iload_n (pc' := 31) dX12_waves_30 rfl rfl rfl ?_
          refine Go_putI (pc' := 34) dX12_waves_31 rfl kf_RX12_89 (by decide) (by decide) rfl (I.S.b 99 rfl rfl) (I.S.o 99 rfl rfl rfl) (Or.inl rfl) rfl rfl ?_
          refine Go_iconst (v := 1) (pc' := 35) dX12_waves_34 rfl (by decide) ?_
          refine Go_ireturn (ty := .boolean) dX12_waves_35 rfl rfl ?_
          exfalso; omega
        · refine Go_iconst (v := 0) (pc' := 23) dX12_waves_22 rfl (by decide) ?_
          refine Go_ireturn (ty := .boolean) dX12_waves_23 rfl rfl ?_
          exact k _ I
set_option maxRecDepth 20000 in
set_option maxHeartbeats 1000000 in
theorem pair15 {G : GC} (a : Int32) : PairI G M_X11_end M_X12_end [.int a] := by
  intro h I
  refine ⟨fun r h1 => ((0 ≤ a.toInt ∧ a.toInt ≤ (vi h 71 1).toInt) ∧ r = 1 ∧ h1 = wI h 71 1 a) ∨ (¬ (0 ≤ a.toInt ∧ a.toInt ≤ (vi h 71 1).toInt) ∧ r = 0 ∧ h = h1), fun K k => ?_, ?_⟩
  · refine Go.more (d := 60) (mc := 0) (ms := 0) ?_ (by omega) (by omega) (by omega)
    show Go G 60 0 0 M_X11_end 0 [.ref 64, .int a] [] h K
    refine Go_iload_n (pc' := 1) dX11_end_0 rfl rfl rfl ?_
    refine Go_iconst (v := 0) (pc' := 2) dX11_end_1 rfl (by decide) ?_
    refine Go_aload_n (pc' := 3) dX11_end_2 rfl rfl rfl ?_
    refine Go_getRs (pc' := 6) dX11_end_3 rfl kf_RX11_39 (by decide) (by decide) rfl (I.S.b 64 rfl rfl) (I.S.o 64 rfl rfl rfl) (I.S.r 64 5 rfl rfl rfl) ?_
    refine Go_getIv (v := (vi h 71 1)) (pc' := 9) dX11_end_6 rfl kf_RX11_206 (by decide) (by decide) rfl (I.S.b 71 rfl rfl) (I.S.o 71 rfl rfl rfl) rfl ?_
    refine Go_callS_i (pc' := 12) (As := [.int _, .int _, .int _]) (st := []) dX11_end_9 rfl ok_X11_within km_RX11_94 rfl (Nat.le_of_ble_eq_true rfl) rfl rfl rfl (Nat.le_of_ble_eq_true rfl) (Nat.lt_succ_self _) ?_
    refine s_withinZ (l := (0)) rfl rfl ?_
    refine ⟨_, rfl, ?_⟩
    refine Go_if_neb (tgt := 17) (pc' := 15) dX11_end_12 (by decide) rfl (fun c12 => ?_) (fun c12 => ?_)
    · refine Go_aload_n (pc' := 18) dX11_end_17 rfl rfl rfl ?_
      refine Go_getRs (pc' := 21) dX11_end_18 rfl kf_RX11_39 (by decide) (by decide) rfl (I.S.b 64 rfl rfl) (I.S.o 64 rfl rfl rfl) (I.S.r 64 5 rfl rfl rfl) ?_
      refine Go_iload_n (pc' := 22) dX11_end_21 rfl rfl rfl ?_
      refine Go_putI (pc' := 25) dX11_end_22 rfl kf_RX11_206 (by decide) (by decide) rfl (I.S.b 71 rfl rfl) (I.S.o 71 rfl rfl rfl) (Or.inl rfl) rfl rfl ?_
      refine Go_iconst (v := 1) (pc' := 26) dX11_end_25 rfl (by decide) ?_
      refine Go_ireturn (ty := .boolean) dX11_end_26 rfl rfl ?_
      exact k _ _ (Or.inl ⟨by omega, rfl, rfl⟩) I.S
    · refine Go_iconst (v := 0) (pc' := 16) dX11_end_15 rfl (by decide) ?_
      refine Go_ireturn (ty := .boolean) dX11_end_16 rfl rfl ?_
      exact k _ _ (Or.inr ⟨by omega, rfl, rfl⟩) I.S
  · have T := I.T
    rintro r h1 (⟨hc, rfl, rfl⟩ | ⟨hc, rfl, rfl⟩) K k
    · show Go G 60 0 0 M_X12_end 0 [.ref 99, .int a] [] (wI h 71 1 a) K
      refine Go_iload_n (pc' := 1) dX12_end_0 rfl rfl rfl ?_
      refine Go_iconst (v := 0) (pc' := 2) dX12_end_1 rfl (by decide) ?_
      refine Go_aload_n (pc' := 3) dX12_end_2 rfl rfl rfl ?_
      refine Go_getIv (v := (vi h 71 1)) (pc' := 6) dX12_end_3 rfl kf_RX12_203 (by decide) (by decide) rfl (I.S.b 99 rfl rfl) (I.S.o 99 rfl rfl rfl) ((vi_skip (Or.inl (by decide))).trans (T.1.symm)) ?_
      refine Go_callS_i (pc' := 9) (As := [.int _, .int _, .int _]) (st := []) dX12_end_6 rfl ok_X12_isIn km_RX12_147 rfl (Nat.le_of_ble_eq_true rfl) rfl rfl rfl (Nat.le_of_ble_eq_true rfl) (Nat.lt_succ_self _) ?_
      refine s_isInZ (l := (0)) rfl rfl ?_
      refine ⟨_, rfl, ?_⟩
      refine Go_if_neb (tgt := 14) (pc' := 12) dX12_end_9 (by decide) rfl (fun c9 => ?_) (fun c9 => ?_)
      · refine Go_aload_n (pc' := 15) dX12_end_14 rfl rfl rfl ?_
        refine Go_iload_n (pc' := 16) dX12_end_15 rfl rfl rfl ?_
        refine Go_putI (pc' := 19) dX12_end_16 rfl kf_RX12_203 (by decide) (by decide) rfl (I.S.b 99 rfl rfl) (I.S.o 99 rfl rfl rfl) (Or.inl rfl) rfl rfl ?_
        refine Go_iconst (v := 1) (pc' := 20) dX12_end_19 rfl (by decide) ?_
        refine Go_ireturn (ty := .boolean) dX12_end_20 rfl rfl ?_
        refine k _ ⟨I.S, I.D.fr (((SameOn.rf _ _).wI rfl).wI rfl), I.W.fr (((SameOn.rf _ _).wI rfl).wI rfl), I.P.fr (((SameOn.rf _ _).wI rfl).wI rfl), I.E.fr (((SameOn.rf _ _).wI rfl).wI rfl), I.F.fr (((SameOn.rf _ _).wI rfl).wI rfl), ?_, I.G.fr (((SameOn.rf _ _).wI rfl).wI rfl), stat_C (stat_C (I.C) (by decide) rfl) (by decide) rfl, stat_Q (stat_Q (I.Q) (by decide) rfl) (by decide) rfl⟩
        obtain ⟨t1, t2, t3, t4, t5⟩ := T
        unfold RT
        simp [vi_wI]
        unfold rg at *
        exact ⟨⟨by omega, by omega⟩, fun i hi => t3 i (by omega), t4, t5⟩
      · refine Go_iconst (v := 0) (pc' := 13) dX12_end_12 rfl (by decide) ?_
        refine Go_ireturn (ty := .boolean) dX12_end_13 rfl rfl ?_
        exfalso; omega
    · show Go G 60 0 0 M_X12_end 0 [.ref 99, .int a] [] h K
      refine Go_iload_n (pc' := 1) dX12_end_0 rfl rfl rfl ?_
      refine Go_iconst (v := 0) (pc' := 2) dX12_end_1 rfl (by decide) ?_
      refine Go_aload_n (pc' := 3) dX12_end_2 rfl rfl rfl ?_
      refine Go_getIv (v := (vi h 71 1)) (pc' := 6) dX12_end_3 rfl kf_RX12_203 (by decide) (by decide) rfl (I.S.b 99 rfl rfl) (I.S.o 99 rfl rfl rfl) (T.1.symm) ?_
      refine Go_callS_i (pc' := 9) (As := [.int _, .int _, .int _]) (st := []) dX12_end_6 rfl ok_X12_isIn km_RX12_147 rfl (Nat.le_of_ble_eq_true rfl) rfl rfl rfl (Nat.le_of_ble_eq_true rfl) (Nat.lt_succ_self _) ?_
      refine s_isInZ (l := (0)) rfl rfl ?_
      refine ⟨_, rfl, ?_⟩
      refine Go_if_neb (tgt := 14) (pc' := 12) dX12_end_9 (by decide) rfl (fun c9 => ?_) (fun c9 => ?_)
      · refine Go_aload_n (pc' := 15) dX12_end_14 rfl rfl rfl ?_
        refine Go_iload_n (pc' := 16) dX12_end_15 rfl rfl rfl ?_
        refine Go_putI (pc' := 19) dX12_end_16 rfl kf_RX12_203 (by decide) (by decide) rfl (I.S.b 99 rfl rfl) (I.S.o 99 rfl rfl rfl) (Or.inl rfl) rfl rfl ?_
        refine Go_iconst (v := 1) (pc' := 20) dX12_end_19 rfl (by decide) ?_
        refine Go_ireturn (ty := .boolean) dX12_end_20 rfl rfl ?_
        exfalso; omega
      · refine Go_iconst (v := 0) (pc' := 13) dX12_end_12 rfl (by decide) ?_
        refine Go_ireturn (ty := .boolean) dX12_end_13 rfl rfl ?_
        exact k _ I
set_option maxRecDepth 20000 in
set_option maxHeartbeats 1000000 in
theorem pair17 {G : GC} (a : Int32) : PairI G M_X11_fault M_X12_fault [.int a] := by
  refine PairI.ro (fun h => if a.toInt = 0 then vi h 71 13 else if a.toInt = 1 then vi h 71 14 else -1) (fun h I K k => ?_) (fun h I K k => ?_)
  · show Go G 60 0 0 M_X11_fault 0 [.ref 64, .int a] [] h K
    refine Go_iload_n (pc' := 1) dX11_fault_0 rfl rfl rfl ?_
    refine Go_if_neZ (X := _) (tgt := 12) (pc' := 4) dX11_fault_1 (by decide) rfl rfl (fun c1 => ?_) (fun c1 => ?_)
    · refine Go_iload_n (pc' := 13) dX11_fault_12 rfl rfl rfl ?_
      refine Go_iconst (v := 1) (pc' := 14) dX11_fault_13 rfl (by decide) ?_
      refine Go_icmp_neZ (X := _) (Y := (1)) (tgt := 27) (pc' := 17) dX11_fault_14 (by decide) rfl rfl rfl (fun c14 => ?_) (fun c14 => ?_)
      · refine Go_iconst (v := (-1)) (pc' := 28) dX11_fault_27 rfl (by decide) ?_
        refine Go_ireturn (ty := .int) dX11_fault_28 rfl rfl ?_
        simpa [c1, c14] using k
      · refine Go_aload_n (pc' := 18) dX11_fault_17 rfl rfl rfl ?_
        refine Go_getRs (pc' := 21) dX11_fault_18 rfl kf_RX11_39 (by decide) (by decide) rfl (I.S.b 64 rfl rfl) (I.S.o 64 rfl rfl rfl) (I.S.r 64 5 rfl rfl rfl) ?_
        refine Go_getIv (v := (vi h 71 14)) (pc' := 24) dX11_fault_21 rfl kf_RX11_223 (by decide) (by decide) rfl (I.S.b 71 rfl rfl) (I.S.o 71 rfl rfl rfl) rfl ?_
        refine Go_goto (tgt := 28) dX11_fault_24 (by decide) ?_
        refine Go_ireturn (ty := .int) dX11_fault_28 rfl rfl ?_
        simpa [c1, c14] using k
    · refine Go_aload_n (pc' := 5) dX11_fault_4 rfl rfl rfl ?_
      refine Go_getRs (pc' := 8) dX11_fault_5 rfl kf_RX11_39 (by decide) (by decide) rfl (I.S.b 64 rfl rfl) (I.S.o 64 rfl rfl rfl) (I.S.r 64 5 rfl rfl rfl) ?_
      refine Go_getIv (v := (vi h 71 13)) (pc' := 11) dX11_fault_8 rfl kf_RX11_220 (by decide) (by decide) rfl (I.S.b 71 rfl rfl) (I.S.o 71 rfl rfl rfl) rfl ?_
      refine Go_ireturn (ty := .int) dX11_fault_11 rfl rfl ?_
      simpa [c1] using k
  · show Go G 60 0 0 M_X12_fault 0 [.ref 99, .int a] [] h K
    refine Go_iload_n (pc' := 1) dX12_fault_0 rfl rfl rfl ?_
    refine Go_if_neZ (X := _) (tgt := 11) (pc' := 4) dX12_fault_1 (by decide) rfl rfl (fun c1 => ?_) (fun c1 => ?_)
    · refine Go_iload_n (pc' := 12) dX12_fault_11 rfl rfl rfl ?_
      refine Go_iconst (v := 1) (pc' := 13) dX12_fault_12 rfl (by decide) ?_
      refine Go_icmp_neZ (X := _) (Y := (1)) (tgt := 23) (pc' := 16) dX12_fault_13 (by decide) rfl rfl rfl (fun c13 => ?_) (fun c13 => ?_)
      · refine Go_iconst (v := (-1)) (pc' := 24) dX12_fault_23 rfl (by decide) ?_
        refine Go_ireturn (ty := .int) dX12_fault_24 rfl rfl ?_
        simpa [c1, c13] using k
      · refine Go_aload_n (pc' := 17) dX12_fault_16 rfl rfl rfl ?_
        refine Go_getIv (v := (vi h 71 14)) (pc' := 20) dX12_fault_17 rfl kf_RX12_82 (by decide) (by decide) rfl (I.S.b 99 rfl rfl) (I.S.o 99 rfl rfl rfl) (I.T.2.2.2.2.symm) ?_
        refine Go_goto (tgt := 24) dX12_fault_20 (by decide) ?_
        refine Go_ireturn (ty := .int) dX12_fault_24 rfl rfl ?_
        simpa [c1, c13] using k
    · refine Go_aload_n (pc' := 5) dX12_fault_4 rfl rfl rfl ?_
      refine Go_getIv (v := (vi h 71 13)) (pc' := 8) dX12_fault_5 rfl kf_RX12_323 (by decide) (by decide) rfl (I.S.b 99 rfl rfl) (I.S.o 99 rfl rfl rfl) (I.T.2.2.2.1.symm) ?_
      refine Go_goto (tgt := 24) dX12_fault_8 (by decide) ?_
      refine Go_ireturn (ty := .int) dX12_fault_24 rfl rfl ?_
      simpa [c1] using k
set_option maxRecDepth 20000 in
set_option maxHeartbeats 1000000 in
theorem pair32 {G : GC} (a : Int32) : PairI G M_X11_pick M_X12_pick [.int a] := by
  intro h I
  have P := I.P
  obtain ⟨n, hn, en⟩ := of_rg (b := 8) P.2.1
  refine ⟨fun r h1 => (a.toInt = -1 ∧ r = 0 ∧ h1 = wI h 81 1 0) ∨ (a.toInt ≠ -1 ∧ (0 ≤ a.toInt ∧ a.toInt ≤ 9999999 ∧ n < 8 ∧ (0 < n → (vi h 82 (n - 1)).toInt < a.toInt)) ∧ r = nI n + 1 ∧ h1 = wI (wI h 82 n a) 81 1 (nI n + 1)) ∨ (a.toInt ≠ -1 ∧ ¬ (0 ≤ a.toInt ∧ a.toInt ≤ 9999999 ∧ n < 8 ∧ (0 < n → (vi h 82 (n - 1)).toInt < a.toInt)) ∧ r = -2 ∧ h = h1), fun K k => ?_, ?_⟩
  · refine Go.more (d := 60) (mc := 0) (ms := 0) ?_ (by omega) (by omega) (by omega)
    show Go G 60 0 0 M_X11_pick 0 [.ref 64, .int a] [] h K
    refine Go_iload_n (pc' := 1) dX11_pick_0 rfl rfl rfl ?_
    refine Go_iconst (v := (-1)) (pc' := 2) dX11_pick_1 rfl (by decide) ?_
    refine Go_icmp_neZ (X := _) (Y := (-1)) (tgt := 15) (pc' := 5) dX11_pick_2 (by decide) rfl rfl rfl (fun c2 => ?_) (fun c2 => ?_)
    · refine Go_aload_n (pc' := 16) dX11_pick_15 rfl rfl rfl ?_
      refine Go_getRs (pc' := 19) dX11_pick_16 rfl kf_RX11_59 (by decide) (by decide) rfl (I.S.b 64 rfl rfl) (I.S.o 64 rfl rfl rfl) (I.S.r 64 10 rfl rfl rfl) ?_
      refine Go_iload_n (pc' := 20) dX11_pick_19 rfl rfl rfl ?_
      refine Go_callV_i (pc' := 23) (As := [.int _]) (st := []) dX11_pick_20 rfl ok_X10_append km_RX11_315 (I.S.o 81 rfl rfl rfl) (I.S.b 81 rfl rfl) ⟨_, _, rfl⟩ rfl (Nat.le_of_ble_eq_true rfl) rfl rfl rfl (Nat.le_of_ble_eq_true rfl) (Nat.lt_succ_self _) ?_
      refine Go_iload_n (pc' := 1) dX10_append_0 rfl rfl rfl ?_
      refine Go_iconst (v := 0) (pc' := 2) dX10_append_1 rfl (by decide) ?_
      refine Go_ldc (pc' := 4) dX10_append_2 rfl kn_RX10_15 ?_
      refine Go_callSN_i (pc' := 7) (As := [.int _, .int _, .int _]) (st := []) dX10_append_4 rfl ok_X11_within km_RX10_16 rfl (Nat.le_of_ble_eq_true rfl) rfl rfl rfl (Nat.le_of_ble_eq_true rfl) (Nat.lt_succ_self _) ?_
      refine s_withinZ (l := (0)) (u := (9999999)) rfl rfl ?_
      refine ⟨_, rfl, ?_⟩
      refine Go_if_eqb (tgt := 22) (pc' := 10) dX10_append_7 (by decide) rfl (fun d7 => ?_) (fun d7 => ?_)
      · refine Go_iconst (v := 0) (pc' := 23) dX10_append_22 rfl (by decide) ?_
        refine Go_ireturn (ty := .boolean) dX10_append_23 rfl rfl ?_
        refine ⟨_, rfl, ?_⟩
        refine Go_if_eqZ (X := (0)) (tgt := 36) (pc' := 26) dX11_pick_23 (by decide) rfl rfl (fun c23 => ?_) (fun c23 => ?_)
        · refine Go_bipush (v := (-2)) (pc' := 38) dX11_pick_36 rfl (by decide) ?_
          refine Go_ireturn (ty := .int) dX11_pick_38 rfl rfl ?_
          exact k _ _ (Or.inr (Or.inr ⟨c2, by omega, rfl, rfl⟩)) I.S
        · exact absurd c23 (by decide)
      · refine Go_aload_n (pc' := 11) dX10_append_10 rfl rfl rfl ?_
        refine Go_getIv (v := (nI n)) (pc' := 14) dX10_append_11 rfl kf_RX10_20 (by decide) (by decide) rfl (I.S.b 81 rfl rfl) (I.S.o 81 rfl rfl rfl) (en) ?_
        refine Go_aload_n (pc' := 15) dX10_append_14 rfl rfl rfl ?_
        refine Go_getRs (pc' := 18) dX10_append_15 rfl kf_RX10_9 (by decide) (by decide) rfl (I.S.b 81 rfl rfl) (I.S.o 81 rfl rfl rfl) (I.S.r 81 0 rfl rfl rfl) ?_
        refine Go_alen (n := 8) (v := 8) (pc' := 19) dX10_append_18 rfl (I.S.b 82 rfl rfl) (I.S.k 82 rfl rfl rfl) (Or.inl rfl) rfl ?_
        refine Go_icmp_ltZ (X := ((n : Nat) : Int)) (Y := (8)) (tgt := 24) (pc' := 22) dX10_append_19 (by decide) rfl (i_nI (by omega)) rfl (fun d19 => ?_) (fun d19 => ?_)
        · refine Go_aload_n (pc' := 25) dX10_append_24 rfl rfl rfl ?_
          refine Go_getIv (v := (nI n)) (pc' := 28) dX10_append_25 rfl kf_RX10_20 (by decide) (by decide) rfl (I.S.b 81 rfl rfl) (I.S.o 81 rfl rfl rfl) (en) ?_
          refine Go_if_leZ (X := ((n : Nat) : Int)) (tgt := 48) (pc' := 31) dX10_append_28 (by decide) rfl (i_nI (by omega)) (fun d28 => ?_) (fun d28 => ?_)
          · refine Go_aload_n (pc' := 49) dX10_append_48 rfl rfl rfl ?_
            refine Go_getRs (pc' := 52) dX10_append_49 rfl kf_RX10_9 (by decide) (by decide) rfl (I.S.b 81 rfl rfl) (I.S.o 81 rfl rfl rfl) (I.S.r 81 0 rfl rfl rfl) ?_
            refine Go_aload_n (pc' := 53) dX10_append_52 rfl rfl rfl ?_
            refine Go_getIv (v := (nI n)) (pc' := 56) dX10_append_53 rfl kf_RX10_20 (by decide) (by decide) rfl (I.S.b 81 rfl rfl) (I.S.o 81 rfl rfl rfl) (en) ?_
            refine Go_iload_n (pc' := 57) dX10_append_56 rfl rfl rfl ?_
            refine Go_iastore (n := 8) (pc' := 58) dX10_append_57 rfl (I.S.b 82 rfl rfl) (I.S.k 82 rfl rfl rfl) (by exact inR_nI (by omega) (by decide)) ?_
            rw [nI_clamp (show n < 2 ^ 31 by omega)]
            refine Go_aload_n (pc' := 59) dX10_append_58 rfl rfl rfl ?_
            refine Go_dup (pc' := 60) dX10_append_59 rfl rfl ?_
            refine Go_getIv (v := (nI n)) (pc' := 63) dX10_append_60 rfl kf_RX10_20 (by decide) (by decide) rfl (I.S.b 81 rfl rfl) (I.S.o 81 rfl rfl rfl) ((vi_skip (Or.inl (by decide))).trans (en)) ?_
            refine Go_iconst (v := 1) (pc' := 64) dX10_append_63 rfl (by decide) ?_
            refine Go_iadd (pc' := 65) dX10_append_64 rfl ?_
            refine Go_putI (pc' := 68) dX10_append_65 rfl kf_RX10_20 (by decide) (by decide) rfl (I.S.b 81 rfl rfl) (I.S.o 81 rfl rfl rfl) (Or.inl rfl) rfl rfl ?_
            refine Go_iconst (v := 1) (pc' := 69) dX10_append_68 rfl (by decide) ?_
            refine Go_ireturn (ty := .boolean) dX10_append_69 rfl rfl ?_
            refine ⟨_, rfl, ?_⟩
            refine Go_if_eqZ (X := (1)) (tgt := 36) (pc' := 26) dX11_pick_23 (by decide) rfl rfl (fun c23 => ?_) (fun c23 => ?_)
            · exact absurd c23 (by decide)
            · refine Go_aload_n (pc' := 27) dX11_pick_26 rfl rfl rfl ?_
              refine Go_getRs (pc' := 30) dX11_pick_27 rfl kf_RX11_59 (by decide) (by decide) rfl (I.S.b 64 rfl rfl) (I.S.o 64 rfl rfl rfl) (I.S.r 64 10 rfl rfl rfl) ?_
              refine Go_getIv (v := ((nI n) + 1)) (pc' := 33) dX11_pick_30 rfl kf_RX11_312 (by decide) (by decide) rfl (I.S.b 81 rfl rfl) (I.S.o 81 rfl rfl rfl) (vi_same) ?_
              refine Go_goto (tgt := 38) dX11_pick_33 (by decide) ?_
              refine Go_ireturn (ty := .int) dX11_pick_38 rfl rfl ?_
              exact k _ _ (Or.inr (Or.inl ⟨c2, by omega, rfl, rfl⟩)) I.S
          · refine Go_iload_n (pc' := 32) dX10_append_31 rfl rfl rfl ?_
            refine Go_aload_n (pc' := 33) dX10_append_32 rfl rfl rfl ?_
            refine Go_getRs (pc' := 36) dX10_append_33 rfl kf_RX10_9 (by decide) (by decide) rfl (I.S.b 81 rfl rfl) (I.S.o 81 rfl rfl rfl) (I.S.r 81 0 rfl rfl rfl) ?_
            refine Go_aload_n (pc' := 37) dX10_append_36 rfl rfl rfl ?_
            refine Go_getIv (v := (nI n)) (pc' := 40) dX10_append_37 rfl kf_RX10_20 (by decide) (by decide) rfl (I.S.b 81 rfl rfl) (I.S.o 81 rfl rfl rfl) (en) ?_
            refine Go_iconst (v := 1) (pc' := 41) dX10_append_40 rfl (by decide) ?_
            refine Go_isub (pc' := 42) dX10_append_41 rfl ?_
            refine Go_iaload (n := 8) (v := (vi h 82 (n - 1))) (pc' := 43) dX10_append_42 rfl (I.S.b 82 rfl rfl) (I.S.k 82 rfl rfl rfl) (by exact inR_m1 (by omega) (by omega) (by decide)) (congrArg (vi _ _) (ix_m1 (show 0 < n by omega) (by omega))) ?_
            refine Go_icmp_gtZ (X := _) (Y := _) (tgt := 48) (pc' := 46) dX10_append_43 (by decide) rfl rfl rfl (fun d43 => ?_) (fun d43 => ?_)
            · refine Go_aload_n (pc' := 49) dX10_append_48 rfl rfl rfl ?_
              refine Go_getRs (pc' := 52) dX10_append_49 rfl kf_RX10_9 (by decide) (by decide) rfl (I.S.b 81 rfl rfl) (I.S.o 81 rfl rfl rfl) (I.S.r 81 0 rfl rfl rfl) ?_
              refine Go_aload_n (pc' := 53) dX10_append_52 rfl rfl rfl ?_
              refine Go_getIv (v := (nI n)) (pc' := 56) dX10_append_53 rfl kf_RX10_20 (by decide) (by decide) rfl (I.S.b 81 rfl rfl) (I.S.o 81 rfl rfl rfl) (en) ?_
              refine Go_iload_n (pc' := 57) dX10_append_56 rfl rfl rfl ?_
              refine Go_iastore (n := 8) (pc' := 58) dX10_append_57 rfl (I.S.b 82 rfl rfl) (I.S.k 82 rfl rfl rfl) (by exact inR_nI (by omega) (by decide)) ?_
              rw [nI_clamp (show n < 2 ^ 31 by omega)]
              refine Go_aload_n (pc' := 59) dX10_append_58 rfl rfl rfl ?_
              refine Go_dup (pc' := 60) dX10_append_59 rfl rfl ?_
              refine Go_getIv (v := (nI n)) (pc' := 63) dX10_append_60 rfl kf_RX10_20 (by decide) (by decide) rfl (I.S.b 81 rfl rfl) (I.S.o 81 rfl rfl rfl) ((vi_skip (Or.inl (by decide))).trans (en)) ?_
              refine Go_iconst (v := 1) (pc' := 64) dX10_append_63 rfl (by decide) ?_
              refine Go_iadd (pc' := 65) dX10_append_64 rfl ?_
              refine Go_putI (pc' := 68) dX10_append_65 rfl kf_RX10_20 (by decide) (by decide) rfl (I.S.b 81 rfl rfl) (I.S.o 81 rfl rfl rfl) (Or.inl rfl) rfl rfl ?_
              refine Go_iconst (v := 1) (pc' := 69) dX10_append_68 rfl (by decide) ?_
              refine Go_ireturn (ty := .boolean) dX10_append_69 rfl rfl ?_
              refine ⟨_, rfl, ?_⟩
              refine Go_if_eqZ (X := (1)) (tgt := 36) (pc' := 26) dX11_pick_23 (by decide) rfl rfl (fun c23 => ?_) (fun c23 => ?_)
              · exact absurd c23 (by decide)
              · refine Go_aload_n (pc' := 27) dX11_pick_26 rfl rfl rfl ?_
                refine Go_getRs (pc' := 30) dX11_pick_27 rfl kf_RX11_59 (by decide) (by decide) rfl (I.S.b 64 rfl rfl) (I.S.o 64 rfl rfl rfl) (I.S.r 64 10 rfl rfl rfl) ?_
                refine Go_getIv (v := ((nI n) + 1)) (pc' := 33) dX11_pick_30 rfl kf_RX11_312 (by decide) (by decide) rfl (I.S.b 81 rfl rfl) (I.S.o 81 rfl rfl rfl) (vi_same) ?_
                refine Go_goto (tgt := 38) dX11_pick_33 (by decide) ?_
                refine Go_ireturn (ty := .int) dX11_pick_38 rfl rfl ?_
                exact k _ _ (Or.inr (Or.inl ⟨c2, by omega, rfl, rfl⟩)) I.S
            · refine Go_iconst (v := 0) (pc' := 47) dX10_append_46 rfl (by decide) ?_
              refine Go_ireturn (ty := .boolean) dX10_append_47 rfl rfl ?_
              refine ⟨_, rfl, ?_⟩
              refine Go_if_eqZ (X := (0)) (tgt := 36) (pc' := 26) dX11_pick_23 (by decide) rfl rfl (fun c23 => ?_) (fun c23 => ?_)
              · refine Go_bipush (v := (-2)) (pc' := 38) dX11_pick_36 rfl (by decide) ?_
                refine Go_ireturn (ty := .int) dX11_pick_38 rfl rfl ?_
                exact k _ _ (Or.inr (Or.inr ⟨c2, by omega, rfl, rfl⟩)) I.S
              · exact absurd c23 (by decide)
        · refine Go_iconst (v := 0) (pc' := 23) dX10_append_22 rfl (by decide) ?_
          refine Go_ireturn (ty := .boolean) dX10_append_23 rfl rfl ?_
          refine ⟨_, rfl, ?_⟩
          refine Go_if_eqZ (X := (0)) (tgt := 36) (pc' := 26) dX11_pick_23 (by decide) rfl rfl (fun c23 => ?_) (fun c23 => ?_)
          · refine Go_bipush (v := (-2)) (pc' := 38) dX11_pick_36 rfl (by decide) ?_
            refine Go_ireturn (ty := .int) dX11_pick_38 rfl rfl ?_
            exact k _ _ (Or.inr (Or.inr ⟨c2, by omega, rfl, rfl⟩)) I.S
          · exact absurd c23 (by decide)
    · refine Go_aload_n (pc' := 6) dX11_pick_5 rfl rfl rfl ?_
      refine Go_getRs (pc' := 9) dX11_pick_6 rfl kf_RX11_59 (by decide) (by decide) rfl (I.S.b 64 rfl rfl) (I.S.o 64 rfl rfl rfl) (I.S.r 64 10 rfl rfl rfl) ?_
      refine Go_iconst (v := 0) (pc' := 10) dX11_pick_9 rfl (by decide) ?_
      refine Go_putI (pc' := 13) dX11_pick_10 rfl kf_RX11_312 (by decide) (by decide) rfl (I.S.b 81 rfl rfl) (I.S.o 81 rfl rfl rfl) (Or.inl rfl) rfl rfl ?_
      refine Go_iconst (v := 0) (pc' := 14) dX11_pick_13 rfl (by decide) ?_
      refine Go_ireturn (ty := .int) dX11_pick_14 rfl rfl ?_
      exact k _ _ (Or.inl ⟨c2, rfl, rfl⟩) I.S
  · have em : vi h 99 51 = nI n := by rw [← P.1]; exact en
    have e1 : (nI n).toInt = (n : Int) := i_nI (by omega)
    have ep : ∀ i, i < n → vi h 133 i = vi h 82 i := fun i hi => ((P.2.2.1 i (by rw [en, e1]; omega)).1).symm
    rintro r h1 (⟨hc, rfl, rfl⟩ | ⟨h0, hc, rfl, rfl⟩ | ⟨h0, hc, rfl, rfl⟩) K k
    · show Go G 60 0 0 M_X12_pick 0 [.ref 99, .int a] [] (wI h 81 1 0) K
      refine Go_iload_n (pc' := 1) dX12_pick_0 rfl rfl rfl ?_
      refine Go_iconst (v := (-1)) (pc' := 2) dX12_pick_1 rfl (by decide) ?_
      refine Go_icmp_neZ (X := _) (Y := (-1)) (tgt := 12) (pc' := 5) dX12_pick_2 (by decide) rfl rfl rfl (fun c2 => ?_) (fun c2 => ?_)
      · refine Go_iload_n (pc' := 13) dX12_pick_12 rfl rfl rfl ?_
        refine Go_iconst (v := 0) (pc' := 14) dX12_pick_13 rfl (by decide) ?_
        refine Go_ldcw (pc' := 17) dX12_pick_14 rfl kn_RX12_339 ?_
        refine Go_callS_i (pc' := 20) (As := [.int _, .int _, .int _]) (st := []) dX12_pick_17 rfl ok_X12_isIn km_RX12_147 rfl (Nat.le_of_ble_eq_true rfl) rfl rfl rfl (Nat.le_of_ble_eq_true rfl) (Nat.lt_succ_self _) ?_
        refine s_isInZ (l := (0)) (u := (9999999)) rfl rfl ?_
        refine ⟨_, rfl, ?_⟩
        refine Go_if_eqb (tgt := 54) (pc' := 23) dX12_pick_20 (by decide) rfl (fun c20 => ?_) (fun c20 => ?_)
        · refine Go_bipush (v := (-2)) (pc' := 56) dX12_pick_54 rfl (by decide) ?_
          refine Go_ireturn (ty := .int) dX12_pick_56 rfl rfl ?_
          exfalso; omega
        · refine Go_aload_n (pc' := 24) dX12_pick_23 rfl rfl rfl ?_
          refine Go_getIv (v := (nI n)) (pc' := 27) dX12_pick_24 rfl kf_RX12_382 (by decide) (by decide) rfl (I.S.b 99 rfl rfl) (I.S.o 99 rfl rfl rfl) ((vi_skip (Or.inl (by decide))).trans (em)) ?_
          refine Go_bipush (v := 8) (pc' := 29) dX12_pick_27 rfl (by decide) ?_
          refine Go_icmp_eqZ (X := ((n : Nat) : Int)) (Y := (8)) (tgt := 54) (pc' := 32) dX12_pick_29 (by decide) rfl (i_nI (by omega)) rfl (fun c29 => ?_) (fun c29 => ?_)
          · refine Go_bipush (v := (-2)) (pc' := 56) dX12_pick_54 rfl (by decide) ?_
            refine Go_ireturn (ty := .int) dX12_pick_56 rfl rfl ?_
            exfalso; omega
          · refine Go_aload_n (pc' := 33) dX12_pick_32 rfl rfl rfl ?_
            refine Go_getIv (v := (nI n)) (pc' := 36) dX12_pick_33 rfl kf_RX12_382 (by decide) (by decide) rfl (I.S.b 99 rfl rfl) (I.S.o 99 rfl rfl rfl) ((vi_skip (Or.inl (by decide))).trans (em)) ?_
            refine Go_if_leZ (X := ((n : Nat) : Int)) (tgt := 57) (pc' := 39) dX12_pick_36 (by decide) rfl (i_nI (by omega)) (fun c36 => ?_) (fun c36 => ?_)
            · refine Go_aload_n (pc' := 58) dX12_pick_57 rfl rfl rfl ?_
              refine Go_getRs (pc' := 61) dX12_pick_58 rfl kf_RX12_120 (by decide) (by decide) rfl (I.S.b 99 rfl rfl) (I.S.o 99 rfl rfl rfl) (I.S.r 99 50 rfl rfl rfl) ?_
              refine Go_aload_n (pc' := 62) dX12_pick_61 rfl rfl rfl ?_
              refine Go_getIv (v := (nI n)) (pc' := 65) dX12_pick_62 rfl kf_RX12_382 (by decide) (by decide) rfl (I.S.b 99 rfl rfl) (I.S.o 99 rfl rfl rfl) ((vi_skip (Or.inl (by decide))).trans (em)) ?_
              refine Go_iload_n (pc' := 66) dX12_pick_65 rfl rfl rfl ?_
              refine Go_iastore (n := 8) (pc' := 67) dX12_pick_66 rfl (I.S.b 133 rfl rfl) (I.S.k 133 rfl rfl rfl) (by exact inR_nI (by omega) (by decide)) ?_
              rw [nI_clamp (show n < 2 ^ 31 by omega)]
              refine Go_aload_n (pc' := 68) dX12_pick_67 rfl rfl rfl ?_
              refine Go_dup (pc' := 69) dX12_pick_68 rfl rfl ?_
              refine Go_getIv (v := (nI n)) (pc' := 72) dX12_pick_69 rfl kf_RX12_382 (by decide) (by decide) rfl (I.S.b 99 rfl rfl) (I.S.o 99 rfl rfl rfl) ((vi_skip (Or.inl (by decide))).trans ((vi_skip (Or.inl (by decide))).trans (em))) ?_
              refine Go_iconst (v := 1) (pc' := 73) dX12_pick_72 rfl (by decide) ?_
              refine Go_iadd (pc' := 74) dX12_pick_73 rfl ?_
              refine Go_putI (pc' := 77) dX12_pick_74 rfl kf_RX12_382 (by decide) (by decide) rfl (I.S.b 99 rfl rfl) (I.S.o 99 rfl rfl rfl) (Or.inl rfl) rfl rfl ?_
              refine Go_aload_n (pc' := 78) dX12_pick_77 rfl rfl rfl ?_
              refine Go_getIv (v := ((nI n) + 1)) (pc' := 81) dX12_pick_78 rfl kf_RX12_382 (by decide) (by decide) rfl (I.S.b 99 rfl rfl) (I.S.o 99 rfl rfl rfl) (vi_same) ?_
              refine Go_ireturn (ty := .int) dX12_pick_81 rfl rfl ?_
              exfalso; omega
            · refine Go_iload_n (pc' := 40) dX12_pick_39 rfl rfl rfl ?_
              refine Go_aload_n (pc' := 41) dX12_pick_40 rfl rfl rfl ?_
              refine Go_getRs (pc' := 44) dX12_pick_41 rfl kf_RX12_120 (by decide) (by decide) rfl (I.S.b 99 rfl rfl) (I.S.o 99 rfl rfl rfl) (I.S.r 99 50 rfl rfl rfl) ?_
              refine Go_aload_n (pc' := 45) dX12_pick_44 rfl rfl rfl ?_
              refine Go_getIv (v := (nI n)) (pc' := 48) dX12_pick_45 rfl kf_RX12_382 (by decide) (by decide) rfl (I.S.b 99 rfl rfl) (I.S.o 99 rfl rfl rfl) ((vi_skip (Or.inl (by decide))).trans (em)) ?_
              refine Go_iconst (v := 1) (pc' := 49) dX12_pick_48 rfl (by decide) ?_
              refine Go_isub (pc' := 50) dX12_pick_49 rfl ?_
              refine Go_iaload (n := 8) (v := (vi h 82 (n - 1))) (pc' := 51) dX12_pick_50 rfl (I.S.b 133 rfl rfl) (I.S.k 133 rfl rfl rfl) (by exact inR_m1 (by omega) (by omega) (by decide)) ((congrArg (vi _ _) (ix_m1 (show 0 < n by omega) (by omega))).trans ((vi_skip (Or.inl (by decide))).trans (ep (n - 1) (by omega)))) ?_
              refine Go_icmp_gtZ (X := _) (Y := _) (tgt := 57) (pc' := 54) dX12_pick_51 (by decide) rfl rfl rfl (fun c51 => ?_) (fun c51 => ?_)
              · refine Go_aload_n (pc' := 58) dX12_pick_57 rfl rfl rfl ?_
                refine Go_getRs (pc' := 61) dX12_pick_58 rfl kf_RX12_120 (by decide) (by decide) rfl (I.S.b 99 rfl rfl) (I.S.o 99 rfl rfl rfl) (I.S.r 99 50 rfl rfl rfl) ?_
                refine Go_aload_n (pc' := 62) dX12_pick_61 rfl rfl rfl ?_
                refine Go_getIv (v := (nI n)) (pc' := 65) dX12_pick_62 rfl kf_RX12_382 (by decide) (by decide) rfl (I.S.b 99 rfl rfl) (I.S.o 99 rfl rfl rfl) ((vi_skip (Or.inl (by decide))).trans (em)) ?_
                refine Go_iload_n (pc' := 66) dX12_pick_65 rfl rfl rfl ?_
                refine Go_iastore (n := 8) (pc' := 67) dX12_pick_66 rfl (I.S.b 133 rfl rfl) (I.S.k 133 rfl rfl rfl) (by exact inR_nI (by omega) (by decide)) ?_
                rw [nI_clamp (show n < 2 ^ 31 by omega)]
                refine Go_aload_n (pc' := 68) dX12_pick_67 rfl rfl rfl ?_
                refine Go_dup (pc' := 69) dX12_pick_68 rfl rfl ?_
                refine Go_getIv (v := (nI n)) (pc' := 72) dX12_pick_69 rfl kf_RX12_382 (by decide) (by decide) rfl (I.S.b 99 rfl rfl) (I.S.o 99 rfl rfl rfl) ((vi_skip (Or.inl (by decide))).trans ((vi_skip (Or.inl (by decide))).trans (em))) ?_
                refine Go_iconst (v := 1) (pc' := 73) dX12_pick_72 rfl (by decide) ?_
                refine Go_iadd (pc' := 74) dX12_pick_73 rfl ?_
                refine Go_putI (pc' := 77) dX12_pick_74 rfl kf_RX12_382 (by decide) (by decide) rfl (I.S.b 99 rfl rfl) (I.S.o 99 rfl rfl rfl) (Or.inl rfl) rfl rfl ?_
                refine Go_aload_n (pc' := 78) dX12_pick_77 rfl rfl rfl ?_
                refine Go_getIv (v := ((nI n) + 1)) (pc' := 81) dX12_pick_78 rfl kf_RX12_382 (by decide) (by decide) rfl (I.S.b 99 rfl rfl) (I.S.o 99 rfl rfl rfl) (vi_same) ?_
                refine Go_ireturn (ty := .int) dX12_pick_81 rfl rfl ?_
                exfalso; omega
              · refine Go_bipush (v := (-2)) (pc' := 56) dX12_pick_54 rfl (by decide) ?_
                refine Go_ireturn (ty := .int) dX12_pick_56 rfl rfl ?_
                exfalso; omega
      · refine Go_aload_n (pc' := 6) dX12_pick_5 rfl rfl rfl ?_
        refine Go_iconst (v := 0) (pc' := 7) dX12_pick_6 rfl (by decide) ?_
        refine Go_putI (pc' := 10) dX12_pick_7 rfl kf_RX12_382 (by decide) (by decide) rfl (I.S.b 99 rfl rfl) (I.S.o 99 rfl rfl rfl) (Or.inl rfl) rfl rfl ?_
        refine Go_iconst (v := 0) (pc' := 11) dX12_pick_10 rfl (by decide) ?_
        refine Go_ireturn (ty := .int) dX12_pick_11 rfl rfl ?_
        refine k _ ⟨I.S, I.D.fr (((SameOn.rf _ _).wI rfl).wI rfl), I.W.fr (((SameOn.rf _ _).wI rfl).wI rfl), ?_, I.E.fr (((SameOn.rf _ _).wI rfl).wI rfl), I.F.fr (((SameOn.rf _ _).wI rfl).wI rfl), I.T.fr (((SameOn.rf _ _).wI rfl).wI rfl), I.G.fr (((SameOn.rf _ _).wI rfl).wI rfl), stat_C (stat_C (I.C) (by decide) rfl) (by decide) rfl, stat_Q (stat_Q (I.Q) (by decide) rfl) (by decide) rfl⟩
        unfold RP rg
        simp [vi_wI]
        refine ⟨fun i hi => ?_, fun i hi => ?_⟩ <;> omega
    · show Go G 60 0 0 M_X12_pick 0 [.ref 99, .int a] [] (wI (wI h 82 n a) 81 1 (nI n + 1)) K
      refine Go_iload_n (pc' := 1) dX12_pick_0 rfl rfl rfl ?_
      refine Go_iconst (v := (-1)) (pc' := 2) dX12_pick_1 rfl (by decide) ?_
      refine Go_icmp_neZ (X := _) (Y := (-1)) (tgt := 12) (pc' := 5) dX12_pick_2 (by decide) rfl rfl rfl (fun c2 => ?_) (fun c2 => ?_)
      · refine Go_iload_n (pc' := 13) dX12_pick_12 rfl rfl rfl ?_
        refine Go_iconst (v := 0) (pc' := 14) dX12_pick_13 rfl (by decide) ?_
        refine Go_ldcw (pc' := 17) dX12_pick_14 rfl kn_RX12_339 ?_
        refine Go_callS_i (pc' := 20) (As := [.int _, .int _, .int _]) (st := []) dX12_pick_17 rfl ok_X12_isIn km_RX12_147 rfl (Nat.le_of_ble_eq_true rfl) rfl rfl rfl (Nat.le_of_ble_eq_true rfl) (Nat.lt_succ_self _) ?_
        refine s_isInZ (l := (0)) (u := (9999999)) rfl rfl ?_
        refine ⟨_, rfl, ?_⟩
        refine Go_if_eqb (tgt := 54) (pc' := 23) dX12_pick_20 (by decide) rfl (fun c20 => ?_) (fun c20 => ?_)
        · refine Go_bipush (v := (-2)) (pc' := 56) dX12_pick_54 rfl (by decide) ?_
          refine Go_ireturn (ty := .int) dX12_pick_56 rfl rfl ?_
          exfalso; omega
        · refine Go_aload_n (pc' := 24) dX12_pick_23 rfl rfl rfl ?_
          refine Go_getIv (v := (nI n)) (pc' := 27) dX12_pick_24 rfl kf_RX12_382 (by decide) (by decide) rfl (I.S.b 99 rfl rfl) (I.S.o 99 rfl rfl rfl) ((vi_skip (Or.inl (by decide))).trans ((vi_skip (Or.inl (by decide))).trans (em))) ?_
          refine Go_bipush (v := 8) (pc' := 29) dX12_pick_27 rfl (by decide) ?_
          refine Go_icmp_eqZ (X := ((n : Nat) : Int)) (Y := (8)) (tgt := 54) (pc' := 32) dX12_pick_29 (by decide) rfl (i_nI (by omega)) rfl (fun c29 => ?_) (fun c29 => ?_)
          · refine Go_bipush (v := (-2)) (pc' := 56) dX12_pick_54 rfl (by decide) ?_
            refine Go_ireturn (ty := .int) dX12_pick_56 rfl rfl ?_
            exfalso; omega
          · refine Go_aload_n (pc' := 33) dX12_pick_32 rfl rfl rfl ?_
            refine Go_getIv (v := (nI n)) (pc' := 36) dX12_pick_33 rfl kf_RX12_382 (by decide) (by decide) rfl (I.S.b 99 rfl rfl) (I.S.o 99 rfl rfl rfl) ((vi_skip (Or.inl (by decide))).trans ((vi_skip (Or.inl (by decide))).trans (em))) ?_
            refine Go_if_leZ (X := ((n : Nat) : Int)) (tgt := 57) (pc' := 39) dX12_pick_36 (by decide) rfl (i_nI (by omega)) (fun c36 => ?_) (fun c36 => ?_)
            · refine Go_aload_n (pc' := 58) dX12_pick_57 rfl rfl rfl ?_
              refine Go_getRs (pc' := 61) dX12_pick_58 rfl kf_RX12_120 (by decide) (by decide) rfl (I.S.b 99 rfl rfl) (I.S.o 99 rfl rfl rfl) (I.S.r 99 50 rfl rfl rfl) ?_
              refine Go_aload_n (pc' := 62) dX12_pick_61 rfl rfl rfl ?_
              refine Go_getIv (v := (nI n)) (pc' := 65) dX12_pick_62 rfl kf_RX12_382 (by decide) (by decide) rfl (I.S.b 99 rfl rfl) (I.S.o 99 rfl rfl rfl) ((vi_skip (Or.inl (by decide))).trans ((vi_skip (Or.inl (by decide))).trans (em))) ?_
              refine Go_iload_n (pc' := 66) dX12_pick_65 rfl rfl rfl ?_
              refine Go_iastore (n := 8) (pc' := 67) dX12_pick_66 rfl (I.S.b 133 rfl rfl) (I.S.k 133 rfl rfl rfl) (by exact inR_nI (by omega) (by decide)) ?_
              rw [nI_clamp (show n < 2 ^ 31 by omega)]
              refine Go_aload_n (pc' := 68) dX12_pick_67 rfl rfl rfl ?_
              refine Go_dup (pc' := 69) dX12_pick_68 rfl rfl ?_
              refine Go_getIv (v := (nI n)) (pc' := 72) dX12_pick_69 rfl kf_RX12_382 (by decide) (by decide) rfl (I.S.b 99 rfl rfl) (I.S.o 99 rfl rfl rfl) ((vi_skip (Or.inl (by decide))).trans ((vi_skip (Or.inl (by decide))).trans ((vi_skip (Or.inl (by decide))).trans (em)))) ?_
              refine Go_iconst (v := 1) (pc' := 73) dX12_pick_72 rfl (by decide) ?_
              refine Go_iadd (pc' := 74) dX12_pick_73 rfl ?_
              refine Go_putI (pc' := 77) dX12_pick_74 rfl kf_RX12_382 (by decide) (by decide) rfl (I.S.b 99 rfl rfl) (I.S.o 99 rfl rfl rfl) (Or.inl rfl) rfl rfl ?_
              refine Go_aload_n (pc' := 78) dX12_pick_77 rfl rfl rfl ?_
              refine Go_getIv (v := ((nI n) + 1)) (pc' := 81) dX12_pick_78 rfl kf_RX12_382 (by decide) (by decide) rfl (I.S.b 99 rfl rfl) (I.S.o 99 rfl rfl rfl) (vi_same) ?_
              refine Go_ireturn (ty := .int) dX12_pick_81 rfl rfl ?_
              refine k _ ⟨I.S, I.D.fr (((((SameOn.rf _ _).wI rfl).wI rfl).wI rfl).wI rfl), I.W.fr (((((SameOn.rf _ _).wI rfl).wI rfl).wI rfl).wI rfl), ?_, I.E.fr (((((SameOn.rf _ _).wI rfl).wI rfl).wI rfl).wI rfl), I.F.fr (((((SameOn.rf _ _).wI rfl).wI rfl).wI rfl).wI rfl), I.T.fr (((((SameOn.rf _ _).wI rfl).wI rfl).wI rfl).wI rfl), I.G.fr (((((SameOn.rf _ _).wI rfl).wI rfl).wI rfl).wI rfl), stat_C (stat_C (stat_C (stat_C (I.C) (by decide) rfl) (by decide) rfl) (by decide) rfl) (by decide) rfl, stat_Q (stat_Q (stat_Q (stat_Q (I.Q) (by decide) rfl) (by decide) rfl) (by decide) rfl) (by decide) rfl⟩
              obtain ⟨p1, p2, p3, p4⟩ := P
              have e2 : (nI n + 1).toInt = (n : Int) + 1 := by rw [nI_1, i_nI (by omega)]; omega
              rw [en, e1] at p3 p4
              refine ⟨by simp [vi_wI], ?_, fun i hi => ?_, fun i hi => ?_⟩
              · simp only [vi_wI]; simp; unfold rg; rw [e2]; omega
              · simp [vi_wI, e2] at hi ⊢
                by_cases q : i = n
                · simp [q]; unfold rg; omega
                · simp [q]; exact p3 i (by omega)
              · simp [vi_wI, e2] at hi ⊢
                by_cases q : i = n
                · omega
                · by_cases q2 : i + 1 = n
                  · simp [q, q2]
                    have z := hc.2.2.2 (by omega)
                    rw [show n - 1 = i by omega] at z; exact z
                  · simp [q, q2]; exact p4 i (by omega)
            · refine Go_iload_n (pc' := 40) dX12_pick_39 rfl rfl rfl ?_
              refine Go_aload_n (pc' := 41) dX12_pick_40 rfl rfl rfl ?_
              refine Go_getRs (pc' := 44) dX12_pick_41 rfl kf_RX12_120 (by decide) (by decide) rfl (I.S.b 99 rfl rfl) (I.S.o 99 rfl rfl rfl) (I.S.r 99 50 rfl rfl rfl) ?_
              refine Go_aload_n (pc' := 45) dX12_pick_44 rfl rfl rfl ?_
              refine Go_getIv (v := (nI n)) (pc' := 48) dX12_pick_45 rfl kf_RX12_382 (by decide) (by decide) rfl (I.S.b 99 rfl rfl) (I.S.o 99 rfl rfl rfl) ((vi_skip (Or.inl (by decide))).trans ((vi_skip (Or.inl (by decide))).trans (em))) ?_
              refine Go_iconst (v := 1) (pc' := 49) dX12_pick_48 rfl (by decide) ?_
              refine Go_isub (pc' := 50) dX12_pick_49 rfl ?_
              refine Go_iaload (n := 8) (v := (vi h 82 (n - 1))) (pc' := 51) dX12_pick_50 rfl (I.S.b 133 rfl rfl) (I.S.k 133 rfl rfl rfl) (by exact inR_m1 (by omega) (by omega) (by decide)) ((congrArg (vi _ _) (ix_m1 (show 0 < n by omega) (by omega))).trans (((vi_skip (Or.inl (by decide))).trans (vi_skip (Or.inl (by decide)))).trans (ep (n - 1) (by omega)))) ?_
              refine Go_icmp_gtZ (X := _) (Y := _) (tgt := 57) (pc' := 54) dX12_pick_51 (by decide) rfl rfl rfl (fun c51 => ?_) (fun c51 => ?_)
              · refine Go_aload_n (pc' := 58) dX12_pick_57 rfl rfl rfl ?_
                refine Go_getRs (pc' := 61) dX12_pick_58 rfl kf_RX12_120 (by decide) (by decide) rfl (I.S.b 99 rfl rfl) (I.S.o 99 rfl rfl rfl) (I.S.r 99 50 rfl rfl rfl) ?_
                refine Go_aload_n (pc' := 62) dX12_pick_61 rfl rfl rfl ?_
                refine Go_getIv (v := (nI n)) (pc' := 65) dX12_pick_62 rfl kf_RX12_382 (by decide) (by decide) rfl (I.S.b 99 rfl rfl) (I.S.o 99 rfl rfl rfl) ((vi_skip (Or.inl (by decide))).trans ((vi_skip (Or.inl (by decide))).trans (em))) ?_
                refine Go_iload_n (pc' := 66) dX12_pick_65 rfl rfl rfl ?_
                refine Go_iastore (n := 8) (pc' := 67) dX12_pick_66 rfl (I.S.b 133 rfl rfl) (I.S.k 133 rfl rfl rfl) (by exact inR_nI (by omega) (by decide)) ?_
                rw [nI_clamp (show n < 2 ^ 31 by omega)]
                refine Go_aload_n (pc' := 68) dX12_pick_67 rfl rfl rfl ?_
                refine Go_dup (pc' := 69) dX12_pick_68 rfl rfl ?_
                refine Go_getIv (v := (nI n)) (pc' := 72) dX12_pick_69 rfl kf_RX12_382 (by decide) (by decide) rfl (I.S.b 99 rfl rfl) (I.S.o 99 rfl rfl rfl) ((vi_skip (Or.inl (by decide))).trans ((vi_skip (Or.inl (by decide))).trans ((vi_skip (Or.inl (by decide))).trans (em)))) ?_
                refine Go_iconst (v := 1) (pc' := 73) dX12_pick_72 rfl (by decide) ?_
                refine Go_iadd (pc' := 74) dX12_pick_73 rfl ?_
                refine Go_putI (pc' := 77) dX12_pick_74 rfl kf_RX12_382 (by decide) (by decide) rfl (I.S.b 99 rfl rfl) (I.S.o 99 rfl rfl rfl) (Or.inl rfl) rfl rfl ?_
                refine Go_aload_n (pc' := 78) dX12_pick_77 rfl rfl rfl ?_
                refine Go_getIv (v := ((nI n) + 1)) (pc' := 81) dX12_pick_78 rfl kf_RX12_382 (by decide) (by decide) rfl (I.S.b 99 rfl rfl) (I.S.o 99 rfl rfl rfl) (vi_same) ?_
                refine Go_ireturn (ty := .int) dX12_pick_81 rfl rfl ?_
                refine k _ ⟨I.S, I.D.fr (((((SameOn.rf _ _).wI rfl).wI rfl).wI rfl).wI rfl), I.W.fr (((((SameOn.rf _ _).wI rfl).wI rfl).wI rfl).wI rfl), ?_, I.E.fr (((((SameOn.rf _ _).wI rfl).wI rfl).wI rfl).wI rfl), I.F.fr (((((SameOn.rf _ _).wI rfl).wI rfl).wI rfl).wI rfl), I.T.fr (((((SameOn.rf _ _).wI rfl).wI rfl).wI rfl).wI rfl), I.G.fr (((((SameOn.rf _ _).wI rfl).wI rfl).wI rfl).wI rfl), stat_C (stat_C (stat_C (stat_C (I.C) (by decide) rfl) (by decide) rfl) (by decide) rfl) (by decide) rfl, stat_Q (stat_Q (stat_Q (stat_Q (I.Q) (by decide) rfl) (by decide) rfl) (by decide) rfl) (by decide) rfl⟩
                obtain ⟨p1, p2, p3, p4⟩ := P
                have e2 : (nI n + 1).toInt = (n : Int) + 1 := by rw [nI_1, i_nI (by omega)]; omega
                rw [en, e1] at p3 p4
                refine ⟨by simp [vi_wI], ?_, fun i hi => ?_, fun i hi => ?_⟩
                · simp only [vi_wI]; simp; unfold rg; rw [e2]; omega
                · simp [vi_wI, e2] at hi ⊢
                  by_cases q : i = n
                  · simp [q]; unfold rg; omega
                  · simp [q]; exact p3 i (by omega)
                · simp [vi_wI, e2] at hi ⊢
                  by_cases q : i = n
                  · omega
                  · by_cases q2 : i + 1 = n
                    · simp [q, q2]
                      have z := hc.2.2.2 (by omega)
                      rw [show n - 1 = i by omega] at z; exact z
                    · simp [q, q2]; exact p4 i (by omega)
              · refine Go_bipush (v := (-2)) (pc' := 56) dX12_pick_54 rfl (by decide) ?_
                refine Go_ireturn (ty := .int) dX12_pick_56 rfl rfl ?_
                exfalso; omega
      · refine Go_aload_n (pc' := 6) dX12_pick_5 rfl rfl rfl ?_
        refine Go_iconst (v := 0) (pc' := 7) dX12_pick_6 rfl (by decide) ?_
        refine Go_putI (pc' := 10) dX12_pick_7 rfl kf_RX12_382 (by decide) (by decide) rfl (I.S.b 99 rfl rfl) (I.S.o 99 rfl rfl rfl) (Or.inl rfl) rfl rfl ?_
        refine Go_iconst (v := 0) (pc' := 11) dX12_pick_10 rfl (by decide) ?_
        refine Go_ireturn (ty := .int) dX12_pick_11 rfl rfl ?_
        exfalso; omega
    · show Go G 60 0 0 M_X12_pick 0 [.ref 99, .int a] [] h K
      refine Go_iload_n (pc' := 1) dX12_pick_0 rfl rfl rfl ?_
      refine Go_iconst (v := (-1)) (pc' := 2) dX12_pick_1 rfl (by decide) ?_
      refine Go_icmp_neZ (X := _) (Y := (-1)) (tgt := 12) (pc' := 5) dX12_pick_2 (by decide) rfl rfl rfl (fun c2 => ?_) (fun c2 => ?_)
      · refine Go_iload_n (pc' := 13) dX12_pick_12 rfl rfl rfl ?_
        refine Go_iconst (v := 0) (pc' := 14) dX12_pick_13 rfl (by decide) ?_
        refine Go_ldcw (pc' := 17) dX12_pick_14 rfl kn_RX12_339 ?_
        refine Go_callS_i (pc' := 20) (As := [.int _, .int _, .int _]) (st := []) dX12_pick_17 rfl ok_X12_isIn km_RX12_147 rfl (Nat.le_of_ble_eq_true rfl) rfl rfl rfl (Nat.le_of_ble_eq_true rfl) (Nat.lt_succ_self _) ?_
        refine s_isInZ (l := (0)) (u := (9999999)) rfl rfl ?_
        refine ⟨_, rfl, ?_⟩
        refine Go_if_eqb (tgt := 54) (pc' := 23) dX12_pick_20 (by decide) rfl (fun c20 => ?_) (fun c20 => ?_)
        · refine Go_bipush (v := (-2)) (pc' := 56) dX12_pick_54 rfl (by decide) ?_
          refine Go_ireturn (ty := .int) dX12_pick_56 rfl rfl ?_
          exact k _ I
        · refine Go_aload_n (pc' := 24) dX12_pick_23 rfl rfl rfl ?_
          refine Go_getIv (v := (nI n)) (pc' := 27) dX12_pick_24 rfl kf_RX12_382 (by decide) (by decide) rfl (I.S.b 99 rfl rfl) (I.S.o 99 rfl rfl rfl) (em) ?_
          refine Go_bipush (v := 8) (pc' := 29) dX12_pick_27 rfl (by decide) ?_
          refine Go_icmp_eqZ (X := ((n : Nat) : Int)) (Y := (8)) (tgt := 54) (pc' := 32) dX12_pick_29 (by decide) rfl (i_nI (by omega)) rfl (fun c29 => ?_) (fun c29 => ?_)
          · refine Go_bipush (v := (-2)) (pc' := 56) dX12_pick_54 rfl (by decide) ?_
            refine Go_ireturn (ty := .int) dX12_pick_56 rfl rfl ?_
            exact k _ I
          · refine Go_aload_n (pc' := 33) dX12_pick_32 rfl rfl rfl ?_
            refine Go_getIv (v := (nI n)) (pc' := 36) dX12_pick_33 rfl kf_RX12_382 (by decide) (by decide) rfl (I.S.b 99 rfl rfl) (I.S.o 99 rfl rfl rfl) (em) ?_
            refine Go_if_leZ (X := ((n : Nat) : Int)) (tgt := 57) (pc' := 39) dX12_pick_36 (by decide) rfl (i_nI (by omega)) (fun c36 => ?_) (fun c36 => ?_)
            · refine Go_aload_n (pc' := 58) dX12_pick_57 rfl rfl rfl ?_
              refine Go_getRs (pc' := 61) dX12_pick_58 rfl kf_RX12_120 (by decide) (by decide) rfl (I.S.b 99 rfl rfl) (I.S.o 99 rfl rfl rfl) (I.S.r 99 50 rfl rfl rfl) ?_
              refine Go_aload_n (pc' := 62) dX12_pick_61 rfl rfl rfl ?_
              refine Go_getIv (v := (nI n)) (pc' := 65) dX12_pick_62 rfl kf_RX12_382 (by decide) (by decide) rfl (I.S.b 99 rfl rfl) (I.S.o 99 rfl rfl rfl) (em) ?_
              refine Go_iload_n (pc' := 66) dX12_pick_65 rfl rfl rfl ?_
              refine Go_iastore (n := 8) (pc' := 67) dX12_pick_66 rfl (I.S.b 133 rfl rfl) (I.S.k 133 rfl rfl rfl) (by exact inR_nI (by omega) (by decide)) ?_
              rw [nI_clamp (show n < 2 ^ 31 by omega)]
              refine Go_aload_n (pc' := 68) dX12_pick_67 rfl rfl rfl ?_
              refine Go_dup (pc' := 69) dX12_pick_68 rfl rfl ?_
              refine Go_getIv (v := (nI n)) (pc' := 72) dX12_pick_69 rfl kf_RX12_382 (by decide) (by decide) rfl (I.S.b 99 rfl rfl) (I.S.o 99 rfl rfl rfl) ((vi_skip (Or.inl (by decide))).trans (em)) ?_
              refine Go_iconst (v := 1) (pc' := 73) dX12_pick_72 rfl (by decide) ?_
              refine Go_iadd (pc' := 74) dX12_pick_73 rfl ?_
              refine Go_putI (pc' := 77) dX12_pick_74 rfl kf_RX12_382 (by decide) (by decide) rfl (I.S.b 99 rfl rfl) (I.S.o 99 rfl rfl rfl) (Or.inl rfl) rfl rfl ?_
              refine Go_aload_n (pc' := 78) dX12_pick_77 rfl rfl rfl ?_
              refine Go_getIv (v := ((nI n) + 1)) (pc' := 81) dX12_pick_78 rfl kf_RX12_382 (by decide) (by decide) rfl (I.S.b 99 rfl rfl) (I.S.o 99 rfl rfl rfl) (vi_same) ?_
              refine Go_ireturn (ty := .int) dX12_pick_81 rfl rfl ?_
              exfalso; omega
            · refine Go_iload_n (pc' := 40) dX12_pick_39 rfl rfl rfl ?_
              refine Go_aload_n (pc' := 41) dX12_pick_40 rfl rfl rfl ?_
              refine Go_getRs (pc' := 44) dX12_pick_41 rfl kf_RX12_120 (by decide) (by decide) rfl (I.S.b 99 rfl rfl) (I.S.o 99 rfl rfl rfl) (I.S.r 99 50 rfl rfl rfl) ?_
              refine Go_aload_n (pc' := 45) dX12_pick_44 rfl rfl rfl ?_
              refine Go_getIv (v := (nI n)) (pc' := 48) dX12_pick_45 rfl kf_RX12_382 (by decide) (by decide) rfl (I.S.b 99 rfl rfl) (I.S.o 99 rfl rfl rfl) (em) ?_
              refine Go_iconst (v := 1) (pc' := 49) dX12_pick_48 rfl (by decide) ?_
              refine Go_isub (pc' := 50) dX12_pick_49 rfl ?_
              refine Go_iaload (n := 8) (v := (vi h 82 (n - 1))) (pc' := 51) dX12_pick_50 rfl (I.S.b 133 rfl rfl) (I.S.k 133 rfl rfl rfl) (by exact inR_m1 (by omega) (by omega) (by decide)) ((congrArg (vi _ _) (ix_m1 (show 0 < n by omega) (by omega))).trans ((ep (n - 1) (by omega)))) ?_
              refine Go_icmp_gtZ (X := _) (Y := _) (tgt := 57) (pc' := 54) dX12_pick_51 (by decide) rfl rfl rfl (fun c51 => ?_) (fun c51 => ?_)
              · refine Go_aload_n (pc' := 58) dX12_pick_57 rfl rfl rfl ?_
                refine Go_getRs (pc' := 61) dX12_pick_58 rfl kf_RX12_120 (by decide) (by decide) rfl (I.S.b 99 rfl rfl) (I.S.o 99 rfl rfl rfl) (I.S.r 99 50 rfl rfl rfl) ?_
                refine Go_aload_n (pc' := 62) dX12_pick_61 rfl rfl rfl ?_
                refine Go_getIv (v := (nI n)) (pc' := 65) dX12_pick_62 rfl kf_RX12_382 (by decide) (by decide) rfl (I.S.b 99 rfl rfl) (I.S.o 99 rfl rfl rfl) (em) ?_
                refine Go_iload_n (pc' := 66) dX12_pick_65 rfl rfl rfl ?_
                refine Go_iastore (n := 8) (pc' := 67) dX12_pick_66 rfl (I.S.b 133 rfl rfl) (I.S.k 133 rfl rfl rfl) (by exact inR_nI (by omega) (by decide)) ?_
                rw [nI_clamp (show n < 2 ^ 31 by omega)]
                refine Go_aload_n (pc' := 68) dX12_pick_67 rfl rfl rfl ?_
                refine Go_dup (pc' := 69) dX12_pick_68 rfl rfl ?_
                refine Go_getIv (v := (nI n)) (pc' := 72) dX12_pick_69 rfl kf_RX12_382 (by decide) (by decide) rfl (I.S.b 99 rfl rfl) (I.S.o 99 rfl rfl rfl) ((vi_skip (Or.inl (by decide))).trans (em)) ?_
                refine Go_iconst (v := 1) (pc' := 73) dX12_pick_72 rfl (by decide) ?_
                refine Go_iadd (pc' := 74) dX12_pick_73 rfl ?_
                refine Go_putI (pc' := 77) dX12_pick_74 rfl kf_RX12_382 (by decide) (by decide) rfl (I.S.b 99 rfl rfl) (I.S.o 99 rfl rfl rfl) (Or.inl rfl) rfl rfl ?_
                refine Go_aload_n (pc' := 78) dX12_pick_77 rfl rfl rfl ?_
                refine Go_getIv (v := ((nI n) + 1)) (pc' := 81) dX12_pick_78 rfl kf_RX12_382 (by decide) (by decide) rfl (I.S.b 99 rfl rfl) (I.S.o 99 rfl rfl rfl) (vi_same) ?_
                refine Go_ireturn (ty := .int) dX12_pick_81 rfl rfl ?_
                exfalso; omega
              · refine Go_bipush (v := (-2)) (pc' := 56) dX12_pick_54 rfl (by decide) ?_
                refine Go_ireturn (ty := .int) dX12_pick_56 rfl rfl ?_
                exact k _ I
      · refine Go_aload_n (pc' := 6) dX12_pick_5 rfl rfl rfl ?_
        refine Go_iconst (v := 0) (pc' := 7) dX12_pick_6 rfl (by decide) ?_
        refine Go_putI (pc' := 10) dX12_pick_7 rfl kf_RX12_382 (by decide) (by decide) rfl (I.S.b 99 rfl rfl) (I.S.o 99 rfl rfl rfl) (Or.inl rfl) rfl rfl ?_
        refine Go_iconst (v := 0) (pc' := 11) dX12_pick_10 rfl (by decide) ?_
        refine Go_ireturn (ty := .int) dX12_pick_11 rfl rfl ?_
        exfalso; omega
theorem PairI.ro' {G : GC} {Mc Mm : MI} {As : List Value} (f : HS → Int32) (h : HS) (I : Inv h) (hc : ∀ K : Option Value → HS → Prop, K (some (.int (f h))) h → Go G 60 0 0 Mc 0 (.ref 64 :: As ++ List.replicate (Mc.2.2.2.1 - (As.length + 1)) un) [] h K)
    (hm : ∀ K : Option Value → HS → Prop, K (some (.int (f h))) h → Go G 60 0 0 Mm 0 (.ref 99 :: As ++ List.replicate (Mm.2.2.2.1 - (As.length + 1)) un) [] h K) : ∃ Q : Int32 → HS → Prop, (∀ K : Option Value → HS → Prop, (∀ r h1, Q r h1 → Shp h1 → K (some (.int r)) h1) → Go G 60 8 400 Mc 0 (.ref 64 :: As ++ List.replicate (Mc.2.2.2.1 - (As.length + 1)) un) [] h K) ∧
  ∀ r h1, Q r h1 → ∀ K : Option Value → HS → Prop, (∀ h2, Inv h2 → K (some (.int r)) h2) → Go G 60 0 0 Mm 0 (.ref 99 :: As ++ List.replicate (Mm.2.2.2.1 - (As.length + 1)) un) [] h1 K := by
  refine ⟨fun r h1 => r = f h ∧ h1 = h, fun K k => (hc K (k _ _ ⟨rfl, rfl⟩ I.S)).more (by omega) (by omega) (by omega), ?_⟩
  rintro r h1 ⟨rfl, rfl⟩ K k
  exact hm K (k h1 I)
set_option maxRecDepth 20000 in
set_option maxHeartbeats 1000000 in
theorem pair40 {G : GC} (a : Int32) : PairI G M_X11_look M_X12_look [.int a] := by
  intro h I
  obtain ⟨q, q', pr, hq, g1, g2, g3, gc, gm⟩ := I.G
  have hqb : 64 ≤ q ∧ q < 64 + hN h := by have := I.S.1; omega
  have hqo : (ki h q).1 = 8 := by rcases hq with ⟨rfl, -⟩ | ⟨rfl, -⟩ <;> exact I.S.o _ rfl rfl rfl
  refine PairI.ro' (fun h => if a.toInt = 0 then vi h 64 2 else if a.toInt = 1 then vi h 64 7 else if a.toInt = 2 then vi h 99 25 else if a.toInt = 3 then vi h 83 5 + vi h 89 5 else if a.toInt = 4 then vi h 81 1 else if a.toInt = 5 then vi h 95 3 else -1) h I (fun K k => ?_) (fun K k => ?_)
  · show Go G 60 0 0 M_X11_look 0 [.ref 64, .int a] [] h K
    refine Go_iload_n (pc' := 1) dX11_look_0 rfl rfl rfl ?_
    rcases (show a.toInt = 0 ∨ a.toInt = 1 ∨ a.toInt = 2 ∨ a.toInt = 3 ∨ a.toInt = 4 ∨ a.toInt = 5 ∨ (a.toInt < 0 ∨ 5 < a.toInt) by omega) with e1 | e1 | e1 | e1 | e1 | e1 | e1
    · refine Go_tableIn (off := 39) (tgt := 40) dX11_look_1 (by omega) (by omega) (by rw [e1]; rfl) (by decide) ?_
      refine Go_aload_n (pc' := 41) dX11_look_40 rfl rfl rfl ?_
      refine Go_getIv (v := (vi h 64 2)) (pc' := 44) dX11_look_41 rfl kf_RX11_84 (by decide) (by decide) rfl (I.S.b 64 rfl rfl) (I.S.o 64 rfl rfl rfl) rfl ?_
      refine Go_ireturn (ty := .int) dX11_look_44 rfl rfl ?_
      simpa [e1] using k
    · refine Go_tableIn (off := 44) (tgt := 45) dX11_look_1 (by omega) (by omega) (by rw [e1]; rfl) (by decide) ?_
      refine Go_aload_n (pc' := 46) dX11_look_45 rfl rfl rfl ?_
      refine Go_getIv (v := (vi h 64 7)) (pc' := 49) dX11_look_46 rfl kf_RX11_226 (by decide) (by decide) rfl (I.S.b 64 rfl rfl) (I.S.o 64 rfl rfl rfl) rfl ?_
      refine Go_ireturn (ty := .int) dX11_look_49 rfl rfl ?_
      simpa [e1] using k
    · refine Go_tableIn (off := 49) (tgt := 50) dX11_look_1 (by omega) (by omega) (by rw [e1]; rfl) (by decide) ?_
      refine Go_aload_n (pc' := 51) dX11_look_50 rfl rfl rfl ?_
      refine Go_getRs (pc' := 54) dX11_look_51 rfl kf_RX11_39 (by decide) (by decide) rfl (I.S.b 64 rfl rfl) (I.S.o 64 rfl rfl rfl) (I.S.r 64 5 rfl rfl rfl) ?_
      refine Go_getRs (pc' := 57) dX11_look_54 rfl kf_RX11_196 (by decide) (by decide) rfl (I.S.b 71 rfl rfl) (I.S.o 71 rfl rfl rfl) g1 ?_
      refine Go_getIv (v := (vi h 99 25)) (pc' := 60) dX11_look_57 rfl kf_RX11_217 (by decide) (by decide) rfl hqb hqo ((gc.2.1.trans gm.1.symm)) ?_
      refine Go_ireturn (ty := .int) dX11_look_60 rfl rfl ?_
      simpa [e1] using k
    · refine Go_tableIn (off := 60) (tgt := 61) dX11_look_1 (by omega) (by omega) (by rw [e1]; rfl) (by decide) ?_
      refine Go_aload_n (pc' := 62) dX11_look_61 rfl rfl rfl ?_
      refine Go_getRs (pc' := 65) dX11_look_62 rfl kf_RX11_66 (by decide) (by decide) rfl (I.S.b 64 rfl rfl) (I.S.o 64 rfl rfl rfl) (I.S.r 64 11 rfl rfl rfl) ?_
      refine Go_getIv (v := (vi h 83 5)) (pc' := 68) dX11_look_65 rfl kf_RX11_330 (by decide) (by decide) rfl (I.S.b 83 rfl rfl) (I.S.o 83 rfl rfl rfl) rfl ?_
      refine Go_aload_n (pc' := 69) dX11_look_68 rfl rfl rfl ?_
      refine Go_getRs (pc' := 72) dX11_look_69 rfl kf_RX11_70 (by decide) (by decide) rfl (I.S.b 64 rfl rfl) (I.S.o 64 rfl rfl rfl) (I.S.r 64 12 rfl rfl rfl) ?_
      refine Go_getIv (v := (vi h 89 5)) (pc' := 75) dX11_look_72 rfl kf_RX11_330 (by decide) (by decide) rfl (I.S.b 89 rfl rfl) (I.S.o 89 rfl rfl rfl) rfl ?_
      refine Go_iadd (pc' := 76) dX11_look_75 rfl ?_
      refine Go_ireturn (ty := .int) dX11_look_76 rfl rfl ?_
      simpa [e1] using k
    · refine Go_tableIn (off := 76) (tgt := 77) dX11_look_1 (by omega) (by omega) (by rw [e1]; rfl) (by decide) ?_
      refine Go_aload_n (pc' := 78) dX11_look_77 rfl rfl rfl ?_
      refine Go_getRs (pc' := 81) dX11_look_78 rfl kf_RX11_59 (by decide) (by decide) rfl (I.S.b 64 rfl rfl) (I.S.o 64 rfl rfl rfl) (I.S.r 64 10 rfl rfl rfl) ?_
      refine Go_getIv (v := (vi h 81 1)) (pc' := 84) dX11_look_81 rfl kf_RX11_312 (by decide) (by decide) rfl (I.S.b 81 rfl rfl) (I.S.o 81 rfl rfl rfl) rfl ?_
      refine Go_ireturn (ty := .int) dX11_look_84 rfl rfl ?_
      simpa [e1] using k
    · refine Go_tableIn (off := 84) (tgt := 85) dX11_look_1 (by omega) (by omega) (by rw [e1]; rfl) (by decide) ?_
      refine Go_aload_n (pc' := 86) dX11_look_85 rfl rfl rfl ?_
      refine Go_getRs (pc' := 89) dX11_look_86 rfl kf_RX11_76 (by decide) (by decide) rfl (I.S.b 64 rfl rfl) (I.S.o 64 rfl rfl rfl) (I.S.r 64 13 rfl rfl rfl) ?_
      refine Go_getIv (v := (vi h 95 3)) (pc' := 92) dX11_look_89 rfl kf_RX11_342 (by decide) (by decide) rfl (I.S.b 95 rfl rfl) (I.S.o 95 rfl rfl rfl) rfl ?_
      refine Go_ireturn (ty := .int) dX11_look_92 rfl rfl ?_
      simpa [e1] using k
    · refine Go_tableOut (tgt := 93) dX11_look_1 (by omega) (by decide) ?_
      refine Go_iconst (v := (-1)) (pc' := 94) dX11_look_93 rfl (by decide) ?_
      refine Go_ireturn (ty := .int) dX11_look_94 rfl rfl ?_
      have z0 : ¬ a.toInt = 0 := by omega
      have z1 : ¬ a.toInt = 1 := by omega
      have z2 : ¬ a.toInt = 2 := by omega
      have z3 : ¬ a.toInt = 3 := by omega
      have z4 : ¬ a.toInt = 4 := by omega
      have z5 : ¬ a.toInt = 5 := by omega
      simpa [z0, z1, z2, z3, z4, z5] using k
  · show Go G 60 0 0 M_X12_look 0 [.ref 99, .int a] [] h K
    refine Go_iload_n (pc' := 1) dX12_look_0 rfl rfl rfl ?_
    rcases (show a.toInt = 0 ∨ a.toInt = 1 ∨ a.toInt = 2 ∨ a.toInt = 3 ∨ a.toInt = 4 ∨ a.toInt = 5 ∨ (a.toInt < 0 ∨ 5 < a.toInt) by omega) with e1 | e1 | e1 | e1 | e1 | e1 | e1
    · refine Go_tableIn (off := 39) (tgt := 40) dX12_look_1 (by omega) (by omega) (by rw [e1]; rfl) (by decide) ?_
      refine Go_aload_n (pc' := 41) dX12_look_40 rfl rfl rfl ?_
      refine Go_getIv (v := (vi h 64 2)) (pc' := 44) dX12_look_41 rfl kf_RX12_151 (by decide) (by decide) rfl (I.S.b 99 rfl rfl) (I.S.o 99 rfl rfl rfl) (I.C.1.1) ?_
      refine Go_ireturn (ty := .int) dX12_look_44 rfl rfl ?_
      simpa [e1] using k
    · refine Go_tableIn (off := 44) (tgt := 45) dX12_look_1 (by omega) (by omega) (by rw [e1]; rfl) (by decide) ?_
      refine Go_aload_n (pc' := 46) dX12_look_45 rfl rfl rfl ?_
      refine Go_getIv (v := (vi h 64 7)) (pc' := 49) dX12_look_46 rfl kf_RX12_336 (by decide) (by decide) rfl (I.S.b 99 rfl rfl) (I.S.o 99 rfl rfl rfl) (I.Q.1.1) ?_
      refine Go_ireturn (ty := .int) dX12_look_49 rfl rfl ?_
      simpa [e1] using k
    · refine Go_tableIn (off := 49) (tgt := 50) dX12_look_1 (by omega) (by omega) (by rw [e1]; rfl) (by decide) ?_
      refine Go_aload_n (pc' := 51) dX12_look_50 rfl rfl rfl ?_
      refine Go_getIv (v := (vi h 99 25)) (pc' := 54) dX12_look_51 rfl kf_RX12_326 (by decide) (by decide) rfl (I.S.b 99 rfl rfl) (I.S.o 99 rfl rfl rfl) rfl ?_
      refine Go_ireturn (ty := .int) dX12_look_54 rfl rfl ?_
      simpa [e1] using k
    · refine Go_tableIn (off := 54) (tgt := 55) dX12_look_1 (by omega) (by omega) (by rw [e1]; rfl) (by decide) ?_
      refine Go_aload_n (pc' := 56) dX12_look_55 rfl rfl rfl ?_
      refine Go_getRs (pc' := 59) dX12_look_56 rfl kf_RX12_123 (by decide) (by decide) rfl (I.S.b 99 rfl rfl) (I.S.o 99 rfl rfl rfl) (I.S.r 99 52 rfl rfl rfl) ?_
      refine Go_iconst (v := 0) (pc' := 60) dX12_look_59 rfl (by decide) ?_
      refine Go_iaload (n := 2) (v := (vi h 83 5)) (pc' := 61) dX12_look_60 rfl (I.S.b 134 rfl rfl) (I.S.k 134 rfl rfl rfl) (by exact ⟨by decide, by decide⟩) (I.E.1.1.symm) ?_
      refine Go_aload_n (pc' := 62) dX12_look_61 rfl rfl rfl ?_
      refine Go_getRs (pc' := 65) dX12_look_62 rfl kf_RX12_123 (by decide) (by decide) rfl (I.S.b 99 rfl rfl) (I.S.o 99 rfl rfl rfl) (I.S.r 99 52 rfl rfl rfl) ?_
      refine Go_iconst (v := 1) (pc' := 66) dX12_look_65 rfl (by decide) ?_
      refine Go_iaload (n := 2) (v := (vi h 89 5)) (pc' := 67) dX12_look_66 rfl (I.S.b 134 rfl rfl) (I.S.k 134 rfl rfl rfl) (by exact ⟨by decide, by decide⟩) (I.E.2.1.1.symm) ?_
      refine Go_iadd (pc' := 68) dX12_look_67 rfl ?_
      refine Go_ireturn (ty := .int) dX12_look_68 rfl rfl ?_
      simpa [e1] using k
    · refine Go_tableIn (off := 68) (tgt := 69) dX12_look_1 (by omega) (by omega) (by rw [e1]; rfl) (by decide) ?_
      refine Go_aload_n (pc' := 70) dX12_look_69 rfl rfl rfl ?_
      refine Go_getIv (v := (vi h 81 1)) (pc' := 73) dX12_look_70 rfl kf_RX12_382 (by decide) (by decide) rfl (I.S.b 99 rfl rfl) (I.S.o 99 rfl rfl rfl) (I.P.1.symm) ?_
      refine Go_ireturn (ty := .int) dX12_look_73 rfl rfl ?_
      simpa [e1] using k
    · refine Go_tableIn (off := 73) (tgt := 74) dX12_look_1 (by omega) (by omega) (by rw [e1]; rfl) (by decide) ?_
      refine Go_aload_n (pc' := 75) dX12_look_74 rfl rfl rfl ?_
      refine Go_getIv (v := (vi h 95 3)) (pc' := 78) dX12_look_75 rfl kf_RX12_400 (by decide) (by decide) rfl (I.S.b 99 rfl rfl) (I.S.o 99 rfl rfl rfl) (I.F.1.symm) ?_
      refine Go_ireturn (ty := .int) dX12_look_78 rfl rfl ?_
      simpa [e1] using k
    · refine Go_tableOut (tgt := 79) dX12_look_1 (by omega) (by decide) ?_
      refine Go_iconst (v := (-1)) (pc' := 80) dX12_look_79 rfl (by decide) ?_
      refine Go_ireturn (ty := .int) dX12_look_80 rfl rfl ?_
      have z0 : ¬ a.toInt = 0 := by omega
      have z1 : ¬ a.toInt = 1 := by omega
      have z2 : ¬ a.toInt = 2 := by omega
      have z3 : ¬ a.toInt = 3 := by omega
      have z4 : ¬ a.toInt = 4 := by omega
      have z5 : ¬ a.toInt = 5 := by omega
      simpa [z0, z1, z2, z3, z4, z5] using k
