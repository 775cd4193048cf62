/-! pairs: paper, write, ground -/
theorem imax_nI {a b : Nat} (ha : a < 2 ^ 31) (hb : b < 2 ^ 31) : imax (nI a) (nI b) = nI (max a b) := by
  unfold imax
  by_cases h : nI a < nI b
  · rw [if_pos h]; rw [nI_ltI ha hb] at h; rw [Nat.max_eq_right (by omega)]
  · rw [if_neg h]; rw [nI_ltI ha hb] at h; rw [Nat.max_eq_left (by omega)]
theorem CelD.put {h h2 : HS} {q j n t : Nat} {v : Int32} (hn : n ≤ 200) (ht : t ≤ n) (ht2 : t < 200) (old : ∀ i : Nat, (i : Int) < (nI n).toInt → vi h (q + 1) i = vi h 106 (200 * j + i) ∧ smpOK (vi h (q + 1) i)) (hv : smpOK v) (e8 : vi h2 q 8 = nI (max n (t + 1))) (e107 : vi h2 107 j = nI (max n (t + 1)))
    (es : ∀ i, vi h2 (q + 1) i = if i = t then v else vi h (q + 1) i) (em : ∀ i, i < 200 → vi h2 106 (200 * j + i) = if i = t then v else vi h 106 (200 * j + i)) : CelD h2 q j := by
  have e1 : (nI n).toInt = (n : Int) := i_nI (by omega)
  have e2 : (nI (max n (t + 1))).toInt = ((max n (t + 1) : Nat) : Int) := i_nI (by omega)
  refine ⟨⟨e8.trans e107.symm, ?_⟩, fun i hi => ?_⟩
  · rw [e8]; unfold rg; rw [e2]; omega
  · rw [e8, e2] at hi
    rw [es, em i (by omega)]
    by_cases q : i = t
    · rw [if_pos q, if_pos q]; exact ⟨rfl, hv⟩
    · rw [if_neg q, if_neg q]; exact old i (by omega)
theorem clip_eq {l y : Int32} (hl : rg l 10 999) : imax (-l) (imin l y) = if l < y then l else if y < -l then -l else y := by
  unfold rg at hl
  have en : (-l).toInt = -l.toInt := i_neg (by omega)
  unfold imax imin
  by_cases h1 : l < y
  · rw [if_pos h1, if_neg (show ¬ y < l by rw [i_lt] at h1 ⊢; omega), if_pos (by rw [i_lt, en]; omega)]
  · rw [if_neg h1]
    by_cases h2 : y < l
    · rw [if_pos h2]
      by_cases h3 : y < -l
      · rw [if_pos h3, if_neg (by rw [i_lt] at h3 ⊢; omega)]
      · rw [if_neg h3]
        by_cases h4 : -l < y
        · rw [if_pos h4]
        · rw [if_neg h4]; rw [i_eq]; rw [i_lt] at h3 h4; omega
    · rw [if_neg h2]
      have : l = y := by rw [i_eq]; rw [i_lt] at h1 h2; omega
      subst this
      rw [if_pos (by rw [i_lt, en]; omega), if_neg (by rw [i_lt, en]; omega)]
theorem clip_ok {l y : Int32} (hl : rg l 10 999) : smpOK (imax (-l) (imin l y)) := by
  rw [clip_eq hl]
  unfold rg at hl
  have en : (-l).toInt = -l.toInt := i_neg (by omega)
  refine Or.inr ?_
  by_cases h1 : l < y
  · rw [if_pos h1]; omega
  · rw [if_neg h1]
    by_cases h3 : y < -l
    · rw [if_pos h3]; omega
    · rw [if_neg h3]; rw [i_lt] at h1 h3; omega
set_option maxRecDepth 20000 in
set_option maxHeartbeats 1000000 in
theorem pair4 {G : GC} (a : Int32) : PairI G M_X11_paper M_X12_paper [.int a] := by
  intro h I
  rcases cel_cases I a with hn | ⟨j, q, rfl, hj6, hj, hq, CS, CV⟩
  · refine PairI.ro' (fun _ => -1) h I (fun K k => ?_) (fun K k => ?_)
    · show Go G 60 0 0 M_X11_paper 0 [.ref 64, .int a, un] [] h K
      refine Go_aload_n (pc' := 1) dX11_paper_0 rfl rfl rfl ?_
      refine Go_iload_n (pc' := 2) dX11_paper_1 rfl rfl rfl ?_
      refine Go_callV_r (pc' := 5) (As := [.int _]) (st := []) dX11_paper_2 rfl ok_X11_cellarOf km_RX11_90 (I.S.o 64 rfl rfl rfl) (I.S.b 64 rfl rfl) ⟨_, _, rfl⟩ rfl (Nat.le_of_ble_eq_true rfl) rfl rfl rfl (Nat.le_of_ble_eq_true rfl) (Nat.lt_succ_self _) ?_
      refine s_cellarOf0 I hn ?_
      refine ⟨none, rfl, ?_⟩
      refine Go_astore_nN (pc' := 6) (lv' := [.ref _, .int _, .null]) dX11_paper_5 rfl rfl (Nat.le_of_ble_eq_true rfl) rfl rfl ?_
      refine Go_aload_nN (pc' := 7) dX11_paper_6 rfl rfl rfl ?_
      refine Go_ifnonnullN (pc' := 10) dX11_paper_7 rfl ?_
      refine Go_iconst (v := (-1)) (pc' := 11) dX11_paper_10 rfl (by decide) ?_
      refine Go_goto (tgt := 18) dX11_paper_11 (by decide) ?_
      refine Go_ireturn (ty := .int) dX11_paper_18 rfl rfl ?_
      exact k
    · show Go G 60 0 0 M_X12_paper 0 [.ref 99, .int a, un] [] h K
      refine Go_aload_n (pc' := 1) dX12_paper_0 rfl rfl rfl ?_
      refine Go_iload_n (pc' := 2) dX12_paper_1 rfl rfl rfl ?_
      refine Go_callV_i (pc' := 5) (As := [.int _]) (st := []) dX12_paper_2 rfl ok_X12_isCellar km_RX12_158 (I.S.o 99 rfl rfl rfl) (I.S.b 99 rfl rfl) ⟨_, _, rfl⟩ rfl (Nat.le_of_ble_eq_true rfl) rfl rfl rfl (Nat.le_of_ble_eq_true rfl) (Nat.lt_succ_self _) ?_
      refine s_isCellar0 I.S I.C.1.1 I.C.1.2 hn ?_
      refine ⟨_, rfl, ?_⟩
      refine Go_if_neZ (X := (0)) (tgt := 10) (pc' := 8) dX12_paper_5 (by decide) rfl rfl (fun c5 => ?_) (fun c5 => ?_)
      · exact absurd c5 (by decide)
      · refine Go_iconst (v := (-1)) (pc' := 9) dX12_paper_8 rfl (by decide) ?_
        refine Go_ireturn (ty := .int) dX12_paper_9 rfl rfl ?_
        exact k
  · obtain ⟨cA, cB, cC, cD, cE, cF, cG⟩ := CV
    have hq0 := CS.1
    obtain ⟨n, hn200, en⟩ := of_rg (b := 200) cD.1.2
    have en2 : vi h 107 j = nI n := cD.1.1.symm.trans en
    have dn : (nI n).toInt = (n : Int) := i_nI (by omega)
    refine ⟨fun r h1 => r = nI n ∧ h1 = (wI (wI h q 8 0) q 11 0), fun K k => ?_, ?_⟩
    · refine Go.more (d := 60) (mc := 0) (ms := 0) ?_ (by omega) (by omega) (by omega)
      show Go G 60 0 0 M_X11_paper 0 [.ref 64, .int (nI j), un] [] h K
      refine Go_aload_n (pc' := 1) dX11_paper_0 rfl rfl rfl ?_
      refine Go_iload_n (pc' := 2) dX11_paper_1 rfl rfl rfl ?_
      refine Go_callV_r (pc' := 5) (As := [.int _]) (st := []) dX11_paper_2 rfl ok_X11_cellarOf km_RX11_90 (I.S.o 64 rfl rfl rfl) (I.S.b 64 rfl rfl) ⟨_, _, rfl⟩ rfl (Nat.le_of_ble_eq_true rfl) rfl rfl rfl (Nat.le_of_ble_eq_true rfl) (Nat.lt_succ_self _) ?_
      refine s_cellarOf1 I hj hq ?_
      refine ⟨some _, rfl, ?_⟩
      refine Go_astore_n (pc' := 6) (lv' := [.ref _, .int _, .ref _]) dX11_paper_5 rfl rfl (Nat.le_of_ble_eq_true rfl) rfl rfl ?_
      refine Go_aload_n (pc' := 7) dX11_paper_6 rfl rfl rfl ?_
      refine Go_ifnonnull (tgt := 14) dX11_paper_7 (by decide) ?_
      refine Go_aload_n (pc' := 15) dX11_paper_14 rfl rfl rfl ?_
      refine Go_callV_i (pc' := 18) (As := []) (st := []) dX11_paper_15 rfl ok_X2_newPaper km_RX11_118 CS.o CS.b ⟨_, _, rfl⟩ rfl (Nat.le_of_ble_eq_true rfl) rfl rfl rfl (Nat.le_of_ble_eq_true rfl) (Nat.lt_succ_self _) ?_
      refine Go_aload_n (pc' := 1) dX2_newPaper_0 rfl rfl rfl ?_
      refine Go_getIv (v := (nI n)) (pc' := 4) dX2_newPaper_1 rfl kf_RX2_58 (by decide) (by decide) rfl CS.b CS.o (en) ?_
      refine Go_istore_n (pc' := 5) (lv' := [.ref _, .int _]) dX2_newPaper_4 rfl rfl (Nat.le_of_ble_eq_true rfl) rfl rfl ?_
      refine Go_aload_n (pc' := 6) dX2_newPaper_5 rfl rfl rfl ?_
      refine Go_iconst (v := 0) (pc' := 7) dX2_newPaper_6 rfl (by decide) ?_
      refine Go_putI (pc' := 10) dX2_newPaper_7 rfl kf_RX2_58 (by decide) (by decide) rfl CS.b CS.o (Or.inl rfl) rfl rfl ?_
      refine Go_aload_n (pc' := 11) dX2_newPaper_10 rfl rfl rfl ?_
      refine Go_iconst (v := 0) (pc' := 12) dX2_newPaper_11 rfl (by decide) ?_
      refine Go_putI (pc' := 15) dX2_newPaper_12 rfl kf_RX2_61 (by decide) (by decide) rfl CS.b CS.o (Or.inl rfl) rfl rfl ?_
      refine Go_iload_n (pc' := 16) dX2_newPaper_15 rfl rfl rfl ?_
      refine Go_ireturn (ty := .int) dX2_newPaper_16 rfl rfl ?_
      refine ⟨_, rfl, ?_⟩
      refine Go_ireturn (ty := .int) dX11_paper_18 rfl rfl ?_
      exact k _ _ ⟨rfl, rfl⟩ I.S
    · rintro r h1 ⟨rfl, rfl⟩ K k
      show Go G 60 0 0 M_X12_paper 0 [.ref 99, .int (nI j), un] [] (wI (wI h q 8 0) q 11 0) K
      refine Go_aload_n (pc' := 1) dX12_paper_0 rfl rfl rfl ?_
      refine Go_iload_n (pc' := 2) dX12_paper_1 rfl rfl rfl ?_
      refine Go_callV_i (pc' := 5) (As := [.int _]) (st := []) dX12_paper_2 rfl ok_X12_isCellar km_RX12_158 (I.S.o 99 rfl rfl rfl) (I.S.b 99 rfl rfl) ⟨_, _, rfl⟩ rfl (Nat.le_of_ble_eq_true rfl) rfl rfl rfl (Nat.le_of_ble_eq_true rfl) (Nat.lt_succ_self _) ?_
      refine s_isCellar1 (n := vi h 64 2) I.S ((vi_skip (Or.inl (by omega))).trans ((vi_skip (Or.inl (by omega))).trans (I.C.1.1))) hj hj6 I.C.1.2.2 ?_
      refine ⟨_, rfl, ?_⟩
      refine Go_if_neZ (X := (1)) (tgt := 10) (pc' := 8) dX12_paper_5 (by decide) rfl rfl (fun c5 => ?_) (fun c5 => ?_)
      · refine Go_aload_n (pc' := 11) dX12_paper_10 rfl rfl rfl ?_
        refine Go_getRs (pc' := 14) dX12_paper_11 rfl kf_RX12_31 (by decide) (by decide) rfl (I.S.b 99 rfl rfl) (I.S.o 99 rfl rfl rfl) (I.S.r 99 8 rfl rfl rfl) ?_
        refine Go_iload_n (pc' := 15) dX12_paper_14 rfl rfl rfl ?_
        refine Go_iaload (n := 6) (v := (nI n)) (pc' := 16) dX12_paper_15 rfl (I.S.b 107 rfl rfl) (I.S.k 107 rfl rfl rfl) (by exact inR_nI (by omega) (by decide)) ((congrArg (vi _ _) (nI_clamp (show j < 2 ^ 31 by omega))).trans ((vi_skip (Or.inl (by omega))).trans ((vi_skip (Or.inl (by omega))).trans (en2)))) ?_
        refine Go_istore_n (pc' := 17) (lv' := [.ref _, .int _, .int _]) dX12_paper_16 rfl rfl (Nat.le_of_ble_eq_true rfl) rfl rfl ?_
        refine Go_aload_n (pc' := 18) dX12_paper_17 rfl rfl rfl ?_
        refine Go_getRs (pc' := 21) dX12_paper_18 rfl kf_RX12_31 (by decide) (by decide) rfl (I.S.b 99 rfl rfl) (I.S.o 99 rfl rfl rfl) (I.S.r 99 8 rfl rfl rfl) ?_
        refine Go_iload_n (pc' := 22) dX12_paper_21 rfl rfl rfl ?_
        refine Go_iconst (v := 0) (pc' := 23) dX12_paper_22 rfl (by decide) ?_
        refine Go_iastore (n := 6) (pc' := 24) dX12_paper_23 rfl (I.S.b 107 rfl rfl) (I.S.k 107 rfl rfl rfl) (by exact inR_nI (by omega) (by decide)) ?_
        rw [nI_clamp (show j < 2 ^ 31 by omega)]
        refine Go_aload_n (pc' := 25) dX12_paper_24 rfl rfl rfl ?_
        refine Go_getRs (pc' := 28) dX12_paper_25 rfl kf_RX12_40 (by decide) (by decide) rfl (I.S.b 99 rfl rfl) (I.S.o 99 rfl rfl rfl) (I.S.r 99 11 rfl rfl rfl) ?_
        refine Go_iload_n (pc' := 29) dX12_paper_28 rfl rfl rfl ?_
        refine Go_iconst (v := 0) (pc' := 30) dX12_paper_29 rfl (by decide) ?_
        refine Go_iastore (n := 6) (pc' := 31) dX12_paper_30 rfl (I.S.b 110 rfl rfl) (I.S.k 110 rfl rfl rfl) (by exact inR_nI (by omega) (by decide)) ?_
        rw [nI_clamp (show j < 2 ^ 31 by omega)]
        refine Go_iload_n (pc' := 32) dX12_paper_31 rfl rfl rfl ?_
        refine Go_ireturn (ty := .int) dX12_paper_32 rfl rfl ?_
        exact k _ (I.cel hj hq CS (((((Dif.rf _ _ _).wI (by unfold OwnW; omega)).wI (by unfold OwnW; omega)).wI (by unfold OwnW; omega)).wI (by unfold OwnW; omega)) ⟨cA.fr (((((SameP.rf _ _).wI (by unfold fA; omega)).wI (by unfold fA; omega)).wI (by unfold fA; omega)).wI (by unfold fA; omega)), cB.fr (((((SameP.rf _ _).wI (by unfold fB; omega)).wI (by unfold fB; omega)).wI (by unfold fB; omega)).wI (by unfold fB; omega)), cC.fr (((((SameP.rf _ _).wI (by unfold fC; omega)).wI (by unfold fC; omega)).wI (by unfold fC; omega)).wI (by unfold fC; omega)), ⟨⟨(((vi_skip (Or.inl (by omega))).trans ((vi_skip (Or.inl (by omega))).trans ((vi_skip (Or.inr (by decide))).trans (vi_same)))).trans ((vi_skip (Or.inl (by decide))).trans (vi_same)).symm), by rw [((vi_skip (Or.inl (by omega))).trans ((vi_skip (Or.inl (by omega))).trans ((vi_skip (Or.inr (by decide))).trans (vi_same))))]; exact ⟨by decide, by decide⟩⟩, (fun i hi => by rw [((vi_skip (Or.inl (by omega))).trans ((vi_skip (Or.inl (by omega))).trans ((vi_skip (Or.inr (by decide))).trans (vi_same))))] at hi; exact absurd hi (by show ¬ _ < (0 : Int); omega))⟩, ⟨⟨(((vi_skip (Or.inl (by omega))).trans ((vi_skip (Or.inl (by omega))).trans (vi_same))).trans (vi_same).symm), by rw [((vi_skip (Or.inl (by omega))).trans ((vi_skip (Or.inl (by omega))).trans (vi_same)))]; exact ⟨by decide, by decide⟩⟩, (fun i hi => by rw [((vi_skip (Or.inl (by omega))).trans ((vi_skip (Or.inl (by omega))).trans (vi_same)))] at hi; exact absurd hi (by show ¬ _ < (0 : Int); omega)), (fun i hi => by rw [((vi_skip (Or.inl (by omega))).trans ((vi_skip (Or.inl (by omega))).trans (vi_same)))] at hi; exact absurd hi (by show ¬ _ < (0 : Int); omega))⟩, cF.fr (((((SameP.rf _ _).wI (by unfold fF; omega)).wI (by unfold fF; omega)).wI (by unfold fF; omega)).wI (by unfold fF; omega)), cG.fr (((((SameP.rf _ _).wI (by unfold fG; omega)).wI (by unfold fG; omega)).wI (by unfold fG; omega)).wI (by unfold fG; omega))⟩)
      · exact absurd c5 (by decide)
set_option maxRecDepth 20000 in
set_option maxHeartbeats 1000000 in
theorem pair3 {G : GC} (a b c : Int32) : PairI G M_X11_write M_X12_write [.int a, .int b, .int c] := by
  intro h I
  rcases cel_cases I a with hn | ⟨j, q, rfl, hj6, hj, hq, CS, CV⟩
  · refine PairI.ro' (fun _ => 0) h I (fun K k => ?_) (fun K k => ?_)
    · show Go G 60 0 0 M_X11_write 0 [.ref 64, .int a, .int b, .int c, un] [] h K
      refine Go_aload_n (pc' := 1) dX11_write_0 rfl rfl rfl ?_
      refine Go_iload_n (pc' := 2) dX11_write_1 rfl rfl rfl ?_
      refine Go_callV_r (pc' := 5) (As := [.int _]) (st := []) dX11_write_2 rfl ok_X11_cellarOf km_RX11_90 (I.S.o 64 rfl rfl rfl) (I.S.b 64 rfl rfl) ⟨_, _, rfl⟩ rfl (Nat.le_of_ble_eq_true rfl) rfl rfl rfl (Nat.le_of_ble_eq_true rfl) (Nat.lt_succ_self _) ?_
      refine s_cellarOf0 I hn ?_
      refine ⟨none, rfl, ?_⟩
      refine Go_astoreN (pc' := 7) (lv' := [.ref _, .int _, .int _, .int _, .null]) dX11_write_5 rfl (Nat.le_of_ble_eq_true rfl) rfl rfl ?_
      refine Go_aloadN (pc' := 9) dX11_write_7 rfl rfl ?_
      refine Go_ifnullN (tgt := 31) dX11_write_9 (by decide) ?_
      refine Go_iconst (v := 0) (pc' := 32) dX11_write_31 rfl (by decide) ?_
      refine Go_ireturn (ty := .boolean) dX11_write_32 rfl rfl ?_
      exact k
    · show Go G 60 0 0 M_X12_write 0 [.ref 99, .int a, .int b, .int c] [] h K
      refine Go_aload_n (pc' := 1) dX12_write_0 rfl rfl rfl ?_
      refine Go_iload_n (pc' := 2) dX12_write_1 rfl rfl rfl ?_
      refine Go_callV_i (pc' := 5) (As := [.int _]) (st := []) dX12_write_2 rfl ok_X12_isCellar km_RX12_158 (I.S.o 99 rfl rfl rfl) (I.S.b 99 rfl rfl) ⟨_, _, rfl⟩ rfl (Nat.le_of_ble_eq_true rfl) rfl rfl rfl (Nat.le_of_ble_eq_true rfl) (Nat.lt_succ_self _) ?_
      refine s_isCellar0 I.S I.C.1.1 I.C.1.2 hn ?_
      refine ⟨_, rfl, ?_⟩
      refine Go_if_eqZ (X := (0)) (tgt := 48) (pc' := 8) dX12_write_5 (by decide) rfl rfl (fun c5 => ?_) (fun c5 => ?_)
      · refine Go_iconst (v := 0) (pc' := 49) dX12_write_48 rfl (by decide) ?_
        refine Go_ireturn (ty := .boolean) dX12_write_49 rfl rfl ?_
        exact k
      · exact absurd c5 (by decide)
  · obtain ⟨cA, cB, cC, cD, cE, cF, cG⟩ := CV
    have hq0 := CS.1
    obtain ⟨n, hn200, en⟩ := of_rg (b := 200) cD.1.2
    have en2 : vi h 107 j = nI n := cD.1.1.symm.trans en
    have dn : (nI n).toInt = (n : Int) := i_nI (by omega)
    by_cases hb : (c.toInt = -1000000000 ∨ (-999 ≤ c.toInt ∧ c.toInt ≤ 999)) ∧ 0 ≤ b.toInt ∧ b.toInt ≤ n ∧ b.toInt < 200
    · obtain ⟨t, ht, rfl⟩ : ∃ t : Nat, t < 200 ∧ b = nI t := ⟨b.toInt.toNat, by omega, i_nat hb.2.1⟩
      have et : (nI t).toInt = (t : Int) := i_nI (by omega)
      rw [et] at hb
      have hok : smpOK c := hb.1.elim (fun z => Or.inl (by rw [i_eq]; exact z)) (fun z => Or.inr z)
      refine ⟨fun r h1 => r = 1 ∧ h1 = (wI (wI h (q + 1) t c) q 8 (nI (max n (t + 1)))), fun K k => ?_, ?_⟩
      · refine Go.more (d := 60) (mc := 0) (ms := 0) ?_ (by omega) (by omega) (by omega)
        show Go G 60 0 0 M_X11_write 0 [.ref 64, .int (nI j), .int (nI t), .int c, un] [] h K
        refine Go_aload_n (pc' := 1) dX11_write_0 rfl rfl rfl ?_
        refine Go_iload_n (pc' := 2) dX11_write_1 rfl rfl rfl ?_
        refine Go_callV_r (pc' := 5) (As := [.int _]) (st := []) dX11_write_2 rfl ok_X11_cellarOf km_RX11_90 (I.S.o 64 rfl rfl rfl) (I.S.b 64 rfl rfl) ⟨_, _, rfl⟩ rfl (Nat.le_of_ble_eq_true rfl) rfl rfl rfl (Nat.le_of_ble_eq_true rfl) (Nat.lt_succ_self _) ?_
        refine s_cellarOf1 I hj hq ?_
        refine ⟨some _, rfl, ?_⟩
        refine Go_astore (pc' := 7) (lv' := [.ref _, .int _, .int _, .int _, .ref _]) dX11_write_5 rfl (Nat.le_of_ble_eq_true rfl) rfl rfl ?_
        refine Go_aload (pc' := 9) dX11_write_7 rfl rfl ?_
        refine Go_ifnull (pc' := 12) dX11_write_9 rfl ?_
        refine Go_iload_n (pc' := 13) dX11_write_12 rfl rfl rfl ?_
        refine Go_ldc (pc' := 15) dX11_write_13 rfl kn_RX11_110 ?_
        refine Go_icmp_eqZ (X := _) (Y := (-1000000000)) (tgt := 33) (pc' := 18) dX11_write_15 (by decide) rfl rfl rfl (fun c15 => ?_) (fun c15 => ?_)
        · refine Go_aload (pc' := 35) dX11_write_33 rfl rfl ?_
          refine Go_iload_n (pc' := 36) dX11_write_35 rfl rfl rfl ?_
          refine Go_iload_n (pc' := 37) dX11_write_36 rfl rfl rfl ?_
          refine Go_callV_i (pc' := 40) (As := [.int _, .int _]) (st := []) dX11_write_37 rfl ok_X2_tell km_RX11_115 CS.o CS.b ⟨_, _, rfl⟩ rfl (Nat.le_of_ble_eq_true rfl) rfl rfl rfl (Nat.le_of_ble_eq_true rfl) (Nat.lt_succ_self _) ?_
          refine Go_iload_n (pc' := 1) dX2_tell_0 rfl rfl rfl ?_
          refine Go_if_ltZ (X := ((t : Nat) : Int)) (tgt := 21) (pc' := 4) dX2_tell_1 (by decide) rfl (i_nI (by omega)) (fun d1 => ?_) (fun d1 => ?_)
          · refine Go_iconst (v := 0) (pc' := 22) dX2_tell_21 rfl (by decide) ?_
            refine Go_ireturn (ty := .boolean) dX2_tell_22 rfl rfl ?_
            refine ⟨_, rfl, ?_⟩
            refine Go_ireturn (ty := .boolean) dX11_write_40 rfl rfl ?_
            exfalso; omega
          · refine Go_iload_n (pc' := 5) dX2_tell_4 rfl rfl rfl ?_
            refine Go_aload_n (pc' := 6) dX2_tell_5 rfl rfl rfl ?_
            refine Go_getIv (v := (nI n)) (pc' := 9) dX2_tell_6 rfl kf_RX2_58 (by decide) (by decide) rfl CS.b CS.o (en) ?_
            refine Go_icmp_gtZ (X := ((t : Nat) : Int)) (Y := ((n : Nat) : Int)) (tgt := 21) (pc' := 12) dX2_tell_9 (by decide) rfl (i_nI (by omega)) (i_nI (by omega)) (fun d9 => ?_) (fun d9 => ?_)
            · refine Go_iconst (v := 0) (pc' := 22) dX2_tell_21 rfl (by decide) ?_
              refine Go_ireturn (ty := .boolean) dX2_tell_22 rfl rfl ?_
              refine ⟨_, rfl, ?_⟩
              refine Go_ireturn (ty := .boolean) dX11_write_40 rfl rfl ?_
              exfalso; omega
            · refine Go_iload_n (pc' := 13) dX2_tell_12 rfl rfl rfl ?_
              refine Go_aload_n (pc' := 14) dX2_tell_13 rfl rfl rfl ?_
              refine Go_getRs (pc' := 17) dX2_tell_14 rfl kf_RX2_27 (by decide) (by decide) rfl CS.b CS.o CS.r7 ?_
              refine Go_alen (n := 200) (v := 200) (pc' := 18) dX2_tell_17 rfl CS.b1 CS.k1 (Or.inl rfl) rfl ?_
              refine Go_icmp_ltZ (X := ((t : Nat) : Int)) (Y := (200)) (tgt := 23) (pc' := 21) dX2_tell_18 (by decide) rfl (i_nI (by omega)) rfl (fun d18 => ?_) (fun d18 => ?_)
              · refine Go_aload_n (pc' := 24) dX2_tell_23 rfl rfl rfl ?_
                refine Go_getRs (pc' := 27) dX2_tell_24 rfl kf_RX2_27 (by decide) (by decide) rfl CS.b CS.o CS.r7 ?_
                refine Go_iload_n (pc' := 28) dX2_tell_27 rfl rfl rfl ?_
                refine Go_iload_n (pc' := 29) dX2_tell_28 rfl rfl rfl ?_
                refine Go_iastore (n := 200) (pc' := 30) dX2_tell_29 rfl CS.b1 CS.k1 (by exact inR_nI (by omega) (by decide)) ?_
                rw [nI_clamp (show t < 2 ^ 31 by omega)]
                refine Go_aload_n (pc' := 31) dX2_tell_30 rfl rfl rfl ?_
                refine Go_aload_n (pc' := 32) dX2_tell_31 rfl rfl rfl ?_
                refine Go_getIv (v := (nI n)) (pc' := 35) dX2_tell_32 rfl kf_RX2_58 (by decide) (by decide) rfl CS.b CS.o ((vi_skip (Or.inl (by omega))).trans (en)) ?_
                refine Go_iload_n (pc' := 36) dX2_tell_35 rfl rfl rfl ?_
                refine Go_iconst (v := 1) (pc' := 37) dX2_tell_36 rfl (by decide) ?_
                refine Go_iadd (pc' := 38) dX2_tell_37 rfl ?_
                refine Go_callS_i (pc' := 41) (As := [.int _, .int _]) (st := [.ref _]) dX2_tell_38 rfl ok_J9_max_7cf53 km_RX2_55 rfl (Nat.le_of_ble_eq_true rfl) rfl rfl rfl (Nat.le_of_ble_eq_true rfl) (Nat.lt_succ_self _) ?_
                refine s_max ?_
                refine ⟨_, rfl, ?_⟩
                rw [show imax (nI n) (nI t + 1) = nI (max n (t + 1)) from by rw [nI_1]; exact imax_nI (by omega) (by omega)]
                refine Go_putI (pc' := 44) dX2_tell_41 rfl kf_RX2_58 (by decide) (by decide) rfl CS.b CS.o (Or.inl rfl) rfl rfl ?_
                refine Go_iconst (v := 1) (pc' := 45) dX2_tell_44 rfl (by decide) ?_
                refine Go_ireturn (ty := .boolean) dX2_tell_45 rfl rfl ?_
                refine ⟨_, rfl, ?_⟩
                refine Go_ireturn (ty := .boolean) dX11_write_40 rfl rfl ?_
                exact k _ _ ⟨rfl, rfl⟩ I.S
              · refine Go_iconst (v := 0) (pc' := 22) dX2_tell_21 rfl (by decide) ?_
                refine Go_ireturn (ty := .boolean) dX2_tell_22 rfl rfl ?_
                refine ⟨_, rfl, ?_⟩
                refine Go_ireturn (ty := .boolean) dX11_write_40 rfl rfl ?_
                exfalso; omega
        · refine Go_iload_n (pc' := 19) dX11_write_18 rfl rfl rfl ?_
          refine Go_sipush (v := (-999)) (pc' := 22) dX11_write_19 rfl (by decide) ?_
          refine Go_sipush (v := 999) (pc' := 25) dX11_write_22 rfl (by decide) ?_
          refine Go_callS_i (pc' := 28) (As := [.int _, .int _, .int _]) (st := []) dX11_write_25 rfl ok_X11_within km_RX11_94 rfl (Nat.le_of_ble_eq_true rfl) rfl rfl rfl (Nat.le_of_ble_eq_true rfl) (Nat.lt_succ_self _) ?_
          refine s_withinZ (l := (-999)) (u := (999)) rfl rfl ?_
          refine ⟨_, rfl, ?_⟩
          refine Go_if_neb (tgt := 33) (pc' := 31) dX11_write_28 (by decide) rfl (fun c28 => ?_) (fun c28 => ?_)
          · refine Go_aload (pc' := 35) dX11_write_33 rfl rfl ?_
            refine Go_iload_n (pc' := 36) dX11_write_35 rfl rfl rfl ?_
            refine Go_iload_n (pc' := 37) dX11_write_36 rfl rfl rfl ?_
            refine Go_callV_i (pc' := 40) (As := [.int _, .int _]) (st := []) dX11_write_37 rfl ok_X2_tell km_RX11_115 CS.o CS.b ⟨_, _, rfl⟩ rfl (Nat.le_of_ble_eq_true rfl) rfl rfl rfl (Nat.le_of_ble_eq_true rfl) (Nat.lt_succ_self _) ?_
            refine Go_iload_n (pc' := 1) dX2_tell_0 rfl rfl rfl ?_
            refine Go_if_ltZ (X := ((t : Nat) : Int)) (tgt := 21) (pc' := 4) dX2_tell_1 (by decide) rfl (i_nI (by omega)) (fun d1 => ?_) (fun d1 => ?_)
            · refine Go_iconst (v := 0) (pc' := 22) dX2_tell_21 rfl (by decide) ?_
              refine Go_ireturn (ty := .boolean) dX2_tell_22 rfl rfl ?_
              refine ⟨_, rfl, ?_⟩
              refine Go_ireturn (ty := .boolean) dX11_write_40 rfl rfl ?_
              exfalso; omega
            · refine Go_iload_n (pc' := 5) dX2_tell_4 rfl rfl rfl ?_
              refine Go_aload_n (pc' := 6) dX2_tell_5 rfl rfl rfl ?_
              refine Go_getIv (v := (nI n)) (pc' := 9) dX2_tell_6 rfl kf_RX2_58 (by decide) (by decide) rfl CS.b CS.o (en) ?_
              refine Go_icmp_gtZ (X := ((t : Nat) : Int)) (Y := ((n : Nat) : Int)) (tgt := 21) (pc' := 12) dX2_tell_9 (by decide) rfl (i_nI (by omega)) (i_nI (by omega)) (fun d9 => ?_) (fun d9 => ?_)
              · refine Go_iconst (v := 0) (pc' := 22) dX2_tell_21 rfl (by decide) ?_
                refine Go_ireturn (ty := .boolean) dX2_tell_22 rfl rfl ?_
                refine ⟨_, rfl, ?_⟩
                refine Go_ireturn (ty := .boolean) dX11_write_40 rfl rfl ?_
                exfalso; omega
              · refine Go_iload_n (pc' := 13) dX2_tell_12 rfl rfl rfl ?_
                refine Go_aload_n (pc' := 14) dX2_tell_13 rfl rfl rfl ?_
                refine Go_getRs (pc' := 17) dX2_tell_14 rfl kf_RX2_27 (by decide) (by decide) rfl CS.b CS.o CS.r7 ?_
                refine Go_alen (n := 200) (v := 200) (pc' := 18) dX2_tell_17 rfl CS.b1 CS.k1 (Or.inl rfl) rfl ?_
                refine Go_icmp_ltZ (X := ((t : Nat) : Int)) (Y := (200)) (tgt := 23) (pc' := 21) dX2_tell_18 (by decide) rfl (i_nI (by omega)) rfl (fun d18 => ?_) (fun d18 => ?_)
                · refine Go_aload_n (pc' := 24) dX2_tell_23 rfl rfl rfl ?_
                  refine Go_getRs (pc' := 27) dX2_tell_24 rfl kf_RX2_27 (by decide) (by decide) rfl CS.b CS.o CS.r7 ?_
                  refine Go_iload_n (pc' := 28) dX2_tell_27 rfl rfl rfl ?_
                  refine Go_iload_n (pc' := 29) dX2_tell_28 rfl rfl rfl ?_
                  refine Go_iastore (n := 200) (pc' := 30) dX2_tell_29 rfl CS.b1 CS.k1 (by exact inR_nI (by omega) (by decide)) ?_
                  rw [nI_clamp (show t < 2 ^ 31 by omega)]
                  refine Go_aload_n (pc' := 31) dX2_tell_30 rfl rfl rfl ?_
                  refine Go_aload_n (pc' := 32) dX2_tell_31 rfl rfl rfl ?_
                  refine Go_getIv (v := (nI n)) (pc' := 35) dX2_tell_32 rfl kf_RX2_58 (by decide) (by decide) rfl CS.b CS.o ((vi_skip (Or.inl (by omega))).trans (en)) ?_
                  refine Go_iload_n (pc' := 36) dX2_tell_35 rfl rfl rfl ?_
                  refine Go_iconst (v := 1) (pc' := 37) dX2_tell_36 rfl (by decide) ?_
                  refine Go_iadd (pc' := 38) dX2_tell_37 rfl ?_
                  refine Go_callS_i (pc' := 41) (As := [.int _, .int _]) (st := [.ref _]) dX2_tell_38 rfl ok_J9_max_7cf53 km_RX2_55 rfl (Nat.le_of_ble_eq_true rfl) rfl rfl rfl (Nat.le_of_ble_eq_true rfl) (Nat.lt_succ_self _) ?_
                  refine s_max ?_
                  refine ⟨_, rfl, ?_⟩
                  rw [show imax (nI n) (nI t + 1) = nI (max n (t + 1)) from by rw [nI_1]; exact imax_nI (by omega) (by omega)]
                  refine Go_putI (pc' := 44) dX2_tell_41 rfl kf_RX2_58 (by decide) (by decide) rfl CS.b CS.o (Or.inl rfl) rfl rfl ?_
                  refine Go_iconst (v := 1) (pc' := 45) dX2_tell_44 rfl (by decide) ?_
                  refine Go_ireturn (ty := .boolean) dX2_tell_45 rfl rfl ?_
                  refine ⟨_, rfl, ?_⟩
                  refine Go_ireturn (ty := .boolean) dX11_write_40 rfl rfl ?_
                  exact k _ _ ⟨rfl, rfl⟩ I.S
                · refine Go_iconst (v := 0) (pc' := 22) dX2_tell_21 rfl (by decide) ?_
                  refine Go_ireturn (ty := .boolean) dX2_tell_22 rfl rfl ?_
                  refine ⟨_, rfl, ?_⟩
                  refine Go_ireturn (ty := .boolean) dX11_write_40 rfl rfl ?_
                  exfalso; omega
          · refine Go_iconst (v := 0) (pc' := 32) dX11_write_31 rfl (by decide) ?_
            refine Go_ireturn (ty := .boolean) dX11_write_32 rfl rfl ?_
            exfalso; omega
      · rintro r h1 ⟨rfl, rfl⟩ K k
        show Go G 60 0 0 M_X12_write 0 [.ref 99, .int (nI j), .int (nI t), .int c] [] (wI (wI h (q + 1) t c) q 8 (nI (max n (t + 1)))) K
        refine Go_aload_n (pc' := 1) dX12_write_0 rfl rfl rfl ?_
        refine Go_iload_n (pc' := 2) dX12_write_1 rfl rfl rfl ?_
        refine Go_callV_i (pc' := 5) (As := [.int _]) (st := []) dX12_write_2 rfl ok_X12_isCellar km_RX12_158 (I.S.o 99 rfl rfl rfl) (I.S.b 99 rfl rfl) ⟨_, _, rfl⟩ rfl (Nat.le_of_ble_eq_true rfl) rfl rfl rfl (Nat.le_of_ble_eq_true rfl) (Nat.lt_succ_self _) ?_
        refine s_isCellar1 (n := vi h 64 2) I.S ((vi_skip (Or.inl (by omega))).trans ((vi_skip (Or.inl (by omega))).trans (I.C.1.1))) hj hj6 I.C.1.2.2 ?_
        refine ⟨_, rfl, ?_⟩
        refine Go_if_eqZ (X := (1)) (tgt := 48) (pc' := 8) dX12_write_5 (by decide) rfl rfl (fun c5 => ?_) (fun c5 => ?_)
        · exact absurd c5 (by decide)
        · refine Go_iload_n (pc' := 9) dX12_write_8 rfl rfl rfl ?_
          refine Go_iconst (v := 0) (pc' := 10) dX12_write_9 rfl (by decide) ?_
          refine Go_aload_n (pc' := 11) dX12_write_10 rfl rfl rfl ?_
          refine Go_getRs (pc' := 14) dX12_write_11 rfl kf_RX12_31 (by decide) (by decide) rfl (I.S.b 99 rfl rfl) (I.S.o 99 rfl rfl rfl) (I.S.r 99 8 rfl rfl rfl) ?_
          refine Go_iload_n (pc' := 15) dX12_write_14 rfl rfl rfl ?_
          refine Go_iaload (n := 6) (v := (nI n)) (pc' := 16) dX12_write_15 rfl (I.S.b 107 rfl rfl) (I.S.k 107 rfl rfl rfl) (by exact inR_nI (by omega) (by decide)) ((congrArg (vi _ _) (nI_clamp (show j < 2 ^ 31 by omega))).trans ((vi_skip (Or.inl (by omega))).trans ((vi_skip (Or.inl (by omega))).trans (en2)))) ?_
          refine Go_callS_i (pc' := 19) (As := [.int _, .int _, .int _]) (st := []) dX12_write_16 rfl ok_X12_isIn km_RX12_147 rfl (Nat.le_of_ble_eq_true rfl) rfl rfl rfl (Nat.le_of_ble_eq_true rfl) (Nat.lt_succ_self _) ?_
          refine s_isInZ (l := (0)) rfl rfl ?_
          refine ⟨_, rfl, ?_⟩
          refine Go_if_eqb (tgt := 48) (pc' := 22) dX12_write_19 (by decide) rfl (fun c19 => ?_) (fun c19 => ?_)
          · refine Go_iconst (v := 0) (pc' := 49) dX12_write_48 rfl (by decide) ?_
            refine Go_ireturn (ty := .boolean) dX12_write_49 rfl rfl ?_
            exfalso; omega
          · refine Go_iload_n (pc' := 23) dX12_write_22 rfl rfl rfl ?_
            refine Go_sipush (v := 200) (pc' := 26) dX12_write_23 rfl (by decide) ?_
            refine Go_icmp_eqZ (X := ((t : Nat) : Int)) (Y := (200)) (tgt := 48) (pc' := 29) dX12_write_26 (by decide) rfl (i_nI (by omega)) rfl (fun c26 => ?_) (fun c26 => ?_)
            · refine Go_iconst (v := 0) (pc' := 49) dX12_write_48 rfl (by decide) ?_
              refine Go_ireturn (ty := .boolean) dX12_write_49 rfl rfl ?_
              exfalso; omega
            · refine Go_iload_n (pc' := 30) dX12_write_29 rfl rfl rfl ?_
              refine Go_ldc (pc' := 32) dX12_write_30 rfl kn_RX12_162 ?_
              refine Go_icmp_eqZ (X := _) (Y := (-1000000000)) (tgt := 50) (pc' := 35) dX12_write_32 (by decide) rfl rfl rfl (fun c32 => ?_) (fun c32 => ?_)
              · refine Go_aload_n (pc' := 51) dX12_write_50 rfl rfl rfl ?_
                refine Go_getRs (pc' := 54) dX12_write_51 rfl kf_RX12_28 (by decide) (by decide) rfl (I.S.b 99 rfl rfl) (I.S.o 99 rfl rfl rfl) (I.S.r 99 7 rfl rfl rfl) ?_
                refine Go_sipush (v := 200) (pc' := 57) dX12_write_54 rfl (by decide) ?_
                refine Go_iload_n (pc' := 58) dX12_write_57 rfl rfl rfl ?_
                refine Go_imul (pc' := 59) dX12_write_58 rfl ?_
                rw [show (200 : Int32) * nI j = nI (200 * j) from pk_mul 200 j]
                refine Go_iload_n (pc' := 60) dX12_write_59 rfl rfl rfl ?_
                refine Go_iadd (pc' := 61) dX12_write_60 rfl ?_
                rw [nI_add]
                refine Go_iload_n (pc' := 62) dX12_write_61 rfl rfl rfl ?_
                refine Go_iastore (n := 1200) (pc' := 63) dX12_write_62 rfl (I.S.b 106 rfl rfl) (I.S.k 106 rfl rfl rfl) (by exact inR_nI (by omega) (by decide)) ?_
                rw [nI_clamp (show 200 * j + t < 2 ^ 31 by omega)]
                refine Go_aload_n (pc' := 64) dX12_write_63 rfl rfl rfl ?_
                refine Go_getRs (pc' := 67) dX12_write_64 rfl kf_RX12_31 (by decide) (by decide) rfl (I.S.b 99 rfl rfl) (I.S.o 99 rfl rfl rfl) (I.S.r 99 8 rfl rfl rfl) ?_
                refine Go_iload_n (pc' := 68) dX12_write_67 rfl rfl rfl ?_
                refine Go_iload_n (pc' := 69) dX12_write_68 rfl rfl rfl ?_
                refine Go_aload_n (pc' := 70) dX12_write_69 rfl rfl rfl ?_
                refine Go_getRs (pc' := 73) dX12_write_70 rfl kf_RX12_31 (by decide) (by decide) rfl (I.S.b 99 rfl rfl) (I.S.o 99 rfl rfl rfl) (I.S.r 99 8 rfl rfl rfl) ?_
                refine Go_iload_n (pc' := 74) dX12_write_73 rfl rfl rfl ?_
                refine Go_iaload (n := 6) (v := (nI n)) (pc' := 75) dX12_write_74 rfl (I.S.b 107 rfl rfl) (I.S.k 107 rfl rfl rfl) (by exact inR_nI (by omega) (by decide)) ((congrArg (vi _ _) (nI_clamp (show j < 2 ^ 31 by omega))).trans ((vi_skip (Or.inl (by decide))).trans ((vi_skip (Or.inl (by omega))).trans ((vi_skip (Or.inl (by omega))).trans (en2))))) ?_
                refine Go_icmp_neZ (X := ((t : Nat) : Int)) (Y := ((n : Nat) : Int)) (tgt := 84) (pc' := 78) dX12_write_75 (by decide) rfl (i_nI (by omega)) (i_nI (by omega)) (fun c75 => ?_) (fun c75 => ?_)
                · refine Go_aload_n (pc' := 85) dX12_write_84 rfl rfl rfl ?_
                  refine Go_getRs (pc' := 88) dX12_write_85 rfl kf_RX12_31 (by decide) (by decide) rfl (I.S.b 99 rfl rfl) (I.S.o 99 rfl rfl rfl) (I.S.r 99 8 rfl rfl rfl) ?_
                  refine Go_iload_n (pc' := 89) dX12_write_88 rfl rfl rfl ?_
                  refine Go_iaload (n := 6) (v := (nI n)) (pc' := 90) dX12_write_89 rfl (I.S.b 107 rfl rfl) (I.S.k 107 rfl rfl rfl) (by exact inR_nI (by omega) (by decide)) ((congrArg (vi _ _) (nI_clamp (show j < 2 ^ 31 by omega))).trans ((vi_skip (Or.inl (by decide))).trans ((vi_skip (Or.inl (by omega))).trans ((vi_skip (Or.inl (by omega))).trans (en2))))) ?_
                  refine Go_iastore (n := 6) (pc' := 91) dX12_write_90 rfl (I.S.b 107 rfl rfl) (I.S.k 107 rfl rfl rfl) (by exact inR_nI (by omega) (by decide)) ?_
                  rw [nI_clamp (show j < 2 ^ 31 by omega)]
                  refine Go_iconst (v := 1) (pc' := 92) dX12_write_91 rfl (by decide) ?_
                  refine Go_ireturn (ty := .boolean) dX12_write_92 rfl rfl ?_
                  refine k _ (I.cel hj hq CS (((((Dif.rf _ _ _).wI (by unfold OwnW; omega)).wI (by unfold OwnW; omega)).wI (by unfold OwnW; omega)).wI (by unfold OwnW; omega)) ⟨cA.fr (((((SameP.rf _ _).wI (by unfold fA; omega)).wI (by unfold fA; omega)).wI (by unfold fA; omega)).wI (by unfold fA; omega)), cB.fr (((((SameP.rf _ _).wI (by unfold fB; omega)).wI (by unfold fB; omega)).wI (by unfold fB; omega)).wI (by unfold fB; omega)), cC.fr (((((SameP.rf _ _).wI (by unfold fC; omega)).wI (by unfold fC; omega)).wI (by unfold fC; omega)).wI (by unfold fC; omega)), CelD.put (n := n) (t := t) (v := c) hn200 (by omega) ht (by rw [← en]; exact cD.2) hok ((vi_skip (Or.inl (by omega))).trans ((vi_skip (Or.inl (by omega))).trans (vi_same))) ?_ (fun i => ?_) (fun i hi => ?_), cE.fr (((((SameP.rf _ _).wI (by unfold fE; omega)).wI (by unfold fE; omega)).wI (by unfold fE; omega)).wI (by unfold fE; omega)), cF.fr (((((SameP.rf _ _).wI (by unfold fF; omega)).wI (by unfold fF; omega)).wI (by unfold fF; omega)).wI (by unfold fF; omega)), cG.fr (((((SameP.rf _ _).wI (by unfold fG; omega)).wI (by unfold fG; omega)).wI (by unfold fG; omega)).wI (by unfold fG; omega))⟩)
                  · rw [show vi (wI (wI (wI (wI h (q + 1) t c) q 8 (nI (max n (t + 1)))) 106 (200 * j + t) c) 107 j (nI n)) 107 j = (nI n) from (vi_same)]; congr 1; omega
                  · by_cases z : i = t
                    · subst z; rw [if_pos rfl]; exact ((vi_skip (Or.inl (by omega))).trans ((vi_skip (Or.inl (by omega))).trans ((vi_skip (Or.inl (by omega))).trans (vi_same))))
                    · rw [if_neg z]; exact ((vi_skip (Or.inl (by omega))).trans ((vi_skip (Or.inl (by omega))).trans ((vi_skip (Or.inl (by omega))).trans (vi_skip (Or.inr (by exact z))))))
                  · by_cases z : i = t
                    · subst z; rw [if_pos rfl]; exact ((vi_skip (Or.inl (by decide))).trans (vi_same))
                    · rw [if_neg z]; exact ((vi_skip (Or.inl (by omega))).trans ((vi_skip (Or.inr (by omega))).trans ((vi_skip (Or.inl (by omega))).trans (vi_skip (Or.inl (by omega))))))
                · refine Go_iload_n (pc' := 79) dX12_write_78 rfl rfl rfl ?_
                  refine Go_iconst (v := 1) (pc' := 80) dX12_write_79 rfl (by decide) ?_
                  refine Go_iadd (pc' := 81) dX12_write_80 rfl ?_
                  rw [nI_1]
                  refine Go_goto (tgt := 90) dX12_write_81 (by decide) ?_
                  refine Go_iastore (n := 6) (pc' := 91) dX12_write_90 rfl (I.S.b 107 rfl rfl) (I.S.k 107 rfl rfl rfl) (by exact inR_nI (by omega) (by decide)) ?_
                  rw [nI_clamp (show j < 2 ^ 31 by omega)]
                  refine Go_iconst (v := 1) (pc' := 92) dX12_write_91 rfl (by decide) ?_
                  refine Go_ireturn (ty := .boolean) dX12_write_92 rfl rfl ?_
                  refine k _ (I.cel hj hq CS (((((Dif.rf _ _ _).wI (by unfold OwnW; omega)).wI (by unfold OwnW; omega)).wI (by unfold OwnW; omega)).wI (by unfold OwnW; omega)) ⟨cA.fr (((((SameP.rf _ _).wI (by unfold fA; omega)).wI (by unfold fA; omega)).wI (by unfold fA; omega)).wI (by unfold fA; omega)), cB.fr (((((SameP.rf _ _).wI (by unfold fB; omega)).wI (by unfold fB; omega)).wI (by unfold fB; omega)).wI (by unfold fB; omega)), cC.fr (((((SameP.rf _ _).wI (by unfold fC; omega)).wI (by unfold fC; omega)).wI (by unfold fC; omega)).wI (by unfold fC; omega)), CelD.put (n := n) (t := t) (v := c) hn200 (by omega) ht (by rw [← en]; exact cD.2) hok ((vi_skip (Or.inl (by omega))).trans ((vi_skip (Or.inl (by omega))).trans (vi_same))) ?_ (fun i => ?_) (fun i hi => ?_), cE.fr (((((SameP.rf _ _).wI (by unfold fE; omega)).wI (by unfold fE; omega)).wI (by unfold fE; omega)).wI (by unfold fE; omega)), cF.fr (((((SameP.rf _ _).wI (by unfold fF; omega)).wI (by unfold fF; omega)).wI (by unfold fF; omega)).wI (by unfold fF; omega)), cG.fr (((((SameP.rf _ _).wI (by unfold fG; omega)).wI (by unfold fG; omega)).wI (by unfold fG; omega)).wI (by unfold fG; omega))⟩)
                  · rw [show vi (wI (wI (wI (wI h (q + 1) t c) q 8 (nI (max n (t + 1)))) 106 (200 * j + t) c) 107 j (nI (t + 1))) 107 j = (nI (t + 1)) from (vi_same)]; congr 1; omega
                  · by_cases z : i = t
                    · subst z; rw [if_pos rfl]; exact ((vi_skip (Or.inl (by omega))).trans ((vi_skip (Or.inl (by omega))).trans ((vi_skip (Or.inl (by omega))).trans (vi_same))))
                    · rw [if_neg z]; exact ((vi_skip (Or.inl (by omega))).trans ((vi_skip (Or.inl (by omega))).trans ((vi_skip (Or.inl (by omega))).trans (vi_skip (Or.inr (by exact z))))))
                  · by_cases z : i = t
                    · subst z; rw [if_pos rfl]; exact ((vi_skip (Or.inl (by decide))).trans (vi_same))
                    · rw [if_neg z]; exact ((vi_skip (Or.inl (by omega))).trans ((vi_skip (Or.inr (by omega))).trans ((vi_skip (Or.inl (by omega))).trans (vi_skip (Or.inl (by omega))))))
              · refine Go_iload_n (pc' := 36) dX12_write_35 rfl rfl rfl ?_
                refine Go_sipush (v := (-999)) (pc' := 39) dX12_write_36 rfl (by decide) ?_
                refine Go_sipush (v := 999) (pc' := 42) dX12_write_39 rfl (by decide) ?_
                refine Go_callS_i (pc' := 45) (As := [.int _, .int _, .int _]) (st := []) dX12_write_42 rfl ok_X12_isIn km_RX12_147 rfl (Nat.le_of_ble_eq_true rfl) rfl rfl rfl (Nat.le_of_ble_eq_true rfl) (Nat.lt_succ_self _) ?_
                refine s_isInZ (l := (-999)) (u := (999)) rfl rfl ?_
                refine ⟨_, rfl, ?_⟩
                refine Go_if_neb (tgt := 50) (pc' := 48) dX12_write_45 (by decide) rfl (fun c45 => ?_) (fun c45 => ?_)
                · refine Go_aload_n (pc' := 51) dX12_write_50 rfl rfl rfl ?_
                  refine Go_getRs (pc' := 54) dX12_write_51 rfl kf_RX12_28 (by decide) (by decide) rfl (I.S.b 99 rfl rfl) (I.S.o 99 rfl rfl rfl) (I.S.r 99 7 rfl rfl rfl) ?_
                  refine Go_sipush (v := 200) (pc' := 57) dX12_write_54 rfl (by decide) ?_
                  refine Go_iload_n (pc' := 58) dX12_write_57 rfl rfl rfl ?_
                  refine Go_imul (pc' := 59) dX12_write_58 rfl ?_
                  rw [show (200 : Int32) * nI j = nI (200 * j) from pk_mul 200 j]
                  refine Go_iload_n (pc' := 60) dX12_write_59 rfl rfl rfl ?_
                  refine Go_iadd (pc' := 61) dX12_write_60 rfl ?_
                  rw [nI_add]
                  refine Go_iload_n (pc' := 62) dX12_write_61 rfl rfl rfl ?_
                  refine Go_iastore (n := 1200) (pc' := 63) dX12_write_62 rfl (I.S.b 106 rfl rfl) (I.S.k 106 rfl rfl rfl) (by exact inR_nI (by omega) (by decide)) ?_
                  rw [nI_clamp (show 200 * j + t < 2 ^ 31 by omega)]
                  refine Go_aload_n (pc' := 64) dX12_write_63 rfl rfl rfl ?_
                  refine Go_getRs (pc' := 67) dX12_write_64 rfl kf_RX12_31 (by decide) (by decide) rfl (I.S.b 99 rfl rfl) (I.S.o 99 rfl rfl rfl) (I.S.r 99 8 rfl rfl rfl) ?_
                  refine Go_iload_n (pc' := 68) dX12_write_67 rfl rfl rfl ?_
                  refine Go_iload_n (pc' := 69) dX12_write_68 rfl rfl rfl ?_
                  refine Go_aload_n (pc' := 70) dX12_write_69 rfl rfl rfl ?_
                  refine Go_getRs (pc' := 73) dX12_write_70 rfl kf_RX12_31 (by decide) (by decide) rfl (I.S.b 99 rfl rfl) (I.S.o 99 rfl rfl rfl) (I.S.r 99 8 rfl rfl rfl) ?_
                  refine Go_iload_n (pc' := 74) dX12_write_73 rfl rfl rfl ?_
                  refine Go_iaload (n := 6) (v := (nI n)) (pc' := 75) dX12_write_74 rfl (I.S.b 107 rfl rfl) (I.S.k 107 rfl rfl rfl) (by exact inR_nI (by omega) (by decide)) ((congrArg (vi _ _) (nI_clamp (show j < 2 ^ 31 by omega))).trans ((vi_skip (Or.inl (by decide))).trans ((vi_skip (Or.inl (by omega))).trans ((vi_skip (Or.inl (by omega))).trans (en2))))) ?_
                  refine Go_icmp_neZ (X := ((t : Nat) : Int)) (Y := ((n : Nat) : Int)) (tgt := 84) (pc' := 78) dX12_write_75 (by decide) rfl (i_nI (by omega)) (i_nI (by omega)) (fun c75 => ?_) (fun c75 => ?_)
                  · refine Go_aload_n (pc' := 85) dX12_write_84 rfl rfl rfl ?_
                    refine Go_getRs (pc' := 88) dX12_write_85 rfl kf_RX12_31 (by decide) (by decide) rfl (I.S.b 99 rfl rfl) (I.S.o 99 rfl rfl rfl) (I.S.r 99 8 rfl rfl rfl) ?_
                    refine Go_iload_n (pc' := 89) dX12_write_88 rfl rfl rfl ?_
                    refine Go_iaload (n := 6) (v := (nI n)) (pc' := 90) dX12_write_89 rfl (I.S.b 107 rfl rfl) (I.S.k 107 rfl rfl rfl) (by exact inR_nI (by omega) (by decide)) ((congrArg (vi _ _) (nI_clamp (show j < 2 ^ 31 by omega))).trans ((vi_skip (Or.inl (by decide))).trans ((vi_skip (Or.inl (by omega))).trans ((vi_skip (Or.inl (by omega))).trans (en2))))) ?_
                    refine Go_iastore (n := 6) (pc' := 91) dX12_write_90 rfl (I.S.b 107 rfl rfl) (I.S.k 107 rfl rfl rfl) (by exact inR_nI (by omega) (by decide)) ?_
                    rw [nI_clamp (show j < 2 ^ 31 by omega)]
                    refine Go_iconst (v := 1) (pc' := 92) dX12_write_91 rfl (by decide) ?_
                    refine Go_ireturn (ty := .boolean) dX12_write_92 rfl rfl ?_
                    refine k _ (I.cel hj hq CS (((((Dif.rf _ _ _).wI (by unfold OwnW; omega)).wI (by unfold OwnW; omega)).wI (by unfold OwnW; omega)).wI (by unfold OwnW; omega)) ⟨cA.fr (((((SameP.rf _ _).wI (by unfold fA; omega)).wI (by unfold fA; omega)).wI (by unfold fA; omega)).wI (by unfold fA; omega)), cB.fr (((((SameP.rf _ _).wI (by unfold fB; omega)).wI (by unfold fB; omega)).wI (by unfold fB; omega)).wI (by unfold fB; omega)), cC.fr (((((SameP.rf _ _).wI (by unfold fC; omega)).wI (by unfold fC; omega)).wI (by unfold fC; omega)).wI (by unfold fC; omega)), CelD.put (n := n) (t := t) (v := c) hn200 (by omega) ht (by rw [← en]; exact cD.2) hok ((vi_skip (Or.inl (by omega))).trans ((vi_skip (Or.inl (by omega))).trans (vi_same))) ?_ (fun i => ?_) (fun i hi => ?_), cE.fr (((((SameP.rf _ _).wI (by unfold fE; omega)).wI (by unfold fE; omega)).wI (by unfold fE; omega)).wI (by unfold fE; omega)), cF.fr (((((SameP.rf _ _).wI (by unfold fF; omega)).wI (by unfold fF; omega)).wI (by unfold fF; omega)).wI (by unfold fF; omega)), cG.fr (((((SameP.rf _ _).wI (by unfold fG; omega)).wI (by unfold fG; omega)).wI (by unfold fG; omega)).wI (by unfold fG; omega))⟩)
                    · rw [show vi (wI (wI (wI (wI h (q + 1) t c) q 8 (nI (max n (t + 1)))) 106 (200 * j + t) c) 107 j (nI n)) 107 j = (nI n) from (vi_same)]; congr 1; omega
                    · by_cases z : i = t
                      · subst z; rw [if_pos rfl]; exact ((vi_skip (Or.inl (by omega))).trans ((vi_skip (Or.inl (by omega))).trans ((vi_skip (Or.inl (by omega))).trans (vi_same))))
                      · rw [if_neg z]; exact ((vi_skip (Or.inl (by omega))).trans ((vi_skip (Or.inl (by omega))).trans ((vi_skip (Or.inl (by omega))).trans (vi_skip (Or.inr (by exact z))))))
                    · by_cases z : i = t
                      · subst z; rw [if_pos rfl]; exact ((vi_skip (Or.inl (by decide))).trans (vi_same))
                      · rw [if_neg z]; exact ((vi_skip (Or.inl (by omega))).trans ((vi_skip (Or.inr (by omega))).trans ((vi_skip (Or.inl (by omega))).trans (vi_skip (Or.inl (by omega))))))
                  · refine Go_iload_n (pc' := 79) dX12_write_78 rfl rfl rfl ?_
                    refine Go_iconst (v := 1) (pc' := 80) dX12_write_79 rfl (by decide) ?_
                    refine Go_iadd (pc' := 81) dX12_write_80 rfl ?_
                    rw [nI_1]
                    refine Go_goto (tgt := 90) dX12_write_81 (by decide) ?_
                    refine Go_iastore (n := 6) (pc' := 91) dX12_write_90 rfl (I.S.b 107 rfl rfl) (I.S.k 107 rfl rfl rfl) (by exact inR_nI (by omega) (by decide)) ?_
                    rw [nI_clamp (show j < 2 ^ 31 by omega)]
                    refine Go_iconst (v := 1) (pc' := 92) dX12_write_91 rfl (by decide) ?_
                    refine Go_ireturn (ty := .boolean) dX12_write_92 rfl rfl ?_
                    refine k _ (I.cel hj hq CS (((((Dif.rf _ _ _).wI (by unfold OwnW; omega)).wI (by unfold OwnW; omega)).wI (by unfold OwnW; omega)).wI (by unfold OwnW; omega)) ⟨cA.fr (((((SameP.rf _ _).wI (by unfold fA; omega)).wI (by unfold fA; omega)).wI (by unfold fA; omega)).wI (by unfold fA; omega)), cB.fr (((((SameP.rf _ _).wI (by unfold fB; omega)).wI (by unfold fB; omega)).wI (by unfold fB; omega)).wI (by unfold fB; omega)), cC.fr (((((SameP.rf _ _).wI (by unfold fC; omega)).wI (by unfold fC; omega)).wI (by unfold fC; omega)).wI (by unfold fC; omega)), CelD.put (n := n) (t := t) (v := c) hn200 (by omega) ht (by rw [← en]; exact cD.2) hok ((vi_skip (Or.inl (by omega))).trans ((vi_skip (Or.inl (by omega))).trans (vi_same))) ?_ (fun i => ?_) (fun i hi => ?_), cE.fr (((((SameP.rf _ _).wI (by unfold fE; omega)).wI (by unfold fE; omega)).wI (by unfold fE; omega)).wI (by unfold fE; omega)), cF.fr (((((SameP.rf _ _).wI (by unfold fF; omega)).wI (by unfold fF; omega)).wI (by unfold fF; omega)).wI (by unfold fF; omega)), cG.fr (((((SameP.rf _ _).wI (by unfold fG; omega)).wI (by unfold fG; omega)).wI (by unfold fG; omega)).wI (by unfold fG; omega))⟩)
                    · rw [show vi (wI (wI (wI (wI h (q + 1) t c) q 8 (nI (max n (t + 1)))) 106 (200 * j + t) c) 107 j (nI (t + 1))) 107 j = (nI (t + 1)) from (vi_same)]; congr 1; omega
                    · by_cases z : i = t
                      · subst z; rw [if_pos rfl]; exact ((vi_skip (Or.inl (by omega))).trans ((vi_skip (Or.inl (by omega))).trans ((vi_skip (Or.inl (by omega))).trans (vi_same))))
                      · rw [if_neg z]; exact ((vi_skip (Or.inl (by omega))).trans ((vi_skip (Or.inl (by omega))).trans ((vi_skip (Or.inl (by omega))).trans (vi_skip (Or.inr (by exact z))))))
                    · by_cases z : i = t
                      · subst z; rw [if_pos rfl]; exact ((vi_skip (Or.inl (by decide))).trans (vi_same))
                      · rw [if_neg z]; exact ((vi_skip (Or.inl (by omega))).trans ((vi_skip (Or.inr (by omega))).trans ((vi_skip (Or.inl (by omega))).trans (vi_skip (Or.inl (by omega))))))
                · refine Go_iconst (v := 0) (pc' := 49) dX12_write_48 rfl (by decide) ?_
                  refine Go_ireturn (ty := .boolean) dX12_write_49 rfl rfl ?_
                  exfalso; omega
    · refine PairI.ro' (fun _ => 0) h I (fun K k => ?_) (fun K k => ?_)
      · show Go G 60 0 0 M_X11_write 0 [.ref 64, .int (nI j), .int b, .int c, un] [] h K
        refine Go_aload_n (pc' := 1) dX11_write_0 rfl rfl rfl ?_
        refine Go_iload_n (pc' := 2) dX11_write_1 rfl rfl rfl ?_
        refine Go_callV_r (pc' := 5) (As := [.int _]) (st := []) dX11_write_2 rfl ok_X11_cellarOf km_RX11_90 (I.S.o 64 rfl rfl rfl) (I.S.b 64 rfl rfl) ⟨_, _, rfl⟩ rfl (Nat.le_of_ble_eq_true rfl) rfl rfl rfl (Nat.le_of_ble_eq_true rfl) (Nat.lt_succ_self _) ?_
        refine s_cellarOf1 I hj hq ?_
        refine ⟨some _, rfl, ?_⟩
        refine Go_astore (pc' := 7) (lv' := [.ref _, .int _, .int _, .int _, .ref _]) dX11_write_5 rfl (Nat.le_of_ble_eq_true rfl) rfl rfl ?_
        refine Go_aload (pc' := 9) dX11_write_7 rfl rfl ?_
        refine Go_ifnull (pc' := 12) dX11_write_9 rfl ?_
        refine Go_iload_n (pc' := 13) dX11_write_12 rfl rfl rfl ?_
        refine Go_ldc (pc' := 15) dX11_write_13 rfl kn_RX11_110 ?_
        refine Go_icmp_eqZ (X := _) (Y := (-1000000000)) (tgt := 33) (pc' := 18) dX11_write_15 (by decide) rfl rfl rfl (fun c15 => ?_) (fun c15 => ?_)
        · refine Go_aload (pc' := 35) dX11_write_33 rfl rfl ?_
          refine Go_iload_n (pc' := 36) dX11_write_35 rfl rfl rfl ?_
          refine Go_iload_n (pc' := 37) dX11_write_36 rfl rfl rfl ?_
          refine Go_callV_i (pc' := 40) (As := [.int _, .int _]) (st := []) dX11_write_37 rfl ok_X2_tell km_RX11_115 CS.o CS.b ⟨_, _, rfl⟩ rfl (Nat.le_of_ble_eq_true rfl) rfl rfl rfl (Nat.le_of_ble_eq_true rfl) (Nat.lt_succ_self _) ?_
          refine Go_iload_n (pc' := 1) dX2_tell_0 rfl rfl rfl ?_
          refine Go_if_ltZ (X := _) (tgt := 21) (pc' := 4) dX2_tell_1 (by decide) rfl rfl (fun d1 => ?_) (fun d1 => ?_)
          · refine Go_iconst (v := 0) (pc' := 22) dX2_tell_21 rfl (by decide) ?_
            refine Go_ireturn (ty := .boolean) dX2_tell_22 rfl rfl ?_
            refine ⟨_, rfl, ?_⟩
            refine Go_ireturn (ty := .boolean) dX11_write_40 rfl rfl ?_
            exact k
          · refine Go_iload_n (pc' := 5) dX2_tell_4 rfl rfl rfl ?_
            refine Go_aload_n (pc' := 6) dX2_tell_5 rfl rfl rfl ?_
            refine Go_getIv (v := (nI n)) (pc' := 9) dX2_tell_6 rfl kf_RX2_58 (by decide) (by decide) rfl CS.b CS.o (en) ?_
            refine Go_icmp_gtZ (X := _) (Y := ((n : Nat) : Int)) (tgt := 21) (pc' := 12) dX2_tell_9 (by decide) rfl rfl (i_nI (by omega)) (fun d9 => ?_) (fun d9 => ?_)
            · refine Go_iconst (v := 0) (pc' := 22) dX2_tell_21 rfl (by decide) ?_
              refine Go_ireturn (ty := .boolean) dX2_tell_22 rfl rfl ?_
              refine ⟨_, rfl, ?_⟩
              refine Go_ireturn (ty := .boolean) dX11_write_40 rfl rfl ?_
              exact k
            · refine Go_iload_n (pc' := 13) dX2_tell_12 rfl rfl rfl ?_
              refine Go_aload_n (pc' := 14) dX2_tell_13 rfl rfl rfl ?_
              refine Go_getRs (pc' := 17) dX2_tell_14 rfl kf_RX2_27 (by decide) (by decide) rfl CS.b CS.o CS.r7 ?_
              refine Go_alen (n := 200) (v := 200) (pc' := 18) dX2_tell_17 rfl CS.b1 CS.k1 (Or.inl rfl) rfl ?_
              refine Go_icmp_ltZ (X := _) (Y := (200)) (tgt := 23) (pc' := 21) dX2_tell_18 (by decide) rfl rfl rfl (fun d18 => ?_) (fun d18 => ?_)
              · exfalso; omega
              · refine Go_iconst (v := 0) (pc' := 22) dX2_tell_21 rfl (by decide) ?_
                refine Go_ireturn (ty := .boolean) dX2_tell_22 rfl rfl ?_
                refine ⟨_, rfl, ?_⟩
                refine Go_ireturn (ty := .boolean) dX11_write_40 rfl rfl ?_
                exact k
        · refine Go_iload_n (pc' := 19) dX11_write_18 rfl rfl rfl ?_
          refine Go_sipush (v := (-999)) (pc' := 22) dX11_write_19 rfl (by decide) ?_
          refine Go_sipush (v := 999) (pc' := 25) dX11_write_22 rfl (by decide) ?_
          refine Go_callS_i (pc' := 28) (As := [.int _, .int _, .int _]) (st := []) dX11_write_25 rfl ok_X11_within km_RX11_94 rfl (Nat.le_of_ble_eq_true rfl) rfl rfl rfl (Nat.le_of_ble_eq_true rfl) (Nat.lt_succ_self _) ?_
          refine s_withinZ (l := (-999)) (u := (999)) rfl rfl ?_
          refine ⟨_, rfl, ?_⟩
          refine Go_if_neb (tgt := 33) (pc' := 31) dX11_write_28 (by decide) rfl (fun c28 => ?_) (fun c28 => ?_)
          · refine Go_aload (pc' := 35) dX11_write_33 rfl rfl ?_
            refine Go_iload_n (pc' := 36) dX11_write_35 rfl rfl rfl ?_
            refine Go_iload_n (pc' := 37) dX11_write_36 rfl rfl rfl ?_
            refine Go_callV_i (pc' := 40) (As := [.int _, .int _]) (st := []) dX11_write_37 rfl ok_X2_tell km_RX11_115 CS.o CS.b ⟨_, _, rfl⟩ rfl (Nat.le_of_ble_eq_true rfl) rfl rfl rfl (Nat.le_of_ble_eq_true rfl) (Nat.lt_succ_self _) ?_
            refine Go_iload_n (pc' := 1) dX2_tell_0 rfl rfl rfl ?_
            refine Go_if_ltZ (X := _) (tgt := 21) (pc' := 4) dX2_tell_1 (by decide) rfl rfl (fun d1 => ?_) (fun d1 => ?_)
            · refine Go_iconst (v := 0) (pc' := 22) dX2_tell_21 rfl (by decide) ?_
              refine Go_ireturn (ty := .boolean) dX2_tell_22 rfl rfl ?_
              refine ⟨_, rfl, ?_⟩
              refine Go_ireturn (ty := .boolean) dX11_write_40 rfl rfl ?_
              exact k
            · refine Go_iload_n (pc' := 5) dX2_tell_4 rfl rfl rfl ?_
              refine Go_aload_n (pc' := 6) dX2_tell_5 rfl rfl rfl ?_
              refine Go_getIv (v := (nI n)) (pc' := 9) dX2_tell_6 rfl kf_RX2_58 (by decide) (by decide) rfl CS.b CS.o (en) ?_
              refine Go_icmp_gtZ (X := _) (Y := ((n : Nat) : Int)) (tgt := 21) (pc' := 12) dX2_tell_9 (by decide) rfl rfl (i_nI (by omega)) (fun d9 => ?_) (fun d9 => ?_)
              · refine Go_iconst (v := 0) (pc' := 22) dX2_tell_21 rfl (by decide) ?_
                refine Go_ireturn (ty := .boolean) dX2_tell_22 rfl rfl ?_
                refine ⟨_, rfl, ?_⟩
                refine Go_ireturn (ty := .boolean) dX11_write_40 rfl rfl ?_
                exact k
              · refine Go_iload_n (pc' := 13) dX2_tell_12 rfl rfl rfl ?_
                refine Go_aload_n (pc' := 14) dX2_tell_13 rfl rfl rfl ?_
                refine Go_getRs (pc' := 17) dX2_tell_14 rfl kf_RX2_27 (by decide) (by decide) rfl CS.b CS.o CS.r7 ?_
                refine Go_alen (n := 200) (v := 200) (pc' := 18) dX2_tell_17 rfl CS.b1 CS.k1 (Or.inl rfl) rfl ?_
                refine Go_icmp_ltZ (X := _) (Y := (200)) (tgt := 23) (pc' := 21) dX2_tell_18 (by decide) rfl rfl rfl (fun d18 => ?_) (fun d18 => ?_)
                · exfalso; omega
                · refine Go_iconst (v := 0) (pc' := 22) dX2_tell_21 rfl (by decide) ?_
                  refine Go_ireturn (ty := .boolean) dX2_tell_22 rfl rfl ?_
                  refine ⟨_, rfl, ?_⟩
                  refine Go_ireturn (ty := .boolean) dX11_write_40 rfl rfl ?_
                  exact k
          · refine Go_iconst (v := 0) (pc' := 32) dX11_write_31 rfl (by decide) ?_
            refine Go_ireturn (ty := .boolean) dX11_write_32 rfl rfl ?_
            exact k
      · show Go G 60 0 0 M_X12_write 0 [.ref 99, .int (nI j), .int b, .int c] [] h K
        refine Go_aload_n (pc' := 1) dX12_write_0 rfl rfl rfl ?_
        refine Go_iload_n (pc' := 2) dX12_write_1 rfl rfl rfl ?_
        refine Go_callV_i (pc' := 5) (As := [.int _]) (st := []) dX12_write_2 rfl ok_X12_isCellar km_RX12_158 (I.S.o 99 rfl rfl rfl) (I.S.b 99 rfl rfl) ⟨_, _, rfl⟩ rfl (Nat.le_of_ble_eq_true rfl) rfl rfl rfl (Nat.le_of_ble_eq_true rfl) (Nat.lt_succ_self _) ?_
        refine s_isCellar1 (n := vi h 64 2) I.S (I.C.1.1) hj hj6 I.C.1.2.2 ?_
        refine ⟨_, rfl, ?_⟩
        refine Go_if_eqZ (X := (1)) (tgt := 48) (pc' := 8) dX12_write_5 (by decide) rfl rfl (fun c5 => ?_) (fun c5 => ?_)
        · exact absurd c5 (by decide)
        · refine Go_iload_n (pc' := 9) dX12_write_8 rfl rfl rfl ?_
          refine Go_iconst (v := 0) (pc' := 10) dX12_write_9 rfl (by decide) ?_
          refine Go_aload_n (pc' := 11) dX12_write_10 rfl rfl rfl ?_
          refine Go_getRs (pc' := 14) dX12_write_11 rfl kf_RX12_31 (by decide) (by decide) rfl (I.S.b 99 rfl rfl) (I.S.o 99 rfl rfl rfl) (I.S.r 99 8 rfl rfl rfl) ?_
          refine Go_iload_n (pc' := 15) dX12_write_14 rfl rfl rfl ?_
          refine Go_iaload (n := 6) (v := (nI n)) (pc' := 16) dX12_write_15 rfl (I.S.b 107 rfl rfl) (I.S.k 107 rfl rfl rfl) (by exact inR_nI (by omega) (by decide)) ((congrArg (vi _ _) (nI_clamp (show j < 2 ^ 31 by omega))).trans (en2)) ?_
          refine Go_callS_i (pc' := 19) (As := [.int _, .int _, .int _]) (st := []) dX12_write_16 rfl ok_X12_isIn km_RX12_147 rfl (Nat.le_of_ble_eq_true rfl) rfl rfl rfl (Nat.le_of_ble_eq_true rfl) (Nat.lt_succ_self _) ?_
          refine s_isInZ (l := (0)) rfl rfl ?_
          refine ⟨_, rfl, ?_⟩
          refine Go_if_eqb (tgt := 48) (pc' := 22) dX12_write_19 (by decide) rfl (fun c19 => ?_) (fun c19 => ?_)
          · refine Go_iconst (v := 0) (pc' := 49) dX12_write_48 rfl (by decide) ?_
            refine Go_ireturn (ty := .boolean) dX12_write_49 rfl rfl ?_
            exact k
          · refine Go_iload_n (pc' := 23) dX12_write_22 rfl rfl rfl ?_
            refine Go_sipush (v := 200) (pc' := 26) dX12_write_23 rfl (by decide) ?_
            refine Go_icmp_eqZ (X := _) (Y := (200)) (tgt := 48) (pc' := 29) dX12_write_26 (by decide) rfl rfl rfl (fun c26 => ?_) (fun c26 => ?_)
            · refine Go_iconst (v := 0) (pc' := 49) dX12_write_48 rfl (by decide) ?_
              refine Go_ireturn (ty := .boolean) dX12_write_49 rfl rfl ?_
              exact k
            · refine Go_iload_n (pc' := 30) dX12_write_29 rfl rfl rfl ?_
              refine Go_ldc (pc' := 32) dX12_write_30 rfl kn_RX12_162 ?_
              refine Go_icmp_eqZ (X := _) (Y := (-1000000000)) (tgt := 50) (pc' := 35) dX12_write_32 (by decide) rfl rfl rfl (fun c32 => ?_) (fun c32 => ?_)
              · exfalso; omega
              · refine Go_iload_n (pc' := 36) dX12_write_35 rfl rfl rfl ?_
                refine Go_sipush (v := (-999)) (pc' := 39) dX12_write_36 rfl (by decide) ?_
                refine Go_sipush (v := 999) (pc' := 42) dX12_write_39 rfl (by decide) ?_
                refine Go_callS_i (pc' := 45) (As := [.int _, .int _, .int _]) (st := []) dX12_write_42 rfl ok_X12_isIn km_RX12_147 rfl (Nat.le_of_ble_eq_true rfl) rfl rfl rfl (Nat.le_of_ble_eq_true rfl) (Nat.lt_succ_self _) ?_
                refine s_isInZ (l := (-999)) (u := (999)) rfl rfl ?_
                refine ⟨_, rfl, ?_⟩
                refine Go_if_neb (tgt := 50) (pc' := 48) dX12_write_45 (by decide) rfl (fun c45 => ?_) (fun c45 => ?_)
                · exfalso; omega
                · refine Go_iconst (v := 0) (pc' := 49) dX12_write_48 rfl (by decide) ?_
                  refine Go_ireturn (ty := .boolean) dX12_write_49 rfl rfl ?_
                  exact k
set_option maxRecDepth 20000 in
set_option maxHeartbeats 1000000 in
theorem pair2 {G : GC} (a b : Int32) : PairI G M_X11_ground M_X12_ground [.int a, .int b] := by
  intro h I
  rcases cel_cases I a with hn | ⟨j, q, rfl, hj6, hj, hq, CS, CV⟩
  · refine PairI.ro' (fun _ => -1000000000) h I (fun K k => ?_) (fun K k => ?_)
    · show Go G 60 0 0 M_X11_ground 0 [.ref 64, .int a, .int b, un, un] [] h K
      refine Go_aload_n (pc' := 1) dX11_ground_0 rfl rfl rfl ?_
      refine Go_iload_n (pc' := 2) dX11_ground_1 rfl rfl rfl ?_
      refine Go_callV_r (pc' := 5) (As := [.int _]) (st := []) dX11_ground_2 rfl ok_X11_cellarOf km_RX11_90 (I.S.o 64 rfl rfl rfl) (I.S.b 64 rfl rfl) ⟨_, _, rfl⟩ rfl (Nat.le_of_ble_eq_true rfl) rfl rfl rfl (Nat.le_of_ble_eq_true rfl) (Nat.lt_succ_self _) ?_
      refine s_cellarOf0 I hn ?_
      refine ⟨none, rfl, ?_⟩
      refine Go_astore_nN (pc' := 6) (lv' := [.ref _, .int _, .int _, .null, un]) dX11_ground_5 rfl rfl (Nat.le_of_ble_eq_true rfl) rfl rfl ?_
      refine Go_aload_nN (pc' := 7) dX11_ground_6 rfl rfl rfl ?_
      refine Go_ifnullN (tgt := 33) dX11_ground_7 (by decide) ?_
      refine Go_ldc (pc' := 35) dX11_ground_33 rfl kn_RX11_110 ?_
      refine Go_ireturn (ty := .int) dX11_ground_35 rfl rfl ?_
      exact k
    · show Go G 60 0 0 M_X12_ground 0 [.ref 99, .int a, .int b, un] [] h K
      refine Go_aload_n (pc' := 1) dX12_ground_0 rfl rfl rfl ?_
      refine Go_iload_n (pc' := 2) dX12_ground_1 rfl rfl rfl ?_
      refine Go_callV_i (pc' := 5) (As := [.int _]) (st := []) dX12_ground_2 rfl ok_X12_isCellar km_RX12_158 (I.S.o 99 rfl rfl rfl) (I.S.b 99 rfl rfl) ⟨_, _, rfl⟩ rfl (Nat.le_of_ble_eq_true rfl) rfl rfl rfl (Nat.le_of_ble_eq_true rfl) (Nat.lt_succ_self _) ?_
      refine s_isCellar0 I.S I.C.1.1 I.C.1.2 hn ?_
      refine ⟨_, rfl, ?_⟩
      refine Go_if_eqZ (X := (0)) (tgt := 33) (pc' := 8) dX12_ground_5 (by decide) rfl rfl (fun c5 => ?_) (fun c5 => ?_)
      · refine Go_ldc (pc' := 35) dX12_ground_33 rfl kn_RX12_162 ?_
        refine Go_ireturn (ty := .int) dX12_ground_35 rfl rfl ?_
        exact k
      · exact absurd c5 (by decide)
  · obtain ⟨cA, cB, cC, cD, cE, cF, cG⟩ := CV
    have hq0 := CS.1
    obtain ⟨n, hn200, en⟩ := of_rg (b := 200) cD.1.2
    have en2 : vi h 107 j = nI n := cD.1.1.symm.trans en
    have dn : (nI n).toInt = (n : Int) := i_nI (by omega)
    refine ⟨fun r h1 => (((-9999 ≤ b.toInt ∧ b.toInt ≤ 9999) ∧ n < 200) ∧ r = (imax (-(vi h q 4)) (imin (vi h q 4) ((vi h q 5) + (((vi h q 6) + b) - ((((vi h q 2) * (vi h q 6)) + ((vi h q 3) * (vi h q 5))) / 64))))) ∧ h1 = (wI (wI (wI (wI h q 6 (((vi h q 6) + b) - ((((vi h q 2) * (vi h q 6)) + ((vi h q 3) * (vi h q 5))) / 64))) q 5 ((vi h q 5) + (((vi h q 6) + b) - ((((vi h q 2) * (vi h q 6)) + ((vi h q 3) * (vi h q 5))) / 64)))) (q + 1) n (imax (-(vi h q 4)) (imin (vi h q 4) ((vi h q 5) + (((vi h q 6) + b) - ((((vi h q 2) * (vi h q 6)) + ((vi h q 3) * (vi h q 5))) / 64)))))) q 8 (nI (n + 1)))) ∨ (¬ ((-9999 ≤ b.toInt ∧ b.toInt ≤ 9999) ∧ n < 200) ∧ r = -1000000000 ∧ h = h1), fun K k => ?_, ?_⟩
    · refine Go.more (d := 60) (mc := 0) (ms := 0) ?_ (by omega) (by omega) (by omega)
      show Go G 60 0 0 M_X11_ground 0 [.ref 64, .int (nI j), .int b, un, un] [] h K
      refine Go_aload_n (pc' := 1) dX11_ground_0 rfl rfl rfl ?_
      refine Go_iload_n (pc' := 2) dX11_ground_1 rfl rfl rfl ?_
      refine Go_callV_r (pc' := 5) (As := [.int _]) (st := []) dX11_ground_2 rfl ok_X11_cellarOf km_RX11_90 (I.S.o 64 rfl rfl rfl) (I.S.b 64 rfl rfl) ⟨_, _, rfl⟩ rfl (Nat.le_of_ble_eq_true rfl) rfl rfl rfl (Nat.le_of_ble_eq_true rfl) (Nat.lt_succ_self _) ?_
      refine s_cellarOf1 I hj hq ?_
      refine ⟨some _, rfl, ?_⟩
      refine Go_astore_n (pc' := 6) (lv' := [.ref _, .int _, .int _, .ref _, un]) dX11_ground_5 rfl rfl (Nat.le_of_ble_eq_true rfl) rfl rfl ?_
      refine Go_aload_n (pc' := 7) dX11_ground_6 rfl rfl rfl ?_
      refine Go_ifnull (pc' := 10) dX11_ground_7 rfl ?_
      refine Go_iload_n (pc' := 11) dX11_ground_10 rfl rfl rfl ?_
      refine Go_sipush (v := (-9999)) (pc' := 14) dX11_ground_11 rfl (by decide) ?_
      refine Go_sipush (v := 9999) (pc' := 17) dX11_ground_14 rfl (by decide) ?_
      refine Go_callS_i (pc' := 20) (As := [.int _, .int _, .int _]) (st := []) dX11_ground_17 rfl ok_X11_within km_RX11_94 rfl (Nat.le_of_ble_eq_true rfl) rfl rfl rfl (Nat.le_of_ble_eq_true rfl) (Nat.lt_succ_self _) ?_
      refine s_withinZ (l := (-9999)) (u := (9999)) rfl rfl ?_
      refine ⟨_, rfl, ?_⟩
      refine Go_if_eqb (tgt := 33) (pc' := 23) dX11_ground_20 (by decide) rfl (fun c20 => ?_) (fun c20 => ?_)
      · refine Go_ldc (pc' := 35) dX11_ground_33 rfl kn_RX11_110 ?_
        refine Go_ireturn (ty := .int) dX11_ground_35 rfl rfl ?_
        exact k _ _ (Or.inr ⟨by omega, rfl, rfl⟩) I.S
      · refine Go_aload_n (pc' := 24) dX11_ground_23 rfl rfl rfl ?_
        refine Go_getIv (v := (nI n)) (pc' := 27) dX11_ground_24 rfl kf_RX11_107 (by decide) (by decide) rfl CS.b CS.o (en) ?_
        refine Go_sipush (v := 200) (pc' := 30) dX11_ground_27 rfl (by decide) ?_
        refine Go_icmp_ltZ (X := ((n : Nat) : Int)) (Y := (200)) (tgt := 36) (pc' := 33) dX11_ground_30 (by decide) rfl (i_nI (by omega)) rfl (fun c30 => ?_) (fun c30 => ?_)
        · refine Go_aload_n (pc' := 37) dX11_ground_36 rfl rfl rfl ?_
          refine Go_iload_n (pc' := 38) dX11_ground_37 rfl rfl rfl ?_
          refine Go_callV_i (pc' := 41) (As := [.int _]) (st := []) dX11_ground_38 rfl ok_X2_step km_RX11_111 CS.o CS.b ⟨_, _, rfl⟩ rfl (Nat.le_of_ble_eq_true rfl) rfl rfl rfl (Nat.le_of_ble_eq_true rfl) (Nat.lt_succ_self _) ?_
          refine Go_aload_n (pc' := 1) dX2_step_0 rfl rfl rfl ?_
          refine Go_getIv (v := (vi h q 2)) (pc' := 4) dX2_step_1 rfl kf_RX2_18 (by decide) (by decide) rfl CS.b CS.o rfl ?_
          refine Go_aload_n (pc' := 5) dX2_step_4 rfl rfl rfl ?_
          refine Go_getIv (v := (vi h q 6)) (pc' := 8) dX2_step_5 rfl kf_RX2_43 (by decide) (by decide) rfl CS.b CS.o rfl ?_
          refine Go_imul (pc' := 9) dX2_step_8 rfl ?_
          refine Go_aload_n (pc' := 10) dX2_step_9 rfl rfl rfl ?_
          refine Go_getIv (v := (vi h q 3)) (pc' := 13) dX2_step_10 rfl kf_RX2_21 (by decide) (by decide) rfl CS.b CS.o rfl ?_
          refine Go_aload_n (pc' := 14) dX2_step_13 rfl rfl rfl ?_
          refine Go_getIv (v := (vi h q 5)) (pc' := 17) dX2_step_14 rfl kf_RX2_46 (by decide) (by decide) rfl CS.b CS.o rfl ?_
          refine Go_imul (pc' := 18) dX2_step_17 rfl ?_
          refine Go_iadd (pc' := 19) dX2_step_18 rfl ?_
          refine Go_bipush (v := 64) (pc' := 21) dX2_step_19 rfl (by decide) ?_
          refine Go_idiv (pc' := 22) dX2_step_21 rfl (by decide) ?_
          refine Go_istore_n (pc' := 23) (lv' := [.ref _, .int _, .int _]) dX2_step_22 rfl rfl (Nat.le_of_ble_eq_true rfl) rfl rfl ?_
          refine Go_aload_n (pc' := 24) dX2_step_23 rfl rfl rfl ?_
          refine Go_aload_n (pc' := 25) dX2_step_24 rfl rfl rfl ?_
          refine Go_getIv (v := (vi h q 6)) (pc' := 28) dX2_step_25 rfl kf_RX2_43 (by decide) (by decide) rfl CS.b CS.o rfl ?_
          refine Go_iload_n (pc' := 29) dX2_step_28 rfl rfl rfl ?_
          refine Go_iadd (pc' := 30) dX2_step_29 rfl ?_
          refine Go_iload_n (pc' := 31) dX2_step_30 rfl rfl rfl ?_
          refine Go_isub (pc' := 32) dX2_step_31 rfl ?_
          refine Go_putI (pc' := 35) dX2_step_32 rfl kf_RX2_43 (by decide) (by decide) rfl CS.b CS.o (Or.inl rfl) rfl rfl ?_
          refine Go_aload_n (pc' := 36) dX2_step_35 rfl rfl rfl ?_
          refine Go_aload_n (pc' := 37) dX2_step_36 rfl rfl rfl ?_
          refine Go_getIv (v := (vi h q 5)) (pc' := 40) dX2_step_37 rfl kf_RX2_46 (by decide) (by decide) rfl CS.b CS.o (vi_skip (Or.inr (by decide))) ?_
          refine Go_aload_n (pc' := 41) dX2_step_40 rfl rfl rfl ?_
          refine Go_getIv (v := (((vi h q 6) + b) - ((((vi h q 2) * (vi h q 6)) + ((vi h q 3) * (vi h q 5))) / 64))) (pc' := 44) dX2_step_41 rfl kf_RX2_43 (by decide) (by decide) rfl CS.b CS.o (vi_same) ?_
          refine Go_iadd (pc' := 45) dX2_step_44 rfl ?_
          refine Go_putI (pc' := 48) dX2_step_45 rfl kf_RX2_46 (by decide) (by decide) rfl CS.b CS.o (Or.inl rfl) rfl rfl ?_
          refine Go_aload_n (pc' := 49) dX2_step_48 rfl rfl rfl ?_
          refine Go_getIv (v := (vi h q 4)) (pc' := 52) dX2_step_49 rfl kf_RX2_24 (by decide) (by decide) rfl CS.b CS.o ((vi_skip (Or.inr (by decide))).trans (vi_skip (Or.inr (by decide)))) ?_
          refine Go_ineg (pc' := 53) dX2_step_52 rfl ?_
          refine Go_aload_n (pc' := 54) dX2_step_53 rfl rfl rfl ?_
          refine Go_getIv (v := (vi h q 4)) (pc' := 57) dX2_step_54 rfl kf_RX2_24 (by decide) (by decide) rfl CS.b CS.o ((vi_skip (Or.inr (by decide))).trans (vi_skip (Or.inr (by decide)))) ?_
          refine Go_aload_n (pc' := 58) dX2_step_57 rfl rfl rfl ?_
          refine Go_getIv (v := ((vi h q 5) + (((vi h q 6) + b) - ((((vi h q 2) * (vi h q 6)) + ((vi h q 3) * (vi h q 5))) / 64)))) (pc' := 61) dX2_step_58 rfl kf_RX2_46 (by decide) (by decide) rfl CS.b CS.o (vi_same) ?_
          refine Go_callS_i (pc' := 64) (As := [.int _, .int _]) (st := [.int _]) dX2_step_61 rfl ok_J9_min_7cf53 km_RX2_49 rfl (Nat.le_of_ble_eq_true rfl) rfl rfl rfl (Nat.le_of_ble_eq_true rfl) (Nat.lt_succ_self _) ?_
          refine s_min ?_
          refine ⟨_, rfl, ?_⟩
          refine Go_callS_i (pc' := 67) (As := [.int _, .int _]) (st := []) dX2_step_64 rfl ok_J9_max_7cf53 km_RX2_55 rfl (Nat.le_of_ble_eq_true rfl) rfl rfl rfl (Nat.le_of_ble_eq_true rfl) (Nat.lt_succ_self _) ?_
          refine s_max ?_
          refine ⟨_, rfl, ?_⟩
          refine Go_ireturn (ty := .int) dX2_step_67 rfl rfl ?_
          refine ⟨_, rfl, ?_⟩
          refine Go_istore (pc' := 43) (lv' := [.ref _, .int _, .int _, .ref _, .int _]) dX11_ground_41 rfl (Nat.le_of_ble_eq_true rfl) rfl rfl ?_
          refine Go_aload_n (pc' := 44) dX11_ground_43 rfl rfl rfl ?_
          refine Go_aload_n (pc' := 45) dX11_ground_44 rfl rfl rfl ?_
          refine Go_getIv (v := (nI n)) (pc' := 48) dX11_ground_45 rfl kf_RX11_107 (by decide) (by decide) rfl CS.b CS.o ((vi_skip (Or.inr (by decide))).trans ((vi_skip (Or.inr (by decide))).trans (en))) ?_
          refine Go_iload (pc' := 50) dX11_ground_48 rfl rfl ?_
          refine Go_callV_i (pc' := 53) (As := [.int _, .int _]) (st := []) dX11_ground_50 rfl ok_X2_tell km_RX11_115 CS.o CS.b ⟨_, _, rfl⟩ rfl (Nat.le_of_ble_eq_true rfl) rfl rfl rfl (Nat.le_of_ble_eq_true rfl) (Nat.lt_succ_self _) ?_
          refine Go_iload_n (pc' := 1) dX2_tell_0 rfl rfl rfl ?_
          refine Go_if_ltZ (X := ((n : Nat) : Int)) (tgt := 21) (pc' := 4) dX2_tell_1 (by decide) rfl (i_nI (by omega)) (fun t1 => ?_) (fun t1 => ?_)
          · refine Go_iconst (v := 0) (pc' := 22) dX2_tell_21 rfl (by decide) ?_
            refine Go_ireturn (ty := .boolean) dX2_tell_22 rfl rfl ?_
            refine ⟨_, rfl, ?_⟩
            refine Go_pop (pc' := 54) dX11_ground_53 rfl rfl ?_
            refine Go_iload (pc' := 56) dX11_ground_54 rfl rfl ?_
            refine Go_ireturn (ty := .int) dX11_ground_56 rfl rfl ?_
            exfalso; omega
          · refine Go_iload_n (pc' := 5) dX2_tell_4 rfl rfl rfl ?_
            refine Go_aload_n (pc' := 6) dX2_tell_5 rfl rfl rfl ?_
            refine Go_getIv (v := (nI n)) (pc' := 9) dX2_tell_6 rfl kf_RX2_58 (by decide) (by decide) rfl CS.b CS.o ((vi_skip (Or.inr (by decide))).trans ((vi_skip (Or.inr (by decide))).trans (en))) ?_
            refine Go_icmp_gtZ (X := ((n : Nat) : Int)) (Y := ((n : Nat) : Int)) (tgt := 21) (pc' := 12) dX2_tell_9 (by decide) rfl (i_nI (by omega)) (i_nI (by omega)) (fun t9 => ?_) (fun t9 => ?_)
            · refine Go_iconst (v := 0) (pc' := 22) dX2_tell_21 rfl (by decide) ?_
              refine Go_ireturn (ty := .boolean) dX2_tell_22 rfl rfl ?_
              refine ⟨_, rfl, ?_⟩
              refine Go_pop (pc' := 54) dX11_ground_53 rfl rfl ?_
              refine Go_iload (pc' := 56) dX11_ground_54 rfl rfl ?_
              refine Go_ireturn (ty := .int) dX11_ground_56 rfl rfl ?_
              exfalso; omega
            · refine Go_iload_n (pc' := 13) dX2_tell_12 rfl rfl rfl ?_
              refine Go_aload_n (pc' := 14) dX2_tell_13 rfl rfl rfl ?_
              refine Go_getRs (pc' := 17) dX2_tell_14 rfl kf_RX2_27 (by decide) (by decide) rfl CS.b CS.o CS.r7 ?_
              refine Go_alen (n := 200) (v := 200) (pc' := 18) dX2_tell_17 rfl CS.b1 CS.k1 (Or.inl rfl) rfl ?_
              refine Go_icmp_ltZ (X := ((n : Nat) : Int)) (Y := (200)) (tgt := 23) (pc' := 21) dX2_tell_18 (by decide) rfl (i_nI (by omega)) rfl (fun t18 => ?_) (fun t18 => ?_)
              · refine Go_aload_n (pc' := 24) dX2_tell_23 rfl rfl rfl ?_
                refine Go_getRs (pc' := 27) dX2_tell_24 rfl kf_RX2_27 (by decide) (by decide) rfl CS.b CS.o CS.r7 ?_
                refine Go_iload_n (pc' := 28) dX2_tell_27 rfl rfl rfl ?_
                refine Go_iload_n (pc' := 29) dX2_tell_28 rfl rfl rfl ?_
                refine Go_iastore (n := 200) (pc' := 30) dX2_tell_29 rfl CS.b1 CS.k1 (by exact inR_nI (by omega) (by decide)) ?_
                rw [nI_clamp (show n < 2 ^ 31 by omega)]
                refine Go_aload_n (pc' := 31) dX2_tell_30 rfl rfl rfl ?_
                refine Go_aload_n (pc' := 32) dX2_tell_31 rfl rfl rfl ?_
                refine Go_getIv (v := (nI n)) (pc' := 35) dX2_tell_32 rfl kf_RX2_58 (by decide) (by decide) rfl CS.b CS.o ((vi_skip (Or.inl (by omega))).trans ((vi_skip (Or.inr (by decide))).trans ((vi_skip (Or.inr (by decide))).trans (en)))) ?_
                refine Go_iload_n (pc' := 36) dX2_tell_35 rfl rfl rfl ?_
                refine Go_iconst (v := 1) (pc' := 37) dX2_tell_36 rfl (by decide) ?_
                refine Go_iadd (pc' := 38) dX2_tell_37 rfl ?_
                refine Go_callS_i (pc' := 41) (As := [.int _, .int _]) (st := [.ref _]) dX2_tell_38 rfl ok_J9_max_7cf53 km_RX2_55 rfl (Nat.le_of_ble_eq_true rfl) rfl rfl rfl (Nat.le_of_ble_eq_true rfl) (Nat.lt_succ_self _) ?_
                refine s_max ?_
                refine ⟨_, rfl, ?_⟩
                rw [show imax (nI n) (nI n + 1) = nI (n + 1) from by rw [nI_1, imax_nI (by omega) (by omega)]; congr 1; omega]
                refine Go_putI (pc' := 44) dX2_tell_41 rfl kf_RX2_58 (by decide) (by decide) rfl CS.b CS.o (Or.inl rfl) rfl rfl ?_
                refine Go_iconst (v := 1) (pc' := 45) dX2_tell_44 rfl (by decide) ?_
                refine Go_ireturn (ty := .boolean) dX2_tell_45 rfl rfl ?_
                refine ⟨_, rfl, ?_⟩
                refine Go_pop (pc' := 54) dX11_ground_53 rfl rfl ?_
                refine Go_iload (pc' := 56) dX11_ground_54 rfl rfl ?_
                refine Go_ireturn (ty := .int) dX11_ground_56 rfl rfl ?_
                exact k _ _ (Or.inl ⟨by omega, rfl, rfl⟩) I.S
              · refine Go_iconst (v := 0) (pc' := 22) dX2_tell_21 rfl (by decide) ?_
                refine Go_ireturn (ty := .boolean) dX2_tell_22 rfl rfl ?_
                refine ⟨_, rfl, ?_⟩
                refine Go_pop (pc' := 54) dX11_ground_53 rfl rfl ?_
                refine Go_iload (pc' := 56) dX11_ground_54 rfl rfl ?_
                refine Go_ireturn (ty := .int) dX11_ground_56 rfl rfl ?_
                exfalso; omega
        · refine Go_ldc (pc' := 35) dX11_ground_33 rfl kn_RX11_110 ?_
          refine Go_ireturn (ty := .int) dX11_ground_35 rfl rfl ?_
          exact k _ _ (Or.inr ⟨by omega, rfl, rfl⟩) I.S
    · rintro r h1 (⟨hc, rfl, rfl⟩ | ⟨hc, rfl, rfl⟩) K k
      · show Go G 60 0 0 M_X12_ground 0 [.ref 99, .int (nI j), .int b, un] [] (wI (wI (wI (wI h q 6 (((vi h q 6) + b) - ((((vi h q 2) * (vi h q 6)) + ((vi h q 3) * (vi h q 5))) / 64))) q 5 ((vi h q 5) + (((vi h q 6) + b) - ((((vi h q 2) * (vi h q 6)) + ((vi h q 3) * (vi h q 5))) / 64)))) (q + 1) n (imax (-(vi h q 4)) (imin (vi h q 4) ((vi h q 5) + (((vi h q 6) + b) - ((((vi h q 2) * (vi h q 6)) + ((vi h q 3) * (vi h q 5))) / 64)))))) q 8 (nI (n + 1))) K
        have lim := cB.2.2.2
        unfold rg at lim
        have enl : (-(vi h q 4)).toInt = -(vi h q 4).toInt := i_neg (by omega)
        refine Go_aload_n (pc' := 1) dX12_ground_0 rfl rfl rfl ?_
        refine Go_iload_n (pc' := 2) dX12_ground_1 rfl rfl rfl ?_
        refine Go_callV_i (pc' := 5) (As := [.int _]) (st := []) dX12_ground_2 rfl ok_X12_isCellar km_RX12_158 (I.S.o 99 rfl rfl rfl) (I.S.b 99 rfl rfl) ⟨_, _, rfl⟩ rfl (Nat.le_of_ble_eq_true rfl) rfl rfl rfl (Nat.le_of_ble_eq_true rfl) (Nat.lt_succ_self _) ?_
        refine s_isCellar1 (n := vi h 64 2) I.S ((vi_skip (Or.inl (by omega))).trans ((vi_skip (Or.inl (by omega))).trans ((vi_skip (Or.inl (by omega))).trans ((vi_skip (Or.inl (by omega))).trans (I.C.1.1))))) hj hj6 I.C.1.2.2 ?_
        refine ⟨_, rfl, ?_⟩
        refine Go_if_eqZ (X := (1)) (tgt := 33) (pc' := 8) dX12_ground_5 (by decide) rfl rfl (fun c5 => ?_) (fun c5 => ?_)
        · exact absurd c5 (by decide)
        · refine Go_iload_n (pc' := 9) dX12_ground_8 rfl rfl rfl ?_
          refine Go_sipush (v := (-9999)) (pc' := 12) dX12_ground_9 rfl (by decide) ?_
          refine Go_sipush (v := 9999) (pc' := 15) dX12_ground_12 rfl (by decide) ?_
          refine Go_callS_i (pc' := 18) (As := [.int _, .int _, .int _]) (st := []) dX12_ground_15 rfl ok_X12_isIn km_RX12_147 rfl (Nat.le_of_ble_eq_true rfl) rfl rfl rfl (Nat.le_of_ble_eq_true rfl) (Nat.lt_succ_self _) ?_
          refine s_isInZ (l := (-9999)) (u := (9999)) rfl rfl ?_
          refine ⟨_, rfl, ?_⟩
          refine Go_if_eqb (tgt := 33) (pc' := 21) dX12_ground_18 (by decide) rfl (fun c18 => ?_) (fun c18 => ?_)
          · refine Go_ldc (pc' := 35) dX12_ground_33 rfl kn_RX12_162 ?_
            refine Go_ireturn (ty := .int) dX12_ground_35 rfl rfl ?_
            exfalso; omega
          · refine Go_aload_n (pc' := 22) dX12_ground_21 rfl rfl rfl ?_
            refine Go_getRs (pc' := 25) dX12_ground_22 rfl kf_RX12_31 (by decide) (by decide) rfl (I.S.b 99 rfl rfl) (I.S.o 99 rfl rfl rfl) (I.S.r 99 8 rfl rfl rfl) ?_
            refine Go_iload_n (pc' := 26) dX12_ground_25 rfl rfl rfl ?_
            refine Go_iaload (n := 6) (v := (nI n)) (pc' := 27) dX12_ground_26 rfl (I.S.b 107 rfl rfl) (I.S.k 107 rfl rfl rfl) (by exact inR_nI (by omega) (by decide)) ((congrArg (vi _ _) (nI_clamp (show j < 2 ^ 31 by omega))).trans ((vi_skip (Or.inl (by omega))).trans ((vi_skip (Or.inl (by omega))).trans ((vi_skip (Or.inl (by omega))).trans ((vi_skip (Or.inl (by omega))).trans (en2)))))) ?_
            refine Go_sipush (v := 200) (pc' := 30) dX12_ground_27 rfl (by decide) ?_
            refine Go_icmp_neZ (X := ((n : Nat) : Int)) (Y := (200)) (tgt := 36) (pc' := 33) dX12_ground_30 (by decide) rfl (i_nI (by omega)) rfl (fun c30 => ?_) (fun c30 => ?_)
            · refine Go_aload_n (pc' := 37) dX12_ground_36 rfl rfl rfl ?_
              refine Go_getRs (pc' := 40) dX12_ground_37 rfl kf_RX12_25 (by decide) (by decide) rfl (I.S.b 99 rfl rfl) (I.S.o 99 rfl rfl rfl) (I.S.r 99 6 rfl rfl rfl) ?_
              refine Go_iload_n (pc' := 41) dX12_ground_40 rfl rfl rfl ?_
              refine Go_aload_n (pc' := 42) dX12_ground_41 rfl rfl rfl ?_
              refine Go_getRs (pc' := 45) dX12_ground_42 rfl kf_RX12_25 (by decide) (by decide) rfl (I.S.b 99 rfl rfl) (I.S.o 99 rfl rfl rfl) (I.S.r 99 6 rfl rfl rfl) ?_
              refine Go_iload_n (pc' := 46) dX12_ground_45 rfl rfl rfl ?_
              refine Go_iaload (n := 6) (v := (vi h q 6)) (pc' := 47) dX12_ground_46 rfl (I.S.b 105 rfl rfl) (I.S.k 105 rfl rfl rfl) (by exact inR_nI (by omega) (by decide)) ((congrArg (vi _ _) (nI_clamp (show j < 2 ^ 31 by omega))).trans ((vi_skip (Or.inl (by omega))).trans ((vi_skip (Or.inl (by omega))).trans ((vi_skip (Or.inl (by omega))).trans ((vi_skip (Or.inl (by omega))).trans (cC.2.symm)))))) ?_
              refine Go_iload_n (pc' := 48) dX12_ground_47 rfl rfl rfl ?_
              refine Go_iadd (pc' := 49) dX12_ground_48 rfl ?_
              refine Go_aload_n (pc' := 50) dX12_ground_49 rfl rfl rfl ?_
              refine Go_getRs (pc' := 53) dX12_ground_50 rfl kf_RX12_13 (by decide) (by decide) rfl (I.S.b 99 rfl rfl) (I.S.o 99 rfl rfl rfl) (I.S.r 99 2 rfl rfl rfl) ?_
              refine Go_iload_n (pc' := 54) dX12_ground_53 rfl rfl rfl ?_
              refine Go_iaload (n := 6) (v := (vi h q 2)) (pc' := 55) dX12_ground_54 rfl (I.S.b 101 rfl rfl) (I.S.k 101 rfl rfl rfl) (by exact inR_nI (by omega) (by decide)) ((congrArg (vi _ _) (nI_clamp (show j < 2 ^ 31 by omega))).trans ((vi_skip (Or.inl (by omega))).trans ((vi_skip (Or.inl (by omega))).trans ((vi_skip (Or.inl (by omega))).trans ((vi_skip (Or.inl (by omega))).trans (cB.1.1.symm)))))) ?_
              refine Go_aload_n (pc' := 56) dX12_ground_55 rfl rfl rfl ?_
              refine Go_getRs (pc' := 59) dX12_ground_56 rfl kf_RX12_25 (by decide) (by decide) rfl (I.S.b 99 rfl rfl) (I.S.o 99 rfl rfl rfl) (I.S.r 99 6 rfl rfl rfl) ?_
              refine Go_iload_n (pc' := 60) dX12_ground_59 rfl rfl rfl ?_
              refine Go_iaload (n := 6) (v := (vi h q 6)) (pc' := 61) dX12_ground_60 rfl (I.S.b 105 rfl rfl) (I.S.k 105 rfl rfl rfl) (by exact inR_nI (by omega) (by decide)) ((congrArg (vi _ _) (nI_clamp (show j < 2 ^ 31 by omega))).trans ((vi_skip (Or.inl (by omega))).trans ((vi_skip (Or.inl (by omega))).trans ((vi_skip (Or.inl (by omega))).trans ((vi_skip (Or.inl (by omega))).trans (cC.2.symm)))))) ?_
              refine Go_imul (pc' := 62) dX12_ground_61 rfl ?_
              refine Go_aload_n (pc' := 63) dX12_ground_62 rfl rfl rfl ?_
              refine Go_getRs (pc' := 66) dX12_ground_63 rfl kf_RX12_16 (by decide) (by decide) rfl (I.S.b 99 rfl rfl) (I.S.o 99 rfl rfl rfl) (I.S.r 99 3 rfl rfl rfl) ?_
              refine Go_iload_n (pc' := 67) dX12_ground_66 rfl rfl rfl ?_
              refine Go_iaload (n := 6) (v := (vi h q 3)) (pc' := 68) dX12_ground_67 rfl (I.S.b 102 rfl rfl) (I.S.k 102 rfl rfl rfl) (by exact inR_nI (by omega) (by decide)) ((congrArg (vi _ _) (nI_clamp (show j < 2 ^ 31 by omega))).trans ((vi_skip (Or.inl (by omega))).trans ((vi_skip (Or.inl (by omega))).trans ((vi_skip (Or.inl (by omega))).trans ((vi_skip (Or.inl (by omega))).trans (cB.2.1.1.symm)))))) ?_
              refine Go_aload_n (pc' := 69) dX12_ground_68 rfl rfl rfl ?_
              refine Go_getRs (pc' := 72) dX12_ground_69 rfl kf_RX12_22 (by decide) (by decide) rfl (I.S.b 99 rfl rfl) (I.S.o 99 rfl rfl rfl) (I.S.r 99 5 rfl rfl rfl) ?_
              refine Go_iload_n (pc' := 73) dX12_ground_72 rfl rfl rfl ?_
              refine Go_iaload (n := 6) (v := (vi h q 5)) (pc' := 74) dX12_ground_73 rfl (I.S.b 104 rfl rfl) (I.S.k 104 rfl rfl rfl) (by exact inR_nI (by omega) (by decide)) ((congrArg (vi _ _) (nI_clamp (show j < 2 ^ 31 by omega))).trans ((vi_skip (Or.inl (by omega))).trans ((vi_skip (Or.inl (by omega))).trans ((vi_skip (Or.inl (by omega))).trans ((vi_skip (Or.inl (by omega))).trans (cC.1.symm)))))) ?_
              refine Go_imul (pc' := 75) dX12_ground_74 rfl ?_
              refine Go_iadd (pc' := 76) dX12_ground_75 rfl ?_
              refine Go_bipush (v := 64) (pc' := 78) dX12_ground_76 rfl (by decide) ?_
              refine Go_idiv (pc' := 79) dX12_ground_78 rfl (by decide) ?_
              refine Go_isub (pc' := 80) dX12_ground_79 rfl ?_
              refine Go_iastore (n := 6) (pc' := 81) dX12_ground_80 rfl (I.S.b 105 rfl rfl) (I.S.k 105 rfl rfl rfl) (by exact inR_nI (by omega) (by decide)) ?_
              rw [nI_clamp (show j < 2 ^ 31 by omega)]
              refine Go_aload_n (pc' := 82) dX12_ground_81 rfl rfl rfl ?_
              refine Go_getRs (pc' := 85) dX12_ground_82 rfl kf_RX12_22 (by decide) (by decide) rfl (I.S.b 99 rfl rfl) (I.S.o 99 rfl rfl rfl) (I.S.r 99 5 rfl rfl rfl) ?_
              refine Go_iload_n (pc' := 86) dX12_ground_85 rfl rfl rfl ?_
              refine Go_dup2 (pc' := 87) dX12_ground_86 rfl rfl rfl ?_
              refine Go_iaload (n := 6) (v := (vi h q 5)) (pc' := 88) dX12_ground_87 rfl (I.S.b 104 rfl rfl) (I.S.k 104 rfl rfl rfl) (by exact inR_nI (by omega) (by decide)) ((congrArg (vi _ _) (nI_clamp (show j < 2 ^ 31 by omega))).trans ((vi_skip (Or.inl (by decide))).trans ((vi_skip (Or.inl (by omega))).trans ((vi_skip (Or.inl (by omega))).trans ((vi_skip (Or.inl (by omega))).trans ((vi_skip (Or.inl (by omega))).trans (cC.1.symm))))))) ?_
              refine Go_aload_n (pc' := 89) dX12_ground_88 rfl rfl rfl ?_
              refine Go_getRs (pc' := 92) dX12_ground_89 rfl kf_RX12_25 (by decide) (by decide) rfl (I.S.b 99 rfl rfl) (I.S.o 99 rfl rfl rfl) (I.S.r 99 6 rfl rfl rfl) ?_
              refine Go_iload_n (pc' := 93) dX12_ground_92 rfl rfl rfl ?_
              refine Go_iaload (n := 6) (v := (((vi h q 6) + b) - ((((vi h q 2) * (vi h q 6)) + ((vi h q 3) * (vi h q 5))) / 64))) (pc' := 94) dX12_ground_93 rfl (I.S.b 105 rfl rfl) (I.S.k 105 rfl rfl rfl) (by exact inR_nI (by omega) (by decide)) ((congrArg (vi _ _) (nI_clamp (show j < 2 ^ 31 by omega))).trans (vi_same)) ?_
              refine Go_iadd (pc' := 95) dX12_ground_94 rfl ?_
              refine Go_iastore (n := 6) (pc' := 96) dX12_ground_95 rfl (I.S.b 104 rfl rfl) (I.S.k 104 rfl rfl rfl) (by exact inR_nI (by omega) (by decide)) ?_
              rw [nI_clamp (show j < 2 ^ 31 by omega)]
              refine Go_aload_n (pc' := 97) dX12_ground_96 rfl rfl rfl ?_
              refine Go_getRs (pc' := 100) dX12_ground_97 rfl kf_RX12_22 (by decide) (by decide) rfl (I.S.b 99 rfl rfl) (I.S.o 99 rfl rfl rfl) (I.S.r 99 5 rfl rfl rfl) ?_
              refine Go_iload_n (pc' := 101) dX12_ground_100 rfl rfl rfl ?_
              refine Go_iaload (n := 6) (v := ((vi h q 5) + (((vi h q 6) + b) - ((((vi h q 2) * (vi h q 6)) + ((vi h q 3) * (vi h q 5))) / 64)))) (pc' := 102) dX12_ground_101 rfl (I.S.b 104 rfl rfl) (I.S.k 104 rfl rfl rfl) (by exact inR_nI (by omega) (by decide)) ((congrArg (vi _ _) (nI_clamp (show j < 2 ^ 31 by omega))).trans (vi_same)) ?_
              refine Go_aload_n (pc' := 103) dX12_ground_102 rfl rfl rfl ?_
              refine Go_getRs (pc' := 106) dX12_ground_103 rfl kf_RX12_19 (by decide) (by decide) rfl (I.S.b 99 rfl rfl) (I.S.o 99 rfl rfl rfl) (I.S.r 99 4 rfl rfl rfl) ?_
              refine Go_iload_n (pc' := 107) dX12_ground_106 rfl rfl rfl ?_
              refine Go_iaload (n := 6) (v := (vi h q 4)) (pc' := 108) dX12_ground_107 rfl (I.S.b 103 rfl rfl) (I.S.k 103 rfl rfl rfl) (by exact inR_nI (by omega) (by decide)) ((congrArg (vi _ _) (nI_clamp (show j < 2 ^ 31 by omega))).trans ((vi_skip (Or.inl (by decide))).trans ((vi_skip (Or.inl (by decide))).trans ((vi_skip (Or.inl (by omega))).trans ((vi_skip (Or.inl (by omega))).trans ((vi_skip (Or.inl (by omega))).trans ((vi_skip (Or.inl (by omega))).trans (cB.2.2.1.symm)))))))) ?_
              refine Go_icmp_leZ (X := _) (Y := _) (tgt := 120) (pc' := 111) dX12_ground_108 (by decide) rfl rfl rfl (fun c108 => ?_) (fun c108 => ?_)
              · refine Go_aload_n (pc' := 121) dX12_ground_120 rfl rfl rfl ?_
                refine Go_getRs (pc' := 124) dX12_ground_121 rfl kf_RX12_22 (by decide) (by decide) rfl (I.S.b 99 rfl rfl) (I.S.o 99 rfl rfl rfl) (I.S.r 99 5 rfl rfl rfl) ?_
                refine Go_iload_n (pc' := 125) dX12_ground_124 rfl rfl rfl ?_
                refine Go_iaload (n := 6) (v := ((vi h q 5) + (((vi h q 6) + b) - ((((vi h q 2) * (vi h q 6)) + ((vi h q 3) * (vi h q 5))) / 64)))) (pc' := 126) dX12_ground_125 rfl (I.S.b 104 rfl rfl) (I.S.k 104 rfl rfl rfl) (by exact inR_nI (by omega) (by decide)) ((congrArg (vi _ _) (nI_clamp (show j < 2 ^ 31 by omega))).trans (vi_same)) ?_
                refine Go_aload_n (pc' := 127) dX12_ground_126 rfl rfl rfl ?_
                refine Go_getRs (pc' := 130) dX12_ground_127 rfl kf_RX12_19 (by decide) (by decide) rfl (I.S.b 99 rfl rfl) (I.S.o 99 rfl rfl rfl) (I.S.r 99 4 rfl rfl rfl) ?_
                refine Go_iload_n (pc' := 131) dX12_ground_130 rfl rfl rfl ?_
                refine Go_iaload (n := 6) (v := (vi h q 4)) (pc' := 132) dX12_ground_131 rfl (I.S.b 103 rfl rfl) (I.S.k 103 rfl rfl rfl) (by exact inR_nI (by omega) (by decide)) ((congrArg (vi _ _) (nI_clamp (show j < 2 ^ 31 by omega))).trans ((vi_skip (Or.inl (by decide))).trans ((vi_skip (Or.inl (by decide))).trans ((vi_skip (Or.inl (by omega))).trans ((vi_skip (Or.inl (by omega))).trans ((vi_skip (Or.inl (by omega))).trans ((vi_skip (Or.inl (by omega))).trans (cB.2.2.1.symm)))))))) ?_
                refine Go_ineg (pc' := 133) dX12_ground_132 rfl ?_
                refine Go_icmp_geZ (X := _) (Y := -(vi h q 4).toInt) (tgt := 146) (pc' := 136) dX12_ground_133 (by decide) rfl rfl (i_neg (by omega)) (fun c133 => ?_) (fun c133 => ?_)
                · refine Go_aload_n (pc' := 147) dX12_ground_146 rfl rfl rfl ?_
                  refine Go_getRs (pc' := 150) dX12_ground_147 rfl kf_RX12_22 (by decide) (by decide) rfl (I.S.b 99 rfl rfl) (I.S.o 99 rfl rfl rfl) (I.S.r 99 5 rfl rfl rfl) ?_
                  refine Go_iload_n (pc' := 151) dX12_ground_150 rfl rfl rfl ?_
                  refine Go_iaload (n := 6) (v := ((vi h q 5) + (((vi h q 6) + b) - ((((vi h q 2) * (vi h q 6)) + ((vi h q 3) * (vi h q 5))) / 64)))) (pc' := 152) dX12_ground_151 rfl (I.S.b 104 rfl rfl) (I.S.k 104 rfl rfl rfl) (by exact inR_nI (by omega) (by decide)) ((congrArg (vi _ _) (nI_clamp (show j < 2 ^ 31 by omega))).trans (vi_same)) ?_
                  refine Go_istore_n (pc' := 153) (lv' := [.ref _, .int _, .int _, .int _]) dX12_ground_152 rfl rfl (Nat.le_of_ble_eq_true rfl) rfl rfl ?_
                  refine Go_aload_n (pc' := 154) dX12_ground_153 rfl rfl rfl ?_
                  refine Go_getRs (pc' := 157) dX12_ground_154 rfl kf_RX12_28 (by decide) (by decide) rfl (I.S.b 99 rfl rfl) (I.S.o 99 rfl rfl rfl) (I.S.r 99 7 rfl rfl rfl) ?_
                  refine Go_sipush (v := 200) (pc' := 160) dX12_ground_157 rfl (by decide) ?_
                  refine Go_iload_n (pc' := 161) dX12_ground_160 rfl rfl rfl ?_
                  refine Go_imul (pc' := 162) dX12_ground_161 rfl ?_
                  rw [show (200 : Int32) * nI j = nI (200 * j) from pk_mul 200 j]
                  refine Go_aload_n (pc' := 163) dX12_ground_162 rfl rfl rfl ?_
                  refine Go_getRs (pc' := 166) dX12_ground_163 rfl kf_RX12_31 (by decide) (by decide) rfl (I.S.b 99 rfl rfl) (I.S.o 99 rfl rfl rfl) (I.S.r 99 8 rfl rfl rfl) ?_
                  refine Go_iload_n (pc' := 167) dX12_ground_166 rfl rfl rfl ?_
                  refine Go_iaload (n := 6) (v := (nI n)) (pc' := 168) dX12_ground_167 rfl (I.S.b 107 rfl rfl) (I.S.k 107 rfl rfl rfl) (by exact inR_nI (by omega) (by decide)) ((congrArg (vi _ _) (nI_clamp (show j < 2 ^ 31 by omega))).trans ((vi_skip (Or.inl (by decide))).trans ((vi_skip (Or.inl (by decide))).trans ((vi_skip (Or.inl (by omega))).trans ((vi_skip (Or.inl (by omega))).trans ((vi_skip (Or.inl (by omega))).trans ((vi_skip (Or.inl (by omega))).trans (en2)))))))) ?_
                  refine Go_iadd (pc' := 169) dX12_ground_168 rfl ?_
                  rw [nI_add]
                  refine Go_iload_n (pc' := 170) dX12_ground_169 rfl rfl rfl ?_
                  refine Go_iastore (n := 1200) (pc' := 171) dX12_ground_170 rfl (I.S.b 106 rfl rfl) (I.S.k 106 rfl rfl rfl) (by exact inR_nI (by omega) (by decide)) ?_
                  rw [nI_clamp (show 200 * j + n < 2 ^ 31 by omega)]
                  refine Go_aload_n (pc' := 172) dX12_ground_171 rfl rfl rfl ?_
                  refine Go_getRs (pc' := 175) dX12_ground_172 rfl kf_RX12_31 (by decide) (by decide) rfl (I.S.b 99 rfl rfl) (I.S.o 99 rfl rfl rfl) (I.S.r 99 8 rfl rfl rfl) ?_
                  refine Go_iload_n (pc' := 176) dX12_ground_175 rfl rfl rfl ?_
                  refine Go_dup2 (pc' := 177) dX12_ground_176 rfl rfl rfl ?_
                  refine Go_iaload (n := 6) (v := (nI n)) (pc' := 178) dX12_ground_177 rfl (I.S.b 107 rfl rfl) (I.S.k 107 rfl rfl rfl) (by exact inR_nI (by omega) (by decide)) ((congrArg (vi _ _) (nI_clamp (show j < 2 ^ 31 by omega))).trans ((vi_skip (Or.inl (by decide))).trans ((vi_skip (Or.inl (by decide))).trans ((vi_skip (Or.inl (by decide))).trans ((vi_skip (Or.inl (by omega))).trans ((vi_skip (Or.inl (by omega))).trans ((vi_skip (Or.inl (by omega))).trans ((vi_skip (Or.inl (by omega))).trans (en2))))))))) ?_
                  refine Go_iconst (v := 1) (pc' := 179) dX12_ground_178 rfl (by decide) ?_
                  refine Go_iadd (pc' := 180) dX12_ground_179 rfl ?_
                  rw [nI_1]
                  refine Go_iastore (n := 6) (pc' := 181) dX12_ground_180 rfl (I.S.b 107 rfl rfl) (I.S.k 107 rfl rfl rfl) (by exact inR_nI (by omega) (by decide)) ?_
                  rw [nI_clamp (show j < 2 ^ 31 by omega)]
                  refine Go_iload_n (pc' := 182) dX12_ground_181 rfl rfl rfl ?_
                  refine Go_ireturn (ty := .int) dX12_ground_182 rfl rfl ?_
                  have ecl : (imax (-(vi h q 4)) (imin (vi h q 4) ((vi h q 5) + (((vi h q 6) + b) - ((((vi h q 2) * (vi h q 6)) + ((vi h q 3) * (vi h q 5))) / 64))))) = ((vi h q 5) + (((vi h q 6) + b) - ((((vi h q 2) * (vi h q 6)) + ((vi h q 3) * (vi h q 5))) / 64))) := (clip_eq cB.2.2.2).trans ((if_neg (fun z => by rw [i_lt] at z; omega)).trans (if_neg (fun z => by rw [i_lt] at z; omega)))
                  rw [ecl] at k
                  refine k _ (I.cel hj hq CS (((((((((Dif.rf _ _ _).wI (by unfold OwnW; omega)).wI (by unfold OwnW; omega)).wI (by unfold OwnW; omega)).wI (by unfold OwnW; omega)).wI (by unfold OwnW; omega)).wI (by unfold OwnW; omega)).wI (by unfold OwnW; omega)).wI (by unfold OwnW; omega)) ⟨cA.fr (((((((((SameP.rf _ _).wI (by unfold fA; omega)).wI (by unfold fA; omega)).wI (by unfold fA; omega)).wI (by unfold fA; omega)).wI (by unfold fA; omega)).wI (by unfold fA; omega)).wI (by unfold fA; omega)).wI (by unfold fA; omega)), cB.fr (((((((((SameP.rf _ _).wI (by unfold fB; omega)).wI (by unfold fB; omega)).wI (by unfold fB; omega)).wI (by unfold fB; omega)).wI (by unfold fB; omega)).wI (by unfold fB; omega)).wI (by unfold fB; omega)).wI (by unfold fB; omega)), ⟨(((vi_skip (Or.inl (by omega))).trans ((vi_skip (Or.inl (by omega))).trans ((vi_skip (Or.inl (by omega))).trans ((vi_skip (Or.inl (by omega))).trans ((vi_skip (Or.inr (by decide))).trans ((vi_skip (Or.inl (by omega))).trans (vi_same))))))).trans ((vi_skip (Or.inl (by decide))).trans ((vi_skip (Or.inl (by decide))).trans (vi_same))).symm), (((vi_skip (Or.inl (by omega))).trans ((vi_skip (Or.inl (by omega))).trans ((vi_skip (Or.inl (by omega))).trans ((vi_skip (Or.inl (by omega))).trans ((vi_skip (Or.inr (by decide))).trans ((vi_skip (Or.inl (by omega))).trans ((vi_skip (Or.inr (by decide))).trans (vi_same)))))))).trans ((vi_skip (Or.inl (by decide))).trans ((vi_skip (Or.inl (by decide))).trans ((vi_skip (Or.inl (by decide))).trans (vi_same)))).symm)⟩, CelD.put (n := n) (t := n) (v := (imax (-(vi h q 4)) (imin (vi h q 4) ((vi h q 5) + (((vi h q 6) + b) - ((((vi h q 2) * (vi h q 6)) + ((vi h q 3) * (vi h q 5))) / 64)))))) hn200 (Nat.le_refl _) (by omega) (by rw [← en]; exact cD.2) (clip_ok cB.2.2.2) ?_ ?_ (fun i => ?_) (fun i hi => ?_), cE.fr (((((((((SameP.rf _ _).wI (by unfold fE; omega)).wI (by unfold fE; omega)).wI (by unfold fE; omega)).wI (by unfold fE; omega)).wI (by unfold fE; omega)).wI (by unfold fE; omega)).wI (by unfold fE; omega)).wI (by unfold fE; omega)), cF.fr (((((((((SameP.rf _ _).wI (by unfold fF; omega)).wI (by unfold fF; omega)).wI (by unfold fF; omega)).wI (by unfold fF; omega)).wI (by unfold fF; omega)).wI (by unfold fF; omega)).wI (by unfold fF; omega)).wI (by unfold fF; omega)), cG.fr (((((((((SameP.rf _ _).wI (by unfold fG; omega)).wI (by unfold fG; omega)).wI (by unfold fG; omega)).wI (by unfold fG; omega)).wI (by unfold fG; omega)).wI (by unfold fG; omega)).wI (by unfold fG; omega)).wI (by unfold fG; omega))⟩)
                  · rw [show vi (wI (wI (wI (wI (wI (wI (wI (wI h q 6 (((vi h q 6) + b) - ((((vi h q 2) * (vi h q 6)) + ((vi h q 3) * (vi h q 5))) / 64))) q 5 ((vi h q 5) + (((vi h q 6) + b) - ((((vi h q 2) * (vi h q 6)) + ((vi h q 3) * (vi h q 5))) / 64)))) (q + 1) n (imax (-(vi h q 4)) (imin (vi h q 4) ((vi h q 5) + (((vi h q 6) + b) - ((((vi h q 2) * (vi h q 6)) + ((vi h q 3) * (vi h q 5))) / 64)))))) q 8 (nI (n + 1))) 105 j (((vi h q 6) + b) - ((((vi h q 2) * (vi h q 6)) + ((vi h q 3) * (vi h q 5))) / 64))) 104 j ((vi h q 5) + (((vi h q 6) + b) - ((((vi h q 2) * (vi h q 6)) + ((vi h q 3) * (vi h q 5))) / 64)))) 106 (200 * j + n) ((vi h q 5) + (((vi h q 6) + b) - ((((vi h q 2) * (vi h q 6)) + ((vi h q 3) * (vi h q 5))) / 64)))) 107 j (nI (n + 1))) q 8 = (nI (n + 1)) from ((vi_skip (Or.inl (by omega))).trans ((vi_skip (Or.inl (by omega))).trans ((vi_skip (Or.inl (by omega))).trans ((vi_skip (Or.inl (by omega))).trans (vi_same)))))]; congr 1; omega
                  · rw [show vi (wI (wI (wI (wI (wI (wI (wI (wI h q 6 (((vi h q 6) + b) - ((((vi h q 2) * (vi h q 6)) + ((vi h q 3) * (vi h q 5))) / 64))) q 5 ((vi h q 5) + (((vi h q 6) + b) - ((((vi h q 2) * (vi h q 6)) + ((vi h q 3) * (vi h q 5))) / 64)))) (q + 1) n (imax (-(vi h q 4)) (imin (vi h q 4) ((vi h q 5) + (((vi h q 6) + b) - ((((vi h q 2) * (vi h q 6)) + ((vi h q 3) * (vi h q 5))) / 64)))))) q 8 (nI (n + 1))) 105 j (((vi h q 6) + b) - ((((vi h q 2) * (vi h q 6)) + ((vi h q 3) * (vi h q 5))) / 64))) 104 j ((vi h q 5) + (((vi h q 6) + b) - ((((vi h q 2) * (vi h q 6)) + ((vi h q 3) * (vi h q 5))) / 64)))) 106 (200 * j + n) ((vi h q 5) + (((vi h q 6) + b) - ((((vi h q 2) * (vi h q 6)) + ((vi h q 3) * (vi h q 5))) / 64)))) 107 j (nI (n + 1))) 107 j = (nI (n + 1)) from (vi_same)]; congr 1; omega
                  · by_cases z : i = n
                    · subst z; rw [if_pos rfl]; exact ((vi_skip (Or.inl (by omega))).trans ((vi_skip (Or.inl (by omega))).trans ((vi_skip (Or.inl (by omega))).trans ((vi_skip (Or.inl (by omega))).trans ((vi_skip (Or.inl (by omega))).trans (vi_same))))))
                    · rw [if_neg z]; exact ((vi_skip (Or.inl (by omega))).trans ((vi_skip (Or.inl (by omega))).trans ((vi_skip (Or.inl (by omega))).trans ((vi_skip (Or.inl (by omega))).trans ((vi_skip (Or.inl (by omega))).trans ((vi_skip (Or.inr (by exact z))).trans ((vi_skip (Or.inl (by omega))).trans (vi_skip (Or.inl (by omega))))))))))
                  · by_cases z : i = n
                    · subst z; rw [if_pos rfl, ecl]; exact ((vi_skip (Or.inl (by decide))).trans (vi_same))
                    · rw [if_neg z]; exact ((vi_skip (Or.inl (by omega))).trans ((vi_skip (Or.inr (by omega))).trans ((vi_skip (Or.inl (by omega))).trans ((vi_skip (Or.inl (by omega))).trans ((vi_skip (Or.inl (by omega))).trans ((vi_skip (Or.inl (by omega))).trans ((vi_skip (Or.inl (by omega))).trans (vi_skip (Or.inl (by omega))))))))))
                · refine Go_aload_n (pc' := 137) dX12_ground_136 rfl rfl rfl ?_
                  refine Go_getRs (pc' := 140) dX12_ground_137 rfl kf_RX12_19 (by decide) (by decide) rfl (I.S.b 99 rfl rfl) (I.S.o 99 rfl rfl rfl) (I.S.r 99 4 rfl rfl rfl) ?_
                  refine Go_iload_n (pc' := 141) dX12_ground_140 rfl rfl rfl ?_
                  refine Go_iaload (n := 6) (v := (vi h q 4)) (pc' := 142) dX12_ground_141 rfl (I.S.b 103 rfl rfl) (I.S.k 103 rfl rfl rfl) (by exact inR_nI (by omega) (by decide)) ((congrArg (vi _ _) (nI_clamp (show j < 2 ^ 31 by omega))).trans ((vi_skip (Or.inl (by decide))).trans ((vi_skip (Or.inl (by decide))).trans ((vi_skip (Or.inl (by omega))).trans ((vi_skip (Or.inl (by omega))).trans ((vi_skip (Or.inl (by omega))).trans ((vi_skip (Or.inl (by omega))).trans (cB.2.2.1.symm)))))))) ?_
                  refine Go_ineg (pc' := 143) dX12_ground_142 rfl ?_
                  refine Go_goto (tgt := 152) dX12_ground_143 (by decide) ?_
                  refine Go_istore_n (pc' := 153) (lv' := [.ref _, .int _, .int _, .int _]) dX12_ground_152 rfl rfl (Nat.le_of_ble_eq_true rfl) rfl rfl ?_
                  refine Go_aload_n (pc' := 154) dX12_ground_153 rfl rfl rfl ?_
                  refine Go_getRs (pc' := 157) dX12_ground_154 rfl kf_RX12_28 (by decide) (by decide) rfl (I.S.b 99 rfl rfl) (I.S.o 99 rfl rfl rfl) (I.S.r 99 7 rfl rfl rfl) ?_
                  refine Go_sipush (v := 200) (pc' := 160) dX12_ground_157 rfl (by decide) ?_
                  refine Go_iload_n (pc' := 161) dX12_ground_160 rfl rfl rfl ?_
                  refine Go_imul (pc' := 162) dX12_ground_161 rfl ?_
                  rw [show (200 : Int32) * nI j = nI (200 * j) from pk_mul 200 j]
                  refine Go_aload_n (pc' := 163) dX12_ground_162 rfl rfl rfl ?_
                  refine Go_getRs (pc' := 166) dX12_ground_163 rfl kf_RX12_31 (by decide) (by decide) rfl (I.S.b 99 rfl rfl) (I.S.o 99 rfl rfl rfl) (I.S.r 99 8 rfl rfl rfl) ?_
                  refine Go_iload_n (pc' := 167) dX12_ground_166 rfl rfl rfl ?_
                  refine Go_iaload (n := 6) (v := (nI n)) (pc' := 168) dX12_ground_167 rfl (I.S.b 107 rfl rfl) (I.S.k 107 rfl rfl rfl) (by exact inR_nI (by omega) (by decide)) ((congrArg (vi _ _) (nI_clamp (show j < 2 ^ 31 by omega))).trans ((vi_skip (Or.inl (by decide))).trans ((vi_skip (Or.inl (by decide))).trans ((vi_skip (Or.inl (by omega))).trans ((vi_skip (Or.inl (by omega))).trans ((vi_skip (Or.inl (by omega))).trans ((vi_skip (Or.inl (by omega))).trans (en2)))))))) ?_
                  refine Go_iadd (pc' := 169) dX12_ground_168 rfl ?_
                  rw [nI_add]
                  refine Go_iload_n (pc' := 170) dX12_ground_169 rfl rfl rfl ?_
                  refine Go_iastore (n := 1200) (pc' := 171) dX12_ground_170 rfl (I.S.b 106 rfl rfl) (I.S.k 106 rfl rfl rfl) (by exact inR_nI (by omega) (by decide)) ?_
                  rw [nI_clamp (show 200 * j + n < 2 ^ 31 by omega)]
                  refine Go_aload_n (pc' := 172) dX12_ground_171 rfl rfl rfl ?_
                  refine Go_getRs (pc' := 175) dX12_ground_172 rfl kf_RX12_31 (by decide) (by decide) rfl (I.S.b 99 rfl rfl) (I.S.o 99 rfl rfl rfl) (I.S.r 99 8 rfl rfl rfl) ?_
                  refine Go_iload_n (pc' := 176) dX12_ground_175 rfl rfl rfl ?_
                  refine Go_dup2 (pc' := 177) dX12_ground_176 rfl rfl rfl ?_
                  refine Go_iaload (n := 6) (v := (nI n)) (pc' := 178) dX12_ground_177 rfl (I.S.b 107 rfl rfl) (I.S.k 107 rfl rfl rfl) (by exact inR_nI (by omega) (by decide)) ((congrArg (vi _ _) (nI_clamp (show j < 2 ^ 31 by omega))).trans ((vi_skip (Or.inl (by decide))).trans ((vi_skip (Or.inl (by decide))).trans ((vi_skip (Or.inl (by decide))).trans ((vi_skip (Or.inl (by omega))).trans ((vi_skip (Or.inl (by omega))).trans ((vi_skip (Or.inl (by omega))).trans ((vi_skip (Or.inl (by omega))).trans (en2))))))))) ?_
                  refine Go_iconst (v := 1) (pc' := 179) dX12_ground_178 rfl (by decide) ?_
                  refine Go_iadd (pc' := 180) dX12_ground_179 rfl ?_
                  rw [nI_1]
                  refine Go_iastore (n := 6) (pc' := 181) dX12_ground_180 rfl (I.S.b 107 rfl rfl) (I.S.k 107 rfl rfl rfl) (by exact inR_nI (by omega) (by decide)) ?_
                  rw [nI_clamp (show j < 2 ^ 31 by omega)]
                  refine Go_iload_n (pc' := 182) dX12_ground_181 rfl rfl rfl ?_
                  refine Go_ireturn (ty := .int) dX12_ground_182 rfl rfl ?_
                  have ecl : (imax (-(vi h q 4)) (imin (vi h q 4) ((vi h q 5) + (((vi h q 6) + b) - ((((vi h q 2) * (vi h q 6)) + ((vi h q 3) * (vi h q 5))) / 64))))) = (-(vi h q 4)) := (clip_eq cB.2.2.2).trans ((if_neg (fun z => by rw [i_lt] at z; omega)).trans (if_pos (i_lt.mpr (by omega))))
                  rw [ecl] at k
                  refine k _ (I.cel hj hq CS (((((((((Dif.rf _ _ _).wI (by unfold OwnW; omega)).wI (by unfold OwnW; omega)).wI (by unfold OwnW; omega)).wI (by unfold OwnW; omega)).wI (by unfold OwnW; omega)).wI (by unfold OwnW; omega)).wI (by unfold OwnW; omega)).wI (by unfold OwnW; omega)) ⟨cA.fr (((((((((SameP.rf _ _).wI (by unfold fA; omega)).wI (by unfold fA; omega)).wI (by unfold fA; omega)).wI (by unfold fA; omega)).wI (by unfold fA; omega)).wI (by unfold fA; omega)).wI (by unfold fA; omega)).wI (by unfold fA; omega)), cB.fr (((((((((SameP.rf _ _).wI (by unfold fB; omega)).wI (by unfold fB; omega)).wI (by unfold fB; omega)).wI (by unfold fB; omega)).wI (by unfold fB; omega)).wI (by unfold fB; omega)).wI (by unfold fB; omega)).wI (by unfold fB; omega)), ⟨(((vi_skip (Or.inl (by omega))).trans ((vi_skip (Or.inl (by omega))).trans ((vi_skip (Or.inl (by omega))).trans ((vi_skip (Or.inl (by omega))).trans ((vi_skip (Or.inr (by decide))).trans ((vi_skip (Or.inl (by omega))).trans (vi_same))))))).trans ((vi_skip (Or.inl (by decide))).trans ((vi_skip (Or.inl (by decide))).trans (vi_same))).symm), (((vi_skip (Or.inl (by omega))).trans ((vi_skip (Or.inl (by omega))).trans ((vi_skip (Or.inl (by omega))).trans ((vi_skip (Or.inl (by omega))).trans ((vi_skip (Or.inr (by decide))).trans ((vi_skip (Or.inl (by omega))).trans ((vi_skip (Or.inr (by decide))).trans (vi_same)))))))).trans ((vi_skip (Or.inl (by decide))).trans ((vi_skip (Or.inl (by decide))).trans ((vi_skip (Or.inl (by decide))).trans (vi_same)))).symm)⟩, CelD.put (n := n) (t := n) (v := (imax (-(vi h q 4)) (imin (vi h q 4) ((vi h q 5) + (((vi h q 6) + b) - ((((vi h q 2) * (vi h q 6)) + ((vi h q 3) * (vi h q 5))) / 64)))))) hn200 (Nat.le_refl _) (by omega) (by rw [← en]; exact cD.2) (clip_ok cB.2.2.2) ?_ ?_ (fun i => ?_) (fun i hi => ?_), cE.fr (((((((((SameP.rf _ _).wI (by unfold fE; omega)).wI (by unfold fE; omega)).wI (by unfold fE; omega)).wI (by unfold fE; omega)).wI (by unfold fE; omega)).wI (by unfold fE; omega)).wI (by unfold fE; omega)).wI (by unfold fE; omega)), cF.fr (((((((((SameP.rf _ _).wI (by unfold fF; omega)).wI (by unfold fF; omega)).wI (by unfold fF; omega)).wI (by unfold fF; omega)).wI (by unfold fF; omega)).wI (by unfold fF; omega)).wI (by unfold fF; omega)).wI (by unfold fF; omega)), cG.fr (((((((((SameP.rf _ _).wI (by unfold fG; omega)).wI (by unfold fG; omega)).wI (by unfold fG; omega)).wI (by unfold fG; omega)).wI (by unfold fG; omega)).wI (by unfold fG; omega)).wI (by unfold fG; omega)).wI (by unfold fG; omega))⟩)
                  · rw [show vi (wI (wI (wI (wI (wI (wI (wI (wI h q 6 (((vi h q 6) + b) - ((((vi h q 2) * (vi h q 6)) + ((vi h q 3) * (vi h q 5))) / 64))) q 5 ((vi h q 5) + (((vi h q 6) + b) - ((((vi h q 2) * (vi h q 6)) + ((vi h q 3) * (vi h q 5))) / 64)))) (q + 1) n (imax (-(vi h q 4)) (imin (vi h q 4) ((vi h q 5) + (((vi h q 6) + b) - ((((vi h q 2) * (vi h q 6)) + ((vi h q 3) * (vi h q 5))) / 64)))))) q 8 (nI (n + 1))) 105 j (((vi h q 6) + b) - ((((vi h q 2) * (vi h q 6)) + ((vi h q 3) * (vi h q 5))) / 64))) 104 j ((vi h q 5) + (((vi h q 6) + b) - ((((vi h q 2) * (vi h q 6)) + ((vi h q 3) * (vi h q 5))) / 64)))) 106 (200 * j + n) (-(vi h q 4))) 107 j (nI (n + 1))) q 8 = (nI (n + 1)) from ((vi_skip (Or.inl (by omega))).trans ((vi_skip (Or.inl (by omega))).trans ((vi_skip (Or.inl (by omega))).trans ((vi_skip (Or.inl (by omega))).trans (vi_same)))))]; congr 1; omega
                  · rw [show vi (wI (wI (wI (wI (wI (wI (wI (wI h q 6 (((vi h q 6) + b) - ((((vi h q 2) * (vi h q 6)) + ((vi h q 3) * (vi h q 5))) / 64))) q 5 ((vi h q 5) + (((vi h q 6) + b) - ((((vi h q 2) * (vi h q 6)) + ((vi h q 3) * (vi h q 5))) / 64)))) (q + 1) n (imax (-(vi h q 4)) (imin (vi h q 4) ((vi h q 5) + (((vi h q 6) + b) - ((((vi h q 2) * (vi h q 6)) + ((vi h q 3) * (vi h q 5))) / 64)))))) q 8 (nI (n + 1))) 105 j (((vi h q 6) + b) - ((((vi h q 2) * (vi h q 6)) + ((vi h q 3) * (vi h q 5))) / 64))) 104 j ((vi h q 5) + (((vi h q 6) + b) - ((((vi h q 2) * (vi h q 6)) + ((vi h q 3) * (vi h q 5))) / 64)))) 106 (200 * j + n) (-(vi h q 4))) 107 j (nI (n + 1))) 107 j = (nI (n + 1)) from (vi_same)]; congr 1; omega
                  · by_cases z : i = n
                    · subst z; rw [if_pos rfl]; exact ((vi_skip (Or.inl (by omega))).trans ((vi_skip (Or.inl (by omega))).trans ((vi_skip (Or.inl (by omega))).trans ((vi_skip (Or.inl (by omega))).trans ((vi_skip (Or.inl (by omega))).trans (vi_same))))))
                    · rw [if_neg z]; exact ((vi_skip (Or.inl (by omega))).trans ((vi_skip (Or.inl (by omega))).trans ((vi_skip (Or.inl (by omega))).trans ((vi_skip (Or.inl (by omega))).trans ((vi_skip (Or.inl (by omega))).trans ((vi_skip (Or.inr (by exact z))).trans ((vi_skip (Or.inl (by omega))).trans (vi_skip (Or.inl (by omega))))))))))
                  · by_cases z : i = n
                    · subst z; rw [if_pos rfl, ecl]; exact ((vi_skip (Or.inl (by decide))).trans (vi_same))
                    · rw [if_neg z]; exact ((vi_skip (Or.inl (by omega))).trans ((vi_skip (Or.inr (by omega))).trans ((vi_skip (Or.inl (by omega))).trans ((vi_skip (Or.inl (by omega))).trans ((vi_skip (Or.inl (by omega))).trans ((vi_skip (Or.inl (by omega))).trans ((vi_skip (Or.inl (by omega))).trans (vi_skip (Or.inl (by omega))))))))))
              · refine Go_aload_n (pc' := 112) dX12_ground_111 rfl rfl rfl ?_
                refine Go_getRs (pc' := 115) dX12_ground_112 rfl kf_RX12_19 (by decide) (by decide) rfl (I.S.b 99 rfl rfl) (I.S.o 99 rfl rfl rfl) (I.S.r 99 4 rfl rfl rfl) ?_
                refine Go_iload_n (pc' := 116) dX12_ground_115 rfl rfl rfl ?_
                refine Go_iaload (n := 6) (v := (vi h q 4)) (pc' := 117) dX12_ground_116 rfl (I.S.b 103 rfl rfl) (I.S.k 103 rfl rfl rfl) (by exact inR_nI (by omega) (by decide)) ((congrArg (vi _ _) (nI_clamp (show j < 2 ^ 31 by omega))).trans ((vi_skip (Or.inl (by decide))).trans ((vi_skip (Or.inl (by decide))).trans ((vi_skip (Or.inl (by omega))).trans ((vi_skip (Or.inl (by omega))).trans ((vi_skip (Or.inl (by omega))).trans ((vi_skip (Or.inl (by omega))).trans (cB.2.2.1.symm)))))))) ?_
                refine Go_goto (tgt := 152) dX12_ground_117 (by decide) ?_
                refine Go_istore_n (pc' := 153) (lv' := [.ref _, .int _, .int _, .int _]) dX12_ground_152 rfl rfl (Nat.le_of_ble_eq_true rfl) rfl rfl ?_
                refine Go_aload_n (pc' := 154) dX12_ground_153 rfl rfl rfl ?_
                refine Go_getRs (pc' := 157) dX12_ground_154 rfl kf_RX12_28 (by decide) (by decide) rfl (I.S.b 99 rfl rfl) (I.S.o 99 rfl rfl rfl) (I.S.r 99 7 rfl rfl rfl) ?_
                refine Go_sipush (v := 200) (pc' := 160) dX12_ground_157 rfl (by decide) ?_
                refine Go_iload_n (pc' := 161) dX12_ground_160 rfl rfl rfl ?_
                refine Go_imul (pc' := 162) dX12_ground_161 rfl ?_
                rw [show (200 : Int32) * nI j = nI (200 * j) from pk_mul 200 j]
                refine Go_aload_n (pc' := 163) dX12_ground_162 rfl rfl rfl ?_
                refine Go_getRs (pc' := 166) dX12_ground_163 rfl kf_RX12_31 (by decide) (by decide) rfl (I.S.b 99 rfl rfl) (I.S.o 99 rfl rfl rfl) (I.S.r 99 8 rfl rfl rfl) ?_
                refine Go_iload_n (pc' := 167) dX12_ground_166 rfl rfl rfl ?_
                refine Go_iaload (n := 6) (v := (nI n)) (pc' := 168) dX12_ground_167 rfl (I.S.b 107 rfl rfl) (I.S.k 107 rfl rfl rfl) (by exact inR_nI (by omega) (by decide)) ((congrArg (vi _ _) (nI_clamp (show j < 2 ^ 31 by omega))).trans ((vi_skip (Or.inl (by decide))).trans ((vi_skip (Or.inl (by decide))).trans ((vi_skip (Or.inl (by omega))).trans ((vi_skip (Or.inl (by omega))).trans ((vi_skip (Or.inl (by omega))).trans ((vi_skip (Or.inl (by omega))).trans (en2)))))))) ?_
                refine Go_iadd (pc' := 169) dX12_ground_168 rfl ?_
                rw [nI_add]
                refine Go_iload_n (pc' := 170) dX12_ground_169 rfl rfl rfl ?_
                refine Go_iastore (n := 1200) (pc' := 171) dX12_ground_170 rfl (I.S.b 106 rfl rfl) (I.S.k 106 rfl rfl rfl) (by exact inR_nI (by omega) (by decide)) ?_
                rw [nI_clamp (show 200 * j + n < 2 ^ 31 by omega)]
                refine Go_aload_n (pc' := 172) dX12_ground_171 rfl rfl rfl ?_
                refine Go_getRs (pc' := 175) dX12_ground_172 rfl kf_RX12_31 (by decide) (by decide) rfl (I.S.b 99 rfl rfl) (I.S.o 99 rfl rfl rfl) (I.S.r 99 8 rfl rfl rfl) ?_
                refine Go_iload_n (pc' := 176) dX12_ground_175 rfl rfl rfl ?_
                refine Go_dup2 (pc' := 177) dX12_ground_176 rfl rfl rfl ?_
                refine Go_iaload (n := 6) (v := (nI n)) (pc' := 178) dX12_ground_177 rfl (I.S.b 107 rfl rfl) (I.S.k 107 rfl rfl rfl) (by exact inR_nI (by omega) (by decide)) ((congrArg (vi _ _) (nI_clamp (show j < 2 ^ 31 by omega))).trans ((vi_skip (Or.inl (by decide))).trans ((vi_skip (Or.inl (by decide))).trans ((vi_skip (Or.inl (by decide))).trans ((vi_skip (Or.inl (by omega))).trans ((vi_skip (Or.inl (by omega))).trans ((vi_skip (Or.inl (by omega))).trans ((vi_skip (Or.inl (by omega))).trans (en2))))))))) ?_
                refine Go_iconst (v := 1) (pc' := 179) dX12_ground_178 rfl (by decide) ?_
                refine Go_iadd (pc' := 180) dX12_ground_179 rfl ?_
                rw [nI_1]
                refine Go_iastore (n := 6) (pc' := 181) dX12_ground_180 rfl (I.S.b 107 rfl rfl) (I.S.k 107 rfl rfl rfl) (by exact inR_nI (by omega) (by decide)) ?_
                rw [nI_clamp (show j < 2 ^ 31 by omega)]
                refine Go_iload_n (pc' := 182) dX12_ground_181 rfl rfl rfl ?_
                refine Go_ireturn (ty := .int) dX12_ground_182 rfl rfl ?_
                have ecl : (imax (-(vi h q 4)) (imin (vi h q 4) ((vi h q 5) + (((vi h q 6) + b) - ((((vi h q 2) * (vi h q 6)) + ((vi h q 3) * (vi h q 5))) / 64))))) = (vi h q 4) := (clip_eq cB.2.2.2).trans (if_pos (i_lt.mpr (by omega)))
                rw [ecl] at k
                refine k _ (I.cel hj hq CS (((((((((Dif.rf _ _ _).wI (by unfold OwnW; omega)).wI (by unfold OwnW; omega)).wI (by unfold OwnW; omega)).wI (by unfold OwnW; omega)).wI (by unfold OwnW; omega)).wI (by unfold OwnW; omega)).wI (by unfold OwnW; omega)).wI (by unfold OwnW; omega)) ⟨cA.fr (((((((((SameP.rf _ _).wI (by unfold fA; omega)).wI (by unfold fA; omega)).wI (by unfold fA; omega)).wI (by unfold fA; omega)).wI (by unfold fA; omega)).wI (by unfold fA; omega)).wI (by unfold fA; omega)).wI (by unfold fA; omega)), cB.fr (((((((((SameP.rf _ _).wI (by unfold fB; omega)).wI (by unfold fB; omega)).wI (by unfold fB; omega)).wI (by unfold fB; omega)).wI (by unfold fB; omega)).wI (by unfold fB; omega)).wI (by unfold fB; omega)).wI (by unfold fB; omega)), ⟨(((vi_skip (Or.inl (by omega))).trans ((vi_skip (Or.inl (by omega))).trans ((vi_skip (Or.inl (by omega))).trans ((vi_skip (Or.inl (by omega))).trans ((vi_skip (Or.inr (by decide))).trans ((vi_skip (Or.inl (by omega))).trans (vi_same))))))).trans ((vi_skip (Or.inl (by decide))).trans ((vi_skip (Or.inl (by decide))).trans (vi_same))).symm), (((vi_skip (Or.inl (by omega))).trans ((vi_skip (Or.inl (by omega))).trans ((vi_skip (Or.inl (by omega))).trans ((vi_skip (Or.inl (by omega))).trans ((vi_skip (Or.inr (by decide))).trans ((vi_skip (Or.inl (by omega))).trans ((vi_skip (Or.inr (by decide))).trans (vi_same)))))))).trans ((vi_skip (Or.inl (by decide))).trans ((vi_skip (Or.inl (by decide))).trans ((vi_skip (Or.inl (by decide))).trans (vi_same)))).symm)⟩, CelD.put (n := n) (t := n) (v := (imax (-(vi h q 4)) (imin (vi h q 4) ((vi h q 5) + (((vi h q 6) + b) - ((((vi h q 2) * (vi h q 6)) + ((vi h q 3) * (vi h q 5))) / 64)))))) hn200 (Nat.le_refl _) (by omega) (by rw [← en]; exact cD.2) (clip_ok cB.2.2.2) ?_ ?_ (fun i => ?_) (fun i hi => ?_), cE.fr (((((((((SameP.rf _ _).wI (by unfold fE; omega)).wI (by unfold fE; omega)).wI (by unfold fE; omega)).wI (by unfold fE; omega)).wI (by unfold fE; omega)).wI (by unfold fE; omega)).wI (by unfold fE; omega)).wI (by unfold fE; omega)), cF.fr (((((((((SameP.rf _ _).wI (by unfold fF; omega)).wI (by unfold fF; omega)).wI (by unfold fF; omega)).wI (by unfold fF; omega)).wI (by unfold fF; omega)).wI (by unfold fF; omega)).wI (by unfold fF; omega)).wI (by unfold fF; omega)), cG.fr (((((((((SameP.rf _ _).wI (by unfold fG; omega)).wI (by unfold fG; omega)).wI (by unfold fG; omega)).wI (by unfold fG; omega)).wI (by unfold fG; omega)).wI (by unfold fG; omega)).wI (by unfold fG; omega)).wI (by unfold fG; omega))⟩)
                · rw [show vi (wI (wI (wI (wI (wI (wI (wI (wI h q 6 (((vi h q 6) + b) - ((((vi h q 2) * (vi h q 6)) + ((vi h q 3) * (vi h q 5))) / 64))) q 5 ((vi h q 5) + (((vi h q 6) + b) - ((((vi h q 2) * (vi h q 6)) + ((vi h q 3) * (vi h q 5))) / 64)))) (q + 1) n (imax (-(vi h q 4)) (imin (vi h q 4) ((vi h q 5) + (((vi h q 6) + b) - ((((vi h q 2) * (vi h q 6)) + ((vi h q 3) * (vi h q 5))) / 64)))))) q 8 (nI (n + 1))) 105 j (((vi h q 6) + b) - ((((vi h q 2) * (vi h q 6)) + ((vi h q 3) * (vi h q 5))) / 64))) 104 j ((vi h q 5) + (((vi h q 6) + b) - ((((vi h q 2) * (vi h q 6)) + ((vi h q 3) * (vi h q 5))) / 64)))) 106 (200 * j + n) (vi h q 4)) 107 j (nI (n + 1))) q 8 = (nI (n + 1)) from ((vi_skip (Or.inl (by omega))).trans ((vi_skip (Or.inl (by omega))).trans ((vi_skip (Or.inl (by omega))).trans ((vi_skip (Or.inl (by omega))).trans (vi_same)))))]; congr 1; omega
                · rw [show vi (wI (wI (wI (wI (wI (wI (wI (wI h q 6 (((vi h q 6) + b) - ((((vi h q 2) * (vi h q 6)) + ((vi h q 3) * (vi h q 5))) / 64))) q 5 ((vi h q 5) + (((vi h q 6) + b) - ((((vi h q 2) * (vi h q 6)) + ((vi h q 3) * (vi h q 5))) / 64)))) (q + 1) n (imax (-(vi h q 4)) (imin (vi h q 4) ((vi h q 5) + (((vi h q 6) + b) - ((((vi h q 2) * (vi h q 6)) + ((vi h q 3) * (vi h q 5))) / 64)))))) q 8 (nI (n + 1))) 105 j (((vi h q 6) + b) - ((((vi h q 2) * (vi h q 6)) + ((vi h q 3) * (vi h q 5))) / 64))) 104 j ((vi h q 5) + (((vi h q 6) + b) - ((((vi h q 2) * (vi h q 6)) + ((vi h q 3) * (vi h q 5))) / 64)))) 106 (200 * j + n) (vi h q 4)) 107 j (nI (n + 1))) 107 j = (nI (n + 1)) from (vi_same)]; congr 1; omega
                · by_cases z : i = n
                  · subst z; rw [if_pos rfl]; exact ((vi_skip (Or.inl (by omega))).trans ((vi_skip (Or.inl (by omega))).trans ((vi_skip (Or.inl (by omega))).trans ((vi_skip (Or.inl (by omega))).trans ((vi_skip (Or.inl (by omega))).trans (vi_same))))))
                  · rw [if_neg z]; exact ((vi_skip (Or.inl (by omega))).trans ((vi_skip (Or.inl (by omega))).trans ((vi_skip (Or.inl (by omega))).trans ((vi_skip (Or.inl (by omega))).trans ((vi_skip (Or.inl (by omega))).trans ((vi_skip (Or.inr (by exact z))).trans ((vi_skip (Or.inl (by omega))).trans (vi_skip (Or.inl (by omega))))))))))
                · by_cases z : i = n
                  · subst z; rw [if_pos rfl, ecl]; exact ((vi_skip (Or.inl (by decide))).trans (vi_same))
                  · rw [if_neg z]; exact ((vi_skip (Or.inl (by omega))).trans ((vi_skip (Or.inr (by omega))).trans ((vi_skip (Or.inl (by omega))).trans ((vi_skip (Or.inl (by omega))).trans ((vi_skip (Or.inl (by omega))).trans ((vi_skip (Or.inl (by omega))).trans ((vi_skip (Or.inl (by omega))).trans (vi_skip (Or.inl (by omega))))))))))
            · refine Go_ldc (pc' := 35) dX12_ground_33 rfl kn_RX12_162 ?_
              refine Go_ireturn (ty := .int) dX12_ground_35 rfl rfl ?_
              exfalso; omega
      · show Go G 60 0 0 M_X12_ground 0 [.ref 99, .int (nI j), .int b, un] [] h K
        have lim := cB.2.2.2
        unfold rg at lim
        have enl : (-(vi h q 4)).toInt = -(vi h q 4).toInt := i_neg (by omega)
        refine Go_aload_n (pc' := 1) dX12_ground_0 rfl rfl rfl ?_
        refine Go_iload_n (pc' := 2) dX12_ground_1 rfl rfl rfl ?_
        refine Go_callV_i (pc' := 5) (As := [.int _]) (st := []) dX12_ground_2 rfl ok_X12_isCellar km_RX12_158 (I.S.o 99 rfl rfl rfl) (I.S.b 99 rfl rfl) ⟨_, _, rfl⟩ rfl (Nat.le_of_ble_eq_true rfl) rfl rfl rfl (Nat.le_of_ble_eq_true rfl) (Nat.lt_succ_self _) ?_
        refine s_isCellar1 (n := vi h 64 2) I.S (I.C.1.1) hj hj6 I.C.1.2.2 ?_
        refine ⟨_, rfl, ?_⟩
        refine Go_if_eqZ (X := (1)) (tgt := 33) (pc' := 8) dX12_ground_5 (by decide) rfl rfl (fun c5 => ?_) (fun c5 => ?_)
        · exact absurd c5 (by decide)
        · refine Go_iload_n (pc' := 9) dX12_ground_8 rfl rfl rfl ?_
          refine Go_sipush (v := (-9999)) (pc' := 12) dX12_ground_9 rfl (by decide) ?_
          refine Go_sipush (v := 9999) (pc' := 15) dX12_ground_12 rfl (by decide) ?_
          refine Go_callS_i (pc' := 18) (As := [.int _, .int _, .int _]) (st := []) dX12_ground_15 rfl ok_X12_isIn km_RX12_147 rfl (Nat.le_of_ble_eq_true rfl) rfl rfl rfl (Nat.le_of_ble_eq_true rfl) (Nat.lt_succ_self _) ?_
          refine s_isInZ (l := (-9999)) (u := (9999)) rfl rfl ?_
          refine ⟨_, rfl, ?_⟩
          refine Go_if_eqb (tgt := 33) (pc' := 21) dX12_ground_18 (by decide) rfl (fun c18 => ?_) (fun c18 => ?_)
          · refine Go_ldc (pc' := 35) dX12_ground_33 rfl kn_RX12_162 ?_
            refine Go_ireturn (ty := .int) dX12_ground_35 rfl rfl ?_
            exact k _ I
          · refine Go_aload_n (pc' := 22) dX12_ground_21 rfl rfl rfl ?_
            refine Go_getRs (pc' := 25) dX12_ground_22 rfl kf_RX12_31 (by decide) (by decide) rfl (I.S.b 99 rfl rfl) (I.S.o 99 rfl rfl rfl) (I.S.r 99 8 rfl rfl rfl) ?_
            refine Go_iload_n (pc' := 26) dX12_ground_25 rfl rfl rfl ?_
            refine Go_iaload (n := 6) (v := (nI n)) (pc' := 27) dX12_ground_26 rfl (I.S.b 107 rfl rfl) (I.S.k 107 rfl rfl rfl) (by exact inR_nI (by omega) (by decide)) ((congrArg (vi _ _) (nI_clamp (show j < 2 ^ 31 by omega))).trans (en2)) ?_
            refine Go_sipush (v := 200) (pc' := 30) dX12_ground_27 rfl (by decide) ?_
            refine Go_icmp_neZ (X := ((n : Nat) : Int)) (Y := (200)) (tgt := 36) (pc' := 33) dX12_ground_30 (by decide) rfl (i_nI (by omega)) rfl (fun c30 => ?_) (fun c30 => ?_)
            · refine Go_aload_n (pc' := 37) dX12_ground_36 rfl rfl rfl ?_
              refine Go_getRs (pc' := 40) dX12_ground_37 rfl kf_RX12_25 (by decide) (by decide) rfl (I.S.b 99 rfl rfl) (I.S.o 99 rfl rfl rfl) (I.S.r 99 6 rfl rfl rfl) ?_
              refine Go_iload_n (pc' := 41) dX12_ground_40 rfl rfl rfl ?_
              refine Go_aload_n (pc' := 42) dX12_ground_41 rfl rfl rfl ?_
              refine Go_getRs (pc' := 45) dX12_ground_42 rfl kf_RX12_25 (by decide) (by decide) rfl (I.S.b 99 rfl rfl) (I.S.o 99 rfl rfl rfl) (I.S.r 99 6 rfl rfl rfl) ?_
              refine Go_iload_n (pc' := 46) dX12_ground_45 rfl rfl rfl ?_
              refine Go_iaload (n := 6) (v := (vi h q 6)) (pc' := 47) dX12_ground_46 rfl (I.S.b 105 rfl rfl) (I.S.k 105 rfl rfl rfl) (by exact inR_nI (by omega) (by decide)) ((congrArg (vi _ _) (nI_clamp (show j < 2 ^ 31 by omega))).trans (cC.2.symm)) ?_
              refine Go_iload_n (pc' := 48) dX12_ground_47 rfl rfl rfl ?_
              refine Go_iadd (pc' := 49) dX12_ground_48 rfl ?_
              refine Go_aload_n (pc' := 50) dX12_ground_49 rfl rfl rfl ?_
              refine Go_getRs (pc' := 53) dX12_ground_50 rfl kf_RX12_13 (by decide) (by decide) rfl (I.S.b 99 rfl rfl) (I.S.o 99 rfl rfl rfl) (I.S.r 99 2 rfl rfl rfl) ?_
              refine Go_iload_n (pc' := 54) dX12_ground_53 rfl rfl rfl ?_
              refine Go_iaload (n := 6) (v := (vi h q 2)) (pc' := 55) dX12_ground_54 rfl (I.S.b 101 rfl rfl) (I.S.k 101 rfl rfl rfl) (by exact inR_nI (by omega) (by decide)) ((congrArg (vi _ _) (nI_clamp (show j < 2 ^ 31 by omega))).trans (cB.1.1.symm)) ?_
              refine Go_aload_n (pc' := 56) dX12_ground_55 rfl rfl rfl ?_
              refine Go_getRs (pc' := 59) dX12_ground_56 rfl kf_RX12_25 (by decide) (by decide) rfl (I.S.b 99 rfl rfl) (I.S.o 99 rfl rfl rfl) (I.S.r 99 6 rfl rfl rfl) ?_
              refine Go_iload_n (pc' := 60) dX12_ground_59 rfl rfl rfl ?_
              refine Go_iaload (n := 6) (v := (vi h q 6)) (pc' := 61) dX12_ground_60 rfl (I.S.b 105 rfl rfl) (I.S.k 105 rfl rfl rfl) (by exact inR_nI (by omega) (by decide)) ((congrArg (vi _ _) (nI_clamp (show j < 2 ^ 31 by omega))).trans (cC.2.symm)) ?_
              refine Go_imul (pc' := 62) dX12_ground_61 rfl ?_
              refine Go_aload_n (pc' := 63) dX12_ground_62 rfl rfl rfl ?_
              refine Go_getRs (pc' := 66) dX12_ground_63 rfl kf_RX12_16 (by decide) (by decide) rfl (I.S.b 99 rfl rfl) (I.S.o 99 rfl rfl rfl) (I.S.r 99 3 rfl rfl rfl) ?_
              refine Go_iload_n (pc' := 67) dX12_ground_66 rfl rfl rfl ?_
              refine Go_iaload (n := 6) (v := (vi h q 3)) (pc' := 68) dX12_ground_67 rfl (I.S.b 102 rfl rfl) (I.S.k 102 rfl rfl rfl) (by exact inR_nI (by omega) (by decide)) ((congrArg (vi _ _) (nI_clamp (show j < 2 ^ 31 by omega))).trans (cB.2.1.1.symm)) ?_
              refine Go_aload_n (pc' := 69) dX12_ground_68 rfl rfl rfl ?_
              refine Go_getRs (pc' := 72) dX12_ground_69 rfl kf_RX12_22 (by decide) (by decide) rfl (I.S.b 99 rfl rfl) (I.S.o 99 rfl rfl rfl) (I.S.r 99 5 rfl rfl rfl) ?_
              refine Go_iload_n (pc' := 73) dX12_ground_72 rfl rfl rfl ?_
              refine Go_iaload (n := 6) (v := (vi h q 5)) (pc' := 74) dX12_ground_73 rfl (I.S.b 104 rfl rfl) (I.S.k 104 rfl rfl rfl) (by exact inR_nI (by omega) (by decide)) ((congrArg (vi _ _) (nI_clamp (show j < 2 ^ 31 by omega))).trans (cC.1.symm)) ?_
              refine Go_imul (pc' := 75) dX12_ground_74 rfl ?_
              refine Go_iadd (pc' := 76) dX12_ground_75 rfl ?_
              refine Go_bipush (v := 64) (pc' := 78) dX12_ground_76 rfl (by decide) ?_
              refine Go_idiv (pc' := 79) dX12_ground_78 rfl (by decide) ?_
              refine Go_isub (pc' := 80) dX12_ground_79 rfl ?_
              refine Go_iastore (n := 6) (pc' := 81) dX12_ground_80 rfl (I.S.b 105 rfl rfl) (I.S.k 105 rfl rfl rfl) (by exact inR_nI (by omega) (by decide)) ?_
              rw [nI_clamp (show j < 2 ^ 31 by omega)]
              refine Go_aload_n (pc' := 82) dX12_ground_81 rfl rfl rfl ?_
              refine Go_getRs (pc' := 85) dX12_ground_82 rfl kf_RX12_22 (by decide) (by decide) rfl (I.S.b 99 rfl rfl) (I.S.o 99 rfl rfl rfl) (I.S.r 99 5 rfl rfl rfl) ?_
              refine Go_iload_n (pc' := 86) dX12_ground_85 rfl rfl rfl ?_
              refine Go_dup2 (pc' := 87) dX12_ground_86 rfl rfl rfl ?_
              refine Go_iaload (n := 6) (v := (vi h q 5)) (pc' := 88) dX12_ground_87 rfl (I.S.b 104 rfl rfl) (I.S.k 104 rfl rfl rfl) (by exact inR_nI (by omega) (by decide)) ((congrArg (vi _ _) (nI_clamp (show j < 2 ^ 31 by omega))).trans ((vi_skip (Or.inl (by decide))).trans (cC.1.symm))) ?_
              refine Go_aload_n (pc' := 89) dX12_ground_88 rfl rfl rfl ?_
              refine Go_getRs (pc' := 92) dX12_ground_89 rfl kf_RX12_25 (by decide) (by decide) rfl (I.S.b 99 rfl rfl) (I.S.o 99 rfl rfl rfl) (I.S.r 99 6 rfl rfl rfl) ?_
              refine Go_iload_n (pc' := 93) dX12_ground_92 rfl rfl rfl ?_
              refine Go_iaload (n := 6) (v := (((vi h q 6) + b) - ((((vi h q 2) * (vi h q 6)) + ((vi h q 3) * (vi h q 5))) / 64))) (pc' := 94) dX12_ground_93 rfl (I.S.b 105 rfl rfl) (I.S.k 105 rfl rfl rfl) (by exact inR_nI (by omega) (by decide)) ((congrArg (vi _ _) (nI_clamp (show j < 2 ^ 31 by omega))).trans (vi_same)) ?_
              refine Go_iadd (pc' := 95) dX12_ground_94 rfl ?_
              refine Go_iastore (n := 6) (pc' := 96) dX12_ground_95 rfl (I.S.b 104 rfl rfl) (I.S.k 104 rfl rfl rfl) (by exact inR_nI (by omega) (by decide)) ?_
              rw [nI_clamp (show j < 2 ^ 31 by omega)]
              refine Go_aload_n (pc' := 97) dX12_ground_96 rfl rfl rfl ?_
              refine Go_getRs (pc' := 100) dX12_ground_97 rfl kf_RX12_22 (by decide) (by decide) rfl (I.S.b 99 rfl rfl) (I.S.o 99 rfl rfl rfl) (I.S.r 99 5 rfl rfl rfl) ?_
              refine Go_iload_n (pc' := 101) dX12_ground_100 rfl rfl rfl ?_
              refine Go_iaload (n := 6) (v := ((vi h q 5) + (((vi h q 6) + b) - ((((vi h q 2) * (vi h q 6)) + ((vi h q 3) * (vi h q 5))) / 64)))) (pc' := 102) dX12_ground_101 rfl (I.S.b 104 rfl rfl) (I.S.k 104 rfl rfl rfl) (by exact inR_nI (by omega) (by decide)) ((congrArg (vi _ _) (nI_clamp (show j < 2 ^ 31 by omega))).trans (vi_same)) ?_
              refine Go_aload_n (pc' := 103) dX12_ground_102 rfl rfl rfl ?_
              refine Go_getRs (pc' := 106) dX12_ground_103 rfl kf_RX12_19 (by decide) (by decide) rfl (I.S.b 99 rfl rfl) (I.S.o 99 rfl rfl rfl) (I.S.r 99 4 rfl rfl rfl) ?_
              refine Go_iload_n (pc' := 107) dX12_ground_106 rfl rfl rfl ?_
              refine Go_iaload (n := 6) (v := (vi h q 4)) (pc' := 108) dX12_ground_107 rfl (I.S.b 103 rfl rfl) (I.S.k 103 rfl rfl rfl) (by exact inR_nI (by omega) (by decide)) ((congrArg (vi _ _) (nI_clamp (show j < 2 ^ 31 by omega))).trans ((vi_skip (Or.inl (by decide))).trans ((vi_skip (Or.inl (by decide))).trans (cB.2.2.1.symm)))) ?_
              refine Go_icmp_leZ (X := _) (Y := _) (tgt := 120) (pc' := 111) dX12_ground_108 (by decide) rfl rfl rfl (fun c108 => ?_) (fun c108 => ?_)
              · refine Go_aload_n (pc' := 121) dX12_ground_120 rfl rfl rfl ?_
                refine Go_getRs (pc' := 124) dX12_ground_121 rfl kf_RX12_22 (by decide) (by decide) rfl (I.S.b 99 rfl rfl) (I.S.o 99 rfl rfl rfl) (I.S.r 99 5 rfl rfl rfl) ?_
                refine Go_iload_n (pc' := 125) dX12_ground_124 rfl rfl rfl ?_
                refine Go_iaload (n := 6) (v := ((vi h q 5) + (((vi h q 6) + b) - ((((vi h q 2) * (vi h q 6)) + ((vi h q 3) * (vi h q 5))) / 64)))) (pc' := 126) dX12_ground_125 rfl (I.S.b 104 rfl rfl) (I.S.k 104 rfl rfl rfl) (by exact inR_nI (by omega) (by decide)) ((congrArg (vi _ _) (nI_clamp (show j < 2 ^ 31 by omega))).trans (vi_same)) ?_
                refine Go_aload_n (pc' := 127) dX12_ground_126 rfl rfl rfl ?_
                refine Go_getRs (pc' := 130) dX12_ground_127 rfl kf_RX12_19 (by decide) (by decide) rfl (I.S.b 99 rfl rfl) (I.S.o 99 rfl rfl rfl) (I.S.r 99 4 rfl rfl rfl) ?_
                refine Go_iload_n (pc' := 131) dX12_ground_130 rfl rfl rfl ?_
                refine Go_iaload (n := 6) (v := (vi h q 4)) (pc' := 132) dX12_ground_131 rfl (I.S.b 103 rfl rfl) (I.S.k 103 rfl rfl rfl) (by exact inR_nI (by omega) (by decide)) ((congrArg (vi _ _) (nI_clamp (show j < 2 ^ 31 by omega))).trans ((vi_skip (Or.inl (by decide))).trans ((vi_skip (Or.inl (by decide))).trans (cB.2.2.1.symm)))) ?_
                refine Go_ineg (pc' := 133) dX12_ground_132 rfl ?_
                refine Go_icmp_geZ (X := _) (Y := -(vi h q 4).toInt) (tgt := 146) (pc' := 136) dX12_ground_133 (by decide) rfl rfl (i_neg (by omega)) (fun c133 => ?_) (fun c133 => ?_)
                · refine Go_aload_n (pc' := 147) dX12_ground_146 rfl rfl rfl ?_
                  refine Go_getRs (pc' := 150) dX12_ground_147 rfl kf_RX12_22 (by decide) (by decide) rfl (I.S.b 99 rfl rfl) (I.S.o 99 rfl rfl rfl) (I.S.r 99 5 rfl rfl rfl) ?_
                  refine Go_iload_n (pc' := 151) dX12_ground_150 rfl rfl rfl ?_
                  refine Go_iaload (n := 6) (v := ((vi h q 5) + (((vi h q 6) + b) - ((((vi h q 2) * (vi h q 6)) + ((vi h q 3) * (vi h q 5))) / 64)))) (pc' := 152) dX12_ground_151 rfl (I.S.b 104 rfl rfl) (I.S.k 104 rfl rfl rfl) (by exact inR_nI (by omega) (by decide)) ((congrArg (vi _ _) (nI_clamp (show j < 2 ^ 31 by omega))).trans (vi_same)) ?_
                  refine Go_istore_n (pc' := 153) (lv' := [.ref _, .int _, .int _, .int _]) dX12_ground_152 rfl rfl (Nat.le_of_ble_eq_true rfl) rfl rfl ?_
                  refine Go_aload_n (pc' := 154) dX12_ground_153 rfl rfl rfl ?_
                  refine Go_getRs (pc' := 157) dX12_ground_154 rfl kf_RX12_28 (by decide) (by decide) rfl (I.S.b 99 rfl rfl) (I.S.o 99 rfl rfl rfl) (I.S.r 99 7 rfl rfl rfl) ?_
                  refine Go_sipush (v := 200) (pc' := 160) dX12_ground_157 rfl (by decide) ?_
                  refine Go_iload_n (pc' := 161) dX12_ground_160 rfl rfl rfl ?_
                  refine Go_imul (pc' := 162) dX12_ground_161 rfl ?_
                  rw [show (200 : Int32) * nI j = nI (200 * j) from pk_mul 200 j]
                  refine Go_aload_n (pc' := 163) dX12_ground_162 rfl rfl rfl ?_
                  refine Go_getRs (pc' := 166) dX12_ground_163 rfl kf_RX12_31 (by decide) (by decide) rfl (I.S.b 99 rfl rfl) (I.S.o 99 rfl rfl rfl) (I.S.r 99 8 rfl rfl rfl) ?_
                  refine Go_iload_n (pc' := 167) dX12_ground_166 rfl rfl rfl ?_
                  refine Go_iaload (n := 6) (v := (nI n)) (pc' := 168) dX12_ground_167 rfl (I.S.b 107 rfl rfl) (I.S.k 107 rfl rfl rfl) (by exact inR_nI (by omega) (by decide)) ((congrArg (vi _ _) (nI_clamp (show j < 2 ^ 31 by omega))).trans ((vi_skip (Or.inl (by decide))).trans ((vi_skip (Or.inl (by decide))).trans (en2)))) ?_
                  refine Go_iadd (pc' := 169) dX12_ground_168 rfl ?_
                  rw [nI_add]
                  refine Go_iload_n (pc' := 170) dX12_ground_169 rfl rfl rfl ?_
                  refine Go_iastore (n := 1200) (pc' := 171) dX12_ground_170 rfl (I.S.b 106 rfl rfl) (I.S.k 106 rfl rfl rfl) (by exact inR_nI (by omega) (by decide)) ?_
                  rw [nI_clamp (show 200 * j + n < 2 ^ 31 by omega)]
                  refine Go_aload_n (pc' := 172) dX12_ground_171 rfl rfl rfl ?_
                  refine Go_getRs (pc' := 175) dX12_ground_172 rfl kf_RX12_31 (by decide) (by decide) rfl (I.S.b 99 rfl rfl) (I.S.o 99 rfl rfl rfl) (I.S.r 99 8 rfl rfl rfl) ?_
                  refine Go_iload_n (pc' := 176) dX12_ground_175 rfl rfl rfl ?_
                  refine Go_dup2 (pc' := 177) dX12_ground_176 rfl rfl rfl ?_
                  refine Go_iaload (n := 6) (v := (nI n)) (pc' := 178) dX12_ground_177 rfl (I.S.b 107 rfl rfl) (I.S.k 107 rfl rfl rfl) (by exact inR_nI (by omega) (by decide)) ((congrArg (vi _ _) (nI_clamp (show j < 2 ^ 31 by omega))).trans ((vi_skip (Or.inl (by decide))).trans ((vi_skip (Or.inl (by decide))).trans ((vi_skip (Or.inl (by decide))).trans (en2))))) ?_
                  refine Go_iconst (v := 1) (pc' := 179) dX12_ground_178 rfl (by decide) ?_
                  refine Go_iadd (pc' := 180) dX12_ground_179 rfl ?_
                  rw [nI_1]
                  refine Go_iastore (n := 6) (pc' := 181) dX12_ground_180 rfl (I.S.b 107 rfl rfl) (I.S.k 107 rfl rfl rfl) (by exact inR_nI (by omega) (by decide)) ?_
                  rw [nI_clamp (show j < 2 ^ 31 by omega)]
                  refine Go_iload_n (pc' := 182) dX12_ground_181 rfl rfl rfl ?_
                  refine Go_ireturn (ty := .int) dX12_ground_182 rfl rfl ?_
                  exfalso; omega
                · refine Go_aload_n (pc' := 137) dX12_ground_136 rfl rfl rfl ?_
                  refine Go_getRs (pc' := 140) dX12_ground_137 rfl kf_RX12_19 (by decide) (by decide) rfl (I.S.b 99 rfl rfl) (I.S.o 99 rfl rfl rfl) (I.S.r 99 4 rfl rfl rfl) ?_
                  refine Go_iload_n (pc' := 141) dX12_ground_140 rfl rfl rfl ?_
                  refine Go_iaload (n := 6) (v := (vi h q 4)) (pc' := 142) dX12_ground_141 rfl (I.S.b 103 rfl rfl) (I.S.k 103 rfl rfl rfl) (by exact inR_nI (by omega) (by decide)) ((congrArg (vi _ _) (nI_clamp (show j < 2 ^ 31 by omega))).trans ((vi_skip (Or.inl (by decide))).trans ((vi_skip (Or.inl (by decide))).trans (cB.2.2.1.symm)))) ?_
                  refine Go_ineg (pc' := 143) dX12_ground_142 rfl ?_
                  refine Go_goto (tgt := 152) dX12_ground_143 (by decide) ?_
                  refine Go_istore_n (pc' := 153) (lv' := [.ref _, .int _, .int _, .int _]) dX12_ground_152 rfl rfl (Nat.le_of_ble_eq_true rfl) rfl rfl ?_
                  refine Go_aload_n (pc' := 154) dX12_ground_153 rfl rfl rfl ?_
                  refine Go_getRs (pc' := 157) dX12_ground_154 rfl kf_RX12_28 (by decide) (by decide) rfl (I.S.b 99 rfl rfl) (I.S.o 99 rfl rfl rfl) (I.S.r 99 7 rfl rfl rfl) ?_
                  refine Go_sipush (v := 200) (pc' := 160) dX12_ground_157 rfl (by decide) ?_
                  refine Go_iload_n (pc' := 161) dX12_ground_160 rfl rfl rfl ?_
                  refine Go_imul (pc' := 162) dX12_ground_161 rfl ?_
                  rw [show (200 : Int32) * nI j = nI (200 * j) from pk_mul 200 j]
                  refine Go_aload_n (pc' := 163) dX12_ground_162 rfl rfl rfl ?_
                  refine Go_getRs (pc' := 166) dX12_ground_163 rfl kf_RX12_31 (by decide) (by decide) rfl (I.S.b 99 rfl rfl) (I.S.o 99 rfl rfl rfl) (I.S.r 99 8 rfl rfl rfl) ?_
                  refine Go_iload_n (pc' := 167) dX12_ground_166 rfl rfl rfl ?_
                  refine Go_iaload (n := 6) (v := (nI n)) (pc' := 168) dX12_ground_167 rfl (I.S.b 107 rfl rfl) (I.S.k 107 rfl rfl rfl) (by exact inR_nI (by omega) (by decide)) ((congrArg (vi _ _) (nI_clamp (show j < 2 ^ 31 by omega))).trans ((vi_skip (Or.inl (by decide))).trans ((vi_skip (Or.inl (by decide))).trans (en2)))) ?_
                  refine Go_iadd (pc' := 169) dX12_ground_168 rfl ?_
                  rw [nI_add]
                  refine Go_iload_n (pc' := 170) dX12_ground_169 rfl rfl rfl ?_
                  refine Go_iastore (n := 1200) (pc' := 171) dX12_ground_170 rfl (I.S.b 106 rfl rfl) (I.S.k 106 rfl rfl rfl) (by exact inR_nI (by omega) (by decide)) ?_
                  rw [nI_clamp (show 200 * j + n < 2 ^ 31 by omega)]
                  refine Go_aload_n (pc' := 172) dX12_ground_171 rfl rfl rfl ?_
                  refine Go_getRs (pc' := 175) dX12_ground_172 rfl kf_RX12_31 (by decide) (by decide) rfl (I.S.b 99 rfl rfl) (I.S.o 99 rfl rfl rfl) (I.S.r 99 8 rfl rfl rfl) ?_
                  refine Go_iload_n (pc' := 176) dX12_ground_175 rfl rfl rfl ?_
                  refine Go_dup2 (pc' := 177) dX12_ground_176 rfl rfl rfl ?_
                  refine Go_iaload (n := 6) (v := (nI n)) (pc' := 178) dX12_ground_177 rfl (I.S.b 107 rfl rfl) (I.S.k 107 rfl rfl rfl) (by exact inR_nI (by omega) (by decide)) ((congrArg (vi _ _) (nI_clamp (show j < 2 ^ 31 by omega))).trans ((vi_skip (Or.inl (by decide))).trans ((vi_skip (Or.inl (by decide))).trans ((vi_skip (Or.inl (by decide))).trans (en2))))) ?_
                  refine Go_iconst (v := 1) (pc' := 179) dX12_ground_178 rfl (by decide) ?_
                  refine Go_iadd (pc' := 180) dX12_ground_179 rfl ?_
                  rw [nI_1]
                  refine Go_iastore (n := 6) (pc' := 181) dX12_ground_180 rfl (I.S.b 107 rfl rfl) (I.S.k 107 rfl rfl rfl) (by exact inR_nI (by omega) (by decide)) ?_
                  rw [nI_clamp (show j < 2 ^ 31 by omega)]
                  refine Go_iload_n (pc' := 182) dX12_ground_181 rfl rfl rfl ?_
                  refine Go_ireturn (ty := .int) dX12_ground_182 rfl rfl ?_
                  exfalso; omega
              · refine Go_aload_n (pc' := 112) dX12_ground_111 rfl rfl rfl ?_
                refine Go_getRs (pc' := 115) dX12_ground_112 rfl kf_RX12_19 (by decide) (by decide) rfl (I.S.b 99 rfl rfl) (I.S.o 99 rfl rfl rfl) (I.S.r 99 4 rfl rfl rfl) ?_
                refine Go_iload_n (pc' := 116) dX12_ground_115 rfl rfl rfl ?_
                refine Go_iaload (n := 6) (v := (vi h q 4)) (pc' := 117) dX12_ground_116 rfl (I.S.b 103 rfl rfl) (I.S.k 103 rfl rfl rfl) (by exact inR_nI (by omega) (by decide)) ((congrArg (vi _ _) (nI_clamp (show j < 2 ^ 31 by omega))).trans ((vi_skip (Or.inl (by decide))).trans ((vi_skip (Or.inl (by decide))).trans (cB.2.2.1.symm)))) ?_
                refine Go_goto (tgt := 152) dX12_ground_117 (by decide) ?_
                refine Go_istore_n (pc' := 153) (lv' := [.ref _, .int _, .int _, .int _]) dX12_ground_152 rfl rfl (Nat.le_of_ble_eq_true rfl) rfl rfl ?_
                refine Go_aload_n (pc' := 154) dX12_ground_153 rfl rfl rfl ?_
                refine Go_getRs (pc' := 157) dX12_ground_154 rfl kf_RX12_28 (by decide) (by decide) rfl (I.S.b 99 rfl rfl) (I.S.o 99 rfl rfl rfl) (I.S.r 99 7 rfl rfl rfl) ?_
                refine Go_sipush (v := 200) (pc' := 160) dX12_ground_157 rfl (by decide) ?_
                refine Go_iload_n (pc' := 161) dX12_ground_160 rfl rfl rfl ?_
                refine Go_imul (pc' := 162) dX12_ground_161 rfl ?_
                rw [show (200 : Int32) * nI j = nI (200 * j) from pk_mul 200 j]
                refine Go_aload_n (pc' := 163) dX12_ground_162 rfl rfl rfl ?_
                refine Go_getRs (pc' := 166) dX12_ground_163 rfl kf_RX12_31 (by decide) (by decide) rfl (I.S.b 99 rfl rfl) (I.S.o 99 rfl rfl rfl) (I.S.r 99 8 rfl rfl rfl) ?_
                refine Go_iload_n (pc' := 167) dX12_ground_166 rfl rfl rfl ?_
                refine Go_iaload (n := 6) (v := (nI n)) (pc' := 168) dX12_ground_167 rfl (I.S.b 107 rfl rfl) (I.S.k 107 rfl rfl rfl) (by exact inR_nI (by omega) (by decide)) ((congrArg (vi _ _) (nI_clamp (show j < 2 ^ 31 by omega))).trans ((vi_skip (Or.inl (by decide))).trans ((vi_skip (Or.inl (by decide))).trans (en2)))) ?_
                refine Go_iadd (pc' := 169) dX12_ground_168 rfl ?_
                rw [nI_add]
                refine Go_iload_n (pc' := 170) dX12_ground_169 rfl rfl rfl ?_
                refine Go_iastore (n := 1200) (pc' := 171) dX12_ground_170 rfl (I.S.b 106 rfl rfl) (I.S.k 106 rfl rfl rfl) (by exact inR_nI (by omega) (by decide)) ?_
                rw [nI_clamp (show 200 * j + n < 2 ^ 31 by omega)]
                refine Go_aload_n (pc' := 172) dX12_ground_171 rfl rfl rfl ?_
                refine Go_getRs (pc' := 175) dX12_ground_172 rfl kf_RX12_31 (by decide) (by decide) rfl (I.S.b 99 rfl rfl) (I.S.o 99 rfl rfl rfl) (I.S.r 99 8 rfl rfl rfl) ?_
                refine Go_iload_n (pc' := 176) dX12_ground_175 rfl rfl rfl ?_
                refine Go_dup2 (pc' := 177) dX12_ground_176 rfl rfl rfl ?_
                refine Go_iaload (n := 6) (v := (nI n)) (pc' := 178) dX12_ground_177 rfl (I.S.b 107 rfl rfl) (I.S.k 107 rfl rfl rfl) (by exact inR_nI (by omega) (by decide)) ((congrArg (vi _ _) (nI_clamp (show j < 2 ^ 31 by omega))).trans ((vi_skip (Or.inl (by decide))).trans ((vi_skip (Or.inl (by decide))).trans ((vi_skip (Or.inl (by decide))).trans (en2))))) ?_
                refine Go_iconst (v := 1) (pc' := 179) dX12_ground_178 rfl (by decide) ?_
                refine Go_iadd (pc' := 180) dX12_ground_179 rfl ?_
                rw [nI_1]
                refine Go_iastore (n := 6) (pc' := 181) dX12_ground_180 rfl (I.S.b 107 rfl rfl) (I.S.k 107 rfl rfl rfl) (by exact inR_nI (by omega) (by decide)) ?_
                rw [nI_clamp (show j < 2 ^ 31 by omega)]
                refine Go_iload_n (pc' := 182) dX12_ground_181 rfl rfl rfl ?_
                refine Go_ireturn (ty := .int) dX12_ground_182 rfl rfl ?_
                exfalso; omega
            · refine Go_ldc (pc' := 35) dX12_ground_33 rfl kn_RX12_162 ?_
              refine Go_ireturn (ty := .int) dX12_ground_35 rfl rfl ?_
              exact k _ I
