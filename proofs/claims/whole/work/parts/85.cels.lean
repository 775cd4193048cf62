/-! pairs: pen, clock, habit -/
set_option maxRecDepth 20000 in
set_option maxHeartbeats 1000000 in
theorem s_cellarOf0 {G : GC} {d mc ms : Nat} {h : HS} {K : Option Value → HS → Prop} {c : Int32} (I : Inv h) (hn : ¬ (0 ≤ c.toInt ∧ c.toInt < (vi h 64 2).toInt)) (hk : K (some (va_rf none)) h) : Go G (d + 1) mc ms M_X11_cellarOf 0 [.ref 64, .int c] [] h K := by
  have e1 : (vi h 64 2 - 1).toInt = (vi h 64 2).toInt - 1 := by have := I.C.1.2; unfold rg at this; exact i_sub (by show _ ≤ _ - (1 : Int); omega) (by show _ - (1 : Int) < _; omega)
  refine Go_iload_n (pc' := 1) dX11_cellarOf_0 rfl rfl rfl ?_
  refine Go_iconst (v := 0) (pc' := 2) dX11_cellarOf_1 rfl (by decide) ?_
  refine Go_aload_n (pc' := 3) dX11_cellarOf_2 rfl rfl rfl ?_
  refine Go_getIv (v := (vi h 64 2)) (pc' := 6) dX11_cellarOf_3 rfl kf_RX11_84 (by decide) (by decide) rfl (I.S.b 64 rfl rfl) (I.S.o 64 rfl rfl rfl) rfl ?_
  refine Go_iconst (v := 1) (pc' := 7) dX11_cellarOf_6 rfl (by decide) ?_
  refine Go_isub (pc' := 8) dX11_cellarOf_7 rfl ?_
  refine Go_callS_i (pc' := 11) (As := [.int _, .int _, .int _]) (st := []) dX11_cellarOf_8 rfl ok_X11_within km_RX11_94 rfl (Nat.le_of_ble_eq_true rfl) rfl rfl rfl (Nat.le_of_ble_eq_true rfl) (Nat.lt_succ_self _) ?_
  refine s_withinZ (l := 0) (u := (vi h 64 2).toInt - 1) rfl e1 ?_
  refine ⟨_, rfl, ?_⟩
  refine Go_if_eqb (tgt := 32) (pc' := 14) dX11_cellarOf_11 (by decide) rfl (fun c11 => ?_) (fun c11 => ?_)
  · refine Go_null (pc' := 33) dX11_cellarOf_32 rfl ?_
    refine Go_areturn (r := none) dX11_cellarOf_33 rfl ?_
    exact hk
  · exfalso; omega
set_option maxRecDepth 20000 in
set_option maxHeartbeats 1000000 in
theorem s_cellarOf1 {G : GC} {d mc ms : Nat} {h : HS} {K : Option Value → HS → Prop} {j q : Nat} (I : Inv h) (hj : (j : Int) < (vi h 64 2).toInt) (hq : ri h 67 j = some q) (hk : K (some (va_rf (some q))) h) : Go G (d + 1) mc ms M_X11_cellarOf 0 [.ref 64, .int (nI j)] [] h K := by
  have e1 : (vi h 64 2 - 1).toInt = (vi h 64 2).toInt - 1 := by have := I.C.1.2; unfold rg at this; exact i_sub (by show _ ≤ _ - (1 : Int); omega) (by show _ - (1 : Int) < _; omega)
  have h6 := I.C.1.2.2
  have ej : (nI j).toInt = (j : Int) := i_nI (by omega)
  refine Go_iload_n (pc' := 1) dX11_cellarOf_0 rfl rfl rfl ?_
  refine Go_iconst (v := 0) (pc' := 2) dX11_cellarOf_1 rfl (by decide) ?_
  refine Go_aload_n (pc' := 3) dX11_cellarOf_2 rfl rfl rfl ?_
  refine Go_getIv (v := (vi h 64 2)) (pc' := 6) dX11_cellarOf_3 rfl kf_RX11_84 (by decide) (by decide) rfl (I.S.b 64 rfl rfl) (I.S.o 64 rfl rfl rfl) rfl ?_
  refine Go_iconst (v := 1) (pc' := 7) dX11_cellarOf_6 rfl (by decide) ?_
  refine Go_isub (pc' := 8) dX11_cellarOf_7 rfl ?_
  refine Go_callS_i (pc' := 11) (As := [.int _, .int _, .int _]) (st := []) dX11_cellarOf_8 rfl ok_X11_within km_RX11_94 rfl (Nat.le_of_ble_eq_true rfl) rfl rfl rfl (Nat.le_of_ble_eq_true rfl) (Nat.lt_succ_self _) ?_
  refine s_withinZ (l := 0) (u := (vi h 64 2).toInt - 1) rfl e1 ?_
  refine ⟨_, rfl, ?_⟩
  refine Go_if_eqb (tgt := 32) (pc' := 14) dX11_cellarOf_11 (by decide) rfl (fun c11 => ?_) (fun c11 => ?_)
  · exfalso; omega
  · refine Go_iload_n (pc' := 15) dX11_cellarOf_14 rfl rfl rfl ?_
    refine Go_aload_n (pc' := 16) dX11_cellarOf_15 rfl rfl rfl ?_
    refine Go_getRs (pc' := 19) dX11_cellarOf_16 rfl kf_RX11_18 (by decide) (by decide) rfl (I.S.b 64 rfl rfl) (I.S.o 64 rfl rfl rfl) (I.S.r 64 1 rfl rfl rfl) ?_
    refine Go_alen (n := 6) (v := 6) (pc' := 20) dX11_cellarOf_19 rfl (I.S.b 67 rfl rfl) (I.S.k 67 rfl rfl rfl) (Or.inr (Or.inr ⟨_, rfl⟩)) rfl ?_
    refine Go_icmp_geZ (X := ((j : Nat) : Int)) (Y := (6)) (tgt := 32) (pc' := 23) dX11_cellarOf_20 (by decide) rfl (i_nI (by omega)) rfl (fun c20 => ?_) (fun c20 => ?_)
    · exfalso; omega
    · refine Go_aload_n (pc' := 24) dX11_cellarOf_23 rfl rfl rfl ?_
      refine Go_getRs (pc' := 27) dX11_cellarOf_24 rfl kf_RX11_18 (by decide) (by decide) rfl (I.S.b 64 rfl rfl) (I.S.o 64 rfl rfl rfl) (I.S.r 64 1 rfl rfl rfl) ?_
      refine Go_iload_n (pc' := 28) dX11_cellarOf_27 rfl rfl rfl ?_
      refine Go_aaloads (n := 6) (pc' := 29) dX11_cellarOf_28 rfl (I.S.b 67 rfl rfl) (I.S.k 67 rfl rfl rfl) rfl (by exact inR_nI (by omega) (by decide)) (by rw [nI_clamp (by omega)]; exact hq) ?_
      refine Go_goto (tgt := 33) dX11_cellarOf_29 (by decide) ?_
      refine Go_areturn (r := some _) dX11_cellarOf_33 rfl ?_
      exact hk
set_option maxRecDepth 20000 in
set_option maxHeartbeats 1000000 in
theorem s_isCellar0 {G : GC} {d mc ms : Nat} {h : HS} {K : Option Value → HS → Prop} {c n : Int32} (S : Shp h) (en : vi h 99 0 = n) (hn6 : rg n 0 6) (hn : ¬ (0 ≤ c.toInt ∧ c.toInt < n.toInt)) (hk : K (some (.int 0)) h) : Go G (d + 1) mc ms M_X12_isCellar 0 [.ref 99, .int c] [] h K := by
  have e1 : (n - 1).toInt = n.toInt - 1 := by unfold rg at hn6; exact i_sub (by show _ ≤ _ - (1 : Int); omega) (by show _ - (1 : Int) < _; omega)
  refine Go_iload_n (pc' := 1) dX12_isCellar_0 rfl rfl rfl ?_
  refine Go_iconst (v := 0) (pc' := 2) dX12_isCellar_1 rfl (by decide) ?_
  refine Go_aload_n (pc' := 3) dX12_isCellar_2 rfl rfl rfl ?_
  refine Go_getIv (v := n) (pc' := 6) dX12_isCellar_3 rfl kf_RX12_151 (by decide) (by decide) rfl (S.b 99 rfl rfl) (S.o 99 rfl rfl rfl) (en) ?_
  refine Go_iconst (v := 1) (pc' := 7) dX12_isCellar_6 rfl (by decide) ?_
  refine Go_isub (pc' := 8) dX12_isCellar_7 rfl ?_
  refine Go_callS_i (pc' := 11) (As := [.int _, .int _, .int _]) (st := []) dX12_isCellar_8 rfl ok_X12_isIn km_RX12_147 rfl (Nat.le_of_ble_eq_true rfl) rfl rfl rfl (Nat.le_of_ble_eq_true rfl) (Nat.lt_succ_self _) ?_
  refine s_isInZ (l := 0) (u := n.toInt - 1) rfl e1 ?_
  refine ⟨_, rfl, ?_⟩
  refine Go_ireturn (ty := .boolean) dX12_isCellar_11 rfl b2i_nb ?_
  rw [b2i_f (by omega)]; exact hk
set_option maxRecDepth 20000 in
set_option maxHeartbeats 1000000 in
theorem s_isCellar1 {G : GC} {d mc ms : Nat} {h : HS} {K : Option Value → HS → Prop} {j : Nat} {n : Int32} (S : Shp h) (en : vi h 99 0 = n) (hj : (j : Int) < n.toInt) (hj6 : j < 6) (h6 : n.toInt ≤ 6) (hk : K (some (.int 1)) h) : Go G (d + 1) mc ms M_X12_isCellar 0 [.ref 99, .int (nI j)] [] h K := by
  have e1 : (n - 1).toInt = n.toInt - 1 := i_sub (by show _ ≤ _ - (1 : Int); omega) (by show _ - (1 : Int) < _; omega)
  have ej : (nI j).toInt = (j : Int) := i_nI (by omega)
  refine Go_iload_n (pc' := 1) dX12_isCellar_0 rfl rfl rfl ?_
  refine Go_iconst (v := 0) (pc' := 2) dX12_isCellar_1 rfl (by decide) ?_
  refine Go_aload_n (pc' := 3) dX12_isCellar_2 rfl rfl rfl ?_
  refine Go_getIv (v := n) (pc' := 6) dX12_isCellar_3 rfl kf_RX12_151 (by decide) (by decide) rfl (S.b 99 rfl rfl) (S.o 99 rfl rfl rfl) (en) ?_
  refine Go_iconst (v := 1) (pc' := 7) dX12_isCellar_6 rfl (by decide) ?_
  refine Go_isub (pc' := 8) dX12_isCellar_7 rfl ?_
  refine Go_callS_i (pc' := 11) (As := [.int _, .int _, .int _]) (st := []) dX12_isCellar_8 rfl ok_X12_isIn km_RX12_147 rfl (Nat.le_of_ble_eq_true rfl) rfl rfl rfl (Nat.le_of_ble_eq_true rfl) (Nat.lt_succ_self _) ?_
  refine s_isInZ (l := 0) (u := n.toInt - 1) rfl e1 ?_
  refine ⟨_, rfl, ?_⟩
  refine Go_ireturn (ty := .boolean) dX12_isCellar_11 rfl b2i_nb ?_
  rw [b2i_t (by omega)]; exact hk
set_option maxRecDepth 20000 in
set_option maxHeartbeats 1000000 in
theorem pair1 {G : GC} (a b c e : Int32) : PairI G M_X11_pen M_X12_pen [.int a, .int b, .int c, .int e] := by
  intro h I
  rcases cel_cases I a with hn | ⟨j, q, rfl, hj6, hj, hq, CS, CV⟩
  · refine PairI.ro' (fun _ => 0) h I (fun K k => ?_) (fun K k => ?_)
    · show Go G 60 0 0 M_X11_pen 0 [.ref 64, .int a, .int b, .int c, .int e, un] [] h K
      refine Go_aload_n (pc' := 1) dX11_pen_0 rfl rfl rfl ?_
      refine Go_iload_n (pc' := 2) dX11_pen_1 rfl rfl rfl ?_
      refine Go_callV_r (pc' := 5) (As := [.int _]) (st := []) dX11_pen_2 rfl ok_X11_cellarOf km_RX11_90 (I.S.o 64 rfl rfl rfl) (I.S.b 64 rfl rfl) ⟨_, _, rfl⟩ rfl (Nat.le_of_ble_eq_true rfl) rfl rfl rfl (Nat.le_of_ble_eq_true rfl) (Nat.lt_succ_self _) ?_
      refine s_cellarOf0 I hn ?_
      refine ⟨none, rfl, ?_⟩
      refine Go_astoreN (pc' := 7) (lv' := [.ref _, .int _, .int _, .int _, .int _, .null]) dX11_pen_5 rfl (Nat.le_of_ble_eq_true rfl) rfl rfl ?_
      refine Go_aloadN (pc' := 9) dX11_pen_7 rfl rfl ?_
      refine Go_ifnullN (tgt := 45) dX11_pen_9 (by decide) ?_
      refine Go_iconst (v := 0) (pc' := 46) dX11_pen_45 rfl (by decide) ?_
      refine Go_ireturn (ty := .boolean) dX11_pen_46 rfl rfl ?_
      exact k
    · show Go G 60 0 0 M_X12_pen 0 [.ref 99, .int a, .int b, .int c, .int e] [] h K
      refine Go_aload_n (pc' := 1) dX12_pen_0 rfl rfl rfl ?_
      refine Go_iload_n (pc' := 2) dX12_pen_1 rfl rfl rfl ?_
      refine Go_callV_i (pc' := 5) (As := [.int _]) (st := []) dX12_pen_2 rfl ok_X12_isCellar km_RX12_158 (I.S.o 99 rfl rfl rfl) (I.S.b 99 rfl rfl) ⟨_, _, rfl⟩ rfl (Nat.le_of_ble_eq_true rfl) rfl rfl rfl (Nat.le_of_ble_eq_true rfl) (Nat.lt_succ_self _) ?_
      refine s_isCellar0 I.S I.C.1.1 I.C.1.2 hn ?_
      refine ⟨_, rfl, ?_⟩
      refine Go_if_eqZ (X := (0)) (tgt := 41) (pc' := 8) dX12_pen_5 (by decide) rfl rfl (fun c5 => ?_) (fun c5 => ?_)
      · refine Go_iconst (v := 0) (pc' := 42) dX12_pen_41 rfl (by decide) ?_
        refine Go_ireturn (ty := .boolean) dX12_pen_42 rfl rfl ?_
        exact k
      · exact absurd c5 (by decide)
  · obtain ⟨cA, cB, cC, cD, cE, cF, cG⟩ := CV
    have hq0 := CS.1
    refine ⟨fun r h1 => (((0 ≤ b.toInt ∧ b.toInt ≤ 63) ∧ (0 ≤ c.toInt ∧ c.toInt ≤ 63) ∧ (10 ≤ e.toInt ∧ e.toInt ≤ 999)) ∧ r = 1 ∧ h1 = (wI (wI (wI h q 2 b) q 3 c) q 4 e)) ∨ (¬ ((0 ≤ b.toInt ∧ b.toInt ≤ 63) ∧ (0 ≤ c.toInt ∧ c.toInt ≤ 63) ∧ (10 ≤ e.toInt ∧ e.toInt ≤ 999)) ∧ r = 0 ∧ h = h1), fun K k => ?_, ?_⟩
    · refine Go.more (d := 60) (mc := 0) (ms := 0) ?_ (by omega) (by omega) (by omega)
      show Go G 60 0 0 M_X11_pen 0 [.ref 64, .int (nI j), .int b, .int c, .int e, un] [] h K
      refine Go_aload_n (pc' := 1) dX11_pen_0 rfl rfl rfl ?_
      refine Go_iload_n (pc' := 2) dX11_pen_1 rfl rfl rfl ?_
      refine Go_callV_r (pc' := 5) (As := [.int _]) (st := []) dX11_pen_2 rfl ok_X11_cellarOf km_RX11_90 (I.S.o 64 rfl rfl rfl) (I.S.b 64 rfl rfl) ⟨_, _, rfl⟩ rfl (Nat.le_of_ble_eq_true rfl) rfl rfl rfl (Nat.le_of_ble_eq_true rfl) (Nat.lt_succ_self _) ?_
      refine s_cellarOf1 I hj hq ?_
      refine ⟨some _, rfl, ?_⟩
      refine Go_astore (pc' := 7) (lv' := [.ref _, .int _, .int _, .int _, .int _, .ref _]) dX11_pen_5 rfl (Nat.le_of_ble_eq_true rfl) rfl rfl ?_
      refine Go_aload (pc' := 9) dX11_pen_7 rfl rfl ?_
      refine Go_ifnull (pc' := 12) dX11_pen_9 rfl ?_
      refine Go_iload_n (pc' := 13) dX11_pen_12 rfl rfl rfl ?_
      refine Go_iconst (v := 0) (pc' := 14) dX11_pen_13 rfl (by decide) ?_
      refine Go_bipush (v := 63) (pc' := 16) dX11_pen_14 rfl (by decide) ?_
      refine Go_callS_i (pc' := 19) (As := [.int _, .int _, .int _]) (st := []) dX11_pen_16 rfl ok_X11_within km_RX11_94 rfl (Nat.le_of_ble_eq_true rfl) rfl rfl rfl (Nat.le_of_ble_eq_true rfl) (Nat.lt_succ_self _) ?_
      refine s_withinZ (l := (0)) (u := (63)) rfl rfl ?_
      refine ⟨_, rfl, ?_⟩
      refine Go_if_eqb (tgt := 45) (pc' := 22) dX11_pen_19 (by decide) rfl (fun c19 => ?_) (fun c19 => ?_)
      · refine Go_iconst (v := 0) (pc' := 46) dX11_pen_45 rfl (by decide) ?_
        refine Go_ireturn (ty := .boolean) dX11_pen_46 rfl rfl ?_
        exact k _ _ (Or.inr ⟨by omega, rfl, rfl⟩) I.S
      · refine Go_iload_n (pc' := 23) dX11_pen_22 rfl rfl rfl ?_
        refine Go_iconst (v := 0) (pc' := 24) dX11_pen_23 rfl (by decide) ?_
        refine Go_bipush (v := 63) (pc' := 26) dX11_pen_24 rfl (by decide) ?_
        refine Go_callS_i (pc' := 29) (As := [.int _, .int _, .int _]) (st := []) dX11_pen_26 rfl ok_X11_within km_RX11_94 rfl (Nat.le_of_ble_eq_true rfl) rfl rfl rfl (Nat.le_of_ble_eq_true rfl) (Nat.lt_succ_self _) ?_
        refine s_withinZ (l := (0)) (u := (63)) rfl rfl ?_
        refine ⟨_, rfl, ?_⟩
        refine Go_if_eqb (tgt := 45) (pc' := 32) dX11_pen_29 (by decide) rfl (fun c29 => ?_) (fun c29 => ?_)
        · refine Go_iconst (v := 0) (pc' := 46) dX11_pen_45 rfl (by decide) ?_
          refine Go_ireturn (ty := .boolean) dX11_pen_46 rfl rfl ?_
          exact k _ _ (Or.inr ⟨by omega, rfl, rfl⟩) I.S
        · refine Go_iload (pc' := 34) dX11_pen_32 rfl rfl ?_
          refine Go_bipush (v := 10) (pc' := 36) dX11_pen_34 rfl (by decide) ?_
          refine Go_sipush (v := 999) (pc' := 39) dX11_pen_36 rfl (by decide) ?_
          refine Go_callS_i (pc' := 42) (As := [.int _, .int _, .int _]) (st := []) dX11_pen_39 rfl ok_X11_within km_RX11_94 rfl (Nat.le_of_ble_eq_true rfl) rfl rfl rfl (Nat.le_of_ble_eq_true rfl) (Nat.lt_succ_self _) ?_
          refine s_withinZ (l := (10)) (u := (999)) rfl rfl ?_
          refine ⟨_, rfl, ?_⟩
          refine Go_if_neb (tgt := 47) (pc' := 45) dX11_pen_42 (by decide) rfl (fun c42 => ?_) (fun c42 => ?_)
          · refine Go_aload (pc' := 49) dX11_pen_47 rfl rfl ?_
            refine Go_iload_n (pc' := 50) dX11_pen_49 rfl rfl rfl ?_
            refine Go_putI (pc' := 53) dX11_pen_50 rfl kf_RX11_98 (by decide) (by decide) rfl CS.b CS.o (Or.inl rfl) rfl rfl ?_
            refine Go_aload (pc' := 55) dX11_pen_53 rfl rfl ?_
            refine Go_iload_n (pc' := 56) dX11_pen_55 rfl rfl rfl ?_
            refine Go_putI (pc' := 59) dX11_pen_56 rfl kf_RX11_101 (by decide) (by decide) rfl CS.b CS.o (Or.inl rfl) rfl rfl ?_
            refine Go_aload (pc' := 61) dX11_pen_59 rfl rfl ?_
            refine Go_iload (pc' := 63) dX11_pen_61 rfl rfl ?_
            refine Go_putI (pc' := 66) dX11_pen_63 rfl kf_RX11_104 (by decide) (by decide) rfl CS.b CS.o (Or.inl rfl) rfl rfl ?_
            refine Go_iconst (v := 1) (pc' := 67) dX11_pen_66 rfl (by decide) ?_
            refine Go_ireturn (ty := .boolean) dX11_pen_67 rfl rfl ?_
            exact k _ _ (Or.inl ⟨by omega, rfl, rfl⟩) I.S
          · refine Go_iconst (v := 0) (pc' := 46) dX11_pen_45 rfl (by decide) ?_
            refine Go_ireturn (ty := .boolean) dX11_pen_46 rfl rfl ?_
            exact k _ _ (Or.inr ⟨by omega, rfl, rfl⟩) I.S
    · rintro r h1 (⟨hc, rfl, rfl⟩ | ⟨hc, rfl, rfl⟩) K k
      · show Go G 60 0 0 M_X12_pen 0 [.ref 99, .int (nI j), .int b, .int c, .int e] [] (wI (wI (wI h q 2 b) q 3 c) q 4 e) K
        refine Go_aload_n (pc' := 1) dX12_pen_0 rfl rfl rfl ?_
        refine Go_iload_n (pc' := 2) dX12_pen_1 rfl rfl rfl ?_
        refine Go_callV_i (pc' := 5) (As := [.int _]) (st := []) dX12_pen_2 rfl ok_X12_isCellar km_RX12_158 (I.S.o 99 rfl rfl rfl) (I.S.b 99 rfl rfl) ⟨_, _, rfl⟩ rfl (Nat.le_of_ble_eq_true rfl) rfl rfl rfl (Nat.le_of_ble_eq_true rfl) (Nat.lt_succ_self _) ?_
        refine s_isCellar1 (n := vi h 64 2) I.S ((vi_skip (Or.inl (by omega))).trans ((vi_skip (Or.inl (by omega))).trans ((vi_skip (Or.inl (by omega))).trans (I.C.1.1)))) hj hj6 I.C.1.2.2 ?_
        refine ⟨_, rfl, ?_⟩
        refine Go_if_eqZ (X := (1)) (tgt := 41) (pc' := 8) dX12_pen_5 (by decide) rfl rfl (fun c5 => ?_) (fun c5 => ?_)
        · exact absurd c5 (by decide)
        · refine Go_iload_n (pc' := 9) dX12_pen_8 rfl rfl rfl ?_
          refine Go_iconst (v := 0) (pc' := 10) dX12_pen_9 rfl (by decide) ?_
          refine Go_bipush (v := 63) (pc' := 12) dX12_pen_10 rfl (by decide) ?_
          refine Go_callS_i (pc' := 15) (As := [.int _, .int _, .int _]) (st := []) dX12_pen_12 rfl ok_X12_isIn km_RX12_147 rfl (Nat.le_of_ble_eq_true rfl) rfl rfl rfl (Nat.le_of_ble_eq_true rfl) (Nat.lt_succ_self _) ?_
          refine s_isInZ (l := (0)) (u := (63)) rfl rfl ?_
          refine ⟨_, rfl, ?_⟩
          refine Go_if_eqb (tgt := 41) (pc' := 18) dX12_pen_15 (by decide) rfl (fun c15 => ?_) (fun c15 => ?_)
          · refine Go_iconst (v := 0) (pc' := 42) dX12_pen_41 rfl (by decide) ?_
            refine Go_ireturn (ty := .boolean) dX12_pen_42 rfl rfl ?_
            exfalso; omega
          · refine Go_iload_n (pc' := 19) dX12_pen_18 rfl rfl rfl ?_
            refine Go_iconst (v := 0) (pc' := 20) dX12_pen_19 rfl (by decide) ?_
            refine Go_bipush (v := 63) (pc' := 22) dX12_pen_20 rfl (by decide) ?_
            refine Go_callS_i (pc' := 25) (As := [.int _, .int _, .int _]) (st := []) dX12_pen_22 rfl ok_X12_isIn km_RX12_147 rfl (Nat.le_of_ble_eq_true rfl) rfl rfl rfl (Nat.le_of_ble_eq_true rfl) (Nat.lt_succ_self _) ?_
            refine s_isInZ (l := (0)) (u := (63)) rfl rfl ?_
            refine ⟨_, rfl, ?_⟩
            refine Go_if_eqb (tgt := 41) (pc' := 28) dX12_pen_25 (by decide) rfl (fun c25 => ?_) (fun c25 => ?_)
            · refine Go_iconst (v := 0) (pc' := 42) dX12_pen_41 rfl (by decide) ?_
              refine Go_ireturn (ty := .boolean) dX12_pen_42 rfl rfl ?_
              exfalso; omega
            · refine Go_iload (pc' := 30) dX12_pen_28 rfl rfl ?_
              refine Go_bipush (v := 10) (pc' := 32) dX12_pen_30 rfl (by decide) ?_
              refine Go_sipush (v := 999) (pc' := 35) dX12_pen_32 rfl (by decide) ?_
              refine Go_callS_i (pc' := 38) (As := [.int _, .int _, .int _]) (st := []) dX12_pen_35 rfl ok_X12_isIn km_RX12_147 rfl (Nat.le_of_ble_eq_true rfl) rfl rfl rfl (Nat.le_of_ble_eq_true rfl) (Nat.lt_succ_self _) ?_
              refine s_isInZ (l := (10)) (u := (999)) rfl rfl ?_
              refine ⟨_, rfl, ?_⟩
              refine Go_if_neb (tgt := 43) (pc' := 41) dX12_pen_38 (by decide) rfl (fun c38 => ?_) (fun c38 => ?_)
              · refine Go_aload_n (pc' := 44) dX12_pen_43 rfl rfl rfl ?_
                refine Go_getRs (pc' := 47) dX12_pen_44 rfl kf_RX12_13 (by decide) (by decide) rfl (I.S.b 99 rfl rfl) (I.S.o 99 rfl rfl rfl) (I.S.r 99 2 rfl rfl rfl) ?_
                refine Go_iload_n (pc' := 48) dX12_pen_47 rfl rfl rfl ?_
                refine Go_iload_n (pc' := 49) dX12_pen_48 rfl rfl rfl ?_
                refine Go_iastore (n := 6) (pc' := 50) dX12_pen_49 rfl (I.S.b 101 rfl rfl) (I.S.k 101 rfl rfl rfl) (by exact inR_nI (by omega) (by decide)) ?_
                rw [nI_clamp (show j < 2 ^ 31 by omega)]
                refine Go_aload_n (pc' := 51) dX12_pen_50 rfl rfl rfl ?_
                refine Go_getRs (pc' := 54) dX12_pen_51 rfl kf_RX12_16 (by decide) (by decide) rfl (I.S.b 99 rfl rfl) (I.S.o 99 rfl rfl rfl) (I.S.r 99 3 rfl rfl rfl) ?_
                refine Go_iload_n (pc' := 55) dX12_pen_54 rfl rfl rfl ?_
                refine Go_iload_n (pc' := 56) dX12_pen_55 rfl rfl rfl ?_
                refine Go_iastore (n := 6) (pc' := 57) dX12_pen_56 rfl (I.S.b 102 rfl rfl) (I.S.k 102 rfl rfl rfl) (by exact inR_nI (by omega) (by decide)) ?_
                rw [nI_clamp (show j < 2 ^ 31 by omega)]
                refine Go_aload_n (pc' := 58) dX12_pen_57 rfl rfl rfl ?_
                refine Go_getRs (pc' := 61) dX12_pen_58 rfl kf_RX12_19 (by decide) (by decide) rfl (I.S.b 99 rfl rfl) (I.S.o 99 rfl rfl rfl) (I.S.r 99 4 rfl rfl rfl) ?_
                refine Go_iload_n (pc' := 62) dX12_pen_61 rfl rfl rfl ?_
                refine Go_iload (pc' := 64) dX12_pen_62 rfl rfl ?_
                refine Go_iastore (n := 6) (pc' := 65) dX12_pen_64 rfl (I.S.b 103 rfl rfl) (I.S.k 103 rfl rfl rfl) (by exact inR_nI (by omega) (by decide)) ?_
                rw [nI_clamp (show j < 2 ^ 31 by omega)]
                refine Go_iconst (v := 1) (pc' := 66) dX12_pen_65 rfl (by decide) ?_
                refine Go_ireturn (ty := .boolean) dX12_pen_66 rfl rfl ?_
                exact k _ (I.cel hj hq CS (((((((Dif.rf _ _ _).wI (by unfold OwnW; omega)).wI (by unfold OwnW; omega)).wI (by unfold OwnW; omega)).wI (by unfold OwnW; omega)).wI (by unfold OwnW; omega)).wI (by unfold OwnW; omega)) ⟨cA.fr (((((((SameP.rf _ _).wI (by unfold fA; omega)).wI (by unfold fA; omega)).wI (by unfold fA; omega)).wI (by unfold fA; omega)).wI (by unfold fA; omega)).wI (by unfold fA; omega)), ⟨⟨(((vi_skip (Or.inl (by omega))).trans ((vi_skip (Or.inl (by omega))).trans ((vi_skip (Or.inl (by omega))).trans ((vi_skip (Or.inr (by decide))).trans ((vi_skip (Or.inr (by decide))).trans (vi_same)))))).trans ((vi_skip (Or.inl (by decide))).trans ((vi_skip (Or.inl (by decide))).trans (vi_same))).symm), (by rw [show vi (wI (wI (wI (wI (wI (wI h q 2 b) q 3 c) q 4 e) 101 j b) 102 j c) 103 j e) q 2 = b from ((vi_skip (Or.inl (by omega))).trans ((vi_skip (Or.inl (by omega))).trans ((vi_skip (Or.inl (by omega))).trans ((vi_skip (Or.inr (by decide))).trans ((vi_skip (Or.inr (by decide))).trans (vi_same))))))]; unfold rg; omega)⟩, ⟨(((vi_skip (Or.inl (by omega))).trans ((vi_skip (Or.inl (by omega))).trans ((vi_skip (Or.inl (by omega))).trans ((vi_skip (Or.inr (by decide))).trans (vi_same))))).trans ((vi_skip (Or.inl (by decide))).trans (vi_same)).symm), (by rw [show vi (wI (wI (wI (wI (wI (wI h q 2 b) q 3 c) q 4 e) 101 j b) 102 j c) 103 j e) q 3 = c from ((vi_skip (Or.inl (by omega))).trans ((vi_skip (Or.inl (by omega))).trans ((vi_skip (Or.inl (by omega))).trans ((vi_skip (Or.inr (by decide))).trans (vi_same)))))]; unfold rg; omega)⟩, ⟨(((vi_skip (Or.inl (by omega))).trans ((vi_skip (Or.inl (by omega))).trans ((vi_skip (Or.inl (by omega))).trans (vi_same)))).trans (vi_same).symm), (by rw [show vi (wI (wI (wI (wI (wI (wI h q 2 b) q 3 c) q 4 e) 101 j b) 102 j c) 103 j e) q 4 = e from ((vi_skip (Or.inl (by omega))).trans ((vi_skip (Or.inl (by omega))).trans ((vi_skip (Or.inl (by omega))).trans (vi_same))))]; unfold rg; omega)⟩⟩, cC.fr (((((((SameP.rf _ _).wI (by unfold fC; omega)).wI (by unfold fC; omega)).wI (by unfold fC; omega)).wI (by unfold fC; omega)).wI (by unfold fC; omega)).wI (by unfold fC; omega)), cD.fr (((((((SameP.rf _ _).wI (by unfold fD; omega)).wI (by unfold fD; omega)).wI (by unfold fD; omega)).wI (by unfold fD; omega)).wI (by unfold fD; omega)).wI (by unfold fD; omega)), cE.fr (((((((SameP.rf _ _).wI (by unfold fE; omega)).wI (by unfold fE; omega)).wI (by unfold fE; omega)).wI (by unfold fE; omega)).wI (by unfold fE; omega)).wI (by unfold fE; omega)), cF.fr (((((((SameP.rf _ _).wI (by unfold fF; omega)).wI (by unfold fF; omega)).wI (by unfold fF; omega)).wI (by unfold fF; omega)).wI (by unfold fF; omega)).wI (by unfold fF; omega)), cG.fr (((((((SameP.rf _ _).wI (by unfold fG; omega)).wI (by unfold fG; omega)).wI (by unfold fG; omega)).wI (by unfold fG; omega)).wI (by unfold fG; omega)).wI (by unfold fG; omega))⟩)
              · refine Go_iconst (v := 0) (pc' := 42) dX12_pen_41 rfl (by decide) ?_
                refine Go_ireturn (ty := .boolean) dX12_pen_42 rfl rfl ?_
                exfalso; omega
      · show Go G 60 0 0 M_X12_pen 0 [.ref 99, .int (nI j), .int b, .int c, .int e] [] h K
        refine Go_aload_n (pc' := 1) dX12_pen_0 rfl rfl rfl ?_
        refine Go_iload_n (pc' := 2) dX12_pen_1 rfl rfl rfl ?_
        refine Go_callV_i (pc' := 5) (As := [.int _]) (st := []) dX12_pen_2 rfl ok_X12_isCellar km_RX12_158 (I.S.o 99 rfl rfl rfl) (I.S.b 99 rfl rfl) ⟨_, _, rfl⟩ rfl (Nat.le_of_ble_eq_true rfl) rfl rfl rfl (Nat.le_of_ble_eq_true rfl) (Nat.lt_succ_self _) ?_
        refine s_isCellar1 (n := vi h 64 2) I.S (I.C.1.1) hj hj6 I.C.1.2.2 ?_
        refine ⟨_, rfl, ?_⟩
        refine Go_if_eqZ (X := (1)) (tgt := 41) (pc' := 8) dX12_pen_5 (by decide) rfl rfl (fun c5 => ?_) (fun c5 => ?_)
        · exact absurd c5 (by decide)
        · refine Go_iload_n (pc' := 9) dX12_pen_8 rfl rfl rfl ?_
          refine Go_iconst (v := 0) (pc' := 10) dX12_pen_9 rfl (by decide) ?_
          refine Go_bipush (v := 63) (pc' := 12) dX12_pen_10 rfl (by decide) ?_
          refine Go_callS_i (pc' := 15) (As := [.int _, .int _, .int _]) (st := []) dX12_pen_12 rfl ok_X12_isIn km_RX12_147 rfl (Nat.le_of_ble_eq_true rfl) rfl rfl rfl (Nat.le_of_ble_eq_true rfl) (Nat.lt_succ_self _) ?_
          refine s_isInZ (l := (0)) (u := (63)) rfl rfl ?_
          refine ⟨_, rfl, ?_⟩
          refine Go_if_eqb (tgt := 41) (pc' := 18) dX12_pen_15 (by decide) rfl (fun c15 => ?_) (fun c15 => ?_)
          · refine Go_iconst (v := 0) (pc' := 42) dX12_pen_41 rfl (by decide) ?_
            refine Go_ireturn (ty := .boolean) dX12_pen_42 rfl rfl ?_
            exact k _ I
          · refine Go_iload_n (pc' := 19) dX12_pen_18 rfl rfl rfl ?_
            refine Go_iconst (v := 0) (pc' := 20) dX12_pen_19 rfl (by decide) ?_
            refine Go_bipush (v := 63) (pc' := 22) dX12_pen_20 rfl (by decide) ?_
            refine Go_callS_i (pc' := 25) (As := [.int _, .int _, .int _]) (st := []) dX12_pen_22 rfl ok_X12_isIn km_RX12_147 rfl (Nat.le_of_ble_eq_true rfl) rfl rfl rfl (Nat.le_of_ble_eq_true rfl) (Nat.lt_succ_self _) ?_
            refine s_isInZ (l := (0)) (u := (63)) rfl rfl ?_
            refine ⟨_, rfl, ?_⟩
            refine Go_if_eqb (tgt := 41) (pc' := 28) dX12_pen_25 (by decide) rfl (fun c25 => ?_) (fun c25 => ?_)
            · refine Go_iconst (v := 0) (pc' := 42) dX12_pen_41 rfl (by decide) ?_
              refine Go_ireturn (ty := .boolean) dX12_pen_42 rfl rfl ?_
              exact k _ I
            · refine Go_iload (pc' := 30) dX12_pen_28 rfl rfl ?_
              refine Go_bipush (v := 10) (pc' := 32) dX12_pen_30 rfl (by decide) ?_
              refine Go_sipush (v := 999) (pc' := 35) dX12_pen_32 rfl (by decide) ?_
              refine Go_callS_i (pc' := 38) (As := [.int _, .int _, .int _]) (st := []) dX12_pen_35 rfl ok_X12_isIn km_RX12_147 rfl (Nat.le_of_ble_eq_true rfl) rfl rfl rfl (Nat.le_of_ble_eq_true rfl) (Nat.lt_succ_self _) ?_
              refine s_isInZ (l := (10)) (u := (999)) rfl rfl ?_
              refine ⟨_, rfl, ?_⟩
              refine Go_if_neb (tgt := 43) (pc' := 41) dX12_pen_38 (by decide) rfl (fun c38 => ?_) (fun c38 => ?_)
              · refine Go_aload_n (pc' := 44) dX12_pen_43 rfl rfl rfl ?_
                refine Go_getRs (pc' := 47) dX12_pen_44 rfl kf_RX12_13 (by decide) (by decide) rfl (I.S.b 99 rfl rfl) (I.S.o 99 rfl rfl rfl) (I.S.r 99 2 rfl rfl rfl) ?_
                refine Go_iload_n (pc' := 48) dX12_pen_47 rfl rfl rfl ?_
                refine Go_iload_n (pc' := 49) dX12_pen_48 rfl rfl rfl ?_
                refine Go_iastore (n := 6) (pc' := 50) dX12_pen_49 rfl (I.S.b 101 rfl rfl) (I.S.k 101 rfl rfl rfl) (by exact inR_nI (by omega) (by decide)) ?_
                rw [nI_clamp (show j < 2 ^ 31 by omega)]
                refine Go_aload_n (pc' := 51) dX12_pen_50 rfl rfl rfl ?_
                refine Go_getRs (pc' := 54) dX12_pen_51 rfl kf_RX12_16 (by decide) (by decide) rfl (I.S.b 99 rfl rfl) (I.S.o 99 rfl rfl rfl) (I.S.r 99 3 rfl rfl rfl) ?_
                refine Go_iload_n (pc' := 55) dX12_pen_54 rfl rfl rfl ?_
                refine Go_iload_n (pc' := 56) dX12_pen_55 rfl rfl rfl ?_
                refine Go_iastore (n := 6) (pc' := 57) dX12_pen_56 rfl (I.S.b 102 rfl rfl) (I.S.k 102 rfl rfl rfl) (by exact inR_nI (by omega) (by decide)) ?_
                rw [nI_clamp (show j < 2 ^ 31 by omega)]
                refine Go_aload_n (pc' := 58) dX12_pen_57 rfl rfl rfl ?_
                refine Go_getRs (pc' := 61) dX12_pen_58 rfl kf_RX12_19 (by decide) (by decide) rfl (I.S.b 99 rfl rfl) (I.S.o 99 rfl rfl rfl) (I.S.r 99 4 rfl rfl rfl) ?_
                refine Go_iload_n (pc' := 62) dX12_pen_61 rfl rfl rfl ?_
                refine Go_iload (pc' := 64) dX12_pen_62 rfl rfl ?_
                refine Go_iastore (n := 6) (pc' := 65) dX12_pen_64 rfl (I.S.b 103 rfl rfl) (I.S.k 103 rfl rfl rfl) (by exact inR_nI (by omega) (by decide)) ?_
                rw [nI_clamp (show j < 2 ^ 31 by omega)]
                refine Go_iconst (v := 1) (pc' := 66) dX12_pen_65 rfl (by decide) ?_
                refine Go_ireturn (ty := .boolean) dX12_pen_66 rfl rfl ?_
                exfalso; omega
              · refine Go_iconst (v := 0) (pc' := 42) dX12_pen_41 rfl (by decide) ?_
                refine Go_ireturn (ty := .boolean) dX12_pen_42 rfl rfl ?_
                exact k _ I
set_option maxRecDepth 20000 in
set_option maxHeartbeats 1000000 in
theorem pair9 {G : GC} (a b c e : Int32) : PairI G M_X11_clock M_X12_clock [.int a, .int b, .int c, .int e] := by
  intro h I
  rcases cel_cases I a with hn | ⟨j, q, rfl, hj6, hj, hq, CS, CV⟩
  · refine PairI.ro' (fun _ => 0) h I (fun K k => ?_) (fun K k => ?_)
    · show Go G 60 0 0 M_X11_clock 0 [.ref 64, .int a, .int b, .int c, .int e, un] [] h K
      refine Go_aload_n (pc' := 1) dX11_clock_0 rfl rfl rfl ?_
      refine Go_iload_n (pc' := 2) dX11_clock_1 rfl rfl rfl ?_
      refine Go_callV_r (pc' := 5) (As := [.int _]) (st := []) dX11_clock_2 rfl ok_X11_cellarOf km_RX11_90 (I.S.o 64 rfl rfl rfl) (I.S.b 64 rfl rfl) ⟨_, _, rfl⟩ rfl (Nat.le_of_ble_eq_true rfl) rfl rfl rfl (Nat.le_of_ble_eq_true rfl) (Nat.lt_succ_self _) ?_
      refine s_cellarOf0 I hn ?_
      refine ⟨none, rfl, ?_⟩
      refine Go_astoreN (pc' := 7) (lv' := [.ref _, .int _, .int _, .int _, .int _, .null]) dX11_clock_5 rfl (Nat.le_of_ble_eq_true rfl) rfl rfl ?_
      refine Go_aloadN (pc' := 9) dX11_clock_7 rfl rfl ?_
      refine Go_ifnullN (tgt := 47) dX11_clock_9 (by decide) ?_
      refine Go_iconst (v := 0) (pc' := 48) dX11_clock_47 rfl (by decide) ?_
      refine Go_ireturn (ty := .boolean) dX11_clock_48 rfl rfl ?_
      exact k
    · show Go G 60 0 0 M_X12_clock 0 [.ref 99, .int a, .int b, .int c, .int e] [] h K
      refine Go_aload_n (pc' := 1) dX12_clock_0 rfl rfl rfl ?_
      refine Go_iload_n (pc' := 2) dX12_clock_1 rfl rfl rfl ?_
      refine Go_callV_i (pc' := 5) (As := [.int _]) (st := []) dX12_clock_2 rfl ok_X12_isCellar km_RX12_158 (I.S.o 99 rfl rfl rfl) (I.S.b 99 rfl rfl) ⟨_, _, rfl⟩ rfl (Nat.le_of_ble_eq_true rfl) rfl rfl rfl (Nat.le_of_ble_eq_true rfl) (Nat.lt_succ_self _) ?_
      refine s_isCellar0 I.S I.C.1.1 I.C.1.2 hn ?_
      refine ⟨_, rfl, ?_⟩
      refine Go_if_eqZ (X := (0)) (tgt := 43) (pc' := 8) dX12_clock_5 (by decide) rfl rfl (fun c5 => ?_) (fun c5 => ?_)
      · refine Go_iconst (v := 0) (pc' := 44) dX12_clock_43 rfl (by decide) ?_
        refine Go_ireturn (ty := .boolean) dX12_clock_44 rfl rfl ?_
        exact k
      · exact absurd c5 (by decide)
  · obtain ⟨cA, cB, cC, cD, cE, cF, cG⟩ := CV
    have hq0 := CS.1
    refine ⟨fun r h1 => (((0 ≤ b.toInt ∧ b.toInt ≤ 999999) ∧ (500 ≤ c.toInt ∧ c.toInt ≤ 700) ∧ (c.toInt ≤ e.toInt ∧ e.toInt ≤ 700)) ∧ r = 1 ∧ h1 = (wI (wI (wI h q 12 b) q 13 c) q 14 e)) ∨ (¬ ((0 ≤ b.toInt ∧ b.toInt ≤ 999999) ∧ (500 ≤ c.toInt ∧ c.toInt ≤ 700) ∧ (c.toInt ≤ e.toInt ∧ e.toInt ≤ 700)) ∧ r = 0 ∧ h = h1), fun K k => ?_, ?_⟩
    · refine Go.more (d := 60) (mc := 0) (ms := 0) ?_ (by omega) (by omega) (by omega)
      show Go G 60 0 0 M_X11_clock 0 [.ref 64, .int (nI j), .int b, .int c, .int e, un] [] h K
      refine Go_aload_n (pc' := 1) dX11_clock_0 rfl rfl rfl ?_
      refine Go_iload_n (pc' := 2) dX11_clock_1 rfl rfl rfl ?_
      refine Go_callV_r (pc' := 5) (As := [.int _]) (st := []) dX11_clock_2 rfl ok_X11_cellarOf km_RX11_90 (I.S.o 64 rfl rfl rfl) (I.S.b 64 rfl rfl) ⟨_, _, rfl⟩ rfl (Nat.le_of_ble_eq_true rfl) rfl rfl rfl (Nat.le_of_ble_eq_true rfl) (Nat.lt_succ_self _) ?_
      refine s_cellarOf1 I hj hq ?_
      refine ⟨some _, rfl, ?_⟩
      refine Go_astore (pc' := 7) (lv' := [.ref _, .int _, .int _, .int _, .int _, .ref _]) dX11_clock_5 rfl (Nat.le_of_ble_eq_true rfl) rfl rfl ?_
      refine Go_aload (pc' := 9) dX11_clock_7 rfl rfl ?_
      refine Go_ifnull (pc' := 12) dX11_clock_9 rfl ?_
      refine Go_iload_n (pc' := 13) dX11_clock_12 rfl rfl rfl ?_
      refine Go_iconst (v := 0) (pc' := 14) dX11_clock_13 rfl (by decide) ?_
      refine Go_ldc (pc' := 16) dX11_clock_14 rfl kn_RX11_162 ?_
      refine Go_callS_i (pc' := 19) (As := [.int _, .int _, .int _]) (st := []) dX11_clock_16 rfl ok_X11_within km_RX11_94 rfl (Nat.le_of_ble_eq_true rfl) rfl rfl rfl (Nat.le_of_ble_eq_true rfl) (Nat.lt_succ_self _) ?_
      refine s_withinZ (l := (0)) (u := (999999)) rfl rfl ?_
      refine ⟨_, rfl, ?_⟩
      refine Go_if_eqb (tgt := 47) (pc' := 22) dX11_clock_19 (by decide) rfl (fun c19 => ?_) (fun c19 => ?_)
      · refine Go_iconst (v := 0) (pc' := 48) dX11_clock_47 rfl (by decide) ?_
        refine Go_ireturn (ty := .boolean) dX11_clock_48 rfl rfl ?_
        exact k _ _ (Or.inr ⟨by omega, rfl, rfl⟩) I.S
      · refine Go_iload_n (pc' := 23) dX11_clock_22 rfl rfl rfl ?_
        refine Go_sipush (v := 500) (pc' := 26) dX11_clock_23 rfl (by decide) ?_
        refine Go_sipush (v := 700) (pc' := 29) dX11_clock_26 rfl (by decide) ?_
        refine Go_callS_i (pc' := 32) (As := [.int _, .int _, .int _]) (st := []) dX11_clock_29 rfl ok_X11_within km_RX11_94 rfl (Nat.le_of_ble_eq_true rfl) rfl rfl rfl (Nat.le_of_ble_eq_true rfl) (Nat.lt_succ_self _) ?_
        refine s_withinZ (l := (500)) (u := (700)) rfl rfl ?_
        refine ⟨_, rfl, ?_⟩
        refine Go_if_eqb (tgt := 47) (pc' := 35) dX11_clock_32 (by decide) rfl (fun c32 => ?_) (fun c32 => ?_)
        · refine Go_iconst (v := 0) (pc' := 48) dX11_clock_47 rfl (by decide) ?_
          refine Go_ireturn (ty := .boolean) dX11_clock_48 rfl rfl ?_
          exact k _ _ (Or.inr ⟨by omega, rfl, rfl⟩) I.S
        · refine Go_iload (pc' := 37) dX11_clock_35 rfl rfl ?_
          refine Go_iload_n (pc' := 38) dX11_clock_37 rfl rfl rfl ?_
          refine Go_sipush (v := 700) (pc' := 41) dX11_clock_38 rfl (by decide) ?_
          refine Go_callS_i (pc' := 44) (As := [.int _, .int _, .int _]) (st := []) dX11_clock_41 rfl ok_X11_within km_RX11_94 rfl (Nat.le_of_ble_eq_true rfl) rfl rfl rfl (Nat.le_of_ble_eq_true rfl) (Nat.lt_succ_self _) ?_
          refine s_withinZ (u := (700)) rfl rfl ?_
          refine ⟨_, rfl, ?_⟩
          refine Go_if_neb (tgt := 49) (pc' := 47) dX11_clock_44 (by decide) rfl (fun c44 => ?_) (fun c44 => ?_)
          · refine Go_aload (pc' := 51) dX11_clock_49 rfl rfl ?_
            refine Go_iload_n (pc' := 52) dX11_clock_51 rfl rfl rfl ?_
            refine Go_putI (pc' := 55) dX11_clock_52 rfl kf_RX11_163 (by decide) (by decide) rfl CS.b CS.o (Or.inl rfl) rfl rfl ?_
            refine Go_aload (pc' := 57) dX11_clock_55 rfl rfl ?_
            refine Go_iload_n (pc' := 58) dX11_clock_57 rfl rfl rfl ?_
            refine Go_putI (pc' := 61) dX11_clock_58 rfl kf_RX11_166 (by decide) (by decide) rfl CS.b CS.o (Or.inl rfl) rfl rfl ?_
            refine Go_aload (pc' := 63) dX11_clock_61 rfl rfl ?_
            refine Go_iload (pc' := 65) dX11_clock_63 rfl rfl ?_
            refine Go_putI (pc' := 68) dX11_clock_65 rfl kf_RX11_169 (by decide) (by decide) rfl CS.b CS.o (Or.inl rfl) rfl rfl ?_
            refine Go_iconst (v := 1) (pc' := 69) dX11_clock_68 rfl (by decide) ?_
            refine Go_ireturn (ty := .boolean) dX11_clock_69 rfl rfl ?_
            exact k _ _ (Or.inl ⟨by omega, rfl, rfl⟩) I.S
          · refine Go_iconst (v := 0) (pc' := 48) dX11_clock_47 rfl (by decide) ?_
            refine Go_ireturn (ty := .boolean) dX11_clock_48 rfl rfl ?_
            exact k _ _ (Or.inr ⟨by omega, rfl, rfl⟩) I.S
    · rintro r h1 (⟨hc, rfl, rfl⟩ | ⟨hc, rfl, rfl⟩) K k
      · show Go G 60 0 0 M_X12_clock 0 [.ref 99, .int (nI j), .int b, .int c, .int e] [] (wI (wI (wI h q 12 b) q 13 c) q 14 e) K
        refine Go_aload_n (pc' := 1) dX12_clock_0 rfl rfl rfl ?_
        refine Go_iload_n (pc' := 2) dX12_clock_1 rfl rfl rfl ?_
        refine Go_callV_i (pc' := 5) (As := [.int _]) (st := []) dX12_clock_2 rfl ok_X12_isCellar km_RX12_158 (I.S.o 99 rfl rfl rfl) (I.S.b 99 rfl rfl) ⟨_, _, rfl⟩ rfl (Nat.le_of_ble_eq_true rfl) rfl rfl rfl (Nat.le_of_ble_eq_true rfl) (Nat.lt_succ_self _) ?_
        refine s_isCellar1 (n := vi h 64 2) I.S ((vi_skip (Or.inl (by omega))).trans ((vi_skip (Or.inl (by omega))).trans ((vi_skip (Or.inl (by omega))).trans (I.C.1.1)))) hj hj6 I.C.1.2.2 ?_
        refine ⟨_, rfl, ?_⟩
        refine Go_if_eqZ (X := (1)) (tgt := 43) (pc' := 8) dX12_clock_5 (by decide) rfl rfl (fun c5 => ?_) (fun c5 => ?_)
        · exact absurd c5 (by decide)
        · refine Go_iload_n (pc' := 9) dX12_clock_8 rfl rfl rfl ?_
          refine Go_iconst (v := 0) (pc' := 10) dX12_clock_9 rfl (by decide) ?_
          refine Go_ldc (pc' := 12) dX12_clock_10 rfl kn_RX12_184 ?_
          refine Go_callS_i (pc' := 15) (As := [.int _, .int _, .int _]) (st := []) dX12_clock_12 rfl ok_X12_isIn km_RX12_147 rfl (Nat.le_of_ble_eq_true rfl) rfl rfl rfl (Nat.le_of_ble_eq_true rfl) (Nat.lt_succ_self _) ?_
          refine s_isInZ (l := (0)) (u := (999999)) rfl rfl ?_
          refine ⟨_, rfl, ?_⟩
          refine Go_if_eqb (tgt := 43) (pc' := 18) dX12_clock_15 (by decide) rfl (fun c15 => ?_) (fun c15 => ?_)
          · refine Go_iconst (v := 0) (pc' := 44) dX12_clock_43 rfl (by decide) ?_
            refine Go_ireturn (ty := .boolean) dX12_clock_44 rfl rfl ?_
            exfalso; omega
          · refine Go_iload_n (pc' := 19) dX12_clock_18 rfl rfl rfl ?_
            refine Go_sipush (v := 500) (pc' := 22) dX12_clock_19 rfl (by decide) ?_
            refine Go_sipush (v := 700) (pc' := 25) dX12_clock_22 rfl (by decide) ?_
            refine Go_callS_i (pc' := 28) (As := [.int _, .int _, .int _]) (st := []) dX12_clock_25 rfl ok_X12_isIn km_RX12_147 rfl (Nat.le_of_ble_eq_true rfl) rfl rfl rfl (Nat.le_of_ble_eq_true rfl) (Nat.lt_succ_self _) ?_
            refine s_isInZ (l := (500)) (u := (700)) rfl rfl ?_
            refine ⟨_, rfl, ?_⟩
            refine Go_if_eqb (tgt := 43) (pc' := 31) dX12_clock_28 (by decide) rfl (fun c28 => ?_) (fun c28 => ?_)
            · refine Go_iconst (v := 0) (pc' := 44) dX12_clock_43 rfl (by decide) ?_
              refine Go_ireturn (ty := .boolean) dX12_clock_44 rfl rfl ?_
              exfalso; omega
            · refine Go_iload (pc' := 33) dX12_clock_31 rfl rfl ?_
              refine Go_iload_n (pc' := 34) dX12_clock_33 rfl rfl rfl ?_
              refine Go_sipush (v := 700) (pc' := 37) dX12_clock_34 rfl (by decide) ?_
              refine Go_callS_i (pc' := 40) (As := [.int _, .int _, .int _]) (st := []) dX12_clock_37 rfl ok_X12_isIn km_RX12_147 rfl (Nat.le_of_ble_eq_true rfl) rfl rfl rfl (Nat.le_of_ble_eq_true rfl) (Nat.lt_succ_self _) ?_
              refine s_isInZ (u := (700)) rfl rfl ?_
              refine ⟨_, rfl, ?_⟩
              refine Go_if_neb (tgt := 45) (pc' := 43) dX12_clock_40 (by decide) rfl (fun c40 => ?_) (fun c40 => ?_)
              · refine Go_aload_n (pc' := 46) dX12_clock_45 rfl rfl rfl ?_
                refine Go_getRs (pc' := 49) dX12_clock_46 rfl kf_RX12_43 (by decide) (by decide) rfl (I.S.b 99 rfl rfl) (I.S.o 99 rfl rfl rfl) (I.S.r 99 12 rfl rfl rfl) ?_
                refine Go_iload_n (pc' := 50) dX12_clock_49 rfl rfl rfl ?_
                refine Go_iload_n (pc' := 51) dX12_clock_50 rfl rfl rfl ?_
                refine Go_iastore (n := 6) (pc' := 52) dX12_clock_51 rfl (I.S.b 111 rfl rfl) (I.S.k 111 rfl rfl rfl) (by exact inR_nI (by omega) (by decide)) ?_
                rw [nI_clamp (show j < 2 ^ 31 by omega)]
                refine Go_aload_n (pc' := 53) dX12_clock_52 rfl rfl rfl ?_
                refine Go_getRs (pc' := 56) dX12_clock_53 rfl kf_RX12_46 (by decide) (by decide) rfl (I.S.b 99 rfl rfl) (I.S.o 99 rfl rfl rfl) (I.S.r 99 13 rfl rfl rfl) ?_
                refine Go_iload_n (pc' := 57) dX12_clock_56 rfl rfl rfl ?_
                refine Go_iload_n (pc' := 58) dX12_clock_57 rfl rfl rfl ?_
                refine Go_iastore (n := 6) (pc' := 59) dX12_clock_58 rfl (I.S.b 112 rfl rfl) (I.S.k 112 rfl rfl rfl) (by exact inR_nI (by omega) (by decide)) ?_
                rw [nI_clamp (show j < 2 ^ 31 by omega)]
                refine Go_aload_n (pc' := 60) dX12_clock_59 rfl rfl rfl ?_
                refine Go_getRs (pc' := 63) dX12_clock_60 rfl kf_RX12_49 (by decide) (by decide) rfl (I.S.b 99 rfl rfl) (I.S.o 99 rfl rfl rfl) (I.S.r 99 14 rfl rfl rfl) ?_
                refine Go_iload_n (pc' := 64) dX12_clock_63 rfl rfl rfl ?_
                refine Go_iload (pc' := 66) dX12_clock_64 rfl rfl ?_
                refine Go_iastore (n := 6) (pc' := 67) dX12_clock_66 rfl (I.S.b 113 rfl rfl) (I.S.k 113 rfl rfl rfl) (by exact inR_nI (by omega) (by decide)) ?_
                rw [nI_clamp (show j < 2 ^ 31 by omega)]
                refine Go_iconst (v := 1) (pc' := 68) dX12_clock_67 rfl (by decide) ?_
                refine Go_ireturn (ty := .boolean) dX12_clock_68 rfl rfl ?_
                exact k _ (I.cel hj hq CS (((((((Dif.rf _ _ _).wI (by unfold OwnW; omega)).wI (by unfold OwnW; omega)).wI (by unfold OwnW; omega)).wI (by unfold OwnW; omega)).wI (by unfold OwnW; omega)).wI (by unfold OwnW; omega)) ⟨cA.fr (((((((SameP.rf _ _).wI (by unfold fA; omega)).wI (by unfold fA; omega)).wI (by unfold fA; omega)).wI (by unfold fA; omega)).wI (by unfold fA; omega)).wI (by unfold fA; omega)), cB.fr (((((((SameP.rf _ _).wI (by unfold fB; omega)).wI (by unfold fB; omega)).wI (by unfold fB; omega)).wI (by unfold fB; omega)).wI (by unfold fB; omega)).wI (by unfold fB; omega)), cC.fr (((((((SameP.rf _ _).wI (by unfold fC; omega)).wI (by unfold fC; omega)).wI (by unfold fC; omega)).wI (by unfold fC; omega)).wI (by unfold fC; omega)).wI (by unfold fC; omega)), cD.fr (((((((SameP.rf _ _).wI (by unfold fD; omega)).wI (by unfold fD; omega)).wI (by unfold fD; omega)).wI (by unfold fD; omega)).wI (by unfold fD; omega)).wI (by unfold fD; omega)), cE.fr (((((((SameP.rf _ _).wI (by unfold fE; omega)).wI (by unfold fE; omega)).wI (by unfold fE; omega)).wI (by unfold fE; omega)).wI (by unfold fE; omega)).wI (by unfold fE; omega)), ⟨⟨(((vi_skip (Or.inl (by omega))).trans ((vi_skip (Or.inl (by omega))).trans ((vi_skip (Or.inl (by omega))).trans ((vi_skip (Or.inr (by decide))).trans ((vi_skip (Or.inr (by decide))).trans (vi_same)))))).trans ((vi_skip (Or.inl (by decide))).trans ((vi_skip (Or.inl (by decide))).trans (vi_same))).symm), (by rw [show vi (wI (wI (wI (wI (wI (wI h q 12 b) q 13 c) q 14 e) 111 j b) 112 j c) 113 j e) q 12 = b from ((vi_skip (Or.inl (by omega))).trans ((vi_skip (Or.inl (by omega))).trans ((vi_skip (Or.inl (by omega))).trans ((vi_skip (Or.inr (by decide))).trans ((vi_skip (Or.inr (by decide))).trans (vi_same))))))]; unfold rg; omega)⟩, ⟨(((vi_skip (Or.inl (by omega))).trans ((vi_skip (Or.inl (by omega))).trans ((vi_skip (Or.inl (by omega))).trans ((vi_skip (Or.inr (by decide))).trans (vi_same))))).trans ((vi_skip (Or.inl (by decide))).trans (vi_same)).symm), (by rw [show vi (wI (wI (wI (wI (wI (wI h q 12 b) q 13 c) q 14 e) 111 j b) 112 j c) 113 j e) q 13 = c from ((vi_skip (Or.inl (by omega))).trans ((vi_skip (Or.inl (by omega))).trans ((vi_skip (Or.inl (by omega))).trans ((vi_skip (Or.inr (by decide))).trans (vi_same)))))]; unfold rg; omega)⟩, ⟨(((vi_skip (Or.inl (by omega))).trans ((vi_skip (Or.inl (by omega))).trans ((vi_skip (Or.inl (by omega))).trans (vi_same)))).trans (vi_same).symm), (by rw [show vi (wI (wI (wI (wI (wI (wI h q 12 b) q 13 c) q 14 e) 111 j b) 112 j c) 113 j e) q 14 = e from ((vi_skip (Or.inl (by omega))).trans ((vi_skip (Or.inl (by omega))).trans ((vi_skip (Or.inl (by omega))).trans (vi_same))))]; unfold rg; omega)⟩⟩, cG.fr (((((((SameP.rf _ _).wI (by unfold fG; omega)).wI (by unfold fG; omega)).wI (by unfold fG; omega)).wI (by unfold fG; omega)).wI (by unfold fG; omega)).wI (by unfold fG; omega))⟩)
              · refine Go_iconst (v := 0) (pc' := 44) dX12_clock_43 rfl (by decide) ?_
                refine Go_ireturn (ty := .boolean) dX12_clock_44 rfl rfl ?_
                exfalso; omega
      · show Go G 60 0 0 M_X12_clock 0 [.ref 99, .int (nI j), .int b, .int c, .int e] [] h K
        refine Go_aload_n (pc' := 1) dX12_clock_0 rfl rfl rfl ?_
        refine Go_iload_n (pc' := 2) dX12_clock_1 rfl rfl rfl ?_
        refine Go_callV_i (pc' := 5) (As := [.int _]) (st := []) dX12_clock_2 rfl ok_X12_isCellar km_RX12_158 (I.S.o 99 rfl rfl rfl) (I.S.b 99 rfl rfl) ⟨_, _, rfl⟩ rfl (Nat.le_of_ble_eq_true rfl) rfl rfl rfl (Nat.le_of_ble_eq_true rfl) (Nat.lt_succ_self _) ?_
        refine s_isCellar1 (n := vi h 64 2) I.S (I.C.1.1) hj hj6 I.C.1.2.2 ?_
        refine ⟨_, rfl, ?_⟩
        refine Go_if_eqZ (X := (1)) (tgt := 43) (pc' := 8) dX12_clock_5 (by decide) rfl rfl (fun c5 => ?_) (fun c5 => ?_)
        · exact absurd c5 (by decide)
        · refine Go_iload_n (pc' := 9) dX12_clock_8 rfl rfl rfl ?_
          refine Go_iconst (v := 0) (pc' := 10) dX12_clock_9 rfl (by decide) ?_
          refine Go_ldc (pc' := 12) dX12_clock_10 rfl kn_RX12_184 ?_
          refine Go_callS_i (pc' := 15) (As := [.int _, .int _, .int _]) (st := []) dX12_clock_12 rfl ok_X12_isIn km_RX12_147 rfl (Nat.le_of_ble_eq_true rfl) rfl rfl rfl (Nat.le_of_ble_eq_true rfl) (Nat.lt_succ_self _) ?_
          refine s_isInZ (l := (0)) (u := (999999)) rfl rfl ?_
          refine ⟨_, rfl, ?_⟩
          refine Go_if_eqb (tgt := 43) (pc' := 18) dX12_clock_15 (by decide) rfl (fun c15 => ?_) (fun c15 => ?_)
          · refine Go_iconst (v := 0) (pc' := 44) dX12_clock_43 rfl (by decide) ?_
            refine Go_ireturn (ty := .boolean) dX12_clock_44 rfl rfl ?_
            exact k _ I
          · refine Go_iload_n (pc' := 19) dX12_clock_18 rfl rfl rfl ?_
            refine Go_sipush (v := 500) (pc' := 22) dX12_clock_19 rfl (by decide) ?_
            refine Go_sipush (v := 700) (pc' := 25) dX12_clock_22 rfl (by decide) ?_
            refine Go_callS_i (pc' := 28) (As := [.int _, .int _, .int _]) (st := []) dX12_clock_25 rfl ok_X12_isIn km_RX12_147 rfl (Nat.le_of_ble_eq_true rfl) rfl rfl rfl (Nat.le_of_ble_eq_true rfl) (Nat.lt_succ_self _) ?_
            refine s_isInZ (l := (500)) (u := (700)) rfl rfl ?_
            refine ⟨_, rfl, ?_⟩
            refine Go_if_eqb (tgt := 43) (pc' := 31) dX12_clock_28 (by decide) rfl (fun c28 => ?_) (fun c28 => ?_)
            · refine Go_iconst (v := 0) (pc' := 44) dX12_clock_43 rfl (by decide) ?_
              refine Go_ireturn (ty := .boolean) dX12_clock_44 rfl rfl ?_
              exact k _ I
            · refine Go_iload (pc' := 33) dX12_clock_31 rfl rfl ?_
              refine Go_iload_n (pc' := 34) dX12_clock_33 rfl rfl rfl ?_
              refine Go_sipush (v := 700) (pc' := 37) dX12_clock_34 rfl (by decide) ?_
              refine Go_callS_i (pc' := 40) (As := [.int _, .int _, .int _]) (st := []) dX12_clock_37 rfl ok_X12_isIn km_RX12_147 rfl (Nat.le_of_ble_eq_true rfl) rfl rfl rfl (Nat.le_of_ble_eq_true rfl) (Nat.lt_succ_self _) ?_
              refine s_isInZ (u := (700)) rfl rfl ?_
              refine ⟨_, rfl, ?_⟩
              refine Go_if_neb (tgt := 45) (pc' := 43) dX12_clock_40 (by decide) rfl (fun c40 => ?_) (fun c40 => ?_)
              · refine Go_aload_n (pc' := 46) dX12_clock_45 rfl rfl rfl ?_
                refine Go_getRs (pc' := 49) dX12_clock_46 rfl kf_RX12_43 (by decide) (by decide) rfl (I.S.b 99 rfl rfl) (I.S.o 99 rfl rfl rfl) (I.S.r 99 12 rfl rfl rfl) ?_
                refine Go_iload_n (pc' := 50) dX12_clock_49 rfl rfl rfl ?_
                refine Go_iload_n (pc' := 51) dX12_clock_50 rfl rfl rfl ?_
                refine Go_iastore (n := 6) (pc' := 52) dX12_clock_51 rfl (I.S.b 111 rfl rfl) (I.S.k 111 rfl rfl rfl) (by exact inR_nI (by omega) (by decide)) ?_
                rw [nI_clamp (show j < 2 ^ 31 by omega)]
                refine Go_aload_n (pc' := 53) dX12_clock_52 rfl rfl rfl ?_
                refine Go_getRs (pc' := 56) dX12_clock_53 rfl kf_RX12_46 (by decide) (by decide) rfl (I.S.b 99 rfl rfl) (I.S.o 99 rfl rfl rfl) (I.S.r 99 13 rfl rfl rfl) ?_
                refine Go_iload_n (pc' := 57) dX12_clock_56 rfl rfl rfl ?_
                refine Go_iload_n (pc' := 58) dX12_clock_57 rfl rfl rfl ?_
                refine Go_iastore (n := 6) (pc' := 59) dX12_clock_58 rfl (I.S.b 112 rfl rfl) (I.S.k 112 rfl rfl rfl) (by exact inR_nI (by omega) (by decide)) ?_
                rw [nI_clamp (show j < 2 ^ 31 by omega)]
                refine Go_aload_n (pc' := 60) dX12_clock_59 rfl rfl rfl ?_
                refine Go_getRs (pc' := 63) dX12_clock_60 rfl kf_RX12_49 (by decide) (by decide) rfl (I.S.b 99 rfl rfl) (I.S.o 99 rfl rfl rfl) (I.S.r 99 14 rfl rfl rfl) ?_
                refine Go_iload_n (pc' := 64) dX12_clock_63 rfl rfl rfl ?_
                refine Go_iload (pc' := 66) dX12_clock_64 rfl rfl ?_
                refine Go_iastore (n := 6) (pc' := 67) dX12_clock_66 rfl (I.S.b 113 rfl rfl) (I.S.k 113 rfl rfl rfl) (by exact inR_nI (by omega) (by decide)) ?_
                rw [nI_clamp (show j < 2 ^ 31 by omega)]
                refine Go_iconst (v := 1) (pc' := 68) dX12_clock_67 rfl (by decide) ?_
                refine Go_ireturn (ty := .boolean) dX12_clock_68 rfl rfl ?_
                exfalso; omega
              · refine Go_iconst (v := 0) (pc' := 44) dX12_clock_43 rfl (by decide) ?_
                refine Go_ireturn (ty := .boolean) dX12_clock_44 rfl rfl ?_
                exact k _ I
set_option maxRecDepth 20000 in
set_option maxHeartbeats 1000000 in
theorem pair28 {G : GC} (a b : Int32) : PairI G M_X11_habit M_X12_habit [.int a, .int b] := by
  intro h I
  rcases cel_cases I a with hn | ⟨j, q, rfl, hj6, hj, hq, CS, CV⟩
  · refine PairI.ro' (fun _ => 0) h I (fun K k => ?_) (fun K k => ?_)
    · show Go G 60 0 0 M_X11_habit 0 [.ref 64, .int a, .int b, un] [] h K
      refine Go_aload_n (pc' := 1) dX11_habit_0 rfl rfl rfl ?_
      refine Go_iload_n (pc' := 2) dX11_habit_1 rfl rfl rfl ?_
      refine Go_callV_r (pc' := 5) (As := [.int _]) (st := []) dX11_habit_2 rfl ok_X11_cellarOf km_RX11_90 (I.S.o 64 rfl rfl rfl) (I.S.b 64 rfl rfl) ⟨_, _, rfl⟩ rfl (Nat.le_of_ble_eq_true rfl) rfl rfl rfl (Nat.le_of_ble_eq_true rfl) (Nat.lt_succ_self _) ?_
      refine s_cellarOf0 I hn ?_
      refine ⟨none, rfl, ?_⟩
      refine Go_astore_nN (pc' := 6) (lv' := [.ref _, .int _, .int _, .null]) dX11_habit_5 rfl rfl (Nat.le_of_ble_eq_true rfl) rfl rfl ?_
      refine Go_aload_nN (pc' := 7) dX11_habit_6 rfl rfl rfl ?_
      refine Go_ifnullN (tgt := 21) dX11_habit_7 (by decide) ?_
      refine Go_iconst (v := 0) (pc' := 22) dX11_habit_21 rfl (by decide) ?_
      refine Go_ireturn (ty := .boolean) dX11_habit_22 rfl rfl ?_
      exact k
    · show Go G 60 0 0 M_X12_habit 0 [.ref 99, .int a, .int b] [] h K
      refine Go_aload_n (pc' := 1) dX12_habit_0 rfl rfl rfl ?_
      refine Go_iload_n (pc' := 2) dX12_habit_1 rfl rfl rfl ?_
      refine Go_callV_i (pc' := 5) (As := [.int _]) (st := []) dX12_habit_2 rfl ok_X12_isCellar km_RX12_158 (I.S.o 99 rfl rfl rfl) (I.S.b 99 rfl rfl) ⟨_, _, rfl⟩ rfl (Nat.le_of_ble_eq_true rfl) rfl rfl rfl (Nat.le_of_ble_eq_true rfl) (Nat.lt_succ_self _) ?_
      refine s_isCellar0 I.S I.C.1.1 I.C.1.2 hn ?_
      refine ⟨_, rfl, ?_⟩
      refine Go_if_eqZ (X := (0)) (tgt := 19) (pc' := 8) dX12_habit_5 (by decide) rfl rfl (fun c5 => ?_) (fun c5 => ?_)
      · refine Go_iconst (v := 0) (pc' := 20) dX12_habit_19 rfl (by decide) ?_
        refine Go_ireturn (ty := .boolean) dX12_habit_20 rfl rfl ?_
        exact k
      · exact absurd c5 (by decide)
  · obtain ⟨cA, cB, cC, cD, cE, cF, cG⟩ := CV
    have hq0 := CS.1
    refine ⟨fun r h1 => ((-50 ≤ b.toInt ∧ b.toInt ≤ 50) ∧ r = 1 ∧ h1 = (wI h q 15 b)) ∨ (¬ (-50 ≤ b.toInt ∧ b.toInt ≤ 50) ∧ r = 0 ∧ h = h1), fun K k => ?_, ?_⟩
    · refine Go.more (d := 60) (mc := 0) (ms := 0) ?_ (by omega) (by omega) (by omega)
      show Go G 60 0 0 M_X11_habit 0 [.ref 64, .int (nI j), .int b, un] [] h K
      refine Go_aload_n (pc' := 1) dX11_habit_0 rfl rfl rfl ?_
      refine Go_iload_n (pc' := 2) dX11_habit_1 rfl rfl rfl ?_
      refine Go_callV_r (pc' := 5) (As := [.int _]) (st := []) dX11_habit_2 rfl ok_X11_cellarOf km_RX11_90 (I.S.o 64 rfl rfl rfl) (I.S.b 64 rfl rfl) ⟨_, _, rfl⟩ rfl (Nat.le_of_ble_eq_true rfl) rfl rfl rfl (Nat.le_of_ble_eq_true rfl) (Nat.lt_succ_self _) ?_
      refine s_cellarOf1 I hj hq ?_
      refine ⟨some _, rfl, ?_⟩
      refine Go_astore_n (pc' := 6) (lv' := [.ref _, .int _, .int _, .ref _]) dX11_habit_5 rfl rfl (Nat.le_of_ble_eq_true rfl) rfl rfl ?_
      refine Go_aload_n (pc' := 7) dX11_habit_6 rfl rfl rfl ?_
      refine Go_ifnull (pc' := 10) dX11_habit_7 rfl ?_
      refine Go_iload_n (pc' := 11) dX11_habit_10 rfl rfl rfl ?_
      refine Go_bipush (v := (-50)) (pc' := 13) dX11_habit_11 rfl (by decide) ?_
      refine Go_bipush (v := 50) (pc' := 15) dX11_habit_13 rfl (by decide) ?_
      refine Go_callS_i (pc' := 18) (As := [.int _, .int _, .int _]) (st := []) dX11_habit_15 rfl ok_X11_within km_RX11_94 rfl (Nat.le_of_ble_eq_true rfl) rfl rfl rfl (Nat.le_of_ble_eq_true rfl) (Nat.lt_succ_self _) ?_
      refine s_withinZ (l := (-50)) (u := (50)) rfl rfl ?_
      refine ⟨_, rfl, ?_⟩
      refine Go_if_neb (tgt := 23) (pc' := 21) dX11_habit_18 (by decide) rfl (fun c18 => ?_) (fun c18 => ?_)
      · refine Go_aload_n (pc' := 24) dX11_habit_23 rfl rfl rfl ?_
        refine Go_iload_n (pc' := 25) dX11_habit_24 rfl rfl rfl ?_
        refine Go_putI (pc' := 28) dX11_habit_25 rfl kf_RX11_290 (by decide) (by decide) rfl CS.b CS.o (Or.inl rfl) rfl rfl ?_
        refine Go_iconst (v := 1) (pc' := 29) dX11_habit_28 rfl (by decide) ?_
        refine Go_ireturn (ty := .boolean) dX11_habit_29 rfl rfl ?_
        exact k _ _ (Or.inl ⟨by omega, rfl, rfl⟩) I.S
      · refine Go_iconst (v := 0) (pc' := 22) dX11_habit_21 rfl (by decide) ?_
        refine Go_ireturn (ty := .boolean) dX11_habit_22 rfl rfl ?_
        exact k _ _ (Or.inr ⟨by omega, rfl, rfl⟩) I.S
    · rintro r h1 (⟨hc, rfl, rfl⟩ | ⟨hc, rfl, rfl⟩) K k
      · show Go G 60 0 0 M_X12_habit 0 [.ref 99, .int (nI j), .int b] [] (wI h q 15 b) K
        refine Go_aload_n (pc' := 1) dX12_habit_0 rfl rfl rfl ?_
        refine Go_iload_n (pc' := 2) dX12_habit_1 rfl rfl rfl ?_
        refine Go_callV_i (pc' := 5) (As := [.int _]) (st := []) dX12_habit_2 rfl ok_X12_isCellar km_RX12_158 (I.S.o 99 rfl rfl rfl) (I.S.b 99 rfl rfl) ⟨_, _, rfl⟩ rfl (Nat.le_of_ble_eq_true rfl) rfl rfl rfl (Nat.le_of_ble_eq_true rfl) (Nat.lt_succ_self _) ?_
        refine s_isCellar1 (n := vi h 64 2) I.S ((vi_skip (Or.inl (by omega))).trans (I.C.1.1)) hj hj6 I.C.1.2.2 ?_
        refine ⟨_, rfl, ?_⟩
        refine Go_if_eqZ (X := (1)) (tgt := 19) (pc' := 8) dX12_habit_5 (by decide) rfl rfl (fun c5 => ?_) (fun c5 => ?_)
        · exact absurd c5 (by decide)
        · refine Go_iload_n (pc' := 9) dX12_habit_8 rfl rfl rfl ?_
          refine Go_bipush (v := (-50)) (pc' := 11) dX12_habit_9 rfl (by decide) ?_
          refine Go_bipush (v := 50) (pc' := 13) dX12_habit_11 rfl (by decide) ?_
          refine Go_callS_i (pc' := 16) (As := [.int _, .int _, .int _]) (st := []) dX12_habit_13 rfl ok_X12_isIn km_RX12_147 rfl (Nat.le_of_ble_eq_true rfl) rfl rfl rfl (Nat.le_of_ble_eq_true rfl) (Nat.lt_succ_self _) ?_
          refine s_isInZ (l := (-50)) (u := (50)) rfl rfl ?_
          refine ⟨_, rfl, ?_⟩
          refine Go_if_neb (tgt := 21) (pc' := 19) dX12_habit_16 (by decide) rfl (fun c16 => ?_) (fun c16 => ?_)
          · refine Go_aload_n (pc' := 22) dX12_habit_21 rfl rfl rfl ?_
            refine Go_getRs (pc' := 25) dX12_habit_22 rfl kf_RX12_52 (by decide) (by decide) rfl (I.S.b 99 rfl rfl) (I.S.o 99 rfl rfl rfl) (I.S.r 99 15 rfl rfl rfl) ?_
            refine Go_iload_n (pc' := 26) dX12_habit_25 rfl rfl rfl ?_
            refine Go_iload_n (pc' := 27) dX12_habit_26 rfl rfl rfl ?_
            refine Go_iastore (n := 6) (pc' := 28) dX12_habit_27 rfl (I.S.b 114 rfl rfl) (I.S.k 114 rfl rfl rfl) (by exact inR_nI (by omega) (by decide)) ?_
            rw [nI_clamp (show j < 2 ^ 31 by omega)]
            refine Go_iconst (v := 1) (pc' := 29) dX12_habit_28 rfl (by decide) ?_
            refine Go_ireturn (ty := .boolean) dX12_habit_29 rfl rfl ?_
            exact k _ (I.cel hj hq CS (((Dif.rf _ _ _).wI (by unfold OwnW; omega)).wI (by unfold OwnW; omega)) ⟨cA.fr (((SameP.rf _ _).wI (by unfold fA; omega)).wI (by unfold fA; omega)), cB.fr (((SameP.rf _ _).wI (by unfold fB; omega)).wI (by unfold fB; omega)), cC.fr (((SameP.rf _ _).wI (by unfold fC; omega)).wI (by unfold fC; omega)), cD.fr (((SameP.rf _ _).wI (by unfold fD; omega)).wI (by unfold fD; omega)), cE.fr (((SameP.rf _ _).wI (by unfold fE; omega)).wI (by unfold fE; omega)), cF.fr (((SameP.rf _ _).wI (by unfold fF; omega)).wI (by unfold fF; omega)), ⟨(((vi_skip (Or.inl (by omega))).trans (vi_same)).trans (vi_same).symm), (by rw [show vi (wI (wI h q 15 b) 114 j b) q 15 = b from ((vi_skip (Or.inl (by omega))).trans (vi_same))]; unfold rg; omega)⟩⟩)
          · refine Go_iconst (v := 0) (pc' := 20) dX12_habit_19 rfl (by decide) ?_
            refine Go_ireturn (ty := .boolean) dX12_habit_20 rfl rfl ?_
            exfalso; omega
      · show Go G 60 0 0 M_X12_habit 0 [.ref 99, .int (nI j), .int b] [] h K
        refine Go_aload_n (pc' := 1) dX12_habit_0 rfl rfl rfl ?_
        refine Go_iload_n (pc' := 2) dX12_habit_1 rfl rfl rfl ?_
        refine Go_callV_i (pc' := 5) (As := [.int _]) (st := []) dX12_habit_2 rfl ok_X12_isCellar km_RX12_158 (I.S.o 99 rfl rfl rfl) (I.S.b 99 rfl rfl) ⟨_, _, rfl⟩ rfl (Nat.le_of_ble_eq_true rfl) rfl rfl rfl (Nat.le_of_ble_eq_true rfl) (Nat.lt_succ_self _) ?_
        refine s_isCellar1 (n := vi h 64 2) I.S (I.C.1.1) hj hj6 I.C.1.2.2 ?_
        refine ⟨_, rfl, ?_⟩
        refine Go_if_eqZ (X := (1)) (tgt := 19) (pc' := 8) dX12_habit_5 (by decide) rfl rfl (fun c5 => ?_) (fun c5 => ?_)
        · exact absurd c5 (by decide)
        · refine Go_iload_n (pc' := 9) dX12_habit_8 rfl rfl rfl ?_
          refine Go_bipush (v := (-50)) (pc' := 11) dX12_habit_9 rfl (by decide) ?_
          refine Go_bipush (v := 50) (pc' := 13) dX12_habit_11 rfl (by decide) ?_
          refine Go_callS_i (pc' := 16) (As := [.int _, .int _, .int _]) (st := []) dX12_habit_13 rfl ok_X12_isIn km_RX12_147 rfl (Nat.le_of_ble_eq_true rfl) rfl rfl rfl (Nat.le_of_ble_eq_true rfl) (Nat.lt_succ_self _) ?_
          refine s_isInZ (l := (-50)) (u := (50)) rfl rfl ?_
          refine ⟨_, rfl, ?_⟩
          refine Go_if_neb (tgt := 21) (pc' := 19) dX12_habit_16 (by decide) rfl (fun c16 => ?_) (fun c16 => ?_)
          · refine Go_aload_n (pc' := 22) dX12_habit_21 rfl rfl rfl ?_
            refine Go_getRs (pc' := 25) dX12_habit_22 rfl kf_RX12_52 (by decide) (by decide) rfl (I.S.b 99 rfl rfl) (I.S.o 99 rfl rfl rfl) (I.S.r 99 15 rfl rfl rfl) ?_
            refine Go_iload_n (pc' := 26) dX12_habit_25 rfl rfl rfl ?_
            refine Go_iload_n (pc' := 27) dX12_habit_26 rfl rfl rfl ?_
            refine Go_iastore (n := 6) (pc' := 28) dX12_habit_27 rfl (I.S.b 114 rfl rfl) (I.S.k 114 rfl rfl rfl) (by exact inR_nI (by omega) (by decide)) ?_
            rw [nI_clamp (show j < 2 ^ 31 by omega)]
            refine Go_iconst (v := 1) (pc' := 29) dX12_habit_28 rfl (by decide) ?_
            refine Go_ireturn (ty := .boolean) dX12_habit_29 rfl rfl ?_
            exfalso; omega
          · refine Go_iconst (v := 0) (pc' := 20) dX12_habit_19 rfl (by decide) ?_
            refine Go_ireturn (ty := .boolean) dX12_habit_20 rfl rfl ?_
            exact k _ I
