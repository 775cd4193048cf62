/-! pair: mark -/
/-- one more mark -/
theorem CelE.put {h h' : HS} {o j m : Nat} {X Y : Int} (E : CelE h o j) (em : vi h o 11 = iZ (m : Int)) (hm : m < 40) (hX : 0 ≤ X ∧ X ≤ 199) (hY : 0 ≤ Y ∧ Y ≤ 9999) (hl : ∀ i, i + 1 = m → (vi h (o + 2) i).toInt < X ∧ (vi h (o + 3) i).toInt < Y) (e11 : vi h' o 11 = iZ ((m : Int) + 1)) (e110 : vi h' 110 j = iZ ((m : Int) + 1)) (a : vi h' (o + 2) m = iZ X) (a' : vi h' 108 (40 * j + m) = iZ X) (b : vi h' (o + 3) m = iZ Y) (b' : vi h' 109 (40 * j + m) = iZ Y)
    (hs : ∀ i, i < m → (vi h' (o + 2) i = vi h (o + 2) i ∧ vi h' (o + 3) i = vi h (o + 3) i) ∧ vi h' 108 (40 * j + i) = vi h 108 (40 * j + i) ∧ vi h' 109 (40 * j + i) = vi h 109 (40 * j + i)) : CelE h' o j := by
  obtain ⟨⟨e1, e2⟩, e3, e4⟩ := E
  have ez : (vi h o 11).toInt = (m : Int) := by rw [em, iZ_t (by omega)]
  have ez' : (vi h' o 11).toInt = (m : Int) + 1 := by rw [e11, iZ_t (by omega)]
  rw [ez] at e3 e4
  refine ⟨⟨e11.trans e110.symm, by rw [e11]; exact rgz (by omega) (by omega)⟩, fun i hi => ?_, fun i hi => ?_⟩
  · rw [ez'] at hi
    by_cases z : i = m
    · subst z
      exact ⟨⟨a.trans a'.symm, by rw [a]; exact rgz hX (by omega)⟩, b.trans b'.symm, by rw [b]; exact rgz hY (by omega)⟩
    · obtain ⟨⟨s1, s2⟩, s3, s4⟩ := hs i (by omega)
      rw [s1, s2, s3, s4]
      exact e3 i (by omega)
  · rw [ez'] at hi
    by_cases z : i + 1 = m
    · have := hl i z
      obtain ⟨⟨s1, s2⟩, -, -⟩ := hs i (by omega)
      rw [s1, s2, z, a, b, iZ_t (by omega), iZ_t (by omega)]
      exact this
    · obtain ⟨⟨s1, s2⟩, -, -⟩ := hs i (by omega)
      obtain ⟨⟨s5, s6⟩, -, -⟩ := hs (i + 1) (by omega)
      rw [s1, s2, s5, s6]
      exact e4 i (by omega)

set_option maxRecDepth 20000 in
set_option maxHeartbeats 1000000 in
theorem pair8 {G : GC} (a b c : Int32) : PairI G M_X11_mark M_X12_mark [.int a, .int b, .int c] := by
  intro h I
  obtain ⟨Az, hva, rfl⟩ := i_eta a
  obtain ⟨Bz, hvb, rfl⟩ := i_eta b
  obtain ⟨Cz, hvc, rfl⟩ := i_eta c
  obtain ⟨nc, hnc, ec2⟩ := of_rgZ (b := 6) I.C.1.2
  have ec0 : vi h 99 0 = iZ (nc : Int) := I.C.1.1.trans ec2
  have S := I.S
  by_cases hcc : 0 ≤ Az ∧ Az < nc
  · obtain ⟨j, rfl⟩ : ∃ j : Nat, Az = (j : Int) := ⟨Az.toNat, by omega⟩
    obtain ⟨o, ho, CS, CV⟩ := cel_ex I hnc ec2 (c := j) (by omega)
    have hj : (j : Int) < (vi h 64 2).toInt := by rw [ec2, iZ_t (by omega)]; omega
    have hj6 : j < 6 := by omega
    have hq0 := CS.1
    obtain ⟨n, M⟩ := smp_of (by omega) CS CV
    have hn := M.n
    obtain ⟨cA, cB, cC, cD, cE, cF, cG⟩ := CV
    obtain ⟨m, Q⟩ := mks_of cE
    have hm := Q.1
    have em := Q.2.1
    have em2 := Q.2.2.1
    rcases Nat.eq_zero_or_pos m with rfl | hm0
    · refine ⟨fun r h1 => (((0 ≤ Bz ∧ Bz < n) ∧ (0 ≤ Cz ∧ Cz ≤ 9999)) ∧ r = iZ 1 ∧ h1 = (wI (wI (wI h (o + 2) 0 (iZ Bz)) (o + 3) 0 (iZ Cz)) o 11 (iZ 1))) ∨ (¬ ((0 ≤ Bz ∧ Bz < n) ∧ (0 ≤ Cz ∧ Cz ≤ 9999)) ∧ r = iZ 0 ∧ h = h1), fun K k => ?_, ?_⟩
      · refine Go.more (d := 60) (mc := 0) (ms := 0) ?_ (by omega) (by omega) (by omega)
        show Go G 60 0 0 M_X11_mark 0 [.ref 64, .int (iZ (j : Int)), .int (iZ Bz), .int (iZ Cz), un] [] h K
        refine Go_aload_n (pc' := 1) dX11_mark_0 rfl rfl rfl ?_
        refine Go_iload_n (pc' := 2) dX11_mark_1 rfl rfl rfl ?_
        refine Go_callV_r (pc' := 5) (As := [.int _]) (st := []) dX11_mark_2 rfl ok_X11_cellarOf km_RX11_90 (I.S.o 64 rfl rfl rfl) (I.S.b 64 rfl rfl) ⟨_, _, rfl⟩ rfl (Nat.le_of_ble_eq_true rfl) rfl rfl rfl (Nat.le_of_ble_eq_true rfl) (Nat.lt_succ_self _) ?_
        refine Go_iload_n (pc' := 1) dX11_cellarOf_0 rfl rfl rfl ?_
        refine Go_iconst (v := iZ 0) (pc' := 2) dX11_cellarOf_1 rfl (by decide) ?_
        refine Go_aload_n (pc' := 3) dX11_cellarOf_2 rfl rfl rfl ?_
        refine Go_getIv (v := (iZ (nc : Int))) (pc' := 6) dX11_cellarOf_3 rfl kf_RX11_84 (by decide) (by decide) rfl (I.S.b 64 rfl rfl) (I.S.o 64 rfl rfl rfl) (ec2) ?_
        refine Go_iconst (v := iZ 1) (pc' := 7) dX11_cellarOf_6 rfl (by decide) ?_
        refine Go_isubZ (pc' := 8) dX11_cellarOf_7 rfl ?_
        refine Go_callS_i (pc' := 11) (As := [.int _, .int _, .int _]) (st := []) dX11_cellarOf_8 rfl ok_X11_within km_RX11_94 rfl (Nat.le_of_ble_eq_true rfl) rfl rfl rfl (Nat.le_of_ble_eq_true rfl) (Nat.lt_succ_self _) ?_
        refine s_withinY (by first | exact ⟨i_lo _, i_hi _⟩ | omega) (by first | exact ⟨i_lo _, i_hi _⟩ | omega) (by first | exact ⟨i_lo _, i_hi _⟩ | omega) ?_
        refine ⟨_, rfl, ?_⟩
        refine Go_if_eqb (tgt := 32) (pc' := 14) dX11_cellarOf_11 (by decide) rfl (fun q11 => by exfalso; omega) (fun q11 => ?_)
        refine Go_iload_n (pc' := 15) dX11_cellarOf_14 rfl rfl rfl ?_
        refine Go_aload_n (pc' := 16) dX11_cellarOf_15 rfl rfl rfl ?_
        refine Go_getRs (pc' := 19) dX11_cellarOf_16 rfl kf_RX11_18 (by decide) (by decide) rfl (I.S.b 64 rfl rfl) (I.S.o 64 rfl rfl rfl) (I.S.r 64 1 rfl rfl rfl) ?_
        refine Go_alenZ (n := 6) (pc' := 20) dX11_cellarOf_19 rfl (I.S.b 67 rfl rfl) (I.S.k 67 rfl rfl rfl) (Or.inr (Or.inr ⟨_, rfl⟩)) ?_
        refine Go_icmp_geY (tgt := 32) (pc' := 23) dX11_cellarOf_20 (by decide) rfl (by first | exact ⟨i_lo _, i_hi _⟩ | omega) (by first | exact ⟨i_lo _, i_hi _⟩ | omega) (fun q20 => by exfalso; omega) (fun q20 => ?_)
        refine Go_aload_n (pc' := 24) dX11_cellarOf_23 rfl rfl rfl ?_
        refine Go_getRs (pc' := 27) dX11_cellarOf_24 rfl kf_RX11_18 (by decide) (by decide) rfl (I.S.b 64 rfl rfl) (I.S.o 64 rfl rfl rfl) (I.S.r 64 1 rfl rfl rfl) ?_
        refine Go_iload_n (pc' := 28) dX11_cellarOf_27 rfl rfl rfl ?_
        refine Go_aaloadZ (n := 6) (k := j) (pc' := 29) dX11_cellarOf_28 rfl (I.S.b 67 rfl rfl) (I.S.k 67 rfl rfl rfl) rfl rfl (by omega) (by decide) ho ?_
        refine Go_goto (tgt := 33) dX11_cellarOf_29 (by decide) ?_
        refine Go_areturn (r := some _) dX11_cellarOf_33 rfl ?_
        refine ⟨some _, rfl, ?_⟩
        refine Go_astore (pc' := 7) (lv' := [.ref _, .int _, .int _, .int _, .ref _]) dX11_mark_5 rfl (Nat.le_of_ble_eq_true rfl) rfl rfl ?_
        refine Go_aload (pc' := 9) dX11_mark_7 rfl rfl ?_
        refine Go_ifnull (pc' := 12) dX11_mark_9 rfl ?_
        refine Go_iload_n (pc' := 13) dX11_mark_12 rfl rfl rfl ?_
        refine Go_iconst (v := iZ 0) (pc' := 14) dX11_mark_13 rfl (by decide) ?_
        refine Go_sipush (v := iZ 9999) (pc' := 17) dX11_mark_14 rfl (by decide) ?_
        refine Go_callS_i (pc' := 20) (As := [.int _, .int _, .int _]) (st := []) dX11_mark_17 rfl ok_X11_within km_RX11_94 rfl (Nat.le_of_ble_eq_true rfl) rfl rfl rfl (Nat.le_of_ble_eq_true rfl) (Nat.lt_succ_self _) ?_
        refine s_withinY (by first | exact ⟨i_lo _, i_hi _⟩ | omega) (by first | exact ⟨i_lo _, i_hi _⟩ | omega) (by first | exact ⟨i_lo _, i_hi _⟩ | omega) ?_
        refine ⟨_, rfl, ?_⟩
        refine Go_if_eqb (tgt := 37) (pc' := 23) dX11_mark_20 (by decide) rfl (fun c20 => ?_) (fun c20 => ?_)
        · refine Go_iconst (v := iZ 0) (pc' := 38) dX11_mark_37 rfl (by decide) ?_
          refine Go_ireturn (ty := .boolean) dX11_mark_38 rfl rfl ?_
          exact k _ _ (Or.inr ⟨by omega, rfl, rfl⟩) I.S
        · refine Go_aload (pc' := 25) dX11_mark_23 rfl rfl ?_
          refine Go_iload_n (pc' := 26) dX11_mark_25 rfl rfl rfl ?_
          refine Go_iload_n (pc' := 27) dX11_mark_26 rfl rfl rfl ?_
          refine Go_callV_i (pc' := 30) (As := [.int _, .int _]) (st := []) dX11_mark_27 rfl ok_X2_press km_RX11_159 CS.o CS.b ⟨_, _, rfl⟩ rfl (Nat.le_of_ble_eq_true rfl) rfl rfl rfl (Nat.le_of_ble_eq_true rfl) (Nat.lt_succ_self _) ?_
          refine Go_aload_n (pc' := 1) dX2_press_0 rfl rfl rfl ?_
          refine Go_iload_n (pc' := 2) dX2_press_1 rfl rfl rfl ?_
          refine Go_callV_i (pc' := 5) (As := [.int _]) (st := []) dX2_press_2 rfl ok_X2_hasSample km_RX2_79 CS.o CS.b ⟨_, _, rfl⟩ rfl (Nat.le_of_ble_eq_true rfl) rfl rfl rfl (Nat.le_of_ble_eq_true rfl) (Nat.lt_succ_self _) ?_
          refine Go_iload_n (pc' := 1) dX2_hasSample_0 rfl rfl rfl ?_
          refine Go_if_ltY (tgt := 16) (pc' := 4) dX2_hasSample_1 (by decide) rfl (by first | exact ⟨i_lo _, i_hi _⟩ | omega) (fun s1 => ?_) (fun s1 => ?_)
          · refine Go_iconst (v := iZ 0) (pc' := 17) dX2_hasSample_16 rfl (by decide) ?_
            refine Go_ireturn (ty := .boolean) dX2_hasSample_17 rfl rfl ?_
            refine ⟨_, rfl, ?_⟩
            refine Go_if_eqY (tgt := 17) (pc' := 8) dX2_press_5 (by decide) rfl (by first | exact ⟨i_lo _, i_hi _⟩ | omega) (fun p5 => ?_) (fun p5 => by exfalso; omega)
            refine Go_iconst (v := iZ 0) (pc' := 18) dX2_press_17 rfl (by decide) ?_
            refine Go_ireturn (ty := .boolean) dX2_press_18 rfl rfl ?_
            refine ⟨_, rfl, ?_⟩
            refine Go_if_eqY (tgt := 37) (pc' := 33) dX11_mark_30 (by decide) rfl (by first | exact ⟨i_lo _, i_hi _⟩ | omega) (fun c30 => ?_) (fun c30 => by exfalso; omega)
            refine Go_iconst (v := iZ 0) (pc' := 38) dX11_mark_37 rfl (by decide) ?_
            refine Go_ireturn (ty := .boolean) dX11_mark_38 rfl rfl ?_
            exact k _ _ (Or.inr ⟨by omega, rfl, rfl⟩) I.S
          · refine Go_iload_n (pc' := 5) dX2_hasSample_4 rfl rfl rfl ?_
            refine Go_aload_n (pc' := 6) dX2_hasSample_5 rfl rfl rfl ?_
            refine Go_getIv (v := (iZ (n : Int))) (pc' := 9) dX2_hasSample_6 rfl kf_RX2_58 (by decide) (by decide) rfl CS.b CS.o (M.e8) ?_
            refine Go_icmp_geY (tgt := 16) (pc' := 12) dX2_hasSample_9 (by decide) rfl (by first | exact ⟨i_lo _, i_hi _⟩ | omega) (by first | exact ⟨i_lo _, i_hi _⟩ | omega) (fun s9 => ?_) (fun s9 => ?_)
            · refine Go_iconst (v := iZ 0) (pc' := 17) dX2_hasSample_16 rfl (by decide) ?_
              refine Go_ireturn (ty := .boolean) dX2_hasSample_17 rfl rfl ?_
              refine ⟨_, rfl, ?_⟩
              refine Go_if_eqY (tgt := 17) (pc' := 8) dX2_press_5 (by decide) rfl (by first | exact ⟨i_lo _, i_hi _⟩ | omega) (fun p5 => ?_) (fun p5 => by exfalso; omega)
              refine Go_iconst (v := iZ 0) (pc' := 18) dX2_press_17 rfl (by decide) ?_
              refine Go_ireturn (ty := .boolean) dX2_press_18 rfl rfl ?_
              refine ⟨_, rfl, ?_⟩
              refine Go_if_eqY (tgt := 37) (pc' := 33) dX11_mark_30 (by decide) rfl (by first | exact ⟨i_lo _, i_hi _⟩ | omega) (fun c30 => ?_) (fun c30 => by exfalso; omega)
              refine Go_iconst (v := iZ 0) (pc' := 38) dX11_mark_37 rfl (by decide) ?_
              refine Go_ireturn (ty := .boolean) dX11_mark_38 rfl rfl ?_
              exact k _ _ (Or.inr ⟨by omega, rfl, rfl⟩) I.S
            · refine Go_iconst (v := iZ 1) (pc' := 13) dX2_hasSample_12 rfl (by decide) ?_
              refine Go_goto (tgt := 17) dX2_hasSample_13 (by decide) ?_
              refine Go_ireturn (ty := .boolean) dX2_hasSample_17 rfl rfl ?_
              refine ⟨_, rfl, ?_⟩
              refine Go_if_eqY (tgt := 17) (pc' := 8) dX2_press_5 (by decide) rfl (by first | exact ⟨i_lo _, i_hi _⟩ | omega) (fun p5 => by exfalso; omega) (fun p5 => ?_)
              refine Go_aload_n (pc' := 9) dX2_press_8 rfl rfl rfl ?_
              refine Go_getIv (v := (iZ 0)) (pc' := 12) dX2_press_9 rfl kf_RX2_61 (by decide) (by decide) rfl CS.b CS.o (em) ?_
              refine Go_bipush (v := iZ 40) (pc' := 14) dX2_press_12 rfl (by decide) ?_
              refine Go_icmp_ltY (tgt := 19) (pc' := 17) dX2_press_14 (by decide) rfl (by first | exact ⟨i_lo _, i_hi _⟩ | omega) (by first | exact ⟨i_lo _, i_hi _⟩ | omega) (fun p14 => ?_) (fun p14 => by exfalso; omega)
              refine Go_aload_n (pc' := 20) dX2_press_19 rfl rfl rfl ?_
              refine Go_getIv (v := (iZ 0)) (pc' := 23) dX2_press_20 rfl kf_RX2_61 (by decide) (by decide) rfl CS.b CS.o (em) ?_
              refine Go_iconst (v := iZ 1) (pc' := 24) dX2_press_23 rfl (by decide) ?_
              refine Go_isub (pc' := 25) dX2_press_24 rfl ?_
              rw [show (iZ 0 - iZ 1 : Int32) = iZ (-1) from by decide]
              refine Go_istore_n (pc' := 26) (lv' := [.ref _, .int _, .int _, .int _]) dX2_press_25 rfl rfl (Nat.le_of_ble_eq_true rfl) rfl rfl ?_
              refine Go_iload_n (pc' := 27) dX2_press_26 rfl rfl rfl ?_
              refine Go_if_ltY (tgt := 52) (pc' := 30) dX2_press_27 (by decide) rfl (by first | exact ⟨i_lo _, i_hi _⟩ | omega) (fun p27 => ?_) (fun p27 => by exfalso; omega)
              refine Go_aload_n (pc' := 53) dX2_press_52 rfl rfl rfl ?_
              refine Go_getRs (pc' := 56) dX2_press_53 rfl kf_RX2_31 (by decide) (by decide) rfl CS.b CS.o CS.r9 ?_
              refine Go_aload_n (pc' := 57) dX2_press_56 rfl rfl rfl ?_
              refine Go_getIv (v := (iZ 0)) (pc' := 60) dX2_press_57 rfl kf_RX2_61 (by decide) (by decide) rfl CS.b CS.o (em) ?_
              refine Go_iload_n (pc' := 61) dX2_press_60 rfl rfl rfl ?_
              refine Go_iastoreZ (n := 40) (k := 0) (pc' := 62) dX2_press_61 rfl CS.b2 CS.k2 rfl (by decide) (by decide) ?_
              refine Go_aload_n (pc' := 63) dX2_press_62 rfl rfl rfl ?_
              refine Go_getRs (pc' := 66) dX2_press_63 rfl kf_RX2_34 (by decide) (by decide) rfl CS.b CS.o CS.r10 ?_
              refine Go_aload_n (pc' := 67) dX2_press_66 rfl rfl rfl ?_
              refine Go_getIv (v := (iZ 0)) (pc' := 70) dX2_press_67 rfl kf_RX2_61 (by decide) (by decide) rfl CS.b CS.o ((vi_skip (Or.inl (by omega))).trans (em)) ?_
              refine Go_iload_n (pc' := 71) dX2_press_70 rfl rfl rfl ?_
              refine Go_iastoreZ (n := 40) (k := 0) (pc' := 72) dX2_press_71 rfl CS.b3 CS.k3 rfl (by decide) (by decide) ?_
              refine Go_aload_n (pc' := 73) dX2_press_72 rfl rfl rfl ?_
              refine Go_dup (pc' := 74) dX2_press_73 rfl rfl ?_
              refine Go_getIv (v := (iZ 0)) (pc' := 77) dX2_press_74 rfl kf_RX2_61 (by decide) (by decide) rfl CS.b CS.o ((vi_skip (Or.inl (by omega))).trans ((vi_skip (Or.inl (by omega))).trans (em))) ?_
              refine Go_iconst (v := iZ 1) (pc' := 78) dX2_press_77 rfl (by decide) ?_
              refine Go_iadd (pc' := 79) dX2_press_78 rfl ?_
              rw [show (iZ 0 + iZ 1 : Int32) = iZ 1 from by decide]
              refine Go_putI (pc' := 82) dX2_press_79 rfl kf_RX2_61 (by decide) (by decide) rfl CS.b CS.o (Or.inl rfl) rfl rfl ?_
              refine Go_iconst (v := iZ 1) (pc' := 83) dX2_press_82 rfl (by decide) ?_
              refine Go_ireturn (ty := .boolean) dX2_press_83 rfl rfl ?_
              refine ⟨_, rfl, ?_⟩
              refine Go_if_eqY (tgt := 37) (pc' := 33) dX11_mark_30 (by decide) rfl (by first | exact ⟨i_lo _, i_hi _⟩ | omega) (fun c30 => by exfalso; omega) (fun c30 => ?_)
              refine Go_iconst (v := iZ 1) (pc' := 34) dX11_mark_33 rfl (by decide) ?_
              refine Go_goto (tgt := 38) dX11_mark_34 (by decide) ?_
              refine Go_ireturn (ty := .boolean) dX11_mark_38 rfl rfl ?_
              exact k _ _ (Or.inl ⟨by omega, rfl, rfl⟩) I.S
      · rintro r h1 (⟨hc, rfl, rfl⟩ | ⟨hc, rfl, rfl⟩) K k
        · show Go G 60 0 0 M_X12_mark 0 [.ref 99, .int (iZ (j : Int)), .int (iZ Bz), .int (iZ Cz), un] [] (wI (wI (wI h (o + 2) 0 (iZ Bz)) (o + 3) 0 (iZ Cz)) o 11 (iZ 1)) K
          refine Go_aload_n (pc' := 1) dX12_mark_0 rfl rfl rfl ?_
          refine Go_iload_n (pc' := 2) dX12_mark_1 rfl rfl rfl ?_
          refine Go_callV_i (pc' := 5) (As := [.int _]) (st := []) dX12_mark_2 rfl ok_X12_isCellar km_RX12_158 (I.S.o 99 rfl rfl rfl) (I.S.b 99 rfl rfl) ⟨_, _, rfl⟩ rfl (Nat.le_of_ble_eq_true rfl) rfl rfl rfl (Nat.le_of_ble_eq_true rfl) (Nat.lt_succ_self _) ?_
          refine Go_iload_n (pc' := 1) dX12_isCellar_0 rfl rfl rfl ?_
          refine Go_iconst (v := iZ 0) (pc' := 2) dX12_isCellar_1 rfl (by decide) ?_
          refine Go_aload_n (pc' := 3) dX12_isCellar_2 rfl rfl rfl ?_
          refine Go_getIv (v := (iZ (nc : Int))) (pc' := 6) dX12_isCellar_3 rfl kf_RX12_151 (by decide) (by decide) rfl (I.S.b 99 rfl rfl) (I.S.o 99 rfl rfl rfl) ((vi_skip (Or.inl (by omega))).trans ((vi_skip (Or.inl (by omega))).trans ((vi_skip (Or.inl (by omega))).trans (ec0)))) ?_
          refine Go_iconst (v := iZ 1) (pc' := 7) dX12_isCellar_6 rfl (by decide) ?_
          refine Go_isubZ (pc' := 8) dX12_isCellar_7 rfl ?_
          refine Go_callS_i (pc' := 11) (As := [.int _, .int _, .int _]) (st := []) dX12_isCellar_8 rfl ok_X12_isIn km_RX12_147 rfl (Nat.le_of_ble_eq_true rfl) rfl rfl rfl (Nat.le_of_ble_eq_true rfl) (Nat.lt_succ_self _) ?_
          refine s_isInY (by first | exact ⟨i_lo _, i_hi _⟩ | omega) (by first | exact ⟨i_lo _, i_hi _⟩ | omega) (by first | exact ⟨i_lo _, i_hi _⟩ | omega) ?_
          refine ⟨_, rfl, ?_⟩
          refine Go_ireturn (ty := .boolean) dX12_isCellar_11 rfl b2i_nb ?_
          refine ⟨_, rfl, ?_⟩
          refine Go_if_eqb (tgt := 46) (pc' := 8) dX12_mark_5 (by decide) rfl (fun c5 => ?_) (fun c5 => ?_)
          · refine Go_iconst (v := iZ 0) (pc' := 47) dX12_mark_46 rfl (by decide) ?_
            refine Go_ireturn (ty := .boolean) dX12_mark_47 rfl rfl ?_
            exfalso; omega
          · refine Go_iload_n (pc' := 9) dX12_mark_8 rfl rfl rfl ?_
            refine Go_iconst (v := iZ 0) (pc' := 10) dX12_mark_9 rfl (by decide) ?_
            refine Go_aload_n (pc' := 11) dX12_mark_10 rfl rfl rfl ?_
            refine Go_getRs (pc' := 14) dX12_mark_11 rfl kf_RX12_31 (by decide) (by decide) rfl (I.S.b 99 rfl rfl) (I.S.o 99 rfl rfl rfl) (I.S.r 99 8 rfl rfl rfl) ?_
            refine Go_iload_n (pc' := 15) dX12_mark_14 rfl rfl rfl ?_
            refine Go_ialoadZ (n := 6) (k := j) (v := (iZ (n : Int))) (pc' := 16) dX12_mark_15 rfl (I.S.b 107 rfl rfl) (I.S.k 107 rfl rfl rfl) rfl (by omega) (by decide) ((vi_skip (Or.inl (by omega))).trans ((vi_skip (Or.inl (by omega))).trans ((vi_skip (Or.inl (by omega))).trans (M.e107)))) ?_
            refine Go_iconst (v := iZ 1) (pc' := 17) dX12_mark_16 rfl (by decide) ?_
            refine Go_isubZ (pc' := 18) dX12_mark_17 rfl ?_
            refine Go_callS_i (pc' := 21) (As := [.int _, .int _, .int _]) (st := []) dX12_mark_18 rfl ok_X12_isIn km_RX12_147 rfl (Nat.le_of_ble_eq_true rfl) rfl rfl rfl (Nat.le_of_ble_eq_true rfl) (Nat.lt_succ_self _) ?_
            refine s_isInY (by first | exact ⟨i_lo _, i_hi _⟩ | omega) (by first | exact ⟨i_lo _, i_hi _⟩ | omega) (by first | exact ⟨i_lo _, i_hi _⟩ | omega) ?_
            refine ⟨_, rfl, ?_⟩
            refine Go_if_eqb (tgt := 46) (pc' := 24) dX12_mark_21 (by decide) rfl (fun c21 => ?_) (fun c21 => ?_)
            · refine Go_iconst (v := iZ 0) (pc' := 47) dX12_mark_46 rfl (by decide) ?_
              refine Go_ireturn (ty := .boolean) dX12_mark_47 rfl rfl ?_
              exfalso; omega
            · refine Go_iload_n (pc' := 25) dX12_mark_24 rfl rfl rfl ?_
              refine Go_iconst (v := iZ 0) (pc' := 26) dX12_mark_25 rfl (by decide) ?_
              refine Go_sipush (v := iZ 9999) (pc' := 29) dX12_mark_26 rfl (by decide) ?_
              refine Go_callS_i (pc' := 32) (As := [.int _, .int _, .int _]) (st := []) dX12_mark_29 rfl ok_X12_isIn km_RX12_147 rfl (Nat.le_of_ble_eq_true rfl) rfl rfl rfl (Nat.le_of_ble_eq_true rfl) (Nat.lt_succ_self _) ?_
              refine s_isInY (by first | exact ⟨i_lo _, i_hi _⟩ | omega) (by first | exact ⟨i_lo _, i_hi _⟩ | omega) (by first | exact ⟨i_lo _, i_hi _⟩ | omega) ?_
              refine ⟨_, rfl, ?_⟩
              refine Go_if_eqb (tgt := 46) (pc' := 35) dX12_mark_32 (by decide) rfl (fun c32 => ?_) (fun c32 => ?_)
              · refine Go_iconst (v := iZ 0) (pc' := 47) dX12_mark_46 rfl (by decide) ?_
                refine Go_ireturn (ty := .boolean) dX12_mark_47 rfl rfl ?_
                exfalso; omega
              · refine Go_aload_n (pc' := 36) dX12_mark_35 rfl rfl rfl ?_
                refine Go_getRs (pc' := 39) dX12_mark_36 rfl kf_RX12_40 (by decide) (by decide) rfl (I.S.b 99 rfl rfl) (I.S.o 99 rfl rfl rfl) (I.S.r 99 11 rfl rfl rfl) ?_
                refine Go_iload_n (pc' := 40) dX12_mark_39 rfl rfl rfl ?_
                refine Go_ialoadZ (n := 6) (k := j) (v := (iZ 0)) (pc' := 41) dX12_mark_40 rfl (I.S.b 110 rfl rfl) (I.S.k 110 rfl rfl rfl) rfl (by omega) (by decide) ((vi_skip (Or.inl (by omega))).trans ((vi_skip (Or.inl (by omega))).trans ((vi_skip (Or.inl (by omega))).trans (em2)))) ?_
                refine Go_bipush (v := iZ 40) (pc' := 43) dX12_mark_41 rfl (by decide) ?_
                refine Go_icmp_neY (tgt := 48) (pc' := 46) dX12_mark_43 (by decide) rfl (by first | exact ⟨i_lo _, i_hi _⟩ | omega) (by first | exact ⟨i_lo _, i_hi _⟩ | omega) (fun c43 => ?_) (fun c43 => by exfalso; omega)
                refine Go_bipush (v := iZ 40) (pc' := 50) dX12_mark_48 rfl (by decide) ?_
                refine Go_iload_n (pc' := 51) dX12_mark_50 rfl rfl rfl ?_
                refine Go_imulZ (pc' := 52) dX12_mark_51 rfl ?_
                refine Go_aload_n (pc' := 53) dX12_mark_52 rfl rfl rfl ?_
                refine Go_getRs (pc' := 56) dX12_mark_53 rfl kf_RX12_40 (by decide) (by decide) rfl (I.S.b 99 rfl rfl) (I.S.o 99 rfl rfl rfl) (I.S.r 99 11 rfl rfl rfl) ?_
                refine Go_iload_n (pc' := 57) dX12_mark_56 rfl rfl rfl ?_
                refine Go_ialoadZ (n := 6) (k := j) (v := (iZ 0)) (pc' := 58) dX12_mark_57 rfl (I.S.b 110 rfl rfl) (I.S.k 110 rfl rfl rfl) rfl (by omega) (by decide) ((vi_skip (Or.inl (by omega))).trans ((vi_skip (Or.inl (by omega))).trans ((vi_skip (Or.inl (by omega))).trans (em2)))) ?_
                refine Go_iaddZ (pc' := 59) dX12_mark_58 rfl ?_
                refine Go_istore (pc' := 61) (lv' := [.ref _, .int _, .int _, .int _, .int _]) dX12_mark_59 rfl (Nat.le_of_ble_eq_true rfl) rfl rfl ?_
                refine Go_aload_n (pc' := 62) dX12_mark_61 rfl rfl rfl ?_
                refine Go_getRs (pc' := 65) dX12_mark_62 rfl kf_RX12_40 (by decide) (by decide) rfl (I.S.b 99 rfl rfl) (I.S.o 99 rfl rfl rfl) (I.S.r 99 11 rfl rfl rfl) ?_
                refine Go_iload_n (pc' := 66) dX12_mark_65 rfl rfl rfl ?_
                refine Go_ialoadZ (n := 6) (k := j) (v := (iZ 0)) (pc' := 67) dX12_mark_66 rfl (I.S.b 110 rfl rfl) (I.S.k 110 rfl rfl rfl) rfl (by omega) (by decide) ((vi_skip (Or.inl (by omega))).trans ((vi_skip (Or.inl (by omega))).trans ((vi_skip (Or.inl (by omega))).trans (em2)))) ?_
                refine Go_if_leY (tgt := 98) (pc' := 70) dX12_mark_67 (by decide) rfl (by first | exact ⟨i_lo _, i_hi _⟩ | omega) (fun c67 => ?_) (fun c67 => by exfalso; omega)
                refine Go_aload_n (pc' := 99) dX12_mark_98 rfl rfl rfl ?_
                refine Go_getRs (pc' := 102) dX12_mark_99 rfl kf_RX12_34 (by decide) (by decide) rfl (I.S.b 99 rfl rfl) (I.S.o 99 rfl rfl rfl) (I.S.r 99 9 rfl rfl rfl) ?_
                refine Go_iload (pc' := 104) dX12_mark_102 rfl rfl ?_
                refine Go_iload_n (pc' := 105) dX12_mark_104 rfl rfl rfl ?_
                refine Go_iastoreZ (n := 240) (k := (40 * j + 0)) (pc' := 106) dX12_mark_105 rfl (I.S.b 108 rfl rfl) (I.S.k 108 rfl rfl rfl) (by omega) (by omega) (by decide) ?_
                refine Go_aload_n (pc' := 107) dX12_mark_106 rfl rfl rfl ?_
                refine Go_getRs (pc' := 110) dX12_mark_107 rfl kf_RX12_37 (by decide) (by decide) rfl (I.S.b 99 rfl rfl) (I.S.o 99 rfl rfl rfl) (I.S.r 99 10 rfl rfl rfl) ?_
                refine Go_iload (pc' := 112) dX12_mark_110 rfl rfl ?_
                refine Go_iload_n (pc' := 113) dX12_mark_112 rfl rfl rfl ?_
                refine Go_iastoreZ (n := 240) (k := (40 * j + 0)) (pc' := 114) dX12_mark_113 rfl (I.S.b 109 rfl rfl) (I.S.k 109 rfl rfl rfl) (by omega) (by omega) (by decide) ?_
                refine Go_aload_n (pc' := 115) dX12_mark_114 rfl rfl rfl ?_
                refine Go_getRs (pc' := 118) dX12_mark_115 rfl kf_RX12_40 (by decide) (by decide) rfl (I.S.b 99 rfl rfl) (I.S.o 99 rfl rfl rfl) (I.S.r 99 11 rfl rfl rfl) ?_
                refine Go_iload_n (pc' := 119) dX12_mark_118 rfl rfl rfl ?_
                refine Go_dup2 (pc' := 120) dX12_mark_119 rfl rfl rfl ?_
                refine Go_ialoadZ (n := 6) (k := j) (v := (iZ 0)) (pc' := 121) dX12_mark_120 rfl (I.S.b 110 rfl rfl) (I.S.k 110 rfl rfl rfl) rfl (by omega) (by decide) ((vi_skip (Or.inl (by decide))).trans ((vi_skip (Or.inl (by decide))).trans ((vi_skip (Or.inl (by omega))).trans ((vi_skip (Or.inl (by omega))).trans ((vi_skip (Or.inl (by omega))).trans (em2)))))) ?_
                refine Go_iconst (v := iZ 1) (pc' := 122) dX12_mark_121 rfl (by decide) ?_
                refine Go_iadd (pc' := 123) dX12_mark_122 rfl ?_
                rw [show (iZ 0 + iZ 1 : Int32) = iZ 1 from by decide]
                refine Go_iastoreZ (n := 6) (k := j) (pc' := 124) dX12_mark_123 rfl (I.S.b 110 rfl rfl) (I.S.k 110 rfl rfl rfl) rfl (by omega) (by decide) ?_
                refine Go_iconst (v := iZ 1) (pc' := 125) dX12_mark_124 rfl (by decide) ?_
                refine Go_ireturn (ty := .boolean) dX12_mark_125 rfl rfl ?_
                exact k _ (I.cel hj ho CS (((((((Dif.rf _ _ _).wI (by unfold OwnW; omega)).wI (by unfold OwnW; omega)).wI (by unfold OwnW; omega)).wI (by unfold OwnW; omega)).wI (by unfold OwnW; omega)).wI (by unfold OwnW; omega)) ⟨cA.fr (((((((SameP.rf _ _).wI (by unfold fA; omega)).wI (by unfold fA; omega)).wI (by unfold fA; omega)).wI (by unfold fA; omega)).wI (by unfold fA; omega)).wI (by unfold fA; omega)), cB.fr (((((((SameP.rf _ _).wI (by unfold fB; omega)).wI (by unfold fB; omega)).wI (by unfold fB; omega)).wI (by unfold fB; omega)).wI (by unfold fB; omega)).wI (by unfold fB; omega)), cC.fr (((((((SameP.rf _ _).wI (by unfold fC; omega)).wI (by unfold fC; omega)).wI (by unfold fC; omega)).wI (by unfold fC; omega)).wI (by unfold fC; omega)).wI (by unfold fC; omega)), cD.fr (((((((SameP.rf _ _).wI (by unfold fD; omega)).wI (by unfold fD; omega)).wI (by unfold fD; omega)).wI (by unfold fD; omega)).wI (by unfold fD; omega)).wI (by unfold fD; omega)), cE.put (m := 0) (X := Bz) (Y := Cz) em (by omega) (by omega) (by omega) (fun i hi => by omega) ((vi_skip (Or.inl (by omega))).trans ((vi_skip (Or.inl (by omega))).trans ((vi_skip (Or.inl (by omega))).trans (vi_same)))) (vi_same) ((vi_skip (Or.inl (by omega))).trans ((vi_skip (Or.inl (by omega))).trans ((vi_skip (Or.inl (by omega))).trans ((vi_skip (Or.inl (by omega))).trans ((vi_skip (Or.inl (by omega))).trans (vi_same)))))) ((vi_skip (Or.inl (by decide))).trans ((vi_skip (Or.inl (by decide))).trans (vi_same))) ((vi_skip (Or.inl (by omega))).trans ((vi_skip (Or.inl (by omega))).trans ((vi_skip (Or.inl (by omega))).trans ((vi_skip (Or.inl (by omega))).trans (vi_same))))) ((vi_skip (Or.inl (by decide))).trans (vi_same)) (fun i hi => ⟨⟨((vi_skip (by omega)).trans ((vi_skip (by omega)).trans ((vi_skip (by omega)).trans ((vi_skip (by omega)).trans ((vi_skip (by omega)).trans ((vi_skip (by omega)).trans (rfl))))))), ((vi_skip (by omega)).trans ((vi_skip (by omega)).trans ((vi_skip (by omega)).trans ((vi_skip (by omega)).trans ((vi_skip (by omega)).trans ((vi_skip (by omega)).trans (rfl)))))))⟩, ((vi_skip (by omega)).trans ((vi_skip (by omega)).trans ((vi_skip (by omega)).trans ((vi_skip (by omega)).trans ((vi_skip (by omega)).trans ((vi_skip (by omega)).trans (rfl))))))), ((vi_skip (by omega)).trans ((vi_skip (by omega)).trans ((vi_skip (by omega)).trans ((vi_skip (by omega)).trans ((vi_skip (by omega)).trans ((vi_skip (by omega)).trans (rfl)))))))⟩), cF.fr (((((((SameP.rf _ _).wI (by unfold fF; omega)).wI (by unfold fF; omega)).wI (by unfold fF; omega)).wI (by unfold fF; omega)).wI (by unfold fF; omega)).wI (by unfold fF; omega)), cG.fr (((((((SameP.rf _ _).wI (by unfold fG; omega)).wI (by unfold fG; omega)).wI (by unfold fG; omega)).wI (by unfold fG; omega)).wI (by unfold fG; omega)).wI (by unfold fG; omega))⟩)
        · show Go G 60 0 0 M_X12_mark 0 [.ref 99, .int (iZ (j : Int)), .int (iZ Bz), .int (iZ Cz), un] [] h K
          refine Go_aload_n (pc' := 1) dX12_mark_0 rfl rfl rfl ?_
          refine Go_iload_n (pc' := 2) dX12_mark_1 rfl rfl rfl ?_
          refine Go_callV_i (pc' := 5) (As := [.int _]) (st := []) dX12_mark_2 rfl ok_X12_isCellar km_RX12_158 (I.S.o 99 rfl rfl rfl) (I.S.b 99 rfl rfl) ⟨_, _, rfl⟩ rfl (Nat.le_of_ble_eq_true rfl) rfl rfl rfl (Nat.le_of_ble_eq_true rfl) (Nat.lt_succ_self _) ?_
          refine Go_iload_n (pc' := 1) dX12_isCellar_0 rfl rfl rfl ?_
          refine Go_iconst (v := iZ 0) (pc' := 2) dX12_isCellar_1 rfl (by decide) ?_
          refine Go_aload_n (pc' := 3) dX12_isCellar_2 rfl rfl rfl ?_
          refine Go_getIv (v := (iZ (nc : Int))) (pc' := 6) dX12_isCellar_3 rfl kf_RX12_151 (by decide) (by decide) rfl (I.S.b 99 rfl rfl) (I.S.o 99 rfl rfl rfl) (ec0) ?_
          refine Go_iconst (v := iZ 1) (pc' := 7) dX12_isCellar_6 rfl (by decide) ?_
          refine Go_isubZ (pc' := 8) dX12_isCellar_7 rfl ?_
          refine Go_callS_i (pc' := 11) (As := [.int _, .int _, .int _]) (st := []) dX12_isCellar_8 rfl ok_X12_isIn km_RX12_147 rfl (Nat.le_of_ble_eq_true rfl) rfl rfl rfl (Nat.le_of_ble_eq_true rfl) (Nat.lt_succ_self _) ?_
          refine s_isInY (by first | exact ⟨i_lo _, i_hi _⟩ | omega) (by first | exact ⟨i_lo _, i_hi _⟩ | omega) (by first | exact ⟨i_lo _, i_hi _⟩ | omega) ?_
          refine ⟨_, rfl, ?_⟩
          refine Go_ireturn (ty := .boolean) dX12_isCellar_11 rfl b2i_nb ?_
          refine ⟨_, rfl, ?_⟩
          refine Go_if_eqb (tgt := 46) (pc' := 8) dX12_mark_5 (by decide) rfl (fun c5 => ?_) (fun c5 => ?_)
          · refine Go_iconst (v := iZ 0) (pc' := 47) dX12_mark_46 rfl (by decide) ?_
            refine Go_ireturn (ty := .boolean) dX12_mark_47 rfl rfl ?_
            exact k _ I
          · refine Go_iload_n (pc' := 9) dX12_mark_8 rfl rfl rfl ?_
            refine Go_iconst (v := iZ 0) (pc' := 10) dX12_mark_9 rfl (by decide) ?_
            refine Go_aload_n (pc' := 11) dX12_mark_10 rfl rfl rfl ?_
            refine Go_getRs (pc' := 14) dX12_mark_11 rfl kf_RX12_31 (by decide) (by decide) rfl (I.S.b 99 rfl rfl) (I.S.o 99 rfl rfl rfl) (I.S.r 99 8 rfl rfl rfl) ?_
            refine Go_iload_n (pc' := 15) dX12_mark_14 rfl rfl rfl ?_
            refine Go_ialoadZ (n := 6) (k := j) (v := (iZ (n : Int))) (pc' := 16) dX12_mark_15 rfl (I.S.b 107 rfl rfl) (I.S.k 107 rfl rfl rfl) rfl (by omega) (by decide) (M.e107) ?_
            refine Go_iconst (v := iZ 1) (pc' := 17) dX12_mark_16 rfl (by decide) ?_
            refine Go_isubZ (pc' := 18) dX12_mark_17 rfl ?_
            refine Go_callS_i (pc' := 21) (As := [.int _, .int _, .int _]) (st := []) dX12_mark_18 rfl ok_X12_isIn km_RX12_147 rfl (Nat.le_of_ble_eq_true rfl) rfl rfl rfl (Nat.le_of_ble_eq_true rfl) (Nat.lt_succ_self _) ?_
            refine s_isInY (by first | exact ⟨i_lo _, i_hi _⟩ | omega) (by first | exact ⟨i_lo _, i_hi _⟩ | omega) (by first | exact ⟨i_lo _, i_hi _⟩ | omega) ?_
            refine ⟨_, rfl, ?_⟩
            refine Go_if_eqb (tgt := 46) (pc' := 24) dX12_mark_21 (by decide) rfl (fun c21 => ?_) (fun c21 => ?_)
            · refine Go_iconst (v := iZ 0) (pc' := 47) dX12_mark_46 rfl (by decide) ?_
              refine Go_ireturn (ty := .boolean) dX12_mark_47 rfl rfl ?_
              exact k _ I
            · refine Go_iload_n (pc' := 25) dX12_mark_24 rfl rfl rfl ?_
              refine Go_iconst (v := iZ 0) (pc' := 26) dX12_mark_25 rfl (by decide) ?_
              refine Go_sipush (v := iZ 9999) (pc' := 29) dX12_mark_26 rfl (by decide) ?_
              refine Go_callS_i (pc' := 32) (As := [.int _, .int _, .int _]) (st := []) dX12_mark_29 rfl ok_X12_isIn km_RX12_147 rfl (Nat.le_of_ble_eq_true rfl) rfl rfl rfl (Nat.le_of_ble_eq_true rfl) (Nat.lt_succ_self _) ?_
              refine s_isInY (by first | exact ⟨i_lo _, i_hi _⟩ | omega) (by first | exact ⟨i_lo _, i_hi _⟩ | omega) (by first | exact ⟨i_lo _, i_hi _⟩ | omega) ?_
              refine ⟨_, rfl, ?_⟩
              refine Go_if_eqb (tgt := 46) (pc' := 35) dX12_mark_32 (by decide) rfl (fun c32 => ?_) (fun c32 => ?_)
              · refine Go_iconst (v := iZ 0) (pc' := 47) dX12_mark_46 rfl (by decide) ?_
                refine Go_ireturn (ty := .boolean) dX12_mark_47 rfl rfl ?_
                exact k _ I
              · refine Go_aload_n (pc' := 36) dX12_mark_35 rfl rfl rfl ?_
                refine Go_getRs (pc' := 39) dX12_mark_36 rfl kf_RX12_40 (by decide) (by decide) rfl (I.S.b 99 rfl rfl) (I.S.o 99 rfl rfl rfl) (I.S.r 99 11 rfl rfl rfl) ?_
                refine Go_iload_n (pc' := 40) dX12_mark_39 rfl rfl rfl ?_
                refine Go_ialoadZ (n := 6) (k := j) (v := (iZ 0)) (pc' := 41) dX12_mark_40 rfl (I.S.b 110 rfl rfl) (I.S.k 110 rfl rfl rfl) rfl (by omega) (by decide) (em2) ?_
                refine Go_bipush (v := iZ 40) (pc' := 43) dX12_mark_41 rfl (by decide) ?_
                refine Go_icmp_neY (tgt := 48) (pc' := 46) dX12_mark_43 (by decide) rfl (by first | exact ⟨i_lo _, i_hi _⟩ | omega) (by first | exact ⟨i_lo _, i_hi _⟩ | omega) (fun c43 => ?_) (fun c43 => by exfalso; omega)
                refine Go_bipush (v := iZ 40) (pc' := 50) dX12_mark_48 rfl (by decide) ?_
                refine Go_iload_n (pc' := 51) dX12_mark_50 rfl rfl rfl ?_
                refine Go_imulZ (pc' := 52) dX12_mark_51 rfl ?_
                refine Go_aload_n (pc' := 53) dX12_mark_52 rfl rfl rfl ?_
                refine Go_getRs (pc' := 56) dX12_mark_53 rfl kf_RX12_40 (by decide) (by decide) rfl (I.S.b 99 rfl rfl) (I.S.o 99 rfl rfl rfl) (I.S.r 99 11 rfl rfl rfl) ?_
                refine Go_iload_n (pc' := 57) dX12_mark_56 rfl rfl rfl ?_
                refine Go_ialoadZ (n := 6) (k := j) (v := (iZ 0)) (pc' := 58) dX12_mark_57 rfl (I.S.b 110 rfl rfl) (I.S.k 110 rfl rfl rfl) rfl (by omega) (by decide) (em2) ?_
                refine Go_iaddZ (pc' := 59) dX12_mark_58 rfl ?_
                refine Go_istore (pc' := 61) (lv' := [.ref _, .int _, .int _, .int _, .int _]) dX12_mark_59 rfl (Nat.le_of_ble_eq_true rfl) rfl rfl ?_
                refine Go_aload_n (pc' := 62) dX12_mark_61 rfl rfl rfl ?_
                refine Go_getRs (pc' := 65) dX12_mark_62 rfl kf_RX12_40 (by decide) (by decide) rfl (I.S.b 99 rfl rfl) (I.S.o 99 rfl rfl rfl) (I.S.r 99 11 rfl rfl rfl) ?_
                refine Go_iload_n (pc' := 66) dX12_mark_65 rfl rfl rfl ?_
                refine Go_ialoadZ (n := 6) (k := j) (v := (iZ 0)) (pc' := 67) dX12_mark_66 rfl (I.S.b 110 rfl rfl) (I.S.k 110 rfl rfl rfl) rfl (by omega) (by decide) (em2) ?_
                refine Go_if_leY (tgt := 98) (pc' := 70) dX12_mark_67 (by decide) rfl (by first | exact ⟨i_lo _, i_hi _⟩ | omega) (fun c67 => ?_) (fun c67 => by exfalso; omega)
                refine Go_aload_n (pc' := 99) dX12_mark_98 rfl rfl rfl ?_
                refine Go_getRs (pc' := 102) dX12_mark_99 rfl kf_RX12_34 (by decide) (by decide) rfl (I.S.b 99 rfl rfl) (I.S.o 99 rfl rfl rfl) (I.S.r 99 9 rfl rfl rfl) ?_
                refine Go_iload (pc' := 104) dX12_mark_102 rfl rfl ?_
                refine Go_iload_n (pc' := 105) dX12_mark_104 rfl rfl rfl ?_
                refine Go_iastoreZ (n := 240) (k := (40 * j + 0)) (pc' := 106) dX12_mark_105 rfl (I.S.b 108 rfl rfl) (I.S.k 108 rfl rfl rfl) (by omega) (by omega) (by decide) ?_
                refine Go_aload_n (pc' := 107) dX12_mark_106 rfl rfl rfl ?_
                refine Go_getRs (pc' := 110) dX12_mark_107 rfl kf_RX12_37 (by decide) (by decide) rfl (I.S.b 99 rfl rfl) (I.S.o 99 rfl rfl rfl) (I.S.r 99 10 rfl rfl rfl) ?_
                refine Go_iload (pc' := 112) dX12_mark_110 rfl rfl ?_
                refine Go_iload_n (pc' := 113) dX12_mark_112 rfl rfl rfl ?_
                refine Go_iastoreZ (n := 240) (k := (40 * j + 0)) (pc' := 114) dX12_mark_113 rfl (I.S.b 109 rfl rfl) (I.S.k 109 rfl rfl rfl) (by omega) (by omega) (by decide) ?_
                refine Go_aload_n (pc' := 115) dX12_mark_114 rfl rfl rfl ?_
                refine Go_getRs (pc' := 118) dX12_mark_115 rfl kf_RX12_40 (by decide) (by decide) rfl (I.S.b 99 rfl rfl) (I.S.o 99 rfl rfl rfl) (I.S.r 99 11 rfl rfl rfl) ?_
                refine Go_iload_n (pc' := 119) dX12_mark_118 rfl rfl rfl ?_
                refine Go_dup2 (pc' := 120) dX12_mark_119 rfl rfl rfl ?_
                refine Go_ialoadZ (n := 6) (k := j) (v := (iZ 0)) (pc' := 121) dX12_mark_120 rfl (I.S.b 110 rfl rfl) (I.S.k 110 rfl rfl rfl) rfl (by omega) (by decide) ((vi_skip (Or.inl (by decide))).trans ((vi_skip (Or.inl (by decide))).trans (em2))) ?_
                refine Go_iconst (v := iZ 1) (pc' := 122) dX12_mark_121 rfl (by decide) ?_
                refine Go_iadd (pc' := 123) dX12_mark_122 rfl ?_
                rw [show (iZ 0 + iZ 1 : Int32) = iZ 1 from by decide]
                refine Go_iastoreZ (n := 6) (k := j) (pc' := 124) dX12_mark_123 rfl (I.S.b 110 rfl rfl) (I.S.k 110 rfl rfl rfl) rfl (by omega) (by decide) ?_
                refine Go_iconst (v := iZ 1) (pc' := 125) dX12_mark_124 rfl (by decide) ?_
                refine Go_ireturn (ty := .boolean) dX12_mark_125 rfl rfl ?_
                exfalso; omega
    · obtain ⟨m, rfl⟩ : ∃ m0, m = m0 + 1 := ⟨m - 1, by omega⟩
      have em : vi h o 11 = iZ ((m : Int) + 1) := em
      have em2 : vi h 110 j = iZ ((m : Int) + 1) := em2
      have qa := Q.2.2.2.1 m (by omega)
      refine ⟨fun r h1 => (((0 ≤ Bz ∧ Bz < n) ∧ (0 ≤ Cz ∧ Cz ≤ 9999) ∧ (m : Int) + 1 < 40 ∧ (vi h (o + 2) m).toInt < Bz ∧ (vi h (o + 3) m).toInt < Cz) ∧ r = iZ 1 ∧ h1 = (wI (wI (wI h (o + 2) (m + 1) (iZ Bz)) (o + 3) (m + 1) (iZ Cz)) o 11 (iZ (((m : Int) + 1) + 1)))) ∨ (¬ ((0 ≤ Bz ∧ Bz < n) ∧ (0 ≤ Cz ∧ Cz ≤ 9999) ∧ (m : Int) + 1 < 40 ∧ (vi h (o + 2) m).toInt < Bz ∧ (vi h (o + 3) m).toInt < Cz) ∧ r = iZ 0 ∧ h = h1), fun K k => ?_, ?_⟩
      · refine Go.more (d := 60) (mc := 0) (ms := 0) ?_ (by omega) (by omega) (by omega)
        show Go G 60 0 0 M_X11_mark 0 [.ref 64, .int (iZ (j : Int)), .int (iZ Bz), .int (iZ Cz), un] [] h K
        refine Go_aload_n (pc' := 1) dX11_mark_0 rfl rfl rfl ?_
        refine Go_iload_n (pc' := 2) dX11_mark_1 rfl rfl rfl ?_
        refine Go_callV_r (pc' := 5) (As := [.int _]) (st := []) dX11_mark_2 rfl ok_X11_cellarOf km_RX11_90 (I.S.o 64 rfl rfl rfl) (I.S.b 64 rfl rfl) ⟨_, _, rfl⟩ rfl (Nat.le_of_ble_eq_true rfl) rfl rfl rfl (Nat.le_of_ble_eq_true rfl) (Nat.lt_succ_self _) ?_
        refine Go_iload_n (pc' := 1) dX11_cellarOf_0 rfl rfl rfl ?_
        refine Go_iconst (v := iZ 0) (pc' := 2) dX11_cellarOf_1 rfl (by decide) ?_
        refine Go_aload_n (pc' := 3) dX11_cellarOf_2 rfl rfl rfl ?_
        refine Go_getIv (v := (iZ (nc : Int))) (pc' := 6) dX11_cellarOf_3 rfl kf_RX11_84 (by decide) (by decide) rfl (I.S.b 64 rfl rfl) (I.S.o 64 rfl rfl rfl) (ec2) ?_
        refine Go_iconst (v := iZ 1) (pc' := 7) dX11_cellarOf_6 rfl (by decide) ?_
        refine Go_isubZ (pc' := 8) dX11_cellarOf_7 rfl ?_
        refine Go_callS_i (pc' := 11) (As := [.int _, .int _, .int _]) (st := []) dX11_cellarOf_8 rfl ok_X11_within km_RX11_94 rfl (Nat.le_of_ble_eq_true rfl) rfl rfl rfl (Nat.le_of_ble_eq_true rfl) (Nat.lt_succ_self _) ?_
        refine s_withinY (by first | exact ⟨i_lo _, i_hi _⟩ | omega) (by first | exact ⟨i_lo _, i_hi _⟩ | omega) (by first | exact ⟨i_lo _, i_hi _⟩ | omega) ?_
        refine ⟨_, rfl, ?_⟩
        refine Go_if_eqb (tgt := 32) (pc' := 14) dX11_cellarOf_11 (by decide) rfl (fun q11 => by exfalso; omega) (fun q11 => ?_)
        refine Go_iload_n (pc' := 15) dX11_cellarOf_14 rfl rfl rfl ?_
        refine Go_aload_n (pc' := 16) dX11_cellarOf_15 rfl rfl rfl ?_
        refine Go_getRs (pc' := 19) dX11_cellarOf_16 rfl kf_RX11_18 (by decide) (by decide) rfl (I.S.b 64 rfl rfl) (I.S.o 64 rfl rfl rfl) (I.S.r 64 1 rfl rfl rfl) ?_
        refine Go_alenZ (n := 6) (pc' := 20) dX11_cellarOf_19 rfl (I.S.b 67 rfl rfl) (I.S.k 67 rfl rfl rfl) (Or.inr (Or.inr ⟨_, rfl⟩)) ?_
        refine Go_icmp_geY (tgt := 32) (pc' := 23) dX11_cellarOf_20 (by decide) rfl (by first | exact ⟨i_lo _, i_hi _⟩ | omega) (by first | exact ⟨i_lo _, i_hi _⟩ | omega) (fun q20 => by exfalso; omega) (fun q20 => ?_)
        refine Go_aload_n (pc' := 24) dX11_cellarOf_23 rfl rfl rfl ?_
        refine Go_getRs (pc' := 27) dX11_cellarOf_24 rfl kf_RX11_18 (by decide) (by decide) rfl (I.S.b 64 rfl rfl) (I.S.o 64 rfl rfl rfl) (I.S.r 64 1 rfl rfl rfl) ?_
        refine Go_iload_n (pc' := 28) dX11_cellarOf_27 rfl rfl rfl ?_
        refine Go_aaloadZ (n := 6) (k := j) (pc' := 29) dX11_cellarOf_28 rfl (I.S.b 67 rfl rfl) (I.S.k 67 rfl rfl rfl) rfl rfl (by omega) (by decide) ho ?_
        refine Go_goto (tgt := 33) dX11_cellarOf_29 (by decide) ?_
        refine Go_areturn (r := some _) dX11_cellarOf_33 rfl ?_
        refine ⟨some _, rfl, ?_⟩
        refine Go_astore (pc' := 7) (lv' := [.ref _, .int _, .int _, .int _, .ref _]) dX11_mark_5 rfl (Nat.le_of_ble_eq_true rfl) rfl rfl ?_
        refine Go_aload (pc' := 9) dX11_mark_7 rfl rfl ?_
        refine Go_ifnull (pc' := 12) dX11_mark_9 rfl ?_
        refine Go_iload_n (pc' := 13) dX11_mark_12 rfl rfl rfl ?_
        refine Go_iconst (v := iZ 0) (pc' := 14) dX11_mark_13 rfl (by decide) ?_
        refine Go_sipush (v := iZ 9999) (pc' := 17) dX11_mark_14 rfl (by decide) ?_
        refine Go_callS_i (pc' := 20) (As := [.int _, .int _, .int _]) (st := []) dX11_mark_17 rfl ok_X11_within km_RX11_94 rfl (Nat.le_of_ble_eq_true rfl) rfl rfl rfl (Nat.le_of_ble_eq_true rfl) (Nat.lt_succ_self _) ?_
        refine s_withinY (by first | exact ⟨i_lo _, i_hi _⟩ | omega) (by first | exact ⟨i_lo _, i_hi _⟩ | omega) (by first | exact ⟨i_lo _, i_hi _⟩ | omega) ?_
        refine ⟨_, rfl, ?_⟩
        refine Go_if_eqb (tgt := 37) (pc' := 23) dX11_mark_20 (by decide) rfl (fun c20 => ?_) (fun c20 => ?_)
        · refine Go_iconst (v := iZ 0) (pc' := 38) dX11_mark_37 rfl (by decide) ?_
          refine Go_ireturn (ty := .boolean) dX11_mark_38 rfl rfl ?_
          exact k _ _ (Or.inr ⟨by omega, rfl, rfl⟩) I.S
        · refine Go_aload (pc' := 25) dX11_mark_23 rfl rfl ?_
          refine Go_iload_n (pc' := 26) dX11_mark_25 rfl rfl rfl ?_
          refine Go_iload_n (pc' := 27) dX11_mark_26 rfl rfl rfl ?_
          refine Go_callV_i (pc' := 30) (As := [.int _, .int _]) (st := []) dX11_mark_27 rfl ok_X2_press km_RX11_159 CS.o CS.b ⟨_, _, rfl⟩ rfl (Nat.le_of_ble_eq_true rfl) rfl rfl rfl (Nat.le_of_ble_eq_true rfl) (Nat.lt_succ_self _) ?_
          refine Go_aload_n (pc' := 1) dX2_press_0 rfl rfl rfl ?_
          refine Go_iload_n (pc' := 2) dX2_press_1 rfl rfl rfl ?_
          refine Go_callV_i (pc' := 5) (As := [.int _]) (st := []) dX2_press_2 rfl ok_X2_hasSample km_RX2_79 CS.o CS.b ⟨_, _, rfl⟩ rfl (Nat.le_of_ble_eq_true rfl) rfl rfl rfl (Nat.le_of_ble_eq_true rfl) (Nat.lt_succ_self _) ?_
          refine Go_iload_n (pc' := 1) dX2_hasSample_0 rfl rfl rfl ?_
          refine Go_if_ltY (tgt := 16) (pc' := 4) dX2_hasSample_1 (by decide) rfl (by first | exact ⟨i_lo _, i_hi _⟩ | omega) (fun s1 => ?_) (fun s1 => ?_)
          · refine Go_iconst (v := iZ 0) (pc' := 17) dX2_hasSample_16 rfl (by decide) ?_
            refine Go_ireturn (ty := .boolean) dX2_hasSample_17 rfl rfl ?_
            refine ⟨_, rfl, ?_⟩
            refine Go_if_eqY (tgt := 17) (pc' := 8) dX2_press_5 (by decide) rfl (by first | exact ⟨i_lo _, i_hi _⟩ | omega) (fun p5 => ?_) (fun p5 => by exfalso; omega)
            refine Go_iconst (v := iZ 0) (pc' := 18) dX2_press_17 rfl (by decide) ?_
            refine Go_ireturn (ty := .boolean) dX2_press_18 rfl rfl ?_
            refine ⟨_, rfl, ?_⟩
            refine Go_if_eqY (tgt := 37) (pc' := 33) dX11_mark_30 (by decide) rfl (by first | exact ⟨i_lo _, i_hi _⟩ | omega) (fun c30 => ?_) (fun c30 => by exfalso; omega)
            refine Go_iconst (v := iZ 0) (pc' := 38) dX11_mark_37 rfl (by decide) ?_
            refine Go_ireturn (ty := .boolean) dX11_mark_38 rfl rfl ?_
            exact k _ _ (Or.inr ⟨by omega, rfl, rfl⟩) I.S
          · refine Go_iload_n (pc' := 5) dX2_hasSample_4 rfl rfl rfl ?_
            refine Go_aload_n (pc' := 6) dX2_hasSample_5 rfl rfl rfl ?_
            refine Go_getIv (v := (iZ (n : Int))) (pc' := 9) dX2_hasSample_6 rfl kf_RX2_58 (by decide) (by decide) rfl CS.b CS.o (M.e8) ?_
            refine Go_icmp_geY (tgt := 16) (pc' := 12) dX2_hasSample_9 (by decide) rfl (by first | exact ⟨i_lo _, i_hi _⟩ | omega) (by first | exact ⟨i_lo _, i_hi _⟩ | omega) (fun s9 => ?_) (fun s9 => ?_)
            · refine Go_iconst (v := iZ 0) (pc' := 17) dX2_hasSample_16 rfl (by decide) ?_
              refine Go_ireturn (ty := .boolean) dX2_hasSample_17 rfl rfl ?_
              refine ⟨_, rfl, ?_⟩
              refine Go_if_eqY (tgt := 17) (pc' := 8) dX2_press_5 (by decide) rfl (by first | exact ⟨i_lo _, i_hi _⟩ | omega) (fun p5 => ?_) (fun p5 => by exfalso; omega)
              refine Go_iconst (v := iZ 0) (pc' := 18) dX2_press_17 rfl (by decide) ?_
              refine Go_ireturn (ty := .boolean) dX2_press_18 rfl rfl ?_
              refine ⟨_, rfl, ?_⟩
              refine Go_if_eqY (tgt := 37) (pc' := 33) dX11_mark_30 (by decide) rfl (by first | exact ⟨i_lo _, i_hi _⟩ | omega) (fun c30 => ?_) (fun c30 => by exfalso; omega)
              refine Go_iconst (v := iZ 0) (pc' := 38) dX11_mark_37 rfl (by decide) ?_
              refine Go_ireturn (ty := .boolean) dX11_mark_38 rfl rfl ?_
              exact k _ _ (Or.inr ⟨by omega, rfl, rfl⟩) I.S
            · refine Go_iconst (v := iZ 1) (pc' := 13) dX2_hasSample_12 rfl (by decide) ?_
              refine Go_goto (tgt := 17) dX2_hasSample_13 (by decide) ?_
              refine Go_ireturn (ty := .boolean) dX2_hasSample_17 rfl rfl ?_
              refine ⟨_, rfl, ?_⟩
              refine Go_if_eqY (tgt := 17) (pc' := 8) dX2_press_5 (by decide) rfl (by first | exact ⟨i_lo _, i_hi _⟩ | omega) (fun p5 => by exfalso; omega) (fun p5 => ?_)
              refine Go_aload_n (pc' := 9) dX2_press_8 rfl rfl rfl ?_
              refine Go_getIv (v := (iZ ((m : Int) + 1))) (pc' := 12) dX2_press_9 rfl kf_RX2_61 (by decide) (by decide) rfl CS.b CS.o (em) ?_
              refine Go_bipush (v := iZ 40) (pc' := 14) dX2_press_12 rfl (by decide) ?_
              refine Go_icmp_ltY (tgt := 19) (pc' := 17) dX2_press_14 (by decide) rfl (by first | exact ⟨i_lo _, i_hi _⟩ | omega) (by first | exact ⟨i_lo _, i_hi _⟩ | omega) (fun p14 => ?_) (fun p14 => ?_)
              · refine Go_aload_n (pc' := 20) dX2_press_19 rfl rfl rfl ?_
                refine Go_getIv (v := (iZ ((m : Int) + 1))) (pc' := 23) dX2_press_20 rfl kf_RX2_61 (by decide) (by decide) rfl CS.b CS.o (em) ?_
                refine Go_iconst (v := iZ 1) (pc' := 24) dX2_press_23 rfl (by decide) ?_
                refine Go_isubZ (pc' := 25) dX2_press_24 rfl ?_
                refine Go_istore_n (pc' := 26) (lv' := [.ref _, .int _, .int _, .int _]) dX2_press_25 rfl rfl (Nat.le_of_ble_eq_true rfl) rfl rfl ?_
                refine Go_iload_n (pc' := 27) dX2_press_26 rfl rfl rfl ?_
                refine Go_if_ltY (tgt := 52) (pc' := 30) dX2_press_27 (by decide) rfl (by first | exact ⟨i_lo _, i_hi _⟩ | omega) (fun p27 => ?_) (fun p27 => ?_)
                · refine Go_aload_n (pc' := 53) dX2_press_52 rfl rfl rfl ?_
                  refine Go_getRs (pc' := 56) dX2_press_53 rfl kf_RX2_31 (by decide) (by decide) rfl CS.b CS.o CS.r9 ?_
                  refine Go_aload_n (pc' := 57) dX2_press_56 rfl rfl rfl ?_
                  refine Go_getIv (v := (iZ ((m : Int) + 1))) (pc' := 60) dX2_press_57 rfl kf_RX2_61 (by decide) (by decide) rfl CS.b CS.o (em) ?_
                  refine Go_iload_n (pc' := 61) dX2_press_60 rfl rfl rfl ?_
                  refine Go_iastoreZ (n := 40) (k := (m + 1)) (pc' := 62) dX2_press_61 rfl CS.b2 CS.k2 (by omega) (by omega) (by decide) ?_
                  refine Go_aload_n (pc' := 63) dX2_press_62 rfl rfl rfl ?_
                  refine Go_getRs (pc' := 66) dX2_press_63 rfl kf_RX2_34 (by decide) (by decide) rfl CS.b CS.o CS.r10 ?_
                  refine Go_aload_n (pc' := 67) dX2_press_66 rfl rfl rfl ?_
                  refine Go_getIv (v := (iZ ((m : Int) + 1))) (pc' := 70) dX2_press_67 rfl kf_RX2_61 (by decide) (by decide) rfl CS.b CS.o ((vi_skip (Or.inl (by omega))).trans (em)) ?_
                  refine Go_iload_n (pc' := 71) dX2_press_70 rfl rfl rfl ?_
                  refine Go_iastoreZ (n := 40) (k := (m + 1)) (pc' := 72) dX2_press_71 rfl CS.b3 CS.k3 (by omega) (by omega) (by decide) ?_
                  refine Go_aload_n (pc' := 73) dX2_press_72 rfl rfl rfl ?_
                  refine Go_dup (pc' := 74) dX2_press_73 rfl rfl ?_
                  refine Go_getIv (v := (iZ ((m : Int) + 1))) (pc' := 77) dX2_press_74 rfl kf_RX2_61 (by decide) (by decide) rfl CS.b CS.o ((vi_skip (Or.inl (by omega))).trans ((vi_skip (Or.inl (by omega))).trans (em))) ?_
                  refine Go_iconst (v := iZ 1) (pc' := 78) dX2_press_77 rfl (by decide) ?_
                  refine Go_iaddZ (pc' := 79) dX2_press_78 rfl ?_
                  refine Go_putI (pc' := 82) dX2_press_79 rfl kf_RX2_61 (by decide) (by decide) rfl CS.b CS.o (Or.inl rfl) rfl rfl ?_
                  refine Go_iconst (v := iZ 1) (pc' := 83) dX2_press_82 rfl (by decide) ?_
                  refine Go_ireturn (ty := .boolean) dX2_press_83 rfl rfl ?_
                  refine ⟨_, rfl, ?_⟩
                  refine Go_if_eqY (tgt := 37) (pc' := 33) dX11_mark_30 (by decide) rfl (by first | exact ⟨i_lo _, i_hi _⟩ | omega) (fun c30 => by exfalso; omega) (fun c30 => ?_)
                  refine Go_iconst (v := iZ 1) (pc' := 34) dX11_mark_33 rfl (by decide) ?_
                  refine Go_goto (tgt := 38) dX11_mark_34 (by decide) ?_
                  refine Go_ireturn (ty := .boolean) dX11_mark_38 rfl rfl ?_
                  exact k _ _ (Or.inl ⟨by omega, rfl, rfl⟩) I.S
                · refine Go_iload_n (pc' := 31) dX2_press_30 rfl rfl rfl ?_
                  refine Go_aload_n (pc' := 32) dX2_press_31 rfl rfl rfl ?_
                  refine Go_getRs (pc' := 35) dX2_press_32 rfl kf_RX2_31 (by decide) (by decide) rfl CS.b CS.o CS.r9 ?_
                  refine Go_iload_n (pc' := 36) dX2_press_35 rfl rfl rfl ?_
                  refine Go_ialoadZ (n := 40) (k := m) (v := (iZ (vi h (o + 2) m).toInt)) (pc' := 37) dX2_press_36 rfl CS.b2 CS.k2 (by omega) (by omega) (by decide) (vi_eta _ _ _) ?_
                  refine Go_icmp_leY (tgt := 50) (pc' := 40) dX2_press_37 (by decide) rfl (by first | exact ⟨i_lo _, i_hi _⟩ | omega) (by first | exact ⟨i_lo _, i_hi _⟩ | omega) (fun p37 => ?_) (fun p37 => ?_)
                  · refine Go_iconst (v := iZ 0) (pc' := 51) dX2_press_50 rfl (by decide) ?_
                    refine Go_ireturn (ty := .boolean) dX2_press_51 rfl rfl ?_
                    refine ⟨_, rfl, ?_⟩
                    refine Go_if_eqY (tgt := 37) (pc' := 33) dX11_mark_30 (by decide) rfl (by first | exact ⟨i_lo _, i_hi _⟩ | omega) (fun c30 => ?_) (fun c30 => by exfalso; omega)
                    refine Go_iconst (v := iZ 0) (pc' := 38) dX11_mark_37 rfl (by decide) ?_
                    refine Go_ireturn (ty := .boolean) dX11_mark_38 rfl rfl ?_
                    exact k _ _ (Or.inr ⟨by omega, rfl, rfl⟩) I.S
                  · refine Go_iload_n (pc' := 41) dX2_press_40 rfl rfl rfl ?_
                    refine Go_aload_n (pc' := 42) dX2_press_41 rfl rfl rfl ?_
                    refine Go_getRs (pc' := 45) dX2_press_42 rfl kf_RX2_34 (by decide) (by decide) rfl CS.b CS.o CS.r10 ?_
                    refine Go_iload_n (pc' := 46) dX2_press_45 rfl rfl rfl ?_
                    refine Go_ialoadZ (n := 40) (k := m) (v := (iZ (vi h (o + 3) m).toInt)) (pc' := 47) dX2_press_46 rfl CS.b3 CS.k3 (by omega) (by omega) (by decide) (vi_eta _ _ _) ?_
                    refine Go_icmp_gtY (tgt := 52) (pc' := 50) dX2_press_47 (by decide) rfl (by first | exact ⟨i_lo _, i_hi _⟩ | omega) (by first | exact ⟨i_lo _, i_hi _⟩ | omega) (fun p47 => ?_) (fun p47 => ?_)
                    · refine Go_aload_n (pc' := 53) dX2_press_52 rfl rfl rfl ?_
                      refine Go_getRs (pc' := 56) dX2_press_53 rfl kf_RX2_31 (by decide) (by decide) rfl CS.b CS.o CS.r9 ?_
                      refine Go_aload_n (pc' := 57) dX2_press_56 rfl rfl rfl ?_
                      refine Go_getIv (v := (iZ ((m : Int) + 1))) (pc' := 60) dX2_press_57 rfl kf_RX2_61 (by decide) (by decide) rfl CS.b CS.o (em) ?_
                      refine Go_iload_n (pc' := 61) dX2_press_60 rfl rfl rfl ?_
                      refine Go_iastoreZ (n := 40) (k := (m + 1)) (pc' := 62) dX2_press_61 rfl CS.b2 CS.k2 (by omega) (by omega) (by decide) ?_
                      refine Go_aload_n (pc' := 63) dX2_press_62 rfl rfl rfl ?_
                      refine Go_getRs (pc' := 66) dX2_press_63 rfl kf_RX2_34 (by decide) (by decide) rfl CS.b CS.o CS.r10 ?_
                      refine Go_aload_n (pc' := 67) dX2_press_66 rfl rfl rfl ?_
                      refine Go_getIv (v := (iZ ((m : Int) + 1))) (pc' := 70) dX2_press_67 rfl kf_RX2_61 (by decide) (by decide) rfl CS.b CS.o ((vi_skip (Or.inl (by omega))).trans (em)) ?_
                      refine Go_iload_n (pc' := 71) dX2_press_70 rfl rfl rfl ?_
                      refine Go_iastoreZ (n := 40) (k := (m + 1)) (pc' := 72) dX2_press_71 rfl CS.b3 CS.k3 (by omega) (by omega) (by decide) ?_
                      refine Go_aload_n (pc' := 73) dX2_press_72 rfl rfl rfl ?_
                      refine Go_dup (pc' := 74) dX2_press_73 rfl rfl ?_
                      refine Go_getIv (v := (iZ ((m : Int) + 1))) (pc' := 77) dX2_press_74 rfl kf_RX2_61 (by decide) (by decide) rfl CS.b CS.o ((vi_skip (Or.inl (by omega))).trans ((vi_skip (Or.inl (by omega))).trans (em))) ?_
                      refine Go_iconst (v := iZ 1) (pc' := 78) dX2_press_77 rfl (by decide) ?_
                      refine Go_iaddZ (pc' := 79) dX2_press_78 rfl ?_
                      refine Go_putI (pc' := 82) dX2_press_79 rfl kf_RX2_61 (by decide) (by decide) rfl CS.b CS.o (Or.inl rfl) rfl rfl ?_
                      refine Go_iconst (v := iZ 1) (pc' := 83) dX2_press_82 rfl (by decide) ?_
                      refine Go_ireturn (ty := .boolean) dX2_press_83 rfl rfl ?_
                      refine ⟨_, rfl, ?_⟩
                      refine Go_if_eqY (tgt := 37) (pc' := 33) dX11_mark_30 (by decide) rfl (by first | exact ⟨i_lo _, i_hi _⟩ | omega) (fun c30 => by exfalso; omega) (fun c30 => ?_)
                      refine Go_iconst (v := iZ 1) (pc' := 34) dX11_mark_33 rfl (by decide) ?_
                      refine Go_goto (tgt := 38) dX11_mark_34 (by decide) ?_
                      refine Go_ireturn (ty := .boolean) dX11_mark_38 rfl rfl ?_
                      exact k _ _ (Or.inl ⟨by omega, rfl, rfl⟩) I.S
                    · refine Go_iconst (v := iZ 0) (pc' := 51) dX2_press_50 rfl (by decide) ?_
                      refine Go_ireturn (ty := .boolean) dX2_press_51 rfl rfl ?_
                      refine ⟨_, rfl, ?_⟩
                      refine Go_if_eqY (tgt := 37) (pc' := 33) dX11_mark_30 (by decide) rfl (by first | exact ⟨i_lo _, i_hi _⟩ | omega) (fun c30 => ?_) (fun c30 => by exfalso; omega)
                      refine Go_iconst (v := iZ 0) (pc' := 38) dX11_mark_37 rfl (by decide) ?_
                      refine Go_ireturn (ty := .boolean) dX11_mark_38 rfl rfl ?_
                      exact k _ _ (Or.inr ⟨by omega, rfl, rfl⟩) I.S
              · refine Go_iconst (v := iZ 0) (pc' := 18) dX2_press_17 rfl (by decide) ?_
                refine Go_ireturn (ty := .boolean) dX2_press_18 rfl rfl ?_
                refine ⟨_, rfl, ?_⟩
                refine Go_if_eqY (tgt := 37) (pc' := 33) dX11_mark_30 (by decide) rfl (by first | exact ⟨i_lo _, i_hi _⟩ | omega) (fun c30 => ?_) (fun c30 => by exfalso; omega)
                refine Go_iconst (v := iZ 0) (pc' := 38) dX11_mark_37 rfl (by decide) ?_
                refine Go_ireturn (ty := .boolean) dX11_mark_38 rfl rfl ?_
                exact k _ _ (Or.inr ⟨by omega, rfl, rfl⟩) I.S
      · rintro r h1 (⟨hc, rfl, rfl⟩ | ⟨hc, rfl, rfl⟩) K k
        · show Go G 60 0 0 M_X12_mark 0 [.ref 99, .int (iZ (j : Int)), .int (iZ Bz), .int (iZ Cz), un] [] (wI (wI (wI h (o + 2) (m + 1) (iZ Bz)) (o + 3) (m + 1) (iZ Cz)) o 11 (iZ (((m : Int) + 1) + 1))) K
          refine Go_aload_n (pc' := 1) dX12_mark_0 rfl rfl rfl ?_
          refine Go_iload_n (pc' := 2) dX12_mark_1 rfl rfl rfl ?_
          refine Go_callV_i (pc' := 5) (As := [.int _]) (st := []) dX12_mark_2 rfl ok_X12_isCellar km_RX12_158 (I.S.o 99 rfl rfl rfl) (I.S.b 99 rfl rfl) ⟨_, _, rfl⟩ rfl (Nat.le_of_ble_eq_true rfl) rfl rfl rfl (Nat.le_of_ble_eq_true rfl) (Nat.lt_succ_self _) ?_
          refine Go_iload_n (pc' := 1) dX12_isCellar_0 rfl rfl rfl ?_
          refine Go_iconst (v := iZ 0) (pc' := 2) dX12_isCellar_1 rfl (by decide) ?_
          refine Go_aload_n (pc' := 3) dX12_isCellar_2 rfl rfl rfl ?_
          refine Go_getIv (v := (iZ (nc : Int))) (pc' := 6) dX12_isCellar_3 rfl kf_RX12_151 (by decide) (by decide) rfl (I.S.b 99 rfl rfl) (I.S.o 99 rfl rfl rfl) ((vi_skip (Or.inl (by omega))).trans ((vi_skip (Or.inl (by omega))).trans ((vi_skip (Or.inl (by omega))).trans (ec0)))) ?_
          refine Go_iconst (v := iZ 1) (pc' := 7) dX12_isCellar_6 rfl (by decide) ?_
          refine Go_isubZ (pc' := 8) dX12_isCellar_7 rfl ?_
          refine Go_callS_i (pc' := 11) (As := [.int _, .int _, .int _]) (st := []) dX12_isCellar_8 rfl ok_X12_isIn km_RX12_147 rfl (Nat.le_of_ble_eq_true rfl) rfl rfl rfl (Nat.le_of_ble_eq_true rfl) (Nat.lt_succ_self _) ?_
          refine s_isInY (by first | exact ⟨i_lo _, i_hi _⟩ | omega) (by first | exact ⟨i_lo _, i_hi _⟩ | omega) (by first | exact ⟨i_lo _, i_hi _⟩ | omega) ?_
          refine ⟨_, rfl, ?_⟩
          refine Go_ireturn (ty := .boolean) dX12_isCellar_11 rfl b2i_nb ?_
          refine ⟨_, rfl, ?_⟩
          refine Go_if_eqb (tgt := 46) (pc' := 8) dX12_mark_5 (by decide) rfl (fun c5 => ?_) (fun c5 => ?_)
          · refine Go_iconst (v := iZ 0) (pc' := 47) dX12_mark_46 rfl (by decide) ?_
            refine Go_ireturn (ty := .boolean) dX12_mark_47 rfl rfl ?_
            exfalso; omega
          · refine Go_iload_n (pc' := 9) dX12_mark_8 rfl rfl rfl ?_
            refine Go_iconst (v := iZ 0) (pc' := 10) dX12_mark_9 rfl (by decide) ?_
            refine Go_aload_n (pc' := 11) dX12_mark_10 rfl rfl rfl ?_
            refine Go_getRs (pc' := 14) dX12_mark_11 rfl kf_RX12_31 (by decide) (by decide) rfl (I.S.b 99 rfl rfl) (I.S.o 99 rfl rfl rfl) (I.S.r 99 8 rfl rfl rfl) ?_
            refine Go_iload_n (pc' := 15) dX12_mark_14 rfl rfl rfl ?_
            refine Go_ialoadZ (n := 6) (k := j) (v := (iZ (n : Int))) (pc' := 16) dX12_mark_15 rfl (I.S.b 107 rfl rfl) (I.S.k 107 rfl rfl rfl) rfl (by omega) (by decide) ((vi_skip (Or.inl (by omega))).trans ((vi_skip (Or.inl (by omega))).trans ((vi_skip (Or.inl (by omega))).trans (M.e107)))) ?_
            refine Go_iconst (v := iZ 1) (pc' := 17) dX12_mark_16 rfl (by decide) ?_
            refine Go_isubZ (pc' := 18) dX12_mark_17 rfl ?_
            refine Go_callS_i (pc' := 21) (As := [.int _, .int _, .int _]) (st := []) dX12_mark_18 rfl ok_X12_isIn km_RX12_147 rfl (Nat.le_of_ble_eq_true rfl) rfl rfl rfl (Nat.le_of_ble_eq_true rfl) (Nat.lt_succ_self _) ?_
            refine s_isInY (by first | exact ⟨i_lo _, i_hi _⟩ | omega) (by first | exact ⟨i_lo _, i_hi _⟩ | omega) (by first | exact ⟨i_lo _, i_hi _⟩ | omega) ?_
            refine ⟨_, rfl, ?_⟩
            refine Go_if_eqb (tgt := 46) (pc' := 24) dX12_mark_21 (by decide) rfl (fun c21 => ?_) (fun c21 => ?_)
            · refine Go_iconst (v := iZ 0) (pc' := 47) dX12_mark_46 rfl (by decide) ?_
              refine Go_ireturn (ty := .boolean) dX12_mark_47 rfl rfl ?_
              exfalso; omega
            · refine Go_iload_n (pc' := 25) dX12_mark_24 rfl rfl rfl ?_
              refine Go_iconst (v := iZ 0) (pc' := 26) dX12_mark_25 rfl (by decide) ?_
              refine Go_sipush (v := iZ 9999) (pc' := 29) dX12_mark_26 rfl (by decide) ?_
              refine Go_callS_i (pc' := 32) (As := [.int _, .int _, .int _]) (st := []) dX12_mark_29 rfl ok_X12_isIn km_RX12_147 rfl (Nat.le_of_ble_eq_true rfl) rfl rfl rfl (Nat.le_of_ble_eq_true rfl) (Nat.lt_succ_self _) ?_
              refine s_isInY (by first | exact ⟨i_lo _, i_hi _⟩ | omega) (by first | exact ⟨i_lo _, i_hi _⟩ | omega) (by first | exact ⟨i_lo _, i_hi _⟩ | omega) ?_
              refine ⟨_, rfl, ?_⟩
              refine Go_if_eqb (tgt := 46) (pc' := 35) dX12_mark_32 (by decide) rfl (fun c32 => ?_) (fun c32 => ?_)
              · refine Go_iconst (v := iZ 0) (pc' := 47) dX12_mark_46 rfl (by decide) ?_
                refine Go_ireturn (ty := .boolean) dX12_mark_47 rfl rfl ?_
                exfalso; omega
              · refine Go_aload_n (pc' := 36) dX12_mark_35 rfl rfl rfl ?_
                refine Go_getRs (pc' := 39) dX12_mark_36 rfl kf_RX12_40 (by decide) (by decide) rfl (I.S.b 99 rfl rfl) (I.S.o 99 rfl rfl rfl) (I.S.r 99 11 rfl rfl rfl) ?_
                refine Go_iload_n (pc' := 40) dX12_mark_39 rfl rfl rfl ?_
                refine Go_ialoadZ (n := 6) (k := j) (v := (iZ ((m : Int) + 1))) (pc' := 41) dX12_mark_40 rfl (I.S.b 110 rfl rfl) (I.S.k 110 rfl rfl rfl) rfl (by omega) (by decide) ((vi_skip (Or.inl (by omega))).trans ((vi_skip (Or.inl (by omega))).trans ((vi_skip (Or.inl (by omega))).trans (em2)))) ?_
                refine Go_bipush (v := iZ 40) (pc' := 43) dX12_mark_41 rfl (by decide) ?_
                refine Go_icmp_neY (tgt := 48) (pc' := 46) dX12_mark_43 (by decide) rfl (by first | exact ⟨i_lo _, i_hi _⟩ | omega) (by first | exact ⟨i_lo _, i_hi _⟩ | omega) (fun c43 => ?_) (fun c43 => ?_)
                · refine Go_bipush (v := iZ 40) (pc' := 50) dX12_mark_48 rfl (by decide) ?_
                  refine Go_iload_n (pc' := 51) dX12_mark_50 rfl rfl rfl ?_
                  refine Go_imulZ (pc' := 52) dX12_mark_51 rfl ?_
                  refine Go_aload_n (pc' := 53) dX12_mark_52 rfl rfl rfl ?_
                  refine Go_getRs (pc' := 56) dX12_mark_53 rfl kf_RX12_40 (by decide) (by decide) rfl (I.S.b 99 rfl rfl) (I.S.o 99 rfl rfl rfl) (I.S.r 99 11 rfl rfl rfl) ?_
                  refine Go_iload_n (pc' := 57) dX12_mark_56 rfl rfl rfl ?_
                  refine Go_ialoadZ (n := 6) (k := j) (v := (iZ ((m : Int) + 1))) (pc' := 58) dX12_mark_57 rfl (I.S.b 110 rfl rfl) (I.S.k 110 rfl rfl rfl) rfl (by omega) (by decide) ((vi_skip (Or.inl (by omega))).trans ((vi_skip (Or.inl (by omega))).trans ((vi_skip (Or.inl (by omega))).trans (em2)))) ?_
                  refine Go_iaddZ (pc' := 59) dX12_mark_58 rfl ?_
                  refine Go_istore (pc' := 61) (lv' := [.ref _, .int _, .int _, .int _, .int _]) dX12_mark_59 rfl (Nat.le_of_ble_eq_true rfl) rfl rfl ?_
                  refine Go_aload_n (pc' := 62) dX12_mark_61 rfl rfl rfl ?_
                  refine Go_getRs (pc' := 65) dX12_mark_62 rfl kf_RX12_40 (by decide) (by decide) rfl (I.S.b 99 rfl rfl) (I.S.o 99 rfl rfl rfl) (I.S.r 99 11 rfl rfl rfl) ?_
                  refine Go_iload_n (pc' := 66) dX12_mark_65 rfl rfl rfl ?_
                  refine Go_ialoadZ (n := 6) (k := j) (v := (iZ ((m : Int) + 1))) (pc' := 67) dX12_mark_66 rfl (I.S.b 110 rfl rfl) (I.S.k 110 rfl rfl rfl) rfl (by omega) (by decide) ((vi_skip (Or.inl (by omega))).trans ((vi_skip (Or.inl (by omega))).trans ((vi_skip (Or.inl (by omega))).trans (em2)))) ?_
                  refine Go_if_leY (tgt := 98) (pc' := 70) dX12_mark_67 (by decide) rfl (by first | exact ⟨i_lo _, i_hi _⟩ | omega) (fun c67 => ?_) (fun c67 => ?_)
                  · refine Go_aload_n (pc' := 99) dX12_mark_98 rfl rfl rfl ?_
                    refine Go_getRs (pc' := 102) dX12_mark_99 rfl kf_RX12_34 (by decide) (by decide) rfl (I.S.b 99 rfl rfl) (I.S.o 99 rfl rfl rfl) (I.S.r 99 9 rfl rfl rfl) ?_
                    refine Go_iload (pc' := 104) dX12_mark_102 rfl rfl ?_
                    refine Go_iload_n (pc' := 105) dX12_mark_104 rfl rfl rfl ?_
                    refine Go_iastoreZ (n := 240) (k := (40 * j + (m + 1))) (pc' := 106) dX12_mark_105 rfl (I.S.b 108 rfl rfl) (I.S.k 108 rfl rfl rfl) (by omega) (by omega) (by decide) ?_
                    refine Go_aload_n (pc' := 107) dX12_mark_106 rfl rfl rfl ?_
                    refine Go_getRs (pc' := 110) dX12_mark_107 rfl kf_RX12_37 (by decide) (by decide) rfl (I.S.b 99 rfl rfl) (I.S.o 99 rfl rfl rfl) (I.S.r 99 10 rfl rfl rfl) ?_
                    refine Go_iload (pc' := 112) dX12_mark_110 rfl rfl ?_
                    refine Go_iload_n (pc' := 113) dX12_mark_112 rfl rfl rfl ?_
                    refine Go_iastoreZ (n := 240) (k := (40 * j + (m + 1))) (pc' := 114) dX12_mark_113 rfl (I.S.b 109 rfl rfl) (I.S.k 109 rfl rfl rfl) (by omega) (by omega) (by decide) ?_
                    refine Go_aload_n (pc' := 115) dX12_mark_114 rfl rfl rfl ?_
                    refine Go_getRs (pc' := 118) dX12_mark_115 rfl kf_RX12_40 (by decide) (by decide) rfl (I.S.b 99 rfl rfl) (I.S.o 99 rfl rfl rfl) (I.S.r 99 11 rfl rfl rfl) ?_
                    refine Go_iload_n (pc' := 119) dX12_mark_118 rfl rfl rfl ?_
                    refine Go_dup2 (pc' := 120) dX12_mark_119 rfl rfl rfl ?_
                    refine Go_ialoadZ (n := 6) (k := j) (v := (iZ ((m : Int) + 1))) (pc' := 121) dX12_mark_120 rfl (I.S.b 110 rfl rfl) (I.S.k 110 rfl rfl rfl) rfl (by omega) (by decide) ((vi_skip (Or.inl (by decide))).trans ((vi_skip (Or.inl (by decide))).trans ((vi_skip (Or.inl (by omega))).trans ((vi_skip (Or.inl (by omega))).trans ((vi_skip (Or.inl (by omega))).trans (em2)))))) ?_
                    refine Go_iconst (v := iZ 1) (pc' := 122) dX12_mark_121 rfl (by decide) ?_
                    refine Go_iaddZ (pc' := 123) dX12_mark_122 rfl ?_
                    refine Go_iastoreZ (n := 6) (k := j) (pc' := 124) dX12_mark_123 rfl (I.S.b 110 rfl rfl) (I.S.k 110 rfl rfl rfl) rfl (by omega) (by decide) ?_
                    refine Go_iconst (v := iZ 1) (pc' := 125) dX12_mark_124 rfl (by decide) ?_
                    refine Go_ireturn (ty := .boolean) dX12_mark_125 rfl rfl ?_
                    exact k _ (I.cel hj ho CS (((((((Dif.rf _ _ _).wI (by unfold OwnW; omega)).wI (by unfold OwnW; omega)).wI (by unfold OwnW; omega)).wI (by unfold OwnW; omega)).wI (by unfold OwnW; omega)).wI (by unfold OwnW; omega)) ⟨cA.fr (((((((SameP.rf _ _).wI (by unfold fA; omega)).wI (by unfold fA; omega)).wI (by unfold fA; omega)).wI (by unfold fA; omega)).wI (by unfold fA; omega)).wI (by unfold fA; omega)), cB.fr (((((((SameP.rf _ _).wI (by unfold fB; omega)).wI (by unfold fB; omega)).wI (by unfold fB; omega)).wI (by unfold fB; omega)).wI (by unfold fB; omega)).wI (by unfold fB; omega)), cC.fr (((((((SameP.rf _ _).wI (by unfold fC; omega)).wI (by unfold fC; omega)).wI (by unfold fC; omega)).wI (by unfold fC; omega)).wI (by unfold fC; omega)).wI (by unfold fC; omega)), cD.fr (((((((SameP.rf _ _).wI (by unfold fD; omega)).wI (by unfold fD; omega)).wI (by unfold fD; omega)).wI (by unfold fD; omega)).wI (by unfold fD; omega)).wI (by unfold fD; omega)), cE.put (m := (m + 1)) (X := Bz) (Y := Cz) em (by omega) (by omega) (by omega) (fun i hi => by obtain rfl : i = m := (by omega); exact ⟨by omega, by omega⟩) ((vi_skip (Or.inl (by omega))).trans ((vi_skip (Or.inl (by omega))).trans ((vi_skip (Or.inl (by omega))).trans (vi_same)))) (vi_same) ((vi_skip (Or.inl (by omega))).trans ((vi_skip (Or.inl (by omega))).trans ((vi_skip (Or.inl (by omega))).trans ((vi_skip (Or.inl (by omega))).trans ((vi_skip (Or.inl (by omega))).trans (vi_same)))))) ((vi_skip (Or.inl (by decide))).trans ((vi_skip (Or.inl (by decide))).trans (vi_same))) ((vi_skip (Or.inl (by omega))).trans ((vi_skip (Or.inl (by omega))).trans ((vi_skip (Or.inl (by omega))).trans ((vi_skip (Or.inl (by omega))).trans (vi_same))))) ((vi_skip (Or.inl (by decide))).trans (vi_same)) (fun i hi => ⟨⟨((vi_skip (by omega)).trans ((vi_skip (by omega)).trans ((vi_skip (by omega)).trans ((vi_skip (by omega)).trans ((vi_skip (by omega)).trans ((vi_skip (by omega)).trans (rfl))))))), ((vi_skip (by omega)).trans ((vi_skip (by omega)).trans ((vi_skip (by omega)).trans ((vi_skip (by omega)).trans ((vi_skip (by omega)).trans ((vi_skip (by omega)).trans (rfl)))))))⟩, ((vi_skip (by omega)).trans ((vi_skip (by omega)).trans ((vi_skip (by omega)).trans ((vi_skip (by omega)).trans ((vi_skip (by omega)).trans ((vi_skip (by omega)).trans (rfl))))))), ((vi_skip (by omega)).trans ((vi_skip (by omega)).trans ((vi_skip (by omega)).trans ((vi_skip (by omega)).trans ((vi_skip (by omega)).trans ((vi_skip (by omega)).trans (rfl)))))))⟩), cF.fr (((((((SameP.rf _ _).wI (by unfold fF; omega)).wI (by unfold fF; omega)).wI (by unfold fF; omega)).wI (by unfold fF; omega)).wI (by unfold fF; omega)).wI (by unfold fF; omega)), cG.fr (((((((SameP.rf _ _).wI (by unfold fG; omega)).wI (by unfold fG; omega)).wI (by unfold fG; omega)).wI (by unfold fG; omega)).wI (by unfold fG; omega)).wI (by unfold fG; omega))⟩)
                  · refine Go_iload_n (pc' := 71) dX12_mark_70 rfl rfl rfl ?_
                    refine Go_aload_n (pc' := 72) dX12_mark_71 rfl rfl rfl ?_
                    refine Go_getRs (pc' := 75) dX12_mark_72 rfl kf_RX12_34 (by decide) (by decide) rfl (I.S.b 99 rfl rfl) (I.S.o 99 rfl rfl rfl) (I.S.r 99 9 rfl rfl rfl) ?_
                    refine Go_iload (pc' := 77) dX12_mark_75 rfl rfl ?_
                    refine Go_iconst (v := iZ 1) (pc' := 78) dX12_mark_77 rfl (by decide) ?_
                    refine Go_isubZ (pc' := 79) dX12_mark_78 rfl ?_
                    refine Go_ialoadZ (n := 240) (k := (40 * j + m)) (v := (iZ (vi h (o + 2) m).toInt)) (pc' := 80) dX12_mark_79 rfl (I.S.b 108 rfl rfl) (I.S.k 108 rfl rfl rfl) (by omega) (by omega) (by decide) ((vi_skip (Or.inl (by omega))).trans ((vi_skip (Or.inl (by omega))).trans ((vi_skip (Or.inl (by omega))).trans (qa.1.1)))) ?_
                    refine Go_icmp_leY (tgt := 96) (pc' := 83) dX12_mark_80 (by decide) rfl (by first | exact ⟨i_lo _, i_hi _⟩ | omega) (by first | exact ⟨i_lo _, i_hi _⟩ | omega) (fun c80 => ?_) (fun c80 => ?_)
                    · refine Go_iconst (v := iZ 0) (pc' := 97) dX12_mark_96 rfl (by decide) ?_
                      refine Go_ireturn (ty := .boolean) dX12_mark_97 rfl rfl ?_
                      exfalso; omega
                    · refine Go_iload_n (pc' := 84) dX12_mark_83 rfl rfl rfl ?_
                      refine Go_aload_n (pc' := 85) dX12_mark_84 rfl rfl rfl ?_
                      refine Go_getRs (pc' := 88) dX12_mark_85 rfl kf_RX12_37 (by decide) (by decide) rfl (I.S.b 99 rfl rfl) (I.S.o 99 rfl rfl rfl) (I.S.r 99 10 rfl rfl rfl) ?_
                      refine Go_iload (pc' := 90) dX12_mark_88 rfl rfl ?_
                      refine Go_iconst (v := iZ 1) (pc' := 91) dX12_mark_90 rfl (by decide) ?_
                      refine Go_isubZ (pc' := 92) dX12_mark_91 rfl ?_
                      refine Go_ialoadZ (n := 240) (k := (40 * j + m)) (v := (iZ (vi h (o + 3) m).toInt)) (pc' := 93) dX12_mark_92 rfl (I.S.b 109 rfl rfl) (I.S.k 109 rfl rfl rfl) (by omega) (by omega) (by decide) ((vi_skip (Or.inl (by omega))).trans ((vi_skip (Or.inl (by omega))).trans ((vi_skip (Or.inl (by omega))).trans (qa.2.1)))) ?_
                      refine Go_icmp_gtY (tgt := 98) (pc' := 96) dX12_mark_93 (by decide) rfl (by first | exact ⟨i_lo _, i_hi _⟩ | omega) (by first | exact ⟨i_lo _, i_hi _⟩ | omega) (fun c93 => ?_) (fun c93 => ?_)
                      · refine Go_aload_n (pc' := 99) dX12_mark_98 rfl rfl rfl ?_
                        refine Go_getRs (pc' := 102) dX12_mark_99 rfl kf_RX12_34 (by decide) (by decide) rfl (I.S.b 99 rfl rfl) (I.S.o 99 rfl rfl rfl) (I.S.r 99 9 rfl rfl rfl) ?_
                        refine Go_iload (pc' := 104) dX12_mark_102 rfl rfl ?_
                        refine Go_iload_n (pc' := 105) dX12_mark_104 rfl rfl rfl ?_
                        refine Go_iastoreZ (n := 240) (k := (40 * j + (m + 1))) (pc' := 106) dX12_mark_105 rfl (I.S.b 108 rfl rfl) (I.S.k 108 rfl rfl rfl) (by omega) (by omega) (by decide) ?_
                        refine Go_aload_n (pc' := 107) dX12_mark_106 rfl rfl rfl ?_
                        refine Go_getRs (pc' := 110) dX12_mark_107 rfl kf_RX12_37 (by decide) (by decide) rfl (I.S.b 99 rfl rfl) (I.S.o 99 rfl rfl rfl) (I.S.r 99 10 rfl rfl rfl) ?_
                        refine Go_iload (pc' := 112) dX12_mark_110 rfl rfl ?_
                        refine Go_iload_n (pc' := 113) dX12_mark_112 rfl rfl rfl ?_
                        refine Go_iastoreZ (n := 240) (k := (40 * j + (m + 1))) (pc' := 114) dX12_mark_113 rfl (I.S.b 109 rfl rfl) (I.S.k 109 rfl rfl rfl) (by omega) (by omega) (by decide) ?_
                        refine Go_aload_n (pc' := 115) dX12_mark_114 rfl rfl rfl ?_
                        refine Go_getRs (pc' := 118) dX12_mark_115 rfl kf_RX12_40 (by decide) (by decide) rfl (I.S.b 99 rfl rfl) (I.S.o 99 rfl rfl rfl) (I.S.r 99 11 rfl rfl rfl) ?_
                        refine Go_iload_n (pc' := 119) dX12_mark_118 rfl rfl rfl ?_
                        refine Go_dup2 (pc' := 120) dX12_mark_119 rfl rfl rfl ?_
                        refine Go_ialoadZ (n := 6) (k := j) (v := (iZ ((m : Int) + 1))) (pc' := 121) dX12_mark_120 rfl (I.S.b 110 rfl rfl) (I.S.k 110 rfl rfl rfl) rfl (by omega) (by decide) ((vi_skip (Or.inl (by decide))).trans ((vi_skip (Or.inl (by decide))).trans ((vi_skip (Or.inl (by omega))).trans ((vi_skip (Or.inl (by omega))).trans ((vi_skip (Or.inl (by omega))).trans (em2)))))) ?_
                        refine Go_iconst (v := iZ 1) (pc' := 122) dX12_mark_121 rfl (by decide) ?_
                        refine Go_iaddZ (pc' := 123) dX12_mark_122 rfl ?_
                        refine Go_iastoreZ (n := 6) (k := j) (pc' := 124) dX12_mark_123 rfl (I.S.b 110 rfl rfl) (I.S.k 110 rfl rfl rfl) rfl (by omega) (by decide) ?_
                        refine Go_iconst (v := iZ 1) (pc' := 125) dX12_mark_124 rfl (by decide) ?_
                        refine Go_ireturn (ty := .boolean) dX12_mark_125 rfl rfl ?_
                        exact k _ (I.cel hj ho CS (((((((Dif.rf _ _ _).wI (by unfold OwnW; omega)).wI (by unfold OwnW; omega)).wI (by unfold OwnW; omega)).wI (by unfold OwnW; omega)).wI (by unfold OwnW; omega)).wI (by unfold OwnW; omega)) ⟨cA.fr (((((((SameP.rf _ _).wI (by unfold fA; omega)).wI (by unfold fA; omega)).wI (by unfold fA; omega)).wI (by unfold fA; omega)).wI (by unfold fA; omega)).wI (by unfold fA; omega)), cB.fr (((((((SameP.rf _ _).wI (by unfold fB; omega)).wI (by unfold fB; omega)).wI (by unfold fB; omega)).wI (by unfold fB; omega)).wI (by unfold fB; omega)).wI (by unfold fB; omega)), cC.fr (((((((SameP.rf _ _).wI (by unfold fC; omega)).wI (by unfold fC; omega)).wI (by unfold fC; omega)).wI (by unfold fC; omega)).wI (by unfold fC; omega)).wI (by unfold fC; omega)), cD.fr (((((((SameP.rf _ _).wI (by unfold fD; omega)).wI (by unfold fD; omega)).wI (by unfold fD; omega)).wI (by unfold fD; omega)).wI (by unfold fD; omega)).wI (by unfold fD; omega)), cE.put (m := (m + 1)) (X := Bz) (Y := Cz) em (by omega) (by omega) (by omega) (fun i hi => by obtain rfl : i = m := (by omega); exact ⟨by omega, by omega⟩) ((vi_skip (Or.inl (by omega))).trans ((vi_skip (Or.inl (by omega))).trans ((vi_skip (Or.inl (by omega))).trans (vi_same)))) (vi_same) ((vi_skip (Or.inl (by omega))).trans ((vi_skip (Or.inl (by omega))).trans ((vi_skip (Or.inl (by omega))).trans ((vi_skip (Or.inl (by omega))).trans ((vi_skip (Or.inl (by omega))).trans (vi_same)))))) ((vi_skip (Or.inl (by decide))).trans ((vi_skip (Or.inl (by decide))).trans (vi_same))) ((vi_skip (Or.inl (by omega))).trans ((vi_skip (Or.inl (by omega))).trans ((vi_skip (Or.inl (by omega))).trans ((vi_skip (Or.inl (by omega))).trans (vi_same))))) ((vi_skip (Or.inl (by decide))).trans (vi_same)) (fun i hi => ⟨⟨((vi_skip (by omega)).trans ((vi_skip (by omega)).trans ((vi_skip (by omega)).trans ((vi_skip (by omega)).trans ((vi_skip (by omega)).trans ((vi_skip (by omega)).trans (rfl))))))), ((vi_skip (by omega)).trans ((vi_skip (by omega)).trans ((vi_skip (by omega)).trans ((vi_skip (by omega)).trans ((vi_skip (by omega)).trans ((vi_skip (by omega)).trans (rfl)))))))⟩, ((vi_skip (by omega)).trans ((vi_skip (by omega)).trans ((vi_skip (by omega)).trans ((vi_skip (by omega)).trans ((vi_skip (by omega)).trans ((vi_skip (by omega)).trans (rfl))))))), ((vi_skip (by omega)).trans ((vi_skip (by omega)).trans ((vi_skip (by omega)).trans ((vi_skip (by omega)).trans ((vi_skip (by omega)).trans ((vi_skip (by omega)).trans (rfl)))))))⟩), cF.fr (((((((SameP.rf _ _).wI (by unfold fF; omega)).wI (by unfold fF; omega)).wI (by unfold fF; omega)).wI (by unfold fF; omega)).wI (by unfold fF; omega)).wI (by unfold fF; omega)), cG.fr (((((((SameP.rf _ _).wI (by unfold fG; omega)).wI (by unfold fG; omega)).wI (by unfold fG; omega)).wI (by unfold fG; omega)).wI (by unfold fG; omega)).wI (by unfold fG; omega))⟩)
                      · refine Go_iconst (v := iZ 0) (pc' := 97) dX12_mark_96 rfl (by decide) ?_
                        refine Go_ireturn (ty := .boolean) dX12_mark_97 rfl rfl ?_
                        exfalso; omega
                · refine Go_iconst (v := iZ 0) (pc' := 47) dX12_mark_46 rfl (by decide) ?_
                  refine Go_ireturn (ty := .boolean) dX12_mark_47 rfl rfl ?_
                  exfalso; omega
        · show Go G 60 0 0 M_X12_mark 0 [.ref 99, .int (iZ (j : Int)), .int (iZ Bz), .int (iZ Cz), un] [] h K
          refine Go_aload_n (pc' := 1) dX12_mark_0 rfl rfl rfl ?_
          refine Go_iload_n (pc' := 2) dX12_mark_1 rfl rfl rfl ?_
          refine Go_callV_i (pc' := 5) (As := [.int _]) (st := []) dX12_mark_2 rfl ok_X12_isCellar km_RX12_158 (I.S.o 99 rfl rfl rfl) (I.S.b 99 rfl rfl) ⟨_, _, rfl⟩ rfl (Nat.le_of_ble_eq_true rfl) rfl rfl rfl (Nat.le_of_ble_eq_true rfl) (Nat.lt_succ_self _) ?_
          refine Go_iload_n (pc' := 1) dX12_isCellar_0 rfl rfl rfl ?_
          refine Go_iconst (v := iZ 0) (pc' := 2) dX12_isCellar_1 rfl (by decide) ?_
          refine Go_aload_n (pc' := 3) dX12_isCellar_2 rfl rfl rfl ?_
          refine Go_getIv (v := (iZ (nc : Int))) (pc' := 6) dX12_isCellar_3 rfl kf_RX12_151 (by decide) (by decide) rfl (I.S.b 99 rfl rfl) (I.S.o 99 rfl rfl rfl) (ec0) ?_
          refine Go_iconst (v := iZ 1) (pc' := 7) dX12_isCellar_6 rfl (by decide) ?_
          refine Go_isubZ (pc' := 8) dX12_isCellar_7 rfl ?_
          refine Go_callS_i (pc' := 11) (As := [.int _, .int _, .int _]) (st := []) dX12_isCellar_8 rfl ok_X12_isIn km_RX12_147 rfl (Nat.le_of_ble_eq_true rfl) rfl rfl rfl (Nat.le_of_ble_eq_true rfl) (Nat.lt_succ_self _) ?_
          refine s_isInY (by first | exact ⟨i_lo _, i_hi _⟩ | omega) (by first | exact ⟨i_lo _, i_hi _⟩ | omega) (by first | exact ⟨i_lo _, i_hi _⟩ | omega) ?_
          refine ⟨_, rfl, ?_⟩
          refine Go_ireturn (ty := .boolean) dX12_isCellar_11 rfl b2i_nb ?_
          refine ⟨_, rfl, ?_⟩
          refine Go_if_eqb (tgt := 46) (pc' := 8) dX12_mark_5 (by decide) rfl (fun c5 => ?_) (fun c5 => ?_)
          · refine Go_iconst (v := iZ 0) (pc' := 47) dX12_mark_46 rfl (by decide) ?_
            refine Go_ireturn (ty := .boolean) dX12_mark_47 rfl rfl ?_
            exact k _ I
          · refine Go_iload_n (pc' := 9) dX12_mark_8 rfl rfl rfl ?_
            refine Go_iconst (v := iZ 0) (pc' := 10) dX12_mark_9 rfl (by decide) ?_
            refine Go_aload_n (pc' := 11) dX12_mark_10 rfl rfl rfl ?_
            refine Go_getRs (pc' := 14) dX12_mark_11 rfl kf_RX12_31 (by decide) (by decide) rfl (I.S.b 99 rfl rfl) (I.S.o 99 rfl rfl rfl) (I.S.r 99 8 rfl rfl rfl) ?_
            refine Go_iload_n (pc' := 15) dX12_mark_14 rfl rfl rfl ?_
            refine Go_ialoadZ (n := 6) (k := j) (v := (iZ (n : Int))) (pc' := 16) dX12_mark_15 rfl (I.S.b 107 rfl rfl) (I.S.k 107 rfl rfl rfl) rfl (by omega) (by decide) (M.e107) ?_
            refine Go_iconst (v := iZ 1) (pc' := 17) dX12_mark_16 rfl (by decide) ?_
            refine Go_isubZ (pc' := 18) dX12_mark_17 rfl ?_
            refine Go_callS_i (pc' := 21) (As := [.int _, .int _, .int _]) (st := []) dX12_mark_18 rfl ok_X12_isIn km_RX12_147 rfl (Nat.le_of_ble_eq_true rfl) rfl rfl rfl (Nat.le_of_ble_eq_true rfl) (Nat.lt_succ_self _) ?_
            refine s_isInY (by first | exact ⟨i_lo _, i_hi _⟩ | omega) (by first | exact ⟨i_lo _, i_hi _⟩ | omega) (by first | exact ⟨i_lo _, i_hi _⟩ | omega) ?_
            refine ⟨_, rfl, ?_⟩
            refine Go_if_eqb (tgt := 46) (pc' := 24) dX12_mark_21 (by decide) rfl (fun c21 => ?_) (fun c21 => ?_)
            · refine Go_iconst (v := iZ 0) (pc' := 47) dX12_mark_46 rfl (by decide) ?_
              refine Go_ireturn (ty := .boolean) dX12_mark_47 rfl rfl ?_
              exact k _ I
            · refine Go_iload_n (pc' := 25) dX12_mark_24 rfl rfl rfl ?_
              refine Go_iconst (v := iZ 0) (pc' := 26) dX12_mark_25 rfl (by decide) ?_
              refine Go_sipush (v := iZ 9999) (pc' := 29) dX12_mark_26 rfl (by decide) ?_
              refine Go_callS_i (pc' := 32) (As := [.int _, .int _, .int _]) (st := []) dX12_mark_29 rfl ok_X12_isIn km_RX12_147 rfl (Nat.le_of_ble_eq_true rfl) rfl rfl rfl (Nat.le_of_ble_eq_true rfl) (Nat.lt_succ_self _) ?_
              refine s_isInY (by first | exact ⟨i_lo _, i_hi _⟩ | omega) (by first | exact ⟨i_lo _, i_hi _⟩ | omega) (by first | exact ⟨i_lo _, i_hi _⟩ | omega) ?_
              refine ⟨_, rfl, ?_⟩
              refine Go_if_eqb (tgt := 46) (pc' := 35) dX12_mark_32 (by decide) rfl (fun c32 => ?_) (fun c32 => ?_)
              · refine Go_iconst (v := iZ 0) (pc' := 47) dX12_mark_46 rfl (by decide) ?_
                refine Go_ireturn (ty := .boolean) dX12_mark_47 rfl rfl ?_
                exact k _ I
              · refine Go_aload_n (pc' := 36) dX12_mark_35 rfl rfl rfl ?_
                refine Go_getRs (pc' := 39) dX12_mark_36 rfl kf_RX12_40 (by decide) (by decide) rfl (I.S.b 99 rfl rfl) (I.S.o 99 rfl rfl rfl) (I.S.r 99 11 rfl rfl rfl) ?_
                refine Go_iload_n (pc' := 40) dX12_mark_39 rfl rfl rfl ?_
                refine Go_ialoadZ (n := 6) (k := j) (v := (iZ ((m : Int) + 1))) (pc' := 41) dX12_mark_40 rfl (I.S.b 110 rfl rfl) (I.S.k 110 rfl rfl rfl) rfl (by omega) (by decide) (em2) ?_
                refine Go_bipush (v := iZ 40) (pc' := 43) dX12_mark_41 rfl (by decide) ?_
                refine Go_icmp_neY (tgt := 48) (pc' := 46) dX12_mark_43 (by decide) rfl (by first | exact ⟨i_lo _, i_hi _⟩ | omega) (by first | exact ⟨i_lo _, i_hi _⟩ | omega) (fun c43 => ?_) (fun c43 => ?_)
                · refine Go_bipush (v := iZ 40) (pc' := 50) dX12_mark_48 rfl (by decide) ?_
                  refine Go_iload_n (pc' := 51) dX12_mark_50 rfl rfl rfl ?_
                  refine Go_imulZ (pc' := 52) dX12_mark_51 rfl ?_
                  refine Go_aload_n (pc' := 53) dX12_mark_52 rfl rfl rfl ?_
                  refine Go_getRs (pc' := 56) dX12_mark_53 rfl kf_RX12_40 (by decide) (by decide) rfl (I.S.b 99 rfl rfl) (I.S.o 99 rfl rfl rfl) (I.S.r 99 11 rfl rfl rfl) ?_
                  refine Go_iload_n (pc' := 57) dX12_mark_56 rfl rfl rfl ?_
                  refine Go_ialoadZ (n := 6) (k := j) (v := (iZ ((m : Int) + 1))) (pc' := 58) dX12_mark_57 rfl (I.S.b 110 rfl rfl) (I.S.k 110 rfl rfl rfl) rfl (by omega) (by decide) (em2) ?_
                  refine Go_iaddZ (pc' := 59) dX12_mark_58 rfl ?_
                  refine Go_istore (pc' := 61) (lv' := [.ref _, .int _, .int _, .int _, .int _]) dX12_mark_59 rfl (Nat.le_of_ble_eq_true rfl) rfl rfl ?_
                  refine Go_aload_n (pc' := 62) dX12_mark_61 rfl rfl rfl ?_
                  refine Go_getRs (pc' := 65) dX12_mark_62 rfl kf_RX12_40 (by decide) (by decide) rfl (I.S.b 99 rfl rfl) (I.S.o 99 rfl rfl rfl) (I.S.r 99 11 rfl rfl rfl) ?_
                  refine Go_iload_n (pc' := 66) dX12_mark_65 rfl rfl rfl ?_
                  refine Go_ialoadZ (n := 6) (k := j) (v := (iZ ((m : Int) + 1))) (pc' := 67) dX12_mark_66 rfl (I.S.b 110 rfl rfl) (I.S.k 110 rfl rfl rfl) rfl (by omega) (by decide) (em2) ?_
                  refine Go_if_leY (tgt := 98) (pc' := 70) dX12_mark_67 (by decide) rfl (by first | exact ⟨i_lo _, i_hi _⟩ | omega) (fun c67 => ?_) (fun c67 => ?_)
                  · refine Go_aload_n (pc' := 99) dX12_mark_98 rfl rfl rfl ?_
                    refine Go_getRs (pc' := 102) dX12_mark_99 rfl kf_RX12_34 (by decide) (by decide) rfl (I.S.b 99 rfl rfl) (I.S.o 99 rfl rfl rfl) (I.S.r 99 9 rfl rfl rfl) ?_
                    refine Go_iload (pc' := 104) dX12_mark_102 rfl rfl ?_
                    refine Go_iload_n (pc' := 105) dX12_mark_104 rfl rfl rfl ?_
                    refine Go_iastoreZ (n := 240) (k := (40 * j + (m + 1))) (pc' := 106) dX12_mark_105 rfl (I.S.b 108 rfl rfl) (I.S.k 108 rfl rfl rfl) (by omega) (by omega) (by decide) ?_
                    refine Go_aload_n (pc' := 107) dX12_mark_106 rfl rfl rfl ?_
                    refine Go_getRs (pc' := 110) dX12_mark_107 rfl kf_RX12_37 (by decide) (by decide) rfl (I.S.b 99 rfl rfl) (I.S.o 99 rfl rfl rfl) (I.S.r 99 10 rfl rfl rfl) ?_
                    refine Go_iload (pc' := 112) dX12_mark_110 rfl rfl ?_
                    refine Go_iload_n (pc' := 113) dX12_mark_112 rfl rfl rfl ?_
                    refine Go_iastoreZ (n := 240) (k := (40 * j + (m + 1))) (pc' := 114) dX12_mark_113 rfl (I.S.b 109 rfl rfl) (I.S.k 109 rfl rfl rfl) (by omega) (by omega) (by decide) ?_
                    refine Go_aload_n (pc' := 115) dX12_mark_114 rfl rfl rfl ?_
                    refine Go_getRs (pc' := 118) dX12_mark_115 rfl kf_RX12_40 (by decide) (by decide) rfl (I.S.b 99 rfl rfl) (I.S.o 99 rfl rfl rfl) (I.S.r 99 11 rfl rfl rfl) ?_
                    refine Go_iload_n (pc' := 119) dX12_mark_118 rfl rfl rfl ?_
                    refine Go_dup2 (pc' := 120) dX12_mark_119 rfl rfl rfl ?_
                    refine Go_ialoadZ (n := 6) (k := j) (v := (iZ ((m : Int) + 1))) (pc' := 121) dX12_mark_120 rfl (I.S.b 110 rfl rfl) (I.S.k 110 rfl rfl rfl) rfl (by omega) (by decide) ((vi_skip (Or.inl (by decide))).trans ((vi_skip (Or.inl (by decide))).trans (em2))) ?_
                    refine Go_iconst (v := iZ 1) (pc' := 122) dX12_mark_121 rfl (by decide) ?_
                    refine Go_iaddZ (pc' := 123) dX12_mark_122 rfl ?_
                    refine Go_iastoreZ (n := 6) (k := j) (pc' := 124) dX12_mark_123 rfl (I.S.b 110 rfl rfl) (I.S.k 110 rfl rfl rfl) rfl (by omega) (by decide) ?_
                    refine Go_iconst (v := iZ 1) (pc' := 125) dX12_mark_124 rfl (by decide) ?_
                    refine Go_ireturn (ty := .boolean) dX12_mark_125 rfl rfl ?_
                    exfalso; omega
                  · refine Go_iload_n (pc' := 71) dX12_mark_70 rfl rfl rfl ?_
                    refine Go_aload_n (pc' := 72) dX12_mark_71 rfl rfl rfl ?_
                    refine Go_getRs (pc' := 75) dX12_mark_72 rfl kf_RX12_34 (by decide) (by decide) rfl (I.S.b 99 rfl rfl) (I.S.o 99 rfl rfl rfl) (I.S.r 99 9 rfl rfl rfl) ?_
                    refine Go_iload (pc' := 77) dX12_mark_75 rfl rfl ?_
                    refine Go_iconst (v := iZ 1) (pc' := 78) dX12_mark_77 rfl (by decide) ?_
                    refine Go_isubZ (pc' := 79) dX12_mark_78 rfl ?_
                    refine Go_ialoadZ (n := 240) (k := (40 * j + m)) (v := (iZ (vi h (o + 2) m).toInt)) (pc' := 80) dX12_mark_79 rfl (I.S.b 108 rfl rfl) (I.S.k 108 rfl rfl rfl) (by omega) (by omega) (by decide) (qa.1.1) ?_
                    refine Go_icmp_leY (tgt := 96) (pc' := 83) dX12_mark_80 (by decide) rfl (by first | exact ⟨i_lo _, i_hi _⟩ | omega) (by first | exact ⟨i_lo _, i_hi _⟩ | omega) (fun c80 => ?_) (fun c80 => ?_)
                    · refine Go_iconst (v := iZ 0) (pc' := 97) dX12_mark_96 rfl (by decide) ?_
                      refine Go_ireturn (ty := .boolean) dX12_mark_97 rfl rfl ?_
                      exact k _ I
                    · refine Go_iload_n (pc' := 84) dX12_mark_83 rfl rfl rfl ?_
                      refine Go_aload_n (pc' := 85) dX12_mark_84 rfl rfl rfl ?_
                      refine Go_getRs (pc' := 88) dX12_mark_85 rfl kf_RX12_37 (by decide) (by decide) rfl (I.S.b 99 rfl rfl) (I.S.o 99 rfl rfl rfl) (I.S.r 99 10 rfl rfl rfl) ?_
                      refine Go_iload (pc' := 90) dX12_mark_88 rfl rfl ?_
                      refine Go_iconst (v := iZ 1) (pc' := 91) dX12_mark_90 rfl (by decide) ?_
                      refine Go_isubZ (pc' := 92) dX12_mark_91 rfl ?_
                      refine Go_ialoadZ (n := 240) (k := (40 * j + m)) (v := (iZ (vi h (o + 3) m).toInt)) (pc' := 93) dX12_mark_92 rfl (I.S.b 109 rfl rfl) (I.S.k 109 rfl rfl rfl) (by omega) (by omega) (by decide) (qa.2.1) ?_
                      refine Go_icmp_gtY (tgt := 98) (pc' := 96) dX12_mark_93 (by decide) rfl (by first | exact ⟨i_lo _, i_hi _⟩ | omega) (by first | exact ⟨i_lo _, i_hi _⟩ | omega) (fun c93 => ?_) (fun c93 => ?_)
                      · refine Go_aload_n (pc' := 99) dX12_mark_98 rfl rfl rfl ?_
                        refine Go_getRs (pc' := 102) dX12_mark_99 rfl kf_RX12_34 (by decide) (by decide) rfl (I.S.b 99 rfl rfl) (I.S.o 99 rfl rfl rfl) (I.S.r 99 9 rfl rfl rfl) ?_
                        refine Go_iload (pc' := 104) dX12_mark_102 rfl rfl ?_
                        refine Go_iload_n (pc' := 105) dX12_mark_104 rfl rfl rfl ?_
                        refine Go_iastoreZ (n := 240) (k := (40 * j + (m + 1))) (pc' := 106) dX12_mark_105 rfl (I.S.b 108 rfl rfl) (I.S.k 108 rfl rfl rfl) (by omega) (by omega) (by decide) ?_
                        refine Go_aload_n (pc' := 107) dX12_mark_106 rfl rfl rfl ?_
                        refine Go_getRs (pc' := 110) dX12_mark_107 rfl kf_RX12_37 (by decide) (by decide) rfl (I.S.b 99 rfl rfl) (I.S.o 99 rfl rfl rfl) (I.S.r 99 10 rfl rfl rfl) ?_
                        refine Go_iload (pc' := 112) dX12_mark_110 rfl rfl ?_
                        refine Go_iload_n (pc' := 113) dX12_mark_112 rfl rfl rfl ?_
                        refine Go_iastoreZ (n := 240) (k := (40 * j + (m + 1))) (pc' := 114) dX12_mark_113 rfl (I.S.b 109 rfl rfl) (I.S.k 109 rfl rfl rfl) (by omega) (by omega) (by decide) ?_
                        refine Go_aload_n (pc' := 115) dX12_mark_114 rfl rfl rfl ?_
                        refine Go_getRs (pc' := 118) dX12_mark_115 rfl kf_RX12_40 (by decide) (by decide) rfl (I.S.b 99 rfl rfl) (I.S.o 99 rfl rfl rfl) (I.S.r 99 11 rfl rfl rfl) ?_
                        refine Go_iload_n (pc' := 119) dX12_mark_118 rfl rfl rfl ?_
                        refine Go_dup2 (pc' := 120) dX12_mark_119 rfl rfl rfl ?_
                        refine Go_ialoadZ (n := 6) (k := j) (v := (iZ ((m : Int) + 1))) (pc' := 121) dX12_mark_120 rfl (I.S.b 110 rfl rfl) (I.S.k 110 rfl rfl rfl) rfl (by omega) (by decide) ((vi_skip (Or.inl (by decide))).trans ((vi_skip (Or.inl (by decide))).trans (em2))) ?_
                        refine Go_iconst (v := iZ 1) (pc' := 122) dX12_mark_121 rfl (by decide) ?_
                        refine Go_iaddZ (pc' := 123) dX12_mark_122 rfl ?_
                        refine Go_iastoreZ (n := 6) (k := j) (pc' := 124) dX12_mark_123 rfl (I.S.b 110 rfl rfl) (I.S.k 110 rfl rfl rfl) rfl (by omega) (by decide) ?_
                        refine Go_iconst (v := iZ 1) (pc' := 125) dX12_mark_124 rfl (by decide) ?_
                        refine Go_ireturn (ty := .boolean) dX12_mark_125 rfl rfl ?_
                        exfalso; omega
                      · refine Go_iconst (v := iZ 0) (pc' := 97) dX12_mark_96 rfl (by decide) ?_
                        refine Go_ireturn (ty := .boolean) dX12_mark_97 rfl rfl ?_
                        exact k _ I
                · refine Go_iconst (v := iZ 0) (pc' := 47) dX12_mark_46 rfl (by decide) ?_
                  refine Go_ireturn (ty := .boolean) dX12_mark_47 rfl rfl ?_
                  exact k _ I
  · refine PairI.ro' (fun _ => iZ 0) h I (fun K k => ?_) (fun K k => ?_)
    · show Go G 60 0 0 M_X11_mark 0 [.ref 64, .int (iZ Az), .int (iZ Bz), .int (iZ Cz), un] [] h K
      refine Go_aload_n (pc' := 1) dX11_mark_0 rfl rfl rfl ?_
      refine Go_iload_n (pc' := 2) dX11_mark_1 rfl rfl rfl ?_
      refine Go_callV_r (pc' := 5) (As := [.int _]) (st := []) dX11_mark_2 rfl ok_X11_cellarOf km_RX11_90 (I.S.o 64 rfl rfl rfl) (I.S.b 64 rfl rfl) ⟨_, _, rfl⟩ rfl (Nat.le_of_ble_eq_true rfl) rfl rfl rfl (Nat.le_of_ble_eq_true rfl) (Nat.lt_succ_self _) ?_
      refine Go_iload_n (pc' := 1) dX11_cellarOf_0 rfl rfl rfl ?_
      refine Go_iconst (v := iZ 0) (pc' := 2) dX11_cellarOf_1 rfl (by decide) ?_
      refine Go_aload_n (pc' := 3) dX11_cellarOf_2 rfl rfl rfl ?_
      refine Go_getIv (v := (iZ (nc : Int))) (pc' := 6) dX11_cellarOf_3 rfl kf_RX11_84 (by decide) (by decide) rfl (I.S.b 64 rfl rfl) (I.S.o 64 rfl rfl rfl) (ec2) ?_
      refine Go_iconst (v := iZ 1) (pc' := 7) dX11_cellarOf_6 rfl (by decide) ?_
      refine Go_isubZ (pc' := 8) dX11_cellarOf_7 rfl ?_
      refine Go_callS_i (pc' := 11) (As := [.int _, .int _, .int _]) (st := []) dX11_cellarOf_8 rfl ok_X11_within km_RX11_94 rfl (Nat.le_of_ble_eq_true rfl) rfl rfl rfl (Nat.le_of_ble_eq_true rfl) (Nat.lt_succ_self _) ?_
      refine s_withinY (by first | exact ⟨i_lo _, i_hi _⟩ | omega) (by first | exact ⟨i_lo _, i_hi _⟩ | omega) (by first | exact ⟨i_lo _, i_hi _⟩ | omega) ?_
      refine ⟨_, rfl, ?_⟩
      refine Go_if_eqb (tgt := 32) (pc' := 14) dX11_cellarOf_11 (by decide) rfl (fun q11 => ?_) (fun q11 => by exfalso; omega)
      refine Go_null (pc' := 33) dX11_cellarOf_32 rfl ?_
      refine Go_areturn (r := none) dX11_cellarOf_33 rfl ?_
      refine ⟨none, rfl, ?_⟩
      refine Go_astoreN (pc' := 7) (lv' := [.ref _, .int _, .int _, .int _, .null]) dX11_mark_5 rfl (Nat.le_of_ble_eq_true rfl) rfl rfl ?_
      refine Go_aloadN (pc' := 9) dX11_mark_7 rfl rfl ?_
      refine Go_ifnullN (tgt := 37) dX11_mark_9 (by decide) ?_
      refine Go_iconst (v := iZ 0) (pc' := 38) dX11_mark_37 rfl (by decide) ?_
      refine Go_ireturn (ty := .boolean) dX11_mark_38 rfl rfl ?_
      exact k
    · show Go G 60 0 0 M_X12_mark 0 [.ref 99, .int (iZ Az), .int (iZ Bz), .int (iZ Cz), un] [] h K
      refine Go_aload_n (pc' := 1) dX12_mark_0 rfl rfl rfl ?_
      refine Go_iload_n (pc' := 2) dX12_mark_1 rfl rfl rfl ?_
      refine Go_callV_i (pc' := 5) (As := [.int _]) (st := []) dX12_mark_2 rfl ok_X12_isCellar km_RX12_158 (I.S.o 99 rfl rfl rfl) (I.S.b 99 rfl rfl) ⟨_, _, rfl⟩ rfl (Nat.le_of_ble_eq_true rfl) rfl rfl rfl (Nat.le_of_ble_eq_true rfl) (Nat.lt_succ_self _) ?_
      refine Go_iload_n (pc' := 1) dX12_isCellar_0 rfl rfl rfl ?_
      refine Go_iconst (v := iZ 0) (pc' := 2) dX12_isCellar_1 rfl (by decide) ?_
      refine Go_aload_n (pc' := 3) dX12_isCellar_2 rfl rfl rfl ?_
      refine Go_getIv (v := (iZ (nc : Int))) (pc' := 6) dX12_isCellar_3 rfl kf_RX12_151 (by decide) (by decide) rfl (I.S.b 99 rfl rfl) (I.S.o 99 rfl rfl rfl) (ec0) ?_
      refine Go_iconst (v := iZ 1) (pc' := 7) dX12_isCellar_6 rfl (by decide) ?_
      refine Go_isubZ (pc' := 8) dX12_isCellar_7 rfl ?_
      refine Go_callS_i (pc' := 11) (As := [.int _, .int _, .int _]) (st := []) dX12_isCellar_8 rfl ok_X12_isIn km_RX12_147 rfl (Nat.le_of_ble_eq_true rfl) rfl rfl rfl (Nat.le_of_ble_eq_true rfl) (Nat.lt_succ_self _) ?_
      refine s_isInY (by first | exact ⟨i_lo _, i_hi _⟩ | omega) (by first | exact ⟨i_lo _, i_hi _⟩ | omega) (by first | exact ⟨i_lo _, i_hi _⟩ | omega) ?_
      refine ⟨_, rfl, ?_⟩
      refine Go_ireturn (ty := .boolean) dX12_isCellar_11 rfl b2i_nb ?_
      refine ⟨_, rfl, ?_⟩
      refine Go_if_eqb (tgt := 46) (pc' := 8) dX12_mark_5 (by decide) rfl (fun c5 => ?_) (fun c5 => by exfalso; omega)
      refine Go_iconst (v := iZ 0) (pc' := 47) dX12_mark_46 rfl (by decide) ?_
      refine Go_ireturn (ty := .boolean) dX12_mark_47 rfl rfl ?_
      exact k
