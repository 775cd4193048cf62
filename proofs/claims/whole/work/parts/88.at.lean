/-! pairs: at, first -/
set_option maxRecDepth 20000 in
set_option maxHeartbeats 1000000 in
theorem atM_loop {G : GC} {d mc ms : Nat} {h : HS} {K : Option Value → HS → Prop} {j q n : Nat} {b : Int32} (S : Shp h) (M : Smp h j q n) (hx : Go G (d + 2) mc ms M_X12_at 99 [.ref 99, .int (nI j), .int b, .int (nI (cnt (clcF h q) n)), .int (nI (cnt (micF h q) n)), .int (nI n)] [] h K) : ∀ (m i : Nat), i + m = n → Go G (d + 2) mc ms M_X12_at 42 [.ref 99, .int (nI j), .int b, .int (nI (cnt (clcF h q) i)), .int (nI (cnt (micF h q) i)), .int (nI i)] [] h K := by
  obtain ⟨hj6', CS', hn200, en, en2, el, lim, sm⟩ := id M
  have hq0 := CS'.1
  unfold rg at lim
  intro m
  induction m with
  | zero =>
    intro i him
    refine Go_iload (pc' := 44) dX12_at_42 rfl rfl ?_
    refine Go_aload_n (pc' := 45) dX12_at_44 rfl rfl rfl ?_
    refine Go_getRs (pc' := 48) dX12_at_45 rfl kf_RX12_31 (by decide) (by decide) rfl (S.b 99 rfl rfl) (S.o 99 rfl rfl rfl) (S.r 99 8 rfl rfl rfl) ?_
    refine Go_iload_n (pc' := 49) dX12_at_48 rfl rfl rfl ?_
    refine Go_iaload (n := 6) (v := (nI n)) (pc' := 50) dX12_at_49 rfl (S.b 107 rfl rfl) (S.k 107 rfl rfl rfl) (by exact inR_nI (by omega) (by decide)) ((congrArg (vi _ _) (nI_clamp (show j < 2 ^ 31 by omega))).trans (en2)) ?_
    refine Go_icmp_geZ (X := ((i : Nat) : Int)) (Y := ((n : Nat) : Int)) (tgt := 99) (pc' := 53) dX12_at_50 (by decide) rfl (i_nI (by omega)) (i_nI (by omega)) (fun c50 => ?_) (fun c50 => ?_)
    · rw [show i = n by omega]; exact hx
    · exfalso; omega
  | succ m ih =>
    intro i him
    refine Go_iload (pc' := 44) dX12_at_42 rfl rfl ?_
    refine Go_aload_n (pc' := 45) dX12_at_44 rfl rfl rfl ?_
    refine Go_getRs (pc' := 48) dX12_at_45 rfl kf_RX12_31 (by decide) (by decide) rfl (S.b 99 rfl rfl) (S.o 99 rfl rfl rfl) (S.r 99 8 rfl rfl rfl) ?_
    refine Go_iload_n (pc' := 49) dX12_at_48 rfl rfl rfl ?_
    refine Go_iaload (n := 6) (v := (nI n)) (pc' := 50) dX12_at_49 rfl (S.b 107 rfl rfl) (S.k 107 rfl rfl rfl) (by exact inR_nI (by omega) (by decide)) ((congrArg (vi _ _) (nI_clamp (show j < 2 ^ 31 by omega))).trans (en2)) ?_
    refine Go_icmp_geZ (X := ((i : Nat) : Int)) (Y := ((n : Nat) : Int)) (tgt := 99) (pc' := 53) dX12_at_50 (by decide) rfl (i_nI (by omega)) (i_nI (by omega)) (fun c50 => ?_) (fun c50 => ?_)
    · exfalso; omega
    · refine Go_iload_n (pc' := 54) dX12_at_53 rfl rfl rfl ?_
      refine Go_aload_n (pc' := 55) dX12_at_54 rfl rfl rfl ?_
      refine Go_iload_n (pc' := 56) dX12_at_55 rfl rfl rfl ?_
      refine Go_iload (pc' := 58) dX12_at_56 rfl rfl ?_
      refine Go_callV_i (pc' := 61) (As := [.int _, .int _]) (st := [.int _]) dX12_at_58 rfl ok_X12_isClipped km_RX12_167 (S.o 99 rfl rfl rfl) (S.b 99 rfl rfl) ⟨_, _, rfl⟩ rfl (Nat.le_of_ble_eq_true rfl) rfl rfl rfl (Nat.le_of_ble_eq_true rfl) (Nat.lt_succ_self _) ?_
      refine s_isClippedM (i := i) S M (by omega) ?_
      refine ⟨_, rfl, ?_⟩
      refine Go_if_eqb (tgt := 68) (pc' := 64) dX12_at_61 (by decide) rfl (fun c61 => ?_) (fun c61 => ?_)
      · refine Go_iconst (v := 0) (pc' := 69) dX12_at_68 rfl (by decide) ?_
        refine Go_iadd (pc' := 70) dX12_at_69 rfl ?_
        rw [show nI (cnt (clcF h q) i) + 0 = nI (cnt (clcF h q) i) from nI_add (cnt (clcF h q) i) 0]
        refine Go_istore_n (pc' := 71) (lv' := [.ref _, .int _, .int _, .int _, .int _, .int _]) dX12_at_70 rfl rfl (Nat.le_of_ble_eq_true rfl) rfl rfl ?_
        refine Go_iload (pc' := 73) dX12_at_71 rfl rfl ?_
        refine Go_aload_n (pc' := 74) dX12_at_73 rfl rfl rfl ?_
        refine Go_iload_n (pc' := 75) dX12_at_74 rfl rfl rfl ?_
        refine Go_iload (pc' := 77) dX12_at_75 rfl rfl ?_
        refine Go_callV_i (pc' := 80) (As := [.int _, .int _]) (st := [.int _]) dX12_at_77 rfl ok_X12_sample km_RX12_163 (S.o 99 rfl rfl rfl) (S.b 99 rfl rfl) ⟨_, _, rfl⟩ rfl (Nat.le_of_ble_eq_true rfl) rfl rfl rfl (Nat.le_of_ble_eq_true rfl) (Nat.lt_succ_self _) ?_
        refine s_sampleM (i := i) S M (by omega) ?_
        refine ⟨_, rfl, ?_⟩
        refine Go_ldc (pc' := 82) dX12_at_80 rfl kn_RX12_162 ?_
        refine Go_icmp_neZ (X := _) (Y := (-1000000000)) (tgt := 89) (pc' := 85) dX12_at_82 (by decide) rfl rfl rfl (fun c82 => ?_) (fun c82 => ?_)
        · refine Go_iconst (v := 0) (pc' := 90) dX12_at_89 rfl (by decide) ?_
          refine Go_iadd (pc' := 91) dX12_at_90 rfl ?_
          rw [show nI (cnt (micF h q) i) + 0 = nI (cnt (micF h q) i) from nI_add (cnt (micF h q) i) 0]
          refine Go_istore (pc' := 93) (lv' := [.ref _, .int _, .int _, .int _, .int _, .int _]) dX12_at_91 rfl (Nat.le_of_ble_eq_true rfl) rfl rfl ?_
          refine Go_iinc (pc' := 96) (lv' := [.ref _, .int _, .int _, .int _, .int _, .int _]) dX12_at_93 rfl rfl (nI_add _ 1) (Nat.le_of_ble_eq_true rfl) rfl rfl ?_
          refine Go_goto (tgt := 42) dX12_at_96 (by decide) ?_
          have z := ih (i + 1) (by omega)
          rw [cnt_f (f := clcF h q) (fun z => c61 (of_decide_eq_true z)), cnt_f (f := micF h q) (fun z => c82 (of_decide_eq_true z))] at z
          exact z
        · refine Go_iconst (v := 1) (pc' := 86) dX12_at_85 rfl (by decide) ?_
          refine Go_goto (tgt := 90) dX12_at_86 (by decide) ?_
          refine Go_iadd (pc' := 91) dX12_at_90 rfl ?_
          rw [nI_1]
          refine Go_istore (pc' := 93) (lv' := [.ref _, .int _, .int _, .int _, .int _, .int _]) dX12_at_91 rfl (Nat.le_of_ble_eq_true rfl) rfl rfl ?_
          refine Go_iinc (pc' := 96) (lv' := [.ref _, .int _, .int _, .int _, .int _, .int _]) dX12_at_93 rfl rfl (nI_add _ 1) (Nat.le_of_ble_eq_true rfl) rfl rfl ?_
          refine Go_goto (tgt := 42) dX12_at_96 (by decide) ?_
          have z := ih (i + 1) (by omega)
          rw [cnt_f (f := clcF h q) (fun z => c61 (of_decide_eq_true z)), cnt_t (f := micF h q) (decide_eq_true c82)] at z
          exact z
      · refine Go_iconst (v := 1) (pc' := 65) dX12_at_64 rfl (by decide) ?_
        refine Go_goto (tgt := 69) dX12_at_65 (by decide) ?_
        refine Go_iadd (pc' := 70) dX12_at_69 rfl ?_
        rw [nI_1]
        refine Go_istore_n (pc' := 71) (lv' := [.ref _, .int _, .int _, .int _, .int _, .int _]) dX12_at_70 rfl rfl (Nat.le_of_ble_eq_true rfl) rfl rfl ?_
        refine Go_iload (pc' := 73) dX12_at_71 rfl rfl ?_
        refine Go_aload_n (pc' := 74) dX12_at_73 rfl rfl rfl ?_
        refine Go_iload_n (pc' := 75) dX12_at_74 rfl rfl rfl ?_
        refine Go_iload (pc' := 77) dX12_at_75 rfl rfl ?_
        refine Go_callV_i (pc' := 80) (As := [.int _, .int _]) (st := [.int _]) dX12_at_77 rfl ok_X12_sample km_RX12_163 (S.o 99 rfl rfl rfl) (S.b 99 rfl rfl) ⟨_, _, rfl⟩ rfl (Nat.le_of_ble_eq_true rfl) rfl rfl rfl (Nat.le_of_ble_eq_true rfl) (Nat.lt_succ_self _) ?_
        refine s_sampleM (i := i) S M (by omega) ?_
        refine ⟨_, rfl, ?_⟩
        refine Go_ldc (pc' := 82) dX12_at_80 rfl kn_RX12_162 ?_
        refine Go_icmp_neZ (X := _) (Y := (-1000000000)) (tgt := 89) (pc' := 85) dX12_at_82 (by decide) rfl rfl rfl (fun c82 => ?_) (fun c82 => ?_)
        · refine Go_iconst (v := 0) (pc' := 90) dX12_at_89 rfl (by decide) ?_
          refine Go_iadd (pc' := 91) dX12_at_90 rfl ?_
          rw [show nI (cnt (micF h q) i) + 0 = nI (cnt (micF h q) i) from nI_add (cnt (micF h q) i) 0]
          refine Go_istore (pc' := 93) (lv' := [.ref _, .int _, .int _, .int _, .int _, .int _]) dX12_at_91 rfl (Nat.le_of_ble_eq_true rfl) rfl rfl ?_
          refine Go_iinc (pc' := 96) (lv' := [.ref _, .int _, .int _, .int _, .int _, .int _]) dX12_at_93 rfl rfl (nI_add _ 1) (Nat.le_of_ble_eq_true rfl) rfl rfl ?_
          refine Go_goto (tgt := 42) dX12_at_96 (by decide) ?_
          have z := ih (i + 1) (by omega)
          rw [cnt_t (f := clcF h q) (decide_eq_true c61), cnt_f (f := micF h q) (fun z => c82 (of_decide_eq_true z))] at z
          exact z
        · refine Go_iconst (v := 1) (pc' := 86) dX12_at_85 rfl (by decide) ?_
          refine Go_goto (tgt := 90) dX12_at_86 (by decide) ?_
          refine Go_iadd (pc' := 91) dX12_at_90 rfl ?_
          rw [nI_1]
          refine Go_istore (pc' := 93) (lv' := [.ref _, .int _, .int _, .int _, .int _, .int _]) dX12_at_91 rfl (Nat.le_of_ble_eq_true rfl) rfl rfl ?_
          refine Go_iinc (pc' := 96) (lv' := [.ref _, .int _, .int _, .int _, .int _, .int _]) dX12_at_93 rfl rfl (nI_add _ 1) (Nat.le_of_ble_eq_true rfl) rfl rfl ?_
          refine Go_goto (tgt := 42) dX12_at_96 (by decide) ?_
          have z := ih (i + 1) (by omega)
          rw [cnt_t (f := clcF h q) (decide_eq_true c61), cnt_t (f := micF h q) (decide_eq_true c82)] at z
          exact z
set_option maxRecDepth 20000 in
set_option maxHeartbeats 1000000 in
theorem pair5 {G : GC} (a b : Int32) : PairI G M_X11_at M_X12_at [.int a, .int b] := by
  intro h I
  rcases cel_cases I a with hn | ⟨j, q, rfl, hj6, hj, hq, CS, CV⟩
  · refine PairI.ro' (fun _ => -1000000000) h I (fun K k => ?_) (fun K k => ?_)
    · show Go G 60 0 0 M_X11_at 0 [.ref 64, .int a, .int b, un] [] h K
      refine Go_aload_n (pc' := 1) dX11_at_0 rfl rfl rfl ?_
      refine Go_iload_n (pc' := 2) dX11_at_1 rfl rfl rfl ?_
      refine Go_callV_r (pc' := 5) (As := [.int _]) (st := []) dX11_at_2 rfl ok_X11_cellarOf km_RX11_90 (I.S.o 64 rfl rfl rfl) (I.S.b 64 rfl rfl) ⟨_, _, rfl⟩ rfl (Nat.le_of_ble_eq_true rfl) rfl rfl rfl (Nat.le_of_ble_eq_true rfl) (Nat.lt_succ_self _) ?_
      refine s_cellarOf0 I hn ?_
      refine ⟨none, rfl, ?_⟩
      refine Go_astore_nN (pc' := 6) (lv' := [.ref _, .int _, .int _, .null]) dX11_at_5 rfl rfl (Nat.le_of_ble_eq_true rfl) rfl rfl ?_
      refine Go_aload_nN (pc' := 7) dX11_at_6 rfl rfl rfl ?_
      refine Go_ifnonnullN (pc' := 10) dX11_at_7 rfl ?_
      refine Go_ldc (pc' := 12) dX11_at_10 rfl kn_RX11_110 ?_
      refine Go_ireturn (ty := .int) dX11_at_12 rfl rfl ?_
      exact k
    · show Go G 60 0 0 M_X12_at 0 [.ref 99, .int a, .int b, un, un, un] [] h K
      refine Go_aload_n (pc' := 1) dX12_at_0 rfl rfl rfl ?_
      refine Go_iload_n (pc' := 2) dX12_at_1 rfl rfl rfl ?_
      refine Go_callV_i (pc' := 5) (As := [.int _]) (st := []) dX12_at_2 rfl ok_X12_isCellar km_RX12_158 (I.S.o 99 rfl rfl rfl) (I.S.b 99 rfl rfl) ⟨_, _, rfl⟩ rfl (Nat.le_of_ble_eq_true rfl) rfl rfl rfl (Nat.le_of_ble_eq_true rfl) (Nat.lt_succ_self _) ?_
      refine s_isCellar0 I.S I.C.1.1 I.C.1.2 hn ?_
      refine ⟨_, rfl, ?_⟩
      refine Go_if_neZ (X := (0)) (tgt := 11) (pc' := 8) dX12_at_5 (by decide) rfl rfl (fun c5 => ?_) (fun c5 => ?_)
      · exact absurd c5 (by decide)
      · refine Go_ldc (pc' := 10) dX12_at_8 rfl kn_RX12_162 ?_
        refine Go_ireturn (ty := .int) dX12_at_10 rfl rfl ?_
        exact k
  · obtain ⟨n, M⟩ := smp_of hj6 CS CV
    obtain ⟨cA, cB, cC, cD, cE, cF, cG⟩ := CV
    obtain ⟨hj6', CS', hn200, en, en2, el, lim, sm⟩ := id M
    have hq0 := CS'.1
    unfold rg at lim
    have en1 : (nI n - 1).toInt = (n : Int) - 1 := by rw [i_sub, i_nI (by omega)] <;> first | rfl | (rw [i_nI (by omega)]; show _ ≤ (n : Int) - 1; omega) | (rw [i_nI (by omega)]; show (n : Int) - 1 < _; omega)
    by_cases hb : 0 ≤ b.toInt ∧ b.toInt < n
    · obtain ⟨t, ht, rfl⟩ : ∃ t : Nat, t < n ∧ b = nI t := ⟨b.toInt.toNat, by omega, i_nat hb.1⟩
      have et : (nI t).toInt = (t : Int) := i_nI (by omega)
      refine PairI.ro' (fun _ => vi h (q + 1) t) h I (fun K k => ?_) (fun K k => ?_)
      · show Go G 60 0 0 M_X11_at 0 [.ref 64, .int (nI j), .int (nI t), un] [] h K
        refine Go_aload_n (pc' := 1) dX11_at_0 rfl rfl rfl ?_
        refine Go_iload_n (pc' := 2) dX11_at_1 rfl rfl rfl ?_
        refine Go_callV_r (pc' := 5) (As := [.int _]) (st := []) dX11_at_2 rfl ok_X11_cellarOf km_RX11_90 (I.S.o 64 rfl rfl rfl) (I.S.b 64 rfl rfl) ⟨_, _, rfl⟩ rfl (Nat.le_of_ble_eq_true rfl) rfl rfl rfl (Nat.le_of_ble_eq_true rfl) (Nat.lt_succ_self _) ?_
        refine s_cellarOf1 I hj hq ?_
        refine ⟨some _, rfl, ?_⟩
        refine Go_astore_n (pc' := 6) (lv' := [.ref _, .int _, .int _, .ref _]) dX11_at_5 rfl rfl (Nat.le_of_ble_eq_true rfl) rfl rfl ?_
        refine Go_aload_n (pc' := 7) dX11_at_6 rfl rfl rfl ?_
        refine Go_ifnonnull (tgt := 13) dX11_at_7 (by decide) ?_
        refine Go_iload_n (pc' := 14) dX11_at_13 rfl rfl rfl ?_
        rcases (show (nI t).toInt = 1000 ∨ (nI t).toInt = 1001 ∨ (nI t).toInt = 1002 ∨ (nI t).toInt = 1003 ∨ (nI t).toInt = 1004 ∨ (nI t).toInt = 1005 ∨ ((nI t).toInt < 1000 ∨ 1005 < (nI t).toInt) by omega) with e14 | e14 | e14 | e14 | e14 | e14 | e14
        · refine Go_tableIn (off := 38) (tgt := 52) dX11_at_14 (by omega) (by omega) (by rw [e14]; rfl) (by decide) ?_
          refine Go_aload_n (pc' := 53) dX11_at_52 rfl rfl rfl ?_
          refine Go_getIv (v := (nI n)) (pc' := 56) dX11_at_53 rfl kf_RX11_107 (by decide) (by decide) rfl CS'.b CS'.o (en) ?_
          refine Go_ireturn (ty := .int) dX11_at_56 rfl rfl ?_
          exfalso; omega
        · refine Go_tableIn (off := 43) (tgt := 57) dX11_at_14 (by omega) (by omega) (by rw [e14]; rfl) (by decide) ?_
          refine Go_aload_n (pc' := 58) dX11_at_57 rfl rfl rfl ?_
          refine Go_getIv (v := (vi h q 5)) (pc' := 61) dX11_at_58 rfl kf_RX11_122 (by decide) (by decide) rfl CS'.b CS'.o rfl ?_
          refine Go_ireturn (ty := .int) dX11_at_61 rfl rfl ?_
          exfalso; omega
        · refine Go_tableIn (off := 48) (tgt := 62) dX11_at_14 (by omega) (by omega) (by rw [e14]; rfl) (by decide) ?_
          refine Go_aload_n (pc' := 63) dX11_at_62 rfl rfl rfl ?_
          refine Go_getIv (v := (vi h q 6)) (pc' := 66) dX11_at_63 rfl kf_RX11_125 (by decide) (by decide) rfl CS'.b CS'.o rfl ?_
          refine Go_ireturn (ty := .int) dX11_at_66 rfl rfl ?_
          exfalso; omega
        · refine Go_tableIn (off := 53) (tgt := 67) dX11_at_14 (by omega) (by omega) (by rw [e14]; rfl) (by decide) ?_
          refine Go_aload_n (pc' := 68) dX11_at_67 rfl rfl rfl ?_
          refine Go_callV_i (pc' := 71) (As := []) (st := []) dX11_at_68 rfl ok_X2_clippedCount km_RX11_128 CS'.o CS'.b ⟨_, _, rfl⟩ rfl (Nat.le_of_ble_eq_true rfl) rfl rfl rfl (Nat.le_of_ble_eq_true rfl) (Nat.lt_succ_self _) ?_
          refine s_clc M ?_
          refine ⟨_, rfl, ?_⟩
          refine Go_ireturn (ty := .int) dX11_at_71 rfl rfl ?_
          exfalso; omega
        · refine Go_tableIn (off := 58) (tgt := 72) dX11_at_14 (by omega) (by omega) (by rw [e14]; rfl) (by decide) ?_
          refine Go_aload_n (pc' := 73) dX11_at_72 rfl rfl rfl ?_
          refine Go_callV_i (pc' := 76) (As := []) (st := []) dX11_at_73 rfl ok_X2_missingCount km_RX11_131 CS'.o CS'.b ⟨_, _, rfl⟩ rfl (Nat.le_of_ble_eq_true rfl) rfl rfl rfl (Nat.le_of_ble_eq_true rfl) (Nat.lt_succ_self _) ?_
          refine s_mic M ?_
          refine ⟨_, rfl, ?_⟩
          refine Go_ireturn (ty := .int) dX11_at_76 rfl rfl ?_
          exfalso; omega
        · refine Go_tableIn (off := 63) (tgt := 77) dX11_at_14 (by omega) (by omega) (by rw [e14]; rfl) (by decide) ?_
          refine Go_aload_n (pc' := 78) dX11_at_77 rfl rfl rfl ?_
          refine Go_getIv (v := (vi h q 11)) (pc' := 81) dX11_at_78 rfl kf_RX11_134 (by decide) (by decide) rfl CS'.b CS'.o rfl ?_
          refine Go_ireturn (ty := .int) dX11_at_81 rfl rfl ?_
          exfalso; omega
        · refine Go_tableOut (tgt := 82) dX11_at_14 (by omega) (by decide) ?_
          refine Go_aload_n (pc' := 83) dX11_at_82 rfl rfl rfl ?_
          refine Go_iload_n (pc' := 84) dX11_at_83 rfl rfl rfl ?_
          refine Go_callV_i (pc' := 87) (As := [.int _]) (st := []) dX11_at_84 rfl ok_X2_sampleAt km_RX11_137 CS'.o CS'.b ⟨_, _, rfl⟩ rfl (Nat.le_of_ble_eq_true rfl) rfl rfl rfl (Nat.le_of_ble_eq_true rfl) (Nat.lt_succ_self _) ?_
          refine s_sampleAt M ht ?_
          refine ⟨_, rfl, ?_⟩
          refine Go_ireturn (ty := .int) dX11_at_87 rfl rfl ?_
          exact k
      · show Go G 60 0 0 M_X12_at 0 [.ref 99, .int (nI j), .int (nI t), un, un, un] [] h K
        refine Go_aload_n (pc' := 1) dX12_at_0 rfl rfl rfl ?_
        refine Go_iload_n (pc' := 2) dX12_at_1 rfl rfl rfl ?_
        refine Go_callV_i (pc' := 5) (As := [.int _]) (st := []) dX12_at_2 rfl ok_X12_isCellar km_RX12_158 (I.S.o 99 rfl rfl rfl) (I.S.b 99 rfl rfl) ⟨_, _, rfl⟩ rfl (Nat.le_of_ble_eq_true rfl) rfl rfl rfl (Nat.le_of_ble_eq_true rfl) (Nat.lt_succ_self _) ?_
        refine s_isCellar1 (n := vi h 64 2) I.S (I.C.1.1) hj hj6 I.C.1.2.2 ?_
        refine ⟨_, rfl, ?_⟩
        refine Go_if_neZ (X := (1)) (tgt := 11) (pc' := 8) dX12_at_5 (by decide) rfl rfl (fun c5 => ?_) (fun c5 => ?_)
        · refine Go_iload_n (pc' := 12) dX12_at_11 rfl rfl rfl ?_
          refine Go_iconst (v := 0) (pc' := 13) dX12_at_12 rfl (by decide) ?_
          refine Go_aload_n (pc' := 14) dX12_at_13 rfl rfl rfl ?_
          refine Go_getRs (pc' := 17) dX12_at_14 rfl kf_RX12_31 (by decide) (by decide) rfl (I.S.b 99 rfl rfl) (I.S.o 99 rfl rfl rfl) (I.S.r 99 8 rfl rfl rfl) ?_
          refine Go_iload_n (pc' := 18) dX12_at_17 rfl rfl rfl ?_
          refine Go_iaload (n := 6) (v := (nI n)) (pc' := 19) dX12_at_18 rfl (I.S.b 107 rfl rfl) (I.S.k 107 rfl rfl rfl) (by exact inR_nI (by omega) (by decide)) ((congrArg (vi _ _) (nI_clamp (show j < 2 ^ 31 by omega))).trans (en2)) ?_
          refine Go_iconst (v := 1) (pc' := 20) dX12_at_19 rfl (by decide) ?_
          refine Go_isub (pc' := 21) dX12_at_20 rfl ?_
          refine Go_callS_i (pc' := 24) (As := [.int _, .int _, .int _]) (st := []) dX12_at_21 rfl ok_X12_isIn km_RX12_147 rfl (Nat.le_of_ble_eq_true rfl) rfl rfl rfl (Nat.le_of_ble_eq_true rfl) (Nat.lt_succ_self _) ?_
          refine s_isInZ (l := 0) (u := (n : Int) - 1) rfl en1 ?_
          refine ⟨_, rfl, ?_⟩
          refine Go_if_eqb (tgt := 34) (pc' := 27) dX12_at_24 (by decide) rfl (fun c24 => ?_) (fun c24 => ?_)
          · exfalso; omega
          · refine Go_aload_n (pc' := 28) dX12_at_27 rfl rfl rfl ?_
            refine Go_iload_n (pc' := 29) dX12_at_28 rfl rfl rfl ?_
            refine Go_iload_n (pc' := 30) dX12_at_29 rfl rfl rfl ?_
            refine Go_callV_i (pc' := 33) (As := [.int _, .int _]) (st := []) dX12_at_30 rfl ok_X12_sample km_RX12_163 (I.S.o 99 rfl rfl rfl) (I.S.b 99 rfl rfl) ⟨_, _, rfl⟩ rfl (Nat.le_of_ble_eq_true rfl) rfl rfl rfl (Nat.le_of_ble_eq_true rfl) (Nat.lt_succ_self _) ?_
            refine s_sampleM I.S M ht ?_
            refine ⟨_, rfl, ?_⟩
            refine Go_ireturn (ty := .int) dX12_at_33 rfl rfl ?_
            exact k
        · exact absurd c5 (by decide)
    · refine PairI.ro' (fun _ => (if b.toInt = 1000 then nI n else if b.toInt = 1001 then vi h q 5 else if b.toInt = 1002 then vi h q 6 else if b.toInt = 1003 then nI (cnt (clcF h q) n) else if b.toInt = 1004 then nI (cnt (micF h q) n) else if b.toInt = 1005 then vi h q 11 else -1000000000)) h I (fun K k => ?_) (fun K k => ?_)
      · show Go G 60 0 0 M_X11_at 0 [.ref 64, .int (nI j), .int b, un] [] h K
        refine Go_aload_n (pc' := 1) dX11_at_0 rfl rfl rfl ?_
        refine Go_iload_n (pc' := 2) dX11_at_1 rfl rfl rfl ?_
        refine Go_callV_r (pc' := 5) (As := [.int _]) (st := []) dX11_at_2 rfl ok_X11_cellarOf km_RX11_90 (I.S.o 64 rfl rfl rfl) (I.S.b 64 rfl rfl) ⟨_, _, rfl⟩ rfl (Nat.le_of_ble_eq_true rfl) rfl rfl rfl (Nat.le_of_ble_eq_true rfl) (Nat.lt_succ_self _) ?_
        refine s_cellarOf1 I hj hq ?_
        refine ⟨some _, rfl, ?_⟩
        refine Go_astore_n (pc' := 6) (lv' := [.ref _, .int _, .int _, .ref _]) dX11_at_5 rfl rfl (Nat.le_of_ble_eq_true rfl) rfl rfl ?_
        refine Go_aload_n (pc' := 7) dX11_at_6 rfl rfl rfl ?_
        refine Go_ifnonnull (tgt := 13) dX11_at_7 (by decide) ?_
        refine Go_iload_n (pc' := 14) dX11_at_13 rfl rfl rfl ?_
        rcases (show b.toInt = 1000 ∨ b.toInt = 1001 ∨ b.toInt = 1002 ∨ b.toInt = 1003 ∨ b.toInt = 1004 ∨ b.toInt = 1005 ∨ (b.toInt < 1000 ∨ 1005 < b.toInt) by omega) with e14 | e14 | e14 | e14 | e14 | e14 | e14
        · refine Go_tableIn (off := 38) (tgt := 52) dX11_at_14 (by omega) (by omega) (by rw [e14]; rfl) (by decide) ?_
          refine Go_aload_n (pc' := 53) dX11_at_52 rfl rfl rfl ?_
          refine Go_getIv (v := (nI n)) (pc' := 56) dX11_at_53 rfl kf_RX11_107 (by decide) (by decide) rfl CS'.b CS'.o (en) ?_
          refine Go_ireturn (ty := .int) dX11_at_56 rfl rfl ?_
          simpa [e14] using k
        · refine Go_tableIn (off := 43) (tgt := 57) dX11_at_14 (by omega) (by omega) (by rw [e14]; rfl) (by decide) ?_
          refine Go_aload_n (pc' := 58) dX11_at_57 rfl rfl rfl ?_
          refine Go_getIv (v := (vi h q 5)) (pc' := 61) dX11_at_58 rfl kf_RX11_122 (by decide) (by decide) rfl CS'.b CS'.o rfl ?_
          refine Go_ireturn (ty := .int) dX11_at_61 rfl rfl ?_
          simpa [e14] using k
        · refine Go_tableIn (off := 48) (tgt := 62) dX11_at_14 (by omega) (by omega) (by rw [e14]; rfl) (by decide) ?_
          refine Go_aload_n (pc' := 63) dX11_at_62 rfl rfl rfl ?_
          refine Go_getIv (v := (vi h q 6)) (pc' := 66) dX11_at_63 rfl kf_RX11_125 (by decide) (by decide) rfl CS'.b CS'.o rfl ?_
          refine Go_ireturn (ty := .int) dX11_at_66 rfl rfl ?_
          simpa [e14] using k
        · refine Go_tableIn (off := 53) (tgt := 67) dX11_at_14 (by omega) (by omega) (by rw [e14]; rfl) (by decide) ?_
          refine Go_aload_n (pc' := 68) dX11_at_67 rfl rfl rfl ?_
          refine Go_callV_i (pc' := 71) (As := []) (st := []) dX11_at_68 rfl ok_X2_clippedCount km_RX11_128 CS'.o CS'.b ⟨_, _, rfl⟩ rfl (Nat.le_of_ble_eq_true rfl) rfl rfl rfl (Nat.le_of_ble_eq_true rfl) (Nat.lt_succ_self _) ?_
          refine s_clc M ?_
          refine ⟨_, rfl, ?_⟩
          refine Go_ireturn (ty := .int) dX11_at_71 rfl rfl ?_
          simpa [e14] using k
        · refine Go_tableIn (off := 58) (tgt := 72) dX11_at_14 (by omega) (by omega) (by rw [e14]; rfl) (by decide) ?_
          refine Go_aload_n (pc' := 73) dX11_at_72 rfl rfl rfl ?_
          refine Go_callV_i (pc' := 76) (As := []) (st := []) dX11_at_73 rfl ok_X2_missingCount km_RX11_131 CS'.o CS'.b ⟨_, _, rfl⟩ rfl (Nat.le_of_ble_eq_true rfl) rfl rfl rfl (Nat.le_of_ble_eq_true rfl) (Nat.lt_succ_self _) ?_
          refine s_mic M ?_
          refine ⟨_, rfl, ?_⟩
          refine Go_ireturn (ty := .int) dX11_at_76 rfl rfl ?_
          simpa [e14] using k
        · refine Go_tableIn (off := 63) (tgt := 77) dX11_at_14 (by omega) (by omega) (by rw [e14]; rfl) (by decide) ?_
          refine Go_aload_n (pc' := 78) dX11_at_77 rfl rfl rfl ?_
          refine Go_getIv (v := (vi h q 11)) (pc' := 81) dX11_at_78 rfl kf_RX11_134 (by decide) (by decide) rfl CS'.b CS'.o rfl ?_
          refine Go_ireturn (ty := .int) dX11_at_81 rfl rfl ?_
          simpa [e14] using k
        · refine Go_tableOut (tgt := 82) dX11_at_14 (by omega) (by decide) ?_
          refine Go_aload_n (pc' := 83) dX11_at_82 rfl rfl rfl ?_
          refine Go_iload_n (pc' := 84) dX11_at_83 rfl rfl rfl ?_
          refine Go_callV_i (pc' := 87) (As := [.int _]) (st := []) dX11_at_84 rfl ok_X2_sampleAt km_RX11_137 CS'.o CS'.b ⟨_, _, rfl⟩ rfl (Nat.le_of_ble_eq_true rfl) rfl rfl rfl (Nat.le_of_ble_eq_true rfl) (Nat.lt_succ_self _) ?_
          refine s_sampleAtN M hb ?_
          refine ⟨_, rfl, ?_⟩
          refine Go_ireturn (ty := .int) dX11_at_87 rfl rfl ?_
          have z0 : ¬ b.toInt = 1000 := by omega
          have z1 : ¬ b.toInt = 1001 := by omega
          have z2 : ¬ b.toInt = 1002 := by omega
          have z3 : ¬ b.toInt = 1003 := by omega
          have z4 : ¬ b.toInt = 1004 := by omega
          have z5 : ¬ b.toInt = 1005 := by omega
          simpa [z0, z1, z2, z3, z4, z5] using k
      · show Go G 60 0 0 M_X12_at 0 [.ref 99, .int (nI j), .int b, un, un, un] [] h K
        refine Go_aload_n (pc' := 1) dX12_at_0 rfl rfl rfl ?_
        refine Go_iload_n (pc' := 2) dX12_at_1 rfl rfl rfl ?_
        refine Go_callV_i (pc' := 5) (As := [.int _]) (st := []) dX12_at_2 rfl ok_X12_isCellar km_RX12_158 (I.S.o 99 rfl rfl rfl) (I.S.b 99 rfl rfl) ⟨_, _, rfl⟩ rfl (Nat.le_of_ble_eq_true rfl) rfl rfl rfl (Nat.le_of_ble_eq_true rfl) (Nat.lt_succ_self _) ?_
        refine s_isCellar1 (n := vi h 64 2) I.S (I.C.1.1) hj hj6 I.C.1.2.2 ?_
        refine ⟨_, rfl, ?_⟩
        refine Go_if_neZ (X := (1)) (tgt := 11) (pc' := 8) dX12_at_5 (by decide) rfl rfl (fun c5 => ?_) (fun c5 => ?_)
        · refine Go_iload_n (pc' := 12) dX12_at_11 rfl rfl rfl ?_
          refine Go_iconst (v := 0) (pc' := 13) dX12_at_12 rfl (by decide) ?_
          refine Go_aload_n (pc' := 14) dX12_at_13 rfl rfl rfl ?_
          refine Go_getRs (pc' := 17) dX12_at_14 rfl kf_RX12_31 (by decide) (by decide) rfl (I.S.b 99 rfl rfl) (I.S.o 99 rfl rfl rfl) (I.S.r 99 8 rfl rfl rfl) ?_
          refine Go_iload_n (pc' := 18) dX12_at_17 rfl rfl rfl ?_
          refine Go_iaload (n := 6) (v := (nI n)) (pc' := 19) dX12_at_18 rfl (I.S.b 107 rfl rfl) (I.S.k 107 rfl rfl rfl) (by exact inR_nI (by omega) (by decide)) ((congrArg (vi _ _) (nI_clamp (show j < 2 ^ 31 by omega))).trans (en2)) ?_
          refine Go_iconst (v := 1) (pc' := 20) dX12_at_19 rfl (by decide) ?_
          refine Go_isub (pc' := 21) dX12_at_20 rfl ?_
          refine Go_callS_i (pc' := 24) (As := [.int _, .int _, .int _]) (st := []) dX12_at_21 rfl ok_X12_isIn km_RX12_147 rfl (Nat.le_of_ble_eq_true rfl) rfl rfl rfl (Nat.le_of_ble_eq_true rfl) (Nat.lt_succ_self _) ?_
          refine s_isInZ (l := 0) (u := (n : Int) - 1) rfl en1 ?_
          refine ⟨_, rfl, ?_⟩
          refine Go_if_eqb (tgt := 34) (pc' := 27) dX12_at_24 (by decide) rfl (fun c24 => ?_) (fun c24 => ?_)
          · refine Go_iconst (v := 0) (pc' := 35) dX12_at_34 rfl (by decide) ?_
            refine Go_istore_n (pc' := 36) (lv' := [.ref _, .int _, .int _, .int _, un, un]) dX12_at_35 rfl rfl (Nat.le_of_ble_eq_true rfl) rfl rfl ?_
            refine Go_iconst (v := 0) (pc' := 37) dX12_at_36 rfl (by decide) ?_
            refine Go_istore (pc' := 39) (lv' := [.ref _, .int _, .int _, .int _, .int _, un]) dX12_at_37 rfl (Nat.le_of_ble_eq_true rfl) rfl rfl ?_
            refine Go_iconst (v := 0) (pc' := 40) dX12_at_39 rfl (by decide) ?_
            refine Go_istore (pc' := 42) (lv' := [.ref _, .int _, .int _, .int _, .int _, .int _]) dX12_at_40 rfl (Nat.le_of_ble_eq_true rfl) rfl rfl ?_
            refine atM_loop I.S M ?_ n 0 (Nat.zero_add _)
            refine Go_iload_n (pc' := 100) dX12_at_99 rfl rfl rfl ?_
            rcases (show b.toInt = 1000 ∨ b.toInt = 1001 ∨ b.toInt = 1002 ∨ b.toInt = 1003 ∨ b.toInt = 1004 ∨ b.toInt = 1005 ∨ (b.toInt < 1000 ∨ 1005 < b.toInt) by omega) with e100 | e100 | e100 | e100 | e100 | e100 | e100
            · refine Go_tableIn (off := 40) (tgt := 140) dX12_at_100 (by omega) (by omega) (by rw [e100]; rfl) (by decide) ?_
              refine Go_aload_n (pc' := 141) dX12_at_140 rfl rfl rfl ?_
              refine Go_getRs (pc' := 144) dX12_at_141 rfl kf_RX12_31 (by decide) (by decide) rfl (I.S.b 99 rfl rfl) (I.S.o 99 rfl rfl rfl) (I.S.r 99 8 rfl rfl rfl) ?_
              refine Go_iload_n (pc' := 145) dX12_at_144 rfl rfl rfl ?_
              refine Go_iaload (n := 6) (v := (nI n)) (pc' := 146) dX12_at_145 rfl (I.S.b 107 rfl rfl) (I.S.k 107 rfl rfl rfl) (by exact inR_nI (by omega) (by decide)) ((congrArg (vi _ _) (nI_clamp (show j < 2 ^ 31 by omega))).trans (en2)) ?_
              refine Go_ireturn (ty := .int) dX12_at_146 rfl rfl ?_
              simpa [e100] using k
            · refine Go_tableIn (off := 47) (tgt := 147) dX12_at_100 (by omega) (by omega) (by rw [e100]; rfl) (by decide) ?_
              refine Go_aload_n (pc' := 148) dX12_at_147 rfl rfl rfl ?_
              refine Go_getRs (pc' := 151) dX12_at_148 rfl kf_RX12_22 (by decide) (by decide) rfl (I.S.b 99 rfl rfl) (I.S.o 99 rfl rfl rfl) (I.S.r 99 5 rfl rfl rfl) ?_
              refine Go_iload_n (pc' := 152) dX12_at_151 rfl rfl rfl ?_
              refine Go_iaload (n := 6) (v := (vi h q 5)) (pc' := 153) dX12_at_152 rfl (I.S.b 104 rfl rfl) (I.S.k 104 rfl rfl rfl) (by exact inR_nI (by omega) (by decide)) ((congrArg (vi _ _) (nI_clamp (show j < 2 ^ 31 by omega))).trans (cC.1.symm)) ?_
              refine Go_ireturn (ty := .int) dX12_at_153 rfl rfl ?_
              simpa [e100] using k
            · refine Go_tableIn (off := 54) (tgt := 154) dX12_at_100 (by omega) (by omega) (by rw [e100]; rfl) (by decide) ?_
              refine Go_aload_n (pc' := 155) dX12_at_154 rfl rfl rfl ?_
              refine Go_getRs (pc' := 158) dX12_at_155 rfl kf_RX12_25 (by decide) (by decide) rfl (I.S.b 99 rfl rfl) (I.S.o 99 rfl rfl rfl) (I.S.r 99 6 rfl rfl rfl) ?_
              refine Go_iload_n (pc' := 159) dX12_at_158 rfl rfl rfl ?_
              refine Go_iaload (n := 6) (v := (vi h q 6)) (pc' := 160) dX12_at_159 rfl (I.S.b 105 rfl rfl) (I.S.k 105 rfl rfl rfl) (by exact inR_nI (by omega) (by decide)) ((congrArg (vi _ _) (nI_clamp (show j < 2 ^ 31 by omega))).trans (cC.2.symm)) ?_
              refine Go_ireturn (ty := .int) dX12_at_160 rfl rfl ?_
              simpa [e100] using k
            · refine Go_tableIn (off := 61) (tgt := 161) dX12_at_100 (by omega) (by omega) (by rw [e100]; rfl) (by decide) ?_
              refine Go_iload_n (pc' := 162) dX12_at_161 rfl rfl rfl ?_
              refine Go_ireturn (ty := .int) dX12_at_162 rfl rfl ?_
              simpa [e100] using k
            · refine Go_tableIn (off := 63) (tgt := 163) dX12_at_100 (by omega) (by omega) (by rw [e100]; rfl) (by decide) ?_
              refine Go_iload (pc' := 165) dX12_at_163 rfl rfl ?_
              refine Go_ireturn (ty := .int) dX12_at_165 rfl rfl ?_
              simpa [e100] using k
            · refine Go_tableIn (off := 66) (tgt := 166) dX12_at_100 (by omega) (by omega) (by rw [e100]; rfl) (by decide) ?_
              refine Go_aload_n (pc' := 167) dX12_at_166 rfl rfl rfl ?_
              refine Go_getRs (pc' := 170) dX12_at_167 rfl kf_RX12_40 (by decide) (by decide) rfl (I.S.b 99 rfl rfl) (I.S.o 99 rfl rfl rfl) (I.S.r 99 11 rfl rfl rfl) ?_
              refine Go_iload_n (pc' := 171) dX12_at_170 rfl rfl rfl ?_
              refine Go_iaload (n := 6) (v := (vi h q 11)) (pc' := 172) dX12_at_171 rfl (I.S.b 110 rfl rfl) (I.S.k 110 rfl rfl rfl) (by exact inR_nI (by omega) (by decide)) ((congrArg (vi _ _) (nI_clamp (show j < 2 ^ 31 by omega))).trans (cE.1.1.symm)) ?_
              refine Go_ireturn (ty := .int) dX12_at_172 rfl rfl ?_
              simpa [e100] using k
            · refine Go_tableOut (tgt := 173) dX12_at_100 (by omega) (by decide) ?_
              refine Go_ldc (pc' := 175) dX12_at_173 rfl kn_RX12_162 ?_
              refine Go_ireturn (ty := .int) dX12_at_175 rfl rfl ?_
              have z0 : ¬ b.toInt = 1000 := by omega
              have z1 : ¬ b.toInt = 1001 := by omega
              have z2 : ¬ b.toInt = 1002 := by omega
              have z3 : ¬ b.toInt = 1003 := by omega
              have z4 : ¬ b.toInt = 1004 := by omega
              have z5 : ¬ b.toInt = 1005 := by omega
              simpa [z0, z1, z2, z3, z4, z5] using k
          · exfalso; omega
        · exact absurd c5 (by decide)
/-- the first of n places where f holds, as both say it -/
def fstI (f : Nat → Bool) : Nat → Nat → Int32
  | 0, _ => -1
  | m + 1, i => if f i = true then nI i else fstI f m (i + 1)
theorem fst_t {f : Nat → Bool} {m i : Nat} (h : f i = true) : fstI f (m + 1) i = nI i := by show (if f i = true then nI i else _) = _; rw [if_pos h]
theorem fst_f {f : Nat → Bool} {m i : Nat} (h : ¬ f i = true) : fstI f (m + 1) i = fstI f m (i + 1) := by show (if f i = true then nI i else _) = _; rw [if_neg h]
def bydF (h : HS) (q : Nat) (t : Int) : Nat → Bool := fun i => decide (¬ (vi h (q + 1) i).toInt = -1000000000 ∧ (t < (vi h (q + 1) i).toInt ∨ t < -(vi h (q + 1) i).toInt))
set_option maxRecDepth 20000 in
set_option maxHeartbeats 1000000 in
theorem s_far {G : GC} {d mc ms : Nat} {h : HS} {K : Option Value → HS → Prop} {x : Int32} (hk : K (some (.int (iabs x))) h) : Go G d mc ms M_X12_far 0 [.int x] [] h K := by
  refine Go_iload_n (pc' := 1) dX12_far_0 rfl rfl rfl ?_
  refine Go_if_geZ (X := _) (tgt := 9) (pc' := 4) dX12_far_1 (by decide) rfl rfl (fun c1 => ?_) (fun c1 => ?_)
  · refine Go_iload_n (pc' := 10) dX12_far_9 rfl rfl rfl ?_
    refine Go_ireturn (ty := .int) dX12_far_10 rfl rfl ?_
    rw [show iabs x = x from if_neg (by rw [i_lt]; show ¬ _ < (0 : Int); omega)] at hk; exact hk
  · refine Go_iload_n (pc' := 5) dX12_far_4 rfl rfl rfl ?_
    refine Go_ineg (pc' := 6) dX12_far_5 rfl ?_
    refine Go_goto (tgt := 10) dX12_far_6 (by decide) ?_
    refine Go_ireturn (ty := .int) dX12_far_10 rfl rfl ?_
    rw [show iabs x = -x from if_pos (by rw [i_lt]; show _ < (0 : Int); omega)] at hk; exact hk
set_option maxRecDepth 20000 in
set_option maxHeartbeats 1000000 in
theorem fst_loop {G : GC} {d mc ms : Nat} {h : HS} {K : Option Value → HS → Prop} {j q n : Nat} {b : Int32} (S : Shp h) (M : Smp h j q n) : ∀ (m i : Nat), i + m = n → K (some (.int (fstI (bydF h q b.toInt) m i))) h → Go G (d + 2) mc ms M_X2_firstBeyond 2 [.ref q, .int b, .int (nI i)] [] h K := by
  obtain ⟨hj6', CS', hn200, en, en2, el, lim, sm⟩ := id M
  have hq0 := CS'.1
  unfold rg at lim
  intro m
  induction m with
  | zero =>
    intro i him hk
    refine Go_iload_n (pc' := 3) dX2_firstBeyond_2 rfl rfl rfl ?_
    refine Go_aload_n (pc' := 4) dX2_firstBeyond_3 rfl rfl rfl ?_
    refine Go_getIv (v := (nI n)) (pc' := 7) dX2_firstBeyond_4 rfl kf_RX2_58 (by decide) (by decide) rfl CS'.b CS'.o (en) ?_
    refine Go_icmp_geZ (X := ((i : Nat) : Int)) (Y := ((n : Nat) : Int)) (tgt := 38) (pc' := 10) dX2_firstBeyond_7 (by decide) rfl (i_nI (by omega)) (i_nI (by omega)) (fun c7 => ?_) (fun c7 => ?_)
    · refine Go_iconst (v := (-1)) (pc' := 39) dX2_firstBeyond_38 rfl (by decide) ?_
      refine Go_ireturn (ty := .int) dX2_firstBeyond_39 rfl rfl ?_
      exact hk
    · exfalso; omega
  | succ m ih =>
    intro i him hk
    have ab := iabs_t (x := vi h (q + 1) i) (by have := smp_rg (sm i (by omega)).2; omega)
    refine Go_iload_n (pc' := 3) dX2_firstBeyond_2 rfl rfl rfl ?_
    refine Go_aload_n (pc' := 4) dX2_firstBeyond_3 rfl rfl rfl ?_
    refine Go_getIv (v := (nI n)) (pc' := 7) dX2_firstBeyond_4 rfl kf_RX2_58 (by decide) (by decide) rfl CS'.b CS'.o (en) ?_
    refine Go_icmp_geZ (X := ((i : Nat) : Int)) (Y := ((n : Nat) : Int)) (tgt := 38) (pc' := 10) dX2_firstBeyond_7 (by decide) rfl (i_nI (by omega)) (i_nI (by omega)) (fun c7 => ?_) (fun c7 => ?_)
    · exfalso; omega
    · refine Go_aload_n (pc' := 11) dX2_firstBeyond_10 rfl rfl rfl ?_
      refine Go_iload_n (pc' := 12) dX2_firstBeyond_11 rfl rfl rfl ?_
      refine Go_callV_i (pc' := 15) (As := [.int _]) (st := []) dX2_firstBeyond_12 rfl ok_X2_isMissing km_RX2_76 CS'.o CS'.b ⟨_, _, rfl⟩ rfl (Nat.le_of_ble_eq_true rfl) rfl rfl rfl (Nat.le_of_ble_eq_true rfl) (Nat.lt_succ_self _) ?_
      refine s_isMissing (i := i) M (by omega) ?_
      refine ⟨_, rfl, ?_⟩
      refine Go_if_neb (tgt := 32) (pc' := 18) dX2_firstBeyond_15 (by decide) rfl (fun c15 => ?_) (fun c15 => ?_)
      · refine Go_iinc (pc' := 35) (lv' := [.ref _, .int _, .int _]) dX2_firstBeyond_32 rfl rfl (nI_add _ 1) (Nat.le_of_ble_eq_true rfl) rfl rfl ?_
        refine Go_goto (tgt := 2) dX2_firstBeyond_35 (by decide) ?_
        rw [fst_f (fun z => (of_decide_eq_true z).1 c15)] at hk
        exact ih (i + 1) (by omega) hk
      · refine Go_aload_n (pc' := 19) dX2_firstBeyond_18 rfl rfl rfl ?_
        refine Go_iload_n (pc' := 20) dX2_firstBeyond_19 rfl rfl rfl ?_
        refine Go_callV_i (pc' := 23) (As := [.int _]) (st := []) dX2_firstBeyond_20 rfl ok_X2_sampleAt km_RX2_64 CS'.o CS'.b ⟨_, _, rfl⟩ rfl (Nat.le_of_ble_eq_true rfl) rfl rfl rfl (Nat.le_of_ble_eq_true rfl) (Nat.lt_succ_self _) ?_
        refine s_sampleAt (i := i) M (by omega) ?_
        refine ⟨_, rfl, ?_⟩
        refine Go_callS_i (pc' := 26) (As := [.int _]) (st := []) dX2_firstBeyond_23 rfl ok_J9_abs_0f7a4 km_RX2_69 rfl (Nat.le_of_ble_eq_true rfl) rfl rfl rfl (Nat.le_of_ble_eq_true rfl) (Nat.lt_succ_self _) ?_
        refine s_abs ?_
        refine ⟨_, rfl, ?_⟩
        refine Go_iload_n (pc' := 27) dX2_firstBeyond_26 rfl rfl rfl ?_
        refine Go_icmp_leZ (X := _) (Y := _) (tgt := 32) (pc' := 30) dX2_firstBeyond_27 (by decide) rfl rfl rfl (fun c27 => ?_) (fun c27 => ?_)
        · refine Go_iinc (pc' := 35) (lv' := [.ref _, .int _, .int _]) dX2_firstBeyond_32 rfl rfl (nI_add _ 1) (Nat.le_of_ble_eq_true rfl) rfl rfl ?_
          refine Go_goto (tgt := 2) dX2_firstBeyond_35 (by decide) ?_
          rw [fst_f (fun z => by have z1 := (of_decide_eq_true z).2; split at ab <;> omega)] at hk
          exact ih (i + 1) (by omega) hk
        · refine Go_iload_n (pc' := 31) dX2_firstBeyond_30 rfl rfl rfl ?_
          refine Go_ireturn (ty := .int) dX2_firstBeyond_31 rfl rfl ?_
          rw [fst_t (f := (bydF h q b.toInt)) (decide_eq_true ⟨c15, by split at ab <;> omega⟩)] at hk
          exact hk
set_option maxRecDepth 20000 in
set_option maxHeartbeats 1000000 in
theorem fstM_loop {G : GC} {d mc ms : Nat} {h : HS} {K : Option Value → HS → Prop} {j q n : Nat} {b : Int32} (S : Shp h) (M : Smp h j q n) : ∀ (m i : Nat), i + m = n → K (some (.int (fstI (bydF h q b.toInt) m i))) h → Go G (d + 2) mc ms M_X12_first 23 [.ref 99, .int (nI j), .int b, .int (nI i)] [] h K := by
  obtain ⟨hj6', CS', hn200, en, en2, el, lim, sm⟩ := id M
  have hq0 := CS'.1
  unfold rg at lim
  intro m
  induction m with
  | zero =>
    intro i him hk
    refine Go_iload_n (pc' := 24) dX12_first_23 rfl rfl rfl ?_
    refine Go_aload_n (pc' := 25) dX12_first_24 rfl rfl rfl ?_
    refine Go_getRs (pc' := 28) dX12_first_25 rfl kf_RX12_31 (by decide) (by decide) rfl (S.b 99 rfl rfl) (S.o 99 rfl rfl rfl) (S.r 99 8 rfl rfl rfl) ?_
    refine Go_iload_n (pc' := 29) dX12_first_28 rfl rfl rfl ?_
    refine Go_iaload (n := 6) (v := (nI n)) (pc' := 30) dX12_first_29 rfl (S.b 107 rfl rfl) (S.k 107 rfl rfl rfl) (by exact inR_nI (by omega) (by decide)) ((congrArg (vi _ _) (nI_clamp (show j < 2 ^ 31 by omega))).trans (en2)) ?_
    refine Go_icmp_geZ (X := ((i : Nat) : Int)) (Y := ((n : Nat) : Int)) (tgt := 65) (pc' := 33) dX12_first_30 (by decide) rfl (i_nI (by omega)) (i_nI (by omega)) (fun c30 => ?_) (fun c30 => ?_)
    · refine Go_iconst (v := (-1)) (pc' := 66) dX12_first_65 rfl (by decide) ?_
      refine Go_ireturn (ty := .int) dX12_first_66 rfl rfl ?_
      exact hk
    · exfalso; omega
  | succ m ih =>
    intro i him hk
    have ab := iabs_t (x := vi h (q + 1) i) (by have := smp_rg (sm i (by omega)).2; omega)
    refine Go_iload_n (pc' := 24) dX12_first_23 rfl rfl rfl ?_
    refine Go_aload_n (pc' := 25) dX12_first_24 rfl rfl rfl ?_
    refine Go_getRs (pc' := 28) dX12_first_25 rfl kf_RX12_31 (by decide) (by decide) rfl (S.b 99 rfl rfl) (S.o 99 rfl rfl rfl) (S.r 99 8 rfl rfl rfl) ?_
    refine Go_iload_n (pc' := 29) dX12_first_28 rfl rfl rfl ?_
    refine Go_iaload (n := 6) (v := (nI n)) (pc' := 30) dX12_first_29 rfl (S.b 107 rfl rfl) (S.k 107 rfl rfl rfl) (by exact inR_nI (by omega) (by decide)) ((congrArg (vi _ _) (nI_clamp (show j < 2 ^ 31 by omega))).trans (en2)) ?_
    refine Go_icmp_geZ (X := ((i : Nat) : Int)) (Y := ((n : Nat) : Int)) (tgt := 65) (pc' := 33) dX12_first_30 (by decide) rfl (i_nI (by omega)) (i_nI (by omega)) (fun c30 => ?_) (fun c30 => ?_)
    · exfalso; omega
    · refine Go_aload_n (pc' := 34) dX12_first_33 rfl rfl rfl ?_
      refine Go_iload_n (pc' := 35) dX12_first_34 rfl rfl rfl ?_
      refine Go_iload_n (pc' := 36) dX12_first_35 rfl rfl rfl ?_
      refine Go_callV_i (pc' := 39) (As := [.int _, .int _]) (st := []) dX12_first_36 rfl ok_X12_sample km_RX12_163 (S.o 99 rfl rfl rfl) (S.b 99 rfl rfl) ⟨_, _, rfl⟩ rfl (Nat.le_of_ble_eq_true rfl) rfl rfl rfl (Nat.le_of_ble_eq_true rfl) (Nat.lt_succ_self _) ?_
      refine s_sampleM (i := i) S M (by omega) ?_
      refine ⟨_, rfl, ?_⟩
      refine Go_ldc (pc' := 41) dX12_first_39 rfl kn_RX12_162 ?_
      refine Go_icmp_eqZ (X := _) (Y := (-1000000000)) (tgt := 59) (pc' := 44) dX12_first_41 (by decide) rfl rfl rfl (fun c41 => ?_) (fun c41 => ?_)
      · refine Go_iinc (pc' := 62) (lv' := [.ref _, .int _, .int _, .int _]) dX12_first_59 rfl rfl (nI_add _ 1) (Nat.le_of_ble_eq_true rfl) rfl rfl ?_
        refine Go_goto (tgt := 23) dX12_first_62 (by decide) ?_
        rw [fst_f (fun z => (of_decide_eq_true z).1 c41)] at hk
        exact ih (i + 1) (by omega) hk
      · refine Go_aload_n (pc' := 45) dX12_first_44 rfl rfl rfl ?_
        refine Go_iload_n (pc' := 46) dX12_first_45 rfl rfl rfl ?_
        refine Go_iload_n (pc' := 47) dX12_first_46 rfl rfl rfl ?_
        refine Go_callV_i (pc' := 50) (As := [.int _, .int _]) (st := []) dX12_first_47 rfl ok_X12_sample km_RX12_163 (S.o 99 rfl rfl rfl) (S.b 99 rfl rfl) ⟨_, _, rfl⟩ rfl (Nat.le_of_ble_eq_true rfl) rfl rfl rfl (Nat.le_of_ble_eq_true rfl) (Nat.lt_succ_self _) ?_
        refine s_sampleM (i := i) S M (by omega) ?_
        refine ⟨_, rfl, ?_⟩
        refine Go_callS_i (pc' := 53) (As := [.int _]) (st := []) dX12_first_50 rfl ok_X12_far km_RX12_192 rfl (Nat.le_of_ble_eq_true rfl) rfl rfl rfl (Nat.le_of_ble_eq_true rfl) (Nat.lt_succ_self _) ?_
        refine s_far ?_
        refine ⟨_, rfl, ?_⟩
        refine Go_iload_n (pc' := 54) dX12_first_53 rfl rfl rfl ?_
        refine Go_icmp_leZ (X := _) (Y := _) (tgt := 59) (pc' := 57) dX12_first_54 (by decide) rfl rfl rfl (fun c54 => ?_) (fun c54 => ?_)
        · refine Go_iinc (pc' := 62) (lv' := [.ref _, .int _, .int _, .int _]) dX12_first_59 rfl rfl (nI_add _ 1) (Nat.le_of_ble_eq_true rfl) rfl rfl ?_
          refine Go_goto (tgt := 23) dX12_first_62 (by decide) ?_
          rw [fst_f (fun z => by have z1 := (of_decide_eq_true z).2; split at ab <;> omega)] at hk
          exact ih (i + 1) (by omega) hk
        · refine Go_iload_n (pc' := 58) dX12_first_57 rfl rfl rfl ?_
          refine Go_ireturn (ty := .int) dX12_first_58 rfl rfl ?_
          rw [fst_t (f := (bydF h q b.toInt)) (decide_eq_true ⟨c41, by split at ab <;> omega⟩)] at hk
          exact hk
set_option maxRecDepth 20000 in
set_option maxHeartbeats 1000000 in
theorem s_fst {G : GC} {d mc ms : Nat} {h : HS} {K : Option Value → HS → Prop} {j q n : Nat} {b : Int32} (S : Shp h) (M : Smp h j q n) (hk : K (some (.int (fstI (bydF h q b.toInt) n 0))) h) : Go G (d + 2) mc ms M_X2_firstBeyond 0 [.ref q, .int b, un] [] h K := by
  refine Go_iconst (v := 0) (pc' := 1) dX2_firstBeyond_0 rfl (by decide) ?_
  refine Go_istore_n (pc' := 2) (lv' := [.ref _, .int _, .int _]) dX2_firstBeyond_1 rfl rfl (Nat.le_of_ble_eq_true rfl) rfl rfl ?_
  exact fst_loop S M n 0 (Nat.zero_add _) hk
set_option maxRecDepth 20000 in
set_option maxHeartbeats 1000000 in
theorem pair11 {G : GC} (a b : Int32) : PairI G M_X11_first M_X12_first [.int a, .int b] := by
  intro h I
  rcases cel_cases I a with hn | ⟨j, q, rfl, hj6, hj, hq, CS, CV⟩
  · refine PairI.ro' (fun _ => -1) h I (fun K k => ?_) (fun K k => ?_)
    · show Go G 60 0 0 M_X11_first 0 [.ref 64, .int a, .int b, un] [] h K
      refine Go_aload_n (pc' := 1) dX11_first_0 rfl rfl rfl ?_
      refine Go_iload_n (pc' := 2) dX11_first_1 rfl rfl rfl ?_
      refine Go_callV_r (pc' := 5) (As := [.int _]) (st := []) dX11_first_2 rfl ok_X11_cellarOf km_RX11_90 (I.S.o 64 rfl rfl rfl) (I.S.b 64 rfl rfl) ⟨_, _, rfl⟩ rfl (Nat.le_of_ble_eq_true rfl) rfl rfl rfl (Nat.le_of_ble_eq_true rfl) (Nat.lt_succ_self _) ?_
      refine s_cellarOf0 I hn ?_
      refine ⟨none, rfl, ?_⟩
      refine Go_astore_nN (pc' := 6) (lv' := [.ref _, .int _, .int _, .null]) dX11_first_5 rfl rfl (Nat.le_of_ble_eq_true rfl) rfl rfl ?_
      refine Go_aload_nN (pc' := 7) dX11_first_6 rfl rfl rfl ?_
      refine Go_ifnullN (tgt := 21) dX11_first_7 (by decide) ?_
      refine Go_iconst (v := (-1)) (pc' := 22) dX11_first_21 rfl (by decide) ?_
      refine Go_goto (tgt := 30) dX11_first_22 (by decide) ?_
      refine Go_ireturn (ty := .int) dX11_first_30 rfl rfl ?_
      exact k
    · show Go G 60 0 0 M_X12_first 0 [.ref 99, .int a, .int b, un] [] h K
      refine Go_aload_n (pc' := 1) dX12_first_0 rfl rfl rfl ?_
      refine Go_iload_n (pc' := 2) dX12_first_1 rfl rfl rfl ?_
      refine Go_callV_i (pc' := 5) (As := [.int _]) (st := []) dX12_first_2 rfl ok_X12_isCellar km_RX12_158 (I.S.o 99 rfl rfl rfl) (I.S.b 99 rfl rfl) ⟨_, _, rfl⟩ rfl (Nat.le_of_ble_eq_true rfl) rfl rfl rfl (Nat.le_of_ble_eq_true rfl) (Nat.lt_succ_self _) ?_
      refine s_isCellar0 I.S I.C.1.1 I.C.1.2 hn ?_
      refine ⟨_, rfl, ?_⟩
      refine Go_if_eqZ (X := (0)) (tgt := 19) (pc' := 8) dX12_first_5 (by decide) rfl rfl (fun c5 => ?_) (fun c5 => ?_)
      · refine Go_iconst (v := (-1)) (pc' := 20) dX12_first_19 rfl (by decide) ?_
        refine Go_ireturn (ty := .int) dX12_first_20 rfl rfl ?_
        exact k
      · exact absurd c5 (by decide)
  · obtain ⟨n, M⟩ := smp_of hj6 CS CV
    refine PairI.ro' (fun _ => if 0 ≤ b.toInt ∧ b.toInt ≤ 999 then fstI (bydF h q b.toInt) n 0 else -1) h I (fun K k => ?_) (fun K k => ?_)
    · show Go G 60 0 0 M_X11_first 0 [.ref 64, .int (nI j), .int b, un] [] h K
      refine Go_aload_n (pc' := 1) dX11_first_0 rfl rfl rfl ?_
      refine Go_iload_n (pc' := 2) dX11_first_1 rfl rfl rfl ?_
      refine Go_callV_r (pc' := 5) (As := [.int _]) (st := []) dX11_first_2 rfl ok_X11_cellarOf km_RX11_90 (I.S.o 64 rfl rfl rfl) (I.S.b 64 rfl rfl) ⟨_, _, rfl⟩ rfl (Nat.le_of_ble_eq_true rfl) rfl rfl rfl (Nat.le_of_ble_eq_true rfl) (Nat.lt_succ_self _) ?_
      refine s_cellarOf1 I hj hq ?_
      refine ⟨some _, rfl, ?_⟩
      refine Go_astore_n (pc' := 6) (lv' := [.ref _, .int _, .int _, .ref _]) dX11_first_5 rfl rfl (Nat.le_of_ble_eq_true rfl) rfl rfl ?_
      refine Go_aload_n (pc' := 7) dX11_first_6 rfl rfl rfl ?_
      refine Go_ifnull (pc' := 10) dX11_first_7 rfl ?_
      refine Go_iload_n (pc' := 11) dX11_first_10 rfl rfl rfl ?_
      refine Go_iconst (v := 0) (pc' := 12) dX11_first_11 rfl (by decide) ?_
      refine Go_sipush (v := 999) (pc' := 15) dX11_first_12 rfl (by decide) ?_
      refine Go_callS_i (pc' := 18) (As := [.int _, .int _, .int _]) (st := []) dX11_first_15 rfl ok_X11_within km_RX11_94 rfl (Nat.le_of_ble_eq_true rfl) rfl rfl rfl (Nat.le_of_ble_eq_true rfl) (Nat.lt_succ_self _) ?_
      refine s_withinZ (l := (0)) (u := (999)) rfl rfl ?_
      refine ⟨_, rfl, ?_⟩
      refine Go_if_neb (tgt := 25) (pc' := 21) dX11_first_18 (by decide) rfl (fun c18 => ?_) (fun c18 => ?_)
      · refine Go_aload_n (pc' := 26) dX11_first_25 rfl rfl rfl ?_
        refine Go_iload_n (pc' := 27) dX11_first_26 rfl rfl rfl ?_
        refine Go_callV_i (pc' := 30) (As := [.int _]) (st := []) dX11_first_27 rfl ok_X2_firstBeyond km_RX11_183 CS.o CS.b ⟨_, _, rfl⟩ rfl (Nat.le_of_ble_eq_true rfl) rfl rfl rfl (Nat.le_of_ble_eq_true rfl) (Nat.lt_succ_self _) ?_
        refine s_fst I.S M ?_
        refine ⟨_, rfl, ?_⟩
        refine Go_ireturn (ty := .int) dX11_first_30 rfl rfl ?_
        rw [if_pos (by omega)] at k; exact k
      · refine Go_iconst (v := (-1)) (pc' := 22) dX11_first_21 rfl (by decide) ?_
        refine Go_goto (tgt := 30) dX11_first_22 (by decide) ?_
        refine Go_ireturn (ty := .int) dX11_first_30 rfl rfl ?_
        rw [if_neg (by omega)] at k; exact k
    · show Go G 60 0 0 M_X12_first 0 [.ref 99, .int (nI j), .int b, un] [] h K
      refine Go_aload_n (pc' := 1) dX12_first_0 rfl rfl rfl ?_
      refine Go_iload_n (pc' := 2) dX12_first_1 rfl rfl rfl ?_
      refine Go_callV_i (pc' := 5) (As := [.int _]) (st := []) dX12_first_2 rfl ok_X12_isCellar km_RX12_158 (I.S.o 99 rfl rfl rfl) (I.S.b 99 rfl rfl) ⟨_, _, rfl⟩ rfl (Nat.le_of_ble_eq_true rfl) rfl rfl rfl (Nat.le_of_ble_eq_true rfl) (Nat.lt_succ_self _) ?_
      refine s_isCellar1 (n := vi h 64 2) I.S (I.C.1.1) hj hj6 I.C.1.2.2 ?_
      refine ⟨_, rfl, ?_⟩
      refine Go_if_eqZ (X := (1)) (tgt := 19) (pc' := 8) dX12_first_5 (by decide) rfl rfl (fun c5 => ?_) (fun c5 => ?_)
      · exact absurd c5 (by decide)
      · refine Go_iload_n (pc' := 9) dX12_first_8 rfl rfl rfl ?_
        refine Go_iconst (v := 0) (pc' := 10) dX12_first_9 rfl (by decide) ?_
        refine Go_sipush (v := 999) (pc' := 13) dX12_first_10 rfl (by decide) ?_
        refine Go_callS_i (pc' := 16) (As := [.int _, .int _, .int _]) (st := []) dX12_first_13 rfl ok_X12_isIn km_RX12_147 rfl (Nat.le_of_ble_eq_true rfl) rfl rfl rfl (Nat.le_of_ble_eq_true rfl) (Nat.lt_succ_self _) ?_
        refine s_isInZ (l := (0)) (u := (999)) rfl rfl ?_
        refine ⟨_, rfl, ?_⟩
        refine Go_if_neb (tgt := 21) (pc' := 19) dX12_first_16 (by decide) rfl (fun c16 => ?_) (fun c16 => ?_)
        · refine Go_iconst (v := 0) (pc' := 22) dX12_first_21 rfl (by decide) ?_
          refine Go_istore_n (pc' := 23) (lv' := [.ref _, .int _, .int _, .int _]) dX12_first_22 rfl rfl (Nat.le_of_ble_eq_true rfl) rfl rfl ?_
          rw [if_pos (by omega)] at k
          exact fstM_loop I.S M n 0 (Nat.zero_add _) k
        · refine Go_iconst (v := (-1)) (pc' := 20) dX12_first_19 rfl (by decide) ?_
          refine Go_ireturn (ty := .int) dX12_first_20 rfl rfl ?_
          rw [if_neg (by omega)] at k; exact k
