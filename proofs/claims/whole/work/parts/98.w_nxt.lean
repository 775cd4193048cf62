/-! the model takes the next token -/
set_option maxRecDepth 20000 in
set_option maxHeartbeats 4000000 in
theorem s_nxt {G : GC} {d mc ms : Nat} {H : HS} {K : Option Value → HS → Prop} {T : Nat → Int} {n : Nat} {pos : Nat} (F : TM H T n) (e29 : vi H 99 29 = iZ (pos : Int)) (hp : pos ≤ n) (hk : ∀ H', DX Pm H H' → vi H' 99 29 = iZ (tE T n pos : Nat) → vi H' 99 30 = iZ (mtk (tC T n pos)) → vi H' 99 31 = iZ (tP T n pos : Nat) → (tC T n pos = 20 → vi H' 99 32 = iZ (tV T n pos)) → K none H') : Go G (d + 6) mc ms M_X12_next0 0 [.ref 99, un, un] [] H K := by
  obtain ⟨S, hn, en, ht⟩ := id F
  have hpr := tP_r (T := T) hp
  have her := tE_r (T := T) hp
  rw [← wI_se (h := H) (i := 99) (k := 29) (a := iZ (pos : Int)) e29]
  refine nb_loop F (n - pos) pos (by omega) ?_
  rw [show skp blB T (n - pos) pos = tP T n pos from rfl]
  by_cases c0 : n ≤ tP T n pos
  · have hs := sT_f (T := T) (n := n) (p := tP T n pos) (by omega)
    have hE := tE_fin c0
    have hC := tC_fin c0
    have hM : mtk (tC T n pos) = 0 := by rw [hC]; rfl
    refine Go_aload_n (pc' := 40) dX12_next0_39 rfl rfl rfl ?_
    refine Go_aload_n (pc' := 41) dX12_next0_40 rfl rfl rfl ?_
    refine Go_getIv (v := (iZ (tP T n pos : Int))) (pc' := 44) dX12_next0_41 rfl kf_RX12_206 (by decide) (by decide) rfl (S.b 99 rfl rfl) (S.o 99 rfl rfl rfl) (vi_same) ?_
    refine Go_putI (pc' := 47) dX12_next0_44 rfl kf_RX12_209 (by decide) (by decide) rfl (S.b 99 rfl rfl) (S.o 99 rfl rfl rfl) (Or.inl rfl) rfl rfl ?_
    refine Go_aload_n (pc' := 48) dX12_next0_47 rfl rfl rfl ?_
    refine Go_aload_n (pc' := 49) dX12_next0_48 rfl rfl rfl ?_
    refine Go_getIv (v := (iZ (tP T n pos : Int))) (pc' := 52) dX12_next0_49 rfl kf_RX12_206 (by decide) (by decide) rfl (S.b 99 rfl rfl) (S.o 99 rfl rfl rfl) ((vi_skip (Or.inr (by decide))).trans (vi_same)) ?_
    refine Go_callV_i (pc' := 55) (As := [.int _]) (st := []) dX12_next0_52 rfl ok_X12_see km_RX12_252 (S.o 99 rfl rfl rfl) (S.b 99 rfl rfl) ⟨_, _, rfl⟩ rfl (Nat.le_of_ble_eq_true rfl) rfl rfl rfl (Nat.le_of_ble_eq_true rfl) (Nat.lt_succ_self _) ?_
    refine s_see (p := (tP T n pos)) (TM.w (TM.w F (by decide)) (by decide)) (by omega) ?_
    refine ⟨_, rfl, ?_⟩
    refine Go_istore_n (pc' := 56) (lv' := [.ref _, .int _, un]) dX12_next0_55 rfl rfl (Nat.le_of_ble_eq_true rfl) rfl rfl ?_
    refine Go_iload_n (pc' := 57) dX12_next0_56 rfl rfl rfl ?_
    refine Go_iconst (v := iZ (-1)) (pc' := 58) dX12_next0_57 rfl (by decide) ?_
    refine Go_icmp_neY (tgt := 69) (pc' := 61) dX12_next0_58 (by decide) rfl (by first | exact ⟨i_lo _, i_hi _⟩ | omega) (by first | exact ⟨i_lo _, i_hi _⟩ | omega) (fun c58 => ?_) (fun c58 => ?_)
    · exfalso; omega
    · refine Go_aload_n (pc' := 62) dX12_next0_61 rfl rfl rfl ?_
      refine Go_iconst (v := iZ 0) (pc' := 63) dX12_next0_62 rfl (by decide) ?_
      refine Go_putI (pc' := 66) dX12_next0_63 rfl kf_RX12_255 (by decide) (by decide) rfl (S.b 99 rfl rfl) (S.o 99 rfl rfl rfl) (Or.inl rfl) rfl rfl ?_
      refine Go_goto (tgt := 306) dX12_next0_66 (by decide) ?_
      refine Go_return dX12_next0_306 rfl ?_
      refine hk _ ((((DX.rf _ _).wI (by unfold Pm; omega)).wI (by unfold Pm; omega)).wI (by unfold Pm; omega)) (((vi_skip (Or.inr (by decide))).trans ((vi_skip (Or.inr (by decide))).trans (vi_same))).trans (congrArg iZ (by omega))) ((vi_same).trans (congrArg iZ (by omega))) ((vi_skip (Or.inr (by decide))).trans (vi_same)) (fun z => by exfalso; omega)
  · have tp := (ht (tP T n pos) (by omega)).2
    have hs := sT_t (T := T) (n := n) (p := tP T n pos) (by omega)
    by_cases cl : leB (T (tP T n pos)) = true
    · have cl1 := cl
      unfold leB at cl1
      rw [decide_eq_true_iff] at cl1
      have hC := tC_let c0 cl
      have kr := kwf_r (T := T) (p := tP T n pos) (e := tE T n pos) 14 0
      refine Go_aload_n (pc' := 40) dX12_next0_39 rfl rfl rfl ?_
      refine Go_aload_n (pc' := 41) dX12_next0_40 rfl rfl rfl ?_
      refine Go_getIv (v := (iZ (tP T n pos : Int))) (pc' := 44) dX12_next0_41 rfl kf_RX12_206 (by decide) (by decide) rfl (S.b 99 rfl rfl) (S.o 99 rfl rfl rfl) (vi_same) ?_
      refine Go_putI (pc' := 47) dX12_next0_44 rfl kf_RX12_209 (by decide) (by decide) rfl (S.b 99 rfl rfl) (S.o 99 rfl rfl rfl) (Or.inl rfl) rfl rfl ?_
      refine Go_aload_n (pc' := 48) dX12_next0_47 rfl rfl rfl ?_
      refine Go_aload_n (pc' := 49) dX12_next0_48 rfl rfl rfl ?_
      refine Go_getIv (v := (iZ (tP T n pos : Int))) (pc' := 52) dX12_next0_49 rfl kf_RX12_206 (by decide) (by decide) rfl (S.b 99 rfl rfl) (S.o 99 rfl rfl rfl) ((vi_skip (Or.inr (by decide))).trans (vi_same)) ?_
      refine Go_callV_i (pc' := 55) (As := [.int _]) (st := []) dX12_next0_52 rfl ok_X12_see km_RX12_252 (S.o 99 rfl rfl rfl) (S.b 99 rfl rfl) ⟨_, _, rfl⟩ rfl (Nat.le_of_ble_eq_true rfl) rfl rfl rfl (Nat.le_of_ble_eq_true rfl) (Nat.lt_succ_self _) ?_
      refine s_see (p := (tP T n pos)) (TM.w (TM.w F (by decide)) (by decide)) (by omega) ?_
      refine ⟨_, rfl, ?_⟩
      refine Go_istore_n (pc' := 56) (lv' := [.ref _, .int _, un]) dX12_next0_55 rfl rfl (Nat.le_of_ble_eq_true rfl) rfl rfl ?_
      refine Go_iload_n (pc' := 57) dX12_next0_56 rfl rfl rfl ?_
      refine Go_iconst (v := iZ (-1)) (pc' := 58) dX12_next0_57 rfl (by decide) ?_
      refine Go_icmp_neY (tgt := 69) (pc' := 61) dX12_next0_58 (by decide) rfl (by first | exact ⟨i_lo _, i_hi _⟩ | omega) (by first | exact ⟨i_lo _, i_hi _⟩ | omega) (fun c58 => ?_) (fun c58 => ?_)
      · refine Go_iload_n (pc' := 70) dX12_next0_69 rfl rfl rfl ?_
        refine Go_callS_i (pc' := 73) (As := [.int _]) (st := []) dX12_next0_70 rfl ok_X12_isLetter km_RX12_258 rfl (Nat.le_of_ble_eq_true rfl) rfl rfl rfl (Nat.le_of_ble_eq_true rfl) (Nat.lt_succ_self _) ?_
        refine Go_iload_n (pc' := 1) dX12_isLetter_0 rfl rfl rfl ?_
        refine Go_bipush (v := iZ 97) (pc' := 3) dX12_isLetter_1 rfl (by decide) ?_
        refine Go_bipush (v := iZ 122) (pc' := 5) dX12_isLetter_3 rfl (by decide) ?_
        refine Go_callS_i (pc' := 8) (As := [.int _, .int _, .int _]) (st := []) dX12_isLetter_5 rfl ok_X12_isIn km_RX12_147 rfl (Nat.le_of_ble_eq_true rfl) rfl rfl rfl (Nat.le_of_ble_eq_true rfl) (Nat.lt_succ_self _) ?_
        refine s_isInY (by first | exact ⟨i_lo _, i_hi _⟩ | omega) (by first | exact ⟨i_lo _, i_hi _⟩ | omega) (by first | exact ⟨i_lo _, i_hi _⟩ | omega) ?_
        refine ⟨_, rfl, ?_⟩
        refine Go_if_neb (tgt := 22) (pc' := 11) dX12_isLetter_8 (by decide) rfl (fun l8 => ?_) (fun l8 => ?_)
        · refine Go_iconst (v := iZ 1) (pc' := 23) dX12_isLetter_22 rfl (by decide) ?_
          refine Go_goto (tgt := 27) dX12_isLetter_23 (by decide) ?_
          refine Go_ireturn (ty := .boolean) dX12_isLetter_27 rfl rfl ?_
          refine ⟨_, rfl, ?_⟩
          refine Go_if_eqY (tgt := 114) (pc' := 76) dX12_next0_73 (by decide) rfl (by first | exact ⟨i_lo _, i_hi _⟩ | omega) (fun c73 => by exfalso; omega) (fun c73 => ?_)
          rw [← wI_se (h := (wI (wI H 99 29 (iZ (tP T n pos : Int))) 99 31 (iZ (tP T n pos : Int)))) (i := 99) (k := 29) (a := iZ (tP T n pos : Int)) ((vi_skip (Or.inr (by decide))).trans (vi_same))]
          refine nl_loop (TM.w (TM.w F (by decide)) (by decide)) (n - tP T n pos) (tP T n pos) (by omega) ?_
          rw [← tE_let c0 cl]
          refine Go_aload_n (pc' := 104) dX12_next0_103 rfl rfl rfl ?_
          refine Go_aload_n (pc' := 105) dX12_next0_104 rfl rfl rfl ?_
          refine Go_callV_i (pc' := 108) (As := []) (st := [.ref _]) dX12_next0_105 rfl ok_X12_word km_RX12_261 (S.o 99 rfl rfl rfl) (S.b 99 rfl rfl) ⟨_, _, rfl⟩ rfl (Nat.le_of_ble_eq_true rfl) rfl rfl rfl (Nat.le_of_ble_eq_true rfl) (Nat.lt_succ_self _) ?_
          refine s_word (p := tP T n pos) (e := tE T n pos) (TM.w (TM.w (TM.w F (by decide)) (by decide)) (by decide)) (by omega) (by omega) (vi_same) ((vi_skip (Or.inr (by decide))).trans (vi_same)) ?_
          rw [← tC_let c0 cl]
          refine ⟨_, rfl, ?_⟩
          refine Go_putI (pc' := 111) dX12_next0_108 rfl kf_RX12_255 (by decide) (by decide) rfl (S.b 99 rfl rfl) (S.o 99 rfl rfl rfl) (Or.inl rfl) rfl rfl ?_
          refine Go_goto (tgt := 306) dX12_next0_111 (by decide) ?_
          refine Go_return dX12_next0_306 rfl ?_
          refine hk _ (((((DX.rf _ _).wI (by unfold Pm; omega)).wI (by unfold Pm; omega)).wI (by unfold Pm; omega)).wI (by unfold Pm; omega)) ((vi_skip (Or.inr (by decide))).trans (vi_same)) (vi_same) ((vi_skip (Or.inr (by decide))).trans ((vi_skip (Or.inr (by decide))).trans (vi_same))) (fun z => by exfalso; omega)
        · refine Go_iload_n (pc' := 12) dX12_isLetter_11 rfl rfl rfl ?_
          refine Go_bipush (v := iZ 65) (pc' := 14) dX12_isLetter_12 rfl (by decide) ?_
          refine Go_bipush (v := iZ 90) (pc' := 16) dX12_isLetter_14 rfl (by decide) ?_
          refine Go_callS_i (pc' := 19) (As := [.int _, .int _, .int _]) (st := []) dX12_isLetter_16 rfl ok_X12_isIn km_RX12_147 rfl (Nat.le_of_ble_eq_true rfl) rfl rfl rfl (Nat.le_of_ble_eq_true rfl) (Nat.lt_succ_self _) ?_
          refine s_isInY (by first | exact ⟨i_lo _, i_hi _⟩ | omega) (by first | exact ⟨i_lo _, i_hi _⟩ | omega) (by first | exact ⟨i_lo _, i_hi _⟩ | omega) ?_
          refine ⟨_, rfl, ?_⟩
          refine Go_if_eqb (tgt := 26) (pc' := 22) dX12_isLetter_19 (by decide) rfl (fun l19 => ?_) (fun l19 => ?_)
          · refine Go_iconst (v := iZ 0) (pc' := 27) dX12_isLetter_26 rfl (by decide) ?_
            refine Go_ireturn (ty := .boolean) dX12_isLetter_27 rfl rfl ?_
            refine ⟨_, rfl, ?_⟩
            refine Go_if_eqY (tgt := 114) (pc' := 76) dX12_next0_73 (by decide) rfl (by first | exact ⟨i_lo _, i_hi _⟩ | omega) (fun c73 => ?_) (fun c73 => by exfalso; omega)
            exfalso; omega
          · refine Go_iconst (v := iZ 1) (pc' := 23) dX12_isLetter_22 rfl (by decide) ?_
            refine Go_goto (tgt := 27) dX12_isLetter_23 (by decide) ?_
            refine Go_ireturn (ty := .boolean) dX12_isLetter_27 rfl rfl ?_
            refine ⟨_, rfl, ?_⟩
            refine Go_if_eqY (tgt := 114) (pc' := 76) dX12_next0_73 (by decide) rfl (by first | exact ⟨i_lo _, i_hi _⟩ | omega) (fun c73 => by exfalso; omega) (fun c73 => ?_)
            rw [← wI_se (h := (wI (wI H 99 29 (iZ (tP T n pos : Int))) 99 31 (iZ (tP T n pos : Int)))) (i := 99) (k := 29) (a := iZ (tP T n pos : Int)) ((vi_skip (Or.inr (by decide))).trans (vi_same))]
            refine nl_loop (TM.w (TM.w F (by decide)) (by decide)) (n - tP T n pos) (tP T n pos) (by omega) ?_
            rw [← tE_let c0 cl]
            refine Go_aload_n (pc' := 104) dX12_next0_103 rfl rfl rfl ?_
            refine Go_aload_n (pc' := 105) dX12_next0_104 rfl rfl rfl ?_
            refine Go_callV_i (pc' := 108) (As := []) (st := [.ref _]) dX12_next0_105 rfl ok_X12_word km_RX12_261 (S.o 99 rfl rfl rfl) (S.b 99 rfl rfl) ⟨_, _, rfl⟩ rfl (Nat.le_of_ble_eq_true rfl) rfl rfl rfl (Nat.le_of_ble_eq_true rfl) (Nat.lt_succ_self _) ?_
            refine s_word (p := tP T n pos) (e := tE T n pos) (TM.w (TM.w (TM.w F (by decide)) (by decide)) (by decide)) (by omega) (by omega) (vi_same) ((vi_skip (Or.inr (by decide))).trans (vi_same)) ?_
            rw [← tC_let c0 cl]
            refine ⟨_, rfl, ?_⟩
            refine Go_putI (pc' := 111) dX12_next0_108 rfl kf_RX12_255 (by decide) (by decide) rfl (S.b 99 rfl rfl) (S.o 99 rfl rfl rfl) (Or.inl rfl) rfl rfl ?_
            refine Go_goto (tgt := 306) dX12_next0_111 (by decide) ?_
            refine Go_return dX12_next0_306 rfl ?_
            refine hk _ (((((DX.rf _ _).wI (by unfold Pm; omega)).wI (by unfold Pm; omega)).wI (by unfold Pm; omega)).wI (by unfold Pm; omega)) ((vi_skip (Or.inr (by decide))).trans (vi_same)) (vi_same) ((vi_skip (Or.inr (by decide))).trans ((vi_skip (Or.inr (by decide))).trans (vi_same))) (fun z => by exfalso; omega)
      · exfalso; omega
    · have cl1 := cl
      unfold leB at cl1
      rw [decide_eq_true_iff] at cl1
      by_cases cd : diB (T (tP T n pos)) = true
      · have cd1 := cd
        unfold diB at cd1
        rw [decide_eq_true_iff] at cd1
        have hE := tE_dig c0 cl cd
        have hC := tC_dig c0 cl cd
        have hV : tE T n pos ≤ tP T n pos + 4 → nv4 T (tP T n pos) (n - tP T n pos) (tP T n pos) 0 = tV T n pos := fun z => nv4_e _ _ _ (by omega)
        by_cases c4 : tE T n pos ≤ tP T n pos + 4
        · rw [if_pos c4] at hC
          have hM : mtk (tC T n pos) = 2 := by rw [hC]; rfl
          refine Go_aload_n (pc' := 40) dX12_next0_39 rfl rfl rfl ?_
          refine Go_aload_n (pc' := 41) dX12_next0_40 rfl rfl rfl ?_
          refine Go_getIv (v := (iZ (tP T n pos : Int))) (pc' := 44) dX12_next0_41 rfl kf_RX12_206 (by decide) (by decide) rfl (S.b 99 rfl rfl) (S.o 99 rfl rfl rfl) (vi_same) ?_
          refine Go_putI (pc' := 47) dX12_next0_44 rfl kf_RX12_209 (by decide) (by decide) rfl (S.b 99 rfl rfl) (S.o 99 rfl rfl rfl) (Or.inl rfl) rfl rfl ?_
          refine Go_aload_n (pc' := 48) dX12_next0_47 rfl rfl rfl ?_
          refine Go_aload_n (pc' := 49) dX12_next0_48 rfl rfl rfl ?_
          refine Go_getIv (v := (iZ (tP T n pos : Int))) (pc' := 52) dX12_next0_49 rfl kf_RX12_206 (by decide) (by decide) rfl (S.b 99 rfl rfl) (S.o 99 rfl rfl rfl) ((vi_skip (Or.inr (by decide))).trans (vi_same)) ?_
          refine Go_callV_i (pc' := 55) (As := [.int _]) (st := []) dX12_next0_52 rfl ok_X12_see km_RX12_252 (S.o 99 rfl rfl rfl) (S.b 99 rfl rfl) ⟨_, _, rfl⟩ rfl (Nat.le_of_ble_eq_true rfl) rfl rfl rfl (Nat.le_of_ble_eq_true rfl) (Nat.lt_succ_self _) ?_
          refine s_see (p := (tP T n pos)) (TM.w (TM.w F (by decide)) (by decide)) (by omega) ?_
          refine ⟨_, rfl, ?_⟩
          refine Go_istore_n (pc' := 56) (lv' := [.ref _, .int _, un]) dX12_next0_55 rfl rfl (Nat.le_of_ble_eq_true rfl) rfl rfl ?_
          refine Go_iload_n (pc' := 57) dX12_next0_56 rfl rfl rfl ?_
          refine Go_iconst (v := iZ (-1)) (pc' := 58) dX12_next0_57 rfl (by decide) ?_
          refine Go_icmp_neY (tgt := 69) (pc' := 61) dX12_next0_58 (by decide) rfl (by first | exact ⟨i_lo _, i_hi _⟩ | omega) (by first | exact ⟨i_lo _, i_hi _⟩ | omega) (fun c58 => ?_) (fun c58 => ?_)
          · refine Go_iload_n (pc' := 70) dX12_next0_69 rfl rfl rfl ?_
            refine Go_callS_i (pc' := 73) (As := [.int _]) (st := []) dX12_next0_70 rfl ok_X12_isLetter km_RX12_258 rfl (Nat.le_of_ble_eq_true rfl) rfl rfl rfl (Nat.le_of_ble_eq_true rfl) (Nat.lt_succ_self _) ?_
            refine Go_iload_n (pc' := 1) dX12_isLetter_0 rfl rfl rfl ?_
            refine Go_bipush (v := iZ 97) (pc' := 3) dX12_isLetter_1 rfl (by decide) ?_
            refine Go_bipush (v := iZ 122) (pc' := 5) dX12_isLetter_3 rfl (by decide) ?_
            refine Go_callS_i (pc' := 8) (As := [.int _, .int _, .int _]) (st := []) dX12_isLetter_5 rfl ok_X12_isIn km_RX12_147 rfl (Nat.le_of_ble_eq_true rfl) rfl rfl rfl (Nat.le_of_ble_eq_true rfl) (Nat.lt_succ_self _) ?_
            refine s_isInY (by first | exact ⟨i_lo _, i_hi _⟩ | omega) (by first | exact ⟨i_lo _, i_hi _⟩ | omega) (by first | exact ⟨i_lo _, i_hi _⟩ | omega) ?_
            refine ⟨_, rfl, ?_⟩
            refine Go_if_neb (tgt := 22) (pc' := 11) dX12_isLetter_8 (by decide) rfl (fun l8 => ?_) (fun l8 => ?_)
            · refine Go_iconst (v := iZ 1) (pc' := 23) dX12_isLetter_22 rfl (by decide) ?_
              refine Go_goto (tgt := 27) dX12_isLetter_23 (by decide) ?_
              refine Go_ireturn (ty := .boolean) dX12_isLetter_27 rfl rfl ?_
              refine ⟨_, rfl, ?_⟩
              refine Go_if_eqY (tgt := 114) (pc' := 76) dX12_next0_73 (by decide) rfl (by first | exact ⟨i_lo _, i_hi _⟩ | omega) (fun c73 => by exfalso; omega) (fun c73 => ?_)
              exfalso; omega
            · refine Go_iload_n (pc' := 12) dX12_isLetter_11 rfl rfl rfl ?_
              refine Go_bipush (v := iZ 65) (pc' := 14) dX12_isLetter_12 rfl (by decide) ?_
              refine Go_bipush (v := iZ 90) (pc' := 16) dX12_isLetter_14 rfl (by decide) ?_
              refine Go_callS_i (pc' := 19) (As := [.int _, .int _, .int _]) (st := []) dX12_isLetter_16 rfl ok_X12_isIn km_RX12_147 rfl (Nat.le_of_ble_eq_true rfl) rfl rfl rfl (Nat.le_of_ble_eq_true rfl) (Nat.lt_succ_self _) ?_
              refine s_isInY (by first | exact ⟨i_lo _, i_hi _⟩ | omega) (by first | exact ⟨i_lo _, i_hi _⟩ | omega) (by first | exact ⟨i_lo _, i_hi _⟩ | omega) ?_
              refine ⟨_, rfl, ?_⟩
              refine Go_if_eqb (tgt := 26) (pc' := 22) dX12_isLetter_19 (by decide) rfl (fun l19 => ?_) (fun l19 => ?_)
              · refine Go_iconst (v := iZ 0) (pc' := 27) dX12_isLetter_26 rfl (by decide) ?_
                refine Go_ireturn (ty := .boolean) dX12_isLetter_27 rfl rfl ?_
                refine ⟨_, rfl, ?_⟩
                refine Go_if_eqY (tgt := 114) (pc' := 76) dX12_next0_73 (by decide) rfl (by first | exact ⟨i_lo _, i_hi _⟩ | omega) (fun c73 => ?_) (fun c73 => by exfalso; omega)
                refine Go_iload_n (pc' := 115) dX12_next0_114 rfl rfl rfl ?_
                refine Go_callS_i (pc' := 118) (As := [.int _]) (st := []) dX12_next0_115 rfl ok_X12_isDigit km_RX12_264 rfl (Nat.le_of_ble_eq_true rfl) rfl rfl rfl (Nat.le_of_ble_eq_true rfl) (Nat.lt_succ_self _) ?_
                refine Go_iload_n (pc' := 1) dX12_isDigit_0 rfl rfl rfl ?_
                refine Go_bipush (v := iZ 48) (pc' := 3) dX12_isDigit_1 rfl (by decide) ?_
                refine Go_bipush (v := iZ 57) (pc' := 5) dX12_isDigit_3 rfl (by decide) ?_
                refine Go_callS_i (pc' := 8) (As := [.int _, .int _, .int _]) (st := []) dX12_isDigit_5 rfl ok_X12_isIn km_RX12_147 rfl (Nat.le_of_ble_eq_true rfl) rfl rfl rfl (Nat.le_of_ble_eq_true rfl) (Nat.lt_succ_self _) ?_
                refine s_isInY (by first | exact ⟨i_lo _, i_hi _⟩ | omega) (by first | exact ⟨i_lo _, i_hi _⟩ | omega) (by first | exact ⟨i_lo _, i_hi _⟩ | omega) ?_
                refine ⟨_, rfl, ?_⟩
                refine Go_ireturn (ty := .boolean) dX12_isDigit_8 rfl b2i_nb ?_
                refine ⟨_, rfl, ?_⟩
                refine Go_if_eqb (tgt := 214) (pc' := 121) dX12_next0_118 (by decide) rfl (fun c118 => ?_) (fun c118 => ?_)
                · exfalso; omega
                · refine Go_aload_n (pc' := 122) dX12_next0_121 rfl rfl rfl ?_
                  refine Go_iconst (v := iZ 0) (pc' := 123) dX12_next0_122 rfl (by decide) ?_
                  refine Go_putI (pc' := 126) dX12_next0_123 rfl kf_RX12_267 (by decide) (by decide) rfl (S.b 99 rfl rfl) (S.o 99 rfl rfl rfl) (Or.inl rfl) rfl rfl ?_
                  rw [← wI_se (h := (wI (wI (wI H 99 29 (iZ (tP T n pos : Int))) 99 31 (iZ (tP T n pos : Int))) 99 32 (iZ 0))) (i := 99) (k := 29) (a := iZ (tP T n pos : Int)) ((vi_skip (Or.inr (by decide))).trans ((vi_skip (Or.inr (by decide))).trans (vi_same)))]
                  refine nd_loop (p0 := tP T n pos) (TM.w (TM.w F (by decide)) (by decide)) (vi_same) (by omega) (n - tP T n pos) (tP T n pos) 0 (by omega) ?_
                  rw [← tE_dig c0 cl cd]
                  refine Go_aload_n (pc' := 190) dX12_next0_189 rfl rfl rfl ?_
                  refine Go_aload_n (pc' := 191) dX12_next0_190 rfl rfl rfl ?_
                  refine Go_getIv (v := (iZ (tE T n pos : Int))) (pc' := 194) dX12_next0_191 rfl kf_RX12_206 (by decide) (by decide) rfl (S.b 99 rfl rfl) (S.o 99 rfl rfl rfl) (vi_same) ?_
                  refine Go_aload_n (pc' := 195) dX12_next0_194 rfl rfl rfl ?_
                  refine Go_getIv (v := (iZ (tP T n pos : Int))) (pc' := 198) dX12_next0_195 rfl kf_RX12_209 (by decide) (by decide) rfl (S.b 99 rfl rfl) (S.o 99 rfl rfl rfl) ((vi_skip (Or.inr (by decide))).trans ((vi_skip (Or.inr (by decide))).trans (vi_same))) ?_
                  refine Go_isubZ (pc' := 199) dX12_next0_198 rfl ?_
                  refine Go_iconst (v := iZ 5) (pc' := 200) dX12_next0_199 rfl (by decide) ?_
                  refine Go_icmp_geY (tgt := 207) (pc' := 203) dX12_next0_200 (by decide) rfl (by first | exact ⟨i_lo _, i_hi _⟩ | omega) (by first | exact ⟨i_lo _, i_hi _⟩ | omega) (fun c200 => ?_) (fun c200 => ?_)
                  · refine Go_iconst (v := iZ 1) (pc' := 208) dX12_next0_207 rfl (by decide) ?_
                    refine Go_putI (pc' := 211) dX12_next0_208 rfl kf_RX12_255 (by decide) (by decide) rfl (S.b 99 rfl rfl) (S.o 99 rfl rfl rfl) (Or.inl rfl) rfl rfl ?_
                    refine Go_goto (tgt := 306) dX12_next0_211 (by decide) ?_
                    refine Go_return dX12_next0_306 rfl ?_
                    refine hk _ ((((((DX.rf _ _).wI (by unfold Pm; omega)).wI (by unfold Pm; omega)).wI (by unfold Pm; omega)).wI (by unfold Pm; omega)).wI (by unfold Pm; omega)) ((vi_skip (Or.inr (by decide))).trans (vi_same)) ((vi_same).trans (congrArg iZ (by omega))) ((vi_skip (Or.inr (by decide))).trans ((vi_skip (Or.inr (by decide))).trans ((vi_skip (Or.inr (by decide))).trans (vi_same)))) (fun z => ((vi_skip (Or.inr (by decide))).trans ((vi_skip (Or.inr (by decide))).trans (vi_same))).trans (congrArg iZ (hV (by omega))))
                  · refine Go_iconst (v := iZ 2) (pc' := 204) dX12_next0_203 rfl (by decide) ?_
                    refine Go_goto (tgt := 208) dX12_next0_204 (by decide) ?_
                    refine Go_putI (pc' := 211) dX12_next0_208 rfl kf_RX12_255 (by decide) (by decide) rfl (S.b 99 rfl rfl) (S.o 99 rfl rfl rfl) (Or.inl rfl) rfl rfl ?_
                    refine Go_goto (tgt := 306) dX12_next0_211 (by decide) ?_
                    refine Go_return dX12_next0_306 rfl ?_
                    refine hk _ ((((((DX.rf _ _).wI (by unfold Pm; omega)).wI (by unfold Pm; omega)).wI (by unfold Pm; omega)).wI (by unfold Pm; omega)).wI (by unfold Pm; omega)) ((vi_skip (Or.inr (by decide))).trans (vi_same)) ((vi_same).trans (congrArg iZ (by omega))) ((vi_skip (Or.inr (by decide))).trans ((vi_skip (Or.inr (by decide))).trans ((vi_skip (Or.inr (by decide))).trans (vi_same)))) (fun z => ((vi_skip (Or.inr (by decide))).trans ((vi_skip (Or.inr (by decide))).trans (vi_same))).trans (congrArg iZ (hV (by omega))))
              · refine Go_iconst (v := iZ 1) (pc' := 23) dX12_isLetter_22 rfl (by decide) ?_
                refine Go_goto (tgt := 27) dX12_isLetter_23 (by decide) ?_
                refine Go_ireturn (ty := .boolean) dX12_isLetter_27 rfl rfl ?_
                refine ⟨_, rfl, ?_⟩
                refine Go_if_eqY (tgt := 114) (pc' := 76) dX12_next0_73 (by decide) rfl (by first | exact ⟨i_lo _, i_hi _⟩ | omega) (fun c73 => by exfalso; omega) (fun c73 => ?_)
                exfalso; omega
          · exfalso; omega
        · rw [if_neg c4] at hC
          have hM : mtk (tC T n pos) = 1 := by rw [hC]; rfl
          refine Go_aload_n (pc' := 40) dX12_next0_39 rfl rfl rfl ?_
          refine Go_aload_n (pc' := 41) dX12_next0_40 rfl rfl rfl ?_
          refine Go_getIv (v := (iZ (tP T n pos : Int))) (pc' := 44) dX12_next0_41 rfl kf_RX12_206 (by decide) (by decide) rfl (S.b 99 rfl rfl) (S.o 99 rfl rfl rfl) (vi_same) ?_
          refine Go_putI (pc' := 47) dX12_next0_44 rfl kf_RX12_209 (by decide) (by decide) rfl (S.b 99 rfl rfl) (S.o 99 rfl rfl rfl) (Or.inl rfl) rfl rfl ?_
          refine Go_aload_n (pc' := 48) dX12_next0_47 rfl rfl rfl ?_
          refine Go_aload_n (pc' := 49) dX12_next0_48 rfl rfl rfl ?_
          refine Go_getIv (v := (iZ (tP T n pos : Int))) (pc' := 52) dX12_next0_49 rfl kf_RX12_206 (by decide) (by decide) rfl (S.b 99 rfl rfl) (S.o 99 rfl rfl rfl) ((vi_skip (Or.inr (by decide))).trans (vi_same)) ?_
          refine Go_callV_i (pc' := 55) (As := [.int _]) (st := []) dX12_next0_52 rfl ok_X12_see km_RX12_252 (S.o 99 rfl rfl rfl) (S.b 99 rfl rfl) ⟨_, _, rfl⟩ rfl (Nat.le_of_ble_eq_true rfl) rfl rfl rfl (Nat.le_of_ble_eq_true rfl) (Nat.lt_succ_self _) ?_
          refine s_see (p := (tP T n pos)) (TM.w (TM.w F (by decide)) (by decide)) (by omega) ?_
          refine ⟨_, rfl, ?_⟩
          refine Go_istore_n (pc' := 56) (lv' := [.ref _, .int _, un]) dX12_next0_55 rfl rfl (Nat.le_of_ble_eq_true rfl) rfl rfl ?_
          refine Go_iload_n (pc' := 57) dX12_next0_56 rfl rfl rfl ?_
          refine Go_iconst (v := iZ (-1)) (pc' := 58) dX12_next0_57 rfl (by decide) ?_
          refine Go_icmp_neY (tgt := 69) (pc' := 61) dX12_next0_58 (by decide) rfl (by first | exact ⟨i_lo _, i_hi _⟩ | omega) (by first | exact ⟨i_lo _, i_hi _⟩ | omega) (fun c58 => ?_) (fun c58 => ?_)
          · refine Go_iload_n (pc' := 70) dX12_next0_69 rfl rfl rfl ?_
            refine Go_callS_i (pc' := 73) (As := [.int _]) (st := []) dX12_next0_70 rfl ok_X12_isLetter km_RX12_258 rfl (Nat.le_of_ble_eq_true rfl) rfl rfl rfl (Nat.le_of_ble_eq_true rfl) (Nat.lt_succ_self _) ?_
            refine Go_iload_n (pc' := 1) dX12_isLetter_0 rfl rfl rfl ?_
            refine Go_bipush (v := iZ 97) (pc' := 3) dX12_isLetter_1 rfl (by decide) ?_
            refine Go_bipush (v := iZ 122) (pc' := 5) dX12_isLetter_3 rfl (by decide) ?_
            refine Go_callS_i (pc' := 8) (As := [.int _, .int _, .int _]) (st := []) dX12_isLetter_5 rfl ok_X12_isIn km_RX12_147 rfl (Nat.le_of_ble_eq_true rfl) rfl rfl rfl (Nat.le_of_ble_eq_true rfl) (Nat.lt_succ_self _) ?_
            refine s_isInY (by first | exact ⟨i_lo _, i_hi _⟩ | omega) (by first | exact ⟨i_lo _, i_hi _⟩ | omega) (by first | exact ⟨i_lo _, i_hi _⟩ | omega) ?_
            refine ⟨_, rfl, ?_⟩
            refine Go_if_neb (tgt := 22) (pc' := 11) dX12_isLetter_8 (by decide) rfl (fun l8 => ?_) (fun l8 => ?_)
            · refine Go_iconst (v := iZ 1) (pc' := 23) dX12_isLetter_22 rfl (by decide) ?_
              refine Go_goto (tgt := 27) dX12_isLetter_23 (by decide) ?_
              refine Go_ireturn (ty := .boolean) dX12_isLetter_27 rfl rfl ?_
              refine ⟨_, rfl, ?_⟩
              refine Go_if_eqY (tgt := 114) (pc' := 76) dX12_next0_73 (by decide) rfl (by first | exact ⟨i_lo _, i_hi _⟩ | omega) (fun c73 => by exfalso; omega) (fun c73 => ?_)
              exfalso; omega
            · refine Go_iload_n (pc' := 12) dX12_isLetter_11 rfl rfl rfl ?_
              refine Go_bipush (v := iZ 65) (pc' := 14) dX12_isLetter_12 rfl (by decide) ?_
              refine Go_bipush (v := iZ 90) (pc' := 16) dX12_isLetter_14 rfl (by decide) ?_
              refine Go_callS_i (pc' := 19) (As := [.int _, .int _, .int _]) (st := []) dX12_isLetter_16 rfl ok_X12_isIn km_RX12_147 rfl (Nat.le_of_ble_eq_true rfl) rfl rfl rfl (Nat.le_of_ble_eq_true rfl) (Nat.lt_succ_self _) ?_
              refine s_isInY (by first | exact ⟨i_lo _, i_hi _⟩ | omega) (by first | exact ⟨i_lo _, i_hi _⟩ | omega) (by first | exact ⟨i_lo _, i_hi _⟩ | omega) ?_
              refine ⟨_, rfl, ?_⟩
              refine Go_if_eqb (tgt := 26) (pc' := 22) dX12_isLetter_19 (by decide) rfl (fun l19 => ?_) (fun l19 => ?_)
              · refine Go_iconst (v := iZ 0) (pc' := 27) dX12_isLetter_26 rfl (by decide) ?_
                refine Go_ireturn (ty := .boolean) dX12_isLetter_27 rfl rfl ?_
                refine ⟨_, rfl, ?_⟩
                refine Go_if_eqY (tgt := 114) (pc' := 76) dX12_next0_73 (by decide) rfl (by first | exact ⟨i_lo _, i_hi _⟩ | omega) (fun c73 => ?_) (fun c73 => by exfalso; omega)
                refine Go_iload_n (pc' := 115) dX12_next0_114 rfl rfl rfl ?_
                refine Go_callS_i (pc' := 118) (As := [.int _]) (st := []) dX12_next0_115 rfl ok_X12_isDigit km_RX12_264 rfl (Nat.le_of_ble_eq_true rfl) rfl rfl rfl (Nat.le_of_ble_eq_true rfl) (Nat.lt_succ_self _) ?_
                refine Go_iload_n (pc' := 1) dX12_isDigit_0 rfl rfl rfl ?_
                refine Go_bipush (v := iZ 48) (pc' := 3) dX12_isDigit_1 rfl (by decide) ?_
                refine Go_bipush (v := iZ 57) (pc' := 5) dX12_isDigit_3 rfl (by decide) ?_
                refine Go_callS_i (pc' := 8) (As := [.int _, .int _, .int _]) (st := []) dX12_isDigit_5 rfl ok_X12_isIn km_RX12_147 rfl (Nat.le_of_ble_eq_true rfl) rfl rfl rfl (Nat.le_of_ble_eq_true rfl) (Nat.lt_succ_self _) ?_
                refine s_isInY (by first | exact ⟨i_lo _, i_hi _⟩ | omega) (by first | exact ⟨i_lo _, i_hi _⟩ | omega) (by first | exact ⟨i_lo _, i_hi _⟩ | omega) ?_
                refine ⟨_, rfl, ?_⟩
                refine Go_ireturn (ty := .boolean) dX12_isDigit_8 rfl b2i_nb ?_
                refine ⟨_, rfl, ?_⟩
                refine Go_if_eqb (tgt := 214) (pc' := 121) dX12_next0_118 (by decide) rfl (fun c118 => ?_) (fun c118 => ?_)
                · exfalso; omega
                · refine Go_aload_n (pc' := 122) dX12_next0_121 rfl rfl rfl ?_
                  refine Go_iconst (v := iZ 0) (pc' := 123) dX12_next0_122 rfl (by decide) ?_
                  refine Go_putI (pc' := 126) dX12_next0_123 rfl kf_RX12_267 (by decide) (by decide) rfl (S.b 99 rfl rfl) (S.o 99 rfl rfl rfl) (Or.inl rfl) rfl rfl ?_
                  rw [← wI_se (h := (wI (wI (wI H 99 29 (iZ (tP T n pos : Int))) 99 31 (iZ (tP T n pos : Int))) 99 32 (iZ 0))) (i := 99) (k := 29) (a := iZ (tP T n pos : Int)) ((vi_skip (Or.inr (by decide))).trans ((vi_skip (Or.inr (by decide))).trans (vi_same)))]
                  refine nd_loop (p0 := tP T n pos) (TM.w (TM.w F (by decide)) (by decide)) (vi_same) (by omega) (n - tP T n pos) (tP T n pos) 0 (by omega) ?_
                  rw [← tE_dig c0 cl cd]
                  refine Go_aload_n (pc' := 190) dX12_next0_189 rfl rfl rfl ?_
                  refine Go_aload_n (pc' := 191) dX12_next0_190 rfl rfl rfl ?_
                  refine Go_getIv (v := (iZ (tE T n pos : Int))) (pc' := 194) dX12_next0_191 rfl kf_RX12_206 (by decide) (by decide) rfl (S.b 99 rfl rfl) (S.o 99 rfl rfl rfl) (vi_same) ?_
                  refine Go_aload_n (pc' := 195) dX12_next0_194 rfl rfl rfl ?_
                  refine Go_getIv (v := (iZ (tP T n pos : Int))) (pc' := 198) dX12_next0_195 rfl kf_RX12_209 (by decide) (by decide) rfl (S.b 99 rfl rfl) (S.o 99 rfl rfl rfl) ((vi_skip (Or.inr (by decide))).trans ((vi_skip (Or.inr (by decide))).trans (vi_same))) ?_
                  refine Go_isubZ (pc' := 199) dX12_next0_198 rfl ?_
                  refine Go_iconst (v := iZ 5) (pc' := 200) dX12_next0_199 rfl (by decide) ?_
                  refine Go_icmp_geY (tgt := 207) (pc' := 203) dX12_next0_200 (by decide) rfl (by first | exact ⟨i_lo _, i_hi _⟩ | omega) (by first | exact ⟨i_lo _, i_hi _⟩ | omega) (fun c200 => ?_) (fun c200 => ?_)
                  · refine Go_iconst (v := iZ 1) (pc' := 208) dX12_next0_207 rfl (by decide) ?_
                    refine Go_putI (pc' := 211) dX12_next0_208 rfl kf_RX12_255 (by decide) (by decide) rfl (S.b 99 rfl rfl) (S.o 99 rfl rfl rfl) (Or.inl rfl) rfl rfl ?_
                    refine Go_goto (tgt := 306) dX12_next0_211 (by decide) ?_
                    refine Go_return dX12_next0_306 rfl ?_
                    refine hk _ ((((((DX.rf _ _).wI (by unfold Pm; omega)).wI (by unfold Pm; omega)).wI (by unfold Pm; omega)).wI (by unfold Pm; omega)).wI (by unfold Pm; omega)) ((vi_skip (Or.inr (by decide))).trans (vi_same)) ((vi_same).trans (congrArg iZ (by omega))) ((vi_skip (Or.inr (by decide))).trans ((vi_skip (Or.inr (by decide))).trans ((vi_skip (Or.inr (by decide))).trans (vi_same)))) (fun z => ((vi_skip (Or.inr (by decide))).trans ((vi_skip (Or.inr (by decide))).trans (vi_same))).trans (congrArg iZ (hV (by omega))))
                  · refine Go_iconst (v := iZ 2) (pc' := 204) dX12_next0_203 rfl (by decide) ?_
                    refine Go_goto (tgt := 208) dX12_next0_204 (by decide) ?_
                    refine Go_putI (pc' := 211) dX12_next0_208 rfl kf_RX12_255 (by decide) (by decide) rfl (S.b 99 rfl rfl) (S.o 99 rfl rfl rfl) (Or.inl rfl) rfl rfl ?_
                    refine Go_goto (tgt := 306) dX12_next0_211 (by decide) ?_
                    refine Go_return dX12_next0_306 rfl ?_
                    refine hk _ ((((((DX.rf _ _).wI (by unfold Pm; omega)).wI (by unfold Pm; omega)).wI (by unfold Pm; omega)).wI (by unfold Pm; omega)).wI (by unfold Pm; omega)) ((vi_skip (Or.inr (by decide))).trans (vi_same)) ((vi_same).trans (congrArg iZ (by omega))) ((vi_skip (Or.inr (by decide))).trans ((vi_skip (Or.inr (by decide))).trans ((vi_skip (Or.inr (by decide))).trans (vi_same)))) (fun z => ((vi_skip (Or.inr (by decide))).trans ((vi_skip (Or.inr (by decide))).trans (vi_same))).trans (congrArg iZ (hV (by omega))))
              · refine Go_iconst (v := iZ 1) (pc' := 23) dX12_isLetter_22 rfl (by decide) ?_
                refine Go_goto (tgt := 27) dX12_isLetter_23 (by decide) ?_
                refine Go_ireturn (ty := .boolean) dX12_isLetter_27 rfl rfl ?_
                refine ⟨_, rfl, ?_⟩
                refine Go_if_eqY (tgt := 114) (pc' := 76) dX12_next0_73 (by decide) rfl (by first | exact ⟨i_lo _, i_hi _⟩ | omega) (fun c73 => by exfalso; omega) (fun c73 => ?_)
                exfalso; omega
          · exfalso; omega
      · have cd1 := cd
        unfold diB at cd1
        rw [decide_eq_true_iff] at cd1
        have hE := tE_sig c0 cl cd
        have hC := tC_sig c0 cl cd
        by_cases sg : sgn (T (tP T n pos))
        · rw [if_pos sg] at hC
          have hM : mtk (tC T n pos) = 100 + T (tP T n pos) := by
            rw [hC]
            unfold mtk
            rw [if_neg (by omega), if_neg (by omega), if_neg (by omega), if_neg (by omega), if_neg (by omega), if_neg (by omega)]
          refine Go_aload_n (pc' := 40) dX12_next0_39 rfl rfl rfl ?_
          refine Go_aload_n (pc' := 41) dX12_next0_40 rfl rfl rfl ?_
          refine Go_getIv (v := (iZ (tP T n pos : Int))) (pc' := 44) dX12_next0_41 rfl kf_RX12_206 (by decide) (by decide) rfl (S.b 99 rfl rfl) (S.o 99 rfl rfl rfl) (vi_same) ?_
          refine Go_putI (pc' := 47) dX12_next0_44 rfl kf_RX12_209 (by decide) (by decide) rfl (S.b 99 rfl rfl) (S.o 99 rfl rfl rfl) (Or.inl rfl) rfl rfl ?_
          refine Go_aload_n (pc' := 48) dX12_next0_47 rfl rfl rfl ?_
          refine Go_aload_n (pc' := 49) dX12_next0_48 rfl rfl rfl ?_
          refine Go_getIv (v := (iZ (tP T n pos : Int))) (pc' := 52) dX12_next0_49 rfl kf_RX12_206 (by decide) (by decide) rfl (S.b 99 rfl rfl) (S.o 99 rfl rfl rfl) ((vi_skip (Or.inr (by decide))).trans (vi_same)) ?_
          refine Go_callV_i (pc' := 55) (As := [.int _]) (st := []) dX12_next0_52 rfl ok_X12_see km_RX12_252 (S.o 99 rfl rfl rfl) (S.b 99 rfl rfl) ⟨_, _, rfl⟩ rfl (Nat.le_of_ble_eq_true rfl) rfl rfl rfl (Nat.le_of_ble_eq_true rfl) (Nat.lt_succ_self _) ?_
          refine s_see (p := (tP T n pos)) (TM.w (TM.w F (by decide)) (by decide)) (by omega) ?_
          refine ⟨_, rfl, ?_⟩
          refine Go_istore_n (pc' := 56) (lv' := [.ref _, .int _, un]) dX12_next0_55 rfl rfl (Nat.le_of_ble_eq_true rfl) rfl rfl ?_
          refine Go_iload_n (pc' := 57) dX12_next0_56 rfl rfl rfl ?_
          refine Go_iconst (v := iZ (-1)) (pc' := 58) dX12_next0_57 rfl (by decide) ?_
          refine Go_icmp_neY (tgt := 69) (pc' := 61) dX12_next0_58 (by decide) rfl (by first | exact ⟨i_lo _, i_hi _⟩ | omega) (by first | exact ⟨i_lo _, i_hi _⟩ | omega) (fun c58 => ?_) (fun c58 => ?_)
          · refine Go_iload_n (pc' := 70) dX12_next0_69 rfl rfl rfl ?_
            refine Go_callS_i (pc' := 73) (As := [.int _]) (st := []) dX12_next0_70 rfl ok_X12_isLetter km_RX12_258 rfl (Nat.le_of_ble_eq_true rfl) rfl rfl rfl (Nat.le_of_ble_eq_true rfl) (Nat.lt_succ_self _) ?_
            refine Go_iload_n (pc' := 1) dX12_isLetter_0 rfl rfl rfl ?_
            refine Go_bipush (v := iZ 97) (pc' := 3) dX12_isLetter_1 rfl (by decide) ?_
            refine Go_bipush (v := iZ 122) (pc' := 5) dX12_isLetter_3 rfl (by decide) ?_
            refine Go_callS_i (pc' := 8) (As := [.int _, .int _, .int _]) (st := []) dX12_isLetter_5 rfl ok_X12_isIn km_RX12_147 rfl (Nat.le_of_ble_eq_true rfl) rfl rfl rfl (Nat.le_of_ble_eq_true rfl) (Nat.lt_succ_self _) ?_
            refine s_isInY (by first | exact ⟨i_lo _, i_hi _⟩ | omega) (by first | exact ⟨i_lo _, i_hi _⟩ | omega) (by first | exact ⟨i_lo _, i_hi _⟩ | omega) ?_
            refine ⟨_, rfl, ?_⟩
            refine Go_if_neb (tgt := 22) (pc' := 11) dX12_isLetter_8 (by decide) rfl (fun l8 => ?_) (fun l8 => ?_)
            · refine Go_iconst (v := iZ 1) (pc' := 23) dX12_isLetter_22 rfl (by decide) ?_
              refine Go_goto (tgt := 27) dX12_isLetter_23 (by decide) ?_
              refine Go_ireturn (ty := .boolean) dX12_isLetter_27 rfl rfl ?_
              refine ⟨_, rfl, ?_⟩
              refine Go_if_eqY (tgt := 114) (pc' := 76) dX12_next0_73 (by decide) rfl (by first | exact ⟨i_lo _, i_hi _⟩ | omega) (fun c73 => by exfalso; omega) (fun c73 => ?_)
              exfalso; omega
            · refine Go_iload_n (pc' := 12) dX12_isLetter_11 rfl rfl rfl ?_
              refine Go_bipush (v := iZ 65) (pc' := 14) dX12_isLetter_12 rfl (by decide) ?_
              refine Go_bipush (v := iZ 90) (pc' := 16) dX12_isLetter_14 rfl (by decide) ?_
              refine Go_callS_i (pc' := 19) (As := [.int _, .int _, .int _]) (st := []) dX12_isLetter_16 rfl ok_X12_isIn km_RX12_147 rfl (Nat.le_of_ble_eq_true rfl) rfl rfl rfl (Nat.le_of_ble_eq_true rfl) (Nat.lt_succ_self _) ?_
              refine s_isInY (by first | exact ⟨i_lo _, i_hi _⟩ | omega) (by first | exact ⟨i_lo _, i_hi _⟩ | omega) (by first | exact ⟨i_lo _, i_hi _⟩ | omega) ?_
              refine ⟨_, rfl, ?_⟩
              refine Go_if_eqb (tgt := 26) (pc' := 22) dX12_isLetter_19 (by decide) rfl (fun l19 => ?_) (fun l19 => ?_)
              · refine Go_iconst (v := iZ 0) (pc' := 27) dX12_isLetter_26 rfl (by decide) ?_
                refine Go_ireturn (ty := .boolean) dX12_isLetter_27 rfl rfl ?_
                refine ⟨_, rfl, ?_⟩
                refine Go_if_eqY (tgt := 114) (pc' := 76) dX12_next0_73 (by decide) rfl (by first | exact ⟨i_lo _, i_hi _⟩ | omega) (fun c73 => ?_) (fun c73 => by exfalso; omega)
                refine Go_iload_n (pc' := 115) dX12_next0_114 rfl rfl rfl ?_
                refine Go_callS_i (pc' := 118) (As := [.int _]) (st := []) dX12_next0_115 rfl ok_X12_isDigit km_RX12_264 rfl (Nat.le_of_ble_eq_true rfl) rfl rfl rfl (Nat.le_of_ble_eq_true rfl) (Nat.lt_succ_self _) ?_
                refine Go_iload_n (pc' := 1) dX12_isDigit_0 rfl rfl rfl ?_
                refine Go_bipush (v := iZ 48) (pc' := 3) dX12_isDigit_1 rfl (by decide) ?_
                refine Go_bipush (v := iZ 57) (pc' := 5) dX12_isDigit_3 rfl (by decide) ?_
                refine Go_callS_i (pc' := 8) (As := [.int _, .int _, .int _]) (st := []) dX12_isDigit_5 rfl ok_X12_isIn km_RX12_147 rfl (Nat.le_of_ble_eq_true rfl) rfl rfl rfl (Nat.le_of_ble_eq_true rfl) (Nat.lt_succ_self _) ?_
                refine s_isInY (by first | exact ⟨i_lo _, i_hi _⟩ | omega) (by first | exact ⟨i_lo _, i_hi _⟩ | omega) (by first | exact ⟨i_lo _, i_hi _⟩ | omega) ?_
                refine ⟨_, rfl, ?_⟩
                refine Go_ireturn (ty := .boolean) dX12_isDigit_8 rfl b2i_nb ?_
                refine ⟨_, rfl, ?_⟩
                refine Go_if_eqb (tgt := 214) (pc' := 121) dX12_next0_118 (by decide) rfl (fun c118 => ?_) (fun c118 => ?_)
                · refine Go_aload_n (pc' := 215) dX12_next0_214 rfl rfl rfl ?_
                  refine Go_dup (pc' := 216) dX12_next0_215 rfl rfl ?_
                  refine Go_getIv (v := (iZ (tP T n pos : Int))) (pc' := 219) dX12_next0_216 rfl kf_RX12_206 (by decide) (by decide) rfl (S.b 99 rfl rfl) (S.o 99 rfl rfl rfl) ((vi_skip (Or.inr (by decide))).trans (vi_same)) ?_
                  refine Go_iconst (v := iZ 1) (pc' := 220) dX12_next0_219 rfl (by decide) ?_
                  refine Go_iaddZ (pc' := 221) dX12_next0_220 rfl ?_
                  refine Go_putI (pc' := 224) dX12_next0_221 rfl kf_RX12_206 (by decide) (by decide) rfl (S.b 99 rfl rfl) (S.o 99 rfl rfl rfl) (Or.inl rfl) rfl rfl ?_
                  refine Go_iload_n (pc' := 225) dX12_next0_224 rfl rfl rfl ?_
                  refine Go_bipush (v := iZ 59) (pc' := 227) dX12_next0_225 rfl (by decide) ?_
                  refine Go_icmp_eqY (tgt := 284) (pc' := 230) dX12_next0_227 (by decide) rfl (by first | exact ⟨i_lo _, i_hi _⟩ | omega) (by first | exact ⟨i_lo _, i_hi _⟩ | omega) (fun c227 => ?_) (fun c227 => ?_)
                  · refine Go_iconst (v := iZ 1) (pc' := 285) dX12_next0_284 rfl (by decide) ?_
                    refine Go_goto (tgt := 289) dX12_next0_285 (by decide) ?_
                    refine Go_istore_n (pc' := 290) (lv' := [.ref _, .int _, .int _]) dX12_next0_289 rfl rfl (Nat.le_of_ble_eq_true rfl) rfl rfl ?_
                    refine Go_aload_n (pc' := 291) dX12_next0_290 rfl rfl rfl ?_
                    refine Go_iload_n (pc' := 292) dX12_next0_291 rfl rfl rfl ?_
                    refine Go_if_eqY (tgt := 302) (pc' := 295) dX12_next0_292 (by decide) rfl (by first | exact ⟨i_lo _, i_hi _⟩ | omega) (fun c292 => by exfalso; omega) (fun c292 => ?_)
                    refine Go_bipush (v := iZ 100) (pc' := 297) dX12_next0_295 rfl (by decide) ?_
                    refine Go_iload_n (pc' := 298) dX12_next0_297 rfl rfl rfl ?_
                    refine Go_iaddZ (pc' := 299) dX12_next0_298 rfl ?_
                    refine Go_goto (tgt := 303) dX12_next0_299 (by decide) ?_
                    refine Go_putI (pc' := 306) dX12_next0_303 rfl kf_RX12_255 (by decide) (by decide) rfl (S.b 99 rfl rfl) (S.o 99 rfl rfl rfl) (Or.inl rfl) rfl rfl ?_
                    refine Go_return dX12_next0_306 rfl ?_
                    refine hk _ (((((DX.rf _ _).wI (by unfold Pm; omega)).wI (by unfold Pm; omega)).wI (by unfold Pm; omega)).wI (by unfold Pm; omega)) (((vi_skip (Or.inr (by decide))).trans (vi_same)).trans (congrArg iZ (by omega))) ((vi_same).trans (congrArg iZ (by omega))) ((vi_skip (Or.inr (by decide))).trans ((vi_skip (Or.inr (by decide))).trans (vi_same))) (fun z => by exfalso; omega)
                  · refine Go_iload_n (pc' := 231) dX12_next0_230 rfl rfl rfl ?_
                    refine Go_bipush (v := iZ 43) (pc' := 233) dX12_next0_231 rfl (by decide) ?_
                    refine Go_icmp_eqY (tgt := 284) (pc' := 236) dX12_next0_233 (by decide) rfl (by first | exact ⟨i_lo _, i_hi _⟩ | omega) (by first | exact ⟨i_lo _, i_hi _⟩ | omega) (fun c233 => ?_) (fun c233 => ?_)
                    · refine Go_iconst (v := iZ 1) (pc' := 285) dX12_next0_284 rfl (by decide) ?_
                      refine Go_goto (tgt := 289) dX12_next0_285 (by decide) ?_
                      refine Go_istore_n (pc' := 290) (lv' := [.ref _, .int _, .int _]) dX12_next0_289 rfl rfl (Nat.le_of_ble_eq_true rfl) rfl rfl ?_
                      refine Go_aload_n (pc' := 291) dX12_next0_290 rfl rfl rfl ?_
                      refine Go_iload_n (pc' := 292) dX12_next0_291 rfl rfl rfl ?_
                      refine Go_if_eqY (tgt := 302) (pc' := 295) dX12_next0_292 (by decide) rfl (by first | exact ⟨i_lo _, i_hi _⟩ | omega) (fun c292 => by exfalso; omega) (fun c292 => ?_)
                      refine Go_bipush (v := iZ 100) (pc' := 297) dX12_next0_295 rfl (by decide) ?_
                      refine Go_iload_n (pc' := 298) dX12_next0_297 rfl rfl rfl ?_
                      refine Go_iaddZ (pc' := 299) dX12_next0_298 rfl ?_
                      refine Go_goto (tgt := 303) dX12_next0_299 (by decide) ?_
                      refine Go_putI (pc' := 306) dX12_next0_303 rfl kf_RX12_255 (by decide) (by decide) rfl (S.b 99 rfl rfl) (S.o 99 rfl rfl rfl) (Or.inl rfl) rfl rfl ?_
                      refine Go_return dX12_next0_306 rfl ?_
                      refine hk _ (((((DX.rf _ _).wI (by unfold Pm; omega)).wI (by unfold Pm; omega)).wI (by unfold Pm; omega)).wI (by unfold Pm; omega)) (((vi_skip (Or.inr (by decide))).trans (vi_same)).trans (congrArg iZ (by omega))) ((vi_same).trans (congrArg iZ (by omega))) ((vi_skip (Or.inr (by decide))).trans ((vi_skip (Or.inr (by decide))).trans (vi_same))) (fun z => by exfalso; omega)
                    · refine Go_iload_n (pc' := 237) dX12_next0_236 rfl rfl rfl ?_
                      refine Go_bipush (v := iZ 45) (pc' := 239) dX12_next0_237 rfl (by decide) ?_
                      refine Go_icmp_eqY (tgt := 284) (pc' := 242) dX12_next0_239 (by decide) rfl (by first | exact ⟨i_lo _, i_hi _⟩ | omega) (by first | exact ⟨i_lo _, i_hi _⟩ | omega) (fun c239 => ?_) (fun c239 => ?_)
                      · refine Go_iconst (v := iZ 1) (pc' := 285) dX12_next0_284 rfl (by decide) ?_
                        refine Go_goto (tgt := 289) dX12_next0_285 (by decide) ?_
                        refine Go_istore_n (pc' := 290) (lv' := [.ref _, .int _, .int _]) dX12_next0_289 rfl rfl (Nat.le_of_ble_eq_true rfl) rfl rfl ?_
                        refine Go_aload_n (pc' := 291) dX12_next0_290 rfl rfl rfl ?_
                        refine Go_iload_n (pc' := 292) dX12_next0_291 rfl rfl rfl ?_
                        refine Go_if_eqY (tgt := 302) (pc' := 295) dX12_next0_292 (by decide) rfl (by first | exact ⟨i_lo _, i_hi _⟩ | omega) (fun c292 => by exfalso; omega) (fun c292 => ?_)
                        refine Go_bipush (v := iZ 100) (pc' := 297) dX12_next0_295 rfl (by decide) ?_
                        refine Go_iload_n (pc' := 298) dX12_next0_297 rfl rfl rfl ?_
                        refine Go_iaddZ (pc' := 299) dX12_next0_298 rfl ?_
                        refine Go_goto (tgt := 303) dX12_next0_299 (by decide) ?_
                        refine Go_putI (pc' := 306) dX12_next0_303 rfl kf_RX12_255 (by decide) (by decide) rfl (S.b 99 rfl rfl) (S.o 99 rfl rfl rfl) (Or.inl rfl) rfl rfl ?_
                        refine Go_return dX12_next0_306 rfl ?_
                        refine hk _ (((((DX.rf _ _).wI (by unfold Pm; omega)).wI (by unfold Pm; omega)).wI (by unfold Pm; omega)).wI (by unfold Pm; omega)) (((vi_skip (Or.inr (by decide))).trans (vi_same)).trans (congrArg iZ (by omega))) ((vi_same).trans (congrArg iZ (by omega))) ((vi_skip (Or.inr (by decide))).trans ((vi_skip (Or.inr (by decide))).trans (vi_same))) (fun z => by exfalso; omega)
                      · refine Go_iload_n (pc' := 243) dX12_next0_242 rfl rfl rfl ?_
                        refine Go_bipush (v := iZ 42) (pc' := 245) dX12_next0_243 rfl (by decide) ?_
                        refine Go_icmp_eqY (tgt := 284) (pc' := 248) dX12_next0_245 (by decide) rfl (by first | exact ⟨i_lo _, i_hi _⟩ | omega) (by first | exact ⟨i_lo _, i_hi _⟩ | omega) (fun c245 => ?_) (fun c245 => ?_)
                        · refine Go_iconst (v := iZ 1) (pc' := 285) dX12_next0_284 rfl (by decide) ?_
                          refine Go_goto (tgt := 289) dX12_next0_285 (by decide) ?_
                          refine Go_istore_n (pc' := 290) (lv' := [.ref _, .int _, .int _]) dX12_next0_289 rfl rfl (Nat.le_of_ble_eq_true rfl) rfl rfl ?_
                          refine Go_aload_n (pc' := 291) dX12_next0_290 rfl rfl rfl ?_
                          refine Go_iload_n (pc' := 292) dX12_next0_291 rfl rfl rfl ?_
                          refine Go_if_eqY (tgt := 302) (pc' := 295) dX12_next0_292 (by decide) rfl (by first | exact ⟨i_lo _, i_hi _⟩ | omega) (fun c292 => by exfalso; omega) (fun c292 => ?_)
                          refine Go_bipush (v := iZ 100) (pc' := 297) dX12_next0_295 rfl (by decide) ?_
                          refine Go_iload_n (pc' := 298) dX12_next0_297 rfl rfl rfl ?_
                          refine Go_iaddZ (pc' := 299) dX12_next0_298 rfl ?_
                          refine Go_goto (tgt := 303) dX12_next0_299 (by decide) ?_
                          refine Go_putI (pc' := 306) dX12_next0_303 rfl kf_RX12_255 (by decide) (by decide) rfl (S.b 99 rfl rfl) (S.o 99 rfl rfl rfl) (Or.inl rfl) rfl rfl ?_
                          refine Go_return dX12_next0_306 rfl ?_
                          refine hk _ (((((DX.rf _ _).wI (by unfold Pm; omega)).wI (by unfold Pm; omega)).wI (by unfold Pm; omega)).wI (by unfold Pm; omega)) (((vi_skip (Or.inr (by decide))).trans (vi_same)).trans (congrArg iZ (by omega))) ((vi_same).trans (congrArg iZ (by omega))) ((vi_skip (Or.inr (by decide))).trans ((vi_skip (Or.inr (by decide))).trans (vi_same))) (fun z => by exfalso; omega)
                        · refine Go_iload_n (pc' := 249) dX12_next0_248 rfl rfl rfl ?_
                          refine Go_bipush (v := iZ 47) (pc' := 251) dX12_next0_249 rfl (by decide) ?_
                          refine Go_icmp_eqY (tgt := 284) (pc' := 254) dX12_next0_251 (by decide) rfl (by first | exact ⟨i_lo _, i_hi _⟩ | omega) (by first | exact ⟨i_lo _, i_hi _⟩ | omega) (fun c251 => ?_) (fun c251 => ?_)
                          · refine Go_iconst (v := iZ 1) (pc' := 285) dX12_next0_284 rfl (by decide) ?_
                            refine Go_goto (tgt := 289) dX12_next0_285 (by decide) ?_
                            refine Go_istore_n (pc' := 290) (lv' := [.ref _, .int _, .int _]) dX12_next0_289 rfl rfl (Nat.le_of_ble_eq_true rfl) rfl rfl ?_
                            refine Go_aload_n (pc' := 291) dX12_next0_290 rfl rfl rfl ?_
                            refine Go_iload_n (pc' := 292) dX12_next0_291 rfl rfl rfl ?_
                            refine Go_if_eqY (tgt := 302) (pc' := 295) dX12_next0_292 (by decide) rfl (by first | exact ⟨i_lo _, i_hi _⟩ | omega) (fun c292 => by exfalso; omega) (fun c292 => ?_)
                            refine Go_bipush (v := iZ 100) (pc' := 297) dX12_next0_295 rfl (by decide) ?_
                            refine Go_iload_n (pc' := 298) dX12_next0_297 rfl rfl rfl ?_
                            refine Go_iaddZ (pc' := 299) dX12_next0_298 rfl ?_
                            refine Go_goto (tgt := 303) dX12_next0_299 (by decide) ?_
                            refine Go_putI (pc' := 306) dX12_next0_303 rfl kf_RX12_255 (by decide) (by decide) rfl (S.b 99 rfl rfl) (S.o 99 rfl rfl rfl) (Or.inl rfl) rfl rfl ?_
                            refine Go_return dX12_next0_306 rfl ?_
                            refine hk _ (((((DX.rf _ _).wI (by unfold Pm; omega)).wI (by unfold Pm; omega)).wI (by unfold Pm; omega)).wI (by unfold Pm; omega)) (((vi_skip (Or.inr (by decide))).trans (vi_same)).trans (congrArg iZ (by omega))) ((vi_same).trans (congrArg iZ (by omega))) ((vi_skip (Or.inr (by decide))).trans ((vi_skip (Or.inr (by decide))).trans (vi_same))) (fun z => by exfalso; omega)
                          · refine Go_iload_n (pc' := 255) dX12_next0_254 rfl rfl rfl ?_
                            refine Go_bipush (v := iZ 40) (pc' := 257) dX12_next0_255 rfl (by decide) ?_
                            refine Go_icmp_eqY (tgt := 284) (pc' := 260) dX12_next0_257 (by decide) rfl (by first | exact ⟨i_lo _, i_hi _⟩ | omega) (by first | exact ⟨i_lo _, i_hi _⟩ | omega) (fun c257 => ?_) (fun c257 => ?_)
                            · refine Go_iconst (v := iZ 1) (pc' := 285) dX12_next0_284 rfl (by decide) ?_
                              refine Go_goto (tgt := 289) dX12_next0_285 (by decide) ?_
                              refine Go_istore_n (pc' := 290) (lv' := [.ref _, .int _, .int _]) dX12_next0_289 rfl rfl (Nat.le_of_ble_eq_true rfl) rfl rfl ?_
                              refine Go_aload_n (pc' := 291) dX12_next0_290 rfl rfl rfl ?_
                              refine Go_iload_n (pc' := 292) dX12_next0_291 rfl rfl rfl ?_
                              refine Go_if_eqY (tgt := 302) (pc' := 295) dX12_next0_292 (by decide) rfl (by first | exact ⟨i_lo _, i_hi _⟩ | omega) (fun c292 => by exfalso; omega) (fun c292 => ?_)
                              refine Go_bipush (v := iZ 100) (pc' := 297) dX12_next0_295 rfl (by decide) ?_
                              refine Go_iload_n (pc' := 298) dX12_next0_297 rfl rfl rfl ?_
                              refine Go_iaddZ (pc' := 299) dX12_next0_298 rfl ?_
                              refine Go_goto (tgt := 303) dX12_next0_299 (by decide) ?_
                              refine Go_putI (pc' := 306) dX12_next0_303 rfl kf_RX12_255 (by decide) (by decide) rfl (S.b 99 rfl rfl) (S.o 99 rfl rfl rfl) (Or.inl rfl) rfl rfl ?_
                              refine Go_return dX12_next0_306 rfl ?_
                              refine hk _ (((((DX.rf _ _).wI (by unfold Pm; omega)).wI (by unfold Pm; omega)).wI (by unfold Pm; omega)).wI (by unfold Pm; omega)) (((vi_skip (Or.inr (by decide))).trans (vi_same)).trans (congrArg iZ (by omega))) ((vi_same).trans (congrArg iZ (by omega))) ((vi_skip (Or.inr (by decide))).trans ((vi_skip (Or.inr (by decide))).trans (vi_same))) (fun z => by exfalso; omega)
                            · refine Go_iload_n (pc' := 261) dX12_next0_260 rfl rfl rfl ?_
                              refine Go_bipush (v := iZ 41) (pc' := 263) dX12_next0_261 rfl (by decide) ?_
                              refine Go_icmp_eqY (tgt := 284) (pc' := 266) dX12_next0_263 (by decide) rfl (by first | exact ⟨i_lo _, i_hi _⟩ | omega) (by first | exact ⟨i_lo _, i_hi _⟩ | omega) (fun c263 => ?_) (fun c263 => ?_)
                              · refine Go_iconst (v := iZ 1) (pc' := 285) dX12_next0_284 rfl (by decide) ?_
                                refine Go_goto (tgt := 289) dX12_next0_285 (by decide) ?_
                                refine Go_istore_n (pc' := 290) (lv' := [.ref _, .int _, .int _]) dX12_next0_289 rfl rfl (Nat.le_of_ble_eq_true rfl) rfl rfl ?_
                                refine Go_aload_n (pc' := 291) dX12_next0_290 rfl rfl rfl ?_
                                refine Go_iload_n (pc' := 292) dX12_next0_291 rfl rfl rfl ?_
                                refine Go_if_eqY (tgt := 302) (pc' := 295) dX12_next0_292 (by decide) rfl (by first | exact ⟨i_lo _, i_hi _⟩ | omega) (fun c292 => by exfalso; omega) (fun c292 => ?_)
                                refine Go_bipush (v := iZ 100) (pc' := 297) dX12_next0_295 rfl (by decide) ?_
                                refine Go_iload_n (pc' := 298) dX12_next0_297 rfl rfl rfl ?_
                                refine Go_iaddZ (pc' := 299) dX12_next0_298 rfl ?_
                                refine Go_goto (tgt := 303) dX12_next0_299 (by decide) ?_
                                refine Go_putI (pc' := 306) dX12_next0_303 rfl kf_RX12_255 (by decide) (by decide) rfl (S.b 99 rfl rfl) (S.o 99 rfl rfl rfl) (Or.inl rfl) rfl rfl ?_
                                refine Go_return dX12_next0_306 rfl ?_
                                refine hk _ (((((DX.rf _ _).wI (by unfold Pm; omega)).wI (by unfold Pm; omega)).wI (by unfold Pm; omega)).wI (by unfold Pm; omega)) (((vi_skip (Or.inr (by decide))).trans (vi_same)).trans (congrArg iZ (by omega))) ((vi_same).trans (congrArg iZ (by omega))) ((vi_skip (Or.inr (by decide))).trans ((vi_skip (Or.inr (by decide))).trans (vi_same))) (fun z => by exfalso; omega)
                              · refine Go_iload_n (pc' := 267) dX12_next0_266 rfl rfl rfl ?_
                                refine Go_bipush (v := iZ 60) (pc' := 269) dX12_next0_267 rfl (by decide) ?_
                                refine Go_icmp_eqY (tgt := 284) (pc' := 272) dX12_next0_269 (by decide) rfl (by first | exact ⟨i_lo _, i_hi _⟩ | omega) (by first | exact ⟨i_lo _, i_hi _⟩ | omega) (fun c269 => ?_) (fun c269 => ?_)
                                · refine Go_iconst (v := iZ 1) (pc' := 285) dX12_next0_284 rfl (by decide) ?_
                                  refine Go_goto (tgt := 289) dX12_next0_285 (by decide) ?_
                                  refine Go_istore_n (pc' := 290) (lv' := [.ref _, .int _, .int _]) dX12_next0_289 rfl rfl (Nat.le_of_ble_eq_true rfl) rfl rfl ?_
                                  refine Go_aload_n (pc' := 291) dX12_next0_290 rfl rfl rfl ?_
                                  refine Go_iload_n (pc' := 292) dX12_next0_291 rfl rfl rfl ?_
                                  refine Go_if_eqY (tgt := 302) (pc' := 295) dX12_next0_292 (by decide) rfl (by first | exact ⟨i_lo _, i_hi _⟩ | omega) (fun c292 => by exfalso; omega) (fun c292 => ?_)
                                  refine Go_bipush (v := iZ 100) (pc' := 297) dX12_next0_295 rfl (by decide) ?_
                                  refine Go_iload_n (pc' := 298) dX12_next0_297 rfl rfl rfl ?_
                                  refine Go_iaddZ (pc' := 299) dX12_next0_298 rfl ?_
                                  refine Go_goto (tgt := 303) dX12_next0_299 (by decide) ?_
                                  refine Go_putI (pc' := 306) dX12_next0_303 rfl kf_RX12_255 (by decide) (by decide) rfl (S.b 99 rfl rfl) (S.o 99 rfl rfl rfl) (Or.inl rfl) rfl rfl ?_
                                  refine Go_return dX12_next0_306 rfl ?_
                                  refine hk _ (((((DX.rf _ _).wI (by unfold Pm; omega)).wI (by unfold Pm; omega)).wI (by unfold Pm; omega)).wI (by unfold Pm; omega)) (((vi_skip (Or.inr (by decide))).trans (vi_same)).trans (congrArg iZ (by omega))) ((vi_same).trans (congrArg iZ (by omega))) ((vi_skip (Or.inr (by decide))).trans ((vi_skip (Or.inr (by decide))).trans (vi_same))) (fun z => by exfalso; omega)
                                · refine Go_iload_n (pc' := 273) dX12_next0_272 rfl rfl rfl ?_
                                  refine Go_bipush (v := iZ 61) (pc' := 275) dX12_next0_273 rfl (by decide) ?_
                                  refine Go_icmp_eqY (tgt := 284) (pc' := 278) dX12_next0_275 (by decide) rfl (by first | exact ⟨i_lo _, i_hi _⟩ | omega) (by first | exact ⟨i_lo _, i_hi _⟩ | omega) (fun c275 => ?_) (fun c275 => ?_)
                                  · refine Go_iconst (v := iZ 1) (pc' := 285) dX12_next0_284 rfl (by decide) ?_
                                    refine Go_goto (tgt := 289) dX12_next0_285 (by decide) ?_
                                    refine Go_istore_n (pc' := 290) (lv' := [.ref _, .int _, .int _]) dX12_next0_289 rfl rfl (Nat.le_of_ble_eq_true rfl) rfl rfl ?_
                                    refine Go_aload_n (pc' := 291) dX12_next0_290 rfl rfl rfl ?_
                                    refine Go_iload_n (pc' := 292) dX12_next0_291 rfl rfl rfl ?_
                                    refine Go_if_eqY (tgt := 302) (pc' := 295) dX12_next0_292 (by decide) rfl (by first | exact ⟨i_lo _, i_hi _⟩ | omega) (fun c292 => by exfalso; omega) (fun c292 => ?_)
                                    refine Go_bipush (v := iZ 100) (pc' := 297) dX12_next0_295 rfl (by decide) ?_
                                    refine Go_iload_n (pc' := 298) dX12_next0_297 rfl rfl rfl ?_
                                    refine Go_iaddZ (pc' := 299) dX12_next0_298 rfl ?_
                                    refine Go_goto (tgt := 303) dX12_next0_299 (by decide) ?_
                                    refine Go_putI (pc' := 306) dX12_next0_303 rfl kf_RX12_255 (by decide) (by decide) rfl (S.b 99 rfl rfl) (S.o 99 rfl rfl rfl) (Or.inl rfl) rfl rfl ?_
                                    refine Go_return dX12_next0_306 rfl ?_
                                    refine hk _ (((((DX.rf _ _).wI (by unfold Pm; omega)).wI (by unfold Pm; omega)).wI (by unfold Pm; omega)).wI (by unfold Pm; omega)) (((vi_skip (Or.inr (by decide))).trans (vi_same)).trans (congrArg iZ (by omega))) ((vi_same).trans (congrArg iZ (by omega))) ((vi_skip (Or.inr (by decide))).trans ((vi_skip (Or.inr (by decide))).trans (vi_same))) (fun z => by exfalso; omega)
                                  · refine Go_iload_n (pc' := 279) dX12_next0_278 rfl rfl rfl ?_
                                    refine Go_bipush (v := iZ 62) (pc' := 281) dX12_next0_279 rfl (by decide) ?_
                                    refine Go_icmp_neY (tgt := 288) (pc' := 284) dX12_next0_281 (by decide) rfl (by first | exact ⟨i_lo _, i_hi _⟩ | omega) (by first | exact ⟨i_lo _, i_hi _⟩ | omega) (fun c281 => ?_) (fun c281 => ?_)
                                    · refine Go_iconst (v := iZ 0) (pc' := 289) dX12_next0_288 rfl (by decide) ?_
                                      refine Go_istore_n (pc' := 290) (lv' := [.ref _, .int _, .int _]) dX12_next0_289 rfl rfl (Nat.le_of_ble_eq_true rfl) rfl rfl ?_
                                      refine Go_aload_n (pc' := 291) dX12_next0_290 rfl rfl rfl ?_
                                      refine Go_iload_n (pc' := 292) dX12_next0_291 rfl rfl rfl ?_
                                      refine Go_if_eqY (tgt := 302) (pc' := 295) dX12_next0_292 (by decide) rfl (by first | exact ⟨i_lo _, i_hi _⟩ | omega) (fun c292 => ?_) (fun c292 => by exfalso; omega)
                                      refine Go_iconst (v := iZ 1) (pc' := 303) dX12_next0_302 rfl (by decide) ?_
                                      refine Go_putI (pc' := 306) dX12_next0_303 rfl kf_RX12_255 (by decide) (by decide) rfl (S.b 99 rfl rfl) (S.o 99 rfl rfl rfl) (Or.inl rfl) rfl rfl ?_
                                      refine Go_return dX12_next0_306 rfl ?_
                                      refine hk _ (((((DX.rf _ _).wI (by unfold Pm; omega)).wI (by unfold Pm; omega)).wI (by unfold Pm; omega)).wI (by unfold Pm; omega)) (((vi_skip (Or.inr (by decide))).trans (vi_same)).trans (congrArg iZ (by omega))) ((vi_same).trans (congrArg iZ (by omega))) ((vi_skip (Or.inr (by decide))).trans ((vi_skip (Or.inr (by decide))).trans (vi_same))) (fun z => by exfalso; omega)
                                    · refine Go_iconst (v := iZ 1) (pc' := 285) dX12_next0_284 rfl (by decide) ?_
                                      refine Go_goto (tgt := 289) dX12_next0_285 (by decide) ?_
                                      refine Go_istore_n (pc' := 290) (lv' := [.ref _, .int _, .int _]) dX12_next0_289 rfl rfl (Nat.le_of_ble_eq_true rfl) rfl rfl ?_
                                      refine Go_aload_n (pc' := 291) dX12_next0_290 rfl rfl rfl ?_
                                      refine Go_iload_n (pc' := 292) dX12_next0_291 rfl rfl rfl ?_
                                      refine Go_if_eqY (tgt := 302) (pc' := 295) dX12_next0_292 (by decide) rfl (by first | exact ⟨i_lo _, i_hi _⟩ | omega) (fun c292 => by exfalso; omega) (fun c292 => ?_)
                                      refine Go_bipush (v := iZ 100) (pc' := 297) dX12_next0_295 rfl (by decide) ?_
                                      refine Go_iload_n (pc' := 298) dX12_next0_297 rfl rfl rfl ?_
                                      refine Go_iaddZ (pc' := 299) dX12_next0_298 rfl ?_
                                      refine Go_goto (tgt := 303) dX12_next0_299 (by decide) ?_
                                      refine Go_putI (pc' := 306) dX12_next0_303 rfl kf_RX12_255 (by decide) (by decide) rfl (S.b 99 rfl rfl) (S.o 99 rfl rfl rfl) (Or.inl rfl) rfl rfl ?_
                                      refine Go_return dX12_next0_306 rfl ?_
                                      refine hk _ (((((DX.rf _ _).wI (by unfold Pm; omega)).wI (by unfold Pm; omega)).wI (by unfold Pm; omega)).wI (by unfold Pm; omega)) (((vi_skip (Or.inr (by decide))).trans (vi_same)).trans (congrArg iZ (by omega))) ((vi_same).trans (congrArg iZ (by omega))) ((vi_skip (Or.inr (by decide))).trans ((vi_skip (Or.inr (by decide))).trans (vi_same))) (fun z => by exfalso; omega)
                · exfalso; omega
              · refine Go_iconst (v := iZ 1) (pc' := 23) dX12_isLetter_22 rfl (by decide) ?_
                refine Go_goto (tgt := 27) dX12_isLetter_23 (by decide) ?_
                refine Go_ireturn (ty := .boolean) dX12_isLetter_27 rfl rfl ?_
                refine ⟨_, rfl, ?_⟩
                refine Go_if_eqY (tgt := 114) (pc' := 76) dX12_next0_73 (by decide) rfl (by first | exact ⟨i_lo _, i_hi _⟩ | omega) (fun c73 => by exfalso; omega) (fun c73 => ?_)
                exfalso; omega
          · exfalso; omega
        · rw [if_neg sg] at hC
          have hM : mtk (tC T n pos) = 1 := by
            rw [hC]
            rfl
          refine Go_aload_n (pc' := 40) dX12_next0_39 rfl rfl rfl ?_
          refine Go_aload_n (pc' := 41) dX12_next0_40 rfl rfl rfl ?_
          refine Go_getIv (v := (iZ (tP T n pos : Int))) (pc' := 44) dX12_next0_41 rfl kf_RX12_206 (by decide) (by decide) rfl (S.b 99 rfl rfl) (S.o 99 rfl rfl rfl) (vi_same) ?_
          refine Go_putI (pc' := 47) dX12_next0_44 rfl kf_RX12_209 (by decide) (by decide) rfl (S.b 99 rfl rfl) (S.o 99 rfl rfl rfl) (Or.inl rfl) rfl rfl ?_
          refine Go_aload_n (pc' := 48) dX12_next0_47 rfl rfl rfl ?_
          refine Go_aload_n (pc' := 49) dX12_next0_48 rfl rfl rfl ?_
          refine Go_getIv (v := (iZ (tP T n pos : Int))) (pc' := 52) dX12_next0_49 rfl kf_RX12_206 (by decide) (by decide) rfl (S.b 99 rfl rfl) (S.o 99 rfl rfl rfl) ((vi_skip (Or.inr (by decide))).trans (vi_same)) ?_
          refine Go_callV_i (pc' := 55) (As := [.int _]) (st := []) dX12_next0_52 rfl ok_X12_see km_RX12_252 (S.o 99 rfl rfl rfl) (S.b 99 rfl rfl) ⟨_, _, rfl⟩ rfl (Nat.le_of_ble_eq_true rfl) rfl rfl rfl (Nat.le_of_ble_eq_true rfl) (Nat.lt_succ_self _) ?_
          refine s_see (p := (tP T n pos)) (TM.w (TM.w F (by decide)) (by decide)) (by omega) ?_
          refine ⟨_, rfl, ?_⟩
          refine Go_istore_n (pc' := 56) (lv' := [.ref _, .int _, un]) dX12_next0_55 rfl rfl (Nat.le_of_ble_eq_true rfl) rfl rfl ?_
          refine Go_iload_n (pc' := 57) dX12_next0_56 rfl rfl rfl ?_
          refine Go_iconst (v := iZ (-1)) (pc' := 58) dX12_next0_57 rfl (by decide) ?_
          refine Go_icmp_neY (tgt := 69) (pc' := 61) dX12_next0_58 (by decide) rfl (by first | exact ⟨i_lo _, i_hi _⟩ | omega) (by first | exact ⟨i_lo _, i_hi _⟩ | omega) (fun c58 => ?_) (fun c58 => ?_)
          · refine Go_iload_n (pc' := 70) dX12_next0_69 rfl rfl rfl ?_
            refine Go_callS_i (pc' := 73) (As := [.int _]) (st := []) dX12_next0_70 rfl ok_X12_isLetter km_RX12_258 rfl (Nat.le_of_ble_eq_true rfl) rfl rfl rfl (Nat.le_of_ble_eq_true rfl) (Nat.lt_succ_self _) ?_
            refine Go_iload_n (pc' := 1) dX12_isLetter_0 rfl rfl rfl ?_
            refine Go_bipush (v := iZ 97) (pc' := 3) dX12_isLetter_1 rfl (by decide) ?_
            refine Go_bipush (v := iZ 122) (pc' := 5) dX12_isLetter_3 rfl (by decide) ?_
            refine Go_callS_i (pc' := 8) (As := [.int _, .int _, .int _]) (st := []) dX12_isLetter_5 rfl ok_X12_isIn km_RX12_147 rfl (Nat.le_of_ble_eq_true rfl) rfl rfl rfl (Nat.le_of_ble_eq_true rfl) (Nat.lt_succ_self _) ?_
            refine s_isInY (by first | exact ⟨i_lo _, i_hi _⟩ | omega) (by first | exact ⟨i_lo _, i_hi _⟩ | omega) (by first | exact ⟨i_lo _, i_hi _⟩ | omega) ?_
            refine ⟨_, rfl, ?_⟩
            refine Go_if_neb (tgt := 22) (pc' := 11) dX12_isLetter_8 (by decide) rfl (fun l8 => ?_) (fun l8 => ?_)
            · refine Go_iconst (v := iZ 1) (pc' := 23) dX12_isLetter_22 rfl (by decide) ?_
              refine Go_goto (tgt := 27) dX12_isLetter_23 (by decide) ?_
              refine Go_ireturn (ty := .boolean) dX12_isLetter_27 rfl rfl ?_
              refine ⟨_, rfl, ?_⟩
              refine Go_if_eqY (tgt := 114) (pc' := 76) dX12_next0_73 (by decide) rfl (by first | exact ⟨i_lo _, i_hi _⟩ | omega) (fun c73 => by exfalso; omega) (fun c73 => ?_)
              exfalso; omega
            · refine Go_iload_n (pc' := 12) dX12_isLetter_11 rfl rfl rfl ?_
              refine Go_bipush (v := iZ 65) (pc' := 14) dX12_isLetter_12 rfl (by decide) ?_
              refine Go_bipush (v := iZ 90) (pc' := 16) dX12_isLetter_14 rfl (by decide) ?_
              refine Go_callS_i (pc' := 19) (As := [.int _, .int _, .int _]) (st := []) dX12_isLetter_16 rfl ok_X12_isIn km_RX12_147 rfl (Nat.le_of_ble_eq_true rfl) rfl rfl rfl (Nat.le_of_ble_eq_true rfl) (Nat.lt_succ_self _) ?_
              refine s_isInY (by first | exact ⟨i_lo _, i_hi _⟩ | omega) (by first | exact ⟨i_lo _, i_hi _⟩ | omega) (by first | exact ⟨i_lo _, i_hi _⟩ | omega) ?_
              refine ⟨_, rfl, ?_⟩
              refine Go_if_eqb (tgt := 26) (pc' := 22) dX12_isLetter_19 (by decide) rfl (fun l19 => ?_) (fun l19 => ?_)
              · refine Go_iconst (v := iZ 0) (pc' := 27) dX12_isLetter_26 rfl (by decide) ?_
                refine Go_ireturn (ty := .boolean) dX12_isLetter_27 rfl rfl ?_
                refine ⟨_, rfl, ?_⟩
                refine Go_if_eqY (tgt := 114) (pc' := 76) dX12_next0_73 (by decide) rfl (by first | exact ⟨i_lo _, i_hi _⟩ | omega) (fun c73 => ?_) (fun c73 => by exfalso; omega)
                refine Go_iload_n (pc' := 115) dX12_next0_114 rfl rfl rfl ?_
                refine Go_callS_i (pc' := 118) (As := [.int _]) (st := []) dX12_next0_115 rfl ok_X12_isDigit km_RX12_264 rfl (Nat.le_of_ble_eq_true rfl) rfl rfl rfl (Nat.le_of_ble_eq_true rfl) (Nat.lt_succ_self _) ?_
                refine Go_iload_n (pc' := 1) dX12_isDigit_0 rfl rfl rfl ?_
                refine Go_bipush (v := iZ 48) (pc' := 3) dX12_isDigit_1 rfl (by decide) ?_
                refine Go_bipush (v := iZ 57) (pc' := 5) dX12_isDigit_3 rfl (by decide) ?_
                refine Go_callS_i (pc' := 8) (As := [.int _, .int _, .int _]) (st := []) dX12_isDigit_5 rfl ok_X12_isIn km_RX12_147 rfl (Nat.le_of_ble_eq_true rfl) rfl rfl rfl (Nat.le_of_ble_eq_true rfl) (Nat.lt_succ_self _) ?_
                refine s_isInY (by first | exact ⟨i_lo _, i_hi _⟩ | omega) (by first | exact ⟨i_lo _, i_hi _⟩ | omega) (by first | exact ⟨i_lo _, i_hi _⟩ | omega) ?_
                refine ⟨_, rfl, ?_⟩
                refine Go_ireturn (ty := .boolean) dX12_isDigit_8 rfl b2i_nb ?_
                refine ⟨_, rfl, ?_⟩
                refine Go_if_eqb (tgt := 214) (pc' := 121) dX12_next0_118 (by decide) rfl (fun c118 => ?_) (fun c118 => ?_)
                · refine Go_aload_n (pc' := 215) dX12_next0_214 rfl rfl rfl ?_
                  refine Go_dup (pc' := 216) dX12_next0_215 rfl rfl ?_
                  refine Go_getIv (v := (iZ (tP T n pos : Int))) (pc' := 219) dX12_next0_216 rfl kf_RX12_206 (by decide) (by decide) rfl (S.b 99 rfl rfl) (S.o 99 rfl rfl rfl) ((vi_skip (Or.inr (by decide))).trans (vi_same)) ?_
                  refine Go_iconst (v := iZ 1) (pc' := 220) dX12_next0_219 rfl (by decide) ?_
                  refine Go_iaddZ (pc' := 221) dX12_next0_220 rfl ?_
                  refine Go_putI (pc' := 224) dX12_next0_221 rfl kf_RX12_206 (by decide) (by decide) rfl (S.b 99 rfl rfl) (S.o 99 rfl rfl rfl) (Or.inl rfl) rfl rfl ?_
                  refine Go_iload_n (pc' := 225) dX12_next0_224 rfl rfl rfl ?_
                  refine Go_bipush (v := iZ 59) (pc' := 227) dX12_next0_225 rfl (by decide) ?_
                  refine Go_icmp_eqY (tgt := 284) (pc' := 230) dX12_next0_227 (by decide) rfl (by first | exact ⟨i_lo _, i_hi _⟩ | omega) (by first | exact ⟨i_lo _, i_hi _⟩ | omega) (fun c227 => ?_) (fun c227 => ?_)
                  · refine Go_iconst (v := iZ 1) (pc' := 285) dX12_next0_284 rfl (by decide) ?_
                    refine Go_goto (tgt := 289) dX12_next0_285 (by decide) ?_
                    refine Go_istore_n (pc' := 290) (lv' := [.ref _, .int _, .int _]) dX12_next0_289 rfl rfl (Nat.le_of_ble_eq_true rfl) rfl rfl ?_
                    refine Go_aload_n (pc' := 291) dX12_next0_290 rfl rfl rfl ?_
                    refine Go_iload_n (pc' := 292) dX12_next0_291 rfl rfl rfl ?_
                    refine Go_if_eqY (tgt := 302) (pc' := 295) dX12_next0_292 (by decide) rfl (by first | exact ⟨i_lo _, i_hi _⟩ | omega) (fun c292 => by exfalso; omega) (fun c292 => ?_)
                    refine Go_bipush (v := iZ 100) (pc' := 297) dX12_next0_295 rfl (by decide) ?_
                    refine Go_iload_n (pc' := 298) dX12_next0_297 rfl rfl rfl ?_
                    refine Go_iaddZ (pc' := 299) dX12_next0_298 rfl ?_
                    refine Go_goto (tgt := 303) dX12_next0_299 (by decide) ?_
                    refine Go_putI (pc' := 306) dX12_next0_303 rfl kf_RX12_255 (by decide) (by decide) rfl (S.b 99 rfl rfl) (S.o 99 rfl rfl rfl) (Or.inl rfl) rfl rfl ?_
                    refine Go_return dX12_next0_306 rfl ?_
                    refine hk _ (((((DX.rf _ _).wI (by unfold Pm; omega)).wI (by unfold Pm; omega)).wI (by unfold Pm; omega)).wI (by unfold Pm; omega)) (((vi_skip (Or.inr (by decide))).trans (vi_same)).trans (congrArg iZ (by omega))) ((vi_same).trans (congrArg iZ (by omega))) ((vi_skip (Or.inr (by decide))).trans ((vi_skip (Or.inr (by decide))).trans (vi_same))) (fun z => by exfalso; omega)
                  · refine Go_iload_n (pc' := 231) dX12_next0_230 rfl rfl rfl ?_
                    refine Go_bipush (v := iZ 43) (pc' := 233) dX12_next0_231 rfl (by decide) ?_
                    refine Go_icmp_eqY (tgt := 284) (pc' := 236) dX12_next0_233 (by decide) rfl (by first | exact ⟨i_lo _, i_hi _⟩ | omega) (by first | exact ⟨i_lo _, i_hi _⟩ | omega) (fun c233 => ?_) (fun c233 => ?_)
                    · refine Go_iconst (v := iZ 1) (pc' := 285) dX12_next0_284 rfl (by decide) ?_
                      refine Go_goto (tgt := 289) dX12_next0_285 (by decide) ?_
                      refine Go_istore_n (pc' := 290) (lv' := [.ref _, .int _, .int _]) dX12_next0_289 rfl rfl (Nat.le_of_ble_eq_true rfl) rfl rfl ?_
                      refine Go_aload_n (pc' := 291) dX12_next0_290 rfl rfl rfl ?_
                      refine Go_iload_n (pc' := 292) dX12_next0_291 rfl rfl rfl ?_
                      refine Go_if_eqY (tgt := 302) (pc' := 295) dX12_next0_292 (by decide) rfl (by first | exact ⟨i_lo _, i_hi _⟩ | omega) (fun c292 => by exfalso; omega) (fun c292 => ?_)
                      refine Go_bipush (v := iZ 100) (pc' := 297) dX12_next0_295 rfl (by decide) ?_
                      refine Go_iload_n (pc' := 298) dX12_next0_297 rfl rfl rfl ?_
                      refine Go_iaddZ (pc' := 299) dX12_next0_298 rfl ?_
                      refine Go_goto (tgt := 303) dX12_next0_299 (by decide) ?_
                      refine Go_putI (pc' := 306) dX12_next0_303 rfl kf_RX12_255 (by decide) (by decide) rfl (S.b 99 rfl rfl) (S.o 99 rfl rfl rfl) (Or.inl rfl) rfl rfl ?_
                      refine Go_return dX12_next0_306 rfl ?_
                      refine hk _ (((((DX.rf _ _).wI (by unfold Pm; omega)).wI (by unfold Pm; omega)).wI (by unfold Pm; omega)).wI (by unfold Pm; omega)) (((vi_skip (Or.inr (by decide))).trans (vi_same)).trans (congrArg iZ (by omega))) ((vi_same).trans (congrArg iZ (by omega))) ((vi_skip (Or.inr (by decide))).trans ((vi_skip (Or.inr (by decide))).trans (vi_same))) (fun z => by exfalso; omega)
                    · refine Go_iload_n (pc' := 237) dX12_next0_236 rfl rfl rfl ?_
                      refine Go_bipush (v := iZ 45) (pc' := 239) dX12_next0_237 rfl (by decide) ?_
                      refine Go_icmp_eqY (tgt := 284) (pc' := 242) dX12_next0_239 (by decide) rfl (by first | exact ⟨i_lo _, i_hi _⟩ | omega) (by first | exact ⟨i_lo _, i_hi _⟩ | omega) (fun c239 => ?_) (fun c239 => ?_)
                      · refine Go_iconst (v := iZ 1) (pc' := 285) dX12_next0_284 rfl (by decide) ?_
                        refine Go_goto (tgt := 289) dX12_next0_285 (by decide) ?_
                        refine Go_istore_n (pc' := 290) (lv' := [.ref _, .int _, .int _]) dX12_next0_289 rfl rfl (Nat.le_of_ble_eq_true rfl) rfl rfl ?_
                        refine Go_aload_n (pc' := 291) dX12_next0_290 rfl rfl rfl ?_
                        refine Go_iload_n (pc' := 292) dX12_next0_291 rfl rfl rfl ?_
                        refine Go_if_eqY (tgt := 302) (pc' := 295) dX12_next0_292 (by decide) rfl (by first | exact ⟨i_lo _, i_hi _⟩ | omega) (fun c292 => by exfalso; omega) (fun c292 => ?_)
                        refine Go_bipush (v := iZ 100) (pc' := 297) dX12_next0_295 rfl (by decide) ?_
                        refine Go_iload_n (pc' := 298) dX12_next0_297 rfl rfl rfl ?_
                        refine Go_iaddZ (pc' := 299) dX12_next0_298 rfl ?_
                        refine Go_goto (tgt := 303) dX12_next0_299 (by decide) ?_
                        refine Go_putI (pc' := 306) dX12_next0_303 rfl kf_RX12_255 (by decide) (by decide) rfl (S.b 99 rfl rfl) (S.o 99 rfl rfl rfl) (Or.inl rfl) rfl rfl ?_
                        refine Go_return dX12_next0_306 rfl ?_
                        refine hk _ (((((DX.rf _ _).wI (by unfold Pm; omega)).wI (by unfold Pm; omega)).wI (by unfold Pm; omega)).wI (by unfold Pm; omega)) (((vi_skip (Or.inr (by decide))).trans (vi_same)).trans (congrArg iZ (by omega))) ((vi_same).trans (congrArg iZ (by omega))) ((vi_skip (Or.inr (by decide))).trans ((vi_skip (Or.inr (by decide))).trans (vi_same))) (fun z => by exfalso; omega)
                      · refine Go_iload_n (pc' := 243) dX12_next0_242 rfl rfl rfl ?_
                        refine Go_bipush (v := iZ 42) (pc' := 245) dX12_next0_243 rfl (by decide) ?_
                        refine Go_icmp_eqY (tgt := 284) (pc' := 248) dX12_next0_245 (by decide) rfl (by first | exact ⟨i_lo _, i_hi _⟩ | omega) (by first | exact ⟨i_lo _, i_hi _⟩ | omega) (fun c245 => ?_) (fun c245 => ?_)
                        · refine Go_iconst (v := iZ 1) (pc' := 285) dX12_next0_284 rfl (by decide) ?_
                          refine Go_goto (tgt := 289) dX12_next0_285 (by decide) ?_
                          refine Go_istore_n (pc' := 290) (lv' := [.ref _, .int _, .int _]) dX12_next0_289 rfl rfl (Nat.le_of_ble_eq_true rfl) rfl rfl ?_
                          refine Go_aload_n (pc' := 291) dX12_next0_290 rfl rfl rfl ?_
                          refine Go_iload_n (pc' := 292) dX12_next0_291 rfl rfl rfl ?_
                          refine Go_if_eqY (tgt := 302) (pc' := 295) dX12_next0_292 (by decide) rfl (by first | exact ⟨i_lo _, i_hi _⟩ | omega) (fun c292 => by exfalso; omega) (fun c292 => ?_)
                          refine Go_bipush (v := iZ 100) (pc' := 297) dX12_next0_295 rfl (by decide) ?_
                          refine Go_iload_n (pc' := 298) dX12_next0_297 rfl rfl rfl ?_
                          refine Go_iaddZ (pc' := 299) dX12_next0_298 rfl ?_
                          refine Go_goto (tgt := 303) dX12_next0_299 (by decide) ?_
                          refine Go_putI (pc' := 306) dX12_next0_303 rfl kf_RX12_255 (by decide) (by decide) rfl (S.b 99 rfl rfl) (S.o 99 rfl rfl rfl) (Or.inl rfl) rfl rfl ?_
                          refine Go_return dX12_next0_306 rfl ?_
                          refine hk _ (((((DX.rf _ _).wI (by unfold Pm; omega)).wI (by unfold Pm; omega)).wI (by unfold Pm; omega)).wI (by unfold Pm; omega)) (((vi_skip (Or.inr (by decide))).trans (vi_same)).trans (congrArg iZ (by omega))) ((vi_same).trans (congrArg iZ (by omega))) ((vi_skip (Or.inr (by decide))).trans ((vi_skip (Or.inr (by decide))).trans (vi_same))) (fun z => by exfalso; omega)
                        · refine Go_iload_n (pc' := 249) dX12_next0_248 rfl rfl rfl ?_
                          refine Go_bipush (v := iZ 47) (pc' := 251) dX12_next0_249 rfl (by decide) ?_
                          refine Go_icmp_eqY (tgt := 284) (pc' := 254) dX12_next0_251 (by decide) rfl (by first | exact ⟨i_lo _, i_hi _⟩ | omega) (by first | exact ⟨i_lo _, i_hi _⟩ | omega) (fun c251 => ?_) (fun c251 => ?_)
                          · refine Go_iconst (v := iZ 1) (pc' := 285) dX12_next0_284 rfl (by decide) ?_
                            refine Go_goto (tgt := 289) dX12_next0_285 (by decide) ?_
                            refine Go_istore_n (pc' := 290) (lv' := [.ref _, .int _, .int _]) dX12_next0_289 rfl rfl (Nat.le_of_ble_eq_true rfl) rfl rfl ?_
                            refine Go_aload_n (pc' := 291) dX12_next0_290 rfl rfl rfl ?_
                            refine Go_iload_n (pc' := 292) dX12_next0_291 rfl rfl rfl ?_
                            refine Go_if_eqY (tgt := 302) (pc' := 295) dX12_next0_292 (by decide) rfl (by first | exact ⟨i_lo _, i_hi _⟩ | omega) (fun c292 => by exfalso; omega) (fun c292 => ?_)
                            refine Go_bipush (v := iZ 100) (pc' := 297) dX12_next0_295 rfl (by decide) ?_
                            refine Go_iload_n (pc' := 298) dX12_next0_297 rfl rfl rfl ?_
                            refine Go_iaddZ (pc' := 299) dX12_next0_298 rfl ?_
                            refine Go_goto (tgt := 303) dX12_next0_299 (by decide) ?_
                            refine Go_putI (pc' := 306) dX12_next0_303 rfl kf_RX12_255 (by decide) (by decide) rfl (S.b 99 rfl rfl) (S.o 99 rfl rfl rfl) (Or.inl rfl) rfl rfl ?_
                            refine Go_return dX12_next0_306 rfl ?_
                            refine hk _ (((((DX.rf _ _).wI (by unfold Pm; omega)).wI (by unfold Pm; omega)).wI (by unfold Pm; omega)).wI (by unfold Pm; omega)) (((vi_skip (Or.inr (by decide))).trans (vi_same)).trans (congrArg iZ (by omega))) ((vi_same).trans (congrArg iZ (by omega))) ((vi_skip (Or.inr (by decide))).trans ((vi_skip (Or.inr (by decide))).trans (vi_same))) (fun z => by exfalso; omega)
                          · refine Go_iload_n (pc' := 255) dX12_next0_254 rfl rfl rfl ?_
                            refine Go_bipush (v := iZ 40) (pc' := 257) dX12_next0_255 rfl (by decide) ?_
                            refine Go_icmp_eqY (tgt := 284) (pc' := 260) dX12_next0_257 (by decide) rfl (by first | exact ⟨i_lo _, i_hi _⟩ | omega) (by first | exact ⟨i_lo _, i_hi _⟩ | omega) (fun c257 => ?_) (fun c257 => ?_)
                            · refine Go_iconst (v := iZ 1) (pc' := 285) dX12_next0_284 rfl (by decide) ?_
                              refine Go_goto (tgt := 289) dX12_next0_285 (by decide) ?_
                              refine Go_istore_n (pc' := 290) (lv' := [.ref _, .int _, .int _]) dX12_next0_289 rfl rfl (Nat.le_of_ble_eq_true rfl) rfl rfl ?_
                              refine Go_aload_n (pc' := 291) dX12_next0_290 rfl rfl rfl ?_
                              refine Go_iload_n (pc' := 292) dX12_next0_291 rfl rfl rfl ?_
                              refine Go_if_eqY (tgt := 302) (pc' := 295) dX12_next0_292 (by decide) rfl (by first | exact ⟨i_lo _, i_hi _⟩ | omega) (fun c292 => by exfalso; omega) (fun c292 => ?_)
                              refine Go_bipush (v := iZ 100) (pc' := 297) dX12_next0_295 rfl (by decide) ?_
                              refine Go_iload_n (pc' := 298) dX12_next0_297 rfl rfl rfl ?_
                              refine Go_iaddZ (pc' := 299) dX12_next0_298 rfl ?_
                              refine Go_goto (tgt := 303) dX12_next0_299 (by decide) ?_
                              refine Go_putI (pc' := 306) dX12_next0_303 rfl kf_RX12_255 (by decide) (by decide) rfl (S.b 99 rfl rfl) (S.o 99 rfl rfl rfl) (Or.inl rfl) rfl rfl ?_
                              refine Go_return dX12_next0_306 rfl ?_
                              refine hk _ (((((DX.rf _ _).wI (by unfold Pm; omega)).wI (by unfold Pm; omega)).wI (by unfold Pm; omega)).wI (by unfold Pm; omega)) (((vi_skip (Or.inr (by decide))).trans (vi_same)).trans (congrArg iZ (by omega))) ((vi_same).trans (congrArg iZ (by omega))) ((vi_skip (Or.inr (by decide))).trans ((vi_skip (Or.inr (by decide))).trans (vi_same))) (fun z => by exfalso; omega)
                            · refine Go_iload_n (pc' := 261) dX12_next0_260 rfl rfl rfl ?_
                              refine Go_bipush (v := iZ 41) (pc' := 263) dX12_next0_261 rfl (by decide) ?_
                              refine Go_icmp_eqY (tgt := 284) (pc' := 266) dX12_next0_263 (by decide) rfl (by first | exact ⟨i_lo _, i_hi _⟩ | omega) (by first | exact ⟨i_lo _, i_hi _⟩ | omega) (fun c263 => ?_) (fun c263 => ?_)
                              · refine Go_iconst (v := iZ 1) (pc' := 285) dX12_next0_284 rfl (by decide) ?_
                                refine Go_goto (tgt := 289) dX12_next0_285 (by decide) ?_
                                refine Go_istore_n (pc' := 290) (lv' := [.ref _, .int _, .int _]) dX12_next0_289 rfl rfl (Nat.le_of_ble_eq_true rfl) rfl rfl ?_
                                refine Go_aload_n (pc' := 291) dX12_next0_290 rfl rfl rfl ?_
                                refine Go_iload_n (pc' := 292) dX12_next0_291 rfl rfl rfl ?_
                                refine Go_if_eqY (tgt := 302) (pc' := 295) dX12_next0_292 (by decide) rfl (by first | exact ⟨i_lo _, i_hi _⟩ | omega) (fun c292 => by exfalso; omega) (fun c292 => ?_)
                                refine Go_bipush (v := iZ 100) (pc' := 297) dX12_next0_295 rfl (by decide) ?_
                                refine Go_iload_n (pc' := 298) dX12_next0_297 rfl rfl rfl ?_
                                refine Go_iaddZ (pc' := 299) dX12_next0_298 rfl ?_
                                refine Go_goto (tgt := 303) dX12_next0_299 (by decide) ?_
                                refine Go_putI (pc' := 306) dX12_next0_303 rfl kf_RX12_255 (by decide) (by decide) rfl (S.b 99 rfl rfl) (S.o 99 rfl rfl rfl) (Or.inl rfl) rfl rfl ?_
                                refine Go_return dX12_next0_306 rfl ?_
                                refine hk _ (((((DX.rf _ _).wI (by unfold Pm; omega)).wI (by unfold Pm; omega)).wI (by unfold Pm; omega)).wI (by unfold Pm; omega)) (((vi_skip (Or.inr (by decide))).trans (vi_same)).trans (congrArg iZ (by omega))) ((vi_same).trans (congrArg iZ (by omega))) ((vi_skip (Or.inr (by decide))).trans ((vi_skip (Or.inr (by decide))).trans (vi_same))) (fun z => by exfalso; omega)
                              · refine Go_iload_n (pc' := 267) dX12_next0_266 rfl rfl rfl ?_
                                refine Go_bipush (v := iZ 60) (pc' := 269) dX12_next0_267 rfl (by decide) ?_
                                refine Go_icmp_eqY (tgt := 284) (pc' := 272) dX12_next0_269 (by decide) rfl (by first | exact ⟨i_lo _, i_hi _⟩ | omega) (by first | exact ⟨i_lo _, i_hi _⟩ | omega) (fun c269 => ?_) (fun c269 => ?_)
                                · refine Go_iconst (v := iZ 1) (pc' := 285) dX12_next0_284 rfl (by decide) ?_
                                  refine Go_goto (tgt := 289) dX12_next0_285 (by decide) ?_
                                  refine Go_istore_n (pc' := 290) (lv' := [.ref _, .int _, .int _]) dX12_next0_289 rfl rfl (Nat.le_of_ble_eq_true rfl) rfl rfl ?_
                                  refine Go_aload_n (pc' := 291) dX12_next0_290 rfl rfl rfl ?_
                                  refine Go_iload_n (pc' := 292) dX12_next0_291 rfl rfl rfl ?_
                                  refine Go_if_eqY (tgt := 302) (pc' := 295) dX12_next0_292 (by decide) rfl (by first | exact ⟨i_lo _, i_hi _⟩ | omega) (fun c292 => by exfalso; omega) (fun c292 => ?_)
                                  refine Go_bipush (v := iZ 100) (pc' := 297) dX12_next0_295 rfl (by decide) ?_
                                  refine Go_iload_n (pc' := 298) dX12_next0_297 rfl rfl rfl ?_
                                  refine Go_iaddZ (pc' := 299) dX12_next0_298 rfl ?_
                                  refine Go_goto (tgt := 303) dX12_next0_299 (by decide) ?_
                                  refine Go_putI (pc' := 306) dX12_next0_303 rfl kf_RX12_255 (by decide) (by decide) rfl (S.b 99 rfl rfl) (S.o 99 rfl rfl rfl) (Or.inl rfl) rfl rfl ?_
                                  refine Go_return dX12_next0_306 rfl ?_
                                  refine hk _ (((((DX.rf _ _).wI (by unfold Pm; omega)).wI (by unfold Pm; omega)).wI (by unfold Pm; omega)).wI (by unfold Pm; omega)) (((vi_skip (Or.inr (by decide))).trans (vi_same)).trans (congrArg iZ (by omega))) ((vi_same).trans (congrArg iZ (by omega))) ((vi_skip (Or.inr (by decide))).trans ((vi_skip (Or.inr (by decide))).trans (vi_same))) (fun z => by exfalso; omega)
                                · refine Go_iload_n (pc' := 273) dX12_next0_272 rfl rfl rfl ?_
                                  refine Go_bipush (v := iZ 61) (pc' := 275) dX12_next0_273 rfl (by decide) ?_
                                  refine Go_icmp_eqY (tgt := 284) (pc' := 278) dX12_next0_275 (by decide) rfl (by first | exact ⟨i_lo _, i_hi _⟩ | omega) (by first | exact ⟨i_lo _, i_hi _⟩ | omega) (fun c275 => ?_) (fun c275 => ?_)
                                  · refine Go_iconst (v := iZ 1) (pc' := 285) dX12_next0_284 rfl (by decide) ?_
                                    refine Go_goto (tgt := 289) dX12_next0_285 (by decide) ?_
                                    refine Go_istore_n (pc' := 290) (lv' := [.ref _, .int _, .int _]) dX12_next0_289 rfl rfl (Nat.le_of_ble_eq_true rfl) rfl rfl ?_
                                    refine Go_aload_n (pc' := 291) dX12_next0_290 rfl rfl rfl ?_
                                    refine Go_iload_n (pc' := 292) dX12_next0_291 rfl rfl rfl ?_
                                    refine Go_if_eqY (tgt := 302) (pc' := 295) dX12_next0_292 (by decide) rfl (by first | exact ⟨i_lo _, i_hi _⟩ | omega) (fun c292 => by exfalso; omega) (fun c292 => ?_)
                                    refine Go_bipush (v := iZ 100) (pc' := 297) dX12_next0_295 rfl (by decide) ?_
                                    refine Go_iload_n (pc' := 298) dX12_next0_297 rfl rfl rfl ?_
                                    refine Go_iaddZ (pc' := 299) dX12_next0_298 rfl ?_
                                    refine Go_goto (tgt := 303) dX12_next0_299 (by decide) ?_
                                    refine Go_putI (pc' := 306) dX12_next0_303 rfl kf_RX12_255 (by decide) (by decide) rfl (S.b 99 rfl rfl) (S.o 99 rfl rfl rfl) (Or.inl rfl) rfl rfl ?_
                                    refine Go_return dX12_next0_306 rfl ?_
                                    refine hk _ (((((DX.rf _ _).wI (by unfold Pm; omega)).wI (by unfold Pm; omega)).wI (by unfold Pm; omega)).wI (by unfold Pm; omega)) (((vi_skip (Or.inr (by decide))).trans (vi_same)).trans (congrArg iZ (by omega))) ((vi_same).trans (congrArg iZ (by omega))) ((vi_skip (Or.inr (by decide))).trans ((vi_skip (Or.inr (by decide))).trans (vi_same))) (fun z => by exfalso; omega)
                                  · refine Go_iload_n (pc' := 279) dX12_next0_278 rfl rfl rfl ?_
                                    refine Go_bipush (v := iZ 62) (pc' := 281) dX12_next0_279 rfl (by decide) ?_
                                    refine Go_icmp_neY (tgt := 288) (pc' := 284) dX12_next0_281 (by decide) rfl (by first | exact ⟨i_lo _, i_hi _⟩ | omega) (by first | exact ⟨i_lo _, i_hi _⟩ | omega) (fun c281 => ?_) (fun c281 => ?_)
                                    · refine Go_iconst (v := iZ 0) (pc' := 289) dX12_next0_288 rfl (by decide) ?_
                                      refine Go_istore_n (pc' := 290) (lv' := [.ref _, .int _, .int _]) dX12_next0_289 rfl rfl (Nat.le_of_ble_eq_true rfl) rfl rfl ?_
                                      refine Go_aload_n (pc' := 291) dX12_next0_290 rfl rfl rfl ?_
                                      refine Go_iload_n (pc' := 292) dX12_next0_291 rfl rfl rfl ?_
                                      refine Go_if_eqY (tgt := 302) (pc' := 295) dX12_next0_292 (by decide) rfl (by first | exact ⟨i_lo _, i_hi _⟩ | omega) (fun c292 => ?_) (fun c292 => by exfalso; omega)
                                      refine Go_iconst (v := iZ 1) (pc' := 303) dX12_next0_302 rfl (by decide) ?_
                                      refine Go_putI (pc' := 306) dX12_next0_303 rfl kf_RX12_255 (by decide) (by decide) rfl (S.b 99 rfl rfl) (S.o 99 rfl rfl rfl) (Or.inl rfl) rfl rfl ?_
                                      refine Go_return dX12_next0_306 rfl ?_
                                      refine hk _ (((((DX.rf _ _).wI (by unfold Pm; omega)).wI (by unfold Pm; omega)).wI (by unfold Pm; omega)).wI (by unfold Pm; omega)) (((vi_skip (Or.inr (by decide))).trans (vi_same)).trans (congrArg iZ (by omega))) ((vi_same).trans (congrArg iZ (by omega))) ((vi_skip (Or.inr (by decide))).trans ((vi_skip (Or.inr (by decide))).trans (vi_same))) (fun z => by exfalso; omega)
                                    · refine Go_iconst (v := iZ 1) (pc' := 285) dX12_next0_284 rfl (by decide) ?_
                                      refine Go_goto (tgt := 289) dX12_next0_285 (by decide) ?_
                                      refine Go_istore_n (pc' := 290) (lv' := [.ref _, .int _, .int _]) dX12_next0_289 rfl rfl (Nat.le_of_ble_eq_true rfl) rfl rfl ?_
                                      refine Go_aload_n (pc' := 291) dX12_next0_290 rfl rfl rfl ?_
                                      refine Go_iload_n (pc' := 292) dX12_next0_291 rfl rfl rfl ?_
                                      refine Go_if_eqY (tgt := 302) (pc' := 295) dX12_next0_292 (by decide) rfl (by first | exact ⟨i_lo _, i_hi _⟩ | omega) (fun c292 => by exfalso; omega) (fun c292 => ?_)
                                      refine Go_bipush (v := iZ 100) (pc' := 297) dX12_next0_295 rfl (by decide) ?_
                                      refine Go_iload_n (pc' := 298) dX12_next0_297 rfl rfl rfl ?_
                                      refine Go_iaddZ (pc' := 299) dX12_next0_298 rfl ?_
                                      refine Go_goto (tgt := 303) dX12_next0_299 (by decide) ?_
                                      refine Go_putI (pc' := 306) dX12_next0_303 rfl kf_RX12_255 (by decide) (by decide) rfl (S.b 99 rfl rfl) (S.o 99 rfl rfl rfl) (Or.inl rfl) rfl rfl ?_
                                      refine Go_return dX12_next0_306 rfl ?_
                                      refine hk _ (((((DX.rf _ _).wI (by unfold Pm; omega)).wI (by unfold Pm; omega)).wI (by unfold Pm; omega)).wI (by unfold Pm; omega)) (((vi_skip (Or.inr (by decide))).trans (vi_same)).trans (congrArg iZ (by omega))) ((vi_same).trans (congrArg iZ (by omega))) ((vi_skip (Or.inr (by decide))).trans ((vi_skip (Or.inr (by decide))).trans (vi_same))) (fun z => by exfalso; omega)
                · exfalso; omega
              · refine Go_iconst (v := iZ 1) (pc' := 23) dX12_isLetter_22 rfl (by decide) ?_
                refine Go_goto (tgt := 27) dX12_isLetter_23 (by decide) ?_
                refine Go_ireturn (ty := .boolean) dX12_isLetter_27 rfl rfl ?_
                refine ⟨_, rfl, ?_⟩
                refine Go_if_eqY (tgt := 114) (pc' := 76) dX12_next0_73 (by decide) rfl (by first | exact ⟨i_lo _, i_hi _⟩ | omega) (fun c73 => by exfalso; omega) (fun c73 => ?_)
                exfalso; omega
          · exfalso; omega
