/-! the model's small steps on the way -/
set_option maxRecDepth 20000 in
set_option maxHeartbeats 1000000 in
theorem s_bad {G : GC} {d mc ms : Nat} {H : HS} {K : Option Value → HS → Prop} {k pl : Int} (S : Shp H) (e31 : vi H 99 31 = iZ pl) (hk : K (some (.int (iZ 0))) (bdH H k pl)) : Go G d mc ms M_X12_bad 0 [.ref 99, .int (iZ k)] [] H K := by
  refine Go_aload_n (pc' := 1) dX12_bad_0 rfl rfl rfl ?_
  refine Go_iload_n (pc' := 2) dX12_bad_1 rfl rfl rfl ?_
  refine Go_putI (pc' := 5) dX12_bad_2 rfl kf_RX12_270 (by decide) (by decide) rfl (S.b 99 rfl rfl) (S.o 99 rfl rfl rfl) (Or.inl rfl) rfl rfl ?_
  refine Go_aload_n (pc' := 6) dX12_bad_5 rfl rfl rfl ?_
  refine Go_aload_n (pc' := 7) dX12_bad_6 rfl rfl rfl ?_
  refine Go_getIv (v := (iZ pl)) (pc' := 10) dX12_bad_7 rfl kf_RX12_209 (by decide) (by decide) rfl (S.b 99 rfl rfl) (S.o 99 rfl rfl rfl) ((vi_skip (Or.inr (by decide))).trans (e31)) ?_
  refine Go_putI (pc' := 13) dX12_bad_10 rfl kf_RX12_273 (by decide) (by decide) rfl (S.b 99 rfl rfl) (S.o 99 rfl rfl rfl) (Or.inl rfl) rfl rfl ?_
  refine Go_iconst (v := iZ 0) (pc' := 14) dX12_bad_13 rfl (by decide) ?_
  refine Go_ireturn (ty := .boolean) dX12_bad_14 rfl rfl ?_
  exact hk
set_option maxRecDepth 20000 in
set_option maxHeartbeats 1000000 in
theorem s_lay {G : GC} {d mc ms : Nat} {H : HS} {K : Option Value → HS → Prop} {g : List Stp2} {k : Nat} {kk v : Int32} (S : Shp H) (E : zFE H g) (hl : g.length < 610) (e : kk = nI k) (hk : ∀ H', DX zPf H H' → zFE H' (g ++ [(k, v)]) → K none H') : Go G d mc ms M_X12_lay 0 [.ref 99, .int kk, .int v] [] H K := by
  refine Go_aload_n (pc' := 1) dX12_lay_0 rfl rfl rfl ?_
  refine Go_getRs (pc' := 4) dX12_lay_1 rfl kf_RX12_67 (by decide) (by decide) rfl (S.b 99 rfl rfl) (S.o 99 rfl rfl rfl) (S.r 99 20 rfl rfl rfl) ?_
  refine Go_iconst (v := iZ 2) (pc' := 5) dX12_lay_4 rfl (by decide) ?_
  refine Go_aload_n (pc' := 6) dX12_lay_5 rfl rfl rfl ?_
  refine Go_getIv (v := (iZ (g.length : Int))) (pc' := 9) dX12_lay_6 rfl kf_RX12_282 (by decide) (by decide) rfl (S.b 99 rfl rfl) (S.o 99 rfl rfl rfl) (E.1) ?_
  refine Go_imulZ (pc' := 10) dX12_lay_9 rfl ?_
  refine Go_iload_n (pc' := 11) dX12_lay_10 rfl rfl rfl ?_
  refine Go_iastoreZ (n := 1220) (k := (2 * g.length)) (pc' := 12) dX12_lay_11 rfl (S.b 119 rfl rfl) (S.k 119 rfl rfl rfl) (by omega) (by omega) (by decide) ?_
  refine Go_aload_n (pc' := 13) dX12_lay_12 rfl rfl rfl ?_
  refine Go_getRs (pc' := 16) dX12_lay_13 rfl kf_RX12_67 (by decide) (by decide) rfl (S.b 99 rfl rfl) (S.o 99 rfl rfl rfl) (S.r 99 20 rfl rfl rfl) ?_
  refine Go_iconst (v := iZ 2) (pc' := 17) dX12_lay_16 rfl (by decide) ?_
  refine Go_aload_n (pc' := 18) dX12_lay_17 rfl rfl rfl ?_
  refine Go_getIv (v := (iZ (g.length : Int))) (pc' := 21) dX12_lay_18 rfl kf_RX12_282 (by decide) (by decide) rfl (S.b 99 rfl rfl) (S.o 99 rfl rfl rfl) ((vi_skip (Or.inl (by decide))).trans (E.1)) ?_
  refine Go_imulZ (pc' := 22) dX12_lay_21 rfl ?_
  refine Go_iconst (v := iZ 1) (pc' := 23) dX12_lay_22 rfl (by decide) ?_
  refine Go_iaddZ (pc' := 24) dX12_lay_23 rfl ?_
  refine Go_iload_n (pc' := 25) dX12_lay_24 rfl rfl rfl ?_
  refine Go_iastoreZ (n := 1220) (k := (2 * g.length + 1)) (pc' := 26) dX12_lay_25 rfl (S.b 119 rfl rfl) (S.k 119 rfl rfl rfl) (by omega) (by omega) (by decide) ?_
  refine Go_aload_n (pc' := 27) dX12_lay_26 rfl rfl rfl ?_
  refine Go_dup (pc' := 28) dX12_lay_27 rfl rfl ?_
  refine Go_getIv (v := (iZ (g.length : Int))) (pc' := 31) dX12_lay_28 rfl kf_RX12_282 (by decide) (by decide) rfl (S.b 99 rfl rfl) (S.o 99 rfl rfl rfl) ((vi_skip (Or.inl (by decide))).trans ((vi_skip (Or.inl (by decide))).trans (E.1))) ?_
  refine Go_iconst (v := iZ 1) (pc' := 32) dX12_lay_31 rfl (by decide) ?_
  refine Go_iaddZ (pc' := 33) dX12_lay_32 rfl ?_
  refine Go_putI (pc' := 36) dX12_lay_33 rfl kf_RX12_282 (by decide) (by decide) rfl (S.b 99 rfl rfl) (S.o 99 rfl rfl rfl) (Or.inl rfl) rfl rfl ?_
  refine Go_return dX12_lay_36 rfl ?_
  exact hk _ ((((DX.rf _ _).wI (by unfold zPf; omega)).wI (by unfold zPf; omega)).wI (by unfold zPf; omega)) (E.put e)
theorem s_nx {G : GC} {d mc ms : Nat} {H : HS} {K : Option Value → HS → Prop} {T : Nat → Int} {n pos : Nat} {g : List Stp2} {dep : Int} (M : zMX H T n pos g dep) (hk : ∀ H', DX Pm H H' → zMX H' T n (tE T n pos) g dep → K none H') : Go G (d + 6) mc ms M_X12_next0 0 [.ref 99, un, un] [] H K :=
  s_nxt (pos := tE T n pos) M.F M.e29 (tE_r M.hp).2.1 (fun H' D a b c e => hk H' D ⟨M.F.dx D (by unfold Pm; omega) (fun k => by unfold Pm; omega), (tE_r M.hp).2.1, ⟨a, b, c, e⟩, M.fe.dx D (by unfold Pm; omega) (fun k => by unfold Pm; omega), (D.2.2.2 _ _ (by unfold Pm; omega)).trans M.e36⟩)
set_option maxRecDepth 20000 in
set_option maxHeartbeats 1000000 in
theorem s_need {G : GC} {d mc ms : Nat} {H : HS} {K : Option Value → HS → Prop} {T : Nat → Int} {n pos : Nat} {g : List Stp2} {dep : Int} {c : Int} (hc : c = 3 ∨ c = 141 ∨ c = 159) (M : zMX H T n pos g dep) (kb : ¬ tC T n pos = c → K (some (.int (iZ 0))) (bdH H 1 (tP T n pos : Nat))) (kg : tC T n pos = c → ∀ H', DX Pm H H' → zMX H' T n (tE T n pos) g dep → K (some (.int (iZ 1))) H') : Go G (d + 7) mc ms M_X12_need 0 [.ref 99, .int (iZ c)] [] H K := by
  have mx := mtk_x (tC_s (T := T) (n := n) (pos := pos))
  refine Go_aload_n (pc' := 1) dX12_need_0 rfl rfl rfl ?_
  refine Go_getIv (v := (iZ (mtk (tC T n pos)))) (pc' := 4) dX12_need_1 rfl kf_RX12_255 (by decide) (by decide) rfl (M.S.b 99 rfl rfl) (M.S.o 99 rfl rfl rfl) (M.e30) ?_
  refine Go_iload_n (pc' := 5) dX12_need_4 rfl rfl rfl ?_
  refine Go_icmp_eqY (tgt := 14) (pc' := 8) dX12_need_5 (by decide) rfl (by first | exact ⟨i_lo _, i_hi _⟩ | omega) (by first | exact ⟨i_lo _, i_hi _⟩ | omega) (fun c5 => ?_) (fun c5 => ?_)
  · refine Go_aload_n (pc' := 15) dX12_need_14 rfl rfl rfl ?_
    refine Go_callV_v (pc' := 18) (As := []) (st := []) dX12_need_15 rfl ok_X12_next0 km_RX12_279 (M.S.o 99 rfl rfl rfl) (M.S.b 99 rfl rfl) ⟨_, _, rfl⟩ rfl (Nat.le_of_ble_eq_true rfl) rfl rfl rfl (Nat.le_of_ble_eq_true rfl) (Nat.lt_succ_self _) ?_
    refine s_nx M (fun H1 D1 M1 => ?_)
    refine ⟨rfl, ?_⟩
    refine Go_iconst (v := iZ 1) (pc' := 19) dX12_need_18 rfl (by decide) ?_
    refine Go_ireturn (ty := .boolean) dX12_need_19 rfl rfl ?_
    exact kg (by omega) H1 D1 M1
  · refine Go_aload_n (pc' := 9) dX12_need_8 rfl rfl rfl ?_
    refine Go_iconst (v := iZ 1) (pc' := 10) dX12_need_9 rfl (by decide) ?_
    refine Go_callV_i (pc' := 13) (As := [.int _]) (st := []) dX12_need_10 rfl ok_X12_bad km_RX12_276 (M.S.o 99 rfl rfl rfl) (M.S.b 99 rfl rfl) ⟨_, _, rfl⟩ rfl (Nat.le_of_ble_eq_true rfl) rfl rfl rfl (Nat.le_of_ble_eq_true rfl) (Nat.lt_succ_self _) ?_
    refine s_bad (k := 1) M.S M.e31 ?_
    refine ⟨_, rfl, ?_⟩
    refine Go_ireturn (ty := .boolean) dX12_need_13 rfl rfl ?_
    exact kb (by omega)
set_option maxRecDepth 20000 in
set_option maxHeartbeats 1000000 in
theorem s_opens {G : GC} {d mc ms : Nat} {H : HS} {K : Option Value → HS → Prop} {T : Nat → Int} {n pos : Nat} {g : List Stp2} {dep : Int} (M : zMX H T n pos g dep) (hd : 0 ≤ dep ∧ dep ≤ 8) (kb : dep = 8 → K (some (.int (iZ 0))) (bdH H 3 (tP T n pos : Nat))) (kg : dep < 8 → ∀ H', DX zPe H H' → zMX H' T n (tE T n pos) g (dep + 1) → K (some (.int (iZ 1))) H') : Go G (d + 7) mc ms M_X12_opens 0 [.ref 99] [] H K := by
  refine Go_aload_n (pc' := 1) dX12_opens_0 rfl rfl rfl ?_
  refine Go_getIv (v := (iZ dep)) (pc' := 4) dX12_opens_1 rfl kf_RX12_285 (by decide) (by decide) rfl (M.S.b 99 rfl rfl) (M.S.o 99 rfl rfl rfl) (M.e36) ?_
  refine Go_bipush (v := iZ 8) (pc' := 6) dX12_opens_4 rfl (by decide) ?_
  refine Go_icmp_neY (tgt := 15) (pc' := 9) dX12_opens_6 (by decide) rfl (by first | exact ⟨i_lo _, i_hi _⟩ | omega) (by first | exact ⟨i_lo _, i_hi _⟩ | omega) (fun c6 => ?_) (fun c6 => ?_)
  · refine Go_aload_n (pc' := 16) dX12_opens_15 rfl rfl rfl ?_
    refine Go_dup (pc' := 17) dX12_opens_16 rfl rfl ?_
    refine Go_getIv (v := (iZ dep)) (pc' := 20) dX12_opens_17 rfl kf_RX12_285 (by decide) (by decide) rfl (M.S.b 99 rfl rfl) (M.S.o 99 rfl rfl rfl) (M.e36) ?_
    refine Go_iconst (v := iZ 1) (pc' := 21) dX12_opens_20 rfl (by decide) ?_
    refine Go_iaddZ (pc' := 22) dX12_opens_21 rfl ?_
    refine Go_putI (pc' := 25) dX12_opens_22 rfl kf_RX12_285 (by decide) (by decide) rfl (M.S.b 99 rfl rfl) (M.S.o 99 rfl rfl rfl) (Or.inl rfl) rfl rfl ?_
    refine Go_aload_n (pc' := 26) dX12_opens_25 rfl rfl rfl ?_
    refine Go_callV_v (pc' := 29) (As := []) (st := []) dX12_opens_26 rfl ok_X12_next0 km_RX12_279 (M.S.o 99 rfl rfl rfl) (M.S.b 99 rfl rfl) ⟨_, _, rfl⟩ rfl (Nat.le_of_ble_eq_true rfl) rfl rfl rfl (Nat.le_of_ble_eq_true rfl) (Nat.lt_succ_self _) ?_
    refine s_nx M.dep (fun H1 D1 M1 => ?_)
    refine ⟨rfl, ?_⟩
    refine Go_iconst (v := iZ 1) (pc' := 30) dX12_opens_29 rfl (by decide) ?_
    refine Go_ireturn (ty := .boolean) dX12_opens_30 rfl rfl ?_
    exact kg (by omega) H1 (zDep.tr (zPm D1)) M1
  · refine Go_aload_n (pc' := 10) dX12_opens_9 rfl rfl rfl ?_
    refine Go_iconst (v := iZ 3) (pc' := 11) dX12_opens_10 rfl (by decide) ?_
    refine Go_callV_i (pc' := 14) (As := [.int _]) (st := []) dX12_opens_11 rfl ok_X12_bad km_RX12_276 (M.S.o 99 rfl rfl rfl) (M.S.b 99 rfl rfl) ⟨_, _, rfl⟩ rfl (Nat.le_of_ble_eq_true rfl) rfl rfl rfl (Nat.le_of_ble_eq_true rfl) (Nat.lt_succ_self _) ?_
    refine s_bad (k := 3) M.S M.e31 ?_
    refine ⟨_, rfl, ?_⟩
    refine Go_ireturn (ty := .boolean) dX12_opens_14 rfl rfl ?_
    exact kb (by omega)
