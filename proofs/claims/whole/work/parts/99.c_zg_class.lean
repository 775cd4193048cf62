/-! the class reads its tape: the whole call -/
abbrev zPw (q i k : Nat) : Prop := (i = q ∧ (k = 1 ∨ k = 2)) ∨ i = q + 1 ∨ i = 73 ∨ (i = 71 ∧ 1 ≤ k ∧ k ≤ 14)
/-- what the class's call leaves -/
def zQR (T : Nat → Int) (n : Nat) (vd cm : Int) (h : HS) (q q0 : Nat) (r : Int32) (h1 : HS) : Prop := ∃ H1, DX (zPw q) h H1 ∧ vi H1 71 1 = iZ 0 ∧ ((¬ (rn T n 601 0 (0, vd, cm, [], [], 0)).1 = 0 ∧ r = iZ (-1) ∧ h1 = H1 ∧ vi H1 71 13 = iZ (rn T n 601 0 (0, vd, cm, [], [], 0)).1 ∧ vi H1 71 14 = iZ (rn T n 601 0 (0, vd, cm, [], [], 0)).2.1) ∨ ((rn T n 601 0 (0, vd, cm, [], [], 0)).1 = 0 ∧ r = iZ ((rn T n 601 0 (0, vd, cm, [], [], 0)).2.2.2.2.2.2.2 : Int) ∧ h1 = wR (wR H1 71 15 (some q)) 71 16 (some q0) ∧ RS6 H1 q (rn T n 601 0 (0, vd, cm, [], [], 0)).2.2 ∧ vi H1 71 13 = iZ 0 ∧ vi H1 71 14 = iZ (-1)))
theorem rn_k (T : Nat → Int) (n : Nat) : ∀ (m pos : Nat) (s : St6), 0 ≤ (rn T n m pos s).1 ∧ (rn T n m pos s).1 ≤ 3
  | 0, _, _ => by show (0 : Int) ≤ 0 ∧ (0 : Int) ≤ 3; omega
  | m + 1, pos, s => by
    by_cases h : tC T n pos = 21 ∧ s.1 = 0
    · rw [rn_e h]; show (0 : Int) ≤ 0 ∧ (0 : Int) ≤ 3; omega
    · by_cases h1 : (zst (tC T n pos) (tV T n pos) s).1 = 0
      · rw [rn_s h h1]; exact rn_k T n m _ _
      · rw [rn_b h h1]; exact zst_k _ _ _
set_option maxRecDepth 20000 in
set_option maxHeartbeats 4000000 in
theorem s_translate {G : GC} {d mc ms : Nat} {h : HS} {K : Option Value → HS → Prop} {T : Nat → Int} {n q q0 : Nat} {vd cm : Int} (S : Shp h) (QP : QPr h q) (hq : q = 74 ∨ q = 77) (hr : ri h 71 16 = some q) (hr0 : ri h 71 15 = some q0) (F : TF h T n) (e7 : vi h 71 7 = iZ vd) (e8 : vi h 71 8 = iZ cm) (hcm : -2147483648 ≤ cm ∧ cm < 2147483648) (hk : ∀ (b : Int32) h1, (∃ H1, DX (zPw q) h H1 ∧ vi H1 71 1 = iZ 0 ∧ ((¬ (rn T n 601 0 (0, vd, cm, [], [], 0)).1 = 0 ∧ b = iZ 0 ∧ h1 = H1 ∧ vi H1 71 13 = iZ (rn T n 601 0 (0, vd, cm, [], [], 0)).1 ∧ vi H1 71 14 = iZ (rn T n 601 0 (0, vd, cm, [], [], 0)).2.1) ∨ ((rn T n 601 0 (0, vd, cm, [], [], 0)).1 = 0 ∧ b = iZ 1 ∧ h1 = wR (wR H1 71 15 (some q)) 71 16 (some q0) ∧ RS6 H1 q (rn T n 601 0 (0, vd, cm, [], [], 0)).2.2 ∧ vi H1 71 13 = iZ 0 ∧ vi H1 71 14 = iZ (-1)))) → K (some (.int b)) h1) : Go G (d + 7) mc ms M_X9_translate 0 [.ref 71, un] [] h K := by
  have hq2 : q = 74 ∨ q = 77 := hq
  refine Go_aload_n (pc' := 1) dX9_translate_0 rfl rfl rfl ?_
  refine Go_callV_v (pc' := 4) (As := []) (st := []) dX9_translate_1 rfl ok_X9_begin km_RX9_35 (S.o 71 rfl rfl rfl) (S.b 71 rfl rfl) ⟨_, _, rfl⟩ rfl (Nat.le_of_ble_eq_true rfl) rfl rfl rfl (Nat.le_of_ble_eq_true rfl) (Nat.lt_succ_self _) ?_
  refine Go_aload_n (pc' := 1) dX9_begin_0 rfl rfl rfl ?_
  refine Go_getRs (pc' := 4) dX9_begin_1 rfl kf_RX9_29 (by decide) (by decide) rfl (S.b 71 rfl rfl) (S.o 71 rfl rfl rfl) hr ?_
  refine Go_callV_v (pc' := 7) (As := []) (st := []) dX9_begin_4 rfl ok_X8_clear km_RX9_53 QP.2.1 QP.1 ⟨_, _, rfl⟩ rfl (Nat.le_of_ble_eq_true rfl) rfl rfl rfl (Nat.le_of_ble_eq_true rfl) (Nat.lt_succ_self _) ?_
  refine Go_aload_n (pc' := 1) dX8_clear_0 rfl rfl rfl ?_
  refine Go_iconst (v := iZ 0) (pc' := 2) dX8_clear_1 rfl (by decide) ?_
  refine Go_putI (pc' := 5) dX8_clear_2 rfl kf_RX8_18 (by decide) (by decide) rfl QP.1 QP.2.1 (Or.inl rfl) rfl rfl ?_
  refine Go_aload_n (pc' := 6) dX8_clear_5 rfl rfl rfl ?_
  refine Go_iconst (v := iZ 0) (pc' := 7) dX8_clear_6 rfl (by decide) ?_
  refine Go_putI (pc' := 10) dX8_clear_7 rfl kf_RX8_22 (by decide) (by decide) rfl QP.1 QP.2.1 (Or.inl rfl) rfl rfl ?_
  refine Go_return dX8_clear_10 rfl ?_
  refine ⟨rfl, ?_⟩
  refine Go_aload_n (pc' := 8) dX9_begin_7 rfl rfl rfl ?_
  refine Go_iconst (v := iZ 0) (pc' := 9) dX9_begin_8 rfl (by decide) ?_
  refine Go_putI (pc' := 12) dX9_begin_9 rfl kf_RX9_56 (by decide) (by decide) rfl (S.b 71 rfl rfl) (S.o 71 rfl rfl rfl) (Or.inl rfl) rfl rfl ?_
  refine Go_aload_n (pc' := 13) dX9_begin_12 rfl rfl rfl ?_
  refine Go_iconst (v := iZ 0) (pc' := 14) dX9_begin_13 rfl (by decide) ?_
  refine Go_putI (pc' := 17) dX9_begin_14 rfl kf_RX9_47 (by decide) (by decide) rfl (S.b 71 rfl rfl) (S.o 71 rfl rfl rfl) (Or.inl rfl) rfl rfl ?_
  refine Go_aload_n (pc' := 18) dX9_begin_17 rfl rfl rfl ?_
  refine Go_iconst (v := iZ 0) (pc' := 19) dX9_begin_18 rfl (by decide) ?_
  refine Go_putI (pc' := 22) dX9_begin_19 rfl kf_RX9_59 (by decide) (by decide) rfl (S.b 71 rfl rfl) (S.o 71 rfl rfl rfl) (Or.inl rfl) rfl rfl ?_
  refine Go_aload_n (pc' := 23) dX9_begin_22 rfl rfl rfl ?_
  refine Go_iconst (v := iZ 0) (pc' := 24) dX9_begin_23 rfl (by decide) ?_
  refine Go_putI (pc' := 27) dX9_begin_24 rfl kf_RX9_62 (by decide) (by decide) rfl (S.b 71 rfl rfl) (S.o 71 rfl rfl rfl) (Or.inl rfl) rfl rfl ?_
  refine Go_aload_n (pc' := 28) dX9_begin_27 rfl rfl rfl ?_
  refine Go_iconst (v := iZ 0) (pc' := 29) dX9_begin_28 rfl (by decide) ?_
  refine Go_putI (pc' := 32) dX9_begin_29 rfl kf_RX9_65 (by decide) (by decide) rfl (S.b 71 rfl rfl) (S.o 71 rfl rfl rfl) (Or.inl rfl) rfl rfl ?_
  refine Go_aload_n (pc' := 33) dX9_begin_32 rfl rfl rfl ?_
  refine Go_iconst (v := iZ 0) (pc' := 34) dX9_begin_33 rfl (by decide) ?_
  refine Go_putI (pc' := 37) dX9_begin_34 rfl kf_RX9_38 (by decide) (by decide) rfl (S.b 71 rfl rfl) (S.o 71 rfl rfl rfl) (Or.inl rfl) rfl rfl ?_
  refine Go_aload_n (pc' := 38) dX9_begin_37 rfl rfl rfl ?_
  refine Go_iconst (v := iZ (-1)) (pc' := 39) dX9_begin_38 rfl (by decide) ?_
  refine Go_putI (pc' := 42) dX9_begin_39 rfl kf_RX9_18 (by decide) (by decide) rfl (S.b 71 rfl rfl) (S.o 71 rfl rfl rfl) (Or.inl rfl) rfl rfl ?_
  refine Go_return dX9_begin_42 rfl ?_
  refine ⟨rfl, ?_⟩
  refine Go_iconst (v := iZ 0) (pc' := 5) dX9_translate_4 rfl (by decide) ?_
  refine Go_istore_n (pc' := 6) (lv' := [.ref _, .int _]) dX9_translate_5 rfl rfl (Nat.le_of_ble_eq_true rfl) rfl rfl ?_
  have SB : Shp (wI (wI (wI (wI (wI (wI (wI (wI (wI h q 1 (iZ 0)) q 2 (iZ 0)) 71 2 (iZ 0)) 71 6 (iZ 0)) 71 10 (iZ 0)) 71 11 (iZ 0)) 71 12 (iZ 0)) 71 13 (iZ 0)) 71 14 (iZ (-1))) := S
  have QPB : QPr (wI (wI (wI (wI (wI (wI (wI (wI (wI h q 1 (iZ 0)) q 2 (iZ 0)) 71 2 (iZ 0)) 71 6 (iZ 0)) 71 10 (iZ 0)) 71 11 (iZ 0)) 71 12 (iZ 0)) 71 13 (iZ 0)) 71 14 (iZ (-1))) q := QP
  have hrB : ri (wI (wI (wI (wI (wI (wI (wI (wI (wI h q 1 (iZ 0)) q 2 (iZ 0)) 71 2 (iZ 0)) 71 6 (iZ 0)) 71 10 (iZ 0)) 71 11 (iZ 0)) 71 12 (iZ 0)) 71 13 (iZ 0)) 71 14 (iZ (-1))) 71 16 = some q := hr
  have hq0B : ri (wI (wI (wI (wI (wI (wI (wI (wI (wI h q 1 (iZ 0)) q 2 (iZ 0)) 71 2 (iZ 0)) 71 6 (iZ 0)) 71 10 (iZ 0)) 71 11 (iZ 0)) 71 12 (iZ 0)) 71 13 (iZ 0)) 71 14 (iZ (-1))) 71 15 = some q0 := hr0
  have DB : DX (zPw q) h (wI (wI (wI (wI (wI (wI (wI (wI (wI h q 1 (iZ 0)) q 2 (iZ 0)) 71 2 (iZ 0)) 71 6 (iZ 0)) 71 10 (iZ 0)) 71 11 (iZ 0)) 71 12 (iZ 0)) 71 13 (iZ 0)) 71 14 (iZ (-1))) := (((((((((DX.rf _ _).wI (by unfold zPw; omega)).wI (by unfold zPw; omega)).wI (by unfold zPw; omega)).wI (by unfold zPw; omega)).wI (by unfold zPw; omega)).wI (by unfold zPw; omega)).wI (by unfold zPw; omega)).wI (by unfold zPw; omega)).wI (by unfold zPw; omega)
  have FB : TF (wI (wI (wI (wI (wI (wI (wI (wI (wI h q 1 (iZ 0)) q 2 (iZ 0)) 71 2 (iZ 0)) 71 6 (iZ 0)) 71 10 (iZ 0)) 71 11 (iZ 0)) 71 12 (iZ 0)) 71 13 (iZ 0)) 71 14 (iZ (-1))) T n := ((((((((F.w (by omega)).w (by omega)).w (by omega)).w (by omega)).w (by omega)).w (by omega)).w (by omega)).w (by omega)).w (by omega)
  have RB : RS6 (wI (wI (wI (wI (wI (wI (wI (wI (wI h q 1 (iZ 0)) q 2 (iZ 0)) 71 2 (iZ 0)) 71 6 (iZ 0)) 71 10 (iZ 0)) 71 11 (iZ 0)) 71 12 (iZ 0)) 71 13 (iZ 0)) 71 14 (iZ (-1))) q (0, vd, cm, [], [], 0) := ⟨(vi_skip (by omega)).trans ((vi_skip (by omega)).trans ((vi_skip (by omega)).trans ((vi_skip (by omega)).trans ((vi_skip (by omega)).trans (vi_same))))), (vi_skip (by omega)).trans ((vi_skip (by omega)).trans ((vi_skip (by omega)).trans ((vi_skip (by omega)).trans ((vi_skip (by omega)).trans ((vi_skip (by omega)).trans ((vi_skip (by omega)).trans ((vi_skip (by omega)).trans ((vi_skip (by omega)).trans (e7))))))))), ⟨(vi_skip (by omega)).trans ((vi_skip (by omega)).trans ((vi_skip (by omega)).trans ((vi_skip (by omega)).trans ((vi_skip (by omega)).trans ((vi_skip (by omega)).trans ((vi_skip (by omega)).trans ((vi_skip (by omega)).trans ((vi_skip (by omega)).trans (e8))))))))), hcm⟩, ⟨(vi_skip (by omega)).trans ((vi_skip (by omega)).trans ((vi_skip (by omega)).trans ((vi_skip (by omega)).trans (vi_same)))), Nat.zero_le _, fun k hk => absurd hk (Nat.not_lt_zero _), (vi_skip (by omega)).trans ((vi_skip (by omega)).trans ((vi_skip (by omega)).trans (vi_same))), (vi_skip (by omega)).trans ((vi_skip (by omega)).trans (vi_same)), fun t ht => absurd ht (by simp)⟩, ⟨(vi_skip (by omega)).trans ((vi_skip (by omega)).trans ((vi_skip (by omega)).trans ((vi_skip (by omega)).trans ((vi_skip (by omega)).trans ((vi_skip (by omega)).trans ((vi_skip (by omega)).trans ((vi_skip (by omega)).trans (vi_same)))))))), Nat.zero_le _, fun i hi => absurd hi (Nat.not_lt_zero _)⟩, (vi_skip (by omega)).trans ((vi_skip (by omega)).trans ((vi_skip (by omega)).trans ((vi_skip (by omega)).trans ((vi_skip (by omega)).trans ((vi_skip (by omega)).trans ((vi_skip (by omega)).trans (vi_same)))))))⟩
  have e2B : vi (wI (wI (wI (wI (wI (wI (wI (wI (wI h q 1 (iZ 0)) q 2 (iZ 0)) 71 2 (iZ 0)) 71 6 (iZ 0)) 71 10 (iZ 0)) 71 11 (iZ 0)) 71 12 (iZ 0)) 71 13 (iZ 0)) 71 14 (iZ (-1))) 71 2 = iZ ((0 : Nat) : Int) := (vi_skip (by omega)).trans ((vi_skip (by omega)).trans ((vi_skip (by omega)).trans ((vi_skip (by omega)).trans ((vi_skip (by omega)).trans ((vi_skip (by omega)).trans (vi_same))))))
  have e13B : vi (wI (wI (wI (wI (wI (wI (wI (wI (wI h q 1 (iZ 0)) q 2 (iZ 0)) 71 2 (iZ 0)) 71 6 (iZ 0)) 71 10 (iZ 0)) 71 11 (iZ 0)) 71 12 (iZ 0)) 71 13 (iZ 0)) 71 14 (iZ (-1))) 71 13 = iZ 0 := (vi_skip (by omega)).trans (vi_same)
  have e14B : vi (wI (wI (wI (wI (wI (wI (wI (wI (wI h q 1 (iZ 0)) q 2 (iZ 0)) 71 2 (iZ 0)) 71 6 (iZ 0)) 71 10 (iZ 0)) 71 11 (iZ 0)) 71 12 (iZ 0)) 71 13 (iZ 0)) 71 14 (iZ (-1))) 71 14 = iZ (-1) := vi_same
  generalize hHB : (wI (wI (wI (wI (wI (wI (wI (wI (wI h q 1 (iZ 0)) q 2 (iZ 0)) 71 2 (iZ 0)) 71 6 (iZ 0)) 71 10 (iZ 0)) 71 11 (iZ 0)) 71 12 (iZ 0)) 71 13 (iZ 0)) 71 14 (iZ (-1))) = HB at SB QPB hrB hq0B DB FB RB e2B e13B e14B ⊢
  refine tr_loop hq 601 0 (0, vd, cm, [], [], 0) HB 0 rfl SB QPB hrB FB e2B (Nat.zero_le _) RB (zi (by decide) (by decide) (by decide)) e13B e14B (fun H2 x D2 E2 => ?_)
  have S2 := D2.shp SB
  have QP2 := D2.qp QPB
  have hr2 := (D2.2.2.1 71 16).trans hrB
  have hq02 := (D2.2.2.1 71 15).trans hq0B
  have rk := rn_k T n 601 0 (0, vd, cm, [], [], 0)
  have D3 : DX (zPw q) h (wI H2 71 1 (iZ 0)) := (DB.tr (D2.mono (fun i k z => by unfold Pz Pk Pt at z; unfold zPw; omega))).wI (by unfold zPw; omega)
  have R3 : ∀ {s : St6}, RS6 H2 q s → RS6 (wI H2 71 1 (iZ 0)) q s := fun r => r.dx (DX.wI (DX.rf (fun i k => i = 71 ∧ k = 1) H2) (by omega)) (fun k a b => by omega) (fun k => by omega) (fun k => by omega) (fun k => by omega)
  by_cases hz : (rn T n 601 0 (0, vd, cm, [], [], 0)).1 = 0
  · obtain ⟨R2, e13, e14⟩ := E2.1 hz
    refine Go_aload_n (pc' := 54) dX9_translate_53 rfl rfl rfl ?_
    refine Go_iconst (v := iZ 0) (pc' := 55) dX9_translate_54 rfl (by decide) ?_
    refine Go_putI (pc' := 58) dX9_translate_55 rfl kf_RX9_32 (by decide) (by decide) rfl (S2.b 71 rfl rfl) (S2.o 71 rfl rfl rfl) (Or.inl rfl) rfl rfl ?_
    refine Go_aload_n (pc' := 59) dX9_translate_58 rfl rfl rfl ?_
    refine Go_getIv (v := (iZ 0)) (pc' := 62) dX9_translate_59 rfl kf_RX9_38 (by decide) (by decide) rfl (S2.b 71 rfl rfl) (S2.o 71 rfl rfl rfl) ((vi_skip (Or.inr (by decide))).trans (e13)) ?_
    refine Go_if_eqY (tgt := 67) (pc' := 65) dX9_translate_62 (by decide) rfl (by first | exact ⟨i_lo _, i_hi _⟩ | omega) (fun c62 => ?_) (fun c62 => by exfalso; omega)
    refine Go_aload_n (pc' := 68) dX9_translate_67 rfl rfl rfl ?_
    refine Go_getRs (pc' := 71) dX9_translate_68 rfl kf_RX9_25 (by decide) (by decide) rfl (S2.b 71 rfl rfl) (S2.o 71 rfl rfl rfl) hq02 ?_
    refine Go_astore_n (pc' := 72) (lv' := [.ref _, .ref _]) dX9_translate_71 rfl rfl (Nat.le_of_ble_eq_true rfl) rfl rfl ?_
    refine Go_aload_n (pc' := 73) dX9_translate_72 rfl rfl rfl ?_
    refine Go_aload_n (pc' := 74) dX9_translate_73 rfl rfl rfl ?_
    refine Go_getRs (pc' := 77) dX9_translate_74 rfl kf_RX9_29 (by decide) (by decide) rfl (S2.b 71 rfl rfl) (S2.o 71 rfl rfl rfl) hr2 ?_
    refine Go_putRs (pc' := 80) dX9_translate_77 rfl kf_RX9_25 (by decide) (by decide) rfl (S2.b 71 rfl rfl) (S2.o 71 rfl rfl rfl) (Or.inl rfl) (fun v => by cases v <;> exact ⟨rfl, rfl⟩) ?_
    refine Go_aload_n (pc' := 81) dX9_translate_80 rfl rfl rfl ?_
    refine Go_aload_n (pc' := 82) dX9_translate_81 rfl rfl rfl ?_
    refine Go_putRs (pc' := 85) dX9_translate_82 rfl kf_RX9_29 (by decide) (by decide) rfl (S2.b 71 rfl rfl) (S2.o 71 rfl rfl rfl) (Or.inl rfl) (fun v => by cases v <;> exact ⟨rfl, rfl⟩) ?_
    refine Go_iconst (v := iZ 1) (pc' := 86) dX9_translate_85 rfl (by decide) ?_
    refine Go_ireturn (ty := .boolean) dX9_translate_86 rfl rfl ?_
    exact hk _ _ ⟨_, D3, vi_same, Or.inr ⟨hz, rfl, rfl, R3 R2, (vi_skip (by omega)).trans e13, (vi_skip (by omega)).trans e14⟩⟩
  · have hk13 := E2.2 hz
    refine Go_aload_n (pc' := 54) dX9_translate_53 rfl rfl rfl ?_
    refine Go_iconst (v := iZ 0) (pc' := 55) dX9_translate_54 rfl (by decide) ?_
    refine Go_putI (pc' := 58) dX9_translate_55 rfl kf_RX9_32 (by decide) (by decide) rfl (S2.b 71 rfl rfl) (S2.o 71 rfl rfl rfl) (Or.inl rfl) rfl rfl ?_
    refine Go_aload_n (pc' := 59) dX9_translate_58 rfl rfl rfl ?_
    refine Go_getIv (v := (iZ (rn T n 601 0 (0, vd, cm, [], [], 0)).1)) (pc' := 62) dX9_translate_59 rfl kf_RX9_38 (by decide) (by decide) rfl (S2.b 71 rfl rfl) (S2.o 71 rfl rfl rfl) ((vi_skip (Or.inr (by decide))).trans (hk13.1)) ?_
    refine Go_if_eqY (tgt := 67) (pc' := 65) dX9_translate_62 (by decide) rfl (by first | exact ⟨i_lo _, i_hi _⟩ | omega) (fun c62 => ?_) (fun c62 => ?_)
    · exfalso; omega
    · refine Go_iconst (v := iZ 0) (pc' := 66) dX9_translate_65 rfl (by decide) ?_
      refine Go_ireturn (ty := .boolean) dX9_translate_66 rfl rfl ?_
      exact hk _ _ ⟨_, D3, vi_same, Or.inl ⟨hz, rfl, rfl, (vi_skip (by omega)).trans hk13.1, (vi_skip (by omega)).trans hk13.2⟩⟩
set_option maxRecDepth 20000 in
set_option maxHeartbeats 2000000 in
theorem c_rules {G : GC} {d mc ms : Nat} {h : HS} {K : Option Value → HS → Prop} {T : Nat → Int} {n q q0 : Nat} {vd cm : Int} (S : Shp h) (QP : QPr h q) (hq : q = 74 ∨ q = 77) (hr : ri h 71 16 = some q) (hr0 : ri h 71 15 = some q0) (F : TF h T n) (e7 : vi h 71 7 = iZ vd) (e8 : vi h 71 8 = iZ cm) (hcm : -2147483648 ≤ cm ∧ cm < 2147483648) (hk : ∀ r h1, zQR T n vd cm h q q0 r h1 → K (some (.int r)) h1) : Go G (d + 8) mc ms M_X11_rules 0 [.ref 64] [] h K := by
  refine Go_aload_n (pc' := 1) dX11_rules_0 rfl rfl rfl ?_
  refine Go_getRs (pc' := 4) dX11_rules_1 rfl kf_RX11_39 (by decide) (by decide) rfl (S.b 64 rfl rfl) (S.o 64 rfl rfl rfl) (S.r 64 5 rfl rfl rfl) ?_
  refine Go_callV_i (pc' := 7) (As := []) (st := []) dX11_rules_4 rfl ok_X9_translate km_RX11_213 (S.o 71 rfl rfl rfl) (S.b 71 rfl rfl) ⟨_, _, rfl⟩ rfl (Nat.le_of_ble_eq_true rfl) rfl rfl rfl (Nat.le_of_ble_eq_true rfl) (Nat.lt_succ_self _) ?_
  refine s_translate S QP hq hr hr0 F e7 e8 hcm (fun b h1 z => ?_)
  refine ⟨_, rfl, ?_⟩
  obtain ⟨H1, D1, a1, z⟩ := z
  rcases z with ⟨z1, rfl, rfl, z4, z5⟩ | ⟨z1, rfl, rfl, z4, z5, z6⟩
  · refine Go_if_eqY (tgt := 23) (pc' := 10) dX11_rules_7 (by decide) rfl (by first | exact ⟨i_lo _, i_hi _⟩ | omega) (fun c7 => ?_) (fun c7 => by exfalso; omega)
    refine Go_iconst (v := iZ (-1)) (pc' := 24) dX11_rules_23 rfl (by decide) ?_
    refine Go_ireturn (ty := .int) dX11_rules_24 rfl rfl ?_
    exact hk _ _ ⟨_, D1, a1, Or.inl ⟨z1, rfl, rfl, z4, z5⟩⟩
  · have S1 := D1.shp S
    have S2 : Shp (wR (wR H1 71 15 (some q)) 71 16 (some q0)) := (S1.wR (Or.inl rfl)).wR (Or.inl rfl)
    have QP2 : QPr (wR (wR H1 71 15 (some q)) 71 16 (some q0)) q := by
      have t := D1.qp QP
      unfold QPr at t ⊢
      rw [hN_wR, hN_wR, ki_wR, ki_wR, ki_wR, ki_wR, ki_wR, ki_wR, ri_wR, ri_wR, ri_wR, ri_wR, if_neg (by omega), if_neg (by omega), if_neg (by omega), if_neg (by omega)]
      exact t
    have hr2 : ri (wR (wR H1 71 15 (some q)) 71 16 (some q0)) 71 15 = some q := by rw [ri_wR, if_neg (by decide), ri_wR, if_pos ⟨rfl, rfl⟩]
    refine Go_if_eqY (tgt := 23) (pc' := 10) dX11_rules_7 (by decide) rfl (by first | exact ⟨i_lo _, i_hi _⟩ | omega) (fun c7 => by exfalso; omega) (fun c7 => ?_)
    refine Go_aload_n (pc' := 11) dX11_rules_10 rfl rfl rfl ?_
    refine Go_getRs (pc' := 14) dX11_rules_11 rfl kf_RX11_39 (by decide) (by decide) rfl (S2.b 64 rfl rfl) (S2.o 64 rfl rfl rfl) (S2.r 64 5 rfl rfl rfl) ?_
    refine Go_getRs (pc' := 17) dX11_rules_14 rfl kf_RX11_196 (by decide) (by decide) rfl (S2.b 71 rfl rfl) (S2.o 71 rfl rfl rfl) hr2 ?_
    refine Go_getIv (v := (iZ ((rn T n 601 0 (0, vd, cm, [], [], 0)).2.2.2.2.2.2.2 : Int))) (pc' := 20) dX11_rules_17 rfl kf_RX11_217 (by decide) (by decide) rfl QP2.1 QP2.2.1 (z4.2.2.2.2.2) ?_
    refine Go_goto (tgt := 24) dX11_rules_20 (by decide) ?_
    refine Go_ireturn (ty := .int) dX11_rules_24 rfl rfl ?_
    exact hk _ _ ⟨H1, D1, a1, Or.inr ⟨z1, rfl, rfl, z4, z5, z6⟩⟩
