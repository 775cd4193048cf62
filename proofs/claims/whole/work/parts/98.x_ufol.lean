/-! the class takes a token: conditions, what follows -/
def zcon (c v : Int) (s : St6) : Int × St6 := if c = 6 ∨ c = 140 then (if 8 ≤ zop s.2.2.2.1 then (3, s) else (0, (s.1, s.2.1, s.2.2.1, zpsh s.2.2.2.1 c, s.2.2.2.2.1, s.2.2.2.2.2))) else zunit c v (s.1, s.2.1, 0, s.2.2.2.1, s.2.2.2.2.1, s.2.2.2.2.2)
theorem TKp.hold {H H1 : HS} {q : Nat} {s : St6} {W : List Int} {pl : Int} (R : RS6 H q s) (hq : q = 74 ∨ q = 77) (D : DX Ph H H1) (O : WaiE H1 W) : TKp H H1 q (0, (s.1, s.2.1, s.2.2.1, W, s.2.2.2.2.1, s.2.2.2.2.2)) pl := by
  obtain ⟨r1, r2, r3, r4, r5, r6⟩ := R
  refine ⟨D.mono (fun i k z => by unfold Ph at z; unfold Pk; omega), fun _ => ⟨⟨?_, ?_, ?_, O, ?_, ?_⟩, ?_, ?_⟩, fun z => absurd rfl z⟩
  · exact (D.2.2.2 _ _ (by unfold Ph; omega)).trans r1
  · exact (D.2.2.2 _ _ (by unfold Ph; omega)).trans r2
  · exact ⟨(D.2.2.2 _ _ (by unfold Ph; omega)).trans r3.1, r3.2⟩
  · exact r5.dx D (by unfold Ph; omega) (fun i => by unfold Ph; omega)
  · exact (D.2.2.2 _ _ (by unfold Ph; omega)).trans r6
  · exact D.2.2.2 _ _ (by unfold Ph; omega)
  · exact D.2.2.2 _ _ (by unfold Ph; omega)
theorem RS6.w8 {H : HS} {q : Nat} {s : St6} (b : Int) (hb : -2147483648 ≤ b ∧ b < 2147483648) (R : RS6 H q s) (hq : q = 74 ∨ q = 77) : RS6 (wI H 71 8 (iZ b)) q (s.1, s.2.1, b, s.2.2.2.1, s.2.2.2.2.1, s.2.2.2.2.2) := by
  obtain ⟨r1, r2, r3, r4, r5, r6⟩ := R
  have D1 : DX (fun i k => i = 71 ∧ k = 8) H (wI H 71 8 (iZ b)) := (DX.rf _ _).wI (by omega)
  exact ⟨(D1.2.2.2 _ _ (by omega)).trans r1, (D1.2.2.2 _ _ (by omega)).trans r2, ⟨vi_same, hb⟩, r4.dx D1 (fun k => by omega) (by omega) (by omega) (by omega), r5.dx D1 (by omega) (fun i => by omega), (D1.2.2.2 _ _ (by omega)).trans r6⟩

set_option maxRecDepth 20000 in
set_option maxHeartbeats 1000000 in
theorem s_con {G : GC} {d mc ms : Nat} {H : HS} {K : Option Value → HS → Prop} {q : Nat} {s : St6} {c v pl : Int} (S : Shp H) (QP : QPr H q) (hq : q = 74 ∨ q = 77) (hr : ri H 71 16 = some q) (R : RS6 H q s) (e3 : vi H 71 3 = iZ c) (hc : -2147483648 ≤ c ∧ c < 2147483648) (e4 : vi H 71 4 = iZ pl) (e5 : c = 20 → vi H 71 5 = iZ v) (hk : ∀ H', TKp H H' q (zcon c v s) pl → K none H') : Go G (d + 2) mc ms M_X9_takeCondition 0 [.ref 71, un] [] H K := by
  have zr := zop_r s.2.2.2.1
  have wl := R.2.2.2.1.2.1
  refine Go_aload_n (pc' := 1) dX9_takeCondition_0 rfl rfl rfl ?_
  refine Go_getIv (v := (iZ c)) (pc' := 4) dX9_takeCondition_1 rfl kf_RX9_44 (by decide) (by decide) rfl (S.b 71 rfl rfl) (S.o 71 rfl rfl rfl) (e3) ?_
  refine Go_bipush (v := iZ 6) (pc' := 6) dX9_takeCondition_4 rfl (by decide) ?_
  refine Go_icmp_eqY (tgt := 19) (pc' := 9) dX9_takeCondition_6 (by decide) rfl (by first | exact ⟨i_lo _, i_hi _⟩ | omega) (by first | exact ⟨i_lo _, i_hi _⟩ | omega) (fun c6 => ?_) (fun c6 => ?_)
  · refine Go_iconst (v := iZ 1) (pc' := 20) dX9_takeCondition_19 rfl (by decide) ?_
    refine Go_goto (tgt := 24) dX9_takeCondition_20 (by decide) ?_
    refine Go_istore_n (pc' := 25) (lv' := [.ref _, .int _]) dX9_takeCondition_24 rfl rfl (Nat.le_of_ble_eq_true rfl) rfl rfl ?_
    refine Go_iload_n (pc' := 26) dX9_takeCondition_25 rfl rfl rfl ?_
    refine Go_if_neY (tgt := 41) (pc' := 29) dX9_takeCondition_26 (by decide) rfl (by first | exact ⟨i_lo _, i_hi _⟩ | omega) (fun c26 => ?_) (fun c26 => by exfalso; omega)
    refine Go_aload_n (pc' := 42) dX9_takeCondition_41 rfl rfl rfl ?_
    refine Go_getIv (v := (iZ (zop s.2.2.2.1))) (pc' := 45) dX9_takeCondition_42 rfl kf_RX9_62 (by decide) (by decide) rfl (S.b 71 rfl rfl) (S.o 71 rfl rfl rfl) (R.2.2.2.1.2.2.2.1) ?_
    refine Go_bipush (v := iZ 8) (pc' := 47) dX9_takeCondition_45 rfl (by decide) ?_
    refine Go_icmp_ltY (tgt := 58) (pc' := 50) dX9_takeCondition_47 (by decide) rfl (by first | exact ⟨i_lo _, i_hi _⟩ | omega) (by first | exact ⟨i_lo _, i_hi _⟩ | omega) (fun c47 => ?_) (fun c47 => ?_)
    · refine Go_aload_n (pc' := 59) dX9_takeCondition_58 rfl rfl rfl ?_
      refine Go_aload_n (pc' := 60) dX9_takeCondition_59 rfl rfl rfl ?_
      refine Go_getIv (v := (iZ c)) (pc' := 63) dX9_takeCondition_60 rfl kf_RX9_44 (by decide) (by decide) rfl (S.b 71 rfl rfl) (S.o 71 rfl rfl rfl) (e3) ?_
      refine Go_callV_v (pc' := 66) (As := [.int _]) (st := []) dX9_takeCondition_63 rfl ok_X9_holdBack km_RX9_103 (S.o 71 rfl rfl rfl) (S.b 71 rfl rfl) ⟨_, _, rfl⟩ rfl (Nat.le_of_ble_eq_true rfl) rfl rfl rfl (Nat.le_of_ble_eq_true rfl) (Nat.lt_succ_self _) ?_
      refine s_hold S R.2.2.2.1 (by omega) (fun H1 D1 W1 => ?_)
      refine ⟨rfl, ?_⟩
      refine Go_return dX9_takeCondition_66 rfl ?_
      refine hk _ ?_
      unfold zcon
      rw [if_pos (by omega), if_neg (by omega)]
      exact TKp.hold R hq D1 W1
    · refine Go_aload_n (pc' := 51) dX9_takeCondition_50 rfl rfl rfl ?_
      refine Go_iconst (v := iZ 3) (pc' := 52) dX9_takeCondition_51 rfl (by decide) ?_
      refine Go_callV_v (pc' := 55) (As := [.int _]) (st := []) dX9_takeCondition_52 rfl ok_X9_refuse km_RX9_89 (S.o 71 rfl rfl rfl) (S.b 71 rfl rfl) ⟨_, _, rfl⟩ rfl (Nat.le_of_ble_eq_true rfl) rfl rfl rfl (Nat.le_of_ble_eq_true rfl) (Nat.lt_succ_self _) ?_
      refine Go_aload_n (pc' := 1) dX9_refuse_0 rfl rfl rfl ?_
      refine Go_iload_n (pc' := 2) dX9_refuse_1 rfl rfl rfl ?_
      refine Go_putI (pc' := 5) dX9_refuse_2 rfl kf_RX9_38 (by decide) (by decide) rfl (S.b 71 rfl rfl) (S.o 71 rfl rfl rfl) (Or.inl rfl) rfl rfl ?_
      refine Go_aload_n (pc' := 6) dX9_refuse_5 rfl rfl rfl ?_
      refine Go_aload_n (pc' := 7) dX9_refuse_6 rfl rfl rfl ?_
      refine Go_getIv (v := (iZ pl)) (pc' := 10) dX9_refuse_7 rfl kf_RX9_68 (by decide) (by decide) rfl (S.b 71 rfl rfl) (S.o 71 rfl rfl rfl) ((vi_skip (Or.inr (by decide))).trans (e4)) ?_
      refine Go_putI (pc' := 13) dX9_refuse_10 rfl kf_RX9_18 (by decide) (by decide) rfl (S.b 71 rfl rfl) (S.o 71 rfl rfl rfl) (Or.inl rfl) rfl rfl ?_
      refine Go_return dX9_refuse_13 rfl ?_
      refine ⟨rfl, ?_⟩
      refine Go_goto (tgt := 66) dX9_takeCondition_55 (by decide) ?_
      refine Go_return dX9_takeCondition_66 rfl ?_
      refine hk _ ?_
      unfold zcon
      rw [if_pos (by omega), if_pos (by omega)]
      exact TKp.bad (by omega)
  · refine Go_aload_n (pc' := 10) dX9_takeCondition_9 rfl rfl rfl ?_
    refine Go_getIv (v := (iZ c)) (pc' := 13) dX9_takeCondition_10 rfl kf_RX9_44 (by decide) (by decide) rfl (S.b 71 rfl rfl) (S.o 71 rfl rfl rfl) (e3) ?_
    refine Go_sipush (v := iZ 140) (pc' := 16) dX9_takeCondition_13 rfl (by decide) ?_
    refine Go_icmp_neY (tgt := 23) (pc' := 19) dX9_takeCondition_16 (by decide) rfl (by first | exact ⟨i_lo _, i_hi _⟩ | omega) (by first | exact ⟨i_lo _, i_hi _⟩ | omega) (fun c16 => ?_) (fun c16 => ?_)
    · refine Go_iconst (v := iZ 0) (pc' := 24) dX9_takeCondition_23 rfl (by decide) ?_
      refine Go_istore_n (pc' := 25) (lv' := [.ref _, .int _]) dX9_takeCondition_24 rfl rfl (Nat.le_of_ble_eq_true rfl) rfl rfl ?_
      refine Go_iload_n (pc' := 26) dX9_takeCondition_25 rfl rfl rfl ?_
      refine Go_if_neY (tgt := 41) (pc' := 29) dX9_takeCondition_26 (by decide) rfl (by first | exact ⟨i_lo _, i_hi _⟩ | omega) (fun c26 => by exfalso; omega) (fun c26 => ?_)
      refine Go_aload_n (pc' := 30) dX9_takeCondition_29 rfl rfl rfl ?_
      refine Go_iconst (v := iZ 0) (pc' := 31) dX9_takeCondition_30 rfl (by decide) ?_
      refine Go_putI (pc' := 34) dX9_takeCondition_31 rfl kf_RX9_99 (by decide) (by decide) rfl (S.b 71 rfl rfl) (S.o 71 rfl rfl rfl) (Or.inl rfl) rfl rfl ?_
      refine Go_aload_n (pc' := 35) dX9_takeCondition_34 rfl rfl rfl ?_
      refine Go_callV_v (pc' := 38) (As := []) (st := []) dX9_takeCondition_35 rfl ok_X9_takeUnit km_RX9_80 (S.o 71 rfl rfl rfl) (S.b 71 rfl rfl) ⟨_, _, rfl⟩ rfl (Nat.le_of_ble_eq_true rfl) rfl rfl rfl (Nat.le_of_ble_eq_true rfl) (Nat.lt_succ_self _) ?_
      refine s_unit (s := (s.1, s.2.1, 0, s.2.2.2.1, s.2.2.2.2.1, s.2.2.2.2.2)) S QP hq hr (RS6.w8 0 (by omega) R hq) ((vi_skip (by decide)).trans e3) hc ((vi_skip (by decide)).trans e4) (fun z => (vi_skip (by decide)).trans (e5 z)) (fun H1 T1 => ?_)
      refine ⟨rfl, ?_⟩
      refine Go_goto (tgt := 66) dX9_takeCondition_38 (by decide) ?_
      refine Go_return dX9_takeCondition_66 rfl ?_
      refine hk _ ?_
      unfold zcon
      rw [if_neg (by omega)]
      exact T1.pre (DX.wI (DX.rf (fun i k => i = 71 ∧ k = 8) H) (by omega)) (fun i k z => by unfold Pk; omega)
    · refine Go_iconst (v := iZ 1) (pc' := 20) dX9_takeCondition_19 rfl (by decide) ?_
      refine Go_goto (tgt := 24) dX9_takeCondition_20 (by decide) ?_
      refine Go_istore_n (pc' := 25) (lv' := [.ref _, .int _]) dX9_takeCondition_24 rfl rfl (Nat.le_of_ble_eq_true rfl) rfl rfl ?_
      refine Go_iload_n (pc' := 26) dX9_takeCondition_25 rfl rfl rfl ?_
      refine Go_if_neY (tgt := 41) (pc' := 29) dX9_takeCondition_26 (by decide) rfl (by first | exact ⟨i_lo _, i_hi _⟩ | omega) (fun c26 => ?_) (fun c26 => by exfalso; omega)
      refine Go_aload_n (pc' := 42) dX9_takeCondition_41 rfl rfl rfl ?_
      refine Go_getIv (v := (iZ (zop s.2.2.2.1))) (pc' := 45) dX9_takeCondition_42 rfl kf_RX9_62 (by decide) (by decide) rfl (S.b 71 rfl rfl) (S.o 71 rfl rfl rfl) (R.2.2.2.1.2.2.2.1) ?_
      refine Go_bipush (v := iZ 8) (pc' := 47) dX9_takeCondition_45 rfl (by decide) ?_
      refine Go_icmp_ltY (tgt := 58) (pc' := 50) dX9_takeCondition_47 (by decide) rfl (by first | exact ⟨i_lo _, i_hi _⟩ | omega) (by first | exact ⟨i_lo _, i_hi _⟩ | omega) (fun c47 => ?_) (fun c47 => ?_)
      · refine Go_aload_n (pc' := 59) dX9_takeCondition_58 rfl rfl rfl ?_
        refine Go_aload_n (pc' := 60) dX9_takeCondition_59 rfl rfl rfl ?_
        refine Go_getIv (v := (iZ c)) (pc' := 63) dX9_takeCondition_60 rfl kf_RX9_44 (by decide) (by decide) rfl (S.b 71 rfl rfl) (S.o 71 rfl rfl rfl) (e3) ?_
        refine Go_callV_v (pc' := 66) (As := [.int _]) (st := []) dX9_takeCondition_63 rfl ok_X9_holdBack km_RX9_103 (S.o 71 rfl rfl rfl) (S.b 71 rfl rfl) ⟨_, _, rfl⟩ rfl (Nat.le_of_ble_eq_true rfl) rfl rfl rfl (Nat.le_of_ble_eq_true rfl) (Nat.lt_succ_self _) ?_
        refine s_hold S R.2.2.2.1 (by omega) (fun H1 D1 W1 => ?_)
        refine ⟨rfl, ?_⟩
        refine Go_return dX9_takeCondition_66 rfl ?_
        refine hk _ ?_
        unfold zcon
        rw [if_pos (by omega), if_neg (by omega)]
        exact TKp.hold R hq D1 W1
      · refine Go_aload_n (pc' := 51) dX9_takeCondition_50 rfl rfl rfl ?_
        refine Go_iconst (v := iZ 3) (pc' := 52) dX9_takeCondition_51 rfl (by decide) ?_
        refine Go_callV_v (pc' := 55) (As := [.int _]) (st := []) dX9_takeCondition_52 rfl ok_X9_refuse km_RX9_89 (S.o 71 rfl rfl rfl) (S.b 71 rfl rfl) ⟨_, _, rfl⟩ rfl (Nat.le_of_ble_eq_true rfl) rfl rfl rfl (Nat.le_of_ble_eq_true rfl) (Nat.lt_succ_self _) ?_
        refine Go_aload_n (pc' := 1) dX9_refuse_0 rfl rfl rfl ?_
        refine Go_iload_n (pc' := 2) dX9_refuse_1 rfl rfl rfl ?_
        refine Go_putI (pc' := 5) dX9_refuse_2 rfl kf_RX9_38 (by decide) (by decide) rfl (S.b 71 rfl rfl) (S.o 71 rfl rfl rfl) (Or.inl rfl) rfl rfl ?_
        refine Go_aload_n (pc' := 6) dX9_refuse_5 rfl rfl rfl ?_
        refine Go_aload_n (pc' := 7) dX9_refuse_6 rfl rfl rfl ?_
        refine Go_getIv (v := (iZ pl)) (pc' := 10) dX9_refuse_7 rfl kf_RX9_68 (by decide) (by decide) rfl (S.b 71 rfl rfl) (S.o 71 rfl rfl rfl) ((vi_skip (Or.inr (by decide))).trans (e4)) ?_
        refine Go_putI (pc' := 13) dX9_refuse_10 rfl kf_RX9_18 (by decide) (by decide) rfl (S.b 71 rfl rfl) (S.o 71 rfl rfl rfl) (Or.inl rfl) rfl rfl ?_
        refine Go_return dX9_refuse_13 rfl ?_
        refine ⟨rfl, ?_⟩
        refine Go_goto (tgt := 66) dX9_takeCondition_55 (by decide) ?_
        refine Go_return dX9_takeCondition_66 rfl ?_
        refine hk _ ?_
        unfold zcon
        rw [if_pos (by omega), if_pos (by omega)]
        exact TKp.bad (by omega)
theorem TKp.joint {H H1 H2 : HS} {q : Nat} {s : St6} {W : List Int} {o : List Int32} {nx pl : Int} (R : RS6 H q s) (hq : q = 74 ∨ q = 77) (D1 : DX (Pr q) H H1) (O : OutE H1 q o) (D2 : DX Ph H1 H2) (WE : WaiE H2 W) : TKp H (wI H2 71 6 (iZ nx)) q (0, (nx, s.2.1, s.2.2.1, W, o, s.2.2.2.2.2)) pl := by
  obtain ⟨r1, r2, r3, r4, r5, r6⟩ := R
  have D : DX (fun i k => Pr q i k ∨ Ph i k ∨ (i = 71 ∧ k = 6)) H (wI H2 71 6 (iZ nx)) := ((D1.mono (fun i k z => Or.inl z)).tr (D2.mono (fun i k z => Or.inr (Or.inl z)))).wI (Or.inr (Or.inr ⟨rfl, rfl⟩))
  refine ⟨D.mono (fun i k z => by unfold Pr Ph at z; unfold Pk; omega), fun _ => ⟨⟨vi_same, ?_, ?_, ?_, ?_, ?_⟩, ?_, ?_⟩, fun z => absurd rfl z⟩
  · exact (D.2.2.2 _ _ (by unfold Pr Ph; omega)).trans r2
  · exact ⟨(D.2.2.2 _ _ (by unfold Pr Ph; omega)).trans r3.1, r3.2⟩
  · exact WE.dx (DX.wI (DX.rf (fun i k => i = 71 ∧ k = 6) H2) (by omega)) (fun k => by omega) (by omega) (by omega) (by omega)
  · exact (O.dx D2 (by unfold Ph; omega) (fun i => by unfold Ph; omega)).dx (DX.wI (DX.rf (fun i k => i = 71 ∧ k = 6) H2) (by omega)) (by omega) (fun i => by omega)
  · exact (D.2.2.2 _ _ (by unfold Pr Ph; omega)).trans r6
  · exact D.2.2.2 _ _ (by unfold Pr Ph; omega)
  · exact D.2.2.2 _ _ (by unfold Pr Ph; omega)
def zjoint (r nx c : Int) (s : St6) : Int × St6 := (0, (nx, s.2.1, s.2.2.1, zpsh (zrel r s.2.2.2.1 s.2.2.2.2.1).1 c, (zrel r s.2.2.2.1 s.2.2.2.2.1).2, s.2.2.2.2.2))

set_option maxRecDepth 20000 in
set_option maxHeartbeats 1000000 in
theorem s_joint {G : GC} {d mc ms : Nat} {H : HS} {K : Option Value → HS → Prop} {r nx : Int} {q : Nat} {s : St6} {c v pl : Int} (S : Shp H) (QP : QPr H q) (hq : q = 74 ∨ q = 77) (hr : ri H 71 16 = some q) (R : RS6 H q s) (e3 : vi H 71 3 = iZ c) (hc : -2147483648 ≤ c ∧ c < 2147483648) (e4 : vi H 71 4 = iZ pl) (e5 : c = 20 → vi H 71 5 = iZ v) (hw : zwt c) (hr1 : 1 ≤ r ∧ r ≤ 6) (hk : ∀ H', TKp H H' q (zjoint r nx c s) pl → K none H') : Go G (d + 2) mc ms M_X9_takeJoint 0 [.ref 71, .int (iZ r), .int (iZ nx)] [] H K := by
  refine Go_aload_n (pc' := 1) dX9_takeJoint_0 rfl rfl rfl ?_
  refine Go_iload_n (pc' := 2) dX9_takeJoint_1 rfl rfl rfl ?_
  refine Go_callV_v (pc' := 5) (As := [.int _]) (st := []) dX9_takeJoint_2 rfl ok_X9_release km_RX9_123 (S.o 71 rfl rfl rfl) (S.b 71 rfl rfl) ⟨_, _, rfl⟩ rfl (Nat.le_of_ble_eq_true rfl) rfl rfl rfl (Nat.le_of_ble_eq_true rfl) (Nat.lt_succ_self _) ?_
  refine s_rel S QP hq hr R.2.2.2.2.1 R.2.2.2.1 hr1 (fun H1 D1 O1 W1 => ?_)
  refine ⟨rfl, ?_⟩
  have S1 := D1.shp S
  refine Go_aload_n (pc' := 6) dX9_takeJoint_5 rfl rfl rfl ?_
  refine Go_aload_n (pc' := 7) dX9_takeJoint_6 rfl rfl rfl ?_
  refine Go_getIv (v := (iZ c)) (pc' := 10) dX9_takeJoint_7 rfl kf_RX9_44 (by decide) (by decide) rfl (S1.b 71 rfl rfl) (S1.o 71 rfl rfl rfl) (((D1.2.2.2 _ _ (by unfold Pr; omega)).trans e3)) ?_
  refine Go_callV_v (pc' := 13) (As := [.int _]) (st := []) dX9_takeJoint_10 rfl ok_X9_holdBack km_RX9_103 (S1.o 71 rfl rfl rfl) (S1.b 71 rfl rfl) ⟨_, _, rfl⟩ rfl (Nat.le_of_ble_eq_true rfl) rfl rfl rfl (Nat.le_of_ble_eq_true rfl) (Nat.lt_succ_self _) ?_
  refine s_hold S1 W1 hw (fun H2 D2 W2 => ?_)
  refine ⟨rfl, ?_⟩
  have S2 := D2.shp S1
  refine Go_aload_n (pc' := 14) dX9_takeJoint_13 rfl rfl rfl ?_
  refine Go_iload_n (pc' := 15) dX9_takeJoint_14 rfl rfl rfl ?_
  refine Go_putI (pc' := 18) dX9_takeJoint_15 rfl kf_RX9_47 (by decide) (by decide) rfl (S2.b 71 rfl rfl) (S2.o 71 rfl rfl rfl) (Or.inl rfl) rfl rfl ?_
  refine Go_return dX9_takeJoint_18 rfl ?_
  exact hk _ (TKp.joint R hq D1 O1 D2 W2)
