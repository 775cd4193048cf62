/-! the class takes a token: units, lines -/
/-- where the reader stands: state, verdict, whether compared, what waits, the draft's codes and lines -/
abbrev St6 : Type := Int × Int × Int × List Int × List Int32 × Nat
def RS6 (H : HS) (q : Nat) (s : St6) : Prop := vi H 71 6 = iZ s.1 ∧ vi H 71 7 = iZ s.2.1 ∧ (vi H 71 8 = iZ s.2.2.1 ∧ (-2147483648 ≤ s.2.2.1 ∧ s.2.2.1 < 2147483648)) ∧ WaiE H s.2.2.2.1 ∧ OutE H q s.2.2.2.2.1 ∧ vi H q 2 = iZ (s.2.2.2.2.2 : Int)
abbrev Pk (q i k : Nat) : Prop := (i = q ∧ (k = 1 ∨ k = 2)) ∨ i = q + 1 ∨ i = 73 ∨ (i = 71 ∧ (6 ≤ k ∧ k ≤ 8 ∨ 10 ≤ k ∧ k ≤ 14))
def TKp (H H' : HS) (q : Nat) (r : Int × St6) (pl : Int) : Prop := DX (Pk q) H H' ∧ (r.1 = 0 → RS6 H' q r.2 ∧ vi H' 71 13 = vi H 71 13 ∧ vi H' 71 14 = vi H 71 14) ∧ (¬ r.1 = 0 → vi H' 71 13 = iZ r.1 ∧ vi H' 71 14 = iZ pl)
def zunit (c v : Int) (s : St6) : Int × St6 := if c = 20 then (0, (5, s.2.1, s.2.2.1, s.2.2.2.1, zadd s.2.2.2.2.1 (iZ v), s.2.2.2.2.2)) else if 7 ≤ c ∧ c ≤ 13 then (0, (5, s.2.1, s.2.2.1, s.2.2.2.1, zadd s.2.2.2.2.1 (iZ (10000 + c)), s.2.2.2.2.2)) else (1, s)
theorem zunit_n {c v : Int} {s : St6} (h : c = 20) : zunit c v s = (0, (5, s.2.1, s.2.2.1, s.2.2.2.1, zadd s.2.2.2.2.1 (iZ v), s.2.2.2.2.2)) := if_pos h
theorem zunit_f {c v : Int} {s : St6} (h : 7 ≤ c ∧ c ≤ 13) : zunit c v s = (0, (5, s.2.1, s.2.2.1, s.2.2.2.1, zadd s.2.2.2.2.1 (iZ (10000 + c)), s.2.2.2.2.2)) := by unfold zunit; rw [if_neg (by omega), if_pos h]
theorem zunit_b {c v : Int} {s : St6} (h : ¬ c = 20) (h1 : ¬ (7 ≤ c ∧ c ≤ 13)) : zunit c v s = (1, s) := by unfold zunit; rw [if_neg h, if_neg h1]
theorem TKp.bad {H : HS} {q : Nat} {k pl : Int} {s : St6} (hk : ¬ k = 0) : TKp H (wI (wI H 71 13 (iZ k)) 71 14 (iZ pl)) q (k, s) pl :=
  ⟨((DX.rf _ _).wI (by unfold Pk; omega)).wI (by unfold Pk; omega), fun z => absurd z hk, fun _ => ⟨by rw [vi_skip (by decide), vi_same], vi_same⟩⟩
theorem TKp.pre {P : Nat → Nat → Prop} {H H1 H' : HS} {q : Nat} {r : Int × St6} {pl : Int} (T : TKp H1 H' q r pl) (D : DX P H H1) (hP : ∀ i k, P i k → Pk q i k ∧ ¬ (i = 71 ∧ (k = 13 ∨ k = 14))) : TKp H H' q r pl :=
  ⟨(D.mono (fun i k z => (hP i k z).1)).tr T.1, fun z => ⟨(T.2.1 z).1, (T.2.1 z).2.1.trans (D.2.2.2 _ _ (fun y => (hP _ _ y).2 (by omega))), (T.2.1 z).2.2.trans (D.2.2.2 _ _ (fun y => (hP _ _ y).2 (by omega)))⟩, T.2.2⟩
/-- a unit is put to the codes -/
theorem TKp.unit {H H1 : HS} {q : Nat} {s : St6} {o : List Int32} {pl : Int} (R : RS6 H q s) (hq : q = 74 ∨ q = 77) (D : DX (Pa q) H H1) (O : OutE H1 q o) : TKp H (wI H1 71 6 (iZ 5)) q (0, (5, s.2.1, s.2.2.1, s.2.2.2.1, o, s.2.2.2.2.2)) pl := by
  obtain ⟨r1, r2, r3, r4, r5, r6⟩ := R
  have D1 : DX (fun i k => Pa q i k ∨ (i = 71 ∧ k = 6)) H (wI H1 71 6 (iZ 5)) := (D.mono (fun i k z => Or.inl z)).wI (Or.inr ⟨rfl, rfl⟩)
  refine ⟨D1.mono (fun i k z => by unfold Pa at z; unfold Pk; omega), fun _ => ⟨⟨vi_same, ?_, ?_, ?_, ?_, ?_⟩, ?_, ?_⟩, fun z => absurd rfl z⟩
  · exact (D1.2.2.2 _ _ (by unfold Pa; omega)).trans r2
  · exact ⟨(D1.2.2.2 _ _ (by unfold Pa; omega)).trans r3.1, r3.2⟩
  · exact r4.dx D1 (fun k => by unfold Pa; omega) (by unfold Pa; omega) (by unfold Pa; omega) (by unfold Pa; omega)
  · exact O.dx (DX.wI (DX.rf (fun i k => i = 71 ∧ k = 6) H1) (by omega)) (by omega) (fun i => by omega)
  · exact (D1.2.2.2 _ _ (by unfold Pa; omega)).trans r6
  · exact D1.2.2.2 _ _ (by unfold Pa; omega)
  · exact D1.2.2.2 _ _ (by unfold Pa; omega)

set_option maxRecDepth 20000 in
set_option maxHeartbeats 1000000 in
theorem s_unit {G : GC} {d mc ms : Nat} {H : HS} {K : Option Value → HS → Prop} {q : Nat} {s : St6} {c v pl : Int} (S : Shp H) (QP : QPr H q) (hq : q = 74 ∨ q = 77) (hr : ri H 71 16 = some q) (R : RS6 H q s) (e3 : vi H 71 3 = iZ c) (hc : -2147483648 ≤ c ∧ c < 2147483648) (e4 : vi H 71 4 = iZ pl) (e5 : c = 20 → vi H 71 5 = iZ v) (hk : ∀ H', TKp H H' q (zunit c v s) pl → K none H') : Go G (d + 1) mc ms M_X9_takeUnit 0 [.ref 71] [] H K := by
  refine Go_aload_n (pc' := 1) dX9_takeUnit_0 rfl rfl rfl ?_
  refine Go_getIv (v := (iZ c)) (pc' := 4) dX9_takeUnit_1 rfl kf_RX9_44 (by decide) (by decide) rfl (S.b 71 rfl rfl) (S.o 71 rfl rfl rfl) (e3) ?_
  refine Go_bipush (v := iZ 20) (pc' := 6) dX9_takeUnit_4 rfl (by decide) ?_
  refine Go_icmp_neY (tgt := 28) (pc' := 9) dX9_takeUnit_6 (by decide) rfl (by first | exact ⟨i_lo _, i_hi _⟩ | omega) (by first | exact ⟨i_lo _, i_hi _⟩ | omega) (fun c6 => ?_) (fun c6 => ?_)
  · refine Go_aload_n (pc' := 29) dX9_takeUnit_28 rfl rfl rfl ?_
    refine Go_getIv (v := (iZ c)) (pc' := 32) dX9_takeUnit_29 rfl kf_RX9_44 (by decide) (by decide) rfl (S.b 71 rfl rfl) (S.o 71 rfl rfl rfl) (e3) ?_
    refine Go_bipush (v := iZ 7) (pc' := 34) dX9_takeUnit_32 rfl (by decide) ?_
    refine Go_icmp_ltY (tgt := 69) (pc' := 37) dX9_takeUnit_34 (by decide) rfl (by first | exact ⟨i_lo _, i_hi _⟩ | omega) (by first | exact ⟨i_lo _, i_hi _⟩ | omega) (fun c34 => ?_) (fun c34 => ?_)
    · refine Go_aload_n (pc' := 70) dX9_takeUnit_69 rfl rfl rfl ?_
      refine Go_iconst (v := iZ 1) (pc' := 71) dX9_takeUnit_70 rfl (by decide) ?_
      refine Go_callV_v (pc' := 74) (As := [.int _]) (st := []) dX9_takeUnit_71 rfl ok_X9_refuse km_RX9_89 (S.o 71 rfl rfl rfl) (S.b 71 rfl rfl) ⟨_, _, rfl⟩ rfl (Nat.le_of_ble_eq_true rfl) rfl rfl rfl (Nat.le_of_ble_eq_true rfl) (Nat.lt_succ_self _) ?_
      refine Go_aload_n (pc' := 1) dX9_refuse_0 rfl rfl rfl ?_
      refine Go_iload_n (pc' := 2) dX9_refuse_1 rfl rfl rfl ?_
      refine Go_putI (pc' := 5) dX9_refuse_2 rfl kf_RX9_38 (by decide) (by decide) rfl (S.b 71 rfl rfl) (S.o 71 rfl rfl rfl) (Or.inl rfl) rfl rfl ?_
      refine Go_aload_n (pc' := 6) dX9_refuse_5 rfl rfl rfl ?_
      refine Go_aload_n (pc' := 7) dX9_refuse_6 rfl rfl rfl ?_
      refine Go_getIv (v := (iZ pl)) (pc' := 10) dX9_refuse_7 rfl kf_RX9_68 (by decide) (by decide) rfl (S.b 71 rfl rfl) (S.o 71 rfl rfl rfl) ((vi_skip (Or.inr (by decide))).trans (e4)) ?_
      refine Go_putI (pc' := 13) dX9_refuse_10 rfl kf_RX9_18 (by decide) (by decide) rfl (S.b 71 rfl rfl) (S.o 71 rfl rfl rfl) (Or.inl rfl) rfl rfl ?_
      refine Go_return dX9_refuse_13 rfl ?_
      refine ⟨rfl, ?_⟩
      refine Go_return dX9_takeUnit_74 rfl ?_
      refine hk _ ?_
      rw [zunit_b (by omega) (by omega)]
      exact TKp.bad (by omega)
    · refine Go_aload_n (pc' := 38) dX9_takeUnit_37 rfl rfl rfl ?_
      refine Go_getIv (v := (iZ c)) (pc' := 41) dX9_takeUnit_38 rfl kf_RX9_44 (by decide) (by decide) rfl (S.b 71 rfl rfl) (S.o 71 rfl rfl rfl) (e3) ?_
      refine Go_bipush (v := iZ 13) (pc' := 43) dX9_takeUnit_41 rfl (by decide) ?_
      refine Go_icmp_gtY (tgt := 69) (pc' := 46) dX9_takeUnit_43 (by decide) rfl (by first | exact ⟨i_lo _, i_hi _⟩ | omega) (by first | exact ⟨i_lo _, i_hi _⟩ | omega) (fun c43 => ?_) (fun c43 => ?_)
      · refine Go_aload_n (pc' := 70) dX9_takeUnit_69 rfl rfl rfl ?_
        refine Go_iconst (v := iZ 1) (pc' := 71) dX9_takeUnit_70 rfl (by decide) ?_
        refine Go_callV_v (pc' := 74) (As := [.int _]) (st := []) dX9_takeUnit_71 rfl ok_X9_refuse km_RX9_89 (S.o 71 rfl rfl rfl) (S.b 71 rfl rfl) ⟨_, _, rfl⟩ rfl (Nat.le_of_ble_eq_true rfl) rfl rfl rfl (Nat.le_of_ble_eq_true rfl) (Nat.lt_succ_self _) ?_
        refine Go_aload_n (pc' := 1) dX9_refuse_0 rfl rfl rfl ?_
        refine Go_iload_n (pc' := 2) dX9_refuse_1 rfl rfl rfl ?_
        refine Go_putI (pc' := 5) dX9_refuse_2 rfl kf_RX9_38 (by decide) (by decide) rfl (S.b 71 rfl rfl) (S.o 71 rfl rfl rfl) (Or.inl rfl) rfl rfl ?_
        refine Go_aload_n (pc' := 6) dX9_refuse_5 rfl rfl rfl ?_
        refine Go_aload_n (pc' := 7) dX9_refuse_6 rfl rfl rfl ?_
        refine Go_getIv (v := (iZ pl)) (pc' := 10) dX9_refuse_7 rfl kf_RX9_68 (by decide) (by decide) rfl (S.b 71 rfl rfl) (S.o 71 rfl rfl rfl) ((vi_skip (Or.inr (by decide))).trans (e4)) ?_
        refine Go_putI (pc' := 13) dX9_refuse_10 rfl kf_RX9_18 (by decide) (by decide) rfl (S.b 71 rfl rfl) (S.o 71 rfl rfl rfl) (Or.inl rfl) rfl rfl ?_
        refine Go_return dX9_refuse_13 rfl ?_
        refine ⟨rfl, ?_⟩
        refine Go_return dX9_takeUnit_74 rfl ?_
        refine hk _ ?_
        rw [zunit_b (by omega) (by omega)]
        exact TKp.bad (by omega)
      · refine Go_aload_n (pc' := 47) dX9_takeUnit_46 rfl rfl rfl ?_
        refine Go_getRs (pc' := 50) dX9_takeUnit_47 rfl kf_RX9_29 (by decide) (by decide) rfl (S.b 71 rfl rfl) (S.o 71 rfl rfl rfl) hr ?_
        refine Go_sipush (v := iZ 10000) (pc' := 53) dX9_takeUnit_50 rfl (by decide) ?_
        refine Go_aload_n (pc' := 54) dX9_takeUnit_53 rfl rfl rfl ?_
        refine Go_getIv (v := (iZ c)) (pc' := 57) dX9_takeUnit_54 rfl kf_RX9_44 (by decide) (by decide) rfl (S.b 71 rfl rfl) (S.o 71 rfl rfl rfl) (e3) ?_
        refine Go_iaddZ (pc' := 58) dX9_takeUnit_57 rfl ?_
        refine Go_callV_v (pc' := 61) (As := [.int _]) (st := []) dX9_takeUnit_58 rfl ok_X8_add km_RX9_109 QP.2.1 QP.1 ⟨_, _, rfl⟩ rfl (Nat.le_of_ble_eq_true rfl) rfl rfl rfl (Nat.le_of_ble_eq_true rfl) (Nat.lt_succ_self _) ?_
        refine s_add QP R.2.2.2.2.1 (fun H1 D1 O1 => ?_)
        refine ⟨rfl, ?_⟩
        have S1 := D1.shp S
        refine Go_aload_n (pc' := 62) dX9_takeUnit_61 rfl rfl rfl ?_
        refine Go_iconst (v := iZ 5) (pc' := 63) dX9_takeUnit_62 rfl (by decide) ?_
        refine Go_putI (pc' := 66) dX9_takeUnit_63 rfl kf_RX9_47 (by decide) (by decide) rfl (S1.b 71 rfl rfl) (S1.o 71 rfl rfl rfl) (Or.inl rfl) rfl rfl ?_
        refine Go_goto (tgt := 74) dX9_takeUnit_66 (by decide) ?_
        refine Go_return dX9_takeUnit_74 rfl ?_
        refine hk _ ?_
        rw [zunit_f (by omega)]
        exact TKp.unit R hq D1 O1
  · refine Go_aload_n (pc' := 10) dX9_takeUnit_9 rfl rfl rfl ?_
    refine Go_getRs (pc' := 13) dX9_takeUnit_10 rfl kf_RX9_29 (by decide) (by decide) rfl (S.b 71 rfl rfl) (S.o 71 rfl rfl rfl) hr ?_
    refine Go_aload_n (pc' := 14) dX9_takeUnit_13 rfl rfl rfl ?_
    refine Go_getIv (v := (iZ v)) (pc' := 17) dX9_takeUnit_14 rfl kf_RX9_106 (by decide) (by decide) rfl (S.b 71 rfl rfl) (S.o 71 rfl rfl rfl) ((e5 (by omega))) ?_
    refine Go_callV_v (pc' := 20) (As := [.int _]) (st := []) dX9_takeUnit_17 rfl ok_X8_add km_RX9_109 QP.2.1 QP.1 ⟨_, _, rfl⟩ rfl (Nat.le_of_ble_eq_true rfl) rfl rfl rfl (Nat.le_of_ble_eq_true rfl) (Nat.lt_succ_self _) ?_
    refine s_add QP R.2.2.2.2.1 (fun H1 D1 O1 => ?_)
    refine ⟨rfl, ?_⟩
    have S1 := D1.shp S
    refine Go_aload_n (pc' := 21) dX9_takeUnit_20 rfl rfl rfl ?_
    refine Go_iconst (v := iZ 5) (pc' := 22) dX9_takeUnit_21 rfl (by decide) ?_
    refine Go_putI (pc' := 25) dX9_takeUnit_22 rfl kf_RX9_47 (by decide) (by decide) rfl (S1.b 71 rfl rfl) (S1.o 71 rfl rfl rfl) (Or.inl rfl) rfl rfl ?_
    refine Go_goto (tgt := 74) dX9_takeUnit_25 (by decide) ?_
    refine Go_return dX9_takeUnit_74 rfl ?_
    refine hk _ ?_
    rw [zunit_n (by omega)]
    exact TKp.unit R hq D1 O1
def zdiv (c v : Int) (s : St6) : Int × St6 := if c = 20 then (if v = 0 then (2, s) else zunit c v s) else (1, s)
set_option maxRecDepth 20000 in
set_option maxHeartbeats 1000000 in
theorem s_div {G : GC} {d mc ms : Nat} {H : HS} {K : Option Value → HS → Prop} {q : Nat} {s : St6} {c v pl : Int} (S : Shp H) (QP : QPr H q) (hq : q = 74 ∨ q = 77) (hr : ri H 71 16 = some q) (R : RS6 H q s) (e3 : vi H 71 3 = iZ c) (hc : -2147483648 ≤ c ∧ c < 2147483648) (e4 : vi H 71 4 = iZ pl) (e5 : c = 20 → vi H 71 5 = iZ v) (hv : c = 20 → 0 ≤ v ∧ v ≤ 9999) (hk : ∀ H', TKp H H' q (zdiv c v s) pl → K none H') : Go G (d + 2) mc ms M_X9_takeDivisor 0 [.ref 71] [] H K := by
  refine Go_aload_n (pc' := 1) dX9_takeDivisor_0 rfl rfl rfl ?_
  refine Go_getIv (v := (iZ c)) (pc' := 4) dX9_takeDivisor_1 rfl kf_RX9_44 (by decide) (by decide) rfl (S.b 71 rfl rfl) (S.o 71 rfl rfl rfl) (e3) ?_
  refine Go_bipush (v := iZ 20) (pc' := 6) dX9_takeDivisor_4 rfl (by decide) ?_
  refine Go_icmp_eqY (tgt := 17) (pc' := 9) dX9_takeDivisor_6 (by decide) rfl (by first | exact ⟨i_lo _, i_hi _⟩ | omega) (by first | exact ⟨i_lo _, i_hi _⟩ | omega) (fun c6 => ?_) (fun c6 => ?_)
  · refine Go_aload_n (pc' := 18) dX9_takeDivisor_17 rfl rfl rfl ?_
    refine Go_getIv (v := (iZ v)) (pc' := 21) dX9_takeDivisor_18 rfl kf_RX9_106 (by decide) (by decide) rfl (S.b 71 rfl rfl) (S.o 71 rfl rfl rfl) ((e5 (by omega))) ?_
    refine Go_if_neY (tgt := 32) (pc' := 24) dX9_takeDivisor_21 (by decide) rfl (by first | exact ⟨i_lo _, i_hi _⟩ | omega) (fun c21 => ?_) (fun c21 => ?_)
    · refine Go_aload_n (pc' := 33) dX9_takeDivisor_32 rfl rfl rfl ?_
      refine Go_callV_v (pc' := 36) (As := []) (st := []) dX9_takeDivisor_33 rfl ok_X9_takeUnit km_RX9_80 (S.o 71 rfl rfl rfl) (S.b 71 rfl rfl) ⟨_, _, rfl⟩ rfl (Nat.le_of_ble_eq_true rfl) rfl rfl rfl (Nat.le_of_ble_eq_true rfl) (Nat.lt_succ_self _) ?_
      refine s_unit S QP hq hr R e3 hc e4 e5 (fun H1 T1 => ?_)
      refine ⟨rfl, ?_⟩
      refine Go_return dX9_takeDivisor_36 rfl ?_
      refine hk _ ?_
      unfold zdiv
      rw [if_pos (by omega), if_neg (by omega)]
      exact T1
    · refine Go_aload_n (pc' := 25) dX9_takeDivisor_24 rfl rfl rfl ?_
      refine Go_iconst (v := iZ 2) (pc' := 26) dX9_takeDivisor_25 rfl (by decide) ?_
      refine Go_callV_v (pc' := 29) (As := [.int _]) (st := []) dX9_takeDivisor_26 rfl ok_X9_refuse km_RX9_89 (S.o 71 rfl rfl rfl) (S.b 71 rfl rfl) ⟨_, _, rfl⟩ rfl (Nat.le_of_ble_eq_true rfl) rfl rfl rfl (Nat.le_of_ble_eq_true rfl) (Nat.lt_succ_self _) ?_
      refine Go_aload_n (pc' := 1) dX9_refuse_0 rfl rfl rfl ?_
      refine Go_iload_n (pc' := 2) dX9_refuse_1 rfl rfl rfl ?_
      refine Go_putI (pc' := 5) dX9_refuse_2 rfl kf_RX9_38 (by decide) (by decide) rfl (S.b 71 rfl rfl) (S.o 71 rfl rfl rfl) (Or.inl rfl) rfl rfl ?_
      refine Go_aload_n (pc' := 6) dX9_refuse_5 rfl rfl rfl ?_
      refine Go_aload_n (pc' := 7) dX9_refuse_6 rfl rfl rfl ?_
      refine Go_getIv (v := (iZ pl)) (pc' := 10) dX9_refuse_7 rfl kf_RX9_68 (by decide) (by decide) rfl (S.b 71 rfl rfl) (S.o 71 rfl rfl rfl) ((vi_skip (Or.inr (by decide))).trans (e4)) ?_
      refine Go_putI (pc' := 13) dX9_refuse_10 rfl kf_RX9_18 (by decide) (by decide) rfl (S.b 71 rfl rfl) (S.o 71 rfl rfl rfl) (Or.inl rfl) rfl rfl ?_
      refine Go_return dX9_refuse_13 rfl ?_
      refine ⟨rfl, ?_⟩
      refine Go_goto (tgt := 36) dX9_takeDivisor_29 (by decide) ?_
      refine Go_return dX9_takeDivisor_36 rfl ?_
      refine hk _ ?_
      unfold zdiv
      rw [if_pos (by omega), if_pos (by omega)]
      exact TKp.bad (by omega)
  · refine Go_aload_n (pc' := 10) dX9_takeDivisor_9 rfl rfl rfl ?_
    refine Go_iconst (v := iZ 1) (pc' := 11) dX9_takeDivisor_10 rfl (by decide) ?_
    refine Go_callV_v (pc' := 14) (As := [.int _]) (st := []) dX9_takeDivisor_11 rfl ok_X9_refuse km_RX9_89 (S.o 71 rfl rfl rfl) (S.b 71 rfl rfl) ⟨_, _, rfl⟩ rfl (Nat.le_of_ble_eq_true rfl) rfl rfl rfl (Nat.le_of_ble_eq_true rfl) (Nat.lt_succ_self _) ?_
    refine Go_aload_n (pc' := 1) dX9_refuse_0 rfl rfl rfl ?_
    refine Go_iload_n (pc' := 2) dX9_refuse_1 rfl rfl rfl ?_
    refine Go_putI (pc' := 5) dX9_refuse_2 rfl kf_RX9_38 (by decide) (by decide) rfl (S.b 71 rfl rfl) (S.o 71 rfl rfl rfl) (Or.inl rfl) rfl rfl ?_
    refine Go_aload_n (pc' := 6) dX9_refuse_5 rfl rfl rfl ?_
    refine Go_aload_n (pc' := 7) dX9_refuse_6 rfl rfl rfl ?_
    refine Go_getIv (v := (iZ pl)) (pc' := 10) dX9_refuse_7 rfl kf_RX9_68 (by decide) (by decide) rfl (S.b 71 rfl rfl) (S.o 71 rfl rfl rfl) ((vi_skip (Or.inr (by decide))).trans (e4)) ?_
    refine Go_putI (pc' := 13) dX9_refuse_10 rfl kf_RX9_18 (by decide) (by decide) rfl (S.b 71 rfl rfl) (S.o 71 rfl rfl rfl) (Or.inl rfl) rfl rfl ?_
    refine Go_return dX9_refuse_13 rfl ?_
    refine ⟨rfl, ?_⟩
    refine Go_goto (tgt := 36) dX9_takeDivisor_14 (by decide) ?_
    refine Go_return dX9_takeDivisor_36 rfl ?_
    refine hk _ ?_
    unfold zdiv
    rw [if_neg (by omega)]
    exact TKp.bad (by omega)
def zlin (c : Int) (s : St6) : Int × St6 := if 0 ≤ c ∧ c ≤ 2 then (if 16 ≤ s.2.2.2.2.2 then (3, s) else (0, (1, c + 1, s.2.2.1, s.2.2.2.1, s.2.2.2.2.1, s.2.2.2.2.2))) else (1, s)
def zwhen (c : Int) (s : St6) : Int × St6 := if c = 3 then (0, (2, s.2.1, s.2.2.1, s.2.2.2.1, s.2.2.2.2.1, s.2.2.2.2.2)) else (1, s)
theorem RS6.w67 {H : HS} {q : Nat} {s : St6} {a b pl : Int} (R : RS6 H q s) (hq : q = 74 ∨ q = 77) : TKp H (wI (wI H 71 7 (iZ b)) 71 6 (iZ a)) q (0, (a, b, s.2.2.1, s.2.2.2.1, s.2.2.2.2.1, s.2.2.2.2.2)) pl := by
  obtain ⟨r1, r2, r3, r4, r5, r6⟩ := R
  have D1 : DX (fun i k => i = 71 ∧ (k = 6 ∨ k = 7)) H (wI (wI H 71 7 (iZ b)) 71 6 (iZ a)) := ((DX.rf _ _).wI (by omega)).wI (by omega)
  refine ⟨D1.mono (fun i k z => by unfold Pk; omega), fun _ => ⟨⟨vi_same, ?_, ?_, ?_, ?_, ?_⟩, ?_, ?_⟩, fun z => absurd rfl z⟩
  · rw [vi_skip (by decide), vi_same]
  · exact ⟨(D1.2.2.2 _ _ (by omega)).trans r3.1, r3.2⟩
  · exact r4.dx D1 (fun k => by omega) (by omega) (by omega) (by omega)
  · exact r5.dx D1 (by omega) (fun i => by omega)
  · exact (D1.2.2.2 _ _ (by omega)).trans r6
  · exact D1.2.2.2 _ _ (by omega)
  · exact D1.2.2.2 _ _ (by omega)

set_option maxRecDepth 20000 in
set_option maxHeartbeats 1000000 in
theorem s_lin {G : GC} {d mc ms : Nat} {H : HS} {K : Option Value → HS → Prop} {q : Nat} {s : St6} {c v pl : Int} (S : Shp H) (QP : QPr H q) (hq : q = 74 ∨ q = 77) (hr : ri H 71 16 = some q) (R : RS6 H q s) (e3 : vi H 71 3 = iZ c) (hc : -2147483648 ≤ c ∧ c < 2147483648) (e4 : vi H 71 4 = iZ pl) (e5 : c = 20 → vi H 71 5 = iZ v) (hl : s.2.2.2.2.2 ≤ 16) (hk : ∀ H', TKp H H' q (zlin c s) pl → K none H') : Go G (d + 1) mc ms M_X9_takeLine 0 [.ref 71] [] H K := by
  refine Go_aload_n (pc' := 1) dX9_takeLine_0 rfl rfl rfl ?_
  refine Go_getIv (v := (iZ c)) (pc' := 4) dX9_takeLine_1 rfl kf_RX9_44 (by decide) (by decide) rfl (S.b 71 rfl rfl) (S.o 71 rfl rfl rfl) (e3) ?_
  refine Go_if_ltY (tgt := 15) (pc' := 7) dX9_takeLine_4 (by decide) rfl (by first | exact ⟨i_lo _, i_hi _⟩ | omega) (fun c4 => ?_) (fun c4 => ?_)
  · refine Go_aload_n (pc' := 16) dX9_takeLine_15 rfl rfl rfl ?_
    refine Go_iconst (v := iZ 1) (pc' := 17) dX9_takeLine_16 rfl (by decide) ?_
    refine Go_callV_v (pc' := 20) (As := [.int _]) (st := []) dX9_takeLine_17 rfl ok_X9_refuse km_RX9_89 (S.o 71 rfl rfl rfl) (S.b 71 rfl rfl) ⟨_, _, rfl⟩ rfl (Nat.le_of_ble_eq_true rfl) rfl rfl rfl (Nat.le_of_ble_eq_true rfl) (Nat.lt_succ_self _) ?_
    refine Go_aload_n (pc' := 1) dX9_refuse_0 rfl rfl rfl ?_
    refine Go_iload_n (pc' := 2) dX9_refuse_1 rfl rfl rfl ?_
    refine Go_putI (pc' := 5) dX9_refuse_2 rfl kf_RX9_38 (by decide) (by decide) rfl (S.b 71 rfl rfl) (S.o 71 rfl rfl rfl) (Or.inl rfl) rfl rfl ?_
    refine Go_aload_n (pc' := 6) dX9_refuse_5 rfl rfl rfl ?_
    refine Go_aload_n (pc' := 7) dX9_refuse_6 rfl rfl rfl ?_
    refine Go_getIv (v := (iZ pl)) (pc' := 10) dX9_refuse_7 rfl kf_RX9_68 (by decide) (by decide) rfl (S.b 71 rfl rfl) (S.o 71 rfl rfl rfl) ((vi_skip (Or.inr (by decide))).trans (e4)) ?_
    refine Go_putI (pc' := 13) dX9_refuse_10 rfl kf_RX9_18 (by decide) (by decide) rfl (S.b 71 rfl rfl) (S.o 71 rfl rfl rfl) (Or.inl rfl) rfl rfl ?_
    refine Go_return dX9_refuse_13 rfl ?_
    refine ⟨rfl, ?_⟩
    refine Go_goto (tgt := 60) dX9_takeLine_20 (by decide) ?_
    refine Go_return dX9_takeLine_60 rfl ?_
    refine hk _ ?_
    unfold zlin
    rw [if_neg (by omega)]
    exact TKp.bad (by omega)
  · refine Go_aload_n (pc' := 8) dX9_takeLine_7 rfl rfl rfl ?_
    refine Go_getIv (v := (iZ c)) (pc' := 11) dX9_takeLine_8 rfl kf_RX9_44 (by decide) (by decide) rfl (S.b 71 rfl rfl) (S.o 71 rfl rfl rfl) (e3) ?_
    refine Go_iconst (v := iZ 2) (pc' := 12) dX9_takeLine_11 rfl (by decide) ?_
    refine Go_icmp_leY (tgt := 23) (pc' := 15) dX9_takeLine_12 (by decide) rfl (by first | exact ⟨i_lo _, i_hi _⟩ | omega) (by first | exact ⟨i_lo _, i_hi _⟩ | omega) (fun c12 => ?_) (fun c12 => ?_)
    · refine Go_aload_n (pc' := 24) dX9_takeLine_23 rfl rfl rfl ?_
      refine Go_getRs (pc' := 27) dX9_takeLine_24 rfl kf_RX9_29 (by decide) (by decide) rfl (S.b 71 rfl rfl) (S.o 71 rfl rfl rfl) hr ?_
      refine Go_getIv (v := (iZ (s.2.2.2.2.2 : Int))) (pc' := 30) dX9_takeLine_27 rfl kf_RX9_93 (by decide) (by decide) rfl QP.1 QP.2.1 (R.2.2.2.2.2) ?_
      refine Go_bipush (v := iZ 16) (pc' := 32) dX9_takeLine_30 rfl (by decide) ?_
      refine Go_icmp_ltY (tgt := 43) (pc' := 35) dX9_takeLine_32 (by decide) rfl (by first | exact ⟨i_lo _, i_hi _⟩ | omega) (by first | exact ⟨i_lo _, i_hi _⟩ | omega) (fun c32 => ?_) (fun c32 => ?_)
      · refine Go_aload_n (pc' := 44) dX9_takeLine_43 rfl rfl rfl ?_
        refine Go_aload_n (pc' := 45) dX9_takeLine_44 rfl rfl rfl ?_
        refine Go_getIv (v := (iZ c)) (pc' := 48) dX9_takeLine_45 rfl kf_RX9_44 (by decide) (by decide) rfl (S.b 71 rfl rfl) (S.o 71 rfl rfl rfl) (e3) ?_
        refine Go_iconst (v := iZ 0) (pc' := 49) dX9_takeLine_48 rfl (by decide) ?_
        refine Go_isubZ (pc' := 50) dX9_takeLine_49 rfl ?_
        refine Go_iconst (v := iZ 1) (pc' := 51) dX9_takeLine_50 rfl (by decide) ?_
        refine Go_iaddZ (pc' := 52) dX9_takeLine_51 rfl ?_
        refine Go_putI (pc' := 55) dX9_takeLine_52 rfl kf_RX9_96 (by decide) (by decide) rfl (S.b 71 rfl rfl) (S.o 71 rfl rfl rfl) (Or.inl rfl) rfl rfl ?_
        refine Go_aload_n (pc' := 56) dX9_takeLine_55 rfl rfl rfl ?_
        refine Go_iconst (v := iZ 1) (pc' := 57) dX9_takeLine_56 rfl (by decide) ?_
        refine Go_putI (pc' := 60) dX9_takeLine_57 rfl kf_RX9_47 (by decide) (by decide) rfl (S.b 71 rfl rfl) (S.o 71 rfl rfl rfl) (Or.inl rfl) rfl rfl ?_
        refine Go_return dX9_takeLine_60 rfl ?_
        refine hk _ ?_
        unfold zlin
        rw [if_pos (by omega), if_neg (by omega)]
        have e : c - 0 + 1 = c + 1 := by omega
        rw [e]
        exact R.w67 hq
      · refine Go_aload_n (pc' := 36) dX9_takeLine_35 rfl rfl rfl ?_
        refine Go_iconst (v := iZ 3) (pc' := 37) dX9_takeLine_36 rfl (by decide) ?_
        refine Go_callV_v (pc' := 40) (As := [.int _]) (st := []) dX9_takeLine_37 rfl ok_X9_refuse km_RX9_89 (S.o 71 rfl rfl rfl) (S.b 71 rfl rfl) ⟨_, _, rfl⟩ rfl (Nat.le_of_ble_eq_true rfl) rfl rfl rfl (Nat.le_of_ble_eq_true rfl) (Nat.lt_succ_self _) ?_
        refine Go_aload_n (pc' := 1) dX9_refuse_0 rfl rfl rfl ?_
        refine Go_iload_n (pc' := 2) dX9_refuse_1 rfl rfl rfl ?_
        refine Go_putI (pc' := 5) dX9_refuse_2 rfl kf_RX9_38 (by decide) (by decide) rfl (S.b 71 rfl rfl) (S.o 71 rfl rfl rfl) (Or.inl rfl) rfl rfl ?_
        refine Go_aload_n (pc' := 6) dX9_refuse_5 rfl rfl rfl ?_
        refine Go_aload_n (pc' := 7) dX9_refuse_6 rfl rfl rfl ?_
        refine Go_getIv (v := (iZ pl)) (pc' := 10) dX9_refuse_7 rfl kf_RX9_68 (by decide) (by decide) rfl (S.b 71 rfl rfl) (S.o 71 rfl rfl rfl) ((vi_skip (Or.inr (by decide))).trans (e4)) ?_
        refine Go_putI (pc' := 13) dX9_refuse_10 rfl kf_RX9_18 (by decide) (by decide) rfl (S.b 71 rfl rfl) (S.o 71 rfl rfl rfl) (Or.inl rfl) rfl rfl ?_
        refine Go_return dX9_refuse_13 rfl ?_
        refine ⟨rfl, ?_⟩
        refine Go_goto (tgt := 60) dX9_takeLine_40 (by decide) ?_
        refine Go_return dX9_takeLine_60 rfl ?_
        refine hk _ ?_
        unfold zlin
        rw [if_pos (by omega), if_pos (by omega)]
        exact TKp.bad (by omega)
    · refine Go_aload_n (pc' := 16) dX9_takeLine_15 rfl rfl rfl ?_
      refine Go_iconst (v := iZ 1) (pc' := 17) dX9_takeLine_16 rfl (by decide) ?_
      refine Go_callV_v (pc' := 20) (As := [.int _]) (st := []) dX9_takeLine_17 rfl ok_X9_refuse km_RX9_89 (S.o 71 rfl rfl rfl) (S.b 71 rfl rfl) ⟨_, _, rfl⟩ rfl (Nat.le_of_ble_eq_true rfl) rfl rfl rfl (Nat.le_of_ble_eq_true rfl) (Nat.lt_succ_self _) ?_
      refine Go_aload_n (pc' := 1) dX9_refuse_0 rfl rfl rfl ?_
      refine Go_iload_n (pc' := 2) dX9_refuse_1 rfl rfl rfl ?_
      refine Go_putI (pc' := 5) dX9_refuse_2 rfl kf_RX9_38 (by decide) (by decide) rfl (S.b 71 rfl rfl) (S.o 71 rfl rfl rfl) (Or.inl rfl) rfl rfl ?_
      refine Go_aload_n (pc' := 6) dX9_refuse_5 rfl rfl rfl ?_
      refine Go_aload_n (pc' := 7) dX9_refuse_6 rfl rfl rfl ?_
      refine Go_getIv (v := (iZ pl)) (pc' := 10) dX9_refuse_7 rfl kf_RX9_68 (by decide) (by decide) rfl (S.b 71 rfl rfl) (S.o 71 rfl rfl rfl) ((vi_skip (Or.inr (by decide))).trans (e4)) ?_
      refine Go_putI (pc' := 13) dX9_refuse_10 rfl kf_RX9_18 (by decide) (by decide) rfl (S.b 71 rfl rfl) (S.o 71 rfl rfl rfl) (Or.inl rfl) rfl rfl ?_
      refine Go_return dX9_refuse_13 rfl ?_
      refine ⟨rfl, ?_⟩
      refine Go_goto (tgt := 60) dX9_takeLine_20 (by decide) ?_
      refine Go_return dX9_takeLine_60 rfl ?_
      refine hk _ ?_
      unfold zlin
      rw [if_neg (by omega)]
      exact TKp.bad (by omega)
set_option maxRecDepth 20000 in
set_option maxHeartbeats 1000000 in
theorem s_when {G : GC} {d mc ms : Nat} {H : HS} {K : Option Value → HS → Prop} {q : Nat} {s : St6} {c v pl : Int} (S : Shp H) (QP : QPr H q) (hq : q = 74 ∨ q = 77) (hr : ri H 71 16 = some q) (R : RS6 H q s) (e3 : vi H 71 3 = iZ c) (hc : -2147483648 ≤ c ∧ c < 2147483648) (e4 : vi H 71 4 = iZ pl) (e5 : c = 20 → vi H 71 5 = iZ v) (hk : ∀ H', TKp H H' q (zwhen c s) pl → K none H') : Go G (d + 1) mc ms M_X9_takeWhen 0 [.ref 71] [] H K := by
  refine Go_aload_n (pc' := 1) dX9_takeWhen_0 rfl rfl rfl ?_
  refine Go_getIv (v := (iZ c)) (pc' := 4) dX9_takeWhen_1 rfl kf_RX9_44 (by decide) (by decide) rfl (S.b 71 rfl rfl) (S.o 71 rfl rfl rfl) (e3) ?_
  refine Go_iconst (v := iZ 3) (pc' := 5) dX9_takeWhen_4 rfl (by decide) ?_
  refine Go_icmp_neY (tgt := 16) (pc' := 8) dX9_takeWhen_5 (by decide) rfl (by first | exact ⟨i_lo _, i_hi _⟩ | omega) (by first | exact ⟨i_lo _, i_hi _⟩ | omega) (fun c5 => ?_) (fun c5 => ?_)
  · refine Go_aload_n (pc' := 17) dX9_takeWhen_16 rfl rfl rfl ?_
    refine Go_iconst (v := iZ 1) (pc' := 18) dX9_takeWhen_17 rfl (by decide) ?_
    refine Go_callV_v (pc' := 21) (As := [.int _]) (st := []) dX9_takeWhen_18 rfl ok_X9_refuse km_RX9_89 (S.o 71 rfl rfl rfl) (S.b 71 rfl rfl) ⟨_, _, rfl⟩ rfl (Nat.le_of_ble_eq_true rfl) rfl rfl rfl (Nat.le_of_ble_eq_true rfl) (Nat.lt_succ_self _) ?_
    refine Go_aload_n (pc' := 1) dX9_refuse_0 rfl rfl rfl ?_
    refine Go_iload_n (pc' := 2) dX9_refuse_1 rfl rfl rfl ?_
    refine Go_putI (pc' := 5) dX9_refuse_2 rfl kf_RX9_38 (by decide) (by decide) rfl (S.b 71 rfl rfl) (S.o 71 rfl rfl rfl) (Or.inl rfl) rfl rfl ?_
    refine Go_aload_n (pc' := 6) dX9_refuse_5 rfl rfl rfl ?_
    refine Go_aload_n (pc' := 7) dX9_refuse_6 rfl rfl rfl ?_
    refine Go_getIv (v := (iZ pl)) (pc' := 10) dX9_refuse_7 rfl kf_RX9_68 (by decide) (by decide) rfl (S.b 71 rfl rfl) (S.o 71 rfl rfl rfl) ((vi_skip (Or.inr (by decide))).trans (e4)) ?_
    refine Go_putI (pc' := 13) dX9_refuse_10 rfl kf_RX9_18 (by decide) (by decide) rfl (S.b 71 rfl rfl) (S.o 71 rfl rfl rfl) (Or.inl rfl) rfl rfl ?_
    refine Go_return dX9_refuse_13 rfl ?_
    refine ⟨rfl, ?_⟩
    refine Go_return dX9_takeWhen_21 rfl ?_
    refine hk _ ?_
    unfold zwhen
    rw [if_neg (by omega)]
    exact TKp.bad (by omega)
  · refine Go_aload_n (pc' := 9) dX9_takeWhen_8 rfl rfl rfl ?_
    refine Go_iconst (v := iZ 2) (pc' := 10) dX9_takeWhen_9 rfl (by decide) ?_
    refine Go_putI (pc' := 13) dX9_takeWhen_10 rfl kf_RX9_47 (by decide) (by decide) rfl (S.b 71 rfl rfl) (S.o 71 rfl rfl rfl) (Or.inl rfl) rfl rfl ?_
    refine Go_goto (tgt := 21) dX9_takeWhen_13 (by decide) ?_
    refine Go_return dX9_takeWhen_21 rfl ?_
    refine hk _ ?_
    unfold zwhen
    rw [if_pos (by omega)]
    have T := R.w67 (a := 2) (b := s.2.1) (pl := pl) hq
    rw [wI_se R.2.1] at T
    exact T
