/-! the class takes a token: what follows; all -/
abbrev Pl (q i k : Nat) : Prop := (i = q ∧ (k = 1 ∨ k = 2)) ∨ i = q + 1
set_option maxRecDepth 20000 in
set_option maxHeartbeats 1000000 in
theorem s_cline {G : GC} {d mc ms : Nat} {H : HS} {K : Option Value → HS → Prop} {q : Nat} {o : List Int32} {v l : Int} (QP : QPr H q) (OE : OutE H q o) (e2 : vi H q 2 = iZ l) (hk : ∀ H', DX (Pl q) H H' → OutE H' q (zadd o (iZ (20000 + v))) → vi H' q 2 = iZ (l + 1) → K none H') : Go G (d + 1) mc ms M_X8_closeLine 0 [.ref q, .int (iZ v)] [] H K := by
  refine Go_aload_n (pc' := 1) dX8_closeLine_0 rfl rfl rfl ?_
  refine Go_sipush (v := iZ 20000) (pc' := 4) dX8_closeLine_1 rfl (by decide) ?_
  refine Go_iload_n (pc' := 5) dX8_closeLine_4 rfl rfl rfl ?_
  refine Go_iaddZ (pc' := 6) dX8_closeLine_5 rfl ?_
  refine Go_callV_v (pc' := 9) (As := [.int _]) (st := []) dX8_closeLine_6 rfl ok_X8_add km_RX8_25 QP.2.1 QP.1 ⟨_, _, rfl⟩ rfl (Nat.le_of_ble_eq_true rfl) rfl rfl rfl (Nat.le_of_ble_eq_true rfl) (Nat.lt_succ_self _) ?_
  refine s_add QP OE (fun H1 D1 O1 => ?_)
  refine ⟨rfl, ?_⟩
  have QP1 := D1.qp QP
  refine Go_aload_n (pc' := 10) dX8_closeLine_9 rfl rfl rfl ?_
  refine Go_dup (pc' := 11) dX8_closeLine_10 rfl rfl ?_
  refine Go_getIv (v := (iZ l)) (pc' := 14) dX8_closeLine_11 rfl kf_RX8_22 (by decide) (by decide) rfl QP1.1 QP1.2.1 (((D1.2.2.2 _ _ (by unfold Pa; omega)).trans e2)) ?_
  refine Go_iconst (v := iZ 1) (pc' := 15) dX8_closeLine_14 rfl (by decide) ?_
  refine Go_iaddZ (pc' := 16) dX8_closeLine_15 rfl ?_
  refine Go_putI (pc' := 19) dX8_closeLine_16 rfl kf_RX8_22 (by decide) (by decide) rfl QP1.1 QP1.2.1 (Or.inl rfl) rfl rfl ?_
  refine Go_return dX8_closeLine_19 rfl ?_
  refine hk _ ((D1.mono (fun i k z => by unfold Pa at z; unfold Pl; omega)).wI (by unfold Pl; omega)) (O1.dx (DX.wI (DX.rf (fun i k => i = q ∧ k = 2) H1) (by omega)) (by omega) (fun i => by omega)) vi_same
def zfol (c : Int) (s : St6) : Int × St6 :=
  if s.1 = 5 ∧ (zrk c = 5 ∨ zrk c = 6) then zjoint (zrk c) (if c = 147 then 4 else 3) c s
  else if s.1 = 5 ∧ zrk c = 4 ∧ s.2.2.1 = 0 then zjoint (zrk c) 3 c (s.1, s.2.1, 1, s.2.2.2.1, s.2.2.2.2.1, s.2.2.2.2.2)
  else if (s.1 = 6 ∨ ¬ s.2.2.1 = 0) ∧ (zrk c = 1 ∨ zrk c = 2) then zjoint (zrk c) 2 c s
  else if (s.1 = 6 ∨ ¬ s.2.2.1 = 0) ∧ c = 141 ∧ 0 < zbr s.2.2.2.1 then zclose s
  else if (s.1 = 6 ∨ ¬ s.2.2.1 = 0) ∧ c = 159 ∧ zbr s.2.2.2.1 = 0 then zline s
  else (1, s)
theorem TKp.line {H H1 H2 : HS} {q : Nat} {s : St6} {pl : Int} (R : RS6 H q s) (hq : q = 74 ∨ q = 77) (D1 : DX (Pr q) H H1) (W1 : WaiE H1 (zrel 1 s.2.2.2.1 s.2.2.2.2.1).1) (D2 : DX (Pl q) H1 H2) (O2 : OutE H2 q (zadd (zrel 1 s.2.2.2.1 s.2.2.2.2.1).2 (iZ (20000 + s.2.1)))) (e2 : vi H2 q 2 = iZ ((s.2.2.2.2.2 : Int) + 1)) : TKp H (wI H2 71 6 (iZ 0)) q (zline s) pl := by
  obtain ⟨r1, r2, r3, r4, r5, r6⟩ := R
  have D : DX (fun i k => Pr q i k ∨ Pl q i k ∨ (i = 71 ∧ k = 6)) H (wI H2 71 6 (iZ 0)) := ((D1.mono (fun i k z => Or.inl z)).tr (D2.mono (fun i k z => Or.inr (Or.inl z)))).wI (Or.inr (Or.inr ⟨rfl, rfl⟩))
  have D3 : DX (fun i k => i = 71 ∧ k = 6) H2 (wI H2 71 6 (iZ 0)) := (DX.rf _ _).wI (by omega)
  refine ⟨D.mono (fun i k z => by unfold Pr Pl at z; unfold Pk; omega), fun _ => ⟨⟨vi_same, ?_, ?_, ?_, ?_, ?_⟩, ?_, ?_⟩, fun z => absurd rfl z⟩
  · exact (D.2.2.2 _ _ (by unfold Pr Pl; omega)).trans r2
  · exact ⟨(D.2.2.2 _ _ (by unfold Pr Pl; omega)).trans r3.1, r3.2⟩
  · exact (W1.dx D2 (fun k => by unfold Pl; omega) (by unfold Pl; omega) (by unfold Pl; omega) (by unfold Pl; omega)).dx D3 (fun k => by omega) (by omega) (by omega) (by omega)
  · exact O2.dx D3 (by omega) (fun i => by omega)
  · exact (D3.2.2.2 _ _ (by omega)).trans e2
  · exact D.2.2.2 _ _ (by unfold Pr Pl; omega)
  · exact D.2.2.2 _ _ (by unfold Pr Pl; omega)

set_option maxRecDepth 20000 in
set_option maxHeartbeats 4000000 in
theorem s_fol {G : GC} {d mc ms : Nat} {H : HS} {K : Option Value → HS → Prop} {q : Nat} {s : St6} {c v pl : Int} (S : Shp H) (QP : QPr H q) (hq : q = 74 ∨ q = 77) (hr : ri H 71 16 = some q) (R : RS6 H q s) (e3 : vi H 71 3 = iZ c) (hc : -2147483648 ≤ c ∧ c < 2147483648) (e4 : vi H 71 4 = iZ pl) (e5 : c = 20 → vi H 71 5 = iZ v) (hs : s.1 = 5 ∨ s.1 = 6) (hk : ∀ H', TKp H H' q (zfol c s) pl → K none H') : Go G (d + 3) mc ms M_X9_takeFollower 0 [.ref 71, un, un] [] H K := by
  have rr := zrk_r c
  have zb := zbr_r s.2.2.2.1
  have wl := R.2.2.2.1.2.1
  have e8 := R.2.2.1.1
  have c8 := R.2.2.1.2
  refine Go_aload_n (pc' := 1) dX9_takeFollower_0 rfl rfl rfl ?_
  refine Go_getIv (v := (iZ c)) (pc' := 4) dX9_takeFollower_1 rfl kf_RX9_44 (by decide) (by decide) rfl (S.b 71 rfl rfl) (S.o 71 rfl rfl rfl) (e3) ?_
  refine Go_callS_i (pc' := 7) (As := [.int _]) (st := []) dX9_takeFollower_4 rfl ok_X9_rankOf km_RX9_112 rfl (Nat.le_of_ble_eq_true rfl) rfl rfl rfl (Nat.le_of_ble_eq_true rfl) (Nat.lt_succ_self _) ?_
  refine s_rank (by omega) ?_
  refine ⟨_, rfl, ?_⟩
  refine Go_istore_n (pc' := 8) (lv' := [.ref _, .int _, un]) dX9_takeFollower_7 rfl rfl (Nat.le_of_ble_eq_true rfl) rfl rfl ?_
  refine Go_aload_n (pc' := 9) dX9_takeFollower_8 rfl rfl rfl ?_
  refine Go_getIv (v := (iZ s.1)) (pc' := 12) dX9_takeFollower_9 rfl kf_RX9_47 (by decide) (by decide) rfl (S.b 71 rfl rfl) (S.o 71 rfl rfl rfl) (R.1) ?_
  refine Go_bipush (v := iZ 6) (pc' := 14) dX9_takeFollower_12 rfl (by decide) ?_
  refine Go_icmp_eqY (tgt := 24) (pc' := 17) dX9_takeFollower_14 (by decide) rfl (by first | exact ⟨i_lo _, i_hi _⟩ | omega) (by first | exact ⟨i_lo _, i_hi _⟩ | omega) (fun c14 => ?_) (fun c14 => ?_)
  · refine Go_iconst (v := iZ 1) (pc' := 25) dX9_takeFollower_24 rfl (by decide) ?_
    refine Go_goto (tgt := 29) dX9_takeFollower_25 (by decide) ?_
    refine Go_istore_n (pc' := 30) (lv' := [.ref _, .int _, .int _]) dX9_takeFollower_29 rfl rfl (Nat.le_of_ble_eq_true rfl) rfl rfl ?_
    refine Go_aload_n (pc' := 31) dX9_takeFollower_30 rfl rfl rfl ?_
    refine Go_getIv (v := (iZ s.1)) (pc' := 34) dX9_takeFollower_31 rfl kf_RX9_47 (by decide) (by decide) rfl (S.b 71 rfl rfl) (S.o 71 rfl rfl rfl) (R.1) ?_
    refine Go_iconst (v := iZ 5) (pc' := 35) dX9_takeFollower_34 rfl (by decide) ?_
    refine Go_icmp_neY (tgt := 72) (pc' := 38) dX9_takeFollower_35 (by decide) rfl (by first | exact ⟨i_lo _, i_hi _⟩ | omega) (by first | exact ⟨i_lo _, i_hi _⟩ | omega) (fun c35 => ?_) (fun c35 => ?_)
    · refine Go_aload_n (pc' := 73) dX9_takeFollower_72 rfl rfl rfl ?_
      refine Go_getIv (v := (iZ s.1)) (pc' := 76) dX9_takeFollower_73 rfl kf_RX9_47 (by decide) (by decide) rfl (S.b 71 rfl rfl) (S.o 71 rfl rfl rfl) (R.1) ?_
      refine Go_iconst (v := iZ 5) (pc' := 77) dX9_takeFollower_76 rfl (by decide) ?_
      refine Go_icmp_neY (tgt := 106) (pc' := 80) dX9_takeFollower_77 (by decide) rfl (by first | exact ⟨i_lo _, i_hi _⟩ | omega) (by first | exact ⟨i_lo _, i_hi _⟩ | omega) (fun c77 => ?_) (fun c77 => ?_)
      · refine Go_iload_n (pc' := 107) dX9_takeFollower_106 rfl rfl rfl ?_
        refine Go_if_eqY (tgt := 129) (pc' := 110) dX9_takeFollower_107 (by decide) rfl (by first | exact ⟨i_lo _, i_hi _⟩ | omega) (fun c107 => by exfalso; omega) (fun c107 => ?_)
        refine Go_iload_n (pc' := 111) dX9_takeFollower_110 rfl rfl rfl ?_
        refine Go_iconst (v := iZ 1) (pc' := 112) dX9_takeFollower_111 rfl (by decide) ?_
        refine Go_icmp_eqY (tgt := 120) (pc' := 115) dX9_takeFollower_112 (by decide) rfl (by first | exact ⟨i_lo _, i_hi _⟩ | omega) (by first | exact ⟨i_lo _, i_hi _⟩ | omega) (fun c112 => ?_) (fun c112 => ?_)
        · refine Go_aload_n (pc' := 121) dX9_takeFollower_120 rfl rfl rfl ?_
          refine Go_iload_n (pc' := 122) dX9_takeFollower_121 rfl rfl rfl ?_
          refine Go_iconst (v := iZ 2) (pc' := 123) dX9_takeFollower_122 rfl (by decide) ?_
          refine Go_callV_v (pc' := 126) (As := [.int _, .int _]) (st := []) dX9_takeFollower_123 rfl ok_X9_takeJoint km_RX9_116 (S.o 71 rfl rfl rfl) (S.b 71 rfl rfl) ⟨_, _, rfl⟩ rfl (Nat.le_of_ble_eq_true rfl) rfl rfl rfl (Nat.le_of_ble_eq_true rfl) (Nat.lt_succ_self _) ?_
          refine s_joint (r := zrk c) (nx := 2) S QP hq hr R e3 hc e4 e5 (zrk_wt (by omega)).1 (by omega) (fun H1 T1 => ?_)
          refine ⟨rfl, ?_⟩
          refine Go_goto (tgt := 207) dX9_takeFollower_126 (by decide) ?_
          refine Go_return dX9_takeFollower_207 rfl ?_
          refine hk _ ?_
          unfold zfol
          rw [if_neg (by omega), if_neg (by omega), if_pos (by omega)]
          exact T1
        · refine Go_iload_n (pc' := 116) dX9_takeFollower_115 rfl rfl rfl ?_
          refine Go_iconst (v := iZ 2) (pc' := 117) dX9_takeFollower_116 rfl (by decide) ?_
          refine Go_icmp_neY (tgt := 129) (pc' := 120) dX9_takeFollower_117 (by decide) rfl (by first | exact ⟨i_lo _, i_hi _⟩ | omega) (by first | exact ⟨i_lo _, i_hi _⟩ | omega) (fun c117 => ?_) (fun c117 => ?_)
          · refine Go_iload_n (pc' := 130) dX9_takeFollower_129 rfl rfl rfl ?_
            refine Go_if_eqY (tgt := 157) (pc' := 133) dX9_takeFollower_130 (by decide) rfl (by first | exact ⟨i_lo _, i_hi _⟩ | omega) (fun c130 => by exfalso; omega) (fun c130 => ?_)
            refine Go_aload_n (pc' := 134) dX9_takeFollower_133 rfl rfl rfl ?_
            refine Go_getIv (v := (iZ c)) (pc' := 137) dX9_takeFollower_134 rfl kf_RX9_44 (by decide) (by decide) rfl (S.b 71 rfl rfl) (S.o 71 rfl rfl rfl) (e3) ?_
            refine Go_sipush (v := iZ 141) (pc' := 140) dX9_takeFollower_137 rfl (by decide) ?_
            refine Go_icmp_neY (tgt := 157) (pc' := 143) dX9_takeFollower_140 (by decide) rfl (by first | exact ⟨i_lo _, i_hi _⟩ | omega) (by first | exact ⟨i_lo _, i_hi _⟩ | omega) (fun c140 => ?_) (fun c140 => ?_)
            · refine Go_iload_n (pc' := 158) dX9_takeFollower_157 rfl rfl rfl ?_
              refine Go_if_eqY (tgt := 202) (pc' := 161) dX9_takeFollower_158 (by decide) rfl (by first | exact ⟨i_lo _, i_hi _⟩ | omega) (fun c158 => by exfalso; omega) (fun c158 => ?_)
              refine Go_aload_n (pc' := 162) dX9_takeFollower_161 rfl rfl rfl ?_
              refine Go_getIv (v := (iZ c)) (pc' := 165) dX9_takeFollower_162 rfl kf_RX9_44 (by decide) (by decide) rfl (S.b 71 rfl rfl) (S.o 71 rfl rfl rfl) (e3) ?_
              refine Go_sipush (v := iZ 159) (pc' := 168) dX9_takeFollower_165 rfl (by decide) ?_
              refine Go_icmp_neY (tgt := 202) (pc' := 171) dX9_takeFollower_168 (by decide) rfl (by first | exact ⟨i_lo _, i_hi _⟩ | omega) (by first | exact ⟨i_lo _, i_hi _⟩ | omega) (fun c168 => ?_) (fun c168 => ?_)
              · refine Go_aload_n (pc' := 203) dX9_takeFollower_202 rfl rfl rfl ?_
                refine Go_iconst (v := iZ 1) (pc' := 204) dX9_takeFollower_203 rfl (by decide) ?_
                refine Go_callV_v (pc' := 207) (As := [.int _]) (st := []) dX9_takeFollower_204 rfl ok_X9_refuse km_RX9_89 (S.o 71 rfl rfl rfl) (S.b 71 rfl rfl) ⟨_, _, rfl⟩ rfl (Nat.le_of_ble_eq_true rfl) rfl rfl rfl (Nat.le_of_ble_eq_true rfl) (Nat.lt_succ_self _) ?_
                refine Go_aload_n (pc' := 1) dX9_refuse_0 rfl rfl rfl ?_
                refine Go_iload_n (pc' := 2) dX9_refuse_1 rfl rfl rfl ?_
                refine Go_putI (pc' := 5) dX9_refuse_2 rfl kf_RX9_38 (by decide) (by decide) rfl (S.b 71 rfl rfl) (S.o 71 rfl rfl rfl) (Or.inl rfl) rfl rfl ?_
                refine Go_aload_n (pc' := 6) dX9_refuse_5 rfl rfl rfl ?_
                refine Go_aload_n (pc' := 7) dX9_refuse_6 rfl rfl rfl ?_
                refine Go_getIv (v := (iZ pl)) (pc' := 10) dX9_refuse_7 rfl kf_RX9_68 (by decide) (by decide) rfl (S.b 71 rfl rfl) (S.o 71 rfl rfl rfl) ((vi_skip (Or.inr (by decide))).trans (e4)) ?_
                refine Go_putI (pc' := 13) dX9_refuse_10 rfl kf_RX9_18 (by decide) (by decide) rfl (S.b 71 rfl rfl) (S.o 71 rfl rfl rfl) (Or.inl rfl) rfl rfl ?_
                refine Go_return dX9_refuse_13 rfl ?_
                refine ⟨rfl, ?_⟩
                refine Go_return dX9_takeFollower_207 rfl ?_
                refine hk _ ?_
                unfold zfol
                rw [if_neg (by omega), if_neg (by omega), if_neg (by omega), if_neg (by omega), if_neg (by omega)]
                exact TKp.bad (by omega)
              · refine Go_aload_n (pc' := 172) dX9_takeFollower_171 rfl rfl rfl ?_
                refine Go_getIv (v := (iZ (zbr s.2.2.2.1))) (pc' := 175) dX9_takeFollower_172 rfl kf_RX9_65 (by decide) (by decide) rfl (S.b 71 rfl rfl) (S.o 71 rfl rfl rfl) (R.2.2.2.1.2.2.2.2.1) ?_
                refine Go_if_neY (tgt := 202) (pc' := 178) dX9_takeFollower_175 (by decide) rfl (by first | exact ⟨i_lo _, i_hi _⟩ | omega) (fun c175 => ?_) (fun c175 => ?_)
                · refine Go_aload_n (pc' := 203) dX9_takeFollower_202 rfl rfl rfl ?_
                  refine Go_iconst (v := iZ 1) (pc' := 204) dX9_takeFollower_203 rfl (by decide) ?_
                  refine Go_callV_v (pc' := 207) (As := [.int _]) (st := []) dX9_takeFollower_204 rfl ok_X9_refuse km_RX9_89 (S.o 71 rfl rfl rfl) (S.b 71 rfl rfl) ⟨_, _, rfl⟩ rfl (Nat.le_of_ble_eq_true rfl) rfl rfl rfl (Nat.le_of_ble_eq_true rfl) (Nat.lt_succ_self _) ?_
                  refine Go_aload_n (pc' := 1) dX9_refuse_0 rfl rfl rfl ?_
                  refine Go_iload_n (pc' := 2) dX9_refuse_1 rfl rfl rfl ?_
                  refine Go_putI (pc' := 5) dX9_refuse_2 rfl kf_RX9_38 (by decide) (by decide) rfl (S.b 71 rfl rfl) (S.o 71 rfl rfl rfl) (Or.inl rfl) rfl rfl ?_
                  refine Go_aload_n (pc' := 6) dX9_refuse_5 rfl rfl rfl ?_
                  refine Go_aload_n (pc' := 7) dX9_refuse_6 rfl rfl rfl ?_
                  refine Go_getIv (v := (iZ pl)) (pc' := 10) dX9_refuse_7 rfl kf_RX9_68 (by decide) (by decide) rfl (S.b 71 rfl rfl) (S.o 71 rfl rfl rfl) ((vi_skip (Or.inr (by decide))).trans (e4)) ?_
                  refine Go_putI (pc' := 13) dX9_refuse_10 rfl kf_RX9_18 (by decide) (by decide) rfl (S.b 71 rfl rfl) (S.o 71 rfl rfl rfl) (Or.inl rfl) rfl rfl ?_
                  refine Go_return dX9_refuse_13 rfl ?_
                  refine ⟨rfl, ?_⟩
                  refine Go_return dX9_takeFollower_207 rfl ?_
                  refine hk _ ?_
                  unfold zfol
                  rw [if_neg (by omega), if_neg (by omega), if_neg (by omega), if_neg (by omega), if_neg (by omega)]
                  exact TKp.bad (by omega)
                · refine Go_aload_n (pc' := 179) dX9_takeFollower_178 rfl rfl rfl ?_
                  refine Go_iconst (v := iZ 1) (pc' := 180) dX9_takeFollower_179 rfl (by decide) ?_
                  refine Go_callV_v (pc' := 183) (As := [.int _]) (st := []) dX9_takeFollower_180 rfl ok_X9_release km_RX9_123 (S.o 71 rfl rfl rfl) (S.b 71 rfl rfl) ⟨_, _, rfl⟩ rfl (Nat.le_of_ble_eq_true rfl) rfl rfl rfl (Nat.le_of_ble_eq_true rfl) (Nat.lt_succ_self _) ?_
                  refine s_rel (r := 1) S QP hq hr R.2.2.2.2.1 R.2.2.2.1 (by omega) (fun H1 D1 O1 W1 => ?_)
                  refine ⟨rfl, ?_⟩
                  have S1 := D1.shp S
                  have QP1 := D1.qp QP
                  have hr1_ := (D1.2.2.1 71 16).trans hr
                  refine Go_aload_n (pc' := 184) dX9_takeFollower_183 rfl rfl rfl ?_
                  refine Go_getRs (pc' := 187) dX9_takeFollower_184 rfl kf_RX9_29 (by decide) (by decide) rfl (S1.b 71 rfl rfl) (S1.o 71 rfl rfl rfl) hr1_ ?_
                  refine Go_aload_n (pc' := 188) dX9_takeFollower_187 rfl rfl rfl ?_
                  refine Go_getIv (v := (iZ s.2.1)) (pc' := 191) dX9_takeFollower_188 rfl kf_RX9_96 (by decide) (by decide) rfl (S1.b 71 rfl rfl) (S1.o 71 rfl rfl rfl) (((D1.2.2.2 _ _ (by unfold Pr; omega)).trans R.2.1)) ?_
                  refine Go_callV_v (pc' := 194) (As := [.int _]) (st := []) dX9_takeFollower_191 rfl ok_X8_closeLine km_RX9_126 QP1.2.1 QP1.1 ⟨_, _, rfl⟩ rfl (Nat.le_of_ble_eq_true rfl) rfl rfl rfl (Nat.le_of_ble_eq_true rfl) (Nat.lt_succ_self _) ?_
                  refine s_cline (l := (s.2.2.2.2.2 : Int)) QP1 O1 ((D1.2.2.2 _ _ (by unfold Pr; omega)).trans R.2.2.2.2.2) (fun H2 D2 O2 l2 => ?_)
                  refine ⟨rfl, ?_⟩
                  have S2 := D2.shp S1
                  refine Go_aload_n (pc' := 195) dX9_takeFollower_194 rfl rfl rfl ?_
                  refine Go_iconst (v := iZ 0) (pc' := 196) dX9_takeFollower_195 rfl (by decide) ?_
                  refine Go_putI (pc' := 199) dX9_takeFollower_196 rfl kf_RX9_47 (by decide) (by decide) rfl (S2.b 71 rfl rfl) (S2.o 71 rfl rfl rfl) (Or.inl rfl) rfl rfl ?_
                  refine Go_goto (tgt := 207) dX9_takeFollower_199 (by decide) ?_
                  refine Go_return dX9_takeFollower_207 rfl ?_
                  refine hk _ ?_
                  unfold zfol
                  rw [if_neg (by omega), if_neg (by omega), if_neg (by omega), if_neg (by omega), if_pos (by omega)]
                  exact TKp.line R hq D1 W1 D2 O2 l2
            · refine Go_aload_n (pc' := 144) dX9_takeFollower_143 rfl rfl rfl ?_
              refine Go_getIv (v := (iZ (zbr s.2.2.2.1))) (pc' := 147) dX9_takeFollower_144 rfl kf_RX9_65 (by decide) (by decide) rfl (S.b 71 rfl rfl) (S.o 71 rfl rfl rfl) (R.2.2.2.1.2.2.2.2.1) ?_
              refine Go_if_leY (tgt := 157) (pc' := 150) dX9_takeFollower_147 (by decide) rfl (by first | exact ⟨i_lo _, i_hi _⟩ | omega) (fun c147 => ?_) (fun c147 => ?_)
              · refine Go_iload_n (pc' := 158) dX9_takeFollower_157 rfl rfl rfl ?_
                refine Go_if_eqY (tgt := 202) (pc' := 161) dX9_takeFollower_158 (by decide) rfl (by first | exact ⟨i_lo _, i_hi _⟩ | omega) (fun c158 => by exfalso; omega) (fun c158 => ?_)
                refine Go_aload_n (pc' := 162) dX9_takeFollower_161 rfl rfl rfl ?_
                refine Go_getIv (v := (iZ c)) (pc' := 165) dX9_takeFollower_162 rfl kf_RX9_44 (by decide) (by decide) rfl (S.b 71 rfl rfl) (S.o 71 rfl rfl rfl) (e3) ?_
                refine Go_sipush (v := iZ 159) (pc' := 168) dX9_takeFollower_165 rfl (by decide) ?_
                refine Go_icmp_neY (tgt := 202) (pc' := 171) dX9_takeFollower_168 (by decide) rfl (by first | exact ⟨i_lo _, i_hi _⟩ | omega) (by first | exact ⟨i_lo _, i_hi _⟩ | omega) (fun c168 => ?_) (fun c168 => ?_)
                · refine Go_aload_n (pc' := 203) dX9_takeFollower_202 rfl rfl rfl ?_
                  refine Go_iconst (v := iZ 1) (pc' := 204) dX9_takeFollower_203 rfl (by decide) ?_
                  refine Go_callV_v (pc' := 207) (As := [.int _]) (st := []) dX9_takeFollower_204 rfl ok_X9_refuse km_RX9_89 (S.o 71 rfl rfl rfl) (S.b 71 rfl rfl) ⟨_, _, rfl⟩ rfl (Nat.le_of_ble_eq_true rfl) rfl rfl rfl (Nat.le_of_ble_eq_true rfl) (Nat.lt_succ_self _) ?_
                  refine Go_aload_n (pc' := 1) dX9_refuse_0 rfl rfl rfl ?_
                  refine Go_iload_n (pc' := 2) dX9_refuse_1 rfl rfl rfl ?_
                  refine Go_putI (pc' := 5) dX9_refuse_2 rfl kf_RX9_38 (by decide) (by decide) rfl (S.b 71 rfl rfl) (S.o 71 rfl rfl rfl) (Or.inl rfl) rfl rfl ?_
                  refine Go_aload_n (pc' := 6) dX9_refuse_5 rfl rfl rfl ?_
                  refine Go_aload_n (pc' := 7) dX9_refuse_6 rfl rfl rfl ?_
                  refine Go_getIv (v := (iZ pl)) (pc' := 10) dX9_refuse_7 rfl kf_RX9_68 (by decide) (by decide) rfl (S.b 71 rfl rfl) (S.o 71 rfl rfl rfl) ((vi_skip (Or.inr (by decide))).trans (e4)) ?_
                  refine Go_putI (pc' := 13) dX9_refuse_10 rfl kf_RX9_18 (by decide) (by decide) rfl (S.b 71 rfl rfl) (S.o 71 rfl rfl rfl) (Or.inl rfl) rfl rfl ?_
                  refine Go_return dX9_refuse_13 rfl ?_
                  refine ⟨rfl, ?_⟩
                  refine Go_return dX9_takeFollower_207 rfl ?_
                  refine hk _ ?_
                  unfold zfol
                  rw [if_neg (by omega), if_neg (by omega), if_neg (by omega), if_neg (by omega), if_neg (by omega)]
                  exact TKp.bad (by omega)
                · refine Go_aload_n (pc' := 172) dX9_takeFollower_171 rfl rfl rfl ?_
                  refine Go_getIv (v := (iZ (zbr s.2.2.2.1))) (pc' := 175) dX9_takeFollower_172 rfl kf_RX9_65 (by decide) (by decide) rfl (S.b 71 rfl rfl) (S.o 71 rfl rfl rfl) (R.2.2.2.1.2.2.2.2.1) ?_
                  refine Go_if_neY (tgt := 202) (pc' := 178) dX9_takeFollower_175 (by decide) rfl (by first | exact ⟨i_lo _, i_hi _⟩ | omega) (fun c175 => ?_) (fun c175 => ?_)
                  · refine Go_aload_n (pc' := 203) dX9_takeFollower_202 rfl rfl rfl ?_
                    refine Go_iconst (v := iZ 1) (pc' := 204) dX9_takeFollower_203 rfl (by decide) ?_
                    refine Go_callV_v (pc' := 207) (As := [.int _]) (st := []) dX9_takeFollower_204 rfl ok_X9_refuse km_RX9_89 (S.o 71 rfl rfl rfl) (S.b 71 rfl rfl) ⟨_, _, rfl⟩ rfl (Nat.le_of_ble_eq_true rfl) rfl rfl rfl (Nat.le_of_ble_eq_true rfl) (Nat.lt_succ_self _) ?_
                    refine Go_aload_n (pc' := 1) dX9_refuse_0 rfl rfl rfl ?_
                    refine Go_iload_n (pc' := 2) dX9_refuse_1 rfl rfl rfl ?_
                    refine Go_putI (pc' := 5) dX9_refuse_2 rfl kf_RX9_38 (by decide) (by decide) rfl (S.b 71 rfl rfl) (S.o 71 rfl rfl rfl) (Or.inl rfl) rfl rfl ?_
                    refine Go_aload_n (pc' := 6) dX9_refuse_5 rfl rfl rfl ?_
                    refine Go_aload_n (pc' := 7) dX9_refuse_6 rfl rfl rfl ?_
                    refine Go_getIv (v := (iZ pl)) (pc' := 10) dX9_refuse_7 rfl kf_RX9_68 (by decide) (by decide) rfl (S.b 71 rfl rfl) (S.o 71 rfl rfl rfl) ((vi_skip (Or.inr (by decide))).trans (e4)) ?_
                    refine Go_putI (pc' := 13) dX9_refuse_10 rfl kf_RX9_18 (by decide) (by decide) rfl (S.b 71 rfl rfl) (S.o 71 rfl rfl rfl) (Or.inl rfl) rfl rfl ?_
                    refine Go_return dX9_refuse_13 rfl ?_
                    refine ⟨rfl, ?_⟩
                    refine Go_return dX9_takeFollower_207 rfl ?_
                    refine hk _ ?_
                    unfold zfol
                    rw [if_neg (by omega), if_neg (by omega), if_neg (by omega), if_neg (by omega), if_neg (by omega)]
                    exact TKp.bad (by omega)
                  · refine Go_aload_n (pc' := 179) dX9_takeFollower_178 rfl rfl rfl ?_
                    refine Go_iconst (v := iZ 1) (pc' := 180) dX9_takeFollower_179 rfl (by decide) ?_
                    refine Go_callV_v (pc' := 183) (As := [.int _]) (st := []) dX9_takeFollower_180 rfl ok_X9_release km_RX9_123 (S.o 71 rfl rfl rfl) (S.b 71 rfl rfl) ⟨_, _, rfl⟩ rfl (Nat.le_of_ble_eq_true rfl) rfl rfl rfl (Nat.le_of_ble_eq_true rfl) (Nat.lt_succ_self _) ?_
                    refine s_rel (r := 1) S QP hq hr R.2.2.2.2.1 R.2.2.2.1 (by omega) (fun H1 D1 O1 W1 => ?_)
                    refine ⟨rfl, ?_⟩
                    have S1 := D1.shp S
                    have QP1 := D1.qp QP
                    have hr1_ := (D1.2.2.1 71 16).trans hr
                    refine Go_aload_n (pc' := 184) dX9_takeFollower_183 rfl rfl rfl ?_
                    refine Go_getRs (pc' := 187) dX9_takeFollower_184 rfl kf_RX9_29 (by decide) (by decide) rfl (S1.b 71 rfl rfl) (S1.o 71 rfl rfl rfl) hr1_ ?_
                    refine Go_aload_n (pc' := 188) dX9_takeFollower_187 rfl rfl rfl ?_
                    refine Go_getIv (v := (iZ s.2.1)) (pc' := 191) dX9_takeFollower_188 rfl kf_RX9_96 (by decide) (by decide) rfl (S1.b 71 rfl rfl) (S1.o 71 rfl rfl rfl) (((D1.2.2.2 _ _ (by unfold Pr; omega)).trans R.2.1)) ?_
                    refine Go_callV_v (pc' := 194) (As := [.int _]) (st := []) dX9_takeFollower_191 rfl ok_X8_closeLine km_RX9_126 QP1.2.1 QP1.1 ⟨_, _, rfl⟩ rfl (Nat.le_of_ble_eq_true rfl) rfl rfl rfl (Nat.le_of_ble_eq_true rfl) (Nat.lt_succ_self _) ?_
                    refine s_cline (l := (s.2.2.2.2.2 : Int)) QP1 O1 ((D1.2.2.2 _ _ (by unfold Pr; omega)).trans R.2.2.2.2.2) (fun H2 D2 O2 l2 => ?_)
                    refine ⟨rfl, ?_⟩
                    have S2 := D2.shp S1
                    refine Go_aload_n (pc' := 195) dX9_takeFollower_194 rfl rfl rfl ?_
                    refine Go_iconst (v := iZ 0) (pc' := 196) dX9_takeFollower_195 rfl (by decide) ?_
                    refine Go_putI (pc' := 199) dX9_takeFollower_196 rfl kf_RX9_47 (by decide) (by decide) rfl (S2.b 71 rfl rfl) (S2.o 71 rfl rfl rfl) (Or.inl rfl) rfl rfl ?_
                    refine Go_goto (tgt := 207) dX9_takeFollower_199 (by decide) ?_
                    refine Go_return dX9_takeFollower_207 rfl ?_
                    refine hk _ ?_
                    unfold zfol
                    rw [if_neg (by omega), if_neg (by omega), if_neg (by omega), if_neg (by omega), if_pos (by omega)]
                    exact TKp.line R hq D1 W1 D2 O2 l2
              · refine Go_aload_n (pc' := 151) dX9_takeFollower_150 rfl rfl rfl ?_
                refine Go_callV_v (pc' := 154) (As := []) (st := []) dX9_takeFollower_151 rfl ok_X9_closeBracket km_RX9_120 (S.o 71 rfl rfl rfl) (S.b 71 rfl rfl) ⟨_, _, rfl⟩ rfl (Nat.le_of_ble_eq_true rfl) rfl rfl rfl (Nat.le_of_ble_eq_true rfl) (Nat.lt_succ_self _) ?_
                refine s_close S QP hq hr R e3 hc e4 e5 (by omega) (fun H1 T1 => ?_)
                refine ⟨rfl, ?_⟩
                refine Go_goto (tgt := 207) dX9_takeFollower_154 (by decide) ?_
                refine Go_return dX9_takeFollower_207 rfl ?_
                refine hk _ ?_
                unfold zfol
                rw [if_neg (by omega), if_neg (by omega), if_neg (by omega), if_pos (by omega)]
                exact T1
          · refine Go_aload_n (pc' := 121) dX9_takeFollower_120 rfl rfl rfl ?_
            refine Go_iload_n (pc' := 122) dX9_takeFollower_121 rfl rfl rfl ?_
            refine Go_iconst (v := iZ 2) (pc' := 123) dX9_takeFollower_122 rfl (by decide) ?_
            refine Go_callV_v (pc' := 126) (As := [.int _, .int _]) (st := []) dX9_takeFollower_123 rfl ok_X9_takeJoint km_RX9_116 (S.o 71 rfl rfl rfl) (S.b 71 rfl rfl) ⟨_, _, rfl⟩ rfl (Nat.le_of_ble_eq_true rfl) rfl rfl rfl (Nat.le_of_ble_eq_true rfl) (Nat.lt_succ_self _) ?_
            refine s_joint (r := zrk c) (nx := 2) S QP hq hr R e3 hc e4 e5 (zrk_wt (by omega)).1 (by omega) (fun H1 T1 => ?_)
            refine ⟨rfl, ?_⟩
            refine Go_goto (tgt := 207) dX9_takeFollower_126 (by decide) ?_
            refine Go_return dX9_takeFollower_207 rfl ?_
            refine hk _ ?_
            unfold zfol
            rw [if_neg (by omega), if_neg (by omega), if_pos (by omega)]
            exact T1
      · refine Go_iload_n (pc' := 81) dX9_takeFollower_80 rfl rfl rfl ?_
        refine Go_iconst (v := iZ 4) (pc' := 82) dX9_takeFollower_81 rfl (by decide) ?_
        refine Go_icmp_neY (tgt := 106) (pc' := 85) dX9_takeFollower_82 (by decide) rfl (by first | exact ⟨i_lo _, i_hi _⟩ | omega) (by first | exact ⟨i_lo _, i_hi _⟩ | omega) (fun c82 => ?_) (fun c82 => ?_)
        · refine Go_iload_n (pc' := 107) dX9_takeFollower_106 rfl rfl rfl ?_
          refine Go_if_eqY (tgt := 129) (pc' := 110) dX9_takeFollower_107 (by decide) rfl (by first | exact ⟨i_lo _, i_hi _⟩ | omega) (fun c107 => by exfalso; omega) (fun c107 => ?_)
          refine Go_iload_n (pc' := 111) dX9_takeFollower_110 rfl rfl rfl ?_
          refine Go_iconst (v := iZ 1) (pc' := 112) dX9_takeFollower_111 rfl (by decide) ?_
          refine Go_icmp_eqY (tgt := 120) (pc' := 115) dX9_takeFollower_112 (by decide) rfl (by first | exact ⟨i_lo _, i_hi _⟩ | omega) (by first | exact ⟨i_lo _, i_hi _⟩ | omega) (fun c112 => ?_) (fun c112 => ?_)
          · refine Go_aload_n (pc' := 121) dX9_takeFollower_120 rfl rfl rfl ?_
            refine Go_iload_n (pc' := 122) dX9_takeFollower_121 rfl rfl rfl ?_
            refine Go_iconst (v := iZ 2) (pc' := 123) dX9_takeFollower_122 rfl (by decide) ?_
            refine Go_callV_v (pc' := 126) (As := [.int _, .int _]) (st := []) dX9_takeFollower_123 rfl ok_X9_takeJoint km_RX9_116 (S.o 71 rfl rfl rfl) (S.b 71 rfl rfl) ⟨_, _, rfl⟩ rfl (Nat.le_of_ble_eq_true rfl) rfl rfl rfl (Nat.le_of_ble_eq_true rfl) (Nat.lt_succ_self _) ?_
            refine s_joint (r := zrk c) (nx := 2) S QP hq hr R e3 hc e4 e5 (zrk_wt (by omega)).1 (by omega) (fun H1 T1 => ?_)
            refine ⟨rfl, ?_⟩
            refine Go_goto (tgt := 207) dX9_takeFollower_126 (by decide) ?_
            refine Go_return dX9_takeFollower_207 rfl ?_
            refine hk _ ?_
            unfold zfol
            rw [if_neg (by omega), if_neg (by omega), if_pos (by omega)]
            exact T1
          · refine Go_iload_n (pc' := 116) dX9_takeFollower_115 rfl rfl rfl ?_
            refine Go_iconst (v := iZ 2) (pc' := 117) dX9_takeFollower_116 rfl (by decide) ?_
            refine Go_icmp_neY (tgt := 129) (pc' := 120) dX9_takeFollower_117 (by decide) rfl (by first | exact ⟨i_lo _, i_hi _⟩ | omega) (by first | exact ⟨i_lo _, i_hi _⟩ | omega) (fun c117 => ?_) (fun c117 => ?_)
            · refine Go_iload_n (pc' := 130) dX9_takeFollower_129 rfl rfl rfl ?_
              refine Go_if_eqY (tgt := 157) (pc' := 133) dX9_takeFollower_130 (by decide) rfl (by first | exact ⟨i_lo _, i_hi _⟩ | omega) (fun c130 => by exfalso; omega) (fun c130 => ?_)
              refine Go_aload_n (pc' := 134) dX9_takeFollower_133 rfl rfl rfl ?_
              refine Go_getIv (v := (iZ c)) (pc' := 137) dX9_takeFollower_134 rfl kf_RX9_44 (by decide) (by decide) rfl (S.b 71 rfl rfl) (S.o 71 rfl rfl rfl) (e3) ?_
              refine Go_sipush (v := iZ 141) (pc' := 140) dX9_takeFollower_137 rfl (by decide) ?_
              refine Go_icmp_neY (tgt := 157) (pc' := 143) dX9_takeFollower_140 (by decide) rfl (by first | exact ⟨i_lo _, i_hi _⟩ | omega) (by first | exact ⟨i_lo _, i_hi _⟩ | omega) (fun c140 => ?_) (fun c140 => ?_)
              · refine Go_iload_n (pc' := 158) dX9_takeFollower_157 rfl rfl rfl ?_
                refine Go_if_eqY (tgt := 202) (pc' := 161) dX9_takeFollower_158 (by decide) rfl (by first | exact ⟨i_lo _, i_hi _⟩ | omega) (fun c158 => by exfalso; omega) (fun c158 => ?_)
                refine Go_aload_n (pc' := 162) dX9_takeFollower_161 rfl rfl rfl ?_
                refine Go_getIv (v := (iZ c)) (pc' := 165) dX9_takeFollower_162 rfl kf_RX9_44 (by decide) (by decide) rfl (S.b 71 rfl rfl) (S.o 71 rfl rfl rfl) (e3) ?_
                refine Go_sipush (v := iZ 159) (pc' := 168) dX9_takeFollower_165 rfl (by decide) ?_
                refine Go_icmp_neY (tgt := 202) (pc' := 171) dX9_takeFollower_168 (by decide) rfl (by first | exact ⟨i_lo _, i_hi _⟩ | omega) (by first | exact ⟨i_lo _, i_hi _⟩ | omega) (fun c168 => ?_) (fun c168 => ?_)
                · refine Go_aload_n (pc' := 203) dX9_takeFollower_202 rfl rfl rfl ?_
                  refine Go_iconst (v := iZ 1) (pc' := 204) dX9_takeFollower_203 rfl (by decide) ?_
                  refine Go_callV_v (pc' := 207) (As := [.int _]) (st := []) dX9_takeFollower_204 rfl ok_X9_refuse km_RX9_89 (S.o 71 rfl rfl rfl) (S.b 71 rfl rfl) ⟨_, _, rfl⟩ rfl (Nat.le_of_ble_eq_true rfl) rfl rfl rfl (Nat.le_of_ble_eq_true rfl) (Nat.lt_succ_self _) ?_
                  refine Go_aload_n (pc' := 1) dX9_refuse_0 rfl rfl rfl ?_
                  refine Go_iload_n (pc' := 2) dX9_refuse_1 rfl rfl rfl ?_
                  refine Go_putI (pc' := 5) dX9_refuse_2 rfl kf_RX9_38 (by decide) (by decide) rfl (S.b 71 rfl rfl) (S.o 71 rfl rfl rfl) (Or.inl rfl) rfl rfl ?_
                  refine Go_aload_n (pc' := 6) dX9_refuse_5 rfl rfl rfl ?_
                  refine Go_aload_n (pc' := 7) dX9_refuse_6 rfl rfl rfl ?_
                  refine Go_getIv (v := (iZ pl)) (pc' := 10) dX9_refuse_7 rfl kf_RX9_68 (by decide) (by decide) rfl (S.b 71 rfl rfl) (S.o 71 rfl rfl rfl) ((vi_skip (Or.inr (by decide))).trans (e4)) ?_
                  refine Go_putI (pc' := 13) dX9_refuse_10 rfl kf_RX9_18 (by decide) (by decide) rfl (S.b 71 rfl rfl) (S.o 71 rfl rfl rfl) (Or.inl rfl) rfl rfl ?_
                  refine Go_return dX9_refuse_13 rfl ?_
                  refine ⟨rfl, ?_⟩
                  refine Go_return dX9_takeFollower_207 rfl ?_
                  refine hk _ ?_
                  unfold zfol
                  rw [if_neg (by omega), if_neg (by omega), if_neg (by omega), if_neg (by omega), if_neg (by omega)]
                  exact TKp.bad (by omega)
                · refine Go_aload_n (pc' := 172) dX9_takeFollower_171 rfl rfl rfl ?_
                  refine Go_getIv (v := (iZ (zbr s.2.2.2.1))) (pc' := 175) dX9_takeFollower_172 rfl kf_RX9_65 (by decide) (by decide) rfl (S.b 71 rfl rfl) (S.o 71 rfl rfl rfl) (R.2.2.2.1.2.2.2.2.1) ?_
                  refine Go_if_neY (tgt := 202) (pc' := 178) dX9_takeFollower_175 (by decide) rfl (by first | exact ⟨i_lo _, i_hi _⟩ | omega) (fun c175 => ?_) (fun c175 => ?_)
                  · refine Go_aload_n (pc' := 203) dX9_takeFollower_202 rfl rfl rfl ?_
                    refine Go_iconst (v := iZ 1) (pc' := 204) dX9_takeFollower_203 rfl (by decide) ?_
                    refine Go_callV_v (pc' := 207) (As := [.int _]) (st := []) dX9_takeFollower_204 rfl ok_X9_refuse km_RX9_89 (S.o 71 rfl rfl rfl) (S.b 71 rfl rfl) ⟨_, _, rfl⟩ rfl (Nat.le_of_ble_eq_true rfl) rfl rfl rfl (Nat.le_of_ble_eq_true rfl) (Nat.lt_succ_self _) ?_
                    refine Go_aload_n (pc' := 1) dX9_refuse_0 rfl rfl rfl ?_
                    refine Go_iload_n (pc' := 2) dX9_refuse_1 rfl rfl rfl ?_
                    refine Go_putI (pc' := 5) dX9_refuse_2 rfl kf_RX9_38 (by decide) (by decide) rfl (S.b 71 rfl rfl) (S.o 71 rfl rfl rfl) (Or.inl rfl) rfl rfl ?_
                    refine Go_aload_n (pc' := 6) dX9_refuse_5 rfl rfl rfl ?_
                    refine Go_aload_n (pc' := 7) dX9_refuse_6 rfl rfl rfl ?_
                    refine Go_getIv (v := (iZ pl)) (pc' := 10) dX9_refuse_7 rfl kf_RX9_68 (by decide) (by decide) rfl (S.b 71 rfl rfl) (S.o 71 rfl rfl rfl) ((vi_skip (Or.inr (by decide))).trans (e4)) ?_
                    refine Go_putI (pc' := 13) dX9_refuse_10 rfl kf_RX9_18 (by decide) (by decide) rfl (S.b 71 rfl rfl) (S.o 71 rfl rfl rfl) (Or.inl rfl) rfl rfl ?_
                    refine Go_return dX9_refuse_13 rfl ?_
                    refine ⟨rfl, ?_⟩
                    refine Go_return dX9_takeFollower_207 rfl ?_
                    refine hk _ ?_
                    unfold zfol
                    rw [if_neg (by omega), if_neg (by omega), if_neg (by omega), if_neg (by omega), if_neg (by omega)]
                    exact TKp.bad (by omega)
                  · refine Go_aload_n (pc' := 179) dX9_takeFollower_178 rfl rfl rfl ?_
                    refine Go_iconst (v := iZ 1) (pc' := 180) dX9_takeFollower_179 rfl (by decide) ?_
                    refine Go_callV_v (pc' := 183) (As := [.int _]) (st := []) dX9_takeFollower_180 rfl ok_X9_release km_RX9_123 (S.o 71 rfl rfl rfl) (S.b 71 rfl rfl) ⟨_, _, rfl⟩ rfl (Nat.le_of_ble_eq_true rfl) rfl rfl rfl (Nat.le_of_ble_eq_true rfl) (Nat.lt_succ_self _) ?_
                    refine s_rel (r := 1) S QP hq hr R.2.2.2.2.1 R.2.2.2.1 (by omega) (fun H1 D1 O1 W1 => ?_)
                    refine ⟨rfl, ?_⟩
                    have S1 := D1.shp S
                    have QP1 := D1.qp QP
                    have hr1_ := (D1.2.2.1 71 16).trans hr
                    refine Go_aload_n (pc' := 184) dX9_takeFollower_183 rfl rfl rfl ?_
                    refine Go_getRs (pc' := 187) dX9_takeFollower_184 rfl kf_RX9_29 (by decide) (by decide) rfl (S1.b 71 rfl rfl) (S1.o 71 rfl rfl rfl) hr1_ ?_
                    refine Go_aload_n (pc' := 188) dX9_takeFollower_187 rfl rfl rfl ?_
                    refine Go_getIv (v := (iZ s.2.1)) (pc' := 191) dX9_takeFollower_188 rfl kf_RX9_96 (by decide) (by decide) rfl (S1.b 71 rfl rfl) (S1.o 71 rfl rfl rfl) (((D1.2.2.2 _ _ (by unfold Pr; omega)).trans R.2.1)) ?_
                    refine Go_callV_v (pc' := 194) (As := [.int _]) (st := []) dX9_takeFollower_191 rfl ok_X8_closeLine km_RX9_126 QP1.2.1 QP1.1 ⟨_, _, rfl⟩ rfl (Nat.le_of_ble_eq_true rfl) rfl rfl rfl (Nat.le_of_ble_eq_true rfl) (Nat.lt_succ_self _) ?_
                    refine s_cline (l := (s.2.2.2.2.2 : Int)) QP1 O1 ((D1.2.2.2 _ _ (by unfold Pr; omega)).trans R.2.2.2.2.2) (fun H2 D2 O2 l2 => ?_)
                    refine ⟨rfl, ?_⟩
                    have S2 := D2.shp S1
                    refine Go_aload_n (pc' := 195) dX9_takeFollower_194 rfl rfl rfl ?_
                    refine Go_iconst (v := iZ 0) (pc' := 196) dX9_takeFollower_195 rfl (by decide) ?_
                    refine Go_putI (pc' := 199) dX9_takeFollower_196 rfl kf_RX9_47 (by decide) (by decide) rfl (S2.b 71 rfl rfl) (S2.o 71 rfl rfl rfl) (Or.inl rfl) rfl rfl ?_
                    refine Go_goto (tgt := 207) dX9_takeFollower_199 (by decide) ?_
                    refine Go_return dX9_takeFollower_207 rfl ?_
                    refine hk _ ?_
                    unfold zfol
                    rw [if_neg (by omega), if_neg (by omega), if_neg (by omega), if_neg (by omega), if_pos (by omega)]
                    exact TKp.line R hq D1 W1 D2 O2 l2
              · refine Go_aload_n (pc' := 144) dX9_takeFollower_143 rfl rfl rfl ?_
                refine Go_getIv (v := (iZ (zbr s.2.2.2.1))) (pc' := 147) dX9_takeFollower_144 rfl kf_RX9_65 (by decide) (by decide) rfl (S.b 71 rfl rfl) (S.o 71 rfl rfl rfl) (R.2.2.2.1.2.2.2.2.1) ?_
                refine Go_if_leY (tgt := 157) (pc' := 150) dX9_takeFollower_147 (by decide) rfl (by first | exact ⟨i_lo _, i_hi _⟩ | omega) (fun c147 => ?_) (fun c147 => ?_)
                · refine Go_iload_n (pc' := 158) dX9_takeFollower_157 rfl rfl rfl ?_
                  refine Go_if_eqY (tgt := 202) (pc' := 161) dX9_takeFollower_158 (by decide) rfl (by first | exact ⟨i_lo _, i_hi _⟩ | omega) (fun c158 => by exfalso; omega) (fun c158 => ?_)
                  refine Go_aload_n (pc' := 162) dX9_takeFollower_161 rfl rfl rfl ?_
                  refine Go_getIv (v := (iZ c)) (pc' := 165) dX9_takeFollower_162 rfl kf_RX9_44 (by decide) (by decide) rfl (S.b 71 rfl rfl) (S.o 71 rfl rfl rfl) (e3) ?_
                  refine Go_sipush (v := iZ 159) (pc' := 168) dX9_takeFollower_165 rfl (by decide) ?_
                  refine Go_icmp_neY (tgt := 202) (pc' := 171) dX9_takeFollower_168 (by decide) rfl (by first | exact ⟨i_lo _, i_hi _⟩ | omega) (by first | exact ⟨i_lo _, i_hi _⟩ | omega) (fun c168 => ?_) (fun c168 => ?_)
                  · refine Go_aload_n (pc' := 203) dX9_takeFollower_202 rfl rfl rfl ?_
                    refine Go_iconst (v := iZ 1) (pc' := 204) dX9_takeFollower_203 rfl (by decide) ?_
                    refine Go_callV_v (pc' := 207) (As := [.int _]) (st := []) dX9_takeFollower_204 rfl ok_X9_refuse km_RX9_89 (S.o 71 rfl rfl rfl) (S.b 71 rfl rfl) ⟨_, _, rfl⟩ rfl (Nat.le_of_ble_eq_true rfl) rfl rfl rfl (Nat.le_of_ble_eq_true rfl) (Nat.lt_succ_self _) ?_
                    refine Go_aload_n (pc' := 1) dX9_refuse_0 rfl rfl rfl ?_
                    refine Go_iload_n (pc' := 2) dX9_refuse_1 rfl rfl rfl ?_
                    refine Go_putI (pc' := 5) dX9_refuse_2 rfl kf_RX9_38 (by decide) (by decide) rfl (S.b 71 rfl rfl) (S.o 71 rfl rfl rfl) (Or.inl rfl) rfl rfl ?_
                    refine Go_aload_n (pc' := 6) dX9_refuse_5 rfl rfl rfl ?_
                    refine Go_aload_n (pc' := 7) dX9_refuse_6 rfl rfl rfl ?_
                    refine Go_getIv (v := (iZ pl)) (pc' := 10) dX9_refuse_7 rfl kf_RX9_68 (by decide) (by decide) rfl (S.b 71 rfl rfl) (S.o 71 rfl rfl rfl) ((vi_skip (Or.inr (by decide))).trans (e4)) ?_
                    refine Go_putI (pc' := 13) dX9_refuse_10 rfl kf_RX9_18 (by decide) (by decide) rfl (S.b 71 rfl rfl) (S.o 71 rfl rfl rfl) (Or.inl rfl) rfl rfl ?_
                    refine Go_return dX9_refuse_13 rfl ?_
                    refine ⟨rfl, ?_⟩
                    refine Go_return dX9_takeFollower_207 rfl ?_
                    refine hk _ ?_
                    unfold zfol
                    rw [if_neg (by omega), if_neg (by omega), if_neg (by omega), if_neg (by omega), if_neg (by omega)]
                    exact TKp.bad (by omega)
                  · refine Go_aload_n (pc' := 172) dX9_takeFollower_171 rfl rfl rfl ?_
                    refine Go_getIv (v := (iZ (zbr s.2.2.2.1))) (pc' := 175) dX9_takeFollower_172 rfl kf_RX9_65 (by decide) (by decide) rfl (S.b 71 rfl rfl) (S.o 71 rfl rfl rfl) (R.2.2.2.1.2.2.2.2.1) ?_
                    refine Go_if_neY (tgt := 202) (pc' := 178) dX9_takeFollower_175 (by decide) rfl (by first | exact ⟨i_lo _, i_hi _⟩ | omega) (fun c175 => ?_) (fun c175 => ?_)
                    · refine Go_aload_n (pc' := 203) dX9_takeFollower_202 rfl rfl rfl ?_
                      refine Go_iconst (v := iZ 1) (pc' := 204) dX9_takeFollower_203 rfl (by decide) ?_
                      refine Go_callV_v (pc' := 207) (As := [.int _]) (st := []) dX9_takeFollower_204 rfl ok_X9_refuse km_RX9_89 (S.o 71 rfl rfl rfl) (S.b 71 rfl rfl) ⟨_, _, rfl⟩ rfl (Nat.le_of_ble_eq_true rfl) rfl rfl rfl (Nat.le_of_ble_eq_true rfl) (Nat.lt_succ_self _) ?_
                      refine Go_aload_n (pc' := 1) dX9_refuse_0 rfl rfl rfl ?_
                      refine Go_iload_n (pc' := 2) dX9_refuse_1 rfl rfl rfl ?_
                      refine Go_putI (pc' := 5) dX9_refuse_2 rfl kf_RX9_38 (by decide) (by decide) rfl (S.b 71 rfl rfl) (S.o 71 rfl rfl rfl) (Or.inl rfl) rfl rfl ?_
                      refine Go_aload_n (pc' := 6) dX9_refuse_5 rfl rfl rfl ?_
                      refine Go_aload_n (pc' := 7) dX9_refuse_6 rfl rfl rfl ?_
                      refine Go_getIv (v := (iZ pl)) (pc' := 10) dX9_refuse_7 rfl kf_RX9_68 (by decide) (by decide) rfl (S.b 71 rfl rfl) (S.o 71 rfl rfl rfl) ((vi_skip (Or.inr (by decide))).trans (e4)) ?_
                      refine Go_putI (pc' := 13) dX9_refuse_10 rfl kf_RX9_18 (by decide) (by decide) rfl (S.b 71 rfl rfl) (S.o 71 rfl rfl rfl) (Or.inl rfl) rfl rfl ?_
                      refine Go_return dX9_refuse_13 rfl ?_
                      refine ⟨rfl, ?_⟩
                      refine Go_return dX9_takeFollower_207 rfl ?_
                      refine hk _ ?_
                      unfold zfol
                      rw [if_neg (by omega), if_neg (by omega), if_neg (by omega), if_neg (by omega), if_neg (by omega)]
                      exact TKp.bad (by omega)
                    · refine Go_aload_n (pc' := 179) dX9_takeFollower_178 rfl rfl rfl ?_
                      refine Go_iconst (v := iZ 1) (pc' := 180) dX9_takeFollower_179 rfl (by decide) ?_
                      refine Go_callV_v (pc' := 183) (As := [.int _]) (st := []) dX9_takeFollower_180 rfl ok_X9_release km_RX9_123 (S.o 71 rfl rfl rfl) (S.b 71 rfl rfl) ⟨_, _, rfl⟩ rfl (Nat.le_of_ble_eq_true rfl) rfl rfl rfl (Nat.le_of_ble_eq_true rfl) (Nat.lt_succ_self _) ?_
                      refine s_rel (r := 1) S QP hq hr R.2.2.2.2.1 R.2.2.2.1 (by omega) (fun H1 D1 O1 W1 => ?_)
                      refine ⟨rfl, ?_⟩
                      have S1 := D1.shp S
                      have QP1 := D1.qp QP
                      have hr1_ := (D1.2.2.1 71 16).trans hr
                      refine Go_aload_n (pc' := 184) dX9_takeFollower_183 rfl rfl rfl ?_
                      refine Go_getRs (pc' := 187) dX9_takeFollower_184 rfl kf_RX9_29 (by decide) (by decide) rfl (S1.b 71 rfl rfl) (S1.o 71 rfl rfl rfl) hr1_ ?_
                      refine Go_aload_n (pc' := 188) dX9_takeFollower_187 rfl rfl rfl ?_
                      refine Go_getIv (v := (iZ s.2.1)) (pc' := 191) dX9_takeFollower_188 rfl kf_RX9_96 (by decide) (by decide) rfl (S1.b 71 rfl rfl) (S1.o 71 rfl rfl rfl) (((D1.2.2.2 _ _ (by unfold Pr; omega)).trans R.2.1)) ?_
                      refine Go_callV_v (pc' := 194) (As := [.int _]) (st := []) dX9_takeFollower_191 rfl ok_X8_closeLine km_RX9_126 QP1.2.1 QP1.1 ⟨_, _, rfl⟩ rfl (Nat.le_of_ble_eq_true rfl) rfl rfl rfl (Nat.le_of_ble_eq_true rfl) (Nat.lt_succ_self _) ?_
                      refine s_cline (l := (s.2.2.2.2.2 : Int)) QP1 O1 ((D1.2.2.2 _ _ (by unfold Pr; omega)).trans R.2.2.2.2.2) (fun H2 D2 O2 l2 => ?_)
                      refine ⟨rfl, ?_⟩
                      have S2 := D2.shp S1
                      refine Go_aload_n (pc' := 195) dX9_takeFollower_194 rfl rfl rfl ?_
                      refine Go_iconst (v := iZ 0) (pc' := 196) dX9_takeFollower_195 rfl (by decide) ?_
                      refine Go_putI (pc' := 199) dX9_takeFollower_196 rfl kf_RX9_47 (by decide) (by decide) rfl (S2.b 71 rfl rfl) (S2.o 71 rfl rfl rfl) (Or.inl rfl) rfl rfl ?_
                      refine Go_goto (tgt := 207) dX9_takeFollower_199 (by decide) ?_
                      refine Go_return dX9_takeFollower_207 rfl ?_
                      refine hk _ ?_
                      unfold zfol
                      rw [if_neg (by omega), if_neg (by omega), if_neg (by omega), if_neg (by omega), if_pos (by omega)]
                      exact TKp.line R hq D1 W1 D2 O2 l2
                · refine Go_aload_n (pc' := 151) dX9_takeFollower_150 rfl rfl rfl ?_
                  refine Go_callV_v (pc' := 154) (As := []) (st := []) dX9_takeFollower_151 rfl ok_X9_closeBracket km_RX9_120 (S.o 71 rfl rfl rfl) (S.b 71 rfl rfl) ⟨_, _, rfl⟩ rfl (Nat.le_of_ble_eq_true rfl) rfl rfl rfl (Nat.le_of_ble_eq_true rfl) (Nat.lt_succ_self _) ?_
                  refine s_close S QP hq hr R e3 hc e4 e5 (by omega) (fun H1 T1 => ?_)
                  refine ⟨rfl, ?_⟩
                  refine Go_goto (tgt := 207) dX9_takeFollower_154 (by decide) ?_
                  refine Go_return dX9_takeFollower_207 rfl ?_
                  refine hk _ ?_
                  unfold zfol
                  rw [if_neg (by omega), if_neg (by omega), if_neg (by omega), if_pos (by omega)]
                  exact T1
            · refine Go_aload_n (pc' := 121) dX9_takeFollower_120 rfl rfl rfl ?_
              refine Go_iload_n (pc' := 122) dX9_takeFollower_121 rfl rfl rfl ?_
              refine Go_iconst (v := iZ 2) (pc' := 123) dX9_takeFollower_122 rfl (by decide) ?_
              refine Go_callV_v (pc' := 126) (As := [.int _, .int _]) (st := []) dX9_takeFollower_123 rfl ok_X9_takeJoint km_RX9_116 (S.o 71 rfl rfl rfl) (S.b 71 rfl rfl) ⟨_, _, rfl⟩ rfl (Nat.le_of_ble_eq_true rfl) rfl rfl rfl (Nat.le_of_ble_eq_true rfl) (Nat.lt_succ_self _) ?_
              refine s_joint (r := zrk c) (nx := 2) S QP hq hr R e3 hc e4 e5 (zrk_wt (by omega)).1 (by omega) (fun H1 T1 => ?_)
              refine ⟨rfl, ?_⟩
              refine Go_goto (tgt := 207) dX9_takeFollower_126 (by decide) ?_
              refine Go_return dX9_takeFollower_207 rfl ?_
              refine hk _ ?_
              unfold zfol
              rw [if_neg (by omega), if_neg (by omega), if_pos (by omega)]
              exact T1
        · refine Go_aload_n (pc' := 86) dX9_takeFollower_85 rfl rfl rfl ?_
          refine Go_getIv (v := (iZ s.2.2.1)) (pc' := 89) dX9_takeFollower_86 rfl kf_RX9_99 (by decide) (by decide) rfl (S.b 71 rfl rfl) (S.o 71 rfl rfl rfl) (e8) ?_
          refine Go_if_neY (tgt := 106) (pc' := 92) dX9_takeFollower_89 (by decide) rfl (by first | exact ⟨i_lo _, i_hi _⟩ | omega) (fun c89 => ?_) (fun c89 => ?_)
          · refine Go_iload_n (pc' := 107) dX9_takeFollower_106 rfl rfl rfl ?_
            refine Go_if_eqY (tgt := 129) (pc' := 110) dX9_takeFollower_107 (by decide) rfl (by first | exact ⟨i_lo _, i_hi _⟩ | omega) (fun c107 => by exfalso; omega) (fun c107 => ?_)
            refine Go_iload_n (pc' := 111) dX9_takeFollower_110 rfl rfl rfl ?_
            refine Go_iconst (v := iZ 1) (pc' := 112) dX9_takeFollower_111 rfl (by decide) ?_
            refine Go_icmp_eqY (tgt := 120) (pc' := 115) dX9_takeFollower_112 (by decide) rfl (by first | exact ⟨i_lo _, i_hi _⟩ | omega) (by first | exact ⟨i_lo _, i_hi _⟩ | omega) (fun c112 => ?_) (fun c112 => ?_)
            · refine Go_aload_n (pc' := 121) dX9_takeFollower_120 rfl rfl rfl ?_
              refine Go_iload_n (pc' := 122) dX9_takeFollower_121 rfl rfl rfl ?_
              refine Go_iconst (v := iZ 2) (pc' := 123) dX9_takeFollower_122 rfl (by decide) ?_
              refine Go_callV_v (pc' := 126) (As := [.int _, .int _]) (st := []) dX9_takeFollower_123 rfl ok_X9_takeJoint km_RX9_116 (S.o 71 rfl rfl rfl) (S.b 71 rfl rfl) ⟨_, _, rfl⟩ rfl (Nat.le_of_ble_eq_true rfl) rfl rfl rfl (Nat.le_of_ble_eq_true rfl) (Nat.lt_succ_self _) ?_
              refine s_joint (r := zrk c) (nx := 2) S QP hq hr R e3 hc e4 e5 (zrk_wt (by omega)).1 (by omega) (fun H1 T1 => ?_)
              refine ⟨rfl, ?_⟩
              refine Go_goto (tgt := 207) dX9_takeFollower_126 (by decide) ?_
              refine Go_return dX9_takeFollower_207 rfl ?_
              refine hk _ ?_
              unfold zfol
              rw [if_neg (by omega), if_neg (by omega), if_pos (by omega)]
              exact T1
            · refine Go_iload_n (pc' := 116) dX9_takeFollower_115 rfl rfl rfl ?_
              refine Go_iconst (v := iZ 2) (pc' := 117) dX9_takeFollower_116 rfl (by decide) ?_
              refine Go_icmp_neY (tgt := 129) (pc' := 120) dX9_takeFollower_117 (by decide) rfl (by first | exact ⟨i_lo _, i_hi _⟩ | omega) (by first | exact ⟨i_lo _, i_hi _⟩ | omega) (fun c117 => ?_) (fun c117 => ?_)
              · refine Go_iload_n (pc' := 130) dX9_takeFollower_129 rfl rfl rfl ?_
                refine Go_if_eqY (tgt := 157) (pc' := 133) dX9_takeFollower_130 (by decide) rfl (by first | exact ⟨i_lo _, i_hi _⟩ | omega) (fun c130 => by exfalso; omega) (fun c130 => ?_)
                refine Go_aload_n (pc' := 134) dX9_takeFollower_133 rfl rfl rfl ?_
                refine Go_getIv (v := (iZ c)) (pc' := 137) dX9_takeFollower_134 rfl kf_RX9_44 (by decide) (by decide) rfl (S.b 71 rfl rfl) (S.o 71 rfl rfl rfl) (e3) ?_
                refine Go_sipush (v := iZ 141) (pc' := 140) dX9_takeFollower_137 rfl (by decide) ?_
                refine Go_icmp_neY (tgt := 157) (pc' := 143) dX9_takeFollower_140 (by decide) rfl (by first | exact ⟨i_lo _, i_hi _⟩ | omega) (by first | exact ⟨i_lo _, i_hi _⟩ | omega) (fun c140 => ?_) (fun c140 => ?_)
                · refine Go_iload_n (pc' := 158) dX9_takeFollower_157 rfl rfl rfl ?_
                  refine Go_if_eqY (tgt := 202) (pc' := 161) dX9_takeFollower_158 (by decide) rfl (by first | exact ⟨i_lo _, i_hi _⟩ | omega) (fun c158 => by exfalso; omega) (fun c158 => ?_)
                  refine Go_aload_n (pc' := 162) dX9_takeFollower_161 rfl rfl rfl ?_
                  refine Go_getIv (v := (iZ c)) (pc' := 165) dX9_takeFollower_162 rfl kf_RX9_44 (by decide) (by decide) rfl (S.b 71 rfl rfl) (S.o 71 rfl rfl rfl) (e3) ?_
                  refine Go_sipush (v := iZ 159) (pc' := 168) dX9_takeFollower_165 rfl (by decide) ?_
                  refine Go_icmp_neY (tgt := 202) (pc' := 171) dX9_takeFollower_168 (by decide) rfl (by first | exact ⟨i_lo _, i_hi _⟩ | omega) (by first | exact ⟨i_lo _, i_hi _⟩ | omega) (fun c168 => ?_) (fun c168 => ?_)
                  · refine Go_aload_n (pc' := 203) dX9_takeFollower_202 rfl rfl rfl ?_
                    refine Go_iconst (v := iZ 1) (pc' := 204) dX9_takeFollower_203 rfl (by decide) ?_
                    refine Go_callV_v (pc' := 207) (As := [.int _]) (st := []) dX9_takeFollower_204 rfl ok_X9_refuse km_RX9_89 (S.o 71 rfl rfl rfl) (S.b 71 rfl rfl) ⟨_, _, rfl⟩ rfl (Nat.le_of_ble_eq_true rfl) rfl rfl rfl (Nat.le_of_ble_eq_true rfl) (Nat.lt_succ_self _) ?_
                    refine Go_aload_n (pc' := 1) dX9_refuse_0 rfl rfl rfl ?_
                    refine Go_iload_n (pc' := 2) dX9_refuse_1 rfl rfl rfl ?_
                    refine Go_putI (pc' := 5) dX9_refuse_2 rfl kf_RX9_38 (by decide) (by decide) rfl (S.b 71 rfl rfl) (S.o 71 rfl rfl rfl) (Or.inl rfl) rfl rfl ?_
                    refine Go_aload_n (pc' := 6) dX9_refuse_5 rfl rfl rfl ?_
                    refine Go_aload_n (pc' := 7) dX9_refuse_6 rfl rfl rfl ?_
                    refine Go_getIv (v := (iZ pl)) (pc' := 10) dX9_refuse_7 rfl kf_RX9_68 (by decide) (by decide) rfl (S.b 71 rfl rfl) (S.o 71 rfl rfl rfl) ((vi_skip (Or.inr (by decide))).trans (e4)) ?_
                    refine Go_putI (pc' := 13) dX9_refuse_10 rfl kf_RX9_18 (by decide) (by decide) rfl (S.b 71 rfl rfl) (S.o 71 rfl rfl rfl) (Or.inl rfl) rfl rfl ?_
                    refine Go_return dX9_refuse_13 rfl ?_
                    refine ⟨rfl, ?_⟩
                    refine Go_return dX9_takeFollower_207 rfl ?_
                    refine hk _ ?_
                    unfold zfol
                    rw [if_neg (by omega), if_neg (by omega), if_neg (by omega), if_neg (by omega), if_neg (by omega)]
                    exact TKp.bad (by omega)
                  · refine Go_aload_n (pc' := 172) dX9_takeFollower_171 rfl rfl rfl ?_
                    refine Go_getIv (v := (iZ (zbr s.2.2.2.1))) (pc' := 175) dX9_takeFollower_172 rfl kf_RX9_65 (by decide) (by decide) rfl (S.b 71 rfl rfl) (S.o 71 rfl rfl rfl) (R.2.2.2.1.2.2.2.2.1) ?_
                    refine Go_if_neY (tgt := 202) (pc' := 178) dX9_takeFollower_175 (by decide) rfl (by first | exact ⟨i_lo _, i_hi _⟩ | omega) (fun c175 => ?_) (fun c175 => ?_)
                    · refine Go_aload_n (pc' := 203) dX9_takeFollower_202 rfl rfl rfl ?_
                      refine Go_iconst (v := iZ 1) (pc' := 204) dX9_takeFollower_203 rfl (by decide) ?_
                      refine Go_callV_v (pc' := 207) (As := [.int _]) (st := []) dX9_takeFollower_204 rfl ok_X9_refuse km_RX9_89 (S.o 71 rfl rfl rfl) (S.b 71 rfl rfl) ⟨_, _, rfl⟩ rfl (Nat.le_of_ble_eq_true rfl) rfl rfl rfl (Nat.le_of_ble_eq_true rfl) (Nat.lt_succ_self _) ?_
                      refine Go_aload_n (pc' := 1) dX9_refuse_0 rfl rfl rfl ?_
                      refine Go_iload_n (pc' := 2) dX9_refuse_1 rfl rfl rfl ?_
                      refine Go_putI (pc' := 5) dX9_refuse_2 rfl kf_RX9_38 (by decide) (by decide) rfl (S.b 71 rfl rfl) (S.o 71 rfl rfl rfl) (Or.inl rfl) rfl rfl ?_
                      refine Go_aload_n (pc' := 6) dX9_refuse_5 rfl rfl rfl ?_
                      refine Go_aload_n (pc' := 7) dX9_refuse_6 rfl rfl rfl ?_
                      refine Go_getIv (v := (iZ pl)) (pc' := 10) dX9_refuse_7 rfl kf_RX9_68 (by decide) (by decide) rfl (S.b 71 rfl rfl) (S.o 71 rfl rfl rfl) ((vi_skip (Or.inr (by decide))).trans (e4)) ?_
                      refine Go_putI (pc' := 13) dX9_refuse_10 rfl kf_RX9_18 (by decide) (by decide) rfl (S.b 71 rfl rfl) (S.o 71 rfl rfl rfl) (Or.inl rfl) rfl rfl ?_
                      refine Go_return dX9_refuse_13 rfl ?_
                      refine ⟨rfl, ?_⟩
                      refine Go_return dX9_takeFollower_207 rfl ?_
                      refine hk _ ?_
                      unfold zfol
                      rw [if_neg (by omega), if_neg (by omega), if_neg (by omega), if_neg (by omega), if_neg (by omega)]
                      exact TKp.bad (by omega)
                    · refine Go_aload_n (pc' := 179) dX9_takeFollower_178 rfl rfl rfl ?_
                      refine Go_iconst (v := iZ 1) (pc' := 180) dX9_takeFollower_179 rfl (by decide) ?_
                      refine Go_callV_v (pc' := 183) (As := [.int _]) (st := []) dX9_takeFollower_180 rfl ok_X9_release km_RX9_123 (S.o 71 rfl rfl rfl) (S.b 71 rfl rfl) ⟨_, _, rfl⟩ rfl (Nat.le_of_ble_eq_true rfl) rfl rfl rfl (Nat.le_of_ble_eq_true rfl) (Nat.lt_succ_self _) ?_
                      refine s_rel (r := 1) S QP hq hr R.2.2.2.2.1 R.2.2.2.1 (by omega) (fun H1 D1 O1 W1 => ?_)
                      refine ⟨rfl, ?_⟩
                      have S1 := D1.shp S
                      have QP1 := D1.qp QP
                      have hr1_ := (D1.2.2.1 71 16).trans hr
                      refine Go_aload_n (pc' := 184) dX9_takeFollower_183 rfl rfl rfl ?_
                      refine Go_getRs (pc' := 187) dX9_takeFollower_184 rfl kf_RX9_29 (by decide) (by decide) rfl (S1.b 71 rfl rfl) (S1.o 71 rfl rfl rfl) hr1_ ?_
                      refine Go_aload_n (pc' := 188) dX9_takeFollower_187 rfl rfl rfl ?_
                      refine Go_getIv (v := (iZ s.2.1)) (pc' := 191) dX9_takeFollower_188 rfl kf_RX9_96 (by decide) (by decide) rfl (S1.b 71 rfl rfl) (S1.o 71 rfl rfl rfl) (((D1.2.2.2 _ _ (by unfold Pr; omega)).trans R.2.1)) ?_
                      refine Go_callV_v (pc' := 194) (As := [.int _]) (st := []) dX9_takeFollower_191 rfl ok_X8_closeLine km_RX9_126 QP1.2.1 QP1.1 ⟨_, _, rfl⟩ rfl (Nat.le_of_ble_eq_true rfl) rfl rfl rfl (Nat.le_of_ble_eq_true rfl) (Nat.lt_succ_self _) ?_
                      refine s_cline (l := (s.2.2.2.2.2 : Int)) QP1 O1 ((D1.2.2.2 _ _ (by unfold Pr; omega)).trans R.2.2.2.2.2) (fun H2 D2 O2 l2 => ?_)
                      refine ⟨rfl, ?_⟩
                      have S2 := D2.shp S1
                      refine Go_aload_n (pc' := 195) dX9_takeFollower_194 rfl rfl rfl ?_
                      refine Go_iconst (v := iZ 0) (pc' := 196) dX9_takeFollower_195 rfl (by decide) ?_
                      refine Go_putI (pc' := 199) dX9_takeFollower_196 rfl kf_RX9_47 (by decide) (by decide) rfl (S2.b 71 rfl rfl) (S2.o 71 rfl rfl rfl) (Or.inl rfl) rfl rfl ?_
                      refine Go_goto (tgt := 207) dX9_takeFollower_199 (by decide) ?_
                      refine Go_return dX9_takeFollower_207 rfl ?_
                      refine hk _ ?_
                      unfold zfol
                      rw [if_neg (by omega), if_neg (by omega), if_neg (by omega), if_neg (by omega), if_pos (by omega)]
                      exact TKp.line R hq D1 W1 D2 O2 l2
                · refine Go_aload_n (pc' := 144) dX9_takeFollower_143 rfl rfl rfl ?_
                  refine Go_getIv (v := (iZ (zbr s.2.2.2.1))) (pc' := 147) dX9_takeFollower_144 rfl kf_RX9_65 (by decide) (by decide) rfl (S.b 71 rfl rfl) (S.o 71 rfl rfl rfl) (R.2.2.2.1.2.2.2.2.1) ?_
                  refine Go_if_leY (tgt := 157) (pc' := 150) dX9_takeFollower_147 (by decide) rfl (by first | exact ⟨i_lo _, i_hi _⟩ | omega) (fun c147 => ?_) (fun c147 => ?_)
                  · refine Go_iload_n (pc' := 158) dX9_takeFollower_157 rfl rfl rfl ?_
                    refine Go_if_eqY (tgt := 202) (pc' := 161) dX9_takeFollower_158 (by decide) rfl (by first | exact ⟨i_lo _, i_hi _⟩ | omega) (fun c158 => by exfalso; omega) (fun c158 => ?_)
                    refine Go_aload_n (pc' := 162) dX9_takeFollower_161 rfl rfl rfl ?_
                    refine Go_getIv (v := (iZ c)) (pc' := 165) dX9_takeFollower_162 rfl kf_RX9_44 (by decide) (by decide) rfl (S.b 71 rfl rfl) (S.o 71 rfl rfl rfl) (e3) ?_
                    refine Go_sipush (v := iZ 159) (pc' := 168) dX9_takeFollower_165 rfl (by decide) ?_
                    refine Go_icmp_neY (tgt := 202) (pc' := 171) dX9_takeFollower_168 (by decide) rfl (by first | exact ⟨i_lo _, i_hi _⟩ | omega) (by first | exact ⟨i_lo _, i_hi _⟩ | omega) (fun c168 => ?_) (fun c168 => ?_)
                    · refine Go_aload_n (pc' := 203) dX9_takeFollower_202 rfl rfl rfl ?_
                      refine Go_iconst (v := iZ 1) (pc' := 204) dX9_takeFollower_203 rfl (by decide) ?_
                      refine Go_callV_v (pc' := 207) (As := [.int _]) (st := []) dX9_takeFollower_204 rfl ok_X9_refuse km_RX9_89 (S.o 71 rfl rfl rfl) (S.b 71 rfl rfl) ⟨_, _, rfl⟩ rfl (Nat.le_of_ble_eq_true rfl) rfl rfl rfl (Nat.le_of_ble_eq_true rfl) (Nat.lt_succ_self _) ?_
                      refine Go_aload_n (pc' := 1) dX9_refuse_0 rfl rfl rfl ?_
                      refine Go_iload_n (pc' := 2) dX9_refuse_1 rfl rfl rfl ?_
                      refine Go_putI (pc' := 5) dX9_refuse_2 rfl kf_RX9_38 (by decide) (by decide) rfl (S.b 71 rfl rfl) (S.o 71 rfl rfl rfl) (Or.inl rfl) rfl rfl ?_
                      refine Go_aload_n (pc' := 6) dX9_refuse_5 rfl rfl rfl ?_
                      refine Go_aload_n (pc' := 7) dX9_refuse_6 rfl rfl rfl ?_
                      refine Go_getIv (v := (iZ pl)) (pc' := 10) dX9_refuse_7 rfl kf_RX9_68 (by decide) (by decide) rfl (S.b 71 rfl rfl) (S.o 71 rfl rfl rfl) ((vi_skip (Or.inr (by decide))).trans (e4)) ?_
                      refine Go_putI (pc' := 13) dX9_refuse_10 rfl kf_RX9_18 (by decide) (by decide) rfl (S.b 71 rfl rfl) (S.o 71 rfl rfl rfl) (Or.inl rfl) rfl rfl ?_
                      refine Go_return dX9_refuse_13 rfl ?_
                      refine ⟨rfl, ?_⟩
                      refine Go_return dX9_takeFollower_207 rfl ?_
                      refine hk _ ?_
                      unfold zfol
                      rw [if_neg (by omega), if_neg (by omega), if_neg (by omega), if_neg (by omega), if_neg (by omega)]
                      exact TKp.bad (by omega)
                    · refine Go_aload_n (pc' := 172) dX9_takeFollower_171 rfl rfl rfl ?_
                      refine Go_getIv (v := (iZ (zbr s.2.2.2.1))) (pc' := 175) dX9_takeFollower_172 rfl kf_RX9_65 (by decide) (by decide) rfl (S.b 71 rfl rfl) (S.o 71 rfl rfl rfl) (R.2.2.2.1.2.2.2.2.1) ?_
                      refine Go_if_neY (tgt := 202) (pc' := 178) dX9_takeFollower_175 (by decide) rfl (by first | exact ⟨i_lo _, i_hi _⟩ | omega) (fun c175 => ?_) (fun c175 => ?_)
                      · refine Go_aload_n (pc' := 203) dX9_takeFollower_202 rfl rfl rfl ?_
                        refine Go_iconst (v := iZ 1) (pc' := 204) dX9_takeFollower_203 rfl (by decide) ?_
                        refine Go_callV_v (pc' := 207) (As := [.int _]) (st := []) dX9_takeFollower_204 rfl ok_X9_refuse km_RX9_89 (S.o 71 rfl rfl rfl) (S.b 71 rfl rfl) ⟨_, _, rfl⟩ rfl (Nat.le_of_ble_eq_true rfl) rfl rfl rfl (Nat.le_of_ble_eq_true rfl) (Nat.lt_succ_self _) ?_
                        refine Go_aload_n (pc' := 1) dX9_refuse_0 rfl rfl rfl ?_
                        refine Go_iload_n (pc' := 2) dX9_refuse_1 rfl rfl rfl ?_
                        refine Go_putI (pc' := 5) dX9_refuse_2 rfl kf_RX9_38 (by decide) (by decide) rfl (S.b 71 rfl rfl) (S.o 71 rfl rfl rfl) (Or.inl rfl) rfl rfl ?_
                        refine Go_aload_n (pc' := 6) dX9_refuse_5 rfl rfl rfl ?_
                        refine Go_aload_n (pc' := 7) dX9_refuse_6 rfl rfl rfl ?_
                        refine Go_getIv (v := (iZ pl)) (pc' := 10) dX9_refuse_7 rfl kf_RX9_68 (by decide) (by decide) rfl (S.b 71 rfl rfl) (S.o 71 rfl rfl rfl) ((vi_skip (Or.inr (by decide))).trans (e4)) ?_
                        refine Go_putI (pc' := 13) dX9_refuse_10 rfl kf_RX9_18 (by decide) (by decide) rfl (S.b 71 rfl rfl) (S.o 71 rfl rfl rfl) (Or.inl rfl) rfl rfl ?_
                        refine Go_return dX9_refuse_13 rfl ?_
                        refine ⟨rfl, ?_⟩
                        refine Go_return dX9_takeFollower_207 rfl ?_
                        refine hk _ ?_
                        unfold zfol
                        rw [if_neg (by omega), if_neg (by omega), if_neg (by omega), if_neg (by omega), if_neg (by omega)]
                        exact TKp.bad (by omega)
                      · refine Go_aload_n (pc' := 179) dX9_takeFollower_178 rfl rfl rfl ?_
                        refine Go_iconst (v := iZ 1) (pc' := 180) dX9_takeFollower_179 rfl (by decide) ?_
                        refine Go_callV_v (pc' := 183) (As := [.int _]) (st := []) dX9_takeFollower_180 rfl ok_X9_release km_RX9_123 (S.o 71 rfl rfl rfl) (S.b 71 rfl rfl) ⟨_, _, rfl⟩ rfl (Nat.le_of_ble_eq_true rfl) rfl rfl rfl (Nat.le_of_ble_eq_true rfl) (Nat.lt_succ_self _) ?_
                        refine s_rel (r := 1) S QP hq hr R.2.2.2.2.1 R.2.2.2.1 (by omega) (fun H1 D1 O1 W1 => ?_)
                        refine ⟨rfl, ?_⟩
                        have S1 := D1.shp S
                        have QP1 := D1.qp QP
                        have hr1_ := (D1.2.2.1 71 16).trans hr
                        refine Go_aload_n (pc' := 184) dX9_takeFollower_183 rfl rfl rfl ?_
                        refine Go_getRs (pc' := 187) dX9_takeFollower_184 rfl kf_RX9_29 (by decide) (by decide) rfl (S1.b 71 rfl rfl) (S1.o 71 rfl rfl rfl) hr1_ ?_
                        refine Go_aload_n (pc' := 188) dX9_takeFollower_187 rfl rfl rfl ?_
                        refine Go_getIv (v := (iZ s.2.1)) (pc' := 191) dX9_takeFollower_188 rfl kf_RX9_96 (by decide) (by decide) rfl (S1.b 71 rfl rfl) (S1.o 71 rfl rfl rfl) (((D1.2.2.2 _ _ (by unfold Pr; omega)).trans R.2.1)) ?_
                        refine Go_callV_v (pc' := 194) (As := [.int _]) (st := []) dX9_takeFollower_191 rfl ok_X8_closeLine km_RX9_126 QP1.2.1 QP1.1 ⟨_, _, rfl⟩ rfl (Nat.le_of_ble_eq_true rfl) rfl rfl rfl (Nat.le_of_ble_eq_true rfl) (Nat.lt_succ_self _) ?_
                        refine s_cline (l := (s.2.2.2.2.2 : Int)) QP1 O1 ((D1.2.2.2 _ _ (by unfold Pr; omega)).trans R.2.2.2.2.2) (fun H2 D2 O2 l2 => ?_)
                        refine ⟨rfl, ?_⟩
                        have S2 := D2.shp S1
                        refine Go_aload_n (pc' := 195) dX9_takeFollower_194 rfl rfl rfl ?_
                        refine Go_iconst (v := iZ 0) (pc' := 196) dX9_takeFollower_195 rfl (by decide) ?_
                        refine Go_putI (pc' := 199) dX9_takeFollower_196 rfl kf_RX9_47 (by decide) (by decide) rfl (S2.b 71 rfl rfl) (S2.o 71 rfl rfl rfl) (Or.inl rfl) rfl rfl ?_
                        refine Go_goto (tgt := 207) dX9_takeFollower_199 (by decide) ?_
                        refine Go_return dX9_takeFollower_207 rfl ?_
                        refine hk _ ?_
                        unfold zfol
                        rw [if_neg (by omega), if_neg (by omega), if_neg (by omega), if_neg (by omega), if_pos (by omega)]
                        exact TKp.line R hq D1 W1 D2 O2 l2
                  · refine Go_aload_n (pc' := 151) dX9_takeFollower_150 rfl rfl rfl ?_
                    refine Go_callV_v (pc' := 154) (As := []) (st := []) dX9_takeFollower_151 rfl ok_X9_closeBracket km_RX9_120 (S.o 71 rfl rfl rfl) (S.b 71 rfl rfl) ⟨_, _, rfl⟩ rfl (Nat.le_of_ble_eq_true rfl) rfl rfl rfl (Nat.le_of_ble_eq_true rfl) (Nat.lt_succ_self _) ?_
                    refine s_close S QP hq hr R e3 hc e4 e5 (by omega) (fun H1 T1 => ?_)
                    refine ⟨rfl, ?_⟩
                    refine Go_goto (tgt := 207) dX9_takeFollower_154 (by decide) ?_
                    refine Go_return dX9_takeFollower_207 rfl ?_
                    refine hk _ ?_
                    unfold zfol
                    rw [if_neg (by omega), if_neg (by omega), if_neg (by omega), if_pos (by omega)]
                    exact T1
              · refine Go_aload_n (pc' := 121) dX9_takeFollower_120 rfl rfl rfl ?_
                refine Go_iload_n (pc' := 122) dX9_takeFollower_121 rfl rfl rfl ?_
                refine Go_iconst (v := iZ 2) (pc' := 123) dX9_takeFollower_122 rfl (by decide) ?_
                refine Go_callV_v (pc' := 126) (As := [.int _, .int _]) (st := []) dX9_takeFollower_123 rfl ok_X9_takeJoint km_RX9_116 (S.o 71 rfl rfl rfl) (S.b 71 rfl rfl) ⟨_, _, rfl⟩ rfl (Nat.le_of_ble_eq_true rfl) rfl rfl rfl (Nat.le_of_ble_eq_true rfl) (Nat.lt_succ_self _) ?_
                refine s_joint (r := zrk c) (nx := 2) S QP hq hr R e3 hc e4 e5 (zrk_wt (by omega)).1 (by omega) (fun H1 T1 => ?_)
                refine ⟨rfl, ?_⟩
                refine Go_goto (tgt := 207) dX9_takeFollower_126 (by decide) ?_
                refine Go_return dX9_takeFollower_207 rfl ?_
                refine hk _ ?_
                unfold zfol
                rw [if_neg (by omega), if_neg (by omega), if_pos (by omega)]
                exact T1
          · refine Go_aload_n (pc' := 93) dX9_takeFollower_92 rfl rfl rfl ?_
            refine Go_iconst (v := iZ 1) (pc' := 94) dX9_takeFollower_93 rfl (by decide) ?_
            refine Go_putI (pc' := 97) dX9_takeFollower_94 rfl kf_RX9_99 (by decide) (by decide) rfl (S.b 71 rfl rfl) (S.o 71 rfl rfl rfl) (Or.inl rfl) rfl rfl ?_
            refine Go_aload_n (pc' := 98) dX9_takeFollower_97 rfl rfl rfl ?_
            refine Go_iload_n (pc' := 99) dX9_takeFollower_98 rfl rfl rfl ?_
            refine Go_iconst (v := iZ 3) (pc' := 100) dX9_takeFollower_99 rfl (by decide) ?_
            refine Go_callV_v (pc' := 103) (As := [.int _, .int _]) (st := []) dX9_takeFollower_100 rfl ok_X9_takeJoint km_RX9_116 (S.o 71 rfl rfl rfl) (S.b 71 rfl rfl) ⟨_, _, rfl⟩ rfl (Nat.le_of_ble_eq_true rfl) rfl rfl rfl (Nat.le_of_ble_eq_true rfl) (Nat.lt_succ_self _) ?_
            refine s_joint (r := zrk c) (nx := 3) (s := (s.1, s.2.1, 1, s.2.2.2.1, s.2.2.2.2.1, s.2.2.2.2.2)) S QP hq hr (RS6.w8 1 (by omega) R hq) ((vi_skip (by decide)).trans e3) hc ((vi_skip (by decide)).trans e4) (fun z => (vi_skip (by decide)).trans (e5 z)) (zrk_wt (by omega)).1 (by omega) (fun H1 T1 => ?_)
            refine ⟨rfl, ?_⟩
            refine Go_goto (tgt := 207) dX9_takeFollower_103 (by decide) ?_
            refine Go_return dX9_takeFollower_207 rfl ?_
            refine hk _ ?_
            unfold zfol
            rw [if_neg (by omega), if_pos (by omega)]
            exact T1.pre (DX.wI (DX.rf (fun i k => i = 71 ∧ k = 8) H) (by omega)) (fun i k z => by unfold Pk; omega)
    · refine Go_iload_n (pc' := 39) dX9_takeFollower_38 rfl rfl rfl ?_
      refine Go_iconst (v := iZ 5) (pc' := 40) dX9_takeFollower_39 rfl (by decide) ?_
      refine Go_icmp_eqY (tgt := 49) (pc' := 43) dX9_takeFollower_40 (by decide) rfl (by first | exact ⟨i_lo _, i_hi _⟩ | omega) (by first | exact ⟨i_lo _, i_hi _⟩ | omega) (fun c40 => ?_) (fun c40 => ?_)
      · refine Go_aload_n (pc' := 50) dX9_takeFollower_49 rfl rfl rfl ?_
        refine Go_iload_n (pc' := 51) dX9_takeFollower_50 rfl rfl rfl ?_
        refine Go_aload_n (pc' := 52) dX9_takeFollower_51 rfl rfl rfl ?_
        refine Go_getIv (v := (iZ c)) (pc' := 55) dX9_takeFollower_52 rfl kf_RX9_44 (by decide) (by decide) rfl (S.b 71 rfl rfl) (S.o 71 rfl rfl rfl) (e3) ?_
        refine Go_sipush (v := iZ 147) (pc' := 58) dX9_takeFollower_55 rfl (by decide) ?_
        refine Go_icmp_neY (tgt := 65) (pc' := 61) dX9_takeFollower_58 (by decide) rfl (by first | exact ⟨i_lo _, i_hi _⟩ | omega) (by first | exact ⟨i_lo _, i_hi _⟩ | omega) (fun c58 => ?_) (fun c58 => ?_)
        · refine Go_iconst (v := iZ 3) (pc' := 66) dX9_takeFollower_65 rfl (by decide) ?_
          refine Go_callV_v (pc' := 69) (As := [.int _, .int _]) (st := []) dX9_takeFollower_66 rfl ok_X9_takeJoint km_RX9_116 (S.o 71 rfl rfl rfl) (S.b 71 rfl rfl) ⟨_, _, rfl⟩ rfl (Nat.le_of_ble_eq_true rfl) rfl rfl rfl (Nat.le_of_ble_eq_true rfl) (Nat.lt_succ_self _) ?_
          refine s_joint (r := zrk c) (nx := 3) S QP hq hr R e3 hc e4 e5 (zrk_wt (by omega)).1 (by omega) (fun H1 T1 => ?_)
          refine ⟨rfl, ?_⟩
          refine Go_goto (tgt := 207) dX9_takeFollower_69 (by decide) ?_
          refine Go_return dX9_takeFollower_207 rfl ?_
          refine hk _ ?_
          unfold zfol
          rw [if_pos (by omega)]
          rw [if_neg (by omega)]
          exact T1
        · refine Go_iconst (v := iZ 4) (pc' := 62) dX9_takeFollower_61 rfl (by decide) ?_
          refine Go_goto (tgt := 66) dX9_takeFollower_62 (by decide) ?_
          refine Go_callV_v (pc' := 69) (As := [.int _, .int _]) (st := []) dX9_takeFollower_66 rfl ok_X9_takeJoint km_RX9_116 (S.o 71 rfl rfl rfl) (S.b 71 rfl rfl) ⟨_, _, rfl⟩ rfl (Nat.le_of_ble_eq_true rfl) rfl rfl rfl (Nat.le_of_ble_eq_true rfl) (Nat.lt_succ_self _) ?_
          refine s_joint (r := zrk c) (nx := 4) S QP hq hr R e3 hc e4 e5 (zrk_wt (by omega)).1 (by omega) (fun H1 T1 => ?_)
          refine ⟨rfl, ?_⟩
          refine Go_goto (tgt := 207) dX9_takeFollower_69 (by decide) ?_
          refine Go_return dX9_takeFollower_207 rfl ?_
          refine hk _ ?_
          unfold zfol
          rw [if_pos (by omega)]
          rw [if_pos (by omega)]
          exact T1
      · refine Go_iload_n (pc' := 44) dX9_takeFollower_43 rfl rfl rfl ?_
        refine Go_bipush (v := iZ 6) (pc' := 46) dX9_takeFollower_44 rfl (by decide) ?_
        refine Go_icmp_neY (tgt := 72) (pc' := 49) dX9_takeFollower_46 (by decide) rfl (by first | exact ⟨i_lo _, i_hi _⟩ | omega) (by first | exact ⟨i_lo _, i_hi _⟩ | omega) (fun c46 => ?_) (fun c46 => ?_)
        · refine Go_aload_n (pc' := 73) dX9_takeFollower_72 rfl rfl rfl ?_
          refine Go_getIv (v := (iZ s.1)) (pc' := 76) dX9_takeFollower_73 rfl kf_RX9_47 (by decide) (by decide) rfl (S.b 71 rfl rfl) (S.o 71 rfl rfl rfl) (R.1) ?_
          refine Go_iconst (v := iZ 5) (pc' := 77) dX9_takeFollower_76 rfl (by decide) ?_
          refine Go_icmp_neY (tgt := 106) (pc' := 80) dX9_takeFollower_77 (by decide) rfl (by first | exact ⟨i_lo _, i_hi _⟩ | omega) (by first | exact ⟨i_lo _, i_hi _⟩ | omega) (fun c77 => ?_) (fun c77 => ?_)
          · refine Go_iload_n (pc' := 107) dX9_takeFollower_106 rfl rfl rfl ?_
            refine Go_if_eqY (tgt := 129) (pc' := 110) dX9_takeFollower_107 (by decide) rfl (by first | exact ⟨i_lo _, i_hi _⟩ | omega) (fun c107 => by exfalso; omega) (fun c107 => ?_)
            refine Go_iload_n (pc' := 111) dX9_takeFollower_110 rfl rfl rfl ?_
            refine Go_iconst (v := iZ 1) (pc' := 112) dX9_takeFollower_111 rfl (by decide) ?_
            refine Go_icmp_eqY (tgt := 120) (pc' := 115) dX9_takeFollower_112 (by decide) rfl (by first | exact ⟨i_lo _, i_hi _⟩ | omega) (by first | exact ⟨i_lo _, i_hi _⟩ | omega) (fun c112 => ?_) (fun c112 => ?_)
            · refine Go_aload_n (pc' := 121) dX9_takeFollower_120 rfl rfl rfl ?_
              refine Go_iload_n (pc' := 122) dX9_takeFollower_121 rfl rfl rfl ?_
              refine Go_iconst (v := iZ 2) (pc' := 123) dX9_takeFollower_122 rfl (by decide) ?_
              refine Go_callV_v (pc' := 126) (As := [.int _, .int _]) (st := []) dX9_takeFollower_123 rfl ok_X9_takeJoint km_RX9_116 (S.o 71 rfl rfl rfl) (S.b 71 rfl rfl) ⟨_, _, rfl⟩ rfl (Nat.le_of_ble_eq_true rfl) rfl rfl rfl (Nat.le_of_ble_eq_true rfl) (Nat.lt_succ_self _) ?_
              refine s_joint (r := zrk c) (nx := 2) S QP hq hr R e3 hc e4 e5 (zrk_wt (by omega)).1 (by omega) (fun H1 T1 => ?_)
              refine ⟨rfl, ?_⟩
              refine Go_goto (tgt := 207) dX9_takeFollower_126 (by decide) ?_
              refine Go_return dX9_takeFollower_207 rfl ?_
              refine hk _ ?_
              unfold zfol
              rw [if_neg (by omega), if_neg (by omega), if_pos (by omega)]
              exact T1
            · refine Go_iload_n (pc' := 116) dX9_takeFollower_115 rfl rfl rfl ?_
              refine Go_iconst (v := iZ 2) (pc' := 117) dX9_takeFollower_116 rfl (by decide) ?_
              refine Go_icmp_neY (tgt := 129) (pc' := 120) dX9_takeFollower_117 (by decide) rfl (by first | exact ⟨i_lo _, i_hi _⟩ | omega) (by first | exact ⟨i_lo _, i_hi _⟩ | omega) (fun c117 => ?_) (fun c117 => ?_)
              · refine Go_iload_n (pc' := 130) dX9_takeFollower_129 rfl rfl rfl ?_
                refine Go_if_eqY (tgt := 157) (pc' := 133) dX9_takeFollower_130 (by decide) rfl (by first | exact ⟨i_lo _, i_hi _⟩ | omega) (fun c130 => by exfalso; omega) (fun c130 => ?_)
                refine Go_aload_n (pc' := 134) dX9_takeFollower_133 rfl rfl rfl ?_
                refine Go_getIv (v := (iZ c)) (pc' := 137) dX9_takeFollower_134 rfl kf_RX9_44 (by decide) (by decide) rfl (S.b 71 rfl rfl) (S.o 71 rfl rfl rfl) (e3) ?_
                refine Go_sipush (v := iZ 141) (pc' := 140) dX9_takeFollower_137 rfl (by decide) ?_
                refine Go_icmp_neY (tgt := 157) (pc' := 143) dX9_takeFollower_140 (by decide) rfl (by first | exact ⟨i_lo _, i_hi _⟩ | omega) (by first | exact ⟨i_lo _, i_hi _⟩ | omega) (fun c140 => ?_) (fun c140 => ?_)
                · refine Go_iload_n (pc' := 158) dX9_takeFollower_157 rfl rfl rfl ?_
                  refine Go_if_eqY (tgt := 202) (pc' := 161) dX9_takeFollower_158 (by decide) rfl (by first | exact ⟨i_lo _, i_hi _⟩ | omega) (fun c158 => by exfalso; omega) (fun c158 => ?_)
                  refine Go_aload_n (pc' := 162) dX9_takeFollower_161 rfl rfl rfl ?_
                  refine Go_getIv (v := (iZ c)) (pc' := 165) dX9_takeFollower_162 rfl kf_RX9_44 (by decide) (by decide) rfl (S.b 71 rfl rfl) (S.o 71 rfl rfl rfl) (e3) ?_
                  refine Go_sipush (v := iZ 159) (pc' := 168) dX9_takeFollower_165 rfl (by decide) ?_
                  refine Go_icmp_neY (tgt := 202) (pc' := 171) dX9_takeFollower_168 (by decide) rfl (by first | exact ⟨i_lo _, i_hi _⟩ | omega) (by first | exact ⟨i_lo _, i_hi _⟩ | omega) (fun c168 => ?_) (fun c168 => ?_)
                  · refine Go_aload_n (pc' := 203) dX9_takeFollower_202 rfl rfl rfl ?_
                    refine Go_iconst (v := iZ 1) (pc' := 204) dX9_takeFollower_203 rfl (by decide) ?_
                    refine Go_callV_v (pc' := 207) (As := [.int _]) (st := []) dX9_takeFollower_204 rfl ok_X9_refuse km_RX9_89 (S.o 71 rfl rfl rfl) (S.b 71 rfl rfl) ⟨_, _, rfl⟩ rfl (Nat.le_of_ble_eq_true rfl) rfl rfl rfl (Nat.le_of_ble_eq_true rfl) (Nat.lt_succ_self _) ?_
                    refine Go_aload_n (pc' := 1) dX9_refuse_0 rfl rfl rfl ?_
                    refine Go_iload_n (pc' := 2) dX9_refuse_1 rfl rfl rfl ?_
                    refine Go_putI (pc' := 5) dX9_refuse_2 rfl kf_RX9_38 (by decide) (by decide) rfl (S.b 71 rfl rfl) (S.o 71 rfl rfl rfl) (Or.inl rfl) rfl rfl ?_
                    refine Go_aload_n (pc' := 6) dX9_refuse_5 rfl rfl rfl ?_
                    refine Go_aload_n (pc' := 7) dX9_refuse_6 rfl rfl rfl ?_
                    refine Go_getIv (v := (iZ pl)) (pc' := 10) dX9_refuse_7 rfl kf_RX9_68 (by decide) (by decide) rfl (S.b 71 rfl rfl) (S.o 71 rfl rfl rfl) ((vi_skip (Or.inr (by decide))).trans (e4)) ?_
                    refine Go_putI (pc' := 13) dX9_refuse_10 rfl kf_RX9_18 (by decide) (by decide) rfl (S.b 71 rfl rfl) (S.o 71 rfl rfl rfl) (Or.inl rfl) rfl rfl ?_
                    refine Go_return dX9_refuse_13 rfl ?_
                    refine ⟨rfl, ?_⟩
                    refine Go_return dX9_takeFollower_207 rfl ?_
                    refine hk _ ?_
                    unfold zfol
                    rw [if_neg (by omega), if_neg (by omega), if_neg (by omega), if_neg (by omega), if_neg (by omega)]
                    exact TKp.bad (by omega)
                  · refine Go_aload_n (pc' := 172) dX9_takeFollower_171 rfl rfl rfl ?_
                    refine Go_getIv (v := (iZ (zbr s.2.2.2.1))) (pc' := 175) dX9_takeFollower_172 rfl kf_RX9_65 (by decide) (by decide) rfl (S.b 71 rfl rfl) (S.o 71 rfl rfl rfl) (R.2.2.2.1.2.2.2.2.1) ?_
                    refine Go_if_neY (tgt := 202) (pc' := 178) dX9_takeFollower_175 (by decide) rfl (by first | exact ⟨i_lo _, i_hi _⟩ | omega) (fun c175 => ?_) (fun c175 => ?_)
                    · refine Go_aload_n (pc' := 203) dX9_takeFollower_202 rfl rfl rfl ?_
                      refine Go_iconst (v := iZ 1) (pc' := 204) dX9_takeFollower_203 rfl (by decide) ?_
                      refine Go_callV_v (pc' := 207) (As := [.int _]) (st := []) dX9_takeFollower_204 rfl ok_X9_refuse km_RX9_89 (S.o 71 rfl rfl rfl) (S.b 71 rfl rfl) ⟨_, _, rfl⟩ rfl (Nat.le_of_ble_eq_true rfl) rfl rfl rfl (Nat.le_of_ble_eq_true rfl) (Nat.lt_succ_self _) ?_
                      refine Go_aload_n (pc' := 1) dX9_refuse_0 rfl rfl rfl ?_
                      refine Go_iload_n (pc' := 2) dX9_refuse_1 rfl rfl rfl ?_
                      refine Go_putI (pc' := 5) dX9_refuse_2 rfl kf_RX9_38 (by decide) (by decide) rfl (S.b 71 rfl rfl) (S.o 71 rfl rfl rfl) (Or.inl rfl) rfl rfl ?_
                      refine Go_aload_n (pc' := 6) dX9_refuse_5 rfl rfl rfl ?_
                      refine Go_aload_n (pc' := 7) dX9_refuse_6 rfl rfl rfl ?_
                      refine Go_getIv (v := (iZ pl)) (pc' := 10) dX9_refuse_7 rfl kf_RX9_68 (by decide) (by decide) rfl (S.b 71 rfl rfl) (S.o 71 rfl rfl rfl) ((vi_skip (Or.inr (by decide))).trans (e4)) ?_
                      refine Go_putI (pc' := 13) dX9_refuse_10 rfl kf_RX9_18 (by decide) (by decide) rfl (S.b 71 rfl rfl) (S.o 71 rfl rfl rfl) (Or.inl rfl) rfl rfl ?_
                      refine Go_return dX9_refuse_13 rfl ?_
                      refine ⟨rfl, ?_⟩
                      refine Go_return dX9_takeFollower_207 rfl ?_
                      refine hk _ ?_
                      unfold zfol
                      rw [if_neg (by omega), if_neg (by omega), if_neg (by omega), if_neg (by omega), if_neg (by omega)]
                      exact TKp.bad (by omega)
                    · refine Go_aload_n (pc' := 179) dX9_takeFollower_178 rfl rfl rfl ?_
                      refine Go_iconst (v := iZ 1) (pc' := 180) dX9_takeFollower_179 rfl (by decide) ?_
                      refine Go_callV_v (pc' := 183) (As := [.int _]) (st := []) dX9_takeFollower_180 rfl ok_X9_release km_RX9_123 (S.o 71 rfl rfl rfl) (S.b 71 rfl rfl) ⟨_, _, rfl⟩ rfl (Nat.le_of_ble_eq_true rfl) rfl rfl rfl (Nat.le_of_ble_eq_true rfl) (Nat.lt_succ_self _) ?_
                      refine s_rel (r := 1) S QP hq hr R.2.2.2.2.1 R.2.2.2.1 (by omega) (fun H1 D1 O1 W1 => ?_)
                      refine ⟨rfl, ?_⟩
                      have S1 := D1.shp S
                      have QP1 := D1.qp QP
                      have hr1_ := (D1.2.2.1 71 16).trans hr
                      refine Go_aload_n (pc' := 184) dX9_takeFollower_183 rfl rfl rfl ?_
                      refine Go_getRs (pc' := 187) dX9_takeFollower_184 rfl kf_RX9_29 (by decide) (by decide) rfl (S1.b 71 rfl rfl) (S1.o 71 rfl rfl rfl) hr1_ ?_
                      refine Go_aload_n (pc' := 188) dX9_takeFollower_187 rfl rfl rfl ?_
                      refine Go_getIv (v := (iZ s.2.1)) (pc' := 191) dX9_takeFollower_188 rfl kf_RX9_96 (by decide) (by decide) rfl (S1.b 71 rfl rfl) (S1.o 71 rfl rfl rfl) (((D1.2.2.2 _ _ (by unfold Pr; omega)).trans R.2.1)) ?_
                      refine Go_callV_v (pc' := 194) (As := [.int _]) (st := []) dX9_takeFollower_191 rfl ok_X8_closeLine km_RX9_126 QP1.2.1 QP1.1 ⟨_, _, rfl⟩ rfl (Nat.le_of_ble_eq_true rfl) rfl rfl rfl (Nat.le_of_ble_eq_true rfl) (Nat.lt_succ_self _) ?_
                      refine s_cline (l := (s.2.2.2.2.2 : Int)) QP1 O1 ((D1.2.2.2 _ _ (by unfold Pr; omega)).trans R.2.2.2.2.2) (fun H2 D2 O2 l2 => ?_)
                      refine ⟨rfl, ?_⟩
                      have S2 := D2.shp S1
                      refine Go_aload_n (pc' := 195) dX9_takeFollower_194 rfl rfl rfl ?_
                      refine Go_iconst (v := iZ 0) (pc' := 196) dX9_takeFollower_195 rfl (by decide) ?_
                      refine Go_putI (pc' := 199) dX9_takeFollower_196 rfl kf_RX9_47 (by decide) (by decide) rfl (S2.b 71 rfl rfl) (S2.o 71 rfl rfl rfl) (Or.inl rfl) rfl rfl ?_
                      refine Go_goto (tgt := 207) dX9_takeFollower_199 (by decide) ?_
                      refine Go_return dX9_takeFollower_207 rfl ?_
                      refine hk _ ?_
                      unfold zfol
                      rw [if_neg (by omega), if_neg (by omega), if_neg (by omega), if_neg (by omega), if_pos (by omega)]
                      exact TKp.line R hq D1 W1 D2 O2 l2
                · refine Go_aload_n (pc' := 144) dX9_takeFollower_143 rfl rfl rfl ?_
                  refine Go_getIv (v := (iZ (zbr s.2.2.2.1))) (pc' := 147) dX9_takeFollower_144 rfl kf_RX9_65 (by decide) (by decide) rfl (S.b 71 rfl rfl) (S.o 71 rfl rfl rfl) (R.2.2.2.1.2.2.2.2.1) ?_
                  refine Go_if_leY (tgt := 157) (pc' := 150) dX9_takeFollower_147 (by decide) rfl (by first | exact ⟨i_lo _, i_hi _⟩ | omega) (fun c147 => ?_) (fun c147 => ?_)
                  · refine Go_iload_n (pc' := 158) dX9_takeFollower_157 rfl rfl rfl ?_
                    refine Go_if_eqY (tgt := 202) (pc' := 161) dX9_takeFollower_158 (by decide) rfl (by first | exact ⟨i_lo _, i_hi _⟩ | omega) (fun c158 => by exfalso; omega) (fun c158 => ?_)
                    refine Go_aload_n (pc' := 162) dX9_takeFollower_161 rfl rfl rfl ?_
                    refine Go_getIv (v := (iZ c)) (pc' := 165) dX9_takeFollower_162 rfl kf_RX9_44 (by decide) (by decide) rfl (S.b 71 rfl rfl) (S.o 71 rfl rfl rfl) (e3) ?_
                    refine Go_sipush (v := iZ 159) (pc' := 168) dX9_takeFollower_165 rfl (by decide) ?_
                    refine Go_icmp_neY (tgt := 202) (pc' := 171) dX9_takeFollower_168 (by decide) rfl (by first | exact ⟨i_lo _, i_hi _⟩ | omega) (by first | exact ⟨i_lo _, i_hi _⟩ | omega) (fun c168 => ?_) (fun c168 => ?_)
                    · refine Go_aload_n (pc' := 203) dX9_takeFollower_202 rfl rfl rfl ?_
                      refine Go_iconst (v := iZ 1) (pc' := 204) dX9_takeFollower_203 rfl (by decide) ?_
                      refine Go_callV_v (pc' := 207) (As := [.int _]) (st := []) dX9_takeFollower_204 rfl ok_X9_refuse km_RX9_89 (S.o 71 rfl rfl rfl) (S.b 71 rfl rfl) ⟨_, _, rfl⟩ rfl (Nat.le_of_ble_eq_true rfl) rfl rfl rfl (Nat.le_of_ble_eq_true rfl) (Nat.lt_succ_self _) ?_
                      refine Go_aload_n (pc' := 1) dX9_refuse_0 rfl rfl rfl ?_
                      refine Go_iload_n (pc' := 2) dX9_refuse_1 rfl rfl rfl ?_
                      refine Go_putI (pc' := 5) dX9_refuse_2 rfl kf_RX9_38 (by decide) (by decide) rfl (S.b 71 rfl rfl) (S.o 71 rfl rfl rfl) (Or.inl rfl) rfl rfl ?_
                      refine Go_aload_n (pc' := 6) dX9_refuse_5 rfl rfl rfl ?_
                      refine Go_aload_n (pc' := 7) dX9_refuse_6 rfl rfl rfl ?_
                      refine Go_getIv (v := (iZ pl)) (pc' := 10) dX9_refuse_7 rfl kf_RX9_68 (by decide) (by decide) rfl (S.b 71 rfl rfl) (S.o 71 rfl rfl rfl) ((vi_skip (Or.inr (by decide))).trans (e4)) ?_
                      refine Go_putI (pc' := 13) dX9_refuse_10 rfl kf_RX9_18 (by decide) (by decide) rfl (S.b 71 rfl rfl) (S.o 71 rfl rfl rfl) (Or.inl rfl) rfl rfl ?_
                      refine Go_return dX9_refuse_13 rfl ?_
                      refine ⟨rfl, ?_⟩
                      refine Go_return dX9_takeFollower_207 rfl ?_
                      refine hk _ ?_
                      unfold zfol
                      rw [if_neg (by omega), if_neg (by omega), if_neg (by omega), if_neg (by omega), if_neg (by omega)]
                      exact TKp.bad (by omega)
                    · refine Go_aload_n (pc' := 172) dX9_takeFollower_171 rfl rfl rfl ?_
                      refine Go_getIv (v := (iZ (zbr s.2.2.2.1))) (pc' := 175) dX9_takeFollower_172 rfl kf_RX9_65 (by decide) (by decide) rfl (S.b 71 rfl rfl) (S.o 71 rfl rfl rfl) (R.2.2.2.1.2.2.2.2.1) ?_
                      refine Go_if_neY (tgt := 202) (pc' := 178) dX9_takeFollower_175 (by decide) rfl (by first | exact ⟨i_lo _, i_hi _⟩ | omega) (fun c175 => ?_) (fun c175 => ?_)
                      · refine Go_aload_n (pc' := 203) dX9_takeFollower_202 rfl rfl rfl ?_
                        refine Go_iconst (v := iZ 1) (pc' := 204) dX9_takeFollower_203 rfl (by decide) ?_
                        refine Go_callV_v (pc' := 207) (As := [.int _]) (st := []) dX9_takeFollower_204 rfl ok_X9_refuse km_RX9_89 (S.o 71 rfl rfl rfl) (S.b 71 rfl rfl) ⟨_, _, rfl⟩ rfl (Nat.le_of_ble_eq_true rfl) rfl rfl rfl (Nat.le_of_ble_eq_true rfl) (Nat.lt_succ_self _) ?_
                        refine Go_aload_n (pc' := 1) dX9_refuse_0 rfl rfl rfl ?_
                        refine Go_iload_n (pc' := 2) dX9_refuse_1 rfl rfl rfl ?_
                        refine Go_putI (pc' := 5) dX9_refuse_2 rfl kf_RX9_38 (by decide) (by decide) rfl (S.b 71 rfl rfl) (S.o 71 rfl rfl rfl) (Or.inl rfl) rfl rfl ?_
                        refine Go_aload_n (pc' := 6) dX9_refuse_5 rfl rfl rfl ?_
                        refine Go_aload_n (pc' := 7) dX9_refuse_6 rfl rfl rfl ?_
                        refine Go_getIv (v := (iZ pl)) (pc' := 10) dX9_refuse_7 rfl kf_RX9_68 (by decide) (by decide) rfl (S.b 71 rfl rfl) (S.o 71 rfl rfl rfl) ((vi_skip (Or.inr (by decide))).trans (e4)) ?_
                        refine Go_putI (pc' := 13) dX9_refuse_10 rfl kf_RX9_18 (by decide) (by decide) rfl (S.b 71 rfl rfl) (S.o 71 rfl rfl rfl) (Or.inl rfl) rfl rfl ?_
                        refine Go_return dX9_refuse_13 rfl ?_
                        refine ⟨rfl, ?_⟩
                        refine Go_return dX9_takeFollower_207 rfl ?_
                        refine hk _ ?_
                        unfold zfol
                        rw [if_neg (by omega), if_neg (by omega), if_neg (by omega), if_neg (by omega), if_neg (by omega)]
                        exact TKp.bad (by omega)
                      · refine Go_aload_n (pc' := 179) dX9_takeFollower_178 rfl rfl rfl ?_
                        refine Go_iconst (v := iZ 1) (pc' := 180) dX9_takeFollower_179 rfl (by decide) ?_
                        refine Go_callV_v (pc' := 183) (As := [.int _]) (st := []) dX9_takeFollower_180 rfl ok_X9_release km_RX9_123 (S.o 71 rfl rfl rfl) (S.b 71 rfl rfl) ⟨_, _, rfl⟩ rfl (Nat.le_of_ble_eq_true rfl) rfl rfl rfl (Nat.le_of_ble_eq_true rfl) (Nat.lt_succ_self _) ?_
                        refine s_rel (r := 1) S QP hq hr R.2.2.2.2.1 R.2.2.2.1 (by omega) (fun H1 D1 O1 W1 => ?_)
                        refine ⟨rfl, ?_⟩
                        have S1 := D1.shp S
                        have QP1 := D1.qp QP
                        have hr1_ := (D1.2.2.1 71 16).trans hr
                        refine Go_aload_n (pc' := 184) dX9_takeFollower_183 rfl rfl rfl ?_
                        refine Go_getRs (pc' := 187) dX9_takeFollower_184 rfl kf_RX9_29 (by decide) (by decide) rfl (S1.b 71 rfl rfl) (S1.o 71 rfl rfl rfl) hr1_ ?_
                        refine Go_aload_n (pc' := 188) dX9_takeFollower_187 rfl rfl rfl ?_
                        refine Go_getIv (v := (iZ s.2.1)) (pc' := 191) dX9_takeFollower_188 rfl kf_RX9_96 (by decide) (by decide) rfl (S1.b 71 rfl rfl) (S1.o 71 rfl rfl rfl) (((D1.2.2.2 _ _ (by unfold Pr; omega)).trans R.2.1)) ?_
                        refine Go_callV_v (pc' := 194) (As := [.int _]) (st := []) dX9_takeFollower_191 rfl ok_X8_closeLine km_RX9_126 QP1.2.1 QP1.1 ⟨_, _, rfl⟩ rfl (Nat.le_of_ble_eq_true rfl) rfl rfl rfl (Nat.le_of_ble_eq_true rfl) (Nat.lt_succ_self _) ?_
                        refine s_cline (l := (s.2.2.2.2.2 : Int)) QP1 O1 ((D1.2.2.2 _ _ (by unfold Pr; omega)).trans R.2.2.2.2.2) (fun H2 D2 O2 l2 => ?_)
                        refine ⟨rfl, ?_⟩
                        have S2 := D2.shp S1
                        refine Go_aload_n (pc' := 195) dX9_takeFollower_194 rfl rfl rfl ?_
                        refine Go_iconst (v := iZ 0) (pc' := 196) dX9_takeFollower_195 rfl (by decide) ?_
                        refine Go_putI (pc' := 199) dX9_takeFollower_196 rfl kf_RX9_47 (by decide) (by decide) rfl (S2.b 71 rfl rfl) (S2.o 71 rfl rfl rfl) (Or.inl rfl) rfl rfl ?_
                        refine Go_goto (tgt := 207) dX9_takeFollower_199 (by decide) ?_
                        refine Go_return dX9_takeFollower_207 rfl ?_
                        refine hk _ ?_
                        unfold zfol
                        rw [if_neg (by omega), if_neg (by omega), if_neg (by omega), if_neg (by omega), if_pos (by omega)]
                        exact TKp.line R hq D1 W1 D2 O2 l2
                  · refine Go_aload_n (pc' := 151) dX9_takeFollower_150 rfl rfl rfl ?_
                    refine Go_callV_v (pc' := 154) (As := []) (st := []) dX9_takeFollower_151 rfl ok_X9_closeBracket km_RX9_120 (S.o 71 rfl rfl rfl) (S.b 71 rfl rfl) ⟨_, _, rfl⟩ rfl (Nat.le_of_ble_eq_true rfl) rfl rfl rfl (Nat.le_of_ble_eq_true rfl) (Nat.lt_succ_self _) ?_
                    refine s_close S QP hq hr R e3 hc e4 e5 (by omega) (fun H1 T1 => ?_)
                    refine ⟨rfl, ?_⟩
                    refine Go_goto (tgt := 207) dX9_takeFollower_154 (by decide) ?_
                    refine Go_return dX9_takeFollower_207 rfl ?_
                    refine hk _ ?_
                    unfold zfol
                    rw [if_neg (by omega), if_neg (by omega), if_neg (by omega), if_pos (by omega)]
                    exact T1
              · refine Go_aload_n (pc' := 121) dX9_takeFollower_120 rfl rfl rfl ?_
                refine Go_iload_n (pc' := 122) dX9_takeFollower_121 rfl rfl rfl ?_
                refine Go_iconst (v := iZ 2) (pc' := 123) dX9_takeFollower_122 rfl (by decide) ?_
                refine Go_callV_v (pc' := 126) (As := [.int _, .int _]) (st := []) dX9_takeFollower_123 rfl ok_X9_takeJoint km_RX9_116 (S.o 71 rfl rfl rfl) (S.b 71 rfl rfl) ⟨_, _, rfl⟩ rfl (Nat.le_of_ble_eq_true rfl) rfl rfl rfl (Nat.le_of_ble_eq_true rfl) (Nat.lt_succ_self _) ?_
                refine s_joint (r := zrk c) (nx := 2) S QP hq hr R e3 hc e4 e5 (zrk_wt (by omega)).1 (by omega) (fun H1 T1 => ?_)
                refine ⟨rfl, ?_⟩
                refine Go_goto (tgt := 207) dX9_takeFollower_126 (by decide) ?_
                refine Go_return dX9_takeFollower_207 rfl ?_
                refine hk _ ?_
                unfold zfol
                rw [if_neg (by omega), if_neg (by omega), if_pos (by omega)]
                exact T1
          · refine Go_iload_n (pc' := 81) dX9_takeFollower_80 rfl rfl rfl ?_
            refine Go_iconst (v := iZ 4) (pc' := 82) dX9_takeFollower_81 rfl (by decide) ?_
            refine Go_icmp_neY (tgt := 106) (pc' := 85) dX9_takeFollower_82 (by decide) rfl (by first | exact ⟨i_lo _, i_hi _⟩ | omega) (by first | exact ⟨i_lo _, i_hi _⟩ | omega) (fun c82 => ?_) (fun c82 => ?_)
            · refine Go_iload_n (pc' := 107) dX9_takeFollower_106 rfl rfl rfl ?_
              refine Go_if_eqY (tgt := 129) (pc' := 110) dX9_takeFollower_107 (by decide) rfl (by first | exact ⟨i_lo _, i_hi _⟩ | omega) (fun c107 => by exfalso; omega) (fun c107 => ?_)
              refine Go_iload_n (pc' := 111) dX9_takeFollower_110 rfl rfl rfl ?_
              refine Go_iconst (v := iZ 1) (pc' := 112) dX9_takeFollower_111 rfl (by decide) ?_
              refine Go_icmp_eqY (tgt := 120) (pc' := 115) dX9_takeFollower_112 (by decide) rfl (by first | exact ⟨i_lo _, i_hi _⟩ | omega) (by first | exact ⟨i_lo _, i_hi _⟩ | omega) (fun c112 => ?_) (fun c112 => ?_)
              · refine Go_aload_n (pc' := 121) dX9_takeFollower_120 rfl rfl rfl ?_
                refine Go_iload_n (pc' := 122) dX9_takeFollower_121 rfl rfl rfl ?_
                refine Go_iconst (v := iZ 2) (pc' := 123) dX9_takeFollower_122 rfl (by decide) ?_
                refine Go_callV_v (pc' := 126) (As := [.int _, .int _]) (st := []) dX9_takeFollower_123 rfl ok_X9_takeJoint km_RX9_116 (S.o 71 rfl rfl rfl) (S.b 71 rfl rfl) ⟨_, _, rfl⟩ rfl (Nat.le_of_ble_eq_true rfl) rfl rfl rfl (Nat.le_of_ble_eq_true rfl) (Nat.lt_succ_self _) ?_
                refine s_joint (r := zrk c) (nx := 2) S QP hq hr R e3 hc e4 e5 (zrk_wt (by omega)).1 (by omega) (fun H1 T1 => ?_)
                refine ⟨rfl, ?_⟩
                refine Go_goto (tgt := 207) dX9_takeFollower_126 (by decide) ?_
                refine Go_return dX9_takeFollower_207 rfl ?_
                refine hk _ ?_
                unfold zfol
                rw [if_neg (by omega), if_neg (by omega), if_pos (by omega)]
                exact T1
              · refine Go_iload_n (pc' := 116) dX9_takeFollower_115 rfl rfl rfl ?_
                refine Go_iconst (v := iZ 2) (pc' := 117) dX9_takeFollower_116 rfl (by decide) ?_
                refine Go_icmp_neY (tgt := 129) (pc' := 120) dX9_takeFollower_117 (by decide) rfl (by first | exact ⟨i_lo _, i_hi _⟩ | omega) (by first | exact ⟨i_lo _, i_hi _⟩ | omega) (fun c117 => ?_) (fun c117 => ?_)
                · refine Go_iload_n (pc' := 130) dX9_takeFollower_129 rfl rfl rfl ?_
                  refine Go_if_eqY (tgt := 157) (pc' := 133) dX9_takeFollower_130 (by decide) rfl (by first | exact ⟨i_lo _, i_hi _⟩ | omega) (fun c130 => by exfalso; omega) (fun c130 => ?_)
                  refine Go_aload_n (pc' := 134) dX9_takeFollower_133 rfl rfl rfl ?_
                  refine Go_getIv (v := (iZ c)) (pc' := 137) dX9_takeFollower_134 rfl kf_RX9_44 (by decide) (by decide) rfl (S.b 71 rfl rfl) (S.o 71 rfl rfl rfl) (e3) ?_
                  refine Go_sipush (v := iZ 141) (pc' := 140) dX9_takeFollower_137 rfl (by decide) ?_
                  refine Go_icmp_neY (tgt := 157) (pc' := 143) dX9_takeFollower_140 (by decide) rfl (by first | exact ⟨i_lo _, i_hi _⟩ | omega) (by first | exact ⟨i_lo _, i_hi _⟩ | omega) (fun c140 => ?_) (fun c140 => ?_)
                  · refine Go_iload_n (pc' := 158) dX9_takeFollower_157 rfl rfl rfl ?_
                    refine Go_if_eqY (tgt := 202) (pc' := 161) dX9_takeFollower_158 (by decide) rfl (by first | exact ⟨i_lo _, i_hi _⟩ | omega) (fun c158 => by exfalso; omega) (fun c158 => ?_)
                    refine Go_aload_n (pc' := 162) dX9_takeFollower_161 rfl rfl rfl ?_
                    refine Go_getIv (v := (iZ c)) (pc' := 165) dX9_takeFollower_162 rfl kf_RX9_44 (by decide) (by decide) rfl (S.b 71 rfl rfl) (S.o 71 rfl rfl rfl) (e3) ?_
                    refine Go_sipush (v := iZ 159) (pc' := 168) dX9_takeFollower_165 rfl (by decide) ?_
                    refine Go_icmp_neY (tgt := 202) (pc' := 171) dX9_takeFollower_168 (by decide) rfl (by first | exact ⟨i_lo _, i_hi _⟩ | omega) (by first | exact ⟨i_lo _, i_hi _⟩ | omega) (fun c168 => ?_) (fun c168 => ?_)
                    · refine Go_aload_n (pc' := 203) dX9_takeFollower_202 rfl rfl rfl ?_
                      refine Go_iconst (v := iZ 1) (pc' := 204) dX9_takeFollower_203 rfl (by decide) ?_
                      refine Go_callV_v (pc' := 207) (As := [.int _]) (st := []) dX9_takeFollower_204 rfl ok_X9_refuse km_RX9_89 (S.o 71 rfl rfl rfl) (S.b 71 rfl rfl) ⟨_, _, rfl⟩ rfl (Nat.le_of_ble_eq_true rfl) rfl rfl rfl (Nat.le_of_ble_eq_true rfl) (Nat.lt_succ_self _) ?_
                      refine Go_aload_n (pc' := 1) dX9_refuse_0 rfl rfl rfl ?_
                      refine Go_iload_n (pc' := 2) dX9_refuse_1 rfl rfl rfl ?_
                      refine Go_putI (pc' := 5) dX9_refuse_2 rfl kf_RX9_38 (by decide) (by decide) rfl (S.b 71 rfl rfl) (S.o 71 rfl rfl rfl) (Or.inl rfl) rfl rfl ?_
                      refine Go_aload_n (pc' := 6) dX9_refuse_5 rfl rfl rfl ?_
                      refine Go_aload_n (pc' := 7) dX9_refuse_6 rfl rfl rfl ?_
                      refine Go_getIv (v := (iZ pl)) (pc' := 10) dX9_refuse_7 rfl kf_RX9_68 (by decide) (by decide) rfl (S.b 71 rfl rfl) (S.o 71 rfl rfl rfl) ((vi_skip (Or.inr (by decide))).trans (e4)) ?_
                      refine Go_putI (pc' := 13) dX9_refuse_10 rfl kf_RX9_18 (by decide) (by decide) rfl (S.b 71 rfl rfl) (S.o 71 rfl rfl rfl) (Or.inl rfl) rfl rfl ?_
                      refine Go_return dX9_refuse_13 rfl ?_
                      refine ⟨rfl, ?_⟩
                      refine Go_return dX9_takeFollower_207 rfl ?_
                      refine hk _ ?_
                      unfold zfol
                      rw [if_neg (by omega), if_neg (by omega), if_neg (by omega), if_neg (by omega), if_neg (by omega)]
                      exact TKp.bad (by omega)
                    · refine Go_aload_n (pc' := 172) dX9_takeFollower_171 rfl rfl rfl ?_
                      refine Go_getIv (v := (iZ (zbr s.2.2.2.1))) (pc' := 175) dX9_takeFollower_172 rfl kf_RX9_65 (by decide) (by decide) rfl (S.b 71 rfl rfl) (S.o 71 rfl rfl rfl) (R.2.2.2.1.2.2.2.2.1) ?_
                      refine Go_if_neY (tgt := 202) (pc' := 178) dX9_takeFollower_175 (by decide) rfl (by first | exact ⟨i_lo _, i_hi _⟩ | omega) (fun c175 => ?_) (fun c175 => ?_)
                      · refine Go_aload_n (pc' := 203) dX9_takeFollower_202 rfl rfl rfl ?_
                        refine Go_iconst (v := iZ 1) (pc' := 204) dX9_takeFollower_203 rfl (by decide) ?_
                        refine Go_callV_v (pc' := 207) (As := [.int _]) (st := []) dX9_takeFollower_204 rfl ok_X9_refuse km_RX9_89 (S.o 71 rfl rfl rfl) (S.b 71 rfl rfl) ⟨_, _, rfl⟩ rfl (Nat.le_of_ble_eq_true rfl) rfl rfl rfl (Nat.le_of_ble_eq_true rfl) (Nat.lt_succ_self _) ?_
                        refine Go_aload_n (pc' := 1) dX9_refuse_0 rfl rfl rfl ?_
                        refine Go_iload_n (pc' := 2) dX9_refuse_1 rfl rfl rfl ?_
                        refine Go_putI (pc' := 5) dX9_refuse_2 rfl kf_RX9_38 (by decide) (by decide) rfl (S.b 71 rfl rfl) (S.o 71 rfl rfl rfl) (Or.inl rfl) rfl rfl ?_
                        refine Go_aload_n (pc' := 6) dX9_refuse_5 rfl rfl rfl ?_
                        refine Go_aload_n (pc' := 7) dX9_refuse_6 rfl rfl rfl ?_
                        refine Go_getIv (v := (iZ pl)) (pc' := 10) dX9_refuse_7 rfl kf_RX9_68 (by decide) (by decide) rfl (S.b 71 rfl rfl) (S.o 71 rfl rfl rfl) ((vi_skip (Or.inr (by decide))).trans (e4)) ?_
                        refine Go_putI (pc' := 13) dX9_refuse_10 rfl kf_RX9_18 (by decide) (by decide) rfl (S.b 71 rfl rfl) (S.o 71 rfl rfl rfl) (Or.inl rfl) rfl rfl ?_
                        refine Go_return dX9_refuse_13 rfl ?_
                        refine ⟨rfl, ?_⟩
                        refine Go_return dX9_takeFollower_207 rfl ?_
                        refine hk _ ?_
                        unfold zfol
                        rw [if_neg (by omega), if_neg (by omega), if_neg (by omega), if_neg (by omega), if_neg (by omega)]
                        exact TKp.bad (by omega)
                      · refine Go_aload_n (pc' := 179) dX9_takeFollower_178 rfl rfl rfl ?_
                        refine Go_iconst (v := iZ 1) (pc' := 180) dX9_takeFollower_179 rfl (by decide) ?_
                        refine Go_callV_v (pc' := 183) (As := [.int _]) (st := []) dX9_takeFollower_180 rfl ok_X9_release km_RX9_123 (S.o 71 rfl rfl rfl) (S.b 71 rfl rfl) ⟨_, _, rfl⟩ rfl (Nat.le_of_ble_eq_true rfl) rfl rfl rfl (Nat.le_of_ble_eq_true rfl) (Nat.lt_succ_self _) ?_
                        refine s_rel (r := 1) S QP hq hr R.2.2.2.2.1 R.2.2.2.1 (by omega) (fun H1 D1 O1 W1 => ?_)
                        refine ⟨rfl, ?_⟩
                        have S1 := D1.shp S
                        have QP1 := D1.qp QP
                        have hr1_ := (D1.2.2.1 71 16).trans hr
                        refine Go_aload_n (pc' := 184) dX9_takeFollower_183 rfl rfl rfl ?_
                        refine Go_getRs (pc' := 187) dX9_takeFollower_184 rfl kf_RX9_29 (by decide) (by decide) rfl (S1.b 71 rfl rfl) (S1.o 71 rfl rfl rfl) hr1_ ?_
                        refine Go_aload_n (pc' := 188) dX9_takeFollower_187 rfl rfl rfl ?_
                        refine Go_getIv (v := (iZ s.2.1)) (pc' := 191) dX9_takeFollower_188 rfl kf_RX9_96 (by decide) (by decide) rfl (S1.b 71 rfl rfl) (S1.o 71 rfl rfl rfl) (((D1.2.2.2 _ _ (by unfold Pr; omega)).trans R.2.1)) ?_
                        refine Go_callV_v (pc' := 194) (As := [.int _]) (st := []) dX9_takeFollower_191 rfl ok_X8_closeLine km_RX9_126 QP1.2.1 QP1.1 ⟨_, _, rfl⟩ rfl (Nat.le_of_ble_eq_true rfl) rfl rfl rfl (Nat.le_of_ble_eq_true rfl) (Nat.lt_succ_self _) ?_
                        refine s_cline (l := (s.2.2.2.2.2 : Int)) QP1 O1 ((D1.2.2.2 _ _ (by unfold Pr; omega)).trans R.2.2.2.2.2) (fun H2 D2 O2 l2 => ?_)
                        refine ⟨rfl, ?_⟩
                        have S2 := D2.shp S1
                        refine Go_aload_n (pc' := 195) dX9_takeFollower_194 rfl rfl rfl ?_
                        refine Go_iconst (v := iZ 0) (pc' := 196) dX9_takeFollower_195 rfl (by decide) ?_
                        refine Go_putI (pc' := 199) dX9_takeFollower_196 rfl kf_RX9_47 (by decide) (by decide) rfl (S2.b 71 rfl rfl) (S2.o 71 rfl rfl rfl) (Or.inl rfl) rfl rfl ?_
                        refine Go_goto (tgt := 207) dX9_takeFollower_199 (by decide) ?_
                        refine Go_return dX9_takeFollower_207 rfl ?_
                        refine hk _ ?_
                        unfold zfol
                        rw [if_neg (by omega), if_neg (by omega), if_neg (by omega), if_neg (by omega), if_pos (by omega)]
                        exact TKp.line R hq D1 W1 D2 O2 l2
                  · refine Go_aload_n (pc' := 144) dX9_takeFollower_143 rfl rfl rfl ?_
                    refine Go_getIv (v := (iZ (zbr s.2.2.2.1))) (pc' := 147) dX9_takeFollower_144 rfl kf_RX9_65 (by decide) (by decide) rfl (S.b 71 rfl rfl) (S.o 71 rfl rfl rfl) (R.2.2.2.1.2.2.2.2.1) ?_
                    refine Go_if_leY (tgt := 157) (pc' := 150) dX9_takeFollower_147 (by decide) rfl (by first | exact ⟨i_lo _, i_hi _⟩ | omega) (fun c147 => ?_) (fun c147 => ?_)
                    · refine Go_iload_n (pc' := 158) dX9_takeFollower_157 rfl rfl rfl ?_
                      refine Go_if_eqY (tgt := 202) (pc' := 161) dX9_takeFollower_158 (by decide) rfl (by first | exact ⟨i_lo _, i_hi _⟩ | omega) (fun c158 => by exfalso; omega) (fun c158 => ?_)
                      refine Go_aload_n (pc' := 162) dX9_takeFollower_161 rfl rfl rfl ?_
                      refine Go_getIv (v := (iZ c)) (pc' := 165) dX9_takeFollower_162 rfl kf_RX9_44 (by decide) (by decide) rfl (S.b 71 rfl rfl) (S.o 71 rfl rfl rfl) (e3) ?_
                      refine Go_sipush (v := iZ 159) (pc' := 168) dX9_takeFollower_165 rfl (by decide) ?_
                      refine Go_icmp_neY (tgt := 202) (pc' := 171) dX9_takeFollower_168 (by decide) rfl (by first | exact ⟨i_lo _, i_hi _⟩ | omega) (by first | exact ⟨i_lo _, i_hi _⟩ | omega) (fun c168 => ?_) (fun c168 => ?_)
                      · refine Go_aload_n (pc' := 203) dX9_takeFollower_202 rfl rfl rfl ?_
                        refine Go_iconst (v := iZ 1) (pc' := 204) dX9_takeFollower_203 rfl (by decide) ?_
                        refine Go_callV_v (pc' := 207) (As := [.int _]) (st := []) dX9_takeFollower_204 rfl ok_X9_refuse km_RX9_89 (S.o 71 rfl rfl rfl) (S.b 71 rfl rfl) ⟨_, _, rfl⟩ rfl (Nat.le_of_ble_eq_true rfl) rfl rfl rfl (Nat.le_of_ble_eq_true rfl) (Nat.lt_succ_self _) ?_
                        refine Go_aload_n (pc' := 1) dX9_refuse_0 rfl rfl rfl ?_
                        refine Go_iload_n (pc' := 2) dX9_refuse_1 rfl rfl rfl ?_
                        refine Go_putI (pc' := 5) dX9_refuse_2 rfl kf_RX9_38 (by decide) (by decide) rfl (S.b 71 rfl rfl) (S.o 71 rfl rfl rfl) (Or.inl rfl) rfl rfl ?_
                        refine Go_aload_n (pc' := 6) dX9_refuse_5 rfl rfl rfl ?_
                        refine Go_aload_n (pc' := 7) dX9_refuse_6 rfl rfl rfl ?_
                        refine Go_getIv (v := (iZ pl)) (pc' := 10) dX9_refuse_7 rfl kf_RX9_68 (by decide) (by decide) rfl (S.b 71 rfl rfl) (S.o 71 rfl rfl rfl) ((vi_skip (Or.inr (by decide))).trans (e4)) ?_
                        refine Go_putI (pc' := 13) dX9_refuse_10 rfl kf_RX9_18 (by decide) (by decide) rfl (S.b 71 rfl rfl) (S.o 71 rfl rfl rfl) (Or.inl rfl) rfl rfl ?_
                        refine Go_return dX9_refuse_13 rfl ?_
                        refine ⟨rfl, ?_⟩
                        refine Go_return dX9_takeFollower_207 rfl ?_
                        refine hk _ ?_
                        unfold zfol
                        rw [if_neg (by omega), if_neg (by omega), if_neg (by omega), if_neg (by omega), if_neg (by omega)]
                        exact TKp.bad (by omega)
                      · refine Go_aload_n (pc' := 172) dX9_takeFollower_171 rfl rfl rfl ?_
                        refine Go_getIv (v := (iZ (zbr s.2.2.2.1))) (pc' := 175) dX9_takeFollower_172 rfl kf_RX9_65 (by decide) (by decide) rfl (S.b 71 rfl rfl) (S.o 71 rfl rfl rfl) (R.2.2.2.1.2.2.2.2.1) ?_
                        refine Go_if_neY (tgt := 202) (pc' := 178) dX9_takeFollower_175 (by decide) rfl (by first | exact ⟨i_lo _, i_hi _⟩ | omega) (fun c175 => ?_) (fun c175 => ?_)
                        · refine Go_aload_n (pc' := 203) dX9_takeFollower_202 rfl rfl rfl ?_
                          refine Go_iconst (v := iZ 1) (pc' := 204) dX9_takeFollower_203 rfl (by decide) ?_
                          refine Go_callV_v (pc' := 207) (As := [.int _]) (st := []) dX9_takeFollower_204 rfl ok_X9_refuse km_RX9_89 (S.o 71 rfl rfl rfl) (S.b 71 rfl rfl) ⟨_, _, rfl⟩ rfl (Nat.le_of_ble_eq_true rfl) rfl rfl rfl (Nat.le_of_ble_eq_true rfl) (Nat.lt_succ_self _) ?_
                          refine Go_aload_n (pc' := 1) dX9_refuse_0 rfl rfl rfl ?_
                          refine Go_iload_n (pc' := 2) dX9_refuse_1 rfl rfl rfl ?_
                          refine Go_putI (pc' := 5) dX9_refuse_2 rfl kf_RX9_38 (by decide) (by decide) rfl (S.b 71 rfl rfl) (S.o 71 rfl rfl rfl) (Or.inl rfl) rfl rfl ?_
                          refine Go_aload_n (pc' := 6) dX9_refuse_5 rfl rfl rfl ?_
                          refine Go_aload_n (pc' := 7) dX9_refuse_6 rfl rfl rfl ?_
                          refine Go_getIv (v := (iZ pl)) (pc' := 10) dX9_refuse_7 rfl kf_RX9_68 (by decide) (by decide) rfl (S.b 71 rfl rfl) (S.o 71 rfl rfl rfl) ((vi_skip (Or.inr (by decide))).trans (e4)) ?_
                          refine Go_putI (pc' := 13) dX9_refuse_10 rfl kf_RX9_18 (by decide) (by decide) rfl (S.b 71 rfl rfl) (S.o 71 rfl rfl rfl) (Or.inl rfl) rfl rfl ?_
                          refine Go_return dX9_refuse_13 rfl ?_
                          refine ⟨rfl, ?_⟩
                          refine Go_return dX9_takeFollower_207 rfl ?_
                          refine hk _ ?_
                          unfold zfol
                          rw [if_neg (by omega), if_neg (by omega), if_neg (by omega), if_neg (by omega), if_neg (by omega)]
                          exact TKp.bad (by omega)
                        · refine Go_aload_n (pc' := 179) dX9_takeFollower_178 rfl rfl rfl ?_
                          refine Go_iconst (v := iZ 1) (pc' := 180) dX9_takeFollower_179 rfl (by decide) ?_
                          refine Go_callV_v (pc' := 183) (As := [.int _]) (st := []) dX9_takeFollower_180 rfl ok_X9_release km_RX9_123 (S.o 71 rfl rfl rfl) (S.b 71 rfl rfl) ⟨_, _, rfl⟩ rfl (Nat.le_of_ble_eq_true rfl) rfl rfl rfl (Nat.le_of_ble_eq_true rfl) (Nat.lt_succ_self _) ?_
                          refine s_rel (r := 1) S QP hq hr R.2.2.2.2.1 R.2.2.2.1 (by omega) (fun H1 D1 O1 W1 => ?_)
                          refine ⟨rfl, ?_⟩
                          have S1 := D1.shp S
                          have QP1 := D1.qp QP
                          have hr1_ := (D1.2.2.1 71 16).trans hr
                          refine Go_aload_n (pc' := 184) dX9_takeFollower_183 rfl rfl rfl ?_
                          refine Go_getRs (pc' := 187) dX9_takeFollower_184 rfl kf_RX9_29 (by decide) (by decide) rfl (S1.b 71 rfl rfl) (S1.o 71 rfl rfl rfl) hr1_ ?_
                          refine Go_aload_n (pc' := 188) dX9_takeFollower_187 rfl rfl rfl ?_
                          refine Go_getIv (v := (iZ s.2.1)) (pc' := 191) dX9_takeFollower_188 rfl kf_RX9_96 (by decide) (by decide) rfl (S1.b 71 rfl rfl) (S1.o 71 rfl rfl rfl) (((D1.2.2.2 _ _ (by unfold Pr; omega)).trans R.2.1)) ?_
                          refine Go_callV_v (pc' := 194) (As := [.int _]) (st := []) dX9_takeFollower_191 rfl ok_X8_closeLine km_RX9_126 QP1.2.1 QP1.1 ⟨_, _, rfl⟩ rfl (Nat.le_of_ble_eq_true rfl) rfl rfl rfl (Nat.le_of_ble_eq_true rfl) (Nat.lt_succ_self _) ?_
                          refine s_cline (l := (s.2.2.2.2.2 : Int)) QP1 O1 ((D1.2.2.2 _ _ (by unfold Pr; omega)).trans R.2.2.2.2.2) (fun H2 D2 O2 l2 => ?_)
                          refine ⟨rfl, ?_⟩
                          have S2 := D2.shp S1
                          refine Go_aload_n (pc' := 195) dX9_takeFollower_194 rfl rfl rfl ?_
                          refine Go_iconst (v := iZ 0) (pc' := 196) dX9_takeFollower_195 rfl (by decide) ?_
                          refine Go_putI (pc' := 199) dX9_takeFollower_196 rfl kf_RX9_47 (by decide) (by decide) rfl (S2.b 71 rfl rfl) (S2.o 71 rfl rfl rfl) (Or.inl rfl) rfl rfl ?_
                          refine Go_goto (tgt := 207) dX9_takeFollower_199 (by decide) ?_
                          refine Go_return dX9_takeFollower_207 rfl ?_
                          refine hk _ ?_
                          unfold zfol
                          rw [if_neg (by omega), if_neg (by omega), if_neg (by omega), if_neg (by omega), if_pos (by omega)]
                          exact TKp.line R hq D1 W1 D2 O2 l2
                    · refine Go_aload_n (pc' := 151) dX9_takeFollower_150 rfl rfl rfl ?_
                      refine Go_callV_v (pc' := 154) (As := []) (st := []) dX9_takeFollower_151 rfl ok_X9_closeBracket km_RX9_120 (S.o 71 rfl rfl rfl) (S.b 71 rfl rfl) ⟨_, _, rfl⟩ rfl (Nat.le_of_ble_eq_true rfl) rfl rfl rfl (Nat.le_of_ble_eq_true rfl) (Nat.lt_succ_self _) ?_
                      refine s_close S QP hq hr R e3 hc e4 e5 (by omega) (fun H1 T1 => ?_)
                      refine ⟨rfl, ?_⟩
                      refine Go_goto (tgt := 207) dX9_takeFollower_154 (by decide) ?_
                      refine Go_return dX9_takeFollower_207 rfl ?_
                      refine hk _ ?_
                      unfold zfol
                      rw [if_neg (by omega), if_neg (by omega), if_neg (by omega), if_pos (by omega)]
                      exact T1
                · refine Go_aload_n (pc' := 121) dX9_takeFollower_120 rfl rfl rfl ?_
                  refine Go_iload_n (pc' := 122) dX9_takeFollower_121 rfl rfl rfl ?_
                  refine Go_iconst (v := iZ 2) (pc' := 123) dX9_takeFollower_122 rfl (by decide) ?_
                  refine Go_callV_v (pc' := 126) (As := [.int _, .int _]) (st := []) dX9_takeFollower_123 rfl ok_X9_takeJoint km_RX9_116 (S.o 71 rfl rfl rfl) (S.b 71 rfl rfl) ⟨_, _, rfl⟩ rfl (Nat.le_of_ble_eq_true rfl) rfl rfl rfl (Nat.le_of_ble_eq_true rfl) (Nat.lt_succ_self _) ?_
                  refine s_joint (r := zrk c) (nx := 2) S QP hq hr R e3 hc e4 e5 (zrk_wt (by omega)).1 (by omega) (fun H1 T1 => ?_)
                  refine ⟨rfl, ?_⟩
                  refine Go_goto (tgt := 207) dX9_takeFollower_126 (by decide) ?_
                  refine Go_return dX9_takeFollower_207 rfl ?_
                  refine hk _ ?_
                  unfold zfol
                  rw [if_neg (by omega), if_neg (by omega), if_pos (by omega)]
                  exact T1
            · refine Go_aload_n (pc' := 86) dX9_takeFollower_85 rfl rfl rfl ?_
              refine Go_getIv (v := (iZ s.2.2.1)) (pc' := 89) dX9_takeFollower_86 rfl kf_RX9_99 (by decide) (by decide) rfl (S.b 71 rfl rfl) (S.o 71 rfl rfl rfl) (e8) ?_
              refine Go_if_neY (tgt := 106) (pc' := 92) dX9_takeFollower_89 (by decide) rfl (by first | exact ⟨i_lo _, i_hi _⟩ | omega) (fun c89 => ?_) (fun c89 => ?_)
              · refine Go_iload_n (pc' := 107) dX9_takeFollower_106 rfl rfl rfl ?_
                refine Go_if_eqY (tgt := 129) (pc' := 110) dX9_takeFollower_107 (by decide) rfl (by first | exact ⟨i_lo _, i_hi _⟩ | omega) (fun c107 => by exfalso; omega) (fun c107 => ?_)
                refine Go_iload_n (pc' := 111) dX9_takeFollower_110 rfl rfl rfl ?_
                refine Go_iconst (v := iZ 1) (pc' := 112) dX9_takeFollower_111 rfl (by decide) ?_
                refine Go_icmp_eqY (tgt := 120) (pc' := 115) dX9_takeFollower_112 (by decide) rfl (by first | exact ⟨i_lo _, i_hi _⟩ | omega) (by first | exact ⟨i_lo _, i_hi _⟩ | omega) (fun c112 => ?_) (fun c112 => ?_)
                · refine Go_aload_n (pc' := 121) dX9_takeFollower_120 rfl rfl rfl ?_
                  refine Go_iload_n (pc' := 122) dX9_takeFollower_121 rfl rfl rfl ?_
                  refine Go_iconst (v := iZ 2) (pc' := 123) dX9_takeFollower_122 rfl (by decide) ?_
                  refine Go_callV_v (pc' := 126) (As := [.int _, .int _]) (st := []) dX9_takeFollower_123 rfl ok_X9_takeJoint km_RX9_116 (S.o 71 rfl rfl rfl) (S.b 71 rfl rfl) ⟨_, _, rfl⟩ rfl (Nat.le_of_ble_eq_true rfl) rfl rfl rfl (Nat.le_of_ble_eq_true rfl) (Nat.lt_succ_self _) ?_
                  refine s_joint (r := zrk c) (nx := 2) S QP hq hr R e3 hc e4 e5 (zrk_wt (by omega)).1 (by omega) (fun H1 T1 => ?_)
                  refine ⟨rfl, ?_⟩
                  refine Go_goto (tgt := 207) dX9_takeFollower_126 (by decide) ?_
                  refine Go_return dX9_takeFollower_207 rfl ?_
                  refine hk _ ?_
                  unfold zfol
                  rw [if_neg (by omega), if_neg (by omega), if_pos (by omega)]
                  exact T1
                · refine Go_iload_n (pc' := 116) dX9_takeFollower_115 rfl rfl rfl ?_
                  refine Go_iconst (v := iZ 2) (pc' := 117) dX9_takeFollower_116 rfl (by decide) ?_
                  refine Go_icmp_neY (tgt := 129) (pc' := 120) dX9_takeFollower_117 (by decide) rfl (by first | exact ⟨i_lo _, i_hi _⟩ | omega) (by first | exact ⟨i_lo _, i_hi _⟩ | omega) (fun c117 => ?_) (fun c117 => ?_)
                  · refine Go_iload_n (pc' := 130) dX9_takeFollower_129 rfl rfl rfl ?_
                    refine Go_if_eqY (tgt := 157) (pc' := 133) dX9_takeFollower_130 (by decide) rfl (by first | exact ⟨i_lo _, i_hi _⟩ | omega) (fun c130 => by exfalso; omega) (fun c130 => ?_)
                    refine Go_aload_n (pc' := 134) dX9_takeFollower_133 rfl rfl rfl ?_
                    refine Go_getIv (v := (iZ c)) (pc' := 137) dX9_takeFollower_134 rfl kf_RX9_44 (by decide) (by decide) rfl (S.b 71 rfl rfl) (S.o 71 rfl rfl rfl) (e3) ?_
                    refine Go_sipush (v := iZ 141) (pc' := 140) dX9_takeFollower_137 rfl (by decide) ?_
                    refine Go_icmp_neY (tgt := 157) (pc' := 143) dX9_takeFollower_140 (by decide) rfl (by first | exact ⟨i_lo _, i_hi _⟩ | omega) (by first | exact ⟨i_lo _, i_hi _⟩ | omega) (fun c140 => ?_) (fun c140 => ?_)
                    · refine Go_iload_n (pc' := 158) dX9_takeFollower_157 rfl rfl rfl ?_
                      refine Go_if_eqY (tgt := 202) (pc' := 161) dX9_takeFollower_158 (by decide) rfl (by first | exact ⟨i_lo _, i_hi _⟩ | omega) (fun c158 => by exfalso; omega) (fun c158 => ?_)
                      refine Go_aload_n (pc' := 162) dX9_takeFollower_161 rfl rfl rfl ?_
                      refine Go_getIv (v := (iZ c)) (pc' := 165) dX9_takeFollower_162 rfl kf_RX9_44 (by decide) (by decide) rfl (S.b 71 rfl rfl) (S.o 71 rfl rfl rfl) (e3) ?_
                      refine Go_sipush (v := iZ 159) (pc' := 168) dX9_takeFollower_165 rfl (by decide) ?_
                      refine Go_icmp_neY (tgt := 202) (pc' := 171) dX9_takeFollower_168 (by decide) rfl (by first | exact ⟨i_lo _, i_hi _⟩ | omega) (by first | exact ⟨i_lo _, i_hi _⟩ | omega) (fun c168 => ?_) (fun c168 => ?_)
                      · refine Go_aload_n (pc' := 203) dX9_takeFollower_202 rfl rfl rfl ?_
                        refine Go_iconst (v := iZ 1) (pc' := 204) dX9_takeFollower_203 rfl (by decide) ?_
                        refine Go_callV_v (pc' := 207) (As := [.int _]) (st := []) dX9_takeFollower_204 rfl ok_X9_refuse km_RX9_89 (S.o 71 rfl rfl rfl) (S.b 71 rfl rfl) ⟨_, _, rfl⟩ rfl (Nat.le_of_ble_eq_true rfl) rfl rfl rfl (Nat.le_of_ble_eq_true rfl) (Nat.lt_succ_self _) ?_
                        refine Go_aload_n (pc' := 1) dX9_refuse_0 rfl rfl rfl ?_
                        refine Go_iload_n (pc' := 2) dX9_refuse_1 rfl rfl rfl ?_
                        refine Go_putI (pc' := 5) dX9_refuse_2 rfl kf_RX9_38 (by decide) (by decide) rfl (S.b 71 rfl rfl) (S.o 71 rfl rfl rfl) (Or.inl rfl) rfl rfl ?_
                        refine Go_aload_n (pc' := 6) dX9_refuse_5 rfl rfl rfl ?_
                        refine Go_aload_n (pc' := 7) dX9_refuse_6 rfl rfl rfl ?_
                        refine Go_getIv (v := (iZ pl)) (pc' := 10) dX9_refuse_7 rfl kf_RX9_68 (by decide) (by decide) rfl (S.b 71 rfl rfl) (S.o 71 rfl rfl rfl) ((vi_skip (Or.inr (by decide))).trans (e4)) ?_
                        refine Go_putI (pc' := 13) dX9_refuse_10 rfl kf_RX9_18 (by decide) (by decide) rfl (S.b 71 rfl rfl) (S.o 71 rfl rfl rfl) (Or.inl rfl) rfl rfl ?_
                        refine Go_return dX9_refuse_13 rfl ?_
                        refine ⟨rfl, ?_⟩
                        refine Go_return dX9_takeFollower_207 rfl ?_
                        refine hk _ ?_
                        unfold zfol
                        rw [if_neg (by omega), if_neg (by omega), if_neg (by omega), if_neg (by omega), if_neg (by omega)]
                        exact TKp.bad (by omega)
                      · refine Go_aload_n (pc' := 172) dX9_takeFollower_171 rfl rfl rfl ?_
                        refine Go_getIv (v := (iZ (zbr s.2.2.2.1))) (pc' := 175) dX9_takeFollower_172 rfl kf_RX9_65 (by decide) (by decide) rfl (S.b 71 rfl rfl) (S.o 71 rfl rfl rfl) (R.2.2.2.1.2.2.2.2.1) ?_
                        refine Go_if_neY (tgt := 202) (pc' := 178) dX9_takeFollower_175 (by decide) rfl (by first | exact ⟨i_lo _, i_hi _⟩ | omega) (fun c175 => ?_) (fun c175 => ?_)
                        · refine Go_aload_n (pc' := 203) dX9_takeFollower_202 rfl rfl rfl ?_
                          refine Go_iconst (v := iZ 1) (pc' := 204) dX9_takeFollower_203 rfl (by decide) ?_
                          refine Go_callV_v (pc' := 207) (As := [.int _]) (st := []) dX9_takeFollower_204 rfl ok_X9_refuse km_RX9_89 (S.o 71 rfl rfl rfl) (S.b 71 rfl rfl) ⟨_, _, rfl⟩ rfl (Nat.le_of_ble_eq_true rfl) rfl rfl rfl (Nat.le_of_ble_eq_true rfl) (Nat.lt_succ_self _) ?_
                          refine Go_aload_n (pc' := 1) dX9_refuse_0 rfl rfl rfl ?_
                          refine Go_iload_n (pc' := 2) dX9_refuse_1 rfl rfl rfl ?_
                          refine Go_putI (pc' := 5) dX9_refuse_2 rfl kf_RX9_38 (by decide) (by decide) rfl (S.b 71 rfl rfl) (S.o 71 rfl rfl rfl) (Or.inl rfl) rfl rfl ?_
                          refine Go_aload_n (pc' := 6) dX9_refuse_5 rfl rfl rfl ?_
                          refine Go_aload_n (pc' := 7) dX9_refuse_6 rfl rfl rfl ?_
                          refine Go_getIv (v := (iZ pl)) (pc' := 10) dX9_refuse_7 rfl kf_RX9_68 (by decide) (by decide) rfl (S.b 71 rfl rfl) (S.o 71 rfl rfl rfl) ((vi_skip (Or.inr (by decide))).trans (e4)) ?_
                          refine Go_putI (pc' := 13) dX9_refuse_10 rfl kf_RX9_18 (by decide) (by decide) rfl (S.b 71 rfl rfl) (S.o 71 rfl rfl rfl) (Or.inl rfl) rfl rfl ?_
                          refine Go_return dX9_refuse_13 rfl ?_
                          refine ⟨rfl, ?_⟩
                          refine Go_return dX9_takeFollower_207 rfl ?_
                          refine hk _ ?_
                          unfold zfol
                          rw [if_neg (by omega), if_neg (by omega), if_neg (by omega), if_neg (by omega), if_neg (by omega)]
                          exact TKp.bad (by omega)
                        · refine Go_aload_n (pc' := 179) dX9_takeFollower_178 rfl rfl rfl ?_
                          refine Go_iconst (v := iZ 1) (pc' := 180) dX9_takeFollower_179 rfl (by decide) ?_
                          refine Go_callV_v (pc' := 183) (As := [.int _]) (st := []) dX9_takeFollower_180 rfl ok_X9_release km_RX9_123 (S.o 71 rfl rfl rfl) (S.b 71 rfl rfl) ⟨_, _, rfl⟩ rfl (Nat.le_of_ble_eq_true rfl) rfl rfl rfl (Nat.le_of_ble_eq_true rfl) (Nat.lt_succ_self _) ?_
                          refine s_rel (r := 1) S QP hq hr R.2.2.2.2.1 R.2.2.2.1 (by omega) (fun H1 D1 O1 W1 => ?_)
                          refine ⟨rfl, ?_⟩
                          have S1 := D1.shp S
                          have QP1 := D1.qp QP
                          have hr1_ := (D1.2.2.1 71 16).trans hr
                          refine Go_aload_n (pc' := 184) dX9_takeFollower_183 rfl rfl rfl ?_
                          refine Go_getRs (pc' := 187) dX9_takeFollower_184 rfl kf_RX9_29 (by decide) (by decide) rfl (S1.b 71 rfl rfl) (S1.o 71 rfl rfl rfl) hr1_ ?_
                          refine Go_aload_n (pc' := 188) dX9_takeFollower_187 rfl rfl rfl ?_
                          refine Go_getIv (v := (iZ s.2.1)) (pc' := 191) dX9_takeFollower_188 rfl kf_RX9_96 (by decide) (by decide) rfl (S1.b 71 rfl rfl) (S1.o 71 rfl rfl rfl) (((D1.2.2.2 _ _ (by unfold Pr; omega)).trans R.2.1)) ?_
                          refine Go_callV_v (pc' := 194) (As := [.int _]) (st := []) dX9_takeFollower_191 rfl ok_X8_closeLine km_RX9_126 QP1.2.1 QP1.1 ⟨_, _, rfl⟩ rfl (Nat.le_of_ble_eq_true rfl) rfl rfl rfl (Nat.le_of_ble_eq_true rfl) (Nat.lt_succ_self _) ?_
                          refine s_cline (l := (s.2.2.2.2.2 : Int)) QP1 O1 ((D1.2.2.2 _ _ (by unfold Pr; omega)).trans R.2.2.2.2.2) (fun H2 D2 O2 l2 => ?_)
                          refine ⟨rfl, ?_⟩
                          have S2 := D2.shp S1
                          refine Go_aload_n (pc' := 195) dX9_takeFollower_194 rfl rfl rfl ?_
                          refine Go_iconst (v := iZ 0) (pc' := 196) dX9_takeFollower_195 rfl (by decide) ?_
                          refine Go_putI (pc' := 199) dX9_takeFollower_196 rfl kf_RX9_47 (by decide) (by decide) rfl (S2.b 71 rfl rfl) (S2.o 71 rfl rfl rfl) (Or.inl rfl) rfl rfl ?_
                          refine Go_goto (tgt := 207) dX9_takeFollower_199 (by decide) ?_
                          refine Go_return dX9_takeFollower_207 rfl ?_
                          refine hk _ ?_
                          unfold zfol
                          rw [if_neg (by omega), if_neg (by omega), if_neg (by omega), if_neg (by omega), if_pos (by omega)]
                          exact TKp.line R hq D1 W1 D2 O2 l2
                    · refine Go_aload_n (pc' := 144) dX9_takeFollower_143 rfl rfl rfl ?_
                      refine Go_getIv (v := (iZ (zbr s.2.2.2.1))) (pc' := 147) dX9_takeFollower_144 rfl kf_RX9_65 (by decide) (by decide) rfl (S.b 71 rfl rfl) (S.o 71 rfl rfl rfl) (R.2.2.2.1.2.2.2.2.1) ?_
                      refine Go_if_leY (tgt := 157) (pc' := 150) dX9_takeFollower_147 (by decide) rfl (by first | exact ⟨i_lo _, i_hi _⟩ | omega) (fun c147 => ?_) (fun c147 => ?_)
                      · refine Go_iload_n (pc' := 158) dX9_takeFollower_157 rfl rfl rfl ?_
                        refine Go_if_eqY (tgt := 202) (pc' := 161) dX9_takeFollower_158 (by decide) rfl (by first | exact ⟨i_lo _, i_hi _⟩ | omega) (fun c158 => by exfalso; omega) (fun c158 => ?_)
                        refine Go_aload_n (pc' := 162) dX9_takeFollower_161 rfl rfl rfl ?_
                        refine Go_getIv (v := (iZ c)) (pc' := 165) dX9_takeFollower_162 rfl kf_RX9_44 (by decide) (by decide) rfl (S.b 71 rfl rfl) (S.o 71 rfl rfl rfl) (e3) ?_
                        refine Go_sipush (v := iZ 159) (pc' := 168) dX9_takeFollower_165 rfl (by decide) ?_
                        refine Go_icmp_neY (tgt := 202) (pc' := 171) dX9_takeFollower_168 (by decide) rfl (by first | exact ⟨i_lo _, i_hi _⟩ | omega) (by first | exact ⟨i_lo _, i_hi _⟩ | omega) (fun c168 => ?_) (fun c168 => ?_)
                        · refine Go_aload_n (pc' := 203) dX9_takeFollower_202 rfl rfl rfl ?_
                          refine Go_iconst (v := iZ 1) (pc' := 204) dX9_takeFollower_203 rfl (by decide) ?_
                          refine Go_callV_v (pc' := 207) (As := [.int _]) (st := []) dX9_takeFollower_204 rfl ok_X9_refuse km_RX9_89 (S.o 71 rfl rfl rfl) (S.b 71 rfl rfl) ⟨_, _, rfl⟩ rfl (Nat.le_of_ble_eq_true rfl) rfl rfl rfl (Nat.le_of_ble_eq_true rfl) (Nat.lt_succ_self _) ?_
                          refine Go_aload_n (pc' := 1) dX9_refuse_0 rfl rfl rfl ?_
                          refine Go_iload_n (pc' := 2) dX9_refuse_1 rfl rfl rfl ?_
                          refine Go_putI (pc' := 5) dX9_refuse_2 rfl kf_RX9_38 (by decide) (by decide) rfl (S.b 71 rfl rfl) (S.o 71 rfl rfl rfl) (Or.inl rfl) rfl rfl ?_
                          refine Go_aload_n (pc' := 6) dX9_refuse_5 rfl rfl rfl ?_
                          refine Go_aload_n (pc' := 7) dX9_refuse_6 rfl rfl rfl ?_
                          refine Go_getIv (v := (iZ pl)) (pc' := 10) dX9_refuse_7 rfl kf_RX9_68 (by decide) (by decide) rfl (S.b 71 rfl rfl) (S.o 71 rfl rfl rfl) ((vi_skip (Or.inr (by decide))).trans (e4)) ?_
                          refine Go_putI (pc' := 13) dX9_refuse_10 rfl kf_RX9_18 (by decide) (by decide) rfl (S.b 71 rfl rfl) (S.o 71 rfl rfl rfl) (Or.inl rfl) rfl rfl ?_
                          refine Go_return dX9_refuse_13 rfl ?_
                          refine ⟨rfl, ?_⟩
                          refine Go_return dX9_takeFollower_207 rfl ?_
                          refine hk _ ?_
                          unfold zfol
                          rw [if_neg (by omega), if_neg (by omega), if_neg (by omega), if_neg (by omega), if_neg (by omega)]
                          exact TKp.bad (by omega)
                        · refine Go_aload_n (pc' := 172) dX9_takeFollower_171 rfl rfl rfl ?_
                          refine Go_getIv (v := (iZ (zbr s.2.2.2.1))) (pc' := 175) dX9_takeFollower_172 rfl kf_RX9_65 (by decide) (by decide) rfl (S.b 71 rfl rfl) (S.o 71 rfl rfl rfl) (R.2.2.2.1.2.2.2.2.1) ?_
                          refine Go_if_neY (tgt := 202) (pc' := 178) dX9_takeFollower_175 (by decide) rfl (by first | exact ⟨i_lo _, i_hi _⟩ | omega) (fun c175 => ?_) (fun c175 => ?_)
                          · refine Go_aload_n (pc' := 203) dX9_takeFollower_202 rfl rfl rfl ?_
                            refine Go_iconst (v := iZ 1) (pc' := 204) dX9_takeFollower_203 rfl (by decide) ?_
                            refine Go_callV_v (pc' := 207) (As := [.int _]) (st := []) dX9_takeFollower_204 rfl ok_X9_refuse km_RX9_89 (S.o 71 rfl rfl rfl) (S.b 71 rfl rfl) ⟨_, _, rfl⟩ rfl (Nat.le_of_ble_eq_true rfl) rfl rfl rfl (Nat.le_of_ble_eq_true rfl) (Nat.lt_succ_self _) ?_
                            refine Go_aload_n (pc' := 1) dX9_refuse_0 rfl rfl rfl ?_
                            refine Go_iload_n (pc' := 2) dX9_refuse_1 rfl rfl rfl ?_
                            refine Go_putI (pc' := 5) dX9_refuse_2 rfl kf_RX9_38 (by decide) (by decide) rfl (S.b 71 rfl rfl) (S.o 71 rfl rfl rfl) (Or.inl rfl) rfl rfl ?_
                            refine Go_aload_n (pc' := 6) dX9_refuse_5 rfl rfl rfl ?_
                            refine Go_aload_n (pc' := 7) dX9_refuse_6 rfl rfl rfl ?_
                            refine Go_getIv (v := (iZ pl)) (pc' := 10) dX9_refuse_7 rfl kf_RX9_68 (by decide) (by decide) rfl (S.b 71 rfl rfl) (S.o 71 rfl rfl rfl) ((vi_skip (Or.inr (by decide))).trans (e4)) ?_
                            refine Go_putI (pc' := 13) dX9_refuse_10 rfl kf_RX9_18 (by decide) (by decide) rfl (S.b 71 rfl rfl) (S.o 71 rfl rfl rfl) (Or.inl rfl) rfl rfl ?_
                            refine Go_return dX9_refuse_13 rfl ?_
                            refine ⟨rfl, ?_⟩
                            refine Go_return dX9_takeFollower_207 rfl ?_
                            refine hk _ ?_
                            unfold zfol
                            rw [if_neg (by omega), if_neg (by omega), if_neg (by omega), if_neg (by omega), if_neg (by omega)]
                            exact TKp.bad (by omega)
                          · refine Go_aload_n (pc' := 179) dX9_takeFollower_178 rfl rfl rfl ?_
                            refine Go_iconst (v := iZ 1) (pc' := 180) dX9_takeFollower_179 rfl (by decide) ?_
                            refine Go_callV_v (pc' := 183) (As := [.int _]) (st := []) dX9_takeFollower_180 rfl ok_X9_release km_RX9_123 (S.o 71 rfl rfl rfl) (S.b 71 rfl rfl) ⟨_, _, rfl⟩ rfl (Nat.le_of_ble_eq_true rfl) rfl rfl rfl (Nat.le_of_ble_eq_true rfl) (Nat.lt_succ_self _) ?_
                            refine s_rel (r := 1) S QP hq hr R.2.2.2.2.1 R.2.2.2.1 (by omega) (fun H1 D1 O1 W1 => ?_)
                            refine ⟨rfl, ?_⟩
                            have S1 := D1.shp S
                            have QP1 := D1.qp QP
                            have hr1_ := (D1.2.2.1 71 16).trans hr
                            refine Go_aload_n (pc' := 184) dX9_takeFollower_183 rfl rfl rfl ?_
                            refine Go_getRs (pc' := 187) dX9_takeFollower_184 rfl kf_RX9_29 (by decide) (by decide) rfl (S1.b 71 rfl rfl) (S1.o 71 rfl rfl rfl) hr1_ ?_
                            refine Go_aload_n (pc' := 188) dX9_takeFollower_187 rfl rfl rfl ?_
                            refine Go_getIv (v := (iZ s.2.1)) (pc' := 191) dX9_takeFollower_188 rfl kf_RX9_96 (by decide) (by decide) rfl (S1.b 71 rfl rfl) (S1.o 71 rfl rfl rfl) (((D1.2.2.2 _ _ (by unfold Pr; omega)).trans R.2.1)) ?_
                            refine Go_callV_v (pc' := 194) (As := [.int _]) (st := []) dX9_takeFollower_191 rfl ok_X8_closeLine km_RX9_126 QP1.2.1 QP1.1 ⟨_, _, rfl⟩ rfl (Nat.le_of_ble_eq_true rfl) rfl rfl rfl (Nat.le_of_ble_eq_true rfl) (Nat.lt_succ_self _) ?_
                            refine s_cline (l := (s.2.2.2.2.2 : Int)) QP1 O1 ((D1.2.2.2 _ _ (by unfold Pr; omega)).trans R.2.2.2.2.2) (fun H2 D2 O2 l2 => ?_)
                            refine ⟨rfl, ?_⟩
                            have S2 := D2.shp S1
                            refine Go_aload_n (pc' := 195) dX9_takeFollower_194 rfl rfl rfl ?_
                            refine Go_iconst (v := iZ 0) (pc' := 196) dX9_takeFollower_195 rfl (by decide) ?_
                            refine Go_putI (pc' := 199) dX9_takeFollower_196 rfl kf_RX9_47 (by decide) (by decide) rfl (S2.b 71 rfl rfl) (S2.o 71 rfl rfl rfl) (Or.inl rfl) rfl rfl ?_
                            refine Go_goto (tgt := 207) dX9_takeFollower_199 (by decide) ?_
                            refine Go_return dX9_takeFollower_207 rfl ?_
                            refine hk _ ?_
                            unfold zfol
                            rw [if_neg (by omega), if_neg (by omega), if_neg (by omega), if_neg (by omega), if_pos (by omega)]
                            exact TKp.line R hq D1 W1 D2 O2 l2
                      · refine Go_aload_n (pc' := 151) dX9_takeFollower_150 rfl rfl rfl ?_
                        refine Go_callV_v (pc' := 154) (As := []) (st := []) dX9_takeFollower_151 rfl ok_X9_closeBracket km_RX9_120 (S.o 71 rfl rfl rfl) (S.b 71 rfl rfl) ⟨_, _, rfl⟩ rfl (Nat.le_of_ble_eq_true rfl) rfl rfl rfl (Nat.le_of_ble_eq_true rfl) (Nat.lt_succ_self _) ?_
                        refine s_close S QP hq hr R e3 hc e4 e5 (by omega) (fun H1 T1 => ?_)
                        refine ⟨rfl, ?_⟩
                        refine Go_goto (tgt := 207) dX9_takeFollower_154 (by decide) ?_
                        refine Go_return dX9_takeFollower_207 rfl ?_
                        refine hk _ ?_
                        unfold zfol
                        rw [if_neg (by omega), if_neg (by omega), if_neg (by omega), if_pos (by omega)]
                        exact T1
                  · refine Go_aload_n (pc' := 121) dX9_takeFollower_120 rfl rfl rfl ?_
                    refine Go_iload_n (pc' := 122) dX9_takeFollower_121 rfl rfl rfl ?_
                    refine Go_iconst (v := iZ 2) (pc' := 123) dX9_takeFollower_122 rfl (by decide) ?_
                    refine Go_callV_v (pc' := 126) (As := [.int _, .int _]) (st := []) dX9_takeFollower_123 rfl ok_X9_takeJoint km_RX9_116 (S.o 71 rfl rfl rfl) (S.b 71 rfl rfl) ⟨_, _, rfl⟩ rfl (Nat.le_of_ble_eq_true rfl) rfl rfl rfl (Nat.le_of_ble_eq_true rfl) (Nat.lt_succ_self _) ?_
                    refine s_joint (r := zrk c) (nx := 2) S QP hq hr R e3 hc e4 e5 (zrk_wt (by omega)).1 (by omega) (fun H1 T1 => ?_)
                    refine ⟨rfl, ?_⟩
                    refine Go_goto (tgt := 207) dX9_takeFollower_126 (by decide) ?_
                    refine Go_return dX9_takeFollower_207 rfl ?_
                    refine hk _ ?_
                    unfold zfol
                    rw [if_neg (by omega), if_neg (by omega), if_pos (by omega)]
                    exact T1
              · refine Go_aload_n (pc' := 93) dX9_takeFollower_92 rfl rfl rfl ?_
                refine Go_iconst (v := iZ 1) (pc' := 94) dX9_takeFollower_93 rfl (by decide) ?_
                refine Go_putI (pc' := 97) dX9_takeFollower_94 rfl kf_RX9_99 (by decide) (by decide) rfl (S.b 71 rfl rfl) (S.o 71 rfl rfl rfl) (Or.inl rfl) rfl rfl ?_
                refine Go_aload_n (pc' := 98) dX9_takeFollower_97 rfl rfl rfl ?_
                refine Go_iload_n (pc' := 99) dX9_takeFollower_98 rfl rfl rfl ?_
                refine Go_iconst (v := iZ 3) (pc' := 100) dX9_takeFollower_99 rfl (by decide) ?_
                refine Go_callV_v (pc' := 103) (As := [.int _, .int _]) (st := []) dX9_takeFollower_100 rfl ok_X9_takeJoint km_RX9_116 (S.o 71 rfl rfl rfl) (S.b 71 rfl rfl) ⟨_, _, rfl⟩ rfl (Nat.le_of_ble_eq_true rfl) rfl rfl rfl (Nat.le_of_ble_eq_true rfl) (Nat.lt_succ_self _) ?_
                refine s_joint (r := zrk c) (nx := 3) (s := (s.1, s.2.1, 1, s.2.2.2.1, s.2.2.2.2.1, s.2.2.2.2.2)) S QP hq hr (RS6.w8 1 (by omega) R hq) ((vi_skip (by decide)).trans e3) hc ((vi_skip (by decide)).trans e4) (fun z => (vi_skip (by decide)).trans (e5 z)) (zrk_wt (by omega)).1 (by omega) (fun H1 T1 => ?_)
                refine ⟨rfl, ?_⟩
                refine Go_goto (tgt := 207) dX9_takeFollower_103 (by decide) ?_
                refine Go_return dX9_takeFollower_207 rfl ?_
                refine hk _ ?_
                unfold zfol
                rw [if_neg (by omega), if_pos (by omega)]
                exact T1.pre (DX.wI (DX.rf (fun i k => i = 71 ∧ k = 8) H) (by omega)) (fun i k z => by unfold Pk; omega)
        · refine Go_aload_n (pc' := 50) dX9_takeFollower_49 rfl rfl rfl ?_
          refine Go_iload_n (pc' := 51) dX9_takeFollower_50 rfl rfl rfl ?_
          refine Go_aload_n (pc' := 52) dX9_takeFollower_51 rfl rfl rfl ?_
          refine Go_getIv (v := (iZ c)) (pc' := 55) dX9_takeFollower_52 rfl kf_RX9_44 (by decide) (by decide) rfl (S.b 71 rfl rfl) (S.o 71 rfl rfl rfl) (e3) ?_
          refine Go_sipush (v := iZ 147) (pc' := 58) dX9_takeFollower_55 rfl (by decide) ?_
          refine Go_icmp_neY (tgt := 65) (pc' := 61) dX9_takeFollower_58 (by decide) rfl (by first | exact ⟨i_lo _, i_hi _⟩ | omega) (by first | exact ⟨i_lo _, i_hi _⟩ | omega) (fun c58 => ?_) (fun c58 => ?_)
          · refine Go_iconst (v := iZ 3) (pc' := 66) dX9_takeFollower_65 rfl (by decide) ?_
            refine Go_callV_v (pc' := 69) (As := [.int _, .int _]) (st := []) dX9_takeFollower_66 rfl ok_X9_takeJoint km_RX9_116 (S.o 71 rfl rfl rfl) (S.b 71 rfl rfl) ⟨_, _, rfl⟩ rfl (Nat.le_of_ble_eq_true rfl) rfl rfl rfl (Nat.le_of_ble_eq_true rfl) (Nat.lt_succ_self _) ?_
            refine s_joint (r := zrk c) (nx := 3) S QP hq hr R e3 hc e4 e5 (zrk_wt (by omega)).1 (by omega) (fun H1 T1 => ?_)
            refine ⟨rfl, ?_⟩
            refine Go_goto (tgt := 207) dX9_takeFollower_69 (by decide) ?_
            refine Go_return dX9_takeFollower_207 rfl ?_
            refine hk _ ?_
            unfold zfol
            rw [if_pos (by omega)]
            rw [if_neg (by omega)]
            exact T1
          · refine Go_iconst (v := iZ 4) (pc' := 62) dX9_takeFollower_61 rfl (by decide) ?_
            refine Go_goto (tgt := 66) dX9_takeFollower_62 (by decide) ?_
            refine Go_callV_v (pc' := 69) (As := [.int _, .int _]) (st := []) dX9_takeFollower_66 rfl ok_X9_takeJoint km_RX9_116 (S.o 71 rfl rfl rfl) (S.b 71 rfl rfl) ⟨_, _, rfl⟩ rfl (Nat.le_of_ble_eq_true rfl) rfl rfl rfl (Nat.le_of_ble_eq_true rfl) (Nat.lt_succ_self _) ?_
            refine s_joint (r := zrk c) (nx := 4) S QP hq hr R e3 hc e4 e5 (zrk_wt (by omega)).1 (by omega) (fun H1 T1 => ?_)
            refine ⟨rfl, ?_⟩
            refine Go_goto (tgt := 207) dX9_takeFollower_69 (by decide) ?_
            refine Go_return dX9_takeFollower_207 rfl ?_
            refine hk _ ?_
            unfold zfol
            rw [if_pos (by omega)]
            rw [if_pos (by omega)]
            exact T1
  · refine Go_aload_n (pc' := 18) dX9_takeFollower_17 rfl rfl rfl ?_
    refine Go_getIv (v := (iZ s.2.2.1)) (pc' := 21) dX9_takeFollower_18 rfl kf_RX9_99 (by decide) (by decide) rfl (S.b 71 rfl rfl) (S.o 71 rfl rfl rfl) (e8) ?_
    refine Go_if_eqY (tgt := 28) (pc' := 24) dX9_takeFollower_21 (by decide) rfl (by first | exact ⟨i_lo _, i_hi _⟩ | omega) (fun c21 => ?_) (fun c21 => ?_)
    · refine Go_iconst (v := iZ 0) (pc' := 29) dX9_takeFollower_28 rfl (by decide) ?_
      refine Go_istore_n (pc' := 30) (lv' := [.ref _, .int _, .int _]) dX9_takeFollower_29 rfl rfl (Nat.le_of_ble_eq_true rfl) rfl rfl ?_
      refine Go_aload_n (pc' := 31) dX9_takeFollower_30 rfl rfl rfl ?_
      refine Go_getIv (v := (iZ s.1)) (pc' := 34) dX9_takeFollower_31 rfl kf_RX9_47 (by decide) (by decide) rfl (S.b 71 rfl rfl) (S.o 71 rfl rfl rfl) (R.1) ?_
      refine Go_iconst (v := iZ 5) (pc' := 35) dX9_takeFollower_34 rfl (by decide) ?_
      refine Go_icmp_neY (tgt := 72) (pc' := 38) dX9_takeFollower_35 (by decide) rfl (by first | exact ⟨i_lo _, i_hi _⟩ | omega) (by first | exact ⟨i_lo _, i_hi _⟩ | omega) (fun c35 => ?_) (fun c35 => ?_)
      · refine Go_aload_n (pc' := 73) dX9_takeFollower_72 rfl rfl rfl ?_
        refine Go_getIv (v := (iZ s.1)) (pc' := 76) dX9_takeFollower_73 rfl kf_RX9_47 (by decide) (by decide) rfl (S.b 71 rfl rfl) (S.o 71 rfl rfl rfl) (R.1) ?_
        refine Go_iconst (v := iZ 5) (pc' := 77) dX9_takeFollower_76 rfl (by decide) ?_
        refine Go_icmp_neY (tgt := 106) (pc' := 80) dX9_takeFollower_77 (by decide) rfl (by first | exact ⟨i_lo _, i_hi _⟩ | omega) (by first | exact ⟨i_lo _, i_hi _⟩ | omega) (fun c77 => ?_) (fun c77 => ?_)
        · refine Go_iload_n (pc' := 107) dX9_takeFollower_106 rfl rfl rfl ?_
          refine Go_if_eqY (tgt := 129) (pc' := 110) dX9_takeFollower_107 (by decide) rfl (by first | exact ⟨i_lo _, i_hi _⟩ | omega) (fun c107 => ?_) (fun c107 => by exfalso; omega)
          refine Go_iload_n (pc' := 130) dX9_takeFollower_129 rfl rfl rfl ?_
          refine Go_if_eqY (tgt := 157) (pc' := 133) dX9_takeFollower_130 (by decide) rfl (by first | exact ⟨i_lo _, i_hi _⟩ | omega) (fun c130 => ?_) (fun c130 => by exfalso; omega)
          refine Go_iload_n (pc' := 158) dX9_takeFollower_157 rfl rfl rfl ?_
          refine Go_if_eqY (tgt := 202) (pc' := 161) dX9_takeFollower_158 (by decide) rfl (by first | exact ⟨i_lo _, i_hi _⟩ | omega) (fun c158 => ?_) (fun c158 => by exfalso; omega)
          refine Go_aload_n (pc' := 203) dX9_takeFollower_202 rfl rfl rfl ?_
          refine Go_iconst (v := iZ 1) (pc' := 204) dX9_takeFollower_203 rfl (by decide) ?_
          refine Go_callV_v (pc' := 207) (As := [.int _]) (st := []) dX9_takeFollower_204 rfl ok_X9_refuse km_RX9_89 (S.o 71 rfl rfl rfl) (S.b 71 rfl rfl) ⟨_, _, rfl⟩ rfl (Nat.le_of_ble_eq_true rfl) rfl rfl rfl (Nat.le_of_ble_eq_true rfl) (Nat.lt_succ_self _) ?_
          refine Go_aload_n (pc' := 1) dX9_refuse_0 rfl rfl rfl ?_
          refine Go_iload_n (pc' := 2) dX9_refuse_1 rfl rfl rfl ?_
          refine Go_putI (pc' := 5) dX9_refuse_2 rfl kf_RX9_38 (by decide) (by decide) rfl (S.b 71 rfl rfl) (S.o 71 rfl rfl rfl) (Or.inl rfl) rfl rfl ?_
          refine Go_aload_n (pc' := 6) dX9_refuse_5 rfl rfl rfl ?_
          refine Go_aload_n (pc' := 7) dX9_refuse_6 rfl rfl rfl ?_
          refine Go_getIv (v := (iZ pl)) (pc' := 10) dX9_refuse_7 rfl kf_RX9_68 (by decide) (by decide) rfl (S.b 71 rfl rfl) (S.o 71 rfl rfl rfl) ((vi_skip (Or.inr (by decide))).trans (e4)) ?_
          refine Go_putI (pc' := 13) dX9_refuse_10 rfl kf_RX9_18 (by decide) (by decide) rfl (S.b 71 rfl rfl) (S.o 71 rfl rfl rfl) (Or.inl rfl) rfl rfl ?_
          refine Go_return dX9_refuse_13 rfl ?_
          refine ⟨rfl, ?_⟩
          refine Go_return dX9_takeFollower_207 rfl ?_
          refine hk _ ?_
          unfold zfol
          rw [if_neg (by omega), if_neg (by omega), if_neg (by omega), if_neg (by omega), if_neg (by omega)]
          exact TKp.bad (by omega)
        · refine Go_iload_n (pc' := 81) dX9_takeFollower_80 rfl rfl rfl ?_
          refine Go_iconst (v := iZ 4) (pc' := 82) dX9_takeFollower_81 rfl (by decide) ?_
          refine Go_icmp_neY (tgt := 106) (pc' := 85) dX9_takeFollower_82 (by decide) rfl (by first | exact ⟨i_lo _, i_hi _⟩ | omega) (by first | exact ⟨i_lo _, i_hi _⟩ | omega) (fun c82 => ?_) (fun c82 => ?_)
          · refine Go_iload_n (pc' := 107) dX9_takeFollower_106 rfl rfl rfl ?_
            refine Go_if_eqY (tgt := 129) (pc' := 110) dX9_takeFollower_107 (by decide) rfl (by first | exact ⟨i_lo _, i_hi _⟩ | omega) (fun c107 => ?_) (fun c107 => by exfalso; omega)
            refine Go_iload_n (pc' := 130) dX9_takeFollower_129 rfl rfl rfl ?_
            refine Go_if_eqY (tgt := 157) (pc' := 133) dX9_takeFollower_130 (by decide) rfl (by first | exact ⟨i_lo _, i_hi _⟩ | omega) (fun c130 => ?_) (fun c130 => by exfalso; omega)
            refine Go_iload_n (pc' := 158) dX9_takeFollower_157 rfl rfl rfl ?_
            refine Go_if_eqY (tgt := 202) (pc' := 161) dX9_takeFollower_158 (by decide) rfl (by first | exact ⟨i_lo _, i_hi _⟩ | omega) (fun c158 => ?_) (fun c158 => by exfalso; omega)
            refine Go_aload_n (pc' := 203) dX9_takeFollower_202 rfl rfl rfl ?_
            refine Go_iconst (v := iZ 1) (pc' := 204) dX9_takeFollower_203 rfl (by decide) ?_
            refine Go_callV_v (pc' := 207) (As := [.int _]) (st := []) dX9_takeFollower_204 rfl ok_X9_refuse km_RX9_89 (S.o 71 rfl rfl rfl) (S.b 71 rfl rfl) ⟨_, _, rfl⟩ rfl (Nat.le_of_ble_eq_true rfl) rfl rfl rfl (Nat.le_of_ble_eq_true rfl) (Nat.lt_succ_self _) ?_
            refine Go_aload_n (pc' := 1) dX9_refuse_0 rfl rfl rfl ?_
            refine Go_iload_n (pc' := 2) dX9_refuse_1 rfl rfl rfl ?_
            refine Go_putI (pc' := 5) dX9_refuse_2 rfl kf_RX9_38 (by decide) (by decide) rfl (S.b 71 rfl rfl) (S.o 71 rfl rfl rfl) (Or.inl rfl) rfl rfl ?_
            refine Go_aload_n (pc' := 6) dX9_refuse_5 rfl rfl rfl ?_
            refine Go_aload_n (pc' := 7) dX9_refuse_6 rfl rfl rfl ?_
            refine Go_getIv (v := (iZ pl)) (pc' := 10) dX9_refuse_7 rfl kf_RX9_68 (by decide) (by decide) rfl (S.b 71 rfl rfl) (S.o 71 rfl rfl rfl) ((vi_skip (Or.inr (by decide))).trans (e4)) ?_
            refine Go_putI (pc' := 13) dX9_refuse_10 rfl kf_RX9_18 (by decide) (by decide) rfl (S.b 71 rfl rfl) (S.o 71 rfl rfl rfl) (Or.inl rfl) rfl rfl ?_
            refine Go_return dX9_refuse_13 rfl ?_
            refine ⟨rfl, ?_⟩
            refine Go_return dX9_takeFollower_207 rfl ?_
            refine hk _ ?_
            unfold zfol
            rw [if_neg (by omega), if_neg (by omega), if_neg (by omega), if_neg (by omega), if_neg (by omega)]
            exact TKp.bad (by omega)
          · refine Go_aload_n (pc' := 86) dX9_takeFollower_85 rfl rfl rfl ?_
            refine Go_getIv (v := (iZ s.2.2.1)) (pc' := 89) dX9_takeFollower_86 rfl kf_RX9_99 (by decide) (by decide) rfl (S.b 71 rfl rfl) (S.o 71 rfl rfl rfl) (e8) ?_
            refine Go_if_neY (tgt := 106) (pc' := 92) dX9_takeFollower_89 (by decide) rfl (by first | exact ⟨i_lo _, i_hi _⟩ | omega) (fun c89 => ?_) (fun c89 => ?_)
            · refine Go_iload_n (pc' := 107) dX9_takeFollower_106 rfl rfl rfl ?_
              refine Go_if_eqY (tgt := 129) (pc' := 110) dX9_takeFollower_107 (by decide) rfl (by first | exact ⟨i_lo _, i_hi _⟩ | omega) (fun c107 => ?_) (fun c107 => by exfalso; omega)
              refine Go_iload_n (pc' := 130) dX9_takeFollower_129 rfl rfl rfl ?_
              refine Go_if_eqY (tgt := 157) (pc' := 133) dX9_takeFollower_130 (by decide) rfl (by first | exact ⟨i_lo _, i_hi _⟩ | omega) (fun c130 => ?_) (fun c130 => by exfalso; omega)
              refine Go_iload_n (pc' := 158) dX9_takeFollower_157 rfl rfl rfl ?_
              refine Go_if_eqY (tgt := 202) (pc' := 161) dX9_takeFollower_158 (by decide) rfl (by first | exact ⟨i_lo _, i_hi _⟩ | omega) (fun c158 => ?_) (fun c158 => by exfalso; omega)
              refine Go_aload_n (pc' := 203) dX9_takeFollower_202 rfl rfl rfl ?_
              refine Go_iconst (v := iZ 1) (pc' := 204) dX9_takeFollower_203 rfl (by decide) ?_
              refine Go_callV_v (pc' := 207) (As := [.int _]) (st := []) dX9_takeFollower_204 rfl ok_X9_refuse km_RX9_89 (S.o 71 rfl rfl rfl) (S.b 71 rfl rfl) ⟨_, _, rfl⟩ rfl (Nat.le_of_ble_eq_true rfl) rfl rfl rfl (Nat.le_of_ble_eq_true rfl) (Nat.lt_succ_self _) ?_
              refine Go_aload_n (pc' := 1) dX9_refuse_0 rfl rfl rfl ?_
              refine Go_iload_n (pc' := 2) dX9_refuse_1 rfl rfl rfl ?_
              refine Go_putI (pc' := 5) dX9_refuse_2 rfl kf_RX9_38 (by decide) (by decide) rfl (S.b 71 rfl rfl) (S.o 71 rfl rfl rfl) (Or.inl rfl) rfl rfl ?_
              refine Go_aload_n (pc' := 6) dX9_refuse_5 rfl rfl rfl ?_
              refine Go_aload_n (pc' := 7) dX9_refuse_6 rfl rfl rfl ?_
              refine Go_getIv (v := (iZ pl)) (pc' := 10) dX9_refuse_7 rfl kf_RX9_68 (by decide) (by decide) rfl (S.b 71 rfl rfl) (S.o 71 rfl rfl rfl) ((vi_skip (Or.inr (by decide))).trans (e4)) ?_
              refine Go_putI (pc' := 13) dX9_refuse_10 rfl kf_RX9_18 (by decide) (by decide) rfl (S.b 71 rfl rfl) (S.o 71 rfl rfl rfl) (Or.inl rfl) rfl rfl ?_
              refine Go_return dX9_refuse_13 rfl ?_
              refine ⟨rfl, ?_⟩
              refine Go_return dX9_takeFollower_207 rfl ?_
              refine hk _ ?_
              unfold zfol
              rw [if_neg (by omega), if_neg (by omega), if_neg (by omega), if_neg (by omega), if_neg (by omega)]
              exact TKp.bad (by omega)
            · refine Go_aload_n (pc' := 93) dX9_takeFollower_92 rfl rfl rfl ?_
              refine Go_iconst (v := iZ 1) (pc' := 94) dX9_takeFollower_93 rfl (by decide) ?_
              refine Go_putI (pc' := 97) dX9_takeFollower_94 rfl kf_RX9_99 (by decide) (by decide) rfl (S.b 71 rfl rfl) (S.o 71 rfl rfl rfl) (Or.inl rfl) rfl rfl ?_
              refine Go_aload_n (pc' := 98) dX9_takeFollower_97 rfl rfl rfl ?_
              refine Go_iload_n (pc' := 99) dX9_takeFollower_98 rfl rfl rfl ?_
              refine Go_iconst (v := iZ 3) (pc' := 100) dX9_takeFollower_99 rfl (by decide) ?_
              refine Go_callV_v (pc' := 103) (As := [.int _, .int _]) (st := []) dX9_takeFollower_100 rfl ok_X9_takeJoint km_RX9_116 (S.o 71 rfl rfl rfl) (S.b 71 rfl rfl) ⟨_, _, rfl⟩ rfl (Nat.le_of_ble_eq_true rfl) rfl rfl rfl (Nat.le_of_ble_eq_true rfl) (Nat.lt_succ_self _) ?_
              refine s_joint (r := zrk c) (nx := 3) (s := (s.1, s.2.1, 1, s.2.2.2.1, s.2.2.2.2.1, s.2.2.2.2.2)) S QP hq hr (RS6.w8 1 (by omega) R hq) ((vi_skip (by decide)).trans e3) hc ((vi_skip (by decide)).trans e4) (fun z => (vi_skip (by decide)).trans (e5 z)) (zrk_wt (by omega)).1 (by omega) (fun H1 T1 => ?_)
              refine ⟨rfl, ?_⟩
              refine Go_goto (tgt := 207) dX9_takeFollower_103 (by decide) ?_
              refine Go_return dX9_takeFollower_207 rfl ?_
              refine hk _ ?_
              unfold zfol
              rw [if_neg (by omega), if_pos (by omega)]
              exact T1.pre (DX.wI (DX.rf (fun i k => i = 71 ∧ k = 8) H) (by omega)) (fun i k z => by unfold Pk; omega)
      · refine Go_iload_n (pc' := 39) dX9_takeFollower_38 rfl rfl rfl ?_
        refine Go_iconst (v := iZ 5) (pc' := 40) dX9_takeFollower_39 rfl (by decide) ?_
        refine Go_icmp_eqY (tgt := 49) (pc' := 43) dX9_takeFollower_40 (by decide) rfl (by first | exact ⟨i_lo _, i_hi _⟩ | omega) (by first | exact ⟨i_lo _, i_hi _⟩ | omega) (fun c40 => ?_) (fun c40 => ?_)
        · refine Go_aload_n (pc' := 50) dX9_takeFollower_49 rfl rfl rfl ?_
          refine Go_iload_n (pc' := 51) dX9_takeFollower_50 rfl rfl rfl ?_
          refine Go_aload_n (pc' := 52) dX9_takeFollower_51 rfl rfl rfl ?_
          refine Go_getIv (v := (iZ c)) (pc' := 55) dX9_takeFollower_52 rfl kf_RX9_44 (by decide) (by decide) rfl (S.b 71 rfl rfl) (S.o 71 rfl rfl rfl) (e3) ?_
          refine Go_sipush (v := iZ 147) (pc' := 58) dX9_takeFollower_55 rfl (by decide) ?_
          refine Go_icmp_neY (tgt := 65) (pc' := 61) dX9_takeFollower_58 (by decide) rfl (by first | exact ⟨i_lo _, i_hi _⟩ | omega) (by first | exact ⟨i_lo _, i_hi _⟩ | omega) (fun c58 => ?_) (fun c58 => ?_)
          · refine Go_iconst (v := iZ 3) (pc' := 66) dX9_takeFollower_65 rfl (by decide) ?_
            refine Go_callV_v (pc' := 69) (As := [.int _, .int _]) (st := []) dX9_takeFollower_66 rfl ok_X9_takeJoint km_RX9_116 (S.o 71 rfl rfl rfl) (S.b 71 rfl rfl) ⟨_, _, rfl⟩ rfl (Nat.le_of_ble_eq_true rfl) rfl rfl rfl (Nat.le_of_ble_eq_true rfl) (Nat.lt_succ_self _) ?_
            refine s_joint (r := zrk c) (nx := 3) S QP hq hr R e3 hc e4 e5 (zrk_wt (by omega)).1 (by omega) (fun H1 T1 => ?_)
            refine ⟨rfl, ?_⟩
            refine Go_goto (tgt := 207) dX9_takeFollower_69 (by decide) ?_
            refine Go_return dX9_takeFollower_207 rfl ?_
            refine hk _ ?_
            unfold zfol
            rw [if_pos (by omega)]
            rw [if_neg (by omega)]
            exact T1
          · refine Go_iconst (v := iZ 4) (pc' := 62) dX9_takeFollower_61 rfl (by decide) ?_
            refine Go_goto (tgt := 66) dX9_takeFollower_62 (by decide) ?_
            refine Go_callV_v (pc' := 69) (As := [.int _, .int _]) (st := []) dX9_takeFollower_66 rfl ok_X9_takeJoint km_RX9_116 (S.o 71 rfl rfl rfl) (S.b 71 rfl rfl) ⟨_, _, rfl⟩ rfl (Nat.le_of_ble_eq_true rfl) rfl rfl rfl (Nat.le_of_ble_eq_true rfl) (Nat.lt_succ_self _) ?_
            refine s_joint (r := zrk c) (nx := 4) S QP hq hr R e3 hc e4 e5 (zrk_wt (by omega)).1 (by omega) (fun H1 T1 => ?_)
            refine ⟨rfl, ?_⟩
            refine Go_goto (tgt := 207) dX9_takeFollower_69 (by decide) ?_
            refine Go_return dX9_takeFollower_207 rfl ?_
            refine hk _ ?_
            unfold zfol
            rw [if_pos (by omega)]
            rw [if_pos (by omega)]
            exact T1
        · refine Go_iload_n (pc' := 44) dX9_takeFollower_43 rfl rfl rfl ?_
          refine Go_bipush (v := iZ 6) (pc' := 46) dX9_takeFollower_44 rfl (by decide) ?_
          refine Go_icmp_neY (tgt := 72) (pc' := 49) dX9_takeFollower_46 (by decide) rfl (by first | exact ⟨i_lo _, i_hi _⟩ | omega) (by first | exact ⟨i_lo _, i_hi _⟩ | omega) (fun c46 => ?_) (fun c46 => ?_)
          · refine Go_aload_n (pc' := 73) dX9_takeFollower_72 rfl rfl rfl ?_
            refine Go_getIv (v := (iZ s.1)) (pc' := 76) dX9_takeFollower_73 rfl kf_RX9_47 (by decide) (by decide) rfl (S.b 71 rfl rfl) (S.o 71 rfl rfl rfl) (R.1) ?_
            refine Go_iconst (v := iZ 5) (pc' := 77) dX9_takeFollower_76 rfl (by decide) ?_
            refine Go_icmp_neY (tgt := 106) (pc' := 80) dX9_takeFollower_77 (by decide) rfl (by first | exact ⟨i_lo _, i_hi _⟩ | omega) (by first | exact ⟨i_lo _, i_hi _⟩ | omega) (fun c77 => ?_) (fun c77 => ?_)
            · refine Go_iload_n (pc' := 107) dX9_takeFollower_106 rfl rfl rfl ?_
              refine Go_if_eqY (tgt := 129) (pc' := 110) dX9_takeFollower_107 (by decide) rfl (by first | exact ⟨i_lo _, i_hi _⟩ | omega) (fun c107 => ?_) (fun c107 => by exfalso; omega)
              refine Go_iload_n (pc' := 130) dX9_takeFollower_129 rfl rfl rfl ?_
              refine Go_if_eqY (tgt := 157) (pc' := 133) dX9_takeFollower_130 (by decide) rfl (by first | exact ⟨i_lo _, i_hi _⟩ | omega) (fun c130 => ?_) (fun c130 => by exfalso; omega)
              refine Go_iload_n (pc' := 158) dX9_takeFollower_157 rfl rfl rfl ?_
              refine Go_if_eqY (tgt := 202) (pc' := 161) dX9_takeFollower_158 (by decide) rfl (by first | exact ⟨i_lo _, i_hi _⟩ | omega) (fun c158 => ?_) (fun c158 => by exfalso; omega)
              refine Go_aload_n (pc' := 203) dX9_takeFollower_202 rfl rfl rfl ?_
              refine Go_iconst (v := iZ 1) (pc' := 204) dX9_takeFollower_203 rfl (by decide) ?_
              refine Go_callV_v (pc' := 207) (As := [.int _]) (st := []) dX9_takeFollower_204 rfl ok_X9_refuse km_RX9_89 (S.o 71 rfl rfl rfl) (S.b 71 rfl rfl) ⟨_, _, rfl⟩ rfl (Nat.le_of_ble_eq_true rfl) rfl rfl rfl (Nat.le_of_ble_eq_true rfl) (Nat.lt_succ_self _) ?_
              refine Go_aload_n (pc' := 1) dX9_refuse_0 rfl rfl rfl ?_
              refine Go_iload_n (pc' := 2) dX9_refuse_1 rfl rfl rfl ?_
              refine Go_putI (pc' := 5) dX9_refuse_2 rfl kf_RX9_38 (by decide) (by decide) rfl (S.b 71 rfl rfl) (S.o 71 rfl rfl rfl) (Or.inl rfl) rfl rfl ?_
              refine Go_aload_n (pc' := 6) dX9_refuse_5 rfl rfl rfl ?_
              refine Go_aload_n (pc' := 7) dX9_refuse_6 rfl rfl rfl ?_
              refine Go_getIv (v := (iZ pl)) (pc' := 10) dX9_refuse_7 rfl kf_RX9_68 (by decide) (by decide) rfl (S.b 71 rfl rfl) (S.o 71 rfl rfl rfl) ((vi_skip (Or.inr (by decide))).trans (e4)) ?_
              refine Go_putI (pc' := 13) dX9_refuse_10 rfl kf_RX9_18 (by decide) (by decide) rfl (S.b 71 rfl rfl) (S.o 71 rfl rfl rfl) (Or.inl rfl) rfl rfl ?_
              refine Go_return dX9_refuse_13 rfl ?_
              refine ⟨rfl, ?_⟩
              refine Go_return dX9_takeFollower_207 rfl ?_
              refine hk _ ?_
              unfold zfol
              rw [if_neg (by omega), if_neg (by omega), if_neg (by omega), if_neg (by omega), if_neg (by omega)]
              exact TKp.bad (by omega)
            · refine Go_iload_n (pc' := 81) dX9_takeFollower_80 rfl rfl rfl ?_
              refine Go_iconst (v := iZ 4) (pc' := 82) dX9_takeFollower_81 rfl (by decide) ?_
              refine Go_icmp_neY (tgt := 106) (pc' := 85) dX9_takeFollower_82 (by decide) rfl (by first | exact ⟨i_lo _, i_hi _⟩ | omega) (by first | exact ⟨i_lo _, i_hi _⟩ | omega) (fun c82 => ?_) (fun c82 => ?_)
              · refine Go_iload_n (pc' := 107) dX9_takeFollower_106 rfl rfl rfl ?_
                refine Go_if_eqY (tgt := 129) (pc' := 110) dX9_takeFollower_107 (by decide) rfl (by first | exact ⟨i_lo _, i_hi _⟩ | omega) (fun c107 => ?_) (fun c107 => by exfalso; omega)
                refine Go_iload_n (pc' := 130) dX9_takeFollower_129 rfl rfl rfl ?_
                refine Go_if_eqY (tgt := 157) (pc' := 133) dX9_takeFollower_130 (by decide) rfl (by first | exact ⟨i_lo _, i_hi _⟩ | omega) (fun c130 => ?_) (fun c130 => by exfalso; omega)
                refine Go_iload_n (pc' := 158) dX9_takeFollower_157 rfl rfl rfl ?_
                refine Go_if_eqY (tgt := 202) (pc' := 161) dX9_takeFollower_158 (by decide) rfl (by first | exact ⟨i_lo _, i_hi _⟩ | omega) (fun c158 => ?_) (fun c158 => by exfalso; omega)
                refine Go_aload_n (pc' := 203) dX9_takeFollower_202 rfl rfl rfl ?_
                refine Go_iconst (v := iZ 1) (pc' := 204) dX9_takeFollower_203 rfl (by decide) ?_
                refine Go_callV_v (pc' := 207) (As := [.int _]) (st := []) dX9_takeFollower_204 rfl ok_X9_refuse km_RX9_89 (S.o 71 rfl rfl rfl) (S.b 71 rfl rfl) ⟨_, _, rfl⟩ rfl (Nat.le_of_ble_eq_true rfl) rfl rfl rfl (Nat.le_of_ble_eq_true rfl) (Nat.lt_succ_self _) ?_
                refine Go_aload_n (pc' := 1) dX9_refuse_0 rfl rfl rfl ?_
                refine Go_iload_n (pc' := 2) dX9_refuse_1 rfl rfl rfl ?_
                refine Go_putI (pc' := 5) dX9_refuse_2 rfl kf_RX9_38 (by decide) (by decide) rfl (S.b 71 rfl rfl) (S.o 71 rfl rfl rfl) (Or.inl rfl) rfl rfl ?_
                refine Go_aload_n (pc' := 6) dX9_refuse_5 rfl rfl rfl ?_
                refine Go_aload_n (pc' := 7) dX9_refuse_6 rfl rfl rfl ?_
                refine Go_getIv (v := (iZ pl)) (pc' := 10) dX9_refuse_7 rfl kf_RX9_68 (by decide) (by decide) rfl (S.b 71 rfl rfl) (S.o 71 rfl rfl rfl) ((vi_skip (Or.inr (by decide))).trans (e4)) ?_
                refine Go_putI (pc' := 13) dX9_refuse_10 rfl kf_RX9_18 (by decide) (by decide) rfl (S.b 71 rfl rfl) (S.o 71 rfl rfl rfl) (Or.inl rfl) rfl rfl ?_
                refine Go_return dX9_refuse_13 rfl ?_
                refine ⟨rfl, ?_⟩
                refine Go_return dX9_takeFollower_207 rfl ?_
                refine hk _ ?_
                unfold zfol
                rw [if_neg (by omega), if_neg (by omega), if_neg (by omega), if_neg (by omega), if_neg (by omega)]
                exact TKp.bad (by omega)
              · refine Go_aload_n (pc' := 86) dX9_takeFollower_85 rfl rfl rfl ?_
                refine Go_getIv (v := (iZ s.2.2.1)) (pc' := 89) dX9_takeFollower_86 rfl kf_RX9_99 (by decide) (by decide) rfl (S.b 71 rfl rfl) (S.o 71 rfl rfl rfl) (e8) ?_
                refine Go_if_neY (tgt := 106) (pc' := 92) dX9_takeFollower_89 (by decide) rfl (by first | exact ⟨i_lo _, i_hi _⟩ | omega) (fun c89 => ?_) (fun c89 => ?_)
                · refine Go_iload_n (pc' := 107) dX9_takeFollower_106 rfl rfl rfl ?_
                  refine Go_if_eqY (tgt := 129) (pc' := 110) dX9_takeFollower_107 (by decide) rfl (by first | exact ⟨i_lo _, i_hi _⟩ | omega) (fun c107 => ?_) (fun c107 => by exfalso; omega)
                  refine Go_iload_n (pc' := 130) dX9_takeFollower_129 rfl rfl rfl ?_
                  refine Go_if_eqY (tgt := 157) (pc' := 133) dX9_takeFollower_130 (by decide) rfl (by first | exact ⟨i_lo _, i_hi _⟩ | omega) (fun c130 => ?_) (fun c130 => by exfalso; omega)
                  refine Go_iload_n (pc' := 158) dX9_takeFollower_157 rfl rfl rfl ?_
                  refine Go_if_eqY (tgt := 202) (pc' := 161) dX9_takeFollower_158 (by decide) rfl (by first | exact ⟨i_lo _, i_hi _⟩ | omega) (fun c158 => ?_) (fun c158 => by exfalso; omega)
                  refine Go_aload_n (pc' := 203) dX9_takeFollower_202 rfl rfl rfl ?_
                  refine Go_iconst (v := iZ 1) (pc' := 204) dX9_takeFollower_203 rfl (by decide) ?_
                  refine Go_callV_v (pc' := 207) (As := [.int _]) (st := []) dX9_takeFollower_204 rfl ok_X9_refuse km_RX9_89 (S.o 71 rfl rfl rfl) (S.b 71 rfl rfl) ⟨_, _, rfl⟩ rfl (Nat.le_of_ble_eq_true rfl) rfl rfl rfl (Nat.le_of_ble_eq_true rfl) (Nat.lt_succ_self _) ?_
                  refine Go_aload_n (pc' := 1) dX9_refuse_0 rfl rfl rfl ?_
                  refine Go_iload_n (pc' := 2) dX9_refuse_1 rfl rfl rfl ?_
                  refine Go_putI (pc' := 5) dX9_refuse_2 rfl kf_RX9_38 (by decide) (by decide) rfl (S.b 71 rfl rfl) (S.o 71 rfl rfl rfl) (Or.inl rfl) rfl rfl ?_
                  refine Go_aload_n (pc' := 6) dX9_refuse_5 rfl rfl rfl ?_
                  refine Go_aload_n (pc' := 7) dX9_refuse_6 rfl rfl rfl ?_
                  refine Go_getIv (v := (iZ pl)) (pc' := 10) dX9_refuse_7 rfl kf_RX9_68 (by decide) (by decide) rfl (S.b 71 rfl rfl) (S.o 71 rfl rfl rfl) ((vi_skip (Or.inr (by decide))).trans (e4)) ?_
                  refine Go_putI (pc' := 13) dX9_refuse_10 rfl kf_RX9_18 (by decide) (by decide) rfl (S.b 71 rfl rfl) (S.o 71 rfl rfl rfl) (Or.inl rfl) rfl rfl ?_
                  refine Go_return dX9_refuse_13 rfl ?_
                  refine ⟨rfl, ?_⟩
                  refine Go_return dX9_takeFollower_207 rfl ?_
                  refine hk _ ?_
                  unfold zfol
                  rw [if_neg (by omega), if_neg (by omega), if_neg (by omega), if_neg (by omega), if_neg (by omega)]
                  exact TKp.bad (by omega)
                · refine Go_aload_n (pc' := 93) dX9_takeFollower_92 rfl rfl rfl ?_
                  refine Go_iconst (v := iZ 1) (pc' := 94) dX9_takeFollower_93 rfl (by decide) ?_
                  refine Go_putI (pc' := 97) dX9_takeFollower_94 rfl kf_RX9_99 (by decide) (by decide) rfl (S.b 71 rfl rfl) (S.o 71 rfl rfl rfl) (Or.inl rfl) rfl rfl ?_
                  refine Go_aload_n (pc' := 98) dX9_takeFollower_97 rfl rfl rfl ?_
                  refine Go_iload_n (pc' := 99) dX9_takeFollower_98 rfl rfl rfl ?_
                  refine Go_iconst (v := iZ 3) (pc' := 100) dX9_takeFollower_99 rfl (by decide) ?_
                  refine Go_callV_v (pc' := 103) (As := [.int _, .int _]) (st := []) dX9_takeFollower_100 rfl ok_X9_takeJoint km_RX9_116 (S.o 71 rfl rfl rfl) (S.b 71 rfl rfl) ⟨_, _, rfl⟩ rfl (Nat.le_of_ble_eq_true rfl) rfl rfl rfl (Nat.le_of_ble_eq_true rfl) (Nat.lt_succ_self _) ?_
                  refine s_joint (r := zrk c) (nx := 3) (s := (s.1, s.2.1, 1, s.2.2.2.1, s.2.2.2.2.1, s.2.2.2.2.2)) S QP hq hr (RS6.w8 1 (by omega) R hq) ((vi_skip (by decide)).trans e3) hc ((vi_skip (by decide)).trans e4) (fun z => (vi_skip (by decide)).trans (e5 z)) (zrk_wt (by omega)).1 (by omega) (fun H1 T1 => ?_)
                  refine ⟨rfl, ?_⟩
                  refine Go_goto (tgt := 207) dX9_takeFollower_103 (by decide) ?_
                  refine Go_return dX9_takeFollower_207 rfl ?_
                  refine hk _ ?_
                  unfold zfol
                  rw [if_neg (by omega), if_pos (by omega)]
                  exact T1.pre (DX.wI (DX.rf (fun i k => i = 71 ∧ k = 8) H) (by omega)) (fun i k z => by unfold Pk; omega)
          · refine Go_aload_n (pc' := 50) dX9_takeFollower_49 rfl rfl rfl ?_
            refine Go_iload_n (pc' := 51) dX9_takeFollower_50 rfl rfl rfl ?_
            refine Go_aload_n (pc' := 52) dX9_takeFollower_51 rfl rfl rfl ?_
            refine Go_getIv (v := (iZ c)) (pc' := 55) dX9_takeFollower_52 rfl kf_RX9_44 (by decide) (by decide) rfl (S.b 71 rfl rfl) (S.o 71 rfl rfl rfl) (e3) ?_
            refine Go_sipush (v := iZ 147) (pc' := 58) dX9_takeFollower_55 rfl (by decide) ?_
            refine Go_icmp_neY (tgt := 65) (pc' := 61) dX9_takeFollower_58 (by decide) rfl (by first | exact ⟨i_lo _, i_hi _⟩ | omega) (by first | exact ⟨i_lo _, i_hi _⟩ | omega) (fun c58 => ?_) (fun c58 => ?_)
            · refine Go_iconst (v := iZ 3) (pc' := 66) dX9_takeFollower_65 rfl (by decide) ?_
              refine Go_callV_v (pc' := 69) (As := [.int _, .int _]) (st := []) dX9_takeFollower_66 rfl ok_X9_takeJoint km_RX9_116 (S.o 71 rfl rfl rfl) (S.b 71 rfl rfl) ⟨_, _, rfl⟩ rfl (Nat.le_of_ble_eq_true rfl) rfl rfl rfl (Nat.le_of_ble_eq_true rfl) (Nat.lt_succ_self _) ?_
              refine s_joint (r := zrk c) (nx := 3) S QP hq hr R e3 hc e4 e5 (zrk_wt (by omega)).1 (by omega) (fun H1 T1 => ?_)
              refine ⟨rfl, ?_⟩
              refine Go_goto (tgt := 207) dX9_takeFollower_69 (by decide) ?_
              refine Go_return dX9_takeFollower_207 rfl ?_
              refine hk _ ?_
              unfold zfol
              rw [if_pos (by omega)]
              rw [if_neg (by omega)]
              exact T1
            · refine Go_iconst (v := iZ 4) (pc' := 62) dX9_takeFollower_61 rfl (by decide) ?_
              refine Go_goto (tgt := 66) dX9_takeFollower_62 (by decide) ?_
              refine Go_callV_v (pc' := 69) (As := [.int _, .int _]) (st := []) dX9_takeFollower_66 rfl ok_X9_takeJoint km_RX9_116 (S.o 71 rfl rfl rfl) (S.b 71 rfl rfl) ⟨_, _, rfl⟩ rfl (Nat.le_of_ble_eq_true rfl) rfl rfl rfl (Nat.le_of_ble_eq_true rfl) (Nat.lt_succ_self _) ?_
              refine s_joint (r := zrk c) (nx := 4) S QP hq hr R e3 hc e4 e5 (zrk_wt (by omega)).1 (by omega) (fun H1 T1 => ?_)
              refine ⟨rfl, ?_⟩
              refine Go_goto (tgt := 207) dX9_takeFollower_69 (by decide) ?_
              refine Go_return dX9_takeFollower_207 rfl ?_
              refine hk _ ?_
              unfold zfol
              rw [if_pos (by omega)]
              rw [if_pos (by omega)]
              exact T1
    · refine Go_iconst (v := iZ 1) (pc' := 25) dX9_takeFollower_24 rfl (by decide) ?_
      refine Go_goto (tgt := 29) dX9_takeFollower_25 (by decide) ?_
      refine Go_istore_n (pc' := 30) (lv' := [.ref _, .int _, .int _]) dX9_takeFollower_29 rfl rfl (Nat.le_of_ble_eq_true rfl) rfl rfl ?_
      refine Go_aload_n (pc' := 31) dX9_takeFollower_30 rfl rfl rfl ?_
      refine Go_getIv (v := (iZ s.1)) (pc' := 34) dX9_takeFollower_31 rfl kf_RX9_47 (by decide) (by decide) rfl (S.b 71 rfl rfl) (S.o 71 rfl rfl rfl) (R.1) ?_
      refine Go_iconst (v := iZ 5) (pc' := 35) dX9_takeFollower_34 rfl (by decide) ?_
      refine Go_icmp_neY (tgt := 72) (pc' := 38) dX9_takeFollower_35 (by decide) rfl (by first | exact ⟨i_lo _, i_hi _⟩ | omega) (by first | exact ⟨i_lo _, i_hi _⟩ | omega) (fun c35 => ?_) (fun c35 => ?_)
      · refine Go_aload_n (pc' := 73) dX9_takeFollower_72 rfl rfl rfl ?_
        refine Go_getIv (v := (iZ s.1)) (pc' := 76) dX9_takeFollower_73 rfl kf_RX9_47 (by decide) (by decide) rfl (S.b 71 rfl rfl) (S.o 71 rfl rfl rfl) (R.1) ?_
        refine Go_iconst (v := iZ 5) (pc' := 77) dX9_takeFollower_76 rfl (by decide) ?_
        refine Go_icmp_neY (tgt := 106) (pc' := 80) dX9_takeFollower_77 (by decide) rfl (by first | exact ⟨i_lo _, i_hi _⟩ | omega) (by first | exact ⟨i_lo _, i_hi _⟩ | omega) (fun c77 => ?_) (fun c77 => ?_)
        · refine Go_iload_n (pc' := 107) dX9_takeFollower_106 rfl rfl rfl ?_
          refine Go_if_eqY (tgt := 129) (pc' := 110) dX9_takeFollower_107 (by decide) rfl (by first | exact ⟨i_lo _, i_hi _⟩ | omega) (fun c107 => by exfalso; omega) (fun c107 => ?_)
          refine Go_iload_n (pc' := 111) dX9_takeFollower_110 rfl rfl rfl ?_
          refine Go_iconst (v := iZ 1) (pc' := 112) dX9_takeFollower_111 rfl (by decide) ?_
          refine Go_icmp_eqY (tgt := 120) (pc' := 115) dX9_takeFollower_112 (by decide) rfl (by first | exact ⟨i_lo _, i_hi _⟩ | omega) (by first | exact ⟨i_lo _, i_hi _⟩ | omega) (fun c112 => ?_) (fun c112 => ?_)
          · refine Go_aload_n (pc' := 121) dX9_takeFollower_120 rfl rfl rfl ?_
            refine Go_iload_n (pc' := 122) dX9_takeFollower_121 rfl rfl rfl ?_
            refine Go_iconst (v := iZ 2) (pc' := 123) dX9_takeFollower_122 rfl (by decide) ?_
            refine Go_callV_v (pc' := 126) (As := [.int _, .int _]) (st := []) dX9_takeFollower_123 rfl ok_X9_takeJoint km_RX9_116 (S.o 71 rfl rfl rfl) (S.b 71 rfl rfl) ⟨_, _, rfl⟩ rfl (Nat.le_of_ble_eq_true rfl) rfl rfl rfl (Nat.le_of_ble_eq_true rfl) (Nat.lt_succ_self _) ?_
            refine s_joint (r := zrk c) (nx := 2) S QP hq hr R e3 hc e4 e5 (zrk_wt (by omega)).1 (by omega) (fun H1 T1 => ?_)
            refine ⟨rfl, ?_⟩
            refine Go_goto (tgt := 207) dX9_takeFollower_126 (by decide) ?_
            refine Go_return dX9_takeFollower_207 rfl ?_
            refine hk _ ?_
            unfold zfol
            rw [if_neg (by omega), if_neg (by omega), if_pos (by omega)]
            exact T1
          · refine Go_iload_n (pc' := 116) dX9_takeFollower_115 rfl rfl rfl ?_
            refine Go_iconst (v := iZ 2) (pc' := 117) dX9_takeFollower_116 rfl (by decide) ?_
            refine Go_icmp_neY (tgt := 129) (pc' := 120) dX9_takeFollower_117 (by decide) rfl (by first | exact ⟨i_lo _, i_hi _⟩ | omega) (by first | exact ⟨i_lo _, i_hi _⟩ | omega) (fun c117 => ?_) (fun c117 => ?_)
            · refine Go_iload_n (pc' := 130) dX9_takeFollower_129 rfl rfl rfl ?_
              refine Go_if_eqY (tgt := 157) (pc' := 133) dX9_takeFollower_130 (by decide) rfl (by first | exact ⟨i_lo _, i_hi _⟩ | omega) (fun c130 => by exfalso; omega) (fun c130 => ?_)
              refine Go_aload_n (pc' := 134) dX9_takeFollower_133 rfl rfl rfl ?_
              refine Go_getIv (v := (iZ c)) (pc' := 137) dX9_takeFollower_134 rfl kf_RX9_44 (by decide) (by decide) rfl (S.b 71 rfl rfl) (S.o 71 rfl rfl rfl) (e3) ?_
              refine Go_sipush (v := iZ 141) (pc' := 140) dX9_takeFollower_137 rfl (by decide) ?_
              refine Go_icmp_neY (tgt := 157) (pc' := 143) dX9_takeFollower_140 (by decide) rfl (by first | exact ⟨i_lo _, i_hi _⟩ | omega) (by first | exact ⟨i_lo _, i_hi _⟩ | omega) (fun c140 => ?_) (fun c140 => ?_)
              · refine Go_iload_n (pc' := 158) dX9_takeFollower_157 rfl rfl rfl ?_
                refine Go_if_eqY (tgt := 202) (pc' := 161) dX9_takeFollower_158 (by decide) rfl (by first | exact ⟨i_lo _, i_hi _⟩ | omega) (fun c158 => by exfalso; omega) (fun c158 => ?_)
                refine Go_aload_n (pc' := 162) dX9_takeFollower_161 rfl rfl rfl ?_
                refine Go_getIv (v := (iZ c)) (pc' := 165) dX9_takeFollower_162 rfl kf_RX9_44 (by decide) (by decide) rfl (S.b 71 rfl rfl) (S.o 71 rfl rfl rfl) (e3) ?_
                refine Go_sipush (v := iZ 159) (pc' := 168) dX9_takeFollower_165 rfl (by decide) ?_
                refine Go_icmp_neY (tgt := 202) (pc' := 171) dX9_takeFollower_168 (by decide) rfl (by first | exact ⟨i_lo _, i_hi _⟩ | omega) (by first | exact ⟨i_lo _, i_hi _⟩ | omega) (fun c168 => ?_) (fun c168 => ?_)
                · refine Go_aload_n (pc' := 203) dX9_takeFollower_202 rfl rfl rfl ?_
                  refine Go_iconst (v := iZ 1) (pc' := 204) dX9_takeFollower_203 rfl (by decide) ?_
                  refine Go_callV_v (pc' := 207) (As := [.int _]) (st := []) dX9_takeFollower_204 rfl ok_X9_refuse km_RX9_89 (S.o 71 rfl rfl rfl) (S.b 71 rfl rfl) ⟨_, _, rfl⟩ rfl (Nat.le_of_ble_eq_true rfl) rfl rfl rfl (Nat.le_of_ble_eq_true rfl) (Nat.lt_succ_self _) ?_
                  refine Go_aload_n (pc' := 1) dX9_refuse_0 rfl rfl rfl ?_
                  refine Go_iload_n (pc' := 2) dX9_refuse_1 rfl rfl rfl ?_
                  refine Go_putI (pc' := 5) dX9_refuse_2 rfl kf_RX9_38 (by decide) (by decide) rfl (S.b 71 rfl rfl) (S.o 71 rfl rfl rfl) (Or.inl rfl) rfl rfl ?_
                  refine Go_aload_n (pc' := 6) dX9_refuse_5 rfl rfl rfl ?_
                  refine Go_aload_n (pc' := 7) dX9_refuse_6 rfl rfl rfl ?_
                  refine Go_getIv (v := (iZ pl)) (pc' := 10) dX9_refuse_7 rfl kf_RX9_68 (by decide) (by decide) rfl (S.b 71 rfl rfl) (S.o 71 rfl rfl rfl) ((vi_skip (Or.inr (by decide))).trans (e4)) ?_
                  refine Go_putI (pc' := 13) dX9_refuse_10 rfl kf_RX9_18 (by decide) (by decide) rfl (S.b 71 rfl rfl) (S.o 71 rfl rfl rfl) (Or.inl rfl) rfl rfl ?_
                  refine Go_return dX9_refuse_13 rfl ?_
                  refine ⟨rfl, ?_⟩
                  refine Go_return dX9_takeFollower_207 rfl ?_
                  refine hk _ ?_
                  unfold zfol
                  rw [if_neg (by omega), if_neg (by omega), if_neg (by omega), if_neg (by omega), if_neg (by omega)]
                  exact TKp.bad (by omega)
                · refine Go_aload_n (pc' := 172) dX9_takeFollower_171 rfl rfl rfl ?_
                  refine Go_getIv (v := (iZ (zbr s.2.2.2.1))) (pc' := 175) dX9_takeFollower_172 rfl kf_RX9_65 (by decide) (by decide) rfl (S.b 71 rfl rfl) (S.o 71 rfl rfl rfl) (R.2.2.2.1.2.2.2.2.1) ?_
                  refine Go_if_neY (tgt := 202) (pc' := 178) dX9_takeFollower_175 (by decide) rfl (by first | exact ⟨i_lo _, i_hi _⟩ | omega) (fun c175 => ?_) (fun c175 => ?_)
                  · refine Go_aload_n (pc' := 203) dX9_takeFollower_202 rfl rfl rfl ?_
                    refine Go_iconst (v := iZ 1) (pc' := 204) dX9_takeFollower_203 rfl (by decide) ?_
                    refine Go_callV_v (pc' := 207) (As := [.int _]) (st := []) dX9_takeFollower_204 rfl ok_X9_refuse km_RX9_89 (S.o 71 rfl rfl rfl) (S.b 71 rfl rfl) ⟨_, _, rfl⟩ rfl (Nat.le_of_ble_eq_true rfl) rfl rfl rfl (Nat.le_of_ble_eq_true rfl) (Nat.lt_succ_self _) ?_
                    refine Go_aload_n (pc' := 1) dX9_refuse_0 rfl rfl rfl ?_
                    refine Go_iload_n (pc' := 2) dX9_refuse_1 rfl rfl rfl ?_
                    refine Go_putI (pc' := 5) dX9_refuse_2 rfl kf_RX9_38 (by decide) (by decide) rfl (S.b 71 rfl rfl) (S.o 71 rfl rfl rfl) (Or.inl rfl) rfl rfl ?_
                    refine Go_aload_n (pc' := 6) dX9_refuse_5 rfl rfl rfl ?_
                    refine Go_aload_n (pc' := 7) dX9_refuse_6 rfl rfl rfl ?_
                    refine Go_getIv (v := (iZ pl)) (pc' := 10) dX9_refuse_7 rfl kf_RX9_68 (by decide) (by decide) rfl (S.b 71 rfl rfl) (S.o 71 rfl rfl rfl) ((vi_skip (Or.inr (by decide))).trans (e4)) ?_
                    refine Go_putI (pc' := 13) dX9_refuse_10 rfl kf_RX9_18 (by decide) (by decide) rfl (S.b 71 rfl rfl) (S.o 71 rfl rfl rfl) (Or.inl rfl) rfl rfl ?_
                    refine Go_return dX9_refuse_13 rfl ?_
                    refine ⟨rfl, ?_⟩
                    refine Go_return dX9_takeFollower_207 rfl ?_
                    refine hk _ ?_
                    unfold zfol
                    rw [if_neg (by omega), if_neg (by omega), if_neg (by omega), if_neg (by omega), if_neg (by omega)]
                    exact TKp.bad (by omega)
                  · refine Go_aload_n (pc' := 179) dX9_takeFollower_178 rfl rfl rfl ?_
                    refine Go_iconst (v := iZ 1) (pc' := 180) dX9_takeFollower_179 rfl (by decide) ?_
                    refine Go_callV_v (pc' := 183) (As := [.int _]) (st := []) dX9_takeFollower_180 rfl ok_X9_release km_RX9_123 (S.o 71 rfl rfl rfl) (S.b 71 rfl rfl) ⟨_, _, rfl⟩ rfl (Nat.le_of_ble_eq_true rfl) rfl rfl rfl (Nat.le_of_ble_eq_true rfl) (Nat.lt_succ_self _) ?_
                    refine s_rel (r := 1) S QP hq hr R.2.2.2.2.1 R.2.2.2.1 (by omega) (fun H1 D1 O1 W1 => ?_)
                    refine ⟨rfl, ?_⟩
                    have S1 := D1.shp S
                    have QP1 := D1.qp QP
                    have hr1_ := (D1.2.2.1 71 16).trans hr
                    refine Go_aload_n (pc' := 184) dX9_takeFollower_183 rfl rfl rfl ?_
                    refine Go_getRs (pc' := 187) dX9_takeFollower_184 rfl kf_RX9_29 (by decide) (by decide) rfl (S1.b 71 rfl rfl) (S1.o 71 rfl rfl rfl) hr1_ ?_
                    refine Go_aload_n (pc' := 188) dX9_takeFollower_187 rfl rfl rfl ?_
                    refine Go_getIv (v := (iZ s.2.1)) (pc' := 191) dX9_takeFollower_188 rfl kf_RX9_96 (by decide) (by decide) rfl (S1.b 71 rfl rfl) (S1.o 71 rfl rfl rfl) (((D1.2.2.2 _ _ (by unfold Pr; omega)).trans R.2.1)) ?_
                    refine Go_callV_v (pc' := 194) (As := [.int _]) (st := []) dX9_takeFollower_191 rfl ok_X8_closeLine km_RX9_126 QP1.2.1 QP1.1 ⟨_, _, rfl⟩ rfl (Nat.le_of_ble_eq_true rfl) rfl rfl rfl (Nat.le_of_ble_eq_true rfl) (Nat.lt_succ_self _) ?_
                    refine s_cline (l := (s.2.2.2.2.2 : Int)) QP1 O1 ((D1.2.2.2 _ _ (by unfold Pr; omega)).trans R.2.2.2.2.2) (fun H2 D2 O2 l2 => ?_)
                    refine ⟨rfl, ?_⟩
                    have S2 := D2.shp S1
                    refine Go_aload_n (pc' := 195) dX9_takeFollower_194 rfl rfl rfl ?_
                    refine Go_iconst (v := iZ 0) (pc' := 196) dX9_takeFollower_195 rfl (by decide) ?_
                    refine Go_putI (pc' := 199) dX9_takeFollower_196 rfl kf_RX9_47 (by decide) (by decide) rfl (S2.b 71 rfl rfl) (S2.o 71 rfl rfl rfl) (Or.inl rfl) rfl rfl ?_
                    refine Go_goto (tgt := 207) dX9_takeFollower_199 (by decide) ?_
                    refine Go_return dX9_takeFollower_207 rfl ?_
                    refine hk _ ?_
                    unfold zfol
                    rw [if_neg (by omega), if_neg (by omega), if_neg (by omega), if_neg (by omega), if_pos (by omega)]
                    exact TKp.line R hq D1 W1 D2 O2 l2
              · refine Go_aload_n (pc' := 144) dX9_takeFollower_143 rfl rfl rfl ?_
                refine Go_getIv (v := (iZ (zbr s.2.2.2.1))) (pc' := 147) dX9_takeFollower_144 rfl kf_RX9_65 (by decide) (by decide) rfl (S.b 71 rfl rfl) (S.o 71 rfl rfl rfl) (R.2.2.2.1.2.2.2.2.1) ?_
                refine Go_if_leY (tgt := 157) (pc' := 150) dX9_takeFollower_147 (by decide) rfl (by first | exact ⟨i_lo _, i_hi _⟩ | omega) (fun c147 => ?_) (fun c147 => ?_)
                · refine Go_iload_n (pc' := 158) dX9_takeFollower_157 rfl rfl rfl ?_
                  refine Go_if_eqY (tgt := 202) (pc' := 161) dX9_takeFollower_158 (by decide) rfl (by first | exact ⟨i_lo _, i_hi _⟩ | omega) (fun c158 => by exfalso; omega) (fun c158 => ?_)
                  refine Go_aload_n (pc' := 162) dX9_takeFollower_161 rfl rfl rfl ?_
                  refine Go_getIv (v := (iZ c)) (pc' := 165) dX9_takeFollower_162 rfl kf_RX9_44 (by decide) (by decide) rfl (S.b 71 rfl rfl) (S.o 71 rfl rfl rfl) (e3) ?_
                  refine Go_sipush (v := iZ 159) (pc' := 168) dX9_takeFollower_165 rfl (by decide) ?_
                  refine Go_icmp_neY (tgt := 202) (pc' := 171) dX9_takeFollower_168 (by decide) rfl (by first | exact ⟨i_lo _, i_hi _⟩ | omega) (by first | exact ⟨i_lo _, i_hi _⟩ | omega) (fun c168 => ?_) (fun c168 => ?_)
                  · refine Go_aload_n (pc' := 203) dX9_takeFollower_202 rfl rfl rfl ?_
                    refine Go_iconst (v := iZ 1) (pc' := 204) dX9_takeFollower_203 rfl (by decide) ?_
                    refine Go_callV_v (pc' := 207) (As := [.int _]) (st := []) dX9_takeFollower_204 rfl ok_X9_refuse km_RX9_89 (S.o 71 rfl rfl rfl) (S.b 71 rfl rfl) ⟨_, _, rfl⟩ rfl (Nat.le_of_ble_eq_true rfl) rfl rfl rfl (Nat.le_of_ble_eq_true rfl) (Nat.lt_succ_self _) ?_
                    refine Go_aload_n (pc' := 1) dX9_refuse_0 rfl rfl rfl ?_
                    refine Go_iload_n (pc' := 2) dX9_refuse_1 rfl rfl rfl ?_
                    refine Go_putI (pc' := 5) dX9_refuse_2 rfl kf_RX9_38 (by decide) (by decide) rfl (S.b 71 rfl rfl) (S.o 71 rfl rfl rfl) (Or.inl rfl) rfl rfl ?_
                    refine Go_aload_n (pc' := 6) dX9_refuse_5 rfl rfl rfl ?_
                    refine Go_aload_n (pc' := 7) dX9_refuse_6 rfl rfl rfl ?_
                    refine Go_getIv (v := (iZ pl)) (pc' := 10) dX9_refuse_7 rfl kf_RX9_68 (by decide) (by decide) rfl (S.b 71 rfl rfl) (S.o 71 rfl rfl rfl) ((vi_skip (Or.inr (by decide))).trans (e4)) ?_
                    refine Go_putI (pc' := 13) dX9_refuse_10 rfl kf_RX9_18 (by decide) (by decide) rfl (S.b 71 rfl rfl) (S.o 71 rfl rfl rfl) (Or.inl rfl) rfl rfl ?_
                    refine Go_return dX9_refuse_13 rfl ?_
                    refine ⟨rfl, ?_⟩
                    refine Go_return dX9_takeFollower_207 rfl ?_
                    refine hk _ ?_
                    unfold zfol
                    rw [if_neg (by omega), if_neg (by omega), if_neg (by omega), if_neg (by omega), if_neg (by omega)]
                    exact TKp.bad (by omega)
                  · refine Go_aload_n (pc' := 172) dX9_takeFollower_171 rfl rfl rfl ?_
                    refine Go_getIv (v := (iZ (zbr s.2.2.2.1))) (pc' := 175) dX9_takeFollower_172 rfl kf_RX9_65 (by decide) (by decide) rfl (S.b 71 rfl rfl) (S.o 71 rfl rfl rfl) (R.2.2.2.1.2.2.2.2.1) ?_
                    refine Go_if_neY (tgt := 202) (pc' := 178) dX9_takeFollower_175 (by decide) rfl (by first | exact ⟨i_lo _, i_hi _⟩ | omega) (fun c175 => ?_) (fun c175 => ?_)
                    · refine Go_aload_n (pc' := 203) dX9_takeFollower_202 rfl rfl rfl ?_
                      refine Go_iconst (v := iZ 1) (pc' := 204) dX9_takeFollower_203 rfl (by decide) ?_
                      refine Go_callV_v (pc' := 207) (As := [.int _]) (st := []) dX9_takeFollower_204 rfl ok_X9_refuse km_RX9_89 (S.o 71 rfl rfl rfl) (S.b 71 rfl rfl) ⟨_, _, rfl⟩ rfl (Nat.le_of_ble_eq_true rfl) rfl rfl rfl (Nat.le_of_ble_eq_true rfl) (Nat.lt_succ_self _) ?_
                      refine Go_aload_n (pc' := 1) dX9_refuse_0 rfl rfl rfl ?_
                      refine Go_iload_n (pc' := 2) dX9_refuse_1 rfl rfl rfl ?_
                      refine Go_putI (pc' := 5) dX9_refuse_2 rfl kf_RX9_38 (by decide) (by decide) rfl (S.b 71 rfl rfl) (S.o 71 rfl rfl rfl) (Or.inl rfl) rfl rfl ?_
                      refine Go_aload_n (pc' := 6) dX9_refuse_5 rfl rfl rfl ?_
                      refine Go_aload_n (pc' := 7) dX9_refuse_6 rfl rfl rfl ?_
                      refine Go_getIv (v := (iZ pl)) (pc' := 10) dX9_refuse_7 rfl kf_RX9_68 (by decide) (by decide) rfl (S.b 71 rfl rfl) (S.o 71 rfl rfl rfl) ((vi_skip (Or.inr (by decide))).trans (e4)) ?_
                      refine Go_putI (pc' := 13) dX9_refuse_10 rfl kf_RX9_18 (by decide) (by decide) rfl (S.b 71 rfl rfl) (S.o 71 rfl rfl rfl) (Or.inl rfl) rfl rfl ?_
                      refine Go_return dX9_refuse_13 rfl ?_
                      refine ⟨rfl, ?_⟩
                      refine Go_return dX9_takeFollower_207 rfl ?_
                      refine hk _ ?_
                      unfold zfol
                      rw [if_neg (by omega), if_neg (by omega), if_neg (by omega), if_neg (by omega), if_neg (by omega)]
                      exact TKp.bad (by omega)
                    · refine Go_aload_n (pc' := 179) dX9_takeFollower_178 rfl rfl rfl ?_
                      refine Go_iconst (v := iZ 1) (pc' := 180) dX9_takeFollower_179 rfl (by decide) ?_
                      refine Go_callV_v (pc' := 183) (As := [.int _]) (st := []) dX9_takeFollower_180 rfl ok_X9_release km_RX9_123 (S.o 71 rfl rfl rfl) (S.b 71 rfl rfl) ⟨_, _, rfl⟩ rfl (Nat.le_of_ble_eq_true rfl) rfl rfl rfl (Nat.le_of_ble_eq_true rfl) (Nat.lt_succ_self _) ?_
                      refine s_rel (r := 1) S QP hq hr R.2.2.2.2.1 R.2.2.2.1 (by omega) (fun H1 D1 O1 W1 => ?_)
                      refine ⟨rfl, ?_⟩
                      have S1 := D1.shp S
                      have QP1 := D1.qp QP
                      have hr1_ := (D1.2.2.1 71 16).trans hr
                      refine Go_aload_n (pc' := 184) dX9_takeFollower_183 rfl rfl rfl ?_
                      refine Go_getRs (pc' := 187) dX9_takeFollower_184 rfl kf_RX9_29 (by decide) (by decide) rfl (S1.b 71 rfl rfl) (S1.o 71 rfl rfl rfl) hr1_ ?_
                      refine Go_aload_n (pc' := 188) dX9_takeFollower_187 rfl rfl rfl ?_
                      refine Go_getIv (v := (iZ s.2.1)) (pc' := 191) dX9_takeFollower_188 rfl kf_RX9_96 (by decide) (by decide) rfl (S1.b 71 rfl rfl) (S1.o 71 rfl rfl rfl) (((D1.2.2.2 _ _ (by unfold Pr; omega)).trans R.2.1)) ?_
                      refine Go_callV_v (pc' := 194) (As := [.int _]) (st := []) dX9_takeFollower_191 rfl ok_X8_closeLine km_RX9_126 QP1.2.1 QP1.1 ⟨_, _, rfl⟩ rfl (Nat.le_of_ble_eq_true rfl) rfl rfl rfl (Nat.le_of_ble_eq_true rfl) (Nat.lt_succ_self _) ?_
                      refine s_cline (l := (s.2.2.2.2.2 : Int)) QP1 O1 ((D1.2.2.2 _ _ (by unfold Pr; omega)).trans R.2.2.2.2.2) (fun H2 D2 O2 l2 => ?_)
                      refine ⟨rfl, ?_⟩
                      have S2 := D2.shp S1
                      refine Go_aload_n (pc' := 195) dX9_takeFollower_194 rfl rfl rfl ?_
                      refine Go_iconst (v := iZ 0) (pc' := 196) dX9_takeFollower_195 rfl (by decide) ?_
                      refine Go_putI (pc' := 199) dX9_takeFollower_196 rfl kf_RX9_47 (by decide) (by decide) rfl (S2.b 71 rfl rfl) (S2.o 71 rfl rfl rfl) (Or.inl rfl) rfl rfl ?_
                      refine Go_goto (tgt := 207) dX9_takeFollower_199 (by decide) ?_
                      refine Go_return dX9_takeFollower_207 rfl ?_
                      refine hk _ ?_
                      unfold zfol
                      rw [if_neg (by omega), if_neg (by omega), if_neg (by omega), if_neg (by omega), if_pos (by omega)]
                      exact TKp.line R hq D1 W1 D2 O2 l2
                · refine Go_aload_n (pc' := 151) dX9_takeFollower_150 rfl rfl rfl ?_
                  refine Go_callV_v (pc' := 154) (As := []) (st := []) dX9_takeFollower_151 rfl ok_X9_closeBracket km_RX9_120 (S.o 71 rfl rfl rfl) (S.b 71 rfl rfl) ⟨_, _, rfl⟩ rfl (Nat.le_of_ble_eq_true rfl) rfl rfl rfl (Nat.le_of_ble_eq_true rfl) (Nat.lt_succ_self _) ?_
                  refine s_close S QP hq hr R e3 hc e4 e5 (by omega) (fun H1 T1 => ?_)
                  refine ⟨rfl, ?_⟩
                  refine Go_goto (tgt := 207) dX9_takeFollower_154 (by decide) ?_
                  refine Go_return dX9_takeFollower_207 rfl ?_
                  refine hk _ ?_
                  unfold zfol
                  rw [if_neg (by omega), if_neg (by omega), if_neg (by omega), if_pos (by omega)]
                  exact T1
            · refine Go_aload_n (pc' := 121) dX9_takeFollower_120 rfl rfl rfl ?_
              refine Go_iload_n (pc' := 122) dX9_takeFollower_121 rfl rfl rfl ?_
              refine Go_iconst (v := iZ 2) (pc' := 123) dX9_takeFollower_122 rfl (by decide) ?_
              refine Go_callV_v (pc' := 126) (As := [.int _, .int _]) (st := []) dX9_takeFollower_123 rfl ok_X9_takeJoint km_RX9_116 (S.o 71 rfl rfl rfl) (S.b 71 rfl rfl) ⟨_, _, rfl⟩ rfl (Nat.le_of_ble_eq_true rfl) rfl rfl rfl (Nat.le_of_ble_eq_true rfl) (Nat.lt_succ_self _) ?_
              refine s_joint (r := zrk c) (nx := 2) S QP hq hr R e3 hc e4 e5 (zrk_wt (by omega)).1 (by omega) (fun H1 T1 => ?_)
              refine ⟨rfl, ?_⟩
              refine Go_goto (tgt := 207) dX9_takeFollower_126 (by decide) ?_
              refine Go_return dX9_takeFollower_207 rfl ?_
              refine hk _ ?_
              unfold zfol
              rw [if_neg (by omega), if_neg (by omega), if_pos (by omega)]
              exact T1
        · refine Go_iload_n (pc' := 81) dX9_takeFollower_80 rfl rfl rfl ?_
          refine Go_iconst (v := iZ 4) (pc' := 82) dX9_takeFollower_81 rfl (by decide) ?_
          refine Go_icmp_neY (tgt := 106) (pc' := 85) dX9_takeFollower_82 (by decide) rfl (by first | exact ⟨i_lo _, i_hi _⟩ | omega) (by first | exact ⟨i_lo _, i_hi _⟩ | omega) (fun c82 => ?_) (fun c82 => ?_)
          · refine Go_iload_n (pc' := 107) dX9_takeFollower_106 rfl rfl rfl ?_
            refine Go_if_eqY (tgt := 129) (pc' := 110) dX9_takeFollower_107 (by decide) rfl (by first | exact ⟨i_lo _, i_hi _⟩ | omega) (fun c107 => by exfalso; omega) (fun c107 => ?_)
            refine Go_iload_n (pc' := 111) dX9_takeFollower_110 rfl rfl rfl ?_
            refine Go_iconst (v := iZ 1) (pc' := 112) dX9_takeFollower_111 rfl (by decide) ?_
            refine Go_icmp_eqY (tgt := 120) (pc' := 115) dX9_takeFollower_112 (by decide) rfl (by first | exact ⟨i_lo _, i_hi _⟩ | omega) (by first | exact ⟨i_lo _, i_hi _⟩ | omega) (fun c112 => ?_) (fun c112 => ?_)
            · refine Go_aload_n (pc' := 121) dX9_takeFollower_120 rfl rfl rfl ?_
              refine Go_iload_n (pc' := 122) dX9_takeFollower_121 rfl rfl rfl ?_
              refine Go_iconst (v := iZ 2) (pc' := 123) dX9_takeFollower_122 rfl (by decide) ?_
              refine Go_callV_v (pc' := 126) (As := [.int _, .int _]) (st := []) dX9_takeFollower_123 rfl ok_X9_takeJoint km_RX9_116 (S.o 71 rfl rfl rfl) (S.b 71 rfl rfl) ⟨_, _, rfl⟩ rfl (Nat.le_of_ble_eq_true rfl) rfl rfl rfl (Nat.le_of_ble_eq_true rfl) (Nat.lt_succ_self _) ?_
              refine s_joint (r := zrk c) (nx := 2) S QP hq hr R e3 hc e4 e5 (zrk_wt (by omega)).1 (by omega) (fun H1 T1 => ?_)
              refine ⟨rfl, ?_⟩
              refine Go_goto (tgt := 207) dX9_takeFollower_126 (by decide) ?_
              refine Go_return dX9_takeFollower_207 rfl ?_
              refine hk _ ?_
              unfold zfol
              rw [if_neg (by omega), if_neg (by omega), if_pos (by omega)]
              exact T1
            · refine Go_iload_n (pc' := 116) dX9_takeFollower_115 rfl rfl rfl ?_
              refine Go_iconst (v := iZ 2) (pc' := 117) dX9_takeFollower_116 rfl (by decide) ?_
              refine Go_icmp_neY (tgt := 129) (pc' := 120) dX9_takeFollower_117 (by decide) rfl (by first | exact ⟨i_lo _, i_hi _⟩ | omega) (by first | exact ⟨i_lo _, i_hi _⟩ | omega) (fun c117 => ?_) (fun c117 => ?_)
              · refine Go_iload_n (pc' := 130) dX9_takeFollower_129 rfl rfl rfl ?_
                refine Go_if_eqY (tgt := 157) (pc' := 133) dX9_takeFollower_130 (by decide) rfl (by first | exact ⟨i_lo _, i_hi _⟩ | omega) (fun c130 => by exfalso; omega) (fun c130 => ?_)
                refine Go_aload_n (pc' := 134) dX9_takeFollower_133 rfl rfl rfl ?_
                refine Go_getIv (v := (iZ c)) (pc' := 137) dX9_takeFollower_134 rfl kf_RX9_44 (by decide) (by decide) rfl (S.b 71 rfl rfl) (S.o 71 rfl rfl rfl) (e3) ?_
                refine Go_sipush (v := iZ 141) (pc' := 140) dX9_takeFollower_137 rfl (by decide) ?_
                refine Go_icmp_neY (tgt := 157) (pc' := 143) dX9_takeFollower_140 (by decide) rfl (by first | exact ⟨i_lo _, i_hi _⟩ | omega) (by first | exact ⟨i_lo _, i_hi _⟩ | omega) (fun c140 => ?_) (fun c140 => ?_)
                · refine Go_iload_n (pc' := 158) dX9_takeFollower_157 rfl rfl rfl ?_
                  refine Go_if_eqY (tgt := 202) (pc' := 161) dX9_takeFollower_158 (by decide) rfl (by first | exact ⟨i_lo _, i_hi _⟩ | omega) (fun c158 => by exfalso; omega) (fun c158 => ?_)
                  refine Go_aload_n (pc' := 162) dX9_takeFollower_161 rfl rfl rfl ?_
                  refine Go_getIv (v := (iZ c)) (pc' := 165) dX9_takeFollower_162 rfl kf_RX9_44 (by decide) (by decide) rfl (S.b 71 rfl rfl) (S.o 71 rfl rfl rfl) (e3) ?_
                  refine Go_sipush (v := iZ 159) (pc' := 168) dX9_takeFollower_165 rfl (by decide) ?_
                  refine Go_icmp_neY (tgt := 202) (pc' := 171) dX9_takeFollower_168 (by decide) rfl (by first | exact ⟨i_lo _, i_hi _⟩ | omega) (by first | exact ⟨i_lo _, i_hi _⟩ | omega) (fun c168 => ?_) (fun c168 => ?_)
                  · refine Go_aload_n (pc' := 203) dX9_takeFollower_202 rfl rfl rfl ?_
                    refine Go_iconst (v := iZ 1) (pc' := 204) dX9_takeFollower_203 rfl (by decide) ?_
                    refine Go_callV_v (pc' := 207) (As := [.int _]) (st := []) dX9_takeFollower_204 rfl ok_X9_refuse km_RX9_89 (S.o 71 rfl rfl rfl) (S.b 71 rfl rfl) ⟨_, _, rfl⟩ rfl (Nat.le_of_ble_eq_true rfl) rfl rfl rfl (Nat.le_of_ble_eq_true rfl) (Nat.lt_succ_self _) ?_
                    refine Go_aload_n (pc' := 1) dX9_refuse_0 rfl rfl rfl ?_
                    refine Go_iload_n (pc' := 2) dX9_refuse_1 rfl rfl rfl ?_
                    refine Go_putI (pc' := 5) dX9_refuse_2 rfl kf_RX9_38 (by decide) (by decide) rfl (S.b 71 rfl rfl) (S.o 71 rfl rfl rfl) (Or.inl rfl) rfl rfl ?_
                    refine Go_aload_n (pc' := 6) dX9_refuse_5 rfl rfl rfl ?_
                    refine Go_aload_n (pc' := 7) dX9_refuse_6 rfl rfl rfl ?_
                    refine Go_getIv (v := (iZ pl)) (pc' := 10) dX9_refuse_7 rfl kf_RX9_68 (by decide) (by decide) rfl (S.b 71 rfl rfl) (S.o 71 rfl rfl rfl) ((vi_skip (Or.inr (by decide))).trans (e4)) ?_
                    refine Go_putI (pc' := 13) dX9_refuse_10 rfl kf_RX9_18 (by decide) (by decide) rfl (S.b 71 rfl rfl) (S.o 71 rfl rfl rfl) (Or.inl rfl) rfl rfl ?_
                    refine Go_return dX9_refuse_13 rfl ?_
                    refine ⟨rfl, ?_⟩
                    refine Go_return dX9_takeFollower_207 rfl ?_
                    refine hk _ ?_
                    unfold zfol
                    rw [if_neg (by omega), if_neg (by omega), if_neg (by omega), if_neg (by omega), if_neg (by omega)]
                    exact TKp.bad (by omega)
                  · refine Go_aload_n (pc' := 172) dX9_takeFollower_171 rfl rfl rfl ?_
                    refine Go_getIv (v := (iZ (zbr s.2.2.2.1))) (pc' := 175) dX9_takeFollower_172 rfl kf_RX9_65 (by decide) (by decide) rfl (S.b 71 rfl rfl) (S.o 71 rfl rfl rfl) (R.2.2.2.1.2.2.2.2.1) ?_
                    refine Go_if_neY (tgt := 202) (pc' := 178) dX9_takeFollower_175 (by decide) rfl (by first | exact ⟨i_lo _, i_hi _⟩ | omega) (fun c175 => ?_) (fun c175 => ?_)
                    · refine Go_aload_n (pc' := 203) dX9_takeFollower_202 rfl rfl rfl ?_
                      refine Go_iconst (v := iZ 1) (pc' := 204) dX9_takeFollower_203 rfl (by decide) ?_
                      refine Go_callV_v (pc' := 207) (As := [.int _]) (st := []) dX9_takeFollower_204 rfl ok_X9_refuse km_RX9_89 (S.o 71 rfl rfl rfl) (S.b 71 rfl rfl) ⟨_, _, rfl⟩ rfl (Nat.le_of_ble_eq_true rfl) rfl rfl rfl (Nat.le_of_ble_eq_true rfl) (Nat.lt_succ_self _) ?_
                      refine Go_aload_n (pc' := 1) dX9_refuse_0 rfl rfl rfl ?_
                      refine Go_iload_n (pc' := 2) dX9_refuse_1 rfl rfl rfl ?_
                      refine Go_putI (pc' := 5) dX9_refuse_2 rfl kf_RX9_38 (by decide) (by decide) rfl (S.b 71 rfl rfl) (S.o 71 rfl rfl rfl) (Or.inl rfl) rfl rfl ?_
                      refine Go_aload_n (pc' := 6) dX9_refuse_5 rfl rfl rfl ?_
                      refine Go_aload_n (pc' := 7) dX9_refuse_6 rfl rfl rfl ?_
                      refine Go_getIv (v := (iZ pl)) (pc' := 10) dX9_refuse_7 rfl kf_RX9_68 (by decide) (by decide) rfl (S.b 71 rfl rfl) (S.o 71 rfl rfl rfl) ((vi_skip (Or.inr (by decide))).trans (e4)) ?_
                      refine Go_putI (pc' := 13) dX9_refuse_10 rfl kf_RX9_18 (by decide) (by decide) rfl (S.b 71 rfl rfl) (S.o 71 rfl rfl rfl) (Or.inl rfl) rfl rfl ?_
                      refine Go_return dX9_refuse_13 rfl ?_
                      refine ⟨rfl, ?_⟩
                      refine Go_return dX9_takeFollower_207 rfl ?_
                      refine hk _ ?_
                      unfold zfol
                      rw [if_neg (by omega), if_neg (by omega), if_neg (by omega), if_neg (by omega), if_neg (by omega)]
                      exact TKp.bad (by omega)
                    · refine Go_aload_n (pc' := 179) dX9_takeFollower_178 rfl rfl rfl ?_
                      refine Go_iconst (v := iZ 1) (pc' := 180) dX9_takeFollower_179 rfl (by decide) ?_
                      refine Go_callV_v (pc' := 183) (As := [.int _]) (st := []) dX9_takeFollower_180 rfl ok_X9_release km_RX9_123 (S.o 71 rfl rfl rfl) (S.b 71 rfl rfl) ⟨_, _, rfl⟩ rfl (Nat.le_of_ble_eq_true rfl) rfl rfl rfl (Nat.le_of_ble_eq_true rfl) (Nat.lt_succ_self _) ?_
                      refine s_rel (r := 1) S QP hq hr R.2.2.2.2.1 R.2.2.2.1 (by omega) (fun H1 D1 O1 W1 => ?_)
                      refine ⟨rfl, ?_⟩
                      have S1 := D1.shp S
                      have QP1 := D1.qp QP
                      have hr1_ := (D1.2.2.1 71 16).trans hr
                      refine Go_aload_n (pc' := 184) dX9_takeFollower_183 rfl rfl rfl ?_
                      refine Go_getRs (pc' := 187) dX9_takeFollower_184 rfl kf_RX9_29 (by decide) (by decide) rfl (S1.b 71 rfl rfl) (S1.o 71 rfl rfl rfl) hr1_ ?_
                      refine Go_aload_n (pc' := 188) dX9_takeFollower_187 rfl rfl rfl ?_
                      refine Go_getIv (v := (iZ s.2.1)) (pc' := 191) dX9_takeFollower_188 rfl kf_RX9_96 (by decide) (by decide) rfl (S1.b 71 rfl rfl) (S1.o 71 rfl rfl rfl) (((D1.2.2.2 _ _ (by unfold Pr; omega)).trans R.2.1)) ?_
                      refine Go_callV_v (pc' := 194) (As := [.int _]) (st := []) dX9_takeFollower_191 rfl ok_X8_closeLine km_RX9_126 QP1.2.1 QP1.1 ⟨_, _, rfl⟩ rfl (Nat.le_of_ble_eq_true rfl) rfl rfl rfl (Nat.le_of_ble_eq_true rfl) (Nat.lt_succ_self _) ?_
                      refine s_cline (l := (s.2.2.2.2.2 : Int)) QP1 O1 ((D1.2.2.2 _ _ (by unfold Pr; omega)).trans R.2.2.2.2.2) (fun H2 D2 O2 l2 => ?_)
                      refine ⟨rfl, ?_⟩
                      have S2 := D2.shp S1
                      refine Go_aload_n (pc' := 195) dX9_takeFollower_194 rfl rfl rfl ?_
                      refine Go_iconst (v := iZ 0) (pc' := 196) dX9_takeFollower_195 rfl (by decide) ?_
                      refine Go_putI (pc' := 199) dX9_takeFollower_196 rfl kf_RX9_47 (by decide) (by decide) rfl (S2.b 71 rfl rfl) (S2.o 71 rfl rfl rfl) (Or.inl rfl) rfl rfl ?_
                      refine Go_goto (tgt := 207) dX9_takeFollower_199 (by decide) ?_
                      refine Go_return dX9_takeFollower_207 rfl ?_
                      refine hk _ ?_
                      unfold zfol
                      rw [if_neg (by omega), if_neg (by omega), if_neg (by omega), if_neg (by omega), if_pos (by omega)]
                      exact TKp.line R hq D1 W1 D2 O2 l2
                · refine Go_aload_n (pc' := 144) dX9_takeFollower_143 rfl rfl rfl ?_
                  refine Go_getIv (v := (iZ (zbr s.2.2.2.1))) (pc' := 147) dX9_takeFollower_144 rfl kf_RX9_65 (by decide) (by decide) rfl (S.b 71 rfl rfl) (S.o 71 rfl rfl rfl) (R.2.2.2.1.2.2.2.2.1) ?_
                  refine Go_if_leY (tgt := 157) (pc' := 150) dX9_takeFollower_147 (by decide) rfl (by first | exact ⟨i_lo _, i_hi _⟩ | omega) (fun c147 => ?_) (fun c147 => ?_)
                  · refine Go_iload_n (pc' := 158) dX9_takeFollower_157 rfl rfl rfl ?_
                    refine Go_if_eqY (tgt := 202) (pc' := 161) dX9_takeFollower_158 (by decide) rfl (by first | exact ⟨i_lo _, i_hi _⟩ | omega) (fun c158 => by exfalso; omega) (fun c158 => ?_)
                    refine Go_aload_n (pc' := 162) dX9_takeFollower_161 rfl rfl rfl ?_
                    refine Go_getIv (v := (iZ c)) (pc' := 165) dX9_takeFollower_162 rfl kf_RX9_44 (by decide) (by decide) rfl (S.b 71 rfl rfl) (S.o 71 rfl rfl rfl) (e3) ?_
                    refine Go_sipush (v := iZ 159) (pc' := 168) dX9_takeFollower_165 rfl (by decide) ?_
                    refine Go_icmp_neY (tgt := 202) (pc' := 171) dX9_takeFollower_168 (by decide) rfl (by first | exact ⟨i_lo _, i_hi _⟩ | omega) (by first | exact ⟨i_lo _, i_hi _⟩ | omega) (fun c168 => ?_) (fun c168 => ?_)
                    · refine Go_aload_n (pc' := 203) dX9_takeFollower_202 rfl rfl rfl ?_
                      refine Go_iconst (v := iZ 1) (pc' := 204) dX9_takeFollower_203 rfl (by decide) ?_
                      refine Go_callV_v (pc' := 207) (As := [.int _]) (st := []) dX9_takeFollower_204 rfl ok_X9_refuse km_RX9_89 (S.o 71 rfl rfl rfl) (S.b 71 rfl rfl) ⟨_, _, rfl⟩ rfl (Nat.le_of_ble_eq_true rfl) rfl rfl rfl (Nat.le_of_ble_eq_true rfl) (Nat.lt_succ_self _) ?_
                      refine Go_aload_n (pc' := 1) dX9_refuse_0 rfl rfl rfl ?_
                      refine Go_iload_n (pc' := 2) dX9_refuse_1 rfl rfl rfl ?_
                      refine Go_putI (pc' := 5) dX9_refuse_2 rfl kf_RX9_38 (by decide) (by decide) rfl (S.b 71 rfl rfl) (S.o 71 rfl rfl rfl) (Or.inl rfl) rfl rfl ?_
                      refine Go_aload_n (pc' := 6) dX9_refuse_5 rfl rfl rfl ?_
                      refine Go_aload_n (pc' := 7) dX9_refuse_6 rfl rfl rfl ?_
                      refine Go_getIv (v := (iZ pl)) (pc' := 10) dX9_refuse_7 rfl kf_RX9_68 (by decide) (by decide) rfl (S.b 71 rfl rfl) (S.o 71 rfl rfl rfl) ((vi_skip (Or.inr (by decide))).trans (e4)) ?_
                      refine Go_putI (pc' := 13) dX9_refuse_10 rfl kf_RX9_18 (by decide) (by decide) rfl (S.b 71 rfl rfl) (S.o 71 rfl rfl rfl) (Or.inl rfl) rfl rfl ?_
                      refine Go_return dX9_refuse_13 rfl ?_
                      refine ⟨rfl, ?_⟩
                      refine Go_return dX9_takeFollower_207 rfl ?_
                      refine hk _ ?_
                      unfold zfol
                      rw [if_neg (by omega), if_neg (by omega), if_neg (by omega), if_neg (by omega), if_neg (by omega)]
                      exact TKp.bad (by omega)
                    · refine Go_aload_n (pc' := 172) dX9_takeFollower_171 rfl rfl rfl ?_
                      refine Go_getIv (v := (iZ (zbr s.2.2.2.1))) (pc' := 175) dX9_takeFollower_172 rfl kf_RX9_65 (by decide) (by decide) rfl (S.b 71 rfl rfl) (S.o 71 rfl rfl rfl) (R.2.2.2.1.2.2.2.2.1) ?_
                      refine Go_if_neY (tgt := 202) (pc' := 178) dX9_takeFollower_175 (by decide) rfl (by first | exact ⟨i_lo _, i_hi _⟩ | omega) (fun c175 => ?_) (fun c175 => ?_)
                      · refine Go_aload_n (pc' := 203) dX9_takeFollower_202 rfl rfl rfl ?_
                        refine Go_iconst (v := iZ 1) (pc' := 204) dX9_takeFollower_203 rfl (by decide) ?_
                        refine Go_callV_v (pc' := 207) (As := [.int _]) (st := []) dX9_takeFollower_204 rfl ok_X9_refuse km_RX9_89 (S.o 71 rfl rfl rfl) (S.b 71 rfl rfl) ⟨_, _, rfl⟩ rfl (Nat.le_of_ble_eq_true rfl) rfl rfl rfl (Nat.le_of_ble_eq_true rfl) (Nat.lt_succ_self _) ?_
                        refine Go_aload_n (pc' := 1) dX9_refuse_0 rfl rfl rfl ?_
                        refine Go_iload_n (pc' := 2) dX9_refuse_1 rfl rfl rfl ?_
                        refine Go_putI (pc' := 5) dX9_refuse_2 rfl kf_RX9_38 (by decide) (by decide) rfl (S.b 71 rfl rfl) (S.o 71 rfl rfl rfl) (Or.inl rfl) rfl rfl ?_
                        refine Go_aload_n (pc' := 6) dX9_refuse_5 rfl rfl rfl ?_
                        refine Go_aload_n (pc' := 7) dX9_refuse_6 rfl rfl rfl ?_
                        refine Go_getIv (v := (iZ pl)) (pc' := 10) dX9_refuse_7 rfl kf_RX9_68 (by decide) (by decide) rfl (S.b 71 rfl rfl) (S.o 71 rfl rfl rfl) ((vi_skip (Or.inr (by decide))).trans (e4)) ?_
                        refine Go_putI (pc' := 13) dX9_refuse_10 rfl kf_RX9_18 (by decide) (by decide) rfl (S.b 71 rfl rfl) (S.o 71 rfl rfl rfl) (Or.inl rfl) rfl rfl ?_
                        refine Go_return dX9_refuse_13 rfl ?_
                        refine ⟨rfl, ?_⟩
                        refine Go_return dX9_takeFollower_207 rfl ?_
                        refine hk _ ?_
                        unfold zfol
                        rw [if_neg (by omega), if_neg (by omega), if_neg (by omega), if_neg (by omega), if_neg (by omega)]
                        exact TKp.bad (by omega)
                      · refine Go_aload_n (pc' := 179) dX9_takeFollower_178 rfl rfl rfl ?_
                        refine Go_iconst (v := iZ 1) (pc' := 180) dX9_takeFollower_179 rfl (by decide) ?_
                        refine Go_callV_v (pc' := 183) (As := [.int _]) (st := []) dX9_takeFollower_180 rfl ok_X9_release km_RX9_123 (S.o 71 rfl rfl rfl) (S.b 71 rfl rfl) ⟨_, _, rfl⟩ rfl (Nat.le_of_ble_eq_true rfl) rfl rfl rfl (Nat.le_of_ble_eq_true rfl) (Nat.lt_succ_self _) ?_
                        refine s_rel (r := 1) S QP hq hr R.2.2.2.2.1 R.2.2.2.1 (by omega) (fun H1 D1 O1 W1 => ?_)
                        refine ⟨rfl, ?_⟩
                        have S1 := D1.shp S
                        have QP1 := D1.qp QP
                        have hr1_ := (D1.2.2.1 71 16).trans hr
                        refine Go_aload_n (pc' := 184) dX9_takeFollower_183 rfl rfl rfl ?_
                        refine Go_getRs (pc' := 187) dX9_takeFollower_184 rfl kf_RX9_29 (by decide) (by decide) rfl (S1.b 71 rfl rfl) (S1.o 71 rfl rfl rfl) hr1_ ?_
                        refine Go_aload_n (pc' := 188) dX9_takeFollower_187 rfl rfl rfl ?_
                        refine Go_getIv (v := (iZ s.2.1)) (pc' := 191) dX9_takeFollower_188 rfl kf_RX9_96 (by decide) (by decide) rfl (S1.b 71 rfl rfl) (S1.o 71 rfl rfl rfl) (((D1.2.2.2 _ _ (by unfold Pr; omega)).trans R.2.1)) ?_
                        refine Go_callV_v (pc' := 194) (As := [.int _]) (st := []) dX9_takeFollower_191 rfl ok_X8_closeLine km_RX9_126 QP1.2.1 QP1.1 ⟨_, _, rfl⟩ rfl (Nat.le_of_ble_eq_true rfl) rfl rfl rfl (Nat.le_of_ble_eq_true rfl) (Nat.lt_succ_self _) ?_
                        refine s_cline (l := (s.2.2.2.2.2 : Int)) QP1 O1 ((D1.2.2.2 _ _ (by unfold Pr; omega)).trans R.2.2.2.2.2) (fun H2 D2 O2 l2 => ?_)
                        refine ⟨rfl, ?_⟩
                        have S2 := D2.shp S1
                        refine Go_aload_n (pc' := 195) dX9_takeFollower_194 rfl rfl rfl ?_
                        refine Go_iconst (v := iZ 0) (pc' := 196) dX9_takeFollower_195 rfl (by decide) ?_
                        refine Go_putI (pc' := 199) dX9_takeFollower_196 rfl kf_RX9_47 (by decide) (by decide) rfl (S2.b 71 rfl rfl) (S2.o 71 rfl rfl rfl) (Or.inl rfl) rfl rfl ?_
                        refine Go_goto (tgt := 207) dX9_takeFollower_199 (by decide) ?_
                        refine Go_return dX9_takeFollower_207 rfl ?_
                        refine hk _ ?_
                        unfold zfol
                        rw [if_neg (by omega), if_neg (by omega), if_neg (by omega), if_neg (by omega), if_pos (by omega)]
                        exact TKp.line R hq D1 W1 D2 O2 l2
                  · refine Go_aload_n (pc' := 151) dX9_takeFollower_150 rfl rfl rfl ?_
                    refine Go_callV_v (pc' := 154) (As := []) (st := []) dX9_takeFollower_151 rfl ok_X9_closeBracket km_RX9_120 (S.o 71 rfl rfl rfl) (S.b 71 rfl rfl) ⟨_, _, rfl⟩ rfl (Nat.le_of_ble_eq_true rfl) rfl rfl rfl (Nat.le_of_ble_eq_true rfl) (Nat.lt_succ_self _) ?_
                    refine s_close S QP hq hr R e3 hc e4 e5 (by omega) (fun H1 T1 => ?_)
                    refine ⟨rfl, ?_⟩
                    refine Go_goto (tgt := 207) dX9_takeFollower_154 (by decide) ?_
                    refine Go_return dX9_takeFollower_207 rfl ?_
                    refine hk _ ?_
                    unfold zfol
                    rw [if_neg (by omega), if_neg (by omega), if_neg (by omega), if_pos (by omega)]
                    exact T1
              · refine Go_aload_n (pc' := 121) dX9_takeFollower_120 rfl rfl rfl ?_
                refine Go_iload_n (pc' := 122) dX9_takeFollower_121 rfl rfl rfl ?_
                refine Go_iconst (v := iZ 2) (pc' := 123) dX9_takeFollower_122 rfl (by decide) ?_
                refine Go_callV_v (pc' := 126) (As := [.int _, .int _]) (st := []) dX9_takeFollower_123 rfl ok_X9_takeJoint km_RX9_116 (S.o 71 rfl rfl rfl) (S.b 71 rfl rfl) ⟨_, _, rfl⟩ rfl (Nat.le_of_ble_eq_true rfl) rfl rfl rfl (Nat.le_of_ble_eq_true rfl) (Nat.lt_succ_self _) ?_
                refine s_joint (r := zrk c) (nx := 2) S QP hq hr R e3 hc e4 e5 (zrk_wt (by omega)).1 (by omega) (fun H1 T1 => ?_)
                refine ⟨rfl, ?_⟩
                refine Go_goto (tgt := 207) dX9_takeFollower_126 (by decide) ?_
                refine Go_return dX9_takeFollower_207 rfl ?_
                refine hk _ ?_
                unfold zfol
                rw [if_neg (by omega), if_neg (by omega), if_pos (by omega)]
                exact T1
          · refine Go_aload_n (pc' := 86) dX9_takeFollower_85 rfl rfl rfl ?_
            refine Go_getIv (v := (iZ s.2.2.1)) (pc' := 89) dX9_takeFollower_86 rfl kf_RX9_99 (by decide) (by decide) rfl (S.b 71 rfl rfl) (S.o 71 rfl rfl rfl) (e8) ?_
            refine Go_if_neY (tgt := 106) (pc' := 92) dX9_takeFollower_89 (by decide) rfl (by first | exact ⟨i_lo _, i_hi _⟩ | omega) (fun c89 => ?_) (fun c89 => ?_)
            · refine Go_iload_n (pc' := 107) dX9_takeFollower_106 rfl rfl rfl ?_
              refine Go_if_eqY (tgt := 129) (pc' := 110) dX9_takeFollower_107 (by decide) rfl (by first | exact ⟨i_lo _, i_hi _⟩ | omega) (fun c107 => by exfalso; omega) (fun c107 => ?_)
              refine Go_iload_n (pc' := 111) dX9_takeFollower_110 rfl rfl rfl ?_
              refine Go_iconst (v := iZ 1) (pc' := 112) dX9_takeFollower_111 rfl (by decide) ?_
              refine Go_icmp_eqY (tgt := 120) (pc' := 115) dX9_takeFollower_112 (by decide) rfl (by first | exact ⟨i_lo _, i_hi _⟩ | omega) (by first | exact ⟨i_lo _, i_hi _⟩ | omega) (fun c112 => ?_) (fun c112 => ?_)
              · refine Go_aload_n (pc' := 121) dX9_takeFollower_120 rfl rfl rfl ?_
                refine Go_iload_n (pc' := 122) dX9_takeFollower_121 rfl rfl rfl ?_
                refine Go_iconst (v := iZ 2) (pc' := 123) dX9_takeFollower_122 rfl (by decide) ?_
                refine Go_callV_v (pc' := 126) (As := [.int _, .int _]) (st := []) dX9_takeFollower_123 rfl ok_X9_takeJoint km_RX9_116 (S.o 71 rfl rfl rfl) (S.b 71 rfl rfl) ⟨_, _, rfl⟩ rfl (Nat.le_of_ble_eq_true rfl) rfl rfl rfl (Nat.le_of_ble_eq_true rfl) (Nat.lt_succ_self _) ?_
                refine s_joint (r := zrk c) (nx := 2) S QP hq hr R e3 hc e4 e5 (zrk_wt (by omega)).1 (by omega) (fun H1 T1 => ?_)
                refine ⟨rfl, ?_⟩
                refine Go_goto (tgt := 207) dX9_takeFollower_126 (by decide) ?_
                refine Go_return dX9_takeFollower_207 rfl ?_
                refine hk _ ?_
                unfold zfol
                rw [if_neg (by omega), if_neg (by omega), if_pos (by omega)]
                exact T1
              · refine Go_iload_n (pc' := 116) dX9_takeFollower_115 rfl rfl rfl ?_
                refine Go_iconst (v := iZ 2) (pc' := 117) dX9_takeFollower_116 rfl (by decide) ?_
                refine Go_icmp_neY (tgt := 129) (pc' := 120) dX9_takeFollower_117 (by decide) rfl (by first | exact ⟨i_lo _, i_hi _⟩ | omega) (by first | exact ⟨i_lo _, i_hi _⟩ | omega) (fun c117 => ?_) (fun c117 => ?_)
                · refine Go_iload_n (pc' := 130) dX9_takeFollower_129 rfl rfl rfl ?_
                  refine Go_if_eqY (tgt := 157) (pc' := 133) dX9_takeFollower_130 (by decide) rfl (by first | exact ⟨i_lo _, i_hi _⟩ | omega) (fun c130 => by exfalso; omega) (fun c130 => ?_)
                  refine Go_aload_n (pc' := 134) dX9_takeFollower_133 rfl rfl rfl ?_
                  refine Go_getIv (v := (iZ c)) (pc' := 137) dX9_takeFollower_134 rfl kf_RX9_44 (by decide) (by decide) rfl (S.b 71 rfl rfl) (S.o 71 rfl rfl rfl) (e3) ?_
                  refine Go_sipush (v := iZ 141) (pc' := 140) dX9_takeFollower_137 rfl (by decide) ?_
                  refine Go_icmp_neY (tgt := 157) (pc' := 143) dX9_takeFollower_140 (by decide) rfl (by first | exact ⟨i_lo _, i_hi _⟩ | omega) (by first | exact ⟨i_lo _, i_hi _⟩ | omega) (fun c140 => ?_) (fun c140 => ?_)
                  · refine Go_iload_n (pc' := 158) dX9_takeFollower_157 rfl rfl rfl ?_
                    refine Go_if_eqY (tgt := 202) (pc' := 161) dX9_takeFollower_158 (by decide) rfl (by first | exact ⟨i_lo _, i_hi _⟩ | omega) (fun c158 => by exfalso; omega) (fun c158 => ?_)
                    refine Go_aload_n (pc' := 162) dX9_takeFollower_161 rfl rfl rfl ?_
                    refine Go_getIv (v := (iZ c)) (pc' := 165) dX9_takeFollower_162 rfl kf_RX9_44 (by decide) (by decide) rfl (S.b 71 rfl rfl) (S.o 71 rfl rfl rfl) (e3) ?_
                    refine Go_sipush (v := iZ 159) (pc' := 168) dX9_takeFollower_165 rfl (by decide) ?_
                    refine Go_icmp_neY (tgt := 202) (pc' := 171) dX9_takeFollower_168 (by decide) rfl (by first | exact ⟨i_lo _, i_hi _⟩ | omega) (by first | exact ⟨i_lo _, i_hi _⟩ | omega) (fun c168 => ?_) (fun c168 => ?_)
                    · refine Go_aload_n (pc' := 203) dX9_takeFollower_202 rfl rfl rfl ?_
                      refine Go_iconst (v := iZ 1) (pc' := 204) dX9_takeFollower_203 rfl (by decide) ?_
                      refine Go_callV_v (pc' := 207) (As := [.int _]) (st := []) dX9_takeFollower_204 rfl ok_X9_refuse km_RX9_89 (S.o 71 rfl rfl rfl) (S.b 71 rfl rfl) ⟨_, _, rfl⟩ rfl (Nat.le_of_ble_eq_true rfl) rfl rfl rfl (Nat.le_of_ble_eq_true rfl) (Nat.lt_succ_self _) ?_
                      refine Go_aload_n (pc' := 1) dX9_refuse_0 rfl rfl rfl ?_
                      refine Go_iload_n (pc' := 2) dX9_refuse_1 rfl rfl rfl ?_
                      refine Go_putI (pc' := 5) dX9_refuse_2 rfl kf_RX9_38 (by decide) (by decide) rfl (S.b 71 rfl rfl) (S.o 71 rfl rfl rfl) (Or.inl rfl) rfl rfl ?_
                      refine Go_aload_n (pc' := 6) dX9_refuse_5 rfl rfl rfl ?_
                      refine Go_aload_n (pc' := 7) dX9_refuse_6 rfl rfl rfl ?_
                      refine Go_getIv (v := (iZ pl)) (pc' := 10) dX9_refuse_7 rfl kf_RX9_68 (by decide) (by decide) rfl (S.b 71 rfl rfl) (S.o 71 rfl rfl rfl) ((vi_skip (Or.inr (by decide))).trans (e4)) ?_
                      refine Go_putI (pc' := 13) dX9_refuse_10 rfl kf_RX9_18 (by decide) (by decide) rfl (S.b 71 rfl rfl) (S.o 71 rfl rfl rfl) (Or.inl rfl) rfl rfl ?_
                      refine Go_return dX9_refuse_13 rfl ?_
                      refine ⟨rfl, ?_⟩
                      refine Go_return dX9_takeFollower_207 rfl ?_
                      refine hk _ ?_
                      unfold zfol
                      rw [if_neg (by omega), if_neg (by omega), if_neg (by omega), if_neg (by omega), if_neg (by omega)]
                      exact TKp.bad (by omega)
                    · refine Go_aload_n (pc' := 172) dX9_takeFollower_171 rfl rfl rfl ?_
                      refine Go_getIv (v := (iZ (zbr s.2.2.2.1))) (pc' := 175) dX9_takeFollower_172 rfl kf_RX9_65 (by decide) (by decide) rfl (S.b 71 rfl rfl) (S.o 71 rfl rfl rfl) (R.2.2.2.1.2.2.2.2.1) ?_
                      refine Go_if_neY (tgt := 202) (pc' := 178) dX9_takeFollower_175 (by decide) rfl (by first | exact ⟨i_lo _, i_hi _⟩ | omega) (fun c175 => ?_) (fun c175 => ?_)
                      · refine Go_aload_n (pc' := 203) dX9_takeFollower_202 rfl rfl rfl ?_
                        refine Go_iconst (v := iZ 1) (pc' := 204) dX9_takeFollower_203 rfl (by decide) ?_
                        refine Go_callV_v (pc' := 207) (As := [.int _]) (st := []) dX9_takeFollower_204 rfl ok_X9_refuse km_RX9_89 (S.o 71 rfl rfl rfl) (S.b 71 rfl rfl) ⟨_, _, rfl⟩ rfl (Nat.le_of_ble_eq_true rfl) rfl rfl rfl (Nat.le_of_ble_eq_true rfl) (Nat.lt_succ_self _) ?_
                        refine Go_aload_n (pc' := 1) dX9_refuse_0 rfl rfl rfl ?_
                        refine Go_iload_n (pc' := 2) dX9_refuse_1 rfl rfl rfl ?_
                        refine Go_putI (pc' := 5) dX9_refuse_2 rfl kf_RX9_38 (by decide) (by decide) rfl (S.b 71 rfl rfl) (S.o 71 rfl rfl rfl) (Or.inl rfl) rfl rfl ?_
                        refine Go_aload_n (pc' := 6) dX9_refuse_5 rfl rfl rfl ?_
                        refine Go_aload_n (pc' := 7) dX9_refuse_6 rfl rfl rfl ?_
                        refine Go_getIv (v := (iZ pl)) (pc' := 10) dX9_refuse_7 rfl kf_RX9_68 (by decide) (by decide) rfl (S.b 71 rfl rfl) (S.o 71 rfl rfl rfl) ((vi_skip (Or.inr (by decide))).trans (e4)) ?_
                        refine Go_putI (pc' := 13) dX9_refuse_10 rfl kf_RX9_18 (by decide) (by decide) rfl (S.b 71 rfl rfl) (S.o 71 rfl rfl rfl) (Or.inl rfl) rfl rfl ?_
                        refine Go_return dX9_refuse_13 rfl ?_
                        refine ⟨rfl, ?_⟩
                        refine Go_return dX9_takeFollower_207 rfl ?_
                        refine hk _ ?_
                        unfold zfol
                        rw [if_neg (by omega), if_neg (by omega), if_neg (by omega), if_neg (by omega), if_neg (by omega)]
                        exact TKp.bad (by omega)
                      · refine Go_aload_n (pc' := 179) dX9_takeFollower_178 rfl rfl rfl ?_
                        refine Go_iconst (v := iZ 1) (pc' := 180) dX9_takeFollower_179 rfl (by decide) ?_
                        refine Go_callV_v (pc' := 183) (As := [.int _]) (st := []) dX9_takeFollower_180 rfl ok_X9_release km_RX9_123 (S.o 71 rfl rfl rfl) (S.b 71 rfl rfl) ⟨_, _, rfl⟩ rfl (Nat.le_of_ble_eq_true rfl) rfl rfl rfl (Nat.le_of_ble_eq_true rfl) (Nat.lt_succ_self _) ?_
                        refine s_rel (r := 1) S QP hq hr R.2.2.2.2.1 R.2.2.2.1 (by omega) (fun H1 D1 O1 W1 => ?_)
                        refine ⟨rfl, ?_⟩
                        have S1 := D1.shp S
                        have QP1 := D1.qp QP
                        have hr1_ := (D1.2.2.1 71 16).trans hr
                        refine Go_aload_n (pc' := 184) dX9_takeFollower_183 rfl rfl rfl ?_
                        refine Go_getRs (pc' := 187) dX9_takeFollower_184 rfl kf_RX9_29 (by decide) (by decide) rfl (S1.b 71 rfl rfl) (S1.o 71 rfl rfl rfl) hr1_ ?_
                        refine Go_aload_n (pc' := 188) dX9_takeFollower_187 rfl rfl rfl ?_
                        refine Go_getIv (v := (iZ s.2.1)) (pc' := 191) dX9_takeFollower_188 rfl kf_RX9_96 (by decide) (by decide) rfl (S1.b 71 rfl rfl) (S1.o 71 rfl rfl rfl) (((D1.2.2.2 _ _ (by unfold Pr; omega)).trans R.2.1)) ?_
                        refine Go_callV_v (pc' := 194) (As := [.int _]) (st := []) dX9_takeFollower_191 rfl ok_X8_closeLine km_RX9_126 QP1.2.1 QP1.1 ⟨_, _, rfl⟩ rfl (Nat.le_of_ble_eq_true rfl) rfl rfl rfl (Nat.le_of_ble_eq_true rfl) (Nat.lt_succ_self _) ?_
                        refine s_cline (l := (s.2.2.2.2.2 : Int)) QP1 O1 ((D1.2.2.2 _ _ (by unfold Pr; omega)).trans R.2.2.2.2.2) (fun H2 D2 O2 l2 => ?_)
                        refine ⟨rfl, ?_⟩
                        have S2 := D2.shp S1
                        refine Go_aload_n (pc' := 195) dX9_takeFollower_194 rfl rfl rfl ?_
                        refine Go_iconst (v := iZ 0) (pc' := 196) dX9_takeFollower_195 rfl (by decide) ?_
                        refine Go_putI (pc' := 199) dX9_takeFollower_196 rfl kf_RX9_47 (by decide) (by decide) rfl (S2.b 71 rfl rfl) (S2.o 71 rfl rfl rfl) (Or.inl rfl) rfl rfl ?_
                        refine Go_goto (tgt := 207) dX9_takeFollower_199 (by decide) ?_
                        refine Go_return dX9_takeFollower_207 rfl ?_
                        refine hk _ ?_
                        unfold zfol
                        rw [if_neg (by omega), if_neg (by omega), if_neg (by omega), if_neg (by omega), if_pos (by omega)]
                        exact TKp.line R hq D1 W1 D2 O2 l2
                  · refine Go_aload_n (pc' := 144) dX9_takeFollower_143 rfl rfl rfl ?_
                    refine Go_getIv (v := (iZ (zbr s.2.2.2.1))) (pc' := 147) dX9_takeFollower_144 rfl kf_RX9_65 (by decide) (by decide) rfl (S.b 71 rfl rfl) (S.o 71 rfl rfl rfl) (R.2.2.2.1.2.2.2.2.1) ?_
                    refine Go_if_leY (tgt := 157) (pc' := 150) dX9_takeFollower_147 (by decide) rfl (by first | exact ⟨i_lo _, i_hi _⟩ | omega) (fun c147 => ?_) (fun c147 => ?_)
                    · refine Go_iload_n (pc' := 158) dX9_takeFollower_157 rfl rfl rfl ?_
                      refine Go_if_eqY (tgt := 202) (pc' := 161) dX9_takeFollower_158 (by decide) rfl (by first | exact ⟨i_lo _, i_hi _⟩ | omega) (fun c158 => by exfalso; omega) (fun c158 => ?_)
                      refine Go_aload_n (pc' := 162) dX9_takeFollower_161 rfl rfl rfl ?_
                      refine Go_getIv (v := (iZ c)) (pc' := 165) dX9_takeFollower_162 rfl kf_RX9_44 (by decide) (by decide) rfl (S.b 71 rfl rfl) (S.o 71 rfl rfl rfl) (e3) ?_
                      refine Go_sipush (v := iZ 159) (pc' := 168) dX9_takeFollower_165 rfl (by decide) ?_
                      refine Go_icmp_neY (tgt := 202) (pc' := 171) dX9_takeFollower_168 (by decide) rfl (by first | exact ⟨i_lo _, i_hi _⟩ | omega) (by first | exact ⟨i_lo _, i_hi _⟩ | omega) (fun c168 => ?_) (fun c168 => ?_)
                      · refine Go_aload_n (pc' := 203) dX9_takeFollower_202 rfl rfl rfl ?_
                        refine Go_iconst (v := iZ 1) (pc' := 204) dX9_takeFollower_203 rfl (by decide) ?_
                        refine Go_callV_v (pc' := 207) (As := [.int _]) (st := []) dX9_takeFollower_204 rfl ok_X9_refuse km_RX9_89 (S.o 71 rfl rfl rfl) (S.b 71 rfl rfl) ⟨_, _, rfl⟩ rfl (Nat.le_of_ble_eq_true rfl) rfl rfl rfl (Nat.le_of_ble_eq_true rfl) (Nat.lt_succ_self _) ?_
                        refine Go_aload_n (pc' := 1) dX9_refuse_0 rfl rfl rfl ?_
                        refine Go_iload_n (pc' := 2) dX9_refuse_1 rfl rfl rfl ?_
                        refine Go_putI (pc' := 5) dX9_refuse_2 rfl kf_RX9_38 (by decide) (by decide) rfl (S.b 71 rfl rfl) (S.o 71 rfl rfl rfl) (Or.inl rfl) rfl rfl ?_
                        refine Go_aload_n (pc' := 6) dX9_refuse_5 rfl rfl rfl ?_
                        refine Go_aload_n (pc' := 7) dX9_refuse_6 rfl rfl rfl ?_
                        refine Go_getIv (v := (iZ pl)) (pc' := 10) dX9_refuse_7 rfl kf_RX9_68 (by decide) (by decide) rfl (S.b 71 rfl rfl) (S.o 71 rfl rfl rfl) ((vi_skip (Or.inr (by decide))).trans (e4)) ?_
                        refine Go_putI (pc' := 13) dX9_refuse_10 rfl kf_RX9_18 (by decide) (by decide) rfl (S.b 71 rfl rfl) (S.o 71 rfl rfl rfl) (Or.inl rfl) rfl rfl ?_
                        refine Go_return dX9_refuse_13 rfl ?_
                        refine ⟨rfl, ?_⟩
                        refine Go_return dX9_takeFollower_207 rfl ?_
                        refine hk _ ?_
                        unfold zfol
                        rw [if_neg (by omega), if_neg (by omega), if_neg (by omega), if_neg (by omega), if_neg (by omega)]
                        exact TKp.bad (by omega)
                      · refine Go_aload_n (pc' := 172) dX9_takeFollower_171 rfl rfl rfl ?_
                        refine Go_getIv (v := (iZ (zbr s.2.2.2.1))) (pc' := 175) dX9_takeFollower_172 rfl kf_RX9_65 (by decide) (by decide) rfl (S.b 71 rfl rfl) (S.o 71 rfl rfl rfl) (R.2.2.2.1.2.2.2.2.1) ?_
                        refine Go_if_neY (tgt := 202) (pc' := 178) dX9_takeFollower_175 (by decide) rfl (by first | exact ⟨i_lo _, i_hi _⟩ | omega) (fun c175 => ?_) (fun c175 => ?_)
                        · refine Go_aload_n (pc' := 203) dX9_takeFollower_202 rfl rfl rfl ?_
                          refine Go_iconst (v := iZ 1) (pc' := 204) dX9_takeFollower_203 rfl (by decide) ?_
                          refine Go_callV_v (pc' := 207) (As := [.int _]) (st := []) dX9_takeFollower_204 rfl ok_X9_refuse km_RX9_89 (S.o 71 rfl rfl rfl) (S.b 71 rfl rfl) ⟨_, _, rfl⟩ rfl (Nat.le_of_ble_eq_true rfl) rfl rfl rfl (Nat.le_of_ble_eq_true rfl) (Nat.lt_succ_self _) ?_
                          refine Go_aload_n (pc' := 1) dX9_refuse_0 rfl rfl rfl ?_
                          refine Go_iload_n (pc' := 2) dX9_refuse_1 rfl rfl rfl ?_
                          refine Go_putI (pc' := 5) dX9_refuse_2 rfl kf_RX9_38 (by decide) (by decide) rfl (S.b 71 rfl rfl) (S.o 71 rfl rfl rfl) (Or.inl rfl) rfl rfl ?_
                          refine Go_aload_n (pc' := 6) dX9_refuse_5 rfl rfl rfl ?_
                          refine Go_aload_n (pc' := 7) dX9_refuse_6 rfl rfl rfl ?_
                          refine Go_getIv (v := (iZ pl)) (pc' := 10) dX9_refuse_7 rfl kf_RX9_68 (by decide) (by decide) rfl (S.b 71 rfl rfl) (S.o 71 rfl rfl rfl) ((vi_skip (Or.inr (by decide))).trans (e4)) ?_
                          refine Go_putI (pc' := 13) dX9_refuse_10 rfl kf_RX9_18 (by decide) (by decide) rfl (S.b 71 rfl rfl) (S.o 71 rfl rfl rfl) (Or.inl rfl) rfl rfl ?_
                          refine Go_return dX9_refuse_13 rfl ?_
                          refine ⟨rfl, ?_⟩
                          refine Go_return dX9_takeFollower_207 rfl ?_
                          refine hk _ ?_
                          unfold zfol
                          rw [if_neg (by omega), if_neg (by omega), if_neg (by omega), if_neg (by omega), if_neg (by omega)]
                          exact TKp.bad (by omega)
                        · refine Go_aload_n (pc' := 179) dX9_takeFollower_178 rfl rfl rfl ?_
                          refine Go_iconst (v := iZ 1) (pc' := 180) dX9_takeFollower_179 rfl (by decide) ?_
                          refine Go_callV_v (pc' := 183) (As := [.int _]) (st := []) dX9_takeFollower_180 rfl ok_X9_release km_RX9_123 (S.o 71 rfl rfl rfl) (S.b 71 rfl rfl) ⟨_, _, rfl⟩ rfl (Nat.le_of_ble_eq_true rfl) rfl rfl rfl (Nat.le_of_ble_eq_true rfl) (Nat.lt_succ_self _) ?_
                          refine s_rel (r := 1) S QP hq hr R.2.2.2.2.1 R.2.2.2.1 (by omega) (fun H1 D1 O1 W1 => ?_)
                          refine ⟨rfl, ?_⟩
                          have S1 := D1.shp S
                          have QP1 := D1.qp QP
                          have hr1_ := (D1.2.2.1 71 16).trans hr
                          refine Go_aload_n (pc' := 184) dX9_takeFollower_183 rfl rfl rfl ?_
                          refine Go_getRs (pc' := 187) dX9_takeFollower_184 rfl kf_RX9_29 (by decide) (by decide) rfl (S1.b 71 rfl rfl) (S1.o 71 rfl rfl rfl) hr1_ ?_
                          refine Go_aload_n (pc' := 188) dX9_takeFollower_187 rfl rfl rfl ?_
                          refine Go_getIv (v := (iZ s.2.1)) (pc' := 191) dX9_takeFollower_188 rfl kf_RX9_96 (by decide) (by decide) rfl (S1.b 71 rfl rfl) (S1.o 71 rfl rfl rfl) (((D1.2.2.2 _ _ (by unfold Pr; omega)).trans R.2.1)) ?_
                          refine Go_callV_v (pc' := 194) (As := [.int _]) (st := []) dX9_takeFollower_191 rfl ok_X8_closeLine km_RX9_126 QP1.2.1 QP1.1 ⟨_, _, rfl⟩ rfl (Nat.le_of_ble_eq_true rfl) rfl rfl rfl (Nat.le_of_ble_eq_true rfl) (Nat.lt_succ_self _) ?_
                          refine s_cline (l := (s.2.2.2.2.2 : Int)) QP1 O1 ((D1.2.2.2 _ _ (by unfold Pr; omega)).trans R.2.2.2.2.2) (fun H2 D2 O2 l2 => ?_)
                          refine ⟨rfl, ?_⟩
                          have S2 := D2.shp S1
                          refine Go_aload_n (pc' := 195) dX9_takeFollower_194 rfl rfl rfl ?_
                          refine Go_iconst (v := iZ 0) (pc' := 196) dX9_takeFollower_195 rfl (by decide) ?_
                          refine Go_putI (pc' := 199) dX9_takeFollower_196 rfl kf_RX9_47 (by decide) (by decide) rfl (S2.b 71 rfl rfl) (S2.o 71 rfl rfl rfl) (Or.inl rfl) rfl rfl ?_
                          refine Go_goto (tgt := 207) dX9_takeFollower_199 (by decide) ?_
                          refine Go_return dX9_takeFollower_207 rfl ?_
                          refine hk _ ?_
                          unfold zfol
                          rw [if_neg (by omega), if_neg (by omega), if_neg (by omega), if_neg (by omega), if_pos (by omega)]
                          exact TKp.line R hq D1 W1 D2 O2 l2
                    · refine Go_aload_n (pc' := 151) dX9_takeFollower_150 rfl rfl rfl ?_
                      refine Go_callV_v (pc' := 154) (As := []) (st := []) dX9_takeFollower_151 rfl ok_X9_closeBracket km_RX9_120 (S.o 71 rfl rfl rfl) (S.b 71 rfl rfl) ⟨_, _, rfl⟩ rfl (Nat.le_of_ble_eq_true rfl) rfl rfl rfl (Nat.le_of_ble_eq_true rfl) (Nat.lt_succ_self _) ?_
                      refine s_close S QP hq hr R e3 hc e4 e5 (by omega) (fun H1 T1 => ?_)
                      refine ⟨rfl, ?_⟩
                      refine Go_goto (tgt := 207) dX9_takeFollower_154 (by decide) ?_
                      refine Go_return dX9_takeFollower_207 rfl ?_
                      refine hk _ ?_
                      unfold zfol
                      rw [if_neg (by omega), if_neg (by omega), if_neg (by omega), if_pos (by omega)]
                      exact T1
                · refine Go_aload_n (pc' := 121) dX9_takeFollower_120 rfl rfl rfl ?_
                  refine Go_iload_n (pc' := 122) dX9_takeFollower_121 rfl rfl rfl ?_
                  refine Go_iconst (v := iZ 2) (pc' := 123) dX9_takeFollower_122 rfl (by decide) ?_
                  refine Go_callV_v (pc' := 126) (As := [.int _, .int _]) (st := []) dX9_takeFollower_123 rfl ok_X9_takeJoint km_RX9_116 (S.o 71 rfl rfl rfl) (S.b 71 rfl rfl) ⟨_, _, rfl⟩ rfl (Nat.le_of_ble_eq_true rfl) rfl rfl rfl (Nat.le_of_ble_eq_true rfl) (Nat.lt_succ_self _) ?_
                  refine s_joint (r := zrk c) (nx := 2) S QP hq hr R e3 hc e4 e5 (zrk_wt (by omega)).1 (by omega) (fun H1 T1 => ?_)
                  refine ⟨rfl, ?_⟩
                  refine Go_goto (tgt := 207) dX9_takeFollower_126 (by decide) ?_
                  refine Go_return dX9_takeFollower_207 rfl ?_
                  refine hk _ ?_
                  unfold zfol
                  rw [if_neg (by omega), if_neg (by omega), if_pos (by omega)]
                  exact T1
            · refine Go_aload_n (pc' := 93) dX9_takeFollower_92 rfl rfl rfl ?_
              refine Go_iconst (v := iZ 1) (pc' := 94) dX9_takeFollower_93 rfl (by decide) ?_
              refine Go_putI (pc' := 97) dX9_takeFollower_94 rfl kf_RX9_99 (by decide) (by decide) rfl (S.b 71 rfl rfl) (S.o 71 rfl rfl rfl) (Or.inl rfl) rfl rfl ?_
              refine Go_aload_n (pc' := 98) dX9_takeFollower_97 rfl rfl rfl ?_
              refine Go_iload_n (pc' := 99) dX9_takeFollower_98 rfl rfl rfl ?_
              refine Go_iconst (v := iZ 3) (pc' := 100) dX9_takeFollower_99 rfl (by decide) ?_
              refine Go_callV_v (pc' := 103) (As := [.int _, .int _]) (st := []) dX9_takeFollower_100 rfl ok_X9_takeJoint km_RX9_116 (S.o 71 rfl rfl rfl) (S.b 71 rfl rfl) ⟨_, _, rfl⟩ rfl (Nat.le_of_ble_eq_true rfl) rfl rfl rfl (Nat.le_of_ble_eq_true rfl) (Nat.lt_succ_self _) ?_
              refine s_joint (r := zrk c) (nx := 3) (s := (s.1, s.2.1, 1, s.2.2.2.1, s.2.2.2.2.1, s.2.2.2.2.2)) S QP hq hr (RS6.w8 1 (by omega) R hq) ((vi_skip (by decide)).trans e3) hc ((vi_skip (by decide)).trans e4) (fun z => (vi_skip (by decide)).trans (e5 z)) (zrk_wt (by omega)).1 (by omega) (fun H1 T1 => ?_)
              refine ⟨rfl, ?_⟩
              refine Go_goto (tgt := 207) dX9_takeFollower_103 (by decide) ?_
              refine Go_return dX9_takeFollower_207 rfl ?_
              refine hk _ ?_
              unfold zfol
              rw [if_neg (by omega), if_pos (by omega)]
              exact T1.pre (DX.wI (DX.rf (fun i k => i = 71 ∧ k = 8) H) (by omega)) (fun i k z => by unfold Pk; omega)
      · refine Go_iload_n (pc' := 39) dX9_takeFollower_38 rfl rfl rfl ?_
        refine Go_iconst (v := iZ 5) (pc' := 40) dX9_takeFollower_39 rfl (by decide) ?_
        refine Go_icmp_eqY (tgt := 49) (pc' := 43) dX9_takeFollower_40 (by decide) rfl (by first | exact ⟨i_lo _, i_hi _⟩ | omega) (by first | exact ⟨i_lo _, i_hi _⟩ | omega) (fun c40 => ?_) (fun c40 => ?_)
        · refine Go_aload_n (pc' := 50) dX9_takeFollower_49 rfl rfl rfl ?_
          refine Go_iload_n (pc' := 51) dX9_takeFollower_50 rfl rfl rfl ?_
          refine Go_aload_n (pc' := 52) dX9_takeFollower_51 rfl rfl rfl ?_
          refine Go_getIv (v := (iZ c)) (pc' := 55) dX9_takeFollower_52 rfl kf_RX9_44 (by decide) (by decide) rfl (S.b 71 rfl rfl) (S.o 71 rfl rfl rfl) (e3) ?_
          refine Go_sipush (v := iZ 147) (pc' := 58) dX9_takeFollower_55 rfl (by decide) ?_
          refine Go_icmp_neY (tgt := 65) (pc' := 61) dX9_takeFollower_58 (by decide) rfl (by first | exact ⟨i_lo _, i_hi _⟩ | omega) (by first | exact ⟨i_lo _, i_hi _⟩ | omega) (fun c58 => ?_) (fun c58 => ?_)
          · refine Go_iconst (v := iZ 3) (pc' := 66) dX9_takeFollower_65 rfl (by decide) ?_
            refine Go_callV_v (pc' := 69) (As := [.int _, .int _]) (st := []) dX9_takeFollower_66 rfl ok_X9_takeJoint km_RX9_116 (S.o 71 rfl rfl rfl) (S.b 71 rfl rfl) ⟨_, _, rfl⟩ rfl (Nat.le_of_ble_eq_true rfl) rfl rfl rfl (Nat.le_of_ble_eq_true rfl) (Nat.lt_succ_self _) ?_
            refine s_joint (r := zrk c) (nx := 3) S QP hq hr R e3 hc e4 e5 (zrk_wt (by omega)).1 (by omega) (fun H1 T1 => ?_)
            refine ⟨rfl, ?_⟩
            refine Go_goto (tgt := 207) dX9_takeFollower_69 (by decide) ?_
            refine Go_return dX9_takeFollower_207 rfl ?_
            refine hk _ ?_
            unfold zfol
            rw [if_pos (by omega)]
            rw [if_neg (by omega)]
            exact T1
          · refine Go_iconst (v := iZ 4) (pc' := 62) dX9_takeFollower_61 rfl (by decide) ?_
            refine Go_goto (tgt := 66) dX9_takeFollower_62 (by decide) ?_
            refine Go_callV_v (pc' := 69) (As := [.int _, .int _]) (st := []) dX9_takeFollower_66 rfl ok_X9_takeJoint km_RX9_116 (S.o 71 rfl rfl rfl) (S.b 71 rfl rfl) ⟨_, _, rfl⟩ rfl (Nat.le_of_ble_eq_true rfl) rfl rfl rfl (Nat.le_of_ble_eq_true rfl) (Nat.lt_succ_self _) ?_
            refine s_joint (r := zrk c) (nx := 4) S QP hq hr R e3 hc e4 e5 (zrk_wt (by omega)).1 (by omega) (fun H1 T1 => ?_)
            refine ⟨rfl, ?_⟩
            refine Go_goto (tgt := 207) dX9_takeFollower_69 (by decide) ?_
            refine Go_return dX9_takeFollower_207 rfl ?_
            refine hk _ ?_
            unfold zfol
            rw [if_pos (by omega)]
            rw [if_pos (by omega)]
            exact T1
        · refine Go_iload_n (pc' := 44) dX9_takeFollower_43 rfl rfl rfl ?_
          refine Go_bipush (v := iZ 6) (pc' := 46) dX9_takeFollower_44 rfl (by decide) ?_
          refine Go_icmp_neY (tgt := 72) (pc' := 49) dX9_takeFollower_46 (by decide) rfl (by first | exact ⟨i_lo _, i_hi _⟩ | omega) (by first | exact ⟨i_lo _, i_hi _⟩ | omega) (fun c46 => ?_) (fun c46 => ?_)
          · refine Go_aload_n (pc' := 73) dX9_takeFollower_72 rfl rfl rfl ?_
            refine Go_getIv (v := (iZ s.1)) (pc' := 76) dX9_takeFollower_73 rfl kf_RX9_47 (by decide) (by decide) rfl (S.b 71 rfl rfl) (S.o 71 rfl rfl rfl) (R.1) ?_
            refine Go_iconst (v := iZ 5) (pc' := 77) dX9_takeFollower_76 rfl (by decide) ?_
            refine Go_icmp_neY (tgt := 106) (pc' := 80) dX9_takeFollower_77 (by decide) rfl (by first | exact ⟨i_lo _, i_hi _⟩ | omega) (by first | exact ⟨i_lo _, i_hi _⟩ | omega) (fun c77 => ?_) (fun c77 => ?_)
            · refine Go_iload_n (pc' := 107) dX9_takeFollower_106 rfl rfl rfl ?_
              refine Go_if_eqY (tgt := 129) (pc' := 110) dX9_takeFollower_107 (by decide) rfl (by first | exact ⟨i_lo _, i_hi _⟩ | omega) (fun c107 => by exfalso; omega) (fun c107 => ?_)
              refine Go_iload_n (pc' := 111) dX9_takeFollower_110 rfl rfl rfl ?_
              refine Go_iconst (v := iZ 1) (pc' := 112) dX9_takeFollower_111 rfl (by decide) ?_
              refine Go_icmp_eqY (tgt := 120) (pc' := 115) dX9_takeFollower_112 (by decide) rfl (by first | exact ⟨i_lo _, i_hi _⟩ | omega) (by first | exact ⟨i_lo _, i_hi _⟩ | omega) (fun c112 => ?_) (fun c112 => ?_)
              · refine Go_aload_n (pc' := 121) dX9_takeFollower_120 rfl rfl rfl ?_
                refine Go_iload_n (pc' := 122) dX9_takeFollower_121 rfl rfl rfl ?_
                refine Go_iconst (v := iZ 2) (pc' := 123) dX9_takeFollower_122 rfl (by decide) ?_
                refine Go_callV_v (pc' := 126) (As := [.int _, .int _]) (st := []) dX9_takeFollower_123 rfl ok_X9_takeJoint km_RX9_116 (S.o 71 rfl rfl rfl) (S.b 71 rfl rfl) ⟨_, _, rfl⟩ rfl (Nat.le_of_ble_eq_true rfl) rfl rfl rfl (Nat.le_of_ble_eq_true rfl) (Nat.lt_succ_self _) ?_
                refine s_joint (r := zrk c) (nx := 2) S QP hq hr R e3 hc e4 e5 (zrk_wt (by omega)).1 (by omega) (fun H1 T1 => ?_)
                refine ⟨rfl, ?_⟩
                refine Go_goto (tgt := 207) dX9_takeFollower_126 (by decide) ?_
                refine Go_return dX9_takeFollower_207 rfl ?_
                refine hk _ ?_
                unfold zfol
                rw [if_neg (by omega), if_neg (by omega), if_pos (by omega)]
                exact T1
              · refine Go_iload_n (pc' := 116) dX9_takeFollower_115 rfl rfl rfl ?_
                refine Go_iconst (v := iZ 2) (pc' := 117) dX9_takeFollower_116 rfl (by decide) ?_
                refine Go_icmp_neY (tgt := 129) (pc' := 120) dX9_takeFollower_117 (by decide) rfl (by first | exact ⟨i_lo _, i_hi _⟩ | omega) (by first | exact ⟨i_lo _, i_hi _⟩ | omega) (fun c117 => ?_) (fun c117 => ?_)
                · refine Go_iload_n (pc' := 130) dX9_takeFollower_129 rfl rfl rfl ?_
                  refine Go_if_eqY (tgt := 157) (pc' := 133) dX9_takeFollower_130 (by decide) rfl (by first | exact ⟨i_lo _, i_hi _⟩ | omega) (fun c130 => by exfalso; omega) (fun c130 => ?_)
                  refine Go_aload_n (pc' := 134) dX9_takeFollower_133 rfl rfl rfl ?_
                  refine Go_getIv (v := (iZ c)) (pc' := 137) dX9_takeFollower_134 rfl kf_RX9_44 (by decide) (by decide) rfl (S.b 71 rfl rfl) (S.o 71 rfl rfl rfl) (e3) ?_
                  refine Go_sipush (v := iZ 141) (pc' := 140) dX9_takeFollower_137 rfl (by decide) ?_
                  refine Go_icmp_neY (tgt := 157) (pc' := 143) dX9_takeFollower_140 (by decide) rfl (by first | exact ⟨i_lo _, i_hi _⟩ | omega) (by first | exact ⟨i_lo _, i_hi _⟩ | omega) (fun c140 => ?_) (fun c140 => ?_)
                  · refine Go_iload_n (pc' := 158) dX9_takeFollower_157 rfl rfl rfl ?_
                    refine Go_if_eqY (tgt := 202) (pc' := 161) dX9_takeFollower_158 (by decide) rfl (by first | exact ⟨i_lo _, i_hi _⟩ | omega) (fun c158 => by exfalso; omega) (fun c158 => ?_)
                    refine Go_aload_n (pc' := 162) dX9_takeFollower_161 rfl rfl rfl ?_
                    refine Go_getIv (v := (iZ c)) (pc' := 165) dX9_takeFollower_162 rfl kf_RX9_44 (by decide) (by decide) rfl (S.b 71 rfl rfl) (S.o 71 rfl rfl rfl) (e3) ?_
                    refine Go_sipush (v := iZ 159) (pc' := 168) dX9_takeFollower_165 rfl (by decide) ?_
                    refine Go_icmp_neY (tgt := 202) (pc' := 171) dX9_takeFollower_168 (by decide) rfl (by first | exact ⟨i_lo _, i_hi _⟩ | omega) (by first | exact ⟨i_lo _, i_hi _⟩ | omega) (fun c168 => ?_) (fun c168 => ?_)
                    · refine Go_aload_n (pc' := 203) dX9_takeFollower_202 rfl rfl rfl ?_
                      refine Go_iconst (v := iZ 1) (pc' := 204) dX9_takeFollower_203 rfl (by decide) ?_
                      refine Go_callV_v (pc' := 207) (As := [.int _]) (st := []) dX9_takeFollower_204 rfl ok_X9_refuse km_RX9_89 (S.o 71 rfl rfl rfl) (S.b 71 rfl rfl) ⟨_, _, rfl⟩ rfl (Nat.le_of_ble_eq_true rfl) rfl rfl rfl (Nat.le_of_ble_eq_true rfl) (Nat.lt_succ_self _) ?_
                      refine Go_aload_n (pc' := 1) dX9_refuse_0 rfl rfl rfl ?_
                      refine Go_iload_n (pc' := 2) dX9_refuse_1 rfl rfl rfl ?_
                      refine Go_putI (pc' := 5) dX9_refuse_2 rfl kf_RX9_38 (by decide) (by decide) rfl (S.b 71 rfl rfl) (S.o 71 rfl rfl rfl) (Or.inl rfl) rfl rfl ?_
                      refine Go_aload_n (pc' := 6) dX9_refuse_5 rfl rfl rfl ?_
                      refine Go_aload_n (pc' := 7) dX9_refuse_6 rfl rfl rfl ?_
                      refine Go_getIv (v := (iZ pl)) (pc' := 10) dX9_refuse_7 rfl kf_RX9_68 (by decide) (by decide) rfl (S.b 71 rfl rfl) (S.o 71 rfl rfl rfl) ((vi_skip (Or.inr (by decide))).trans (e4)) ?_
                      refine Go_putI (pc' := 13) dX9_refuse_10 rfl kf_RX9_18 (by decide) (by decide) rfl (S.b 71 rfl rfl) (S.o 71 rfl rfl rfl) (Or.inl rfl) rfl rfl ?_
                      refine Go_return dX9_refuse_13 rfl ?_
                      refine ⟨rfl, ?_⟩
                      refine Go_return dX9_takeFollower_207 rfl ?_
                      refine hk _ ?_
                      unfold zfol
                      rw [if_neg (by omega), if_neg (by omega), if_neg (by omega), if_neg (by omega), if_neg (by omega)]
                      exact TKp.bad (by omega)
                    · refine Go_aload_n (pc' := 172) dX9_takeFollower_171 rfl rfl rfl ?_
                      refine Go_getIv (v := (iZ (zbr s.2.2.2.1))) (pc' := 175) dX9_takeFollower_172 rfl kf_RX9_65 (by decide) (by decide) rfl (S.b 71 rfl rfl) (S.o 71 rfl rfl rfl) (R.2.2.2.1.2.2.2.2.1) ?_
                      refine Go_if_neY (tgt := 202) (pc' := 178) dX9_takeFollower_175 (by decide) rfl (by first | exact ⟨i_lo _, i_hi _⟩ | omega) (fun c175 => ?_) (fun c175 => ?_)
                      · refine Go_aload_n (pc' := 203) dX9_takeFollower_202 rfl rfl rfl ?_
                        refine Go_iconst (v := iZ 1) (pc' := 204) dX9_takeFollower_203 rfl (by decide) ?_
                        refine Go_callV_v (pc' := 207) (As := [.int _]) (st := []) dX9_takeFollower_204 rfl ok_X9_refuse km_RX9_89 (S.o 71 rfl rfl rfl) (S.b 71 rfl rfl) ⟨_, _, rfl⟩ rfl (Nat.le_of_ble_eq_true rfl) rfl rfl rfl (Nat.le_of_ble_eq_true rfl) (Nat.lt_succ_self _) ?_
                        refine Go_aload_n (pc' := 1) dX9_refuse_0 rfl rfl rfl ?_
                        refine Go_iload_n (pc' := 2) dX9_refuse_1 rfl rfl rfl ?_
                        refine Go_putI (pc' := 5) dX9_refuse_2 rfl kf_RX9_38 (by decide) (by decide) rfl (S.b 71 rfl rfl) (S.o 71 rfl rfl rfl) (Or.inl rfl) rfl rfl ?_
                        refine Go_aload_n (pc' := 6) dX9_refuse_5 rfl rfl rfl ?_
                        refine Go_aload_n (pc' := 7) dX9_refuse_6 rfl rfl rfl ?_
                        refine Go_getIv (v := (iZ pl)) (pc' := 10) dX9_refuse_7 rfl kf_RX9_68 (by decide) (by decide) rfl (S.b 71 rfl rfl) (S.o 71 rfl rfl rfl) ((vi_skip (Or.inr (by decide))).trans (e4)) ?_
                        refine Go_putI (pc' := 13) dX9_refuse_10 rfl kf_RX9_18 (by decide) (by decide) rfl (S.b 71 rfl rfl) (S.o 71 rfl rfl rfl) (Or.inl rfl) rfl rfl ?_
                        refine Go_return dX9_refuse_13 rfl ?_
                        refine ⟨rfl, ?_⟩
                        refine Go_return dX9_takeFollower_207 rfl ?_
                        refine hk _ ?_
                        unfold zfol
                        rw [if_neg (by omega), if_neg (by omega), if_neg (by omega), if_neg (by omega), if_neg (by omega)]
                        exact TKp.bad (by omega)
                      · refine Go_aload_n (pc' := 179) dX9_takeFollower_178 rfl rfl rfl ?_
                        refine Go_iconst (v := iZ 1) (pc' := 180) dX9_takeFollower_179 rfl (by decide) ?_
                        refine Go_callV_v (pc' := 183) (As := [.int _]) (st := []) dX9_takeFollower_180 rfl ok_X9_release km_RX9_123 (S.o 71 rfl rfl rfl) (S.b 71 rfl rfl) ⟨_, _, rfl⟩ rfl (Nat.le_of_ble_eq_true rfl) rfl rfl rfl (Nat.le_of_ble_eq_true rfl) (Nat.lt_succ_self _) ?_
                        refine s_rel (r := 1) S QP hq hr R.2.2.2.2.1 R.2.2.2.1 (by omega) (fun H1 D1 O1 W1 => ?_)
                        refine ⟨rfl, ?_⟩
                        have S1 := D1.shp S
                        have QP1 := D1.qp QP
                        have hr1_ := (D1.2.2.1 71 16).trans hr
                        refine Go_aload_n (pc' := 184) dX9_takeFollower_183 rfl rfl rfl ?_
                        refine Go_getRs (pc' := 187) dX9_takeFollower_184 rfl kf_RX9_29 (by decide) (by decide) rfl (S1.b 71 rfl rfl) (S1.o 71 rfl rfl rfl) hr1_ ?_
                        refine Go_aload_n (pc' := 188) dX9_takeFollower_187 rfl rfl rfl ?_
                        refine Go_getIv (v := (iZ s.2.1)) (pc' := 191) dX9_takeFollower_188 rfl kf_RX9_96 (by decide) (by decide) rfl (S1.b 71 rfl rfl) (S1.o 71 rfl rfl rfl) (((D1.2.2.2 _ _ (by unfold Pr; omega)).trans R.2.1)) ?_
                        refine Go_callV_v (pc' := 194) (As := [.int _]) (st := []) dX9_takeFollower_191 rfl ok_X8_closeLine km_RX9_126 QP1.2.1 QP1.1 ⟨_, _, rfl⟩ rfl (Nat.le_of_ble_eq_true rfl) rfl rfl rfl (Nat.le_of_ble_eq_true rfl) (Nat.lt_succ_self _) ?_
                        refine s_cline (l := (s.2.2.2.2.2 : Int)) QP1 O1 ((D1.2.2.2 _ _ (by unfold Pr; omega)).trans R.2.2.2.2.2) (fun H2 D2 O2 l2 => ?_)
                        refine ⟨rfl, ?_⟩
                        have S2 := D2.shp S1
                        refine Go_aload_n (pc' := 195) dX9_takeFollower_194 rfl rfl rfl ?_
                        refine Go_iconst (v := iZ 0) (pc' := 196) dX9_takeFollower_195 rfl (by decide) ?_
                        refine Go_putI (pc' := 199) dX9_takeFollower_196 rfl kf_RX9_47 (by decide) (by decide) rfl (S2.b 71 rfl rfl) (S2.o 71 rfl rfl rfl) (Or.inl rfl) rfl rfl ?_
                        refine Go_goto (tgt := 207) dX9_takeFollower_199 (by decide) ?_
                        refine Go_return dX9_takeFollower_207 rfl ?_
                        refine hk _ ?_
                        unfold zfol
                        rw [if_neg (by omega), if_neg (by omega), if_neg (by omega), if_neg (by omega), if_pos (by omega)]
                        exact TKp.line R hq D1 W1 D2 O2 l2
                  · refine Go_aload_n (pc' := 144) dX9_takeFollower_143 rfl rfl rfl ?_
                    refine Go_getIv (v := (iZ (zbr s.2.2.2.1))) (pc' := 147) dX9_takeFollower_144 rfl kf_RX9_65 (by decide) (by decide) rfl (S.b 71 rfl rfl) (S.o 71 rfl rfl rfl) (R.2.2.2.1.2.2.2.2.1) ?_
                    refine Go_if_leY (tgt := 157) (pc' := 150) dX9_takeFollower_147 (by decide) rfl (by first | exact ⟨i_lo _, i_hi _⟩ | omega) (fun c147 => ?_) (fun c147 => ?_)
                    · refine Go_iload_n (pc' := 158) dX9_takeFollower_157 rfl rfl rfl ?_
                      refine Go_if_eqY (tgt := 202) (pc' := 161) dX9_takeFollower_158 (by decide) rfl (by first | exact ⟨i_lo _, i_hi _⟩ | omega) (fun c158 => by exfalso; omega) (fun c158 => ?_)
                      refine Go_aload_n (pc' := 162) dX9_takeFollower_161 rfl rfl rfl ?_
                      refine Go_getIv (v := (iZ c)) (pc' := 165) dX9_takeFollower_162 rfl kf_RX9_44 (by decide) (by decide) rfl (S.b 71 rfl rfl) (S.o 71 rfl rfl rfl) (e3) ?_
                      refine Go_sipush (v := iZ 159) (pc' := 168) dX9_takeFollower_165 rfl (by decide) ?_
                      refine Go_icmp_neY (tgt := 202) (pc' := 171) dX9_takeFollower_168 (by decide) rfl (by first | exact ⟨i_lo _, i_hi _⟩ | omega) (by first | exact ⟨i_lo _, i_hi _⟩ | omega) (fun c168 => ?_) (fun c168 => ?_)
                      · refine Go_aload_n (pc' := 203) dX9_takeFollower_202 rfl rfl rfl ?_
                        refine Go_iconst (v := iZ 1) (pc' := 204) dX9_takeFollower_203 rfl (by decide) ?_
                        refine Go_callV_v (pc' := 207) (As := [.int _]) (st := []) dX9_takeFollower_204 rfl ok_X9_refuse km_RX9_89 (S.o 71 rfl rfl rfl) (S.b 71 rfl rfl) ⟨_, _, rfl⟩ rfl (Nat.le_of_ble_eq_true rfl) rfl rfl rfl (Nat.le_of_ble_eq_true rfl) (Nat.lt_succ_self _) ?_
                        refine Go_aload_n (pc' := 1) dX9_refuse_0 rfl rfl rfl ?_
                        refine Go_iload_n (pc' := 2) dX9_refuse_1 rfl rfl rfl ?_
                        refine Go_putI (pc' := 5) dX9_refuse_2 rfl kf_RX9_38 (by decide) (by decide) rfl (S.b 71 rfl rfl) (S.o 71 rfl rfl rfl) (Or.inl rfl) rfl rfl ?_
                        refine Go_aload_n (pc' := 6) dX9_refuse_5 rfl rfl rfl ?_
                        refine Go_aload_n (pc' := 7) dX9_refuse_6 rfl rfl rfl ?_
                        refine Go_getIv (v := (iZ pl)) (pc' := 10) dX9_refuse_7 rfl kf_RX9_68 (by decide) (by decide) rfl (S.b 71 rfl rfl) (S.o 71 rfl rfl rfl) ((vi_skip (Or.inr (by decide))).trans (e4)) ?_
                        refine Go_putI (pc' := 13) dX9_refuse_10 rfl kf_RX9_18 (by decide) (by decide) rfl (S.b 71 rfl rfl) (S.o 71 rfl rfl rfl) (Or.inl rfl) rfl rfl ?_
                        refine Go_return dX9_refuse_13 rfl ?_
                        refine ⟨rfl, ?_⟩
                        refine Go_return dX9_takeFollower_207 rfl ?_
                        refine hk _ ?_
                        unfold zfol
                        rw [if_neg (by omega), if_neg (by omega), if_neg (by omega), if_neg (by omega), if_neg (by omega)]
                        exact TKp.bad (by omega)
                      · refine Go_aload_n (pc' := 172) dX9_takeFollower_171 rfl rfl rfl ?_
                        refine Go_getIv (v := (iZ (zbr s.2.2.2.1))) (pc' := 175) dX9_takeFollower_172 rfl kf_RX9_65 (by decide) (by decide) rfl (S.b 71 rfl rfl) (S.o 71 rfl rfl rfl) (R.2.2.2.1.2.2.2.2.1) ?_
                        refine Go_if_neY (tgt := 202) (pc' := 178) dX9_takeFollower_175 (by decide) rfl (by first | exact ⟨i_lo _, i_hi _⟩ | omega) (fun c175 => ?_) (fun c175 => ?_)
                        · refine Go_aload_n (pc' := 203) dX9_takeFollower_202 rfl rfl rfl ?_
                          refine Go_iconst (v := iZ 1) (pc' := 204) dX9_takeFollower_203 rfl (by decide) ?_
                          refine Go_callV_v (pc' := 207) (As := [.int _]) (st := []) dX9_takeFollower_204 rfl ok_X9_refuse km_RX9_89 (S.o 71 rfl rfl rfl) (S.b 71 rfl rfl) ⟨_, _, rfl⟩ rfl (Nat.le_of_ble_eq_true rfl) rfl rfl rfl (Nat.le_of_ble_eq_true rfl) (Nat.lt_succ_self _) ?_
                          refine Go_aload_n (pc' := 1) dX9_refuse_0 rfl rfl rfl ?_
                          refine Go_iload_n (pc' := 2) dX9_refuse_1 rfl rfl rfl ?_
                          refine Go_putI (pc' := 5) dX9_refuse_2 rfl kf_RX9_38 (by decide) (by decide) rfl (S.b 71 rfl rfl) (S.o 71 rfl rfl rfl) (Or.inl rfl) rfl rfl ?_
                          refine Go_aload_n (pc' := 6) dX9_refuse_5 rfl rfl rfl ?_
                          refine Go_aload_n (pc' := 7) dX9_refuse_6 rfl rfl rfl ?_
                          refine Go_getIv (v := (iZ pl)) (pc' := 10) dX9_refuse_7 rfl kf_RX9_68 (by decide) (by decide) rfl (S.b 71 rfl rfl) (S.o 71 rfl rfl rfl) ((vi_skip (Or.inr (by decide))).trans (e4)) ?_
                          refine Go_putI (pc' := 13) dX9_refuse_10 rfl kf_RX9_18 (by decide) (by decide) rfl (S.b 71 rfl rfl) (S.o 71 rfl rfl rfl) (Or.inl rfl) rfl rfl ?_
                          refine Go_return dX9_refuse_13 rfl ?_
                          refine ⟨rfl, ?_⟩
                          refine Go_return dX9_takeFollower_207 rfl ?_
                          refine hk _ ?_
                          unfold zfol
                          rw [if_neg (by omega), if_neg (by omega), if_neg (by omega), if_neg (by omega), if_neg (by omega)]
                          exact TKp.bad (by omega)
                        · refine Go_aload_n (pc' := 179) dX9_takeFollower_178 rfl rfl rfl ?_
                          refine Go_iconst (v := iZ 1) (pc' := 180) dX9_takeFollower_179 rfl (by decide) ?_
                          refine Go_callV_v (pc' := 183) (As := [.int _]) (st := []) dX9_takeFollower_180 rfl ok_X9_release km_RX9_123 (S.o 71 rfl rfl rfl) (S.b 71 rfl rfl) ⟨_, _, rfl⟩ rfl (Nat.le_of_ble_eq_true rfl) rfl rfl rfl (Nat.le_of_ble_eq_true rfl) (Nat.lt_succ_self _) ?_
                          refine s_rel (r := 1) S QP hq hr R.2.2.2.2.1 R.2.2.2.1 (by omega) (fun H1 D1 O1 W1 => ?_)
                          refine ⟨rfl, ?_⟩
                          have S1 := D1.shp S
                          have QP1 := D1.qp QP
                          have hr1_ := (D1.2.2.1 71 16).trans hr
                          refine Go_aload_n (pc' := 184) dX9_takeFollower_183 rfl rfl rfl ?_
                          refine Go_getRs (pc' := 187) dX9_takeFollower_184 rfl kf_RX9_29 (by decide) (by decide) rfl (S1.b 71 rfl rfl) (S1.o 71 rfl rfl rfl) hr1_ ?_
                          refine Go_aload_n (pc' := 188) dX9_takeFollower_187 rfl rfl rfl ?_
                          refine Go_getIv (v := (iZ s.2.1)) (pc' := 191) dX9_takeFollower_188 rfl kf_RX9_96 (by decide) (by decide) rfl (S1.b 71 rfl rfl) (S1.o 71 rfl rfl rfl) (((D1.2.2.2 _ _ (by unfold Pr; omega)).trans R.2.1)) ?_
                          refine Go_callV_v (pc' := 194) (As := [.int _]) (st := []) dX9_takeFollower_191 rfl ok_X8_closeLine km_RX9_126 QP1.2.1 QP1.1 ⟨_, _, rfl⟩ rfl (Nat.le_of_ble_eq_true rfl) rfl rfl rfl (Nat.le_of_ble_eq_true rfl) (Nat.lt_succ_self _) ?_
                          refine s_cline (l := (s.2.2.2.2.2 : Int)) QP1 O1 ((D1.2.2.2 _ _ (by unfold Pr; omega)).trans R.2.2.2.2.2) (fun H2 D2 O2 l2 => ?_)
                          refine ⟨rfl, ?_⟩
                          have S2 := D2.shp S1
                          refine Go_aload_n (pc' := 195) dX9_takeFollower_194 rfl rfl rfl ?_
                          refine Go_iconst (v := iZ 0) (pc' := 196) dX9_takeFollower_195 rfl (by decide) ?_
                          refine Go_putI (pc' := 199) dX9_takeFollower_196 rfl kf_RX9_47 (by decide) (by decide) rfl (S2.b 71 rfl rfl) (S2.o 71 rfl rfl rfl) (Or.inl rfl) rfl rfl ?_
                          refine Go_goto (tgt := 207) dX9_takeFollower_199 (by decide) ?_
                          refine Go_return dX9_takeFollower_207 rfl ?_
                          refine hk _ ?_
                          unfold zfol
                          rw [if_neg (by omega), if_neg (by omega), if_neg (by omega), if_neg (by omega), if_pos (by omega)]
                          exact TKp.line R hq D1 W1 D2 O2 l2
                    · refine Go_aload_n (pc' := 151) dX9_takeFollower_150 rfl rfl rfl ?_
                      refine Go_callV_v (pc' := 154) (As := []) (st := []) dX9_takeFollower_151 rfl ok_X9_closeBracket km_RX9_120 (S.o 71 rfl rfl rfl) (S.b 71 rfl rfl) ⟨_, _, rfl⟩ rfl (Nat.le_of_ble_eq_true rfl) rfl rfl rfl (Nat.le_of_ble_eq_true rfl) (Nat.lt_succ_self _) ?_
                      refine s_close S QP hq hr R e3 hc e4 e5 (by omega) (fun H1 T1 => ?_)
                      refine ⟨rfl, ?_⟩
                      refine Go_goto (tgt := 207) dX9_takeFollower_154 (by decide) ?_
                      refine Go_return dX9_takeFollower_207 rfl ?_
                      refine hk _ ?_
                      unfold zfol
                      rw [if_neg (by omega), if_neg (by omega), if_neg (by omega), if_pos (by omega)]
                      exact T1
                · refine Go_aload_n (pc' := 121) dX9_takeFollower_120 rfl rfl rfl ?_
                  refine Go_iload_n (pc' := 122) dX9_takeFollower_121 rfl rfl rfl ?_
                  refine Go_iconst (v := iZ 2) (pc' := 123) dX9_takeFollower_122 rfl (by decide) ?_
                  refine Go_callV_v (pc' := 126) (As := [.int _, .int _]) (st := []) dX9_takeFollower_123 rfl ok_X9_takeJoint km_RX9_116 (S.o 71 rfl rfl rfl) (S.b 71 rfl rfl) ⟨_, _, rfl⟩ rfl (Nat.le_of_ble_eq_true rfl) rfl rfl rfl (Nat.le_of_ble_eq_true rfl) (Nat.lt_succ_self _) ?_
                  refine s_joint (r := zrk c) (nx := 2) S QP hq hr R e3 hc e4 e5 (zrk_wt (by omega)).1 (by omega) (fun H1 T1 => ?_)
                  refine ⟨rfl, ?_⟩
                  refine Go_goto (tgt := 207) dX9_takeFollower_126 (by decide) ?_
                  refine Go_return dX9_takeFollower_207 rfl ?_
                  refine hk _ ?_
                  unfold zfol
                  rw [if_neg (by omega), if_neg (by omega), if_pos (by omega)]
                  exact T1
            · refine Go_iload_n (pc' := 81) dX9_takeFollower_80 rfl rfl rfl ?_
              refine Go_iconst (v := iZ 4) (pc' := 82) dX9_takeFollower_81 rfl (by decide) ?_
              refine Go_icmp_neY (tgt := 106) (pc' := 85) dX9_takeFollower_82 (by decide) rfl (by first | exact ⟨i_lo _, i_hi _⟩ | omega) (by first | exact ⟨i_lo _, i_hi _⟩ | omega) (fun c82 => ?_) (fun c82 => ?_)
              · refine Go_iload_n (pc' := 107) dX9_takeFollower_106 rfl rfl rfl ?_
                refine Go_if_eqY (tgt := 129) (pc' := 110) dX9_takeFollower_107 (by decide) rfl (by first | exact ⟨i_lo _, i_hi _⟩ | omega) (fun c107 => by exfalso; omega) (fun c107 => ?_)
                refine Go_iload_n (pc' := 111) dX9_takeFollower_110 rfl rfl rfl ?_
                refine Go_iconst (v := iZ 1) (pc' := 112) dX9_takeFollower_111 rfl (by decide) ?_
                refine Go_icmp_eqY (tgt := 120) (pc' := 115) dX9_takeFollower_112 (by decide) rfl (by first | exact ⟨i_lo _, i_hi _⟩ | omega) (by first | exact ⟨i_lo _, i_hi _⟩ | omega) (fun c112 => ?_) (fun c112 => ?_)
                · refine Go_aload_n (pc' := 121) dX9_takeFollower_120 rfl rfl rfl ?_
                  refine Go_iload_n (pc' := 122) dX9_takeFollower_121 rfl rfl rfl ?_
                  refine Go_iconst (v := iZ 2) (pc' := 123) dX9_takeFollower_122 rfl (by decide) ?_
                  refine Go_callV_v (pc' := 126) (As := [.int _, .int _]) (st := []) dX9_takeFollower_123 rfl ok_X9_takeJoint km_RX9_116 (S.o 71 rfl rfl rfl) (S.b 71 rfl rfl) ⟨_, _, rfl⟩ rfl (Nat.le_of_ble_eq_true rfl) rfl rfl rfl (Nat.le_of_ble_eq_true rfl) (Nat.lt_succ_self _) ?_
                  refine s_joint (r := zrk c) (nx := 2) S QP hq hr R e3 hc e4 e5 (zrk_wt (by omega)).1 (by omega) (fun H1 T1 => ?_)
                  refine ⟨rfl, ?_⟩
                  refine Go_goto (tgt := 207) dX9_takeFollower_126 (by decide) ?_
                  refine Go_return dX9_takeFollower_207 rfl ?_
                  refine hk _ ?_
                  unfold zfol
                  rw [if_neg (by omega), if_neg (by omega), if_pos (by omega)]
                  exact T1
                · refine Go_iload_n (pc' := 116) dX9_takeFollower_115 rfl rfl rfl ?_
                  refine Go_iconst (v := iZ 2) (pc' := 117) dX9_takeFollower_116 rfl (by decide) ?_
                  refine Go_icmp_neY (tgt := 129) (pc' := 120) dX9_takeFollower_117 (by decide) rfl (by first | exact ⟨i_lo _, i_hi _⟩ | omega) (by first | exact ⟨i_lo _, i_hi _⟩ | omega) (fun c117 => ?_) (fun c117 => ?_)
                  · refine Go_iload_n (pc' := 130) dX9_takeFollower_129 rfl rfl rfl ?_
                    refine Go_if_eqY (tgt := 157) (pc' := 133) dX9_takeFollower_130 (by decide) rfl (by first | exact ⟨i_lo _, i_hi _⟩ | omega) (fun c130 => by exfalso; omega) (fun c130 => ?_)
                    refine Go_aload_n (pc' := 134) dX9_takeFollower_133 rfl rfl rfl ?_
                    refine Go_getIv (v := (iZ c)) (pc' := 137) dX9_takeFollower_134 rfl kf_RX9_44 (by decide) (by decide) rfl (S.b 71 rfl rfl) (S.o 71 rfl rfl rfl) (e3) ?_
                    refine Go_sipush (v := iZ 141) (pc' := 140) dX9_takeFollower_137 rfl (by decide) ?_
                    refine Go_icmp_neY (tgt := 157) (pc' := 143) dX9_takeFollower_140 (by decide) rfl (by first | exact ⟨i_lo _, i_hi _⟩ | omega) (by first | exact ⟨i_lo _, i_hi _⟩ | omega) (fun c140 => ?_) (fun c140 => ?_)
                    · refine Go_iload_n (pc' := 158) dX9_takeFollower_157 rfl rfl rfl ?_
                      refine Go_if_eqY (tgt := 202) (pc' := 161) dX9_takeFollower_158 (by decide) rfl (by first | exact ⟨i_lo _, i_hi _⟩ | omega) (fun c158 => by exfalso; omega) (fun c158 => ?_)
                      refine Go_aload_n (pc' := 162) dX9_takeFollower_161 rfl rfl rfl ?_
                      refine Go_getIv (v := (iZ c)) (pc' := 165) dX9_takeFollower_162 rfl kf_RX9_44 (by decide) (by decide) rfl (S.b 71 rfl rfl) (S.o 71 rfl rfl rfl) (e3) ?_
                      refine Go_sipush (v := iZ 159) (pc' := 168) dX9_takeFollower_165 rfl (by decide) ?_
                      refine Go_icmp_neY (tgt := 202) (pc' := 171) dX9_takeFollower_168 (by decide) rfl (by first | exact ⟨i_lo _, i_hi _⟩ | omega) (by first | exact ⟨i_lo _, i_hi _⟩ | omega) (fun c168 => ?_) (fun c168 => ?_)
                      · refine Go_aload_n (pc' := 203) dX9_takeFollower_202 rfl rfl rfl ?_
                        refine Go_iconst (v := iZ 1) (pc' := 204) dX9_takeFollower_203 rfl (by decide) ?_
                        refine Go_callV_v (pc' := 207) (As := [.int _]) (st := []) dX9_takeFollower_204 rfl ok_X9_refuse km_RX9_89 (S.o 71 rfl rfl rfl) (S.b 71 rfl rfl) ⟨_, _, rfl⟩ rfl (Nat.le_of_ble_eq_true rfl) rfl rfl rfl (Nat.le_of_ble_eq_true rfl) (Nat.lt_succ_self _) ?_
                        refine Go_aload_n (pc' := 1) dX9_refuse_0 rfl rfl rfl ?_
                        refine Go_iload_n (pc' := 2) dX9_refuse_1 rfl rfl rfl ?_
                        refine Go_putI (pc' := 5) dX9_refuse_2 rfl kf_RX9_38 (by decide) (by decide) rfl (S.b 71 rfl rfl) (S.o 71 rfl rfl rfl) (Or.inl rfl) rfl rfl ?_
                        refine Go_aload_n (pc' := 6) dX9_refuse_5 rfl rfl rfl ?_
                        refine Go_aload_n (pc' := 7) dX9_refuse_6 rfl rfl rfl ?_
                        refine Go_getIv (v := (iZ pl)) (pc' := 10) dX9_refuse_7 rfl kf_RX9_68 (by decide) (by decide) rfl (S.b 71 rfl rfl) (S.o 71 rfl rfl rfl) ((vi_skip (Or.inr (by decide))).trans (e4)) ?_
                        refine Go_putI (pc' := 13) dX9_refuse_10 rfl kf_RX9_18 (by decide) (by decide) rfl (S.b 71 rfl rfl) (S.o 71 rfl rfl rfl) (Or.inl rfl) rfl rfl ?_
                        refine Go_return dX9_refuse_13 rfl ?_
                        refine ⟨rfl, ?_⟩
                        refine Go_return dX9_takeFollower_207 rfl ?_
                        refine hk _ ?_
                        unfold zfol
                        rw [if_neg (by omega), if_neg (by omega), if_neg (by omega), if_neg (by omega), if_neg (by omega)]
                        exact TKp.bad (by omega)
                      · refine Go_aload_n (pc' := 172) dX9_takeFollower_171 rfl rfl rfl ?_
                        refine Go_getIv (v := (iZ (zbr s.2.2.2.1))) (pc' := 175) dX9_takeFollower_172 rfl kf_RX9_65 (by decide) (by decide) rfl (S.b 71 rfl rfl) (S.o 71 rfl rfl rfl) (R.2.2.2.1.2.2.2.2.1) ?_
                        refine Go_if_neY (tgt := 202) (pc' := 178) dX9_takeFollower_175 (by decide) rfl (by first | exact ⟨i_lo _, i_hi _⟩ | omega) (fun c175 => ?_) (fun c175 => ?_)
                        · refine Go_aload_n (pc' := 203) dX9_takeFollower_202 rfl rfl rfl ?_
                          refine Go_iconst (v := iZ 1) (pc' := 204) dX9_takeFollower_203 rfl (by decide) ?_
                          refine Go_callV_v (pc' := 207) (As := [.int _]) (st := []) dX9_takeFollower_204 rfl ok_X9_refuse km_RX9_89 (S.o 71 rfl rfl rfl) (S.b 71 rfl rfl) ⟨_, _, rfl⟩ rfl (Nat.le_of_ble_eq_true rfl) rfl rfl rfl (Nat.le_of_ble_eq_true rfl) (Nat.lt_succ_self _) ?_
                          refine Go_aload_n (pc' := 1) dX9_refuse_0 rfl rfl rfl ?_
                          refine Go_iload_n (pc' := 2) dX9_refuse_1 rfl rfl rfl ?_
                          refine Go_putI (pc' := 5) dX9_refuse_2 rfl kf_RX9_38 (by decide) (by decide) rfl (S.b 71 rfl rfl) (S.o 71 rfl rfl rfl) (Or.inl rfl) rfl rfl ?_
                          refine Go_aload_n (pc' := 6) dX9_refuse_5 rfl rfl rfl ?_
                          refine Go_aload_n (pc' := 7) dX9_refuse_6 rfl rfl rfl ?_
                          refine Go_getIv (v := (iZ pl)) (pc' := 10) dX9_refuse_7 rfl kf_RX9_68 (by decide) (by decide) rfl (S.b 71 rfl rfl) (S.o 71 rfl rfl rfl) ((vi_skip (Or.inr (by decide))).trans (e4)) ?_
                          refine Go_putI (pc' := 13) dX9_refuse_10 rfl kf_RX9_18 (by decide) (by decide) rfl (S.b 71 rfl rfl) (S.o 71 rfl rfl rfl) (Or.inl rfl) rfl rfl ?_
                          refine Go_return dX9_refuse_13 rfl ?_
                          refine ⟨rfl, ?_⟩
                          refine Go_return dX9_takeFollower_207 rfl ?_
                          refine hk _ ?_
                          unfold zfol
                          rw [if_neg (by omega), if_neg (by omega), if_neg (by omega), if_neg (by omega), if_neg (by omega)]
                          exact TKp.bad (by omega)
                        · refine Go_aload_n (pc' := 179) dX9_takeFollower_178 rfl rfl rfl ?_
                          refine Go_iconst (v := iZ 1) (pc' := 180) dX9_takeFollower_179 rfl (by decide) ?_
                          refine Go_callV_v (pc' := 183) (As := [.int _]) (st := []) dX9_takeFollower_180 rfl ok_X9_release km_RX9_123 (S.o 71 rfl rfl rfl) (S.b 71 rfl rfl) ⟨_, _, rfl⟩ rfl (Nat.le_of_ble_eq_true rfl) rfl rfl rfl (Nat.le_of_ble_eq_true rfl) (Nat.lt_succ_self _) ?_
                          refine s_rel (r := 1) S QP hq hr R.2.2.2.2.1 R.2.2.2.1 (by omega) (fun H1 D1 O1 W1 => ?_)
                          refine ⟨rfl, ?_⟩
                          have S1 := D1.shp S
                          have QP1 := D1.qp QP
                          have hr1_ := (D1.2.2.1 71 16).trans hr
                          refine Go_aload_n (pc' := 184) dX9_takeFollower_183 rfl rfl rfl ?_
                          refine Go_getRs (pc' := 187) dX9_takeFollower_184 rfl kf_RX9_29 (by decide) (by decide) rfl (S1.b 71 rfl rfl) (S1.o 71 rfl rfl rfl) hr1_ ?_
                          refine Go_aload_n (pc' := 188) dX9_takeFollower_187 rfl rfl rfl ?_
                          refine Go_getIv (v := (iZ s.2.1)) (pc' := 191) dX9_takeFollower_188 rfl kf_RX9_96 (by decide) (by decide) rfl (S1.b 71 rfl rfl) (S1.o 71 rfl rfl rfl) (((D1.2.2.2 _ _ (by unfold Pr; omega)).trans R.2.1)) ?_
                          refine Go_callV_v (pc' := 194) (As := [.int _]) (st := []) dX9_takeFollower_191 rfl ok_X8_closeLine km_RX9_126 QP1.2.1 QP1.1 ⟨_, _, rfl⟩ rfl (Nat.le_of_ble_eq_true rfl) rfl rfl rfl (Nat.le_of_ble_eq_true rfl) (Nat.lt_succ_self _) ?_
                          refine s_cline (l := (s.2.2.2.2.2 : Int)) QP1 O1 ((D1.2.2.2 _ _ (by unfold Pr; omega)).trans R.2.2.2.2.2) (fun H2 D2 O2 l2 => ?_)
                          refine ⟨rfl, ?_⟩
                          have S2 := D2.shp S1
                          refine Go_aload_n (pc' := 195) dX9_takeFollower_194 rfl rfl rfl ?_
                          refine Go_iconst (v := iZ 0) (pc' := 196) dX9_takeFollower_195 rfl (by decide) ?_
                          refine Go_putI (pc' := 199) dX9_takeFollower_196 rfl kf_RX9_47 (by decide) (by decide) rfl (S2.b 71 rfl rfl) (S2.o 71 rfl rfl rfl) (Or.inl rfl) rfl rfl ?_
                          refine Go_goto (tgt := 207) dX9_takeFollower_199 (by decide) ?_
                          refine Go_return dX9_takeFollower_207 rfl ?_
                          refine hk _ ?_
                          unfold zfol
                          rw [if_neg (by omega), if_neg (by omega), if_neg (by omega), if_neg (by omega), if_pos (by omega)]
                          exact TKp.line R hq D1 W1 D2 O2 l2
                    · refine Go_aload_n (pc' := 144) dX9_takeFollower_143 rfl rfl rfl ?_
                      refine Go_getIv (v := (iZ (zbr s.2.2.2.1))) (pc' := 147) dX9_takeFollower_144 rfl kf_RX9_65 (by decide) (by decide) rfl (S.b 71 rfl rfl) (S.o 71 rfl rfl rfl) (R.2.2.2.1.2.2.2.2.1) ?_
                      refine Go_if_leY (tgt := 157) (pc' := 150) dX9_takeFollower_147 (by decide) rfl (by first | exact ⟨i_lo _, i_hi _⟩ | omega) (fun c147 => ?_) (fun c147 => ?_)
                      · refine Go_iload_n (pc' := 158) dX9_takeFollower_157 rfl rfl rfl ?_
                        refine Go_if_eqY (tgt := 202) (pc' := 161) dX9_takeFollower_158 (by decide) rfl (by first | exact ⟨i_lo _, i_hi _⟩ | omega) (fun c158 => by exfalso; omega) (fun c158 => ?_)
                        refine Go_aload_n (pc' := 162) dX9_takeFollower_161 rfl rfl rfl ?_
                        refine Go_getIv (v := (iZ c)) (pc' := 165) dX9_takeFollower_162 rfl kf_RX9_44 (by decide) (by decide) rfl (S.b 71 rfl rfl) (S.o 71 rfl rfl rfl) (e3) ?_
                        refine Go_sipush (v := iZ 159) (pc' := 168) dX9_takeFollower_165 rfl (by decide) ?_
                        refine Go_icmp_neY (tgt := 202) (pc' := 171) dX9_takeFollower_168 (by decide) rfl (by first | exact ⟨i_lo _, i_hi _⟩ | omega) (by first | exact ⟨i_lo _, i_hi _⟩ | omega) (fun c168 => ?_) (fun c168 => ?_)
                        · refine Go_aload_n (pc' := 203) dX9_takeFollower_202 rfl rfl rfl ?_
                          refine Go_iconst (v := iZ 1) (pc' := 204) dX9_takeFollower_203 rfl (by decide) ?_
                          refine Go_callV_v (pc' := 207) (As := [.int _]) (st := []) dX9_takeFollower_204 rfl ok_X9_refuse km_RX9_89 (S.o 71 rfl rfl rfl) (S.b 71 rfl rfl) ⟨_, _, rfl⟩ rfl (Nat.le_of_ble_eq_true rfl) rfl rfl rfl (Nat.le_of_ble_eq_true rfl) (Nat.lt_succ_self _) ?_
                          refine Go_aload_n (pc' := 1) dX9_refuse_0 rfl rfl rfl ?_
                          refine Go_iload_n (pc' := 2) dX9_refuse_1 rfl rfl rfl ?_
                          refine Go_putI (pc' := 5) dX9_refuse_2 rfl kf_RX9_38 (by decide) (by decide) rfl (S.b 71 rfl rfl) (S.o 71 rfl rfl rfl) (Or.inl rfl) rfl rfl ?_
                          refine Go_aload_n (pc' := 6) dX9_refuse_5 rfl rfl rfl ?_
                          refine Go_aload_n (pc' := 7) dX9_refuse_6 rfl rfl rfl ?_
                          refine Go_getIv (v := (iZ pl)) (pc' := 10) dX9_refuse_7 rfl kf_RX9_68 (by decide) (by decide) rfl (S.b 71 rfl rfl) (S.o 71 rfl rfl rfl) ((vi_skip (Or.inr (by decide))).trans (e4)) ?_
                          refine Go_putI (pc' := 13) dX9_refuse_10 rfl kf_RX9_18 (by decide) (by decide) rfl (S.b 71 rfl rfl) (S.o 71 rfl rfl rfl) (Or.inl rfl) rfl rfl ?_
                          refine Go_return dX9_refuse_13 rfl ?_
                          refine ⟨rfl, ?_⟩
                          refine Go_return dX9_takeFollower_207 rfl ?_
                          refine hk _ ?_
                          unfold zfol
                          rw [if_neg (by omega), if_neg (by omega), if_neg (by omega), if_neg (by omega), if_neg (by omega)]
                          exact TKp.bad (by omega)
                        · refine Go_aload_n (pc' := 172) dX9_takeFollower_171 rfl rfl rfl ?_
                          refine Go_getIv (v := (iZ (zbr s.2.2.2.1))) (pc' := 175) dX9_takeFollower_172 rfl kf_RX9_65 (by decide) (by decide) rfl (S.b 71 rfl rfl) (S.o 71 rfl rfl rfl) (R.2.2.2.1.2.2.2.2.1) ?_
                          refine Go_if_neY (tgt := 202) (pc' := 178) dX9_takeFollower_175 (by decide) rfl (by first | exact ⟨i_lo _, i_hi _⟩ | omega) (fun c175 => ?_) (fun c175 => ?_)
                          · refine Go_aload_n (pc' := 203) dX9_takeFollower_202 rfl rfl rfl ?_
                            refine Go_iconst (v := iZ 1) (pc' := 204) dX9_takeFollower_203 rfl (by decide) ?_
                            refine Go_callV_v (pc' := 207) (As := [.int _]) (st := []) dX9_takeFollower_204 rfl ok_X9_refuse km_RX9_89 (S.o 71 rfl rfl rfl) (S.b 71 rfl rfl) ⟨_, _, rfl⟩ rfl (Nat.le_of_ble_eq_true rfl) rfl rfl rfl (Nat.le_of_ble_eq_true rfl) (Nat.lt_succ_self _) ?_
                            refine Go_aload_n (pc' := 1) dX9_refuse_0 rfl rfl rfl ?_
                            refine Go_iload_n (pc' := 2) dX9_refuse_1 rfl rfl rfl ?_
                            refine Go_putI (pc' := 5) dX9_refuse_2 rfl kf_RX9_38 (by decide) (by decide) rfl (S.b 71 rfl rfl) (S.o 71 rfl rfl rfl) (Or.inl rfl) rfl rfl ?_
                            refine Go_aload_n (pc' := 6) dX9_refuse_5 rfl rfl rfl ?_
                            refine Go_aload_n (pc' := 7) dX9_refuse_6 rfl rfl rfl ?_
                            refine Go_getIv (v := (iZ pl)) (pc' := 10) dX9_refuse_7 rfl kf_RX9_68 (by decide) (by decide) rfl (S.b 71 rfl rfl) (S.o 71 rfl rfl rfl) ((vi_skip (Or.inr (by decide))).trans (e4)) ?_
                            refine Go_putI (pc' := 13) dX9_refuse_10 rfl kf_RX9_18 (by decide) (by decide) rfl (S.b 71 rfl rfl) (S.o 71 rfl rfl rfl) (Or.inl rfl) rfl rfl ?_
                            refine Go_return dX9_refuse_13 rfl ?_
                            refine ⟨rfl, ?_⟩
                            refine Go_return dX9_takeFollower_207 rfl ?_
                            refine hk _ ?_
                            unfold zfol
                            rw [if_neg (by omega), if_neg (by omega), if_neg (by omega), if_neg (by omega), if_neg (by omega)]
                            exact TKp.bad (by omega)
                          · refine Go_aload_n (pc' := 179) dX9_takeFollower_178 rfl rfl rfl ?_
                            refine Go_iconst (v := iZ 1) (pc' := 180) dX9_takeFollower_179 rfl (by decide) ?_
                            refine Go_callV_v (pc' := 183) (As := [.int _]) (st := []) dX9_takeFollower_180 rfl ok_X9_release km_RX9_123 (S.o 71 rfl rfl rfl) (S.b 71 rfl rfl) ⟨_, _, rfl⟩ rfl (Nat.le_of_ble_eq_true rfl) rfl rfl rfl (Nat.le_of_ble_eq_true rfl) (Nat.lt_succ_self _) ?_
                            refine s_rel (r := 1) S QP hq hr R.2.2.2.2.1 R.2.2.2.1 (by omega) (fun H1 D1 O1 W1 => ?_)
                            refine ⟨rfl, ?_⟩
                            have S1 := D1.shp S
                            have QP1 := D1.qp QP
                            have hr1_ := (D1.2.2.1 71 16).trans hr
                            refine Go_aload_n (pc' := 184) dX9_takeFollower_183 rfl rfl rfl ?_
                            refine Go_getRs (pc' := 187) dX9_takeFollower_184 rfl kf_RX9_29 (by decide) (by decide) rfl (S1.b 71 rfl rfl) (S1.o 71 rfl rfl rfl) hr1_ ?_
                            refine Go_aload_n (pc' := 188) dX9_takeFollower_187 rfl rfl rfl ?_
                            refine Go_getIv (v := (iZ s.2.1)) (pc' := 191) dX9_takeFollower_188 rfl kf_RX9_96 (by decide) (by decide) rfl (S1.b 71 rfl rfl) (S1.o 71 rfl rfl rfl) (((D1.2.2.2 _ _ (by unfold Pr; omega)).trans R.2.1)) ?_
                            refine Go_callV_v (pc' := 194) (As := [.int _]) (st := []) dX9_takeFollower_191 rfl ok_X8_closeLine km_RX9_126 QP1.2.1 QP1.1 ⟨_, _, rfl⟩ rfl (Nat.le_of_ble_eq_true rfl) rfl rfl rfl (Nat.le_of_ble_eq_true rfl) (Nat.lt_succ_self _) ?_
                            refine s_cline (l := (s.2.2.2.2.2 : Int)) QP1 O1 ((D1.2.2.2 _ _ (by unfold Pr; omega)).trans R.2.2.2.2.2) (fun H2 D2 O2 l2 => ?_)
                            refine ⟨rfl, ?_⟩
                            have S2 := D2.shp S1
                            refine Go_aload_n (pc' := 195) dX9_takeFollower_194 rfl rfl rfl ?_
                            refine Go_iconst (v := iZ 0) (pc' := 196) dX9_takeFollower_195 rfl (by decide) ?_
                            refine Go_putI (pc' := 199) dX9_takeFollower_196 rfl kf_RX9_47 (by decide) (by decide) rfl (S2.b 71 rfl rfl) (S2.o 71 rfl rfl rfl) (Or.inl rfl) rfl rfl ?_
                            refine Go_goto (tgt := 207) dX9_takeFollower_199 (by decide) ?_
                            refine Go_return dX9_takeFollower_207 rfl ?_
                            refine hk _ ?_
                            unfold zfol
                            rw [if_neg (by omega), if_neg (by omega), if_neg (by omega), if_neg (by omega), if_pos (by omega)]
                            exact TKp.line R hq D1 W1 D2 O2 l2
                      · refine Go_aload_n (pc' := 151) dX9_takeFollower_150 rfl rfl rfl ?_
                        refine Go_callV_v (pc' := 154) (As := []) (st := []) dX9_takeFollower_151 rfl ok_X9_closeBracket km_RX9_120 (S.o 71 rfl rfl rfl) (S.b 71 rfl rfl) ⟨_, _, rfl⟩ rfl (Nat.le_of_ble_eq_true rfl) rfl rfl rfl (Nat.le_of_ble_eq_true rfl) (Nat.lt_succ_self _) ?_
                        refine s_close S QP hq hr R e3 hc e4 e5 (by omega) (fun H1 T1 => ?_)
                        refine ⟨rfl, ?_⟩
                        refine Go_goto (tgt := 207) dX9_takeFollower_154 (by decide) ?_
                        refine Go_return dX9_takeFollower_207 rfl ?_
                        refine hk _ ?_
                        unfold zfol
                        rw [if_neg (by omega), if_neg (by omega), if_neg (by omega), if_pos (by omega)]
                        exact T1
                  · refine Go_aload_n (pc' := 121) dX9_takeFollower_120 rfl rfl rfl ?_
                    refine Go_iload_n (pc' := 122) dX9_takeFollower_121 rfl rfl rfl ?_
                    refine Go_iconst (v := iZ 2) (pc' := 123) dX9_takeFollower_122 rfl (by decide) ?_
                    refine Go_callV_v (pc' := 126) (As := [.int _, .int _]) (st := []) dX9_takeFollower_123 rfl ok_X9_takeJoint km_RX9_116 (S.o 71 rfl rfl rfl) (S.b 71 rfl rfl) ⟨_, _, rfl⟩ rfl (Nat.le_of_ble_eq_true rfl) rfl rfl rfl (Nat.le_of_ble_eq_true rfl) (Nat.lt_succ_self _) ?_
                    refine s_joint (r := zrk c) (nx := 2) S QP hq hr R e3 hc e4 e5 (zrk_wt (by omega)).1 (by omega) (fun H1 T1 => ?_)
                    refine ⟨rfl, ?_⟩
                    refine Go_goto (tgt := 207) dX9_takeFollower_126 (by decide) ?_
                    refine Go_return dX9_takeFollower_207 rfl ?_
                    refine hk _ ?_
                    unfold zfol
                    rw [if_neg (by omega), if_neg (by omega), if_pos (by omega)]
                    exact T1
              · refine Go_aload_n (pc' := 86) dX9_takeFollower_85 rfl rfl rfl ?_
                refine Go_getIv (v := (iZ s.2.2.1)) (pc' := 89) dX9_takeFollower_86 rfl kf_RX9_99 (by decide) (by decide) rfl (S.b 71 rfl rfl) (S.o 71 rfl rfl rfl) (e8) ?_
                refine Go_if_neY (tgt := 106) (pc' := 92) dX9_takeFollower_89 (by decide) rfl (by first | exact ⟨i_lo _, i_hi _⟩ | omega) (fun c89 => ?_) (fun c89 => ?_)
                · refine Go_iload_n (pc' := 107) dX9_takeFollower_106 rfl rfl rfl ?_
                  refine Go_if_eqY (tgt := 129) (pc' := 110) dX9_takeFollower_107 (by decide) rfl (by first | exact ⟨i_lo _, i_hi _⟩ | omega) (fun c107 => by exfalso; omega) (fun c107 => ?_)
                  refine Go_iload_n (pc' := 111) dX9_takeFollower_110 rfl rfl rfl ?_
                  refine Go_iconst (v := iZ 1) (pc' := 112) dX9_takeFollower_111 rfl (by decide) ?_
                  refine Go_icmp_eqY (tgt := 120) (pc' := 115) dX9_takeFollower_112 (by decide) rfl (by first | exact ⟨i_lo _, i_hi _⟩ | omega) (by first | exact ⟨i_lo _, i_hi _⟩ | omega) (fun c112 => ?_) (fun c112 => ?_)
                  · refine Go_aload_n (pc' := 121) dX9_takeFollower_120 rfl rfl rfl ?_
                    refine Go_iload_n (pc' := 122) dX9_takeFollower_121 rfl rfl rfl ?_
                    refine Go_iconst (v := iZ 2) (pc' := 123) dX9_takeFollower_122 rfl (by decide) ?_
                    refine Go_callV_v (pc' := 126) (As := [.int _, .int _]) (st := []) dX9_takeFollower_123 rfl ok_X9_takeJoint km_RX9_116 (S.o 71 rfl rfl rfl) (S.b 71 rfl rfl) ⟨_, _, rfl⟩ rfl (Nat.le_of_ble_eq_true rfl) rfl rfl rfl (Nat.le_of_ble_eq_true rfl) (Nat.lt_succ_self _) ?_
                    refine s_joint (r := zrk c) (nx := 2) S QP hq hr R e3 hc e4 e5 (zrk_wt (by omega)).1 (by omega) (fun H1 T1 => ?_)
                    refine ⟨rfl, ?_⟩
                    refine Go_goto (tgt := 207) dX9_takeFollower_126 (by decide) ?_
                    refine Go_return dX9_takeFollower_207 rfl ?_
                    refine hk _ ?_
                    unfold zfol
                    rw [if_neg (by omega), if_neg (by omega), if_pos (by omega)]
                    exact T1
                  · refine Go_iload_n (pc' := 116) dX9_takeFollower_115 rfl rfl rfl ?_
                    refine Go_iconst (v := iZ 2) (pc' := 117) dX9_takeFollower_116 rfl (by decide) ?_
                    refine Go_icmp_neY (tgt := 129) (pc' := 120) dX9_takeFollower_117 (by decide) rfl (by first | exact ⟨i_lo _, i_hi _⟩ | omega) (by first | exact ⟨i_lo _, i_hi _⟩ | omega) (fun c117 => ?_) (fun c117 => ?_)
                    · refine Go_iload_n (pc' := 130) dX9_takeFollower_129 rfl rfl rfl ?_
                      refine Go_if_eqY (tgt := 157) (pc' := 133) dX9_takeFollower_130 (by decide) rfl (by first | exact ⟨i_lo _, i_hi _⟩ | omega) (fun c130 => by exfalso; omega) (fun c130 => ?_)
                      refine Go_aload_n (pc' := 134) dX9_takeFollower_133 rfl rfl rfl ?_
                      refine Go_getIv (v := (iZ c)) (pc' := 137) dX9_takeFollower_134 rfl kf_RX9_44 (by decide) (by decide) rfl (S.b 71 rfl rfl) (S.o 71 rfl rfl rfl) (e3) ?_
                      refine Go_sipush (v := iZ 141) (pc' := 140) dX9_takeFollower_137 rfl (by decide) ?_
                      refine Go_icmp_neY (tgt := 157) (pc' := 143) dX9_takeFollower_140 (by decide) rfl (by first | exact ⟨i_lo _, i_hi _⟩ | omega) (by first | exact ⟨i_lo _, i_hi _⟩ | omega) (fun c140 => ?_) (fun c140 => ?_)
                      · refine Go_iload_n (pc' := 158) dX9_takeFollower_157 rfl rfl rfl ?_
                        refine Go_if_eqY (tgt := 202) (pc' := 161) dX9_takeFollower_158 (by decide) rfl (by first | exact ⟨i_lo _, i_hi _⟩ | omega) (fun c158 => by exfalso; omega) (fun c158 => ?_)
                        refine Go_aload_n (pc' := 162) dX9_takeFollower_161 rfl rfl rfl ?_
                        refine Go_getIv (v := (iZ c)) (pc' := 165) dX9_takeFollower_162 rfl kf_RX9_44 (by decide) (by decide) rfl (S.b 71 rfl rfl) (S.o 71 rfl rfl rfl) (e3) ?_
                        refine Go_sipush (v := iZ 159) (pc' := 168) dX9_takeFollower_165 rfl (by decide) ?_
                        refine Go_icmp_neY (tgt := 202) (pc' := 171) dX9_takeFollower_168 (by decide) rfl (by first | exact ⟨i_lo _, i_hi _⟩ | omega) (by first | exact ⟨i_lo _, i_hi _⟩ | omega) (fun c168 => ?_) (fun c168 => ?_)
                        · refine Go_aload_n (pc' := 203) dX9_takeFollower_202 rfl rfl rfl ?_
                          refine Go_iconst (v := iZ 1) (pc' := 204) dX9_takeFollower_203 rfl (by decide) ?_
                          refine Go_callV_v (pc' := 207) (As := [.int _]) (st := []) dX9_takeFollower_204 rfl ok_X9_refuse km_RX9_89 (S.o 71 rfl rfl rfl) (S.b 71 rfl rfl) ⟨_, _, rfl⟩ rfl (Nat.le_of_ble_eq_true rfl) rfl rfl rfl (Nat.le_of_ble_eq_true rfl) (Nat.lt_succ_self _) ?_
                          refine Go_aload_n (pc' := 1) dX9_refuse_0 rfl rfl rfl ?_
                          refine Go_iload_n (pc' := 2) dX9_refuse_1 rfl rfl rfl ?_
                          refine Go_putI (pc' := 5) dX9_refuse_2 rfl kf_RX9_38 (by decide) (by decide) rfl (S.b 71 rfl rfl) (S.o 71 rfl rfl rfl) (Or.inl rfl) rfl rfl ?_
                          refine Go_aload_n (pc' := 6) dX9_refuse_5 rfl rfl rfl ?_
                          refine Go_aload_n (pc' := 7) dX9_refuse_6 rfl rfl rfl ?_
                          refine Go_getIv (v := (iZ pl)) (pc' := 10) dX9_refuse_7 rfl kf_RX9_68 (by decide) (by decide) rfl (S.b 71 rfl rfl) (S.o 71 rfl rfl rfl) ((vi_skip (Or.inr (by decide))).trans (e4)) ?_
                          refine Go_putI (pc' := 13) dX9_refuse_10 rfl kf_RX9_18 (by decide) (by decide) rfl (S.b 71 rfl rfl) (S.o 71 rfl rfl rfl) (Or.inl rfl) rfl rfl ?_
                          refine Go_return dX9_refuse_13 rfl ?_
                          refine ⟨rfl, ?_⟩
                          refine Go_return dX9_takeFollower_207 rfl ?_
                          refine hk _ ?_
                          unfold zfol
                          rw [if_neg (by omega), if_neg (by omega), if_neg (by omega), if_neg (by omega), if_neg (by omega)]
                          exact TKp.bad (by omega)
                        · refine Go_aload_n (pc' := 172) dX9_takeFollower_171 rfl rfl rfl ?_
                          refine Go_getIv (v := (iZ (zbr s.2.2.2.1))) (pc' := 175) dX9_takeFollower_172 rfl kf_RX9_65 (by decide) (by decide) rfl (S.b 71 rfl rfl) (S.o 71 rfl rfl rfl) (R.2.2.2.1.2.2.2.2.1) ?_
                          refine Go_if_neY (tgt := 202) (pc' := 178) dX9_takeFollower_175 (by decide) rfl (by first | exact ⟨i_lo _, i_hi _⟩ | omega) (fun c175 => ?_) (fun c175 => ?_)
                          · refine Go_aload_n (pc' := 203) dX9_takeFollower_202 rfl rfl rfl ?_
                            refine Go_iconst (v := iZ 1) (pc' := 204) dX9_takeFollower_203 rfl (by decide) ?_
                            refine Go_callV_v (pc' := 207) (As := [.int _]) (st := []) dX9_takeFollower_204 rfl ok_X9_refuse km_RX9_89 (S.o 71 rfl rfl rfl) (S.b 71 rfl rfl) ⟨_, _, rfl⟩ rfl (Nat.le_of_ble_eq_true rfl) rfl rfl rfl (Nat.le_of_ble_eq_true rfl) (Nat.lt_succ_self _) ?_
                            refine Go_aload_n (pc' := 1) dX9_refuse_0 rfl rfl rfl ?_
                            refine Go_iload_n (pc' := 2) dX9_refuse_1 rfl rfl rfl ?_
                            refine Go_putI (pc' := 5) dX9_refuse_2 rfl kf_RX9_38 (by decide) (by decide) rfl (S.b 71 rfl rfl) (S.o 71 rfl rfl rfl) (Or.inl rfl) rfl rfl ?_
                            refine Go_aload_n (pc' := 6) dX9_refuse_5 rfl rfl rfl ?_
                            refine Go_aload_n (pc' := 7) dX9_refuse_6 rfl rfl rfl ?_
                            refine Go_getIv (v := (iZ pl)) (pc' := 10) dX9_refuse_7 rfl kf_RX9_68 (by decide) (by decide) rfl (S.b 71 rfl rfl) (S.o 71 rfl rfl rfl) ((vi_skip (Or.inr (by decide))).trans (e4)) ?_
                            refine Go_putI (pc' := 13) dX9_refuse_10 rfl kf_RX9_18 (by decide) (by decide) rfl (S.b 71 rfl rfl) (S.o 71 rfl rfl rfl) (Or.inl rfl) rfl rfl ?_
                            refine Go_return dX9_refuse_13 rfl ?_
                            refine ⟨rfl, ?_⟩
                            refine Go_return dX9_takeFollower_207 rfl ?_
                            refine hk _ ?_
                            unfold zfol
                            rw [if_neg (by omega), if_neg (by omega), if_neg (by omega), if_neg (by omega), if_neg (by omega)]
                            exact TKp.bad (by omega)
                          · refine Go_aload_n (pc' := 179) dX9_takeFollower_178 rfl rfl rfl ?_
                            refine Go_iconst (v := iZ 1) (pc' := 180) dX9_takeFollower_179 rfl (by decide) ?_
                            refine Go_callV_v (pc' := 183) (As := [.int _]) (st := []) dX9_takeFollower_180 rfl ok_X9_release km_RX9_123 (S.o 71 rfl rfl rfl) (S.b 71 rfl rfl) ⟨_, _, rfl⟩ rfl (Nat.le_of_ble_eq_true rfl) rfl rfl rfl (Nat.le_of_ble_eq_true rfl) (Nat.lt_succ_self _) ?_
                            refine s_rel (r := 1) S QP hq hr R.2.2.2.2.1 R.2.2.2.1 (by omega) (fun H1 D1 O1 W1 => ?_)
                            refine ⟨rfl, ?_⟩
                            have S1 := D1.shp S
                            have QP1 := D1.qp QP
                            have hr1_ := (D1.2.2.1 71 16).trans hr
                            refine Go_aload_n (pc' := 184) dX9_takeFollower_183 rfl rfl rfl ?_
                            refine Go_getRs (pc' := 187) dX9_takeFollower_184 rfl kf_RX9_29 (by decide) (by decide) rfl (S1.b 71 rfl rfl) (S1.o 71 rfl rfl rfl) hr1_ ?_
                            refine Go_aload_n (pc' := 188) dX9_takeFollower_187 rfl rfl rfl ?_
                            refine Go_getIv (v := (iZ s.2.1)) (pc' := 191) dX9_takeFollower_188 rfl kf_RX9_96 (by decide) (by decide) rfl (S1.b 71 rfl rfl) (S1.o 71 rfl rfl rfl) (((D1.2.2.2 _ _ (by unfold Pr; omega)).trans R.2.1)) ?_
                            refine Go_callV_v (pc' := 194) (As := [.int _]) (st := []) dX9_takeFollower_191 rfl ok_X8_closeLine km_RX9_126 QP1.2.1 QP1.1 ⟨_, _, rfl⟩ rfl (Nat.le_of_ble_eq_true rfl) rfl rfl rfl (Nat.le_of_ble_eq_true rfl) (Nat.lt_succ_self _) ?_
                            refine s_cline (l := (s.2.2.2.2.2 : Int)) QP1 O1 ((D1.2.2.2 _ _ (by unfold Pr; omega)).trans R.2.2.2.2.2) (fun H2 D2 O2 l2 => ?_)
                            refine ⟨rfl, ?_⟩
                            have S2 := D2.shp S1
                            refine Go_aload_n (pc' := 195) dX9_takeFollower_194 rfl rfl rfl ?_
                            refine Go_iconst (v := iZ 0) (pc' := 196) dX9_takeFollower_195 rfl (by decide) ?_
                            refine Go_putI (pc' := 199) dX9_takeFollower_196 rfl kf_RX9_47 (by decide) (by decide) rfl (S2.b 71 rfl rfl) (S2.o 71 rfl rfl rfl) (Or.inl rfl) rfl rfl ?_
                            refine Go_goto (tgt := 207) dX9_takeFollower_199 (by decide) ?_
                            refine Go_return dX9_takeFollower_207 rfl ?_
                            refine hk _ ?_
                            unfold zfol
                            rw [if_neg (by omega), if_neg (by omega), if_neg (by omega), if_neg (by omega), if_pos (by omega)]
                            exact TKp.line R hq D1 W1 D2 O2 l2
                      · refine Go_aload_n (pc' := 144) dX9_takeFollower_143 rfl rfl rfl ?_
                        refine Go_getIv (v := (iZ (zbr s.2.2.2.1))) (pc' := 147) dX9_takeFollower_144 rfl kf_RX9_65 (by decide) (by decide) rfl (S.b 71 rfl rfl) (S.o 71 rfl rfl rfl) (R.2.2.2.1.2.2.2.2.1) ?_
                        refine Go_if_leY (tgt := 157) (pc' := 150) dX9_takeFollower_147 (by decide) rfl (by first | exact ⟨i_lo _, i_hi _⟩ | omega) (fun c147 => ?_) (fun c147 => ?_)
                        · refine Go_iload_n (pc' := 158) dX9_takeFollower_157 rfl rfl rfl ?_
                          refine Go_if_eqY (tgt := 202) (pc' := 161) dX9_takeFollower_158 (by decide) rfl (by first | exact ⟨i_lo _, i_hi _⟩ | omega) (fun c158 => by exfalso; omega) (fun c158 => ?_)
                          refine Go_aload_n (pc' := 162) dX9_takeFollower_161 rfl rfl rfl ?_
                          refine Go_getIv (v := (iZ c)) (pc' := 165) dX9_takeFollower_162 rfl kf_RX9_44 (by decide) (by decide) rfl (S.b 71 rfl rfl) (S.o 71 rfl rfl rfl) (e3) ?_
                          refine Go_sipush (v := iZ 159) (pc' := 168) dX9_takeFollower_165 rfl (by decide) ?_
                          refine Go_icmp_neY (tgt := 202) (pc' := 171) dX9_takeFollower_168 (by decide) rfl (by first | exact ⟨i_lo _, i_hi _⟩ | omega) (by first | exact ⟨i_lo _, i_hi _⟩ | omega) (fun c168 => ?_) (fun c168 => ?_)
                          · refine Go_aload_n (pc' := 203) dX9_takeFollower_202 rfl rfl rfl ?_
                            refine Go_iconst (v := iZ 1) (pc' := 204) dX9_takeFollower_203 rfl (by decide) ?_
                            refine Go_callV_v (pc' := 207) (As := [.int _]) (st := []) dX9_takeFollower_204 rfl ok_X9_refuse km_RX9_89 (S.o 71 rfl rfl rfl) (S.b 71 rfl rfl) ⟨_, _, rfl⟩ rfl (Nat.le_of_ble_eq_true rfl) rfl rfl rfl (Nat.le_of_ble_eq_true rfl) (Nat.lt_succ_self _) ?_
                            refine Go_aload_n (pc' := 1) dX9_refuse_0 rfl rfl rfl ?_
                            refine Go_iload_n (pc' := 2) dX9_refuse_1 rfl rfl rfl ?_
                            refine Go_putI (pc' := 5) dX9_refuse_2 rfl kf_RX9_38 (by decide) (by decide) rfl (S.b 71 rfl rfl) (S.o 71 rfl rfl rfl) (Or.inl rfl) rfl rfl ?_
                            refine Go_aload_n (pc' := 6) dX9_refuse_5 rfl rfl rfl ?_
                            refine Go_aload_n (pc' := 7) dX9_refuse_6 rfl rfl rfl ?_
                            refine Go_getIv (v := (iZ pl)) (pc' := 10) dX9_refuse_7 rfl kf_RX9_68 (by decide) (by decide) rfl (S.b 71 rfl rfl) (S.o 71 rfl rfl rfl) ((vi_skip (Or.inr (by decide))).trans (e4)) ?_
                            refine Go_putI (pc' := 13) dX9_refuse_10 rfl kf_RX9_18 (by decide) (by decide) rfl (S.b 71 rfl rfl) (S.o 71 rfl rfl rfl) (Or.inl rfl) rfl rfl ?_
                            refine Go_return dX9_refuse_13 rfl ?_
                            refine ⟨rfl, ?_⟩
                            refine Go_return dX9_takeFollower_207 rfl ?_
                            refine hk _ ?_
                            unfold zfol
                            rw [if_neg (by omega), if_neg (by omega), if_neg (by omega), if_neg (by omega), if_neg (by omega)]
                            exact TKp.bad (by omega)
                          · refine Go_aload_n (pc' := 172) dX9_takeFollower_171 rfl rfl rfl ?_
                            refine Go_getIv (v := (iZ (zbr s.2.2.2.1))) (pc' := 175) dX9_takeFollower_172 rfl kf_RX9_65 (by decide) (by decide) rfl (S.b 71 rfl rfl) (S.o 71 rfl rfl rfl) (R.2.2.2.1.2.2.2.2.1) ?_
                            refine Go_if_neY (tgt := 202) (pc' := 178) dX9_takeFollower_175 (by decide) rfl (by first | exact ⟨i_lo _, i_hi _⟩ | omega) (fun c175 => ?_) (fun c175 => ?_)
                            · refine Go_aload_n (pc' := 203) dX9_takeFollower_202 rfl rfl rfl ?_
                              refine Go_iconst (v := iZ 1) (pc' := 204) dX9_takeFollower_203 rfl (by decide) ?_
                              refine Go_callV_v (pc' := 207) (As := [.int _]) (st := []) dX9_takeFollower_204 rfl ok_X9_refuse km_RX9_89 (S.o 71 rfl rfl rfl) (S.b 71 rfl rfl) ⟨_, _, rfl⟩ rfl (Nat.le_of_ble_eq_true rfl) rfl rfl rfl (Nat.le_of_ble_eq_true rfl) (Nat.lt_succ_self _) ?_
                              refine Go_aload_n (pc' := 1) dX9_refuse_0 rfl rfl rfl ?_
                              refine Go_iload_n (pc' := 2) dX9_refuse_1 rfl rfl rfl ?_
                              refine Go_putI (pc' := 5) dX9_refuse_2 rfl kf_RX9_38 (by decide) (by decide) rfl (S.b 71 rfl rfl) (S.o 71 rfl rfl rfl) (Or.inl rfl) rfl rfl ?_
                              refine Go_aload_n (pc' := 6) dX9_refuse_5 rfl rfl rfl ?_
                              refine Go_aload_n (pc' := 7) dX9_refuse_6 rfl rfl rfl ?_
                              refine Go_getIv (v := (iZ pl)) (pc' := 10) dX9_refuse_7 rfl kf_RX9_68 (by decide) (by decide) rfl (S.b 71 rfl rfl) (S.o 71 rfl rfl rfl) ((vi_skip (Or.inr (by decide))).trans (e4)) ?_
                              refine Go_putI (pc' := 13) dX9_refuse_10 rfl kf_RX9_18 (by decide) (by decide) rfl (S.b 71 rfl rfl) (S.o 71 rfl rfl rfl) (Or.inl rfl) rfl rfl ?_
                              refine Go_return dX9_refuse_13 rfl ?_
                              refine ⟨rfl, ?_⟩
                              refine Go_return dX9_takeFollower_207 rfl ?_
                              refine hk _ ?_
                              unfold zfol
                              rw [if_neg (by omega), if_neg (by omega), if_neg (by omega), if_neg (by omega), if_neg (by omega)]
                              exact TKp.bad (by omega)
                            · refine Go_aload_n (pc' := 179) dX9_takeFollower_178 rfl rfl rfl ?_
                              refine Go_iconst (v := iZ 1) (pc' := 180) dX9_takeFollower_179 rfl (by decide) ?_
                              refine Go_callV_v (pc' := 183) (As := [.int _]) (st := []) dX9_takeFollower_180 rfl ok_X9_release km_RX9_123 (S.o 71 rfl rfl rfl) (S.b 71 rfl rfl) ⟨_, _, rfl⟩ rfl (Nat.le_of_ble_eq_true rfl) rfl rfl rfl (Nat.le_of_ble_eq_true rfl) (Nat.lt_succ_self _) ?_
                              refine s_rel (r := 1) S QP hq hr R.2.2.2.2.1 R.2.2.2.1 (by omega) (fun H1 D1 O1 W1 => ?_)
                              refine ⟨rfl, ?_⟩
                              have S1 := D1.shp S
                              have QP1 := D1.qp QP
                              have hr1_ := (D1.2.2.1 71 16).trans hr
                              refine Go_aload_n (pc' := 184) dX9_takeFollower_183 rfl rfl rfl ?_
                              refine Go_getRs (pc' := 187) dX9_takeFollower_184 rfl kf_RX9_29 (by decide) (by decide) rfl (S1.b 71 rfl rfl) (S1.o 71 rfl rfl rfl) hr1_ ?_
                              refine Go_aload_n (pc' := 188) dX9_takeFollower_187 rfl rfl rfl ?_
                              refine Go_getIv (v := (iZ s.2.1)) (pc' := 191) dX9_takeFollower_188 rfl kf_RX9_96 (by decide) (by decide) rfl (S1.b 71 rfl rfl) (S1.o 71 rfl rfl rfl) (((D1.2.2.2 _ _ (by unfold Pr; omega)).trans R.2.1)) ?_
                              refine Go_callV_v (pc' := 194) (As := [.int _]) (st := []) dX9_takeFollower_191 rfl ok_X8_closeLine km_RX9_126 QP1.2.1 QP1.1 ⟨_, _, rfl⟩ rfl (Nat.le_of_ble_eq_true rfl) rfl rfl rfl (Nat.le_of_ble_eq_true rfl) (Nat.lt_succ_self _) ?_
                              refine s_cline (l := (s.2.2.2.2.2 : Int)) QP1 O1 ((D1.2.2.2 _ _ (by unfold Pr; omega)).trans R.2.2.2.2.2) (fun H2 D2 O2 l2 => ?_)
                              refine ⟨rfl, ?_⟩
                              have S2 := D2.shp S1
                              refine Go_aload_n (pc' := 195) dX9_takeFollower_194 rfl rfl rfl ?_
                              refine Go_iconst (v := iZ 0) (pc' := 196) dX9_takeFollower_195 rfl (by decide) ?_
                              refine Go_putI (pc' := 199) dX9_takeFollower_196 rfl kf_RX9_47 (by decide) (by decide) rfl (S2.b 71 rfl rfl) (S2.o 71 rfl rfl rfl) (Or.inl rfl) rfl rfl ?_
                              refine Go_goto (tgt := 207) dX9_takeFollower_199 (by decide) ?_
                              refine Go_return dX9_takeFollower_207 rfl ?_
                              refine hk _ ?_
                              unfold zfol
                              rw [if_neg (by omega), if_neg (by omega), if_neg (by omega), if_neg (by omega), if_pos (by omega)]
                              exact TKp.line R hq D1 W1 D2 O2 l2
                        · refine Go_aload_n (pc' := 151) dX9_takeFollower_150 rfl rfl rfl ?_
                          refine Go_callV_v (pc' := 154) (As := []) (st := []) dX9_takeFollower_151 rfl ok_X9_closeBracket km_RX9_120 (S.o 71 rfl rfl rfl) (S.b 71 rfl rfl) ⟨_, _, rfl⟩ rfl (Nat.le_of_ble_eq_true rfl) rfl rfl rfl (Nat.le_of_ble_eq_true rfl) (Nat.lt_succ_self _) ?_
                          refine s_close S QP hq hr R e3 hc e4 e5 (by omega) (fun H1 T1 => ?_)
                          refine ⟨rfl, ?_⟩
                          refine Go_goto (tgt := 207) dX9_takeFollower_154 (by decide) ?_
                          refine Go_return dX9_takeFollower_207 rfl ?_
                          refine hk _ ?_
                          unfold zfol
                          rw [if_neg (by omega), if_neg (by omega), if_neg (by omega), if_pos (by omega)]
                          exact T1
                    · refine Go_aload_n (pc' := 121) dX9_takeFollower_120 rfl rfl rfl ?_
                      refine Go_iload_n (pc' := 122) dX9_takeFollower_121 rfl rfl rfl ?_
                      refine Go_iconst (v := iZ 2) (pc' := 123) dX9_takeFollower_122 rfl (by decide) ?_
                      refine Go_callV_v (pc' := 126) (As := [.int _, .int _]) (st := []) dX9_takeFollower_123 rfl ok_X9_takeJoint km_RX9_116 (S.o 71 rfl rfl rfl) (S.b 71 rfl rfl) ⟨_, _, rfl⟩ rfl (Nat.le_of_ble_eq_true rfl) rfl rfl rfl (Nat.le_of_ble_eq_true rfl) (Nat.lt_succ_self _) ?_
                      refine s_joint (r := zrk c) (nx := 2) S QP hq hr R e3 hc e4 e5 (zrk_wt (by omega)).1 (by omega) (fun H1 T1 => ?_)
                      refine ⟨rfl, ?_⟩
                      refine Go_goto (tgt := 207) dX9_takeFollower_126 (by decide) ?_
                      refine Go_return dX9_takeFollower_207 rfl ?_
                      refine hk _ ?_
                      unfold zfol
                      rw [if_neg (by omega), if_neg (by omega), if_pos (by omega)]
                      exact T1
                · refine Go_aload_n (pc' := 93) dX9_takeFollower_92 rfl rfl rfl ?_
                  refine Go_iconst (v := iZ 1) (pc' := 94) dX9_takeFollower_93 rfl (by decide) ?_
                  refine Go_putI (pc' := 97) dX9_takeFollower_94 rfl kf_RX9_99 (by decide) (by decide) rfl (S.b 71 rfl rfl) (S.o 71 rfl rfl rfl) (Or.inl rfl) rfl rfl ?_
                  refine Go_aload_n (pc' := 98) dX9_takeFollower_97 rfl rfl rfl ?_
                  refine Go_iload_n (pc' := 99) dX9_takeFollower_98 rfl rfl rfl ?_
                  refine Go_iconst (v := iZ 3) (pc' := 100) dX9_takeFollower_99 rfl (by decide) ?_
                  refine Go_callV_v (pc' := 103) (As := [.int _, .int _]) (st := []) dX9_takeFollower_100 rfl ok_X9_takeJoint km_RX9_116 (S.o 71 rfl rfl rfl) (S.b 71 rfl rfl) ⟨_, _, rfl⟩ rfl (Nat.le_of_ble_eq_true rfl) rfl rfl rfl (Nat.le_of_ble_eq_true rfl) (Nat.lt_succ_self _) ?_
                  refine s_joint (r := zrk c) (nx := 3) (s := (s.1, s.2.1, 1, s.2.2.2.1, s.2.2.2.2.1, s.2.2.2.2.2)) S QP hq hr (RS6.w8 1 (by omega) R hq) ((vi_skip (by decide)).trans e3) hc ((vi_skip (by decide)).trans e4) (fun z => (vi_skip (by decide)).trans (e5 z)) (zrk_wt (by omega)).1 (by omega) (fun H1 T1 => ?_)
                  refine ⟨rfl, ?_⟩
                  refine Go_goto (tgt := 207) dX9_takeFollower_103 (by decide) ?_
                  refine Go_return dX9_takeFollower_207 rfl ?_
                  refine hk _ ?_
                  unfold zfol
                  rw [if_neg (by omega), if_pos (by omega)]
                  exact T1.pre (DX.wI (DX.rf (fun i k => i = 71 ∧ k = 8) H) (by omega)) (fun i k z => by unfold Pk; omega)
          · refine Go_aload_n (pc' := 50) dX9_takeFollower_49 rfl rfl rfl ?_
            refine Go_iload_n (pc' := 51) dX9_takeFollower_50 rfl rfl rfl ?_
            refine Go_aload_n (pc' := 52) dX9_takeFollower_51 rfl rfl rfl ?_
            refine Go_getIv (v := (iZ c)) (pc' := 55) dX9_takeFollower_52 rfl kf_RX9_44 (by decide) (by decide) rfl (S.b 71 rfl rfl) (S.o 71 rfl rfl rfl) (e3) ?_
            refine Go_sipush (v := iZ 147) (pc' := 58) dX9_takeFollower_55 rfl (by decide) ?_
            refine Go_icmp_neY (tgt := 65) (pc' := 61) dX9_takeFollower_58 (by decide) rfl (by first | exact ⟨i_lo _, i_hi _⟩ | omega) (by first | exact ⟨i_lo _, i_hi _⟩ | omega) (fun c58 => ?_) (fun c58 => ?_)
            · refine Go_iconst (v := iZ 3) (pc' := 66) dX9_takeFollower_65 rfl (by decide) ?_
              refine Go_callV_v (pc' := 69) (As := [.int _, .int _]) (st := []) dX9_takeFollower_66 rfl ok_X9_takeJoint km_RX9_116 (S.o 71 rfl rfl rfl) (S.b 71 rfl rfl) ⟨_, _, rfl⟩ rfl (Nat.le_of_ble_eq_true rfl) rfl rfl rfl (Nat.le_of_ble_eq_true rfl) (Nat.lt_succ_self _) ?_
              refine s_joint (r := zrk c) (nx := 3) S QP hq hr R e3 hc e4 e5 (zrk_wt (by omega)).1 (by omega) (fun H1 T1 => ?_)
              refine ⟨rfl, ?_⟩
              refine Go_goto (tgt := 207) dX9_takeFollower_69 (by decide) ?_
              refine Go_return dX9_takeFollower_207 rfl ?_
              refine hk _ ?_
              unfold zfol
              rw [if_pos (by omega)]
              rw [if_neg (by omega)]
              exact T1
            · refine Go_iconst (v := iZ 4) (pc' := 62) dX9_takeFollower_61 rfl (by decide) ?_
              refine Go_goto (tgt := 66) dX9_takeFollower_62 (by decide) ?_
              refine Go_callV_v (pc' := 69) (As := [.int _, .int _]) (st := []) dX9_takeFollower_66 rfl ok_X9_takeJoint km_RX9_116 (S.o 71 rfl rfl rfl) (S.b 71 rfl rfl) ⟨_, _, rfl⟩ rfl (Nat.le_of_ble_eq_true rfl) rfl rfl rfl (Nat.le_of_ble_eq_true rfl) (Nat.lt_succ_self _) ?_
              refine s_joint (r := zrk c) (nx := 4) S QP hq hr R e3 hc e4 e5 (zrk_wt (by omega)).1 (by omega) (fun H1 T1 => ?_)
              refine ⟨rfl, ?_⟩
              refine Go_goto (tgt := 207) dX9_takeFollower_69 (by decide) ?_
              refine Go_return dX9_takeFollower_207 rfl ?_
              refine hk _ ?_
              unfold zfol
              rw [if_pos (by omega)]
              rw [if_pos (by omega)]
              exact T1
