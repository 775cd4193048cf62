/-! the class reads a tape to its end: the loop -/
theorem zst_k (c v : Int) (s : St6) : 0 ≤ (zst c v s).1 ∧ (zst c v s).1 ≤ 3 := by
  have hu : ∀ s : St6, 0 ≤ (zunit c v s).1 ∧ (zunit c v s).1 ≤ 3 := by
    intro s
    unfold zunit
    split
    · exact ⟨by show (0 : Int) ≤ 0; omega, by show (0 : Int) ≤ 3; omega⟩
    · split
      · exact ⟨by show (0 : Int) ≤ 0; omega, by show (0 : Int) ≤ 3; omega⟩
      · exact ⟨by show (0 : Int) ≤ 1; omega, by show (1 : Int) ≤ 3; omega⟩
  unfold zst
  split
  · unfold zlin
    split
    · split
      · exact ⟨by show (0 : Int) ≤ 3; omega, by show (3 : Int) ≤ 3; omega⟩
      · exact ⟨by show (0 : Int) ≤ 0; omega, by show (0 : Int) ≤ 3; omega⟩
    · exact ⟨by show (0 : Int) ≤ 1; omega, by show (1 : Int) ≤ 3; omega⟩
  · split
    · unfold zwhen
      split
      · exact ⟨by show (0 : Int) ≤ 0; omega, by show (0 : Int) ≤ 3; omega⟩
      · exact ⟨by show (0 : Int) ≤ 1; omega, by show (1 : Int) ≤ 3; omega⟩
    · split
      · unfold zcon
        split
        · split
          · exact ⟨by show (0 : Int) ≤ 3; omega, by show (3 : Int) ≤ 3; omega⟩
          · exact ⟨by show (0 : Int) ≤ 0; omega, by show (0 : Int) ≤ 3; omega⟩
        · exact hu _
      · split
        · exact hu _
        · split
          · unfold zdiv
            split
            · split
              · exact ⟨by show (0 : Int) ≤ 2; omega, by show (2 : Int) ≤ 3; omega⟩
              · exact hu _
            · exact ⟨by show (0 : Int) ≤ 1; omega, by show (1 : Int) ≤ 3; omega⟩
          · unfold zfol
            split
            · exact ⟨by show (0 : Int) ≤ 0; omega, by show (0 : Int) ≤ 3; omega⟩
            · split
              · exact ⟨by show (0 : Int) ≤ 0; omega, by show (0 : Int) ≤ 3; omega⟩
              · split
                · exact ⟨by show (0 : Int) ≤ 0; omega, by show (0 : Int) ≤ 3; omega⟩
                · split
                  · exact ⟨by show (0 : Int) ≤ 0; omega, by show (0 : Int) ≤ 3; omega⟩
                  · split
                    · exact ⟨by show (0 : Int) ≤ 0; omega, by show (0 : Int) ≤ 3; omega⟩
                    · exact ⟨by show (0 : Int) ≤ 1; omega, by show (1 : Int) ≤ 3; omega⟩
theorem RS6.dx {P : Nat → Nat → Prop} {H H' : HS} {q : Nat} {s : St6} (R : RS6 H q s) (D : DX P H H') (h1 : ∀ k, 6 ≤ k → k ≤ 12 → ¬ P 71 k) (h2 : ∀ k, ¬ P 73 k) (h3 : ∀ k, ¬ P q k) (h4 : ∀ k, ¬ P (q + 1) k) : RS6 H' q s := by
  obtain ⟨r1, r2, r3, r4, r5, r6⟩ := R
  exact ⟨(D.2.2.2 _ _ (h1 6 (by omega) (by omega))).trans r1, (D.2.2.2 _ _ (h1 7 (by omega) (by omega))).trans r2, ⟨(D.2.2.2 _ _ (h1 8 (by omega) (by omega))).trans r3.1, r3.2⟩, r4.dx D h2 (h1 10 (by omega) (by omega)) (h1 11 (by omega) (by omega)) (h1 12 (by omega) (by omega)), r5.dx D (h3 1) h4, (D.2.2.2 _ _ (h3 2)).trans r6⟩
abbrev Pz (q i k : Nat) : Prop := Pk q i k ∨ Pt i k
/-- what holds at the end of a run -/
def RnE (H : HS) (q : Nat) (r : Int × Int × St6) : Prop := (r.1 = 0 → RS6 H q r.2.2 ∧ vi H 71 13 = iZ 0 ∧ vi H 71 14 = iZ (-1)) ∧ (¬ r.1 = 0 → vi H 71 13 = iZ r.1 ∧ vi H 71 14 = iZ r.2.1)

set_option maxRecDepth 20000 in
set_option maxHeartbeats 4000000 in
theorem tr_loop {G : GC} {d mc ms : Nat} {K : Option Value → HS → Prop} {T : Nat → Int} {n : Nat} {q : Nat} (hq : q = 74 ∨ q = 77) : ∀ (m pos : Nat) (s : St6) (H : HS) (j : Nat), j + m = 601 → Shp H → QPr H q → ri H 71 16 = some q → TF H T n → vi H 71 2 = iZ (pos : Int) → pos ≤ n → RS6 H q s → zinv s → vi H 71 13 = iZ 0 → vi H 71 14 = iZ (-1) → (∀ (H' : HS) (x : Int), DX (Pz q) H H' → RnE H' q (rn T n m pos s) → Go G (d + 7) mc ms M_X9_translate 53 [.ref 71, .int (iZ x)] [] H' K) → Go G (d + 7) mc ms M_X9_translate 6 [.ref 71, .int (iZ (j : Int))] [] H K := by
  intro m
  induction m with
  | zero =>
    intro pos s H j hj S QP hr F e2 hp R I e13 e14 hk
    refine Go_iload_n (pc' := 7) dX9_translate_6 rfl rfl rfl ?_
    refine Go_sipush (v := iZ 600) (pc' := 10) dX9_translate_7 rfl (by decide) ?_
    refine Go_icmp_gtY (tgt := 53) (pc' := 13) dX9_translate_10 (by decide) rfl (by first | exact ⟨i_lo _, i_hi _⟩ | omega) (by first | exact ⟨i_lo _, i_hi _⟩ | omega) (fun c10 => ?_) (fun c10 => by exfalso; omega)
    exact hk H _ (DX.rf _ _) ⟨fun _ => ⟨R, e13, e14⟩, fun z => absurd rfl z⟩
  | succ m ih =>
    intro pos s H j hj S QP hr F e2 hp R I e13 e14 hk
    have her := tE_r (T := T) hp
    have cr := tC_r (T := T) (n := n) (pos := pos) (fun i hi => (F.2.2.2 i hi).2)
    have i1 := I.1
    refine Go_iload_n (pc' := 7) dX9_translate_6 rfl rfl rfl ?_
    refine Go_sipush (v := iZ 600) (pc' := 10) dX9_translate_7 rfl (by decide) ?_
    refine Go_icmp_gtY (tgt := 53) (pc' := 13) dX9_translate_10 (by decide) rfl (by first | exact ⟨i_lo _, i_hi _⟩ | omega) (by first | exact ⟨i_lo _, i_hi _⟩ | omega) (fun c10 => by exfalso; omega) (fun c10 => ?_)
    refine Go_aload_n (pc' := 14) dX9_translate_13 rfl rfl rfl ?_
    refine Go_getIv (v := (iZ 0)) (pc' := 17) dX9_translate_14 rfl kf_RX9_38 (by decide) (by decide) rfl (S.b 71 rfl rfl) (S.o 71 rfl rfl rfl) (e13) ?_
    refine Go_if_neY (tgt := 53) (pc' := 20) dX9_translate_17 (by decide) rfl (by first | exact ⟨i_lo _, i_hi _⟩ | omega) (fun c17 => by exfalso; omega) (fun c17 => ?_)
    refine Go_aload_n (pc' := 21) dX9_translate_20 rfl rfl rfl ?_
    refine Go_callV_v (pc' := 24) (As := []) (st := []) dX9_translate_21 rfl ok_X9_advance km_RX9_41 (S.o 71 rfl rfl rfl) (S.b 71 rfl rfl) ⟨_, _, rfl⟩ rfl (Nat.le_of_ble_eq_true rfl) rfl rfl rfl (Nat.le_of_ble_eq_true rfl) (Nat.lt_succ_self _) ?_
    refine s_adv F e2 hp (fun H1 D1 g2 g3 g4 g5 => ?_)
    refine ⟨rfl, ?_⟩
    have S1 := D1.shp S
    have QP1 := D1.qp QP
    have hr1_ := (D1.2.2.1 71 16).trans hr
    have F1 := F.dx D1 (by unfold Pt; omega) (fun k => by unfold Pt; omega)
    have R1 := R.dx D1 (fun k a b => by unfold Pt; omega) (fun k => by unfold Pt; omega) (fun k => by unfold Pt; omega) (fun k => by unfold Pt; omega)
    refine Go_aload_n (pc' := 25) dX9_translate_24 rfl rfl rfl ?_
    refine Go_getIv (v := (iZ (tC T n pos))) (pc' := 28) dX9_translate_25 rfl kf_RX9_44 (by decide) (by decide) rfl (S1.b 71 rfl rfl) (S1.o 71 rfl rfl rfl) (g3) ?_
    refine Go_bipush (v := iZ 21) (pc' := 30) dX9_translate_28 rfl (by decide) ?_
    refine Go_icmp_neY (tgt := 43) (pc' := 33) dX9_translate_30 (by decide) rfl (by first | exact ⟨i_lo _, i_hi _⟩ | omega) (by first | exact ⟨i_lo _, i_hi _⟩ | omega) (fun c30 => ?_) (fun c30 => ?_)
    · refine Go_aload_n (pc' := 44) dX9_translate_43 rfl rfl rfl ?_
      refine Go_callV_v (pc' := 47) (As := []) (st := []) dX9_translate_44 rfl ok_X9_take km_RX9_50 (S1.o 71 rfl rfl rfl) (S1.b 71 rfl rfl) ⟨_, _, rfl⟩ rfl (Nat.le_of_ble_eq_true rfl) rfl rfl rfl (Nat.le_of_ble_eq_true rfl) (Nat.lt_succ_self _) ?_
      refine s_take (s := s) (c := tC T n pos) (v := tV T n pos) (pl := (tP T n pos : Int)) S1 QP1 hq hr1_ R1 g3 (by omega) g4 g5 I (fun z => tV_r z) (fun H2 T2 => ?_)
      refine ⟨rfl, ?_⟩
      have nee : ¬ (tC T n pos = 21 ∧ s.1 = 0) := by omega
      have S2 := T2.1.shp S1
      have QP2 := T2.1.qp QP1
      have hr2_ := (T2.1.2.2.1 71 16).trans hr1_
      have zk := zst_k (tC T n pos) (tV T n pos) s
      by_cases cz : (zst (tC T n pos) (tV T n pos) s).1 = 0
      · refine Go_iincZ (pc' := 50) (lv' := [.ref _, .int _]) dX9_translate_47 rfl rfl (Nat.le_of_ble_eq_true rfl) rfl rfl ?_
        refine Go_goto (tgt := 6) dX9_translate_50 (by decide) ?_
        exact ih (tE T n pos) _ H2 (j + 1) (by omega) S2 QP2 hr2_ (F1.dx T2.1 (by unfold Pk; omega) (fun k => by unfold Pk; omega)) ((T2.1.2.2.2 _ _ (by unfold Pk; omega)).trans g2) her.2.1 (T2.2.1 cz).1 (zst_i I cz) ((T2.2.1 cz).2.1.trans ((D1.2.2.2 _ _ (by unfold Pt; omega)).trans e13)) ((T2.2.1 cz).2.2.trans ((D1.2.2.2 _ _ (by unfold Pt; omega)).trans e14)) (fun H3 x3 D3 E3 => hk H3 x3 ((D1.mono (fun i k z => Or.inr z)).tr ((T2.1.mono (fun i k z => Or.inl z)).tr D3)) (by rw [rn_s nee cz]; exact E3))
      · refine Go_iincZ (pc' := 50) (lv' := [.ref _, .int _]) dX9_translate_47 rfl rfl (Nat.le_of_ble_eq_true rfl) rfl rfl ?_
        refine Go_goto (tgt := 6) dX9_translate_50 (by decide) ?_
        refine Go_iload_n (pc' := 7) dX9_translate_6 rfl rfl rfl ?_
        refine Go_sipush (v := iZ 600) (pc' := 10) dX9_translate_7 rfl (by decide) ?_
        refine Go_icmp_gtY (tgt := 53) (pc' := 13) dX9_translate_10 (by decide) rfl (by first | exact ⟨i_lo _, i_hi _⟩ | omega) (by first | exact ⟨i_lo _, i_hi _⟩ | omega) (fun c10 => ?_) (fun c10 => ?_)
        · exact hk H2 _ (D1.mono (fun i k z => Or.inr z) |>.tr (T2.1.mono (fun i k z => Or.inl z))) (by rw [rn_b nee cz]; exact ⟨fun z => absurd z cz, fun _ => T2.2.2 cz⟩)
        · refine Go_aload_n (pc' := 14) dX9_translate_13 rfl rfl rfl ?_
          refine Go_getIv (v := (iZ (zst (tC T n pos) (tV T n pos) s).1)) (pc' := 17) dX9_translate_14 rfl kf_RX9_38 (by decide) (by decide) rfl (S2.b 71 rfl rfl) (S2.o 71 rfl rfl rfl) ((T2.2.2 cz).1) ?_
          refine Go_if_neY (tgt := 53) (pc' := 20) dX9_translate_17 (by decide) rfl (by first | exact ⟨i_lo _, i_hi _⟩ | omega) (fun c17 => ?_) (fun c17 => by exfalso; omega)
          exact hk H2 _ (D1.mono (fun i k z => Or.inr z) |>.tr (T2.1.mono (fun i k z => Or.inl z))) (by rw [rn_b nee cz]; exact ⟨fun z => absurd z cz, fun _ => T2.2.2 cz⟩)
    · refine Go_aload_n (pc' := 34) dX9_translate_33 rfl rfl rfl ?_
      refine Go_getIv (v := (iZ s.1)) (pc' := 37) dX9_translate_34 rfl kf_RX9_47 (by decide) (by decide) rfl (S1.b 71 rfl rfl) (S1.o 71 rfl rfl rfl) (R1.1) ?_
      refine Go_if_neY (tgt := 43) (pc' := 40) dX9_translate_37 (by decide) rfl (by first | exact ⟨i_lo _, i_hi _⟩ | omega) (fun c37 => ?_) (fun c37 => ?_)
      · refine Go_aload_n (pc' := 44) dX9_translate_43 rfl rfl rfl ?_
        refine Go_callV_v (pc' := 47) (As := []) (st := []) dX9_translate_44 rfl ok_X9_take km_RX9_50 (S1.o 71 rfl rfl rfl) (S1.b 71 rfl rfl) ⟨_, _, rfl⟩ rfl (Nat.le_of_ble_eq_true rfl) rfl rfl rfl (Nat.le_of_ble_eq_true rfl) (Nat.lt_succ_self _) ?_
        refine s_take (s := s) (c := tC T n pos) (v := tV T n pos) (pl := (tP T n pos : Int)) S1 QP1 hq hr1_ R1 g3 (by omega) g4 g5 I (fun z => tV_r z) (fun H2 T2 => ?_)
        refine ⟨rfl, ?_⟩
        have nee : ¬ (tC T n pos = 21 ∧ s.1 = 0) := by omega
        have S2 := T2.1.shp S1
        have QP2 := T2.1.qp QP1
        have hr2_ := (T2.1.2.2.1 71 16).trans hr1_
        have zk := zst_k (tC T n pos) (tV T n pos) s
        by_cases cz : (zst (tC T n pos) (tV T n pos) s).1 = 0
        · refine Go_iincZ (pc' := 50) (lv' := [.ref _, .int _]) dX9_translate_47 rfl rfl (Nat.le_of_ble_eq_true rfl) rfl rfl ?_
          refine Go_goto (tgt := 6) dX9_translate_50 (by decide) ?_
          exact ih (tE T n pos) _ H2 (j + 1) (by omega) S2 QP2 hr2_ (F1.dx T2.1 (by unfold Pk; omega) (fun k => by unfold Pk; omega)) ((T2.1.2.2.2 _ _ (by unfold Pk; omega)).trans g2) her.2.1 (T2.2.1 cz).1 (zst_i I cz) ((T2.2.1 cz).2.1.trans ((D1.2.2.2 _ _ (by unfold Pt; omega)).trans e13)) ((T2.2.1 cz).2.2.trans ((D1.2.2.2 _ _ (by unfold Pt; omega)).trans e14)) (fun H3 x3 D3 E3 => hk H3 x3 ((D1.mono (fun i k z => Or.inr z)).tr ((T2.1.mono (fun i k z => Or.inl z)).tr D3)) (by rw [rn_s nee cz]; exact E3))
        · refine Go_iincZ (pc' := 50) (lv' := [.ref _, .int _]) dX9_translate_47 rfl rfl (Nat.le_of_ble_eq_true rfl) rfl rfl ?_
          refine Go_goto (tgt := 6) dX9_translate_50 (by decide) ?_
          refine Go_iload_n (pc' := 7) dX9_translate_6 rfl rfl rfl ?_
          refine Go_sipush (v := iZ 600) (pc' := 10) dX9_translate_7 rfl (by decide) ?_
          refine Go_icmp_gtY (tgt := 53) (pc' := 13) dX9_translate_10 (by decide) rfl (by first | exact ⟨i_lo _, i_hi _⟩ | omega) (by first | exact ⟨i_lo _, i_hi _⟩ | omega) (fun c10 => ?_) (fun c10 => ?_)
          · exact hk H2 _ (D1.mono (fun i k z => Or.inr z) |>.tr (T2.1.mono (fun i k z => Or.inl z))) (by rw [rn_b nee cz]; exact ⟨fun z => absurd z cz, fun _ => T2.2.2 cz⟩)
          · refine Go_aload_n (pc' := 14) dX9_translate_13 rfl rfl rfl ?_
            refine Go_getIv (v := (iZ (zst (tC T n pos) (tV T n pos) s).1)) (pc' := 17) dX9_translate_14 rfl kf_RX9_38 (by decide) (by decide) rfl (S2.b 71 rfl rfl) (S2.o 71 rfl rfl rfl) ((T2.2.2 cz).1) ?_
            refine Go_if_neY (tgt := 53) (pc' := 20) dX9_translate_17 (by decide) rfl (by first | exact ⟨i_lo _, i_hi _⟩ | omega) (fun c17 => ?_) (fun c17 => by exfalso; omega)
            exact hk H2 _ (D1.mono (fun i k z => Or.inr z) |>.tr (T2.1.mono (fun i k z => Or.inl z))) (by rw [rn_b nee cz]; exact ⟨fun z => absurd z cz, fun _ => T2.2.2 cz⟩)
      · refine Go_goto (tgt := 53) dX9_translate_40 (by decide) ?_
        exact hk H1 _ (D1.mono (fun i k z => Or.inr z)) (by rw [rn_e (by omega)]; exact ⟨fun _ => ⟨R1, (D1.2.2.2 _ _ (by unfold Pt; omega)).trans e13, (D1.2.2.2 _ _ (by unfold Pt; omega)).trans e14⟩, fun z => absurd rfl z⟩)
