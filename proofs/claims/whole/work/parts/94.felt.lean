/-! pairs: felt, entry -/
set_option maxRecDepth 20000 in
set_option maxHeartbeats 1000000 in
theorem s_isPlace {G : GC} {d mc ms : Nat} {h : HS} {K : Option Value → HS → Prop} {x : Int} (hx : -2147483648 ≤ x ∧ x < 2147483648) (hk : K (some (.int (b2i (0 ≤ x ∧ x ≤ 1599)))) h) : Go G (d + 1) mc ms M_X12_isPlace 0 [.int (iZ x)] [] h K := by
  refine Go_iload_n (pc' := 1) dX12_isPlace_0 rfl rfl rfl ?_
  refine Go_iconst (v := iZ 0) (pc' := 2) dX12_isPlace_1 rfl (by decide) ?_
  refine Go_sipush (v := iZ 1599) (pc' := 5) dX12_isPlace_2 rfl (by decide) ?_
  refine Go_callS_i (pc' := 8) (As := [.int _, .int _, .int _]) (st := []) dX12_isPlace_5 rfl ok_X12_isIn km_RX12_147 rfl (Nat.le_of_ble_eq_true rfl) rfl rfl rfl (Nat.le_of_ble_eq_true rfl) (Nat.lt_succ_self _) ?_
  refine s_isInY (by first | exact ⟨i_lo _, i_hi _⟩ | omega) (by first | exact ⟨i_lo _, i_hi _⟩ | omega) (by first | exact ⟨i_lo _, i_hi _⟩ | omega) ?_
  refine ⟨_, rfl, ?_⟩
  refine Go_ireturn (ty := .boolean) dX12_isPlace_8 rfl b2i_nb ?_
  exact hk
theorem of_rgZ {x : Int32} {b : Nat} (h : rg x 0 b) : ∃ n : Nat, n ≤ b ∧ x = iZ (n : Int) := by
  obtain ⟨n, a, e⟩ := of_rg h
  exact ⟨n, a, e.trans (iZ_nat n).symm⟩
theorem rgz {X a b : Int} (h1 : a ≤ X ∧ X ≤ b) (h2 : -2147483648 ≤ a ∧ b < 2147483648) : rg (iZ X) a b := by
  unfold rg; rw [iZ_t (by omega)]; exact h1
theorem RF.app {h h2 : HS} (R : RF h) {n : Nat} {A B C : Int} (en : vi h 95 3 = iZ (n : Int)) (hn : n < 100) (hA : 0 ≤ A ∧ A ≤ 1599) (hB : 0 ≤ B ∧ B < (vi h 83 5).toInt) (hC : 0 ≤ C ∧ C ≤ 999) (e1 : vi h2 95 3 = iZ ((n : Int) + 1)) (e2 : vi h2 99 59 = iZ ((n : Int) + 1)) (e3 : vi h2 83 5 = vi h 83 5)
    (a1 : ∀ i, vi h2 96 i = if i = n then iZ A else vi h 96 i) (a2 : ∀ i, vi h2 97 i = if i = n then iZ B else vi h 97 i) (a3 : ∀ i, vi h2 98 i = if i = n then iZ C else vi h 98 i) (b1 : ∀ i, vi h2 138 i = if i = n then iZ A else vi h 138 i) (b2 : ∀ i, vi h2 139 i = if i = n then iZ B else vi h 139 i) (b3 : ∀ i, vi h2 140 i = if i = n then iZ C else vi h 140 i) : RF h2 := by
  obtain ⟨r1, r2, r3⟩ := R
  have z := i_hi (vi h 83 5)
  refine ⟨e1.trans e2.symm, ?_, fun i hi => ?_⟩
  · rw [e1]; exact rgz (by omega) (by omega)
  · rw [e1, iZ_t (by omega)] at hi
    rw [a1, a2, a3, b1, b2, b3, e3]
    by_cases q : i = n
    · rw [if_pos q, if_pos q, if_pos q, if_pos q, if_pos q, if_pos q]
      exact ⟨rfl, rgz hA (by omega), rfl, by rw [iZ_t (by omega)]; exact hB, rfl, rgz hC (by omega)⟩
    · rw [if_neg q, if_neg q, if_neg q, if_neg q, if_neg q, if_neg q]
      exact r3 i (by rw [en, iZ_t (by omega)]; omega)
theorem RF.grow {h h2 : HS} (R : RF h) {n : Nat} (en : vi h 83 5 = iZ (n : Int)) (hn : n < 100) (e1 : vi h2 83 5 = iZ ((n : Int) + 1)) (s : SameOn (fun i k => (i == 95 && k == 3) || (i == 99 && k == 59) || i == 96 || i == 97 || i == 98 || i == 138 || i == 139 || i == 140) h h2) : RF h2 := by
  obtain ⟨r1, r2, r3⟩ := R
  unfold RF
  rw [(s 95 3 rfl).1, (s 99 59 rfl).1, e1]
  refine ⟨r1, r2, fun i hi => ?_⟩
  rw [(s 96 i rfl).1, (s 97 i rfl).1, (s 98 i rfl).1, (s 138 i rfl).1, (s 139 i rfl).1, (s 140 i rfl).1]
  obtain ⟨q1, q2, q3, q4, q5, q6⟩ := r3 i hi
  refine ⟨q1, q2, q3, ?_, q5, q6⟩
  rw [en, iZ_t (by omega)] at q4
  rw [iZ_t (by omega)]; omega
/-- an entry is put behind the n of one catalogue (objects c, c+1 .. c+4; the model's from b on) -/
def CatR (h : HS) (c b k : Nat) : Prop := (vi h c 5 = vi h 134 k ∧ rg (vi h c 5) 0 100) ∧ ∀ i : Nat, (i : Int) < (vi h c 5).toInt → vi h (c + 1) i = vi h 135 (b + i) ∧ rg (vi h (c + 1) i) 0 239999 ∧ rg (vi h (c + 2) i) 0 39 ∧ rg (vi h (c + 3) i) 0 39 ∧ (vi h 136 (b + i)).toInt = 40 * (vi h (c + 3) i).toInt + (vi h (c + 2) i).toInt ∧ vi h (c + 4) i = vi h 137 (b + i) ∧ rg (vi h (c + 4) i) 0 999
theorem RE_of {h : HS} (a : CatR h 83 0 0) (b : CatR h 89 100 1) : RE h := ⟨a.1, b.1, fun i hi => by have := a.2 i hi; rwa [Nat.zero_add] at this, b.2⟩
theorem RE.c0 {h : HS} (R : RE h) : CatR h 83 0 0 := ⟨R.1, fun i hi => by have := R.2.2.1 i hi; rwa [Nat.zero_add]⟩
theorem RE.c1 {h : HS} (R : RE h) : CatR h 89 100 1 := ⟨R.2.1, R.2.2.2⟩
theorem CatR.app {h h2 : HS} {c b k n : Nat} (R : CatR h c b k) {H D Z : Int} (en : vi h c 5 = iZ (n : Int)) (hn : n < 100) (hH : 0 ≤ H ∧ H ≤ 239999) (hD : 0 ≤ D ∧ D ≤ 1599) (hZ : 0 ≤ Z ∧ Z ≤ 999) (e1 : vi h2 c 5 = iZ ((n : Int) + 1)) (e2 : vi h2 134 k = iZ ((n : Int) + 1))
    (a1 : ∀ i, vi h2 (c + 1) i = if i = n then iZ H else vi h (c + 1) i) (a2 : ∀ i, vi h2 (c + 2) i = if i = n then iZ (D % 40) else vi h (c + 2) i) (a3 : ∀ i, vi h2 (c + 3) i = if i = n then iZ (D / 40) else vi h (c + 3) i) (a4 : ∀ i, vi h2 (c + 4) i = if i = n then iZ Z else vi h (c + 4) i) (b1 : ∀ i, i < 100 → vi h2 135 (b + i) = if i = n then iZ H else vi h 135 (b + i)) (b2 : ∀ i, i < 100 → vi h2 136 (b + i) = if i = n then iZ D else vi h 136 (b + i)) (b3 : ∀ i, i < 100 → vi h2 137 (b + i) = if i = n then iZ Z else vi h 137 (b + i)) : CatR h2 c b k := by
  obtain ⟨r1, r3⟩ := R
  refine ⟨⟨e1.trans e2.symm, ?_⟩, fun i hi => ?_⟩
  · rw [e1]; exact rgz (by omega) (by omega)
  · rw [e1, iZ_t (by omega)] at hi
    rw [a1, a2, a3, a4, b1 i (by omega), b2 i (by omega), b3 i (by omega)]
    by_cases q : i = n
    · rw [if_pos q, if_pos q, if_pos q, if_pos q, if_pos q, if_pos q, if_pos q]
      refine ⟨rfl, rgz hH (by omega), rgz (by omega) (by omega), rgz (by omega) (by omega), ?_, rfl, rgz hZ (by omega)⟩
      rw [iZ_t (by omega), iZ_t (by omega), iZ_t (by omega)]; omega
    · rw [if_neg q, if_neg q, if_neg q, if_neg q, if_neg q, if_neg q, if_neg q]
      exact r3 i (by rw [en, iZ_t (by omega)]; omega)
theorem CatR.fr {h h2 : HS} {c b k : Nat} (R : CatR h c b k) (e5 : vi h2 c 5 = vi h c 5) (e134 : vi h2 134 k = vi h 134 k) (a : ∀ j i, 1 ≤ j → j ≤ 4 → vi h2 (c + j) i = vi h (c + j) i) (m : ∀ j i, 135 ≤ j → j ≤ 137 → i < 100 → vi h2 j (b + i) = vi h j (b + i)) : CatR h2 c b k := by
  obtain ⟨⟨r1, r2⟩, r3⟩ := R
  unfold CatR
  have r2' := r2.2
  rw [e5, e134]
  refine ⟨⟨r1, r2⟩, fun i hi => ?_⟩
  rw [a 1 i (by omega) (by omega), a 2 i (by omega) (by omega), a 3 i (by omega) (by omega), a 4 i (by omega) (by omega), m 135 i (by omega) (by omega) (by omega), m 136 i (by omega) (by omega) (by omega), m 137 i (by omega) (by omega) (by omega)]
  exact r3 i hi
set_option maxRecDepth 20000 in
set_option maxHeartbeats 1000000 in
theorem pair38 {G : GC} (a b c : Int32) : PairI G M_X11_felt M_X12_felt [.int a, .int b, .int c] := by
  intro h I
  obtain ⟨Az, hva, rfl⟩ := i_eta a
  obtain ⟨Bz, hvb, rfl⟩ := i_eta b
  obtain ⟨Cz, hvc, rfl⟩ := i_eta c
  obtain ⟨n, hn, en⟩ := of_rgZ (b := 100) I.F.2.1
  have en2 : vi h 99 59 = iZ (n : Int) := I.F.1.symm.trans en
  obtain ⟨e, he, ee⟩ := of_rgZ (b := 100) I.E.1.2
  have ee2 : vi h 134 0 = iZ (e : Int) := I.E.1.1.symm.trans ee
  have ez : (vi h 83 5).toInt = (e : Int) := by rw [ee, iZ_t (by omega)]
  refine ⟨fun r h1 => (((0 ≤ Az ∧ Az ≤ 1599) ∧ (0 ≤ Bz ∧ Bz ≤ (e : Int) - 1) ∧ (0 ≤ Cz ∧ Cz ≤ 999) ∧ (n : Int) < 100) ∧ r = iZ ((n : Int) + 1) ∧ h1 = (wI (wI (wI (wI h 96 n (iZ Az)) 97 n (iZ Bz)) 98 n (iZ Cz)) 95 3 (iZ ((n : Int) + 1)))) ∨ (¬ ((0 ≤ Az ∧ Az ≤ 1599) ∧ (0 ≤ Bz ∧ Bz ≤ (e : Int) - 1) ∧ (0 ≤ Cz ∧ Cz ≤ 999) ∧ (n : Int) < 100) ∧ r = iZ (-1) ∧ h = h1), fun K k => ?_, ?_⟩
  · refine Go.more (d := 60) (mc := 0) (ms := 0) ?_ (by omega) (by omega) (by omega)
    show Go G 60 0 0 M_X11_felt 0 [.ref 64, .int (iZ Az), .int (iZ Bz), .int (iZ Cz)] [] h K
    refine Go_iload_n (pc' := 1) dX11_felt_0 rfl rfl rfl ?_
    refine Go_iconst (v := iZ 0) (pc' := 2) dX11_felt_1 rfl (by decide) ?_
    refine Go_sipush (v := iZ 1599) (pc' := 5) dX11_felt_2 rfl (by decide) ?_
    refine Go_callS_i (pc' := 8) (As := [.int _, .int _, .int _]) (st := []) dX11_felt_5 rfl ok_X11_within km_RX11_94 rfl (Nat.le_of_ble_eq_true rfl) rfl rfl rfl (Nat.le_of_ble_eq_true rfl) (Nat.lt_succ_self _) ?_
    refine s_withinY (by first | exact ⟨i_lo _, i_hi _⟩ | omega) (by first | exact ⟨i_lo _, i_hi _⟩ | omega) (by first | exact ⟨i_lo _, i_hi _⟩ | omega) ?_
    refine ⟨_, rfl, ?_⟩
    refine Go_if_eqb (tgt := 39) (pc' := 11) dX11_felt_8 (by decide) rfl (fun c8 => ?_) (fun c8 => ?_)
    · refine Go_iconst (v := iZ (-1)) (pc' := 40) dX11_felt_39 rfl (by decide) ?_
      refine Go_ireturn (ty := .int) dX11_felt_40 rfl rfl ?_
      exact k _ _ (Or.inr ⟨by omega, rfl, rfl⟩) I.S
    · refine Go_iload_n (pc' := 12) dX11_felt_11 rfl rfl rfl ?_
      refine Go_iconst (v := iZ 0) (pc' := 13) dX11_felt_12 rfl (by decide) ?_
      refine Go_aload_n (pc' := 14) dX11_felt_13 rfl rfl rfl ?_
      refine Go_getRs (pc' := 17) dX11_felt_14 rfl kf_RX11_66 (by decide) (by decide) rfl (I.S.b 64 rfl rfl) (I.S.o 64 rfl rfl rfl) (I.S.r 64 11 rfl rfl rfl) ?_
      refine Go_getIv (v := (iZ (e : Int))) (pc' := 20) dX11_felt_17 rfl kf_RX11_330 (by decide) (by decide) rfl (I.S.b 83 rfl rfl) (I.S.o 83 rfl rfl rfl) (ee) ?_
      refine Go_iconst (v := iZ 1) (pc' := 21) dX11_felt_20 rfl (by decide) ?_
      refine Go_isubZ (pc' := 22) dX11_felt_21 rfl ?_
      refine Go_callS_i (pc' := 25) (As := [.int _, .int _, .int _]) (st := []) dX11_felt_22 rfl ok_X11_within km_RX11_94 rfl (Nat.le_of_ble_eq_true rfl) rfl rfl rfl (Nat.le_of_ble_eq_true rfl) (Nat.lt_succ_self _) ?_
      refine s_withinY (by first | exact ⟨i_lo _, i_hi _⟩ | omega) (by first | exact ⟨i_lo _, i_hi _⟩ | omega) (by first | exact ⟨i_lo _, i_hi _⟩ | omega) ?_
      refine ⟨_, rfl, ?_⟩
      refine Go_if_eqb (tgt := 39) (pc' := 28) dX11_felt_25 (by decide) rfl (fun c25 => ?_) (fun c25 => ?_)
      · refine Go_iconst (v := iZ (-1)) (pc' := 40) dX11_felt_39 rfl (by decide) ?_
        refine Go_ireturn (ty := .int) dX11_felt_40 rfl rfl ?_
        exact k _ _ (Or.inr ⟨by omega, rfl, rfl⟩) I.S
      · refine Go_iload_n (pc' := 29) dX11_felt_28 rfl rfl rfl ?_
        refine Go_iconst (v := iZ 0) (pc' := 30) dX11_felt_29 rfl (by decide) ?_
        refine Go_sipush (v := iZ 999) (pc' := 33) dX11_felt_30 rfl (by decide) ?_
        refine Go_callS_i (pc' := 36) (As := [.int _, .int _, .int _]) (st := []) dX11_felt_33 rfl ok_X11_within km_RX11_94 rfl (Nat.le_of_ble_eq_true rfl) rfl rfl rfl (Nat.le_of_ble_eq_true rfl) (Nat.lt_succ_self _) ?_
        refine s_withinY (by first | exact ⟨i_lo _, i_hi _⟩ | omega) (by first | exact ⟨i_lo _, i_hi _⟩ | omega) (by first | exact ⟨i_lo _, i_hi _⟩ | omega) ?_
        refine ⟨_, rfl, ?_⟩
        refine Go_if_neb (tgt := 41) (pc' := 39) dX11_felt_36 (by decide) rfl (fun c36 => ?_) (fun c36 => ?_)
        · refine Go_aload_n (pc' := 42) dX11_felt_41 rfl rfl rfl ?_
          refine Go_getRs (pc' := 45) dX11_felt_42 rfl kf_RX11_76 (by decide) (by decide) rfl (I.S.b 64 rfl rfl) (I.S.o 64 rfl rfl rfl) (I.S.r 64 13 rfl rfl rfl) ?_
          refine Go_iload_n (pc' := 46) dX11_felt_45 rfl rfl rfl ?_
          refine Go_iload_n (pc' := 47) dX11_felt_46 rfl rfl rfl ?_
          refine Go_iload_n (pc' := 48) dX11_felt_47 rfl rfl rfl ?_
          refine Go_callV_i (pc' := 51) (As := [.int _, .int _, .int _]) (st := []) dX11_felt_48 rfl ok_X4_append km_RX11_340 (I.S.o 95 rfl rfl rfl) (I.S.b 95 rfl rfl) ⟨_, _, rfl⟩ rfl (Nat.le_of_ble_eq_true rfl) rfl rfl rfl (Nat.le_of_ble_eq_true rfl) (Nat.lt_succ_self _) ?_
          refine Go_aload_n (pc' := 1) dX4_append_0 rfl rfl rfl ?_
          refine Go_getIv (v := (iZ (n : Int))) (pc' := 4) dX4_append_1 rfl kf_RX4_21 (by decide) (by decide) rfl (I.S.b 95 rfl rfl) (I.S.o 95 rfl rfl rfl) (en) ?_
          refine Go_bipush (v := iZ 100) (pc' := 6) dX4_append_4 rfl (by decide) ?_
          refine Go_icmp_ltY (tgt := 11) (pc' := 9) dX4_append_6 (by decide) rfl (by first | exact ⟨i_lo _, i_hi _⟩ | omega) (by first | exact ⟨i_lo _, i_hi _⟩ | omega) (fun d6 => ?_) (fun d6 => ?_)
          · refine Go_aload_n (pc' := 12) dX4_append_11 rfl rfl rfl ?_
            refine Go_getRs (pc' := 15) dX4_append_12 rfl kf_RX4_9 (by decide) (by decide) rfl (I.S.b 95 rfl rfl) (I.S.o 95 rfl rfl rfl) (I.S.r 95 0 rfl rfl rfl) ?_
            refine Go_aload_n (pc' := 16) dX4_append_15 rfl rfl rfl ?_
            refine Go_getIv (v := (iZ (n : Int))) (pc' := 19) dX4_append_16 rfl kf_RX4_21 (by decide) (by decide) rfl (I.S.b 95 rfl rfl) (I.S.o 95 rfl rfl rfl) (en) ?_
            refine Go_iload_n (pc' := 20) dX4_append_19 rfl rfl rfl ?_
            refine Go_iastoreZ (n := 100) (k := n) (pc' := 21) dX4_append_20 rfl (I.S.b 96 rfl rfl) (I.S.k 96 rfl rfl rfl) rfl (by omega) (by decide) ?_
            refine Go_aload_n (pc' := 22) dX4_append_21 rfl rfl rfl ?_
            refine Go_getRs (pc' := 25) dX4_append_22 rfl kf_RX4_15 (by decide) (by decide) rfl (I.S.b 95 rfl rfl) (I.S.o 95 rfl rfl rfl) (I.S.r 95 1 rfl rfl rfl) ?_
            refine Go_aload_n (pc' := 26) dX4_append_25 rfl rfl rfl ?_
            refine Go_getIv (v := (iZ (n : Int))) (pc' := 29) dX4_append_26 rfl kf_RX4_21 (by decide) (by decide) rfl (I.S.b 95 rfl rfl) (I.S.o 95 rfl rfl rfl) ((vi_skip (Or.inl (by decide))).trans (en)) ?_
            refine Go_iload_n (pc' := 30) dX4_append_29 rfl rfl rfl ?_
            refine Go_iastoreZ (n := 100) (k := n) (pc' := 31) dX4_append_30 rfl (I.S.b 97 rfl rfl) (I.S.k 97 rfl rfl rfl) rfl (by omega) (by decide) ?_
            refine Go_aload_n (pc' := 32) dX4_append_31 rfl rfl rfl ?_
            refine Go_getRs (pc' := 35) dX4_append_32 rfl kf_RX4_18 (by decide) (by decide) rfl (I.S.b 95 rfl rfl) (I.S.o 95 rfl rfl rfl) (I.S.r 95 2 rfl rfl rfl) ?_
            refine Go_aload_n (pc' := 36) dX4_append_35 rfl rfl rfl ?_
            refine Go_getIv (v := (iZ (n : Int))) (pc' := 39) dX4_append_36 rfl kf_RX4_21 (by decide) (by decide) rfl (I.S.b 95 rfl rfl) (I.S.o 95 rfl rfl rfl) ((vi_skip (Or.inl (by decide))).trans ((vi_skip (Or.inl (by decide))).trans (en))) ?_
            refine Go_iload_n (pc' := 40) dX4_append_39 rfl rfl rfl ?_
            refine Go_iastoreZ (n := 100) (k := n) (pc' := 41) dX4_append_40 rfl (I.S.b 98 rfl rfl) (I.S.k 98 rfl rfl rfl) rfl (by omega) (by decide) ?_
            refine Go_aload_n (pc' := 42) dX4_append_41 rfl rfl rfl ?_
            refine Go_dup (pc' := 43) dX4_append_42 rfl rfl ?_
            refine Go_getIv (v := (iZ (n : Int))) (pc' := 46) dX4_append_43 rfl kf_RX4_21 (by decide) (by decide) rfl (I.S.b 95 rfl rfl) (I.S.o 95 rfl rfl rfl) ((vi_skip (Or.inl (by decide))).trans ((vi_skip (Or.inl (by decide))).trans ((vi_skip (Or.inl (by decide))).trans (en)))) ?_
            refine Go_iconst (v := iZ 1) (pc' := 47) dX4_append_46 rfl (by decide) ?_
            refine Go_iaddZ (pc' := 48) dX4_append_47 rfl ?_
            refine Go_putI (pc' := 51) dX4_append_48 rfl kf_RX4_21 (by decide) (by decide) rfl (I.S.b 95 rfl rfl) (I.S.o 95 rfl rfl rfl) (Or.inl rfl) rfl rfl ?_
            refine Go_iconst (v := iZ 1) (pc' := 52) dX4_append_51 rfl (by decide) ?_
            refine Go_ireturn (ty := .boolean) dX4_append_52 rfl rfl ?_
            refine ⟨_, rfl, ?_⟩
            refine Go_if_eqY (tgt := 64) (pc' := 54) dX11_felt_51 (by decide) rfl (by first | exact ⟨i_lo _, i_hi _⟩ | omega) (fun c51 => by exfalso; omega) (fun c51 => ?_)
            refine Go_aload_n (pc' := 55) dX11_felt_54 rfl rfl rfl ?_
            refine Go_getRs (pc' := 58) dX11_felt_55 rfl kf_RX11_76 (by decide) (by decide) rfl (I.S.b 64 rfl rfl) (I.S.o 64 rfl rfl rfl) (I.S.r 64 13 rfl rfl rfl) ?_
            refine Go_getIv (v := (iZ ((n : Int) + 1))) (pc' := 61) dX11_felt_58 rfl kf_RX11_342 (by decide) (by decide) rfl (I.S.b 95 rfl rfl) (I.S.o 95 rfl rfl rfl) (vi_same) ?_
            refine Go_goto (tgt := 65) dX11_felt_61 (by decide) ?_
            refine Go_ireturn (ty := .int) dX11_felt_65 rfl rfl ?_
            exact k _ _ (Or.inl ⟨by omega, rfl, rfl⟩) I.S
          · refine Go_iconst (v := iZ 0) (pc' := 10) dX4_append_9 rfl (by decide) ?_
            refine Go_ireturn (ty := .boolean) dX4_append_10 rfl rfl ?_
            refine ⟨_, rfl, ?_⟩
            refine Go_if_eqY (tgt := 64) (pc' := 54) dX11_felt_51 (by decide) rfl (by first | exact ⟨i_lo _, i_hi _⟩ | omega) (fun c51 => ?_) (fun c51 => by exfalso; omega)
            refine Go_iconst (v := iZ (-1)) (pc' := 65) dX11_felt_64 rfl (by decide) ?_
            refine Go_ireturn (ty := .int) dX11_felt_65 rfl rfl ?_
            exact k _ _ (Or.inr ⟨by omega, rfl, rfl⟩) I.S
        · refine Go_iconst (v := iZ (-1)) (pc' := 40) dX11_felt_39 rfl (by decide) ?_
          refine Go_ireturn (ty := .int) dX11_felt_40 rfl rfl ?_
          exact k _ _ (Or.inr ⟨by omega, rfl, rfl⟩) I.S
  · rintro r h1 (⟨hc, rfl, rfl⟩ | ⟨hc, rfl, rfl⟩) K k
    · show Go G 60 0 0 M_X12_felt 0 [.ref 99, .int (iZ Az), .int (iZ Bz), .int (iZ Cz)] [] (wI (wI (wI (wI h 96 n (iZ Az)) 97 n (iZ Bz)) 98 n (iZ Cz)) 95 3 (iZ ((n : Int) + 1))) K
      refine Go_iload_n (pc' := 1) dX12_felt_0 rfl rfl rfl ?_
      refine Go_callS_i (pc' := 4) (As := [.int _]) (st := []) dX12_felt_1 rfl ok_X12_isPlace km_RX12_394 rfl (Nat.le_of_ble_eq_true rfl) rfl rfl rfl (Nat.le_of_ble_eq_true rfl) (Nat.lt_succ_self _) ?_
      refine s_isPlace (by first | exact ⟨i_lo _, i_hi _⟩ | omega) ?_
      refine ⟨_, rfl, ?_⟩
      refine Go_if_eqb (tgt := 43) (pc' := 7) dX12_felt_4 (by decide) rfl (fun c4 => ?_) (fun c4 => ?_)
      · refine Go_iconst (v := iZ (-1)) (pc' := 44) dX12_felt_43 rfl (by decide) ?_
        refine Go_ireturn (ty := .int) dX12_felt_44 rfl rfl ?_
        exfalso; omega
      · refine Go_iload_n (pc' := 8) dX12_felt_7 rfl rfl rfl ?_
        refine Go_iconst (v := iZ 0) (pc' := 9) dX12_felt_8 rfl (by decide) ?_
        refine Go_aload_n (pc' := 10) dX12_felt_9 rfl rfl rfl ?_
        refine Go_getRs (pc' := 13) dX12_felt_10 rfl kf_RX12_123 (by decide) (by decide) rfl (I.S.b 99 rfl rfl) (I.S.o 99 rfl rfl rfl) (I.S.r 99 52 rfl rfl rfl) ?_
        refine Go_iconst (v := iZ 0) (pc' := 14) dX12_felt_13 rfl (by decide) ?_
        refine Go_ialoadZ (n := 2) (k := 0) (v := (iZ (e : Int))) (pc' := 15) dX12_felt_14 rfl (I.S.b 134 rfl rfl) (I.S.k 134 rfl rfl rfl) rfl (by decide) (by decide) ((vi_skip (Or.inl (by decide))).trans ((vi_skip (Or.inl (by decide))).trans ((vi_skip (Or.inl (by decide))).trans ((vi_skip (Or.inl (by decide))).trans (ee2))))) ?_
        refine Go_iconst (v := iZ 1) (pc' := 16) dX12_felt_15 rfl (by decide) ?_
        refine Go_isubZ (pc' := 17) dX12_felt_16 rfl ?_
        refine Go_callS_i (pc' := 20) (As := [.int _, .int _, .int _]) (st := []) dX12_felt_17 rfl ok_X12_isIn km_RX12_147 rfl (Nat.le_of_ble_eq_true rfl) rfl rfl rfl (Nat.le_of_ble_eq_true rfl) (Nat.lt_succ_self _) ?_
        refine s_isInY (by first | exact ⟨i_lo _, i_hi _⟩ | omega) (by first | exact ⟨i_lo _, i_hi _⟩ | omega) (by first | exact ⟨i_lo _, i_hi _⟩ | omega) ?_
        refine ⟨_, rfl, ?_⟩
        refine Go_if_eqb (tgt := 43) (pc' := 23) dX12_felt_20 (by decide) rfl (fun c20 => ?_) (fun c20 => ?_)
        · refine Go_iconst (v := iZ (-1)) (pc' := 44) dX12_felt_43 rfl (by decide) ?_
          refine Go_ireturn (ty := .int) dX12_felt_44 rfl rfl ?_
          exfalso; omega
        · refine Go_iload_n (pc' := 24) dX12_felt_23 rfl rfl rfl ?_
          refine Go_iconst (v := iZ 0) (pc' := 25) dX12_felt_24 rfl (by decide) ?_
          refine Go_sipush (v := iZ 999) (pc' := 28) dX12_felt_25 rfl (by decide) ?_
          refine Go_callS_i (pc' := 31) (As := [.int _, .int _, .int _]) (st := []) dX12_felt_28 rfl ok_X12_isIn km_RX12_147 rfl (Nat.le_of_ble_eq_true rfl) rfl rfl rfl (Nat.le_of_ble_eq_true rfl) (Nat.lt_succ_self _) ?_
          refine s_isInY (by first | exact ⟨i_lo _, i_hi _⟩ | omega) (by first | exact ⟨i_lo _, i_hi _⟩ | omega) (by first | exact ⟨i_lo _, i_hi _⟩ | omega) ?_
          refine ⟨_, rfl, ?_⟩
          refine Go_if_eqb (tgt := 43) (pc' := 34) dX12_felt_31 (by decide) rfl (fun c31 => ?_) (fun c31 => ?_)
          · refine Go_iconst (v := iZ (-1)) (pc' := 44) dX12_felt_43 rfl (by decide) ?_
            refine Go_ireturn (ty := .int) dX12_felt_44 rfl rfl ?_
            exfalso; omega
          · refine Go_aload_n (pc' := 35) dX12_felt_34 rfl rfl rfl ?_
            refine Go_getIv (v := (iZ (n : Int))) (pc' := 38) dX12_felt_35 rfl kf_RX12_400 (by decide) (by decide) rfl (I.S.b 99 rfl rfl) (I.S.o 99 rfl rfl rfl) ((vi_skip (Or.inl (by decide))).trans ((vi_skip (Or.inl (by decide))).trans ((vi_skip (Or.inl (by decide))).trans ((vi_skip (Or.inl (by decide))).trans (en2))))) ?_
            refine Go_bipush (v := iZ 100) (pc' := 40) dX12_felt_38 rfl (by decide) ?_
            refine Go_icmp_neY (tgt := 45) (pc' := 43) dX12_felt_40 (by decide) rfl (by first | exact ⟨i_lo _, i_hi _⟩ | omega) (by first | exact ⟨i_lo _, i_hi _⟩ | omega) (fun c40 => ?_) (fun c40 => ?_)
            · refine Go_aload_n (pc' := 46) dX12_felt_45 rfl rfl rfl ?_
              refine Go_getRs (pc' := 49) dX12_felt_46 rfl kf_RX12_135 (by decide) (by decide) rfl (I.S.b 99 rfl rfl) (I.S.o 99 rfl rfl rfl) (I.S.r 99 56 rfl rfl rfl) ?_
              refine Go_aload_n (pc' := 50) dX12_felt_49 rfl rfl rfl ?_
              refine Go_getIv (v := (iZ (n : Int))) (pc' := 53) dX12_felt_50 rfl kf_RX12_400 (by decide) (by decide) rfl (I.S.b 99 rfl rfl) (I.S.o 99 rfl rfl rfl) ((vi_skip (Or.inl (by decide))).trans ((vi_skip (Or.inl (by decide))).trans ((vi_skip (Or.inl (by decide))).trans ((vi_skip (Or.inl (by decide))).trans (en2))))) ?_
              refine Go_iload_n (pc' := 54) dX12_felt_53 rfl rfl rfl ?_
              refine Go_iastoreZ (n := 100) (k := n) (pc' := 55) dX12_felt_54 rfl (I.S.b 138 rfl rfl) (I.S.k 138 rfl rfl rfl) rfl (by omega) (by decide) ?_
              refine Go_aload_n (pc' := 56) dX12_felt_55 rfl rfl rfl ?_
              refine Go_getRs (pc' := 59) dX12_felt_56 rfl kf_RX12_138 (by decide) (by decide) rfl (I.S.b 99 rfl rfl) (I.S.o 99 rfl rfl rfl) (I.S.r 99 57 rfl rfl rfl) ?_
              refine Go_aload_n (pc' := 60) dX12_felt_59 rfl rfl rfl ?_
              refine Go_getIv (v := (iZ (n : Int))) (pc' := 63) dX12_felt_60 rfl kf_RX12_400 (by decide) (by decide) rfl (I.S.b 99 rfl rfl) (I.S.o 99 rfl rfl rfl) ((vi_skip (Or.inl (by decide))).trans ((vi_skip (Or.inl (by decide))).trans ((vi_skip (Or.inl (by decide))).trans ((vi_skip (Or.inl (by decide))).trans ((vi_skip (Or.inl (by decide))).trans (en2)))))) ?_
              refine Go_iload_n (pc' := 64) dX12_felt_63 rfl rfl rfl ?_
              refine Go_iastoreZ (n := 100) (k := n) (pc' := 65) dX12_felt_64 rfl (I.S.b 139 rfl rfl) (I.S.k 139 rfl rfl rfl) rfl (by omega) (by decide) ?_
              refine Go_aload_n (pc' := 66) dX12_felt_65 rfl rfl rfl ?_
              refine Go_getRs (pc' := 69) dX12_felt_66 rfl kf_RX12_141 (by decide) (by decide) rfl (I.S.b 99 rfl rfl) (I.S.o 99 rfl rfl rfl) (I.S.r 99 58 rfl rfl rfl) ?_
              refine Go_aload_n (pc' := 70) dX12_felt_69 rfl rfl rfl ?_
              refine Go_getIv (v := (iZ (n : Int))) (pc' := 73) dX12_felt_70 rfl kf_RX12_400 (by decide) (by decide) rfl (I.S.b 99 rfl rfl) (I.S.o 99 rfl rfl rfl) ((vi_skip (Or.inl (by decide))).trans ((vi_skip (Or.inl (by decide))).trans ((vi_skip (Or.inl (by decide))).trans ((vi_skip (Or.inl (by decide))).trans ((vi_skip (Or.inl (by decide))).trans ((vi_skip (Or.inl (by decide))).trans (en2))))))) ?_
              refine Go_iload_n (pc' := 74) dX12_felt_73 rfl rfl rfl ?_
              refine Go_iastoreZ (n := 100) (k := n) (pc' := 75) dX12_felt_74 rfl (I.S.b 140 rfl rfl) (I.S.k 140 rfl rfl rfl) rfl (by omega) (by decide) ?_
              refine Go_aload_n (pc' := 76) dX12_felt_75 rfl rfl rfl ?_
              refine Go_dup (pc' := 77) dX12_felt_76 rfl rfl ?_
              refine Go_getIv (v := (iZ (n : Int))) (pc' := 80) dX12_felt_77 rfl kf_RX12_400 (by decide) (by decide) rfl (I.S.b 99 rfl rfl) (I.S.o 99 rfl rfl rfl) ((vi_skip (Or.inl (by decide))).trans ((vi_skip (Or.inl (by decide))).trans ((vi_skip (Or.inl (by decide))).trans ((vi_skip (Or.inl (by decide))).trans ((vi_skip (Or.inl (by decide))).trans ((vi_skip (Or.inl (by decide))).trans ((vi_skip (Or.inl (by decide))).trans (en2)))))))) ?_
              refine Go_iconst (v := iZ 1) (pc' := 81) dX12_felt_80 rfl (by decide) ?_
              refine Go_iaddZ (pc' := 82) dX12_felt_81 rfl ?_
              refine Go_putI (pc' := 85) dX12_felt_82 rfl kf_RX12_400 (by decide) (by decide) rfl (I.S.b 99 rfl rfl) (I.S.o 99 rfl rfl rfl) (Or.inl rfl) rfl rfl ?_
              refine Go_aload_n (pc' := 86) dX12_felt_85 rfl rfl rfl ?_
              refine Go_getIv (v := (iZ ((n : Int) + 1))) (pc' := 89) dX12_felt_86 rfl kf_RX12_400 (by decide) (by decide) rfl (I.S.b 99 rfl rfl) (I.S.o 99 rfl rfl rfl) (vi_same) ?_
              refine Go_ireturn (ty := .int) dX12_felt_89 rfl rfl ?_
              exact k _ ⟨I.S, I.D.fr (((((((((SameOn.rf _ _).wI rfl).wI rfl).wI rfl).wI rfl).wI rfl).wI rfl).wI rfl).wI rfl), I.W.fr (((((((((SameOn.rf _ _).wI rfl).wI rfl).wI rfl).wI rfl).wI rfl).wI rfl).wI rfl).wI rfl), I.P.fr (((((((((SameOn.rf _ _).wI rfl).wI rfl).wI rfl).wI rfl).wI rfl).wI rfl).wI rfl).wI rfl), I.E.fr (((((((((SameOn.rf _ _).wI rfl).wI rfl).wI rfl).wI rfl).wI rfl).wI rfl).wI rfl).wI rfl), (I.F.app en (by omega) (A := Az) (B := Bz) (C := Cz) (by omega) (by omega) (by omega) ((vi_skip (Or.inl (by decide))).trans ((vi_skip (Or.inl (by decide))).trans ((vi_skip (Or.inl (by decide))).trans ((vi_skip (Or.inl (by decide))).trans (vi_same))))) (vi_same) (by simp [vi_wI]) (by intro i; simp [vi_wI]) (by intro i; simp [vi_wI]) (by intro i; simp [vi_wI]) (by intro i; simp [vi_wI]) (by intro i; simp [vi_wI]) (by intro i; simp [vi_wI])), I.T.fr (((((((((SameOn.rf _ _).wI rfl).wI rfl).wI rfl).wI rfl).wI rfl).wI rfl).wI rfl).wI rfl), I.G.fr (((((((((SameOn.rf _ _).wI rfl).wI rfl).wI rfl).wI rfl).wI rfl).wI rfl).wI rfl).wI rfl), stat_C (stat_C (stat_C (stat_C (stat_C (stat_C (stat_C (stat_C (I.C) (by decide) rfl) (by decide) rfl) (by decide) rfl) (by decide) rfl) (by decide) rfl) (by decide) rfl) (by decide) rfl) (by decide) rfl, stat_Q (stat_Q (stat_Q (stat_Q (stat_Q (stat_Q (stat_Q (stat_Q (I.Q) (by decide) rfl) (by decide) rfl) (by decide) rfl) (by decide) rfl) (by decide) rfl) (by decide) rfl) (by decide) rfl) (by decide) rfl⟩
            · refine Go_iconst (v := iZ (-1)) (pc' := 44) dX12_felt_43 rfl (by decide) ?_
              refine Go_ireturn (ty := .int) dX12_felt_44 rfl rfl ?_
              exfalso; omega
    · show Go G 60 0 0 M_X12_felt 0 [.ref 99, .int (iZ Az), .int (iZ Bz), .int (iZ Cz)] [] h K
      refine Go_iload_n (pc' := 1) dX12_felt_0 rfl rfl rfl ?_
      refine Go_callS_i (pc' := 4) (As := [.int _]) (st := []) dX12_felt_1 rfl ok_X12_isPlace km_RX12_394 rfl (Nat.le_of_ble_eq_true rfl) rfl rfl rfl (Nat.le_of_ble_eq_true rfl) (Nat.lt_succ_self _) ?_
      refine s_isPlace (by first | exact ⟨i_lo _, i_hi _⟩ | omega) ?_
      refine ⟨_, rfl, ?_⟩
      refine Go_if_eqb (tgt := 43) (pc' := 7) dX12_felt_4 (by decide) rfl (fun c4 => ?_) (fun c4 => ?_)
      · refine Go_iconst (v := iZ (-1)) (pc' := 44) dX12_felt_43 rfl (by decide) ?_
        refine Go_ireturn (ty := .int) dX12_felt_44 rfl rfl ?_
        exact k _ I
      · refine Go_iload_n (pc' := 8) dX12_felt_7 rfl rfl rfl ?_
        refine Go_iconst (v := iZ 0) (pc' := 9) dX12_felt_8 rfl (by decide) ?_
        refine Go_aload_n (pc' := 10) dX12_felt_9 rfl rfl rfl ?_
        refine Go_getRs (pc' := 13) dX12_felt_10 rfl kf_RX12_123 (by decide) (by decide) rfl (I.S.b 99 rfl rfl) (I.S.o 99 rfl rfl rfl) (I.S.r 99 52 rfl rfl rfl) ?_
        refine Go_iconst (v := iZ 0) (pc' := 14) dX12_felt_13 rfl (by decide) ?_
        refine Go_ialoadZ (n := 2) (k := 0) (v := (iZ (e : Int))) (pc' := 15) dX12_felt_14 rfl (I.S.b 134 rfl rfl) (I.S.k 134 rfl rfl rfl) rfl (by decide) (by decide) (ee2) ?_
        refine Go_iconst (v := iZ 1) (pc' := 16) dX12_felt_15 rfl (by decide) ?_
        refine Go_isubZ (pc' := 17) dX12_felt_16 rfl ?_
        refine Go_callS_i (pc' := 20) (As := [.int _, .int _, .int _]) (st := []) dX12_felt_17 rfl ok_X12_isIn km_RX12_147 rfl (Nat.le_of_ble_eq_true rfl) rfl rfl rfl (Nat.le_of_ble_eq_true rfl) (Nat.lt_succ_self _) ?_
        refine s_isInY (by first | exact ⟨i_lo _, i_hi _⟩ | omega) (by first | exact ⟨i_lo _, i_hi _⟩ | omega) (by first | exact ⟨i_lo _, i_hi _⟩ | omega) ?_
        refine ⟨_, rfl, ?_⟩
        refine Go_if_eqb (tgt := 43) (pc' := 23) dX12_felt_20 (by decide) rfl (fun c20 => ?_) (fun c20 => ?_)
        · refine Go_iconst (v := iZ (-1)) (pc' := 44) dX12_felt_43 rfl (by decide) ?_
          refine Go_ireturn (ty := .int) dX12_felt_44 rfl rfl ?_
          exact k _ I
        · refine Go_iload_n (pc' := 24) dX12_felt_23 rfl rfl rfl ?_
          refine Go_iconst (v := iZ 0) (pc' := 25) dX12_felt_24 rfl (by decide) ?_
          refine Go_sipush (v := iZ 999) (pc' := 28) dX12_felt_25 rfl (by decide) ?_
          refine Go_callS_i (pc' := 31) (As := [.int _, .int _, .int _]) (st := []) dX12_felt_28 rfl ok_X12_isIn km_RX12_147 rfl (Nat.le_of_ble_eq_true rfl) rfl rfl rfl (Nat.le_of_ble_eq_true rfl) (Nat.lt_succ_self _) ?_
          refine s_isInY (by first | exact ⟨i_lo _, i_hi _⟩ | omega) (by first | exact ⟨i_lo _, i_hi _⟩ | omega) (by first | exact ⟨i_lo _, i_hi _⟩ | omega) ?_
          refine ⟨_, rfl, ?_⟩
          refine Go_if_eqb (tgt := 43) (pc' := 34) dX12_felt_31 (by decide) rfl (fun c31 => ?_) (fun c31 => ?_)
          · refine Go_iconst (v := iZ (-1)) (pc' := 44) dX12_felt_43 rfl (by decide) ?_
            refine Go_ireturn (ty := .int) dX12_felt_44 rfl rfl ?_
            exact k _ I
          · refine Go_aload_n (pc' := 35) dX12_felt_34 rfl rfl rfl ?_
            refine Go_getIv (v := (iZ (n : Int))) (pc' := 38) dX12_felt_35 rfl kf_RX12_400 (by decide) (by decide) rfl (I.S.b 99 rfl rfl) (I.S.o 99 rfl rfl rfl) (en2) ?_
            refine Go_bipush (v := iZ 100) (pc' := 40) dX12_felt_38 rfl (by decide) ?_
            refine Go_icmp_neY (tgt := 45) (pc' := 43) dX12_felt_40 (by decide) rfl (by first | exact ⟨i_lo _, i_hi _⟩ | omega) (by first | exact ⟨i_lo _, i_hi _⟩ | omega) (fun c40 => ?_) (fun c40 => ?_)
            · refine Go_aload_n (pc' := 46) dX12_felt_45 rfl rfl rfl ?_
              refine Go_getRs (pc' := 49) dX12_felt_46 rfl kf_RX12_135 (by decide) (by decide) rfl (I.S.b 99 rfl rfl) (I.S.o 99 rfl rfl rfl) (I.S.r 99 56 rfl rfl rfl) ?_
              refine Go_aload_n (pc' := 50) dX12_felt_49 rfl rfl rfl ?_
              refine Go_getIv (v := (iZ (n : Int))) (pc' := 53) dX12_felt_50 rfl kf_RX12_400 (by decide) (by decide) rfl (I.S.b 99 rfl rfl) (I.S.o 99 rfl rfl rfl) (en2) ?_
              refine Go_iload_n (pc' := 54) dX12_felt_53 rfl rfl rfl ?_
              refine Go_iastoreZ (n := 100) (k := n) (pc' := 55) dX12_felt_54 rfl (I.S.b 138 rfl rfl) (I.S.k 138 rfl rfl rfl) rfl (by omega) (by decide) ?_
              refine Go_aload_n (pc' := 56) dX12_felt_55 rfl rfl rfl ?_
              refine Go_getRs (pc' := 59) dX12_felt_56 rfl kf_RX12_138 (by decide) (by decide) rfl (I.S.b 99 rfl rfl) (I.S.o 99 rfl rfl rfl) (I.S.r 99 57 rfl rfl rfl) ?_
              refine Go_aload_n (pc' := 60) dX12_felt_59 rfl rfl rfl ?_
              refine Go_getIv (v := (iZ (n : Int))) (pc' := 63) dX12_felt_60 rfl kf_RX12_400 (by decide) (by decide) rfl (I.S.b 99 rfl rfl) (I.S.o 99 rfl rfl rfl) ((vi_skip (Or.inl (by decide))).trans (en2)) ?_
              refine Go_iload_n (pc' := 64) dX12_felt_63 rfl rfl rfl ?_
              refine Go_iastoreZ (n := 100) (k := n) (pc' := 65) dX12_felt_64 rfl (I.S.b 139 rfl rfl) (I.S.k 139 rfl rfl rfl) rfl (by omega) (by decide) ?_
              refine Go_aload_n (pc' := 66) dX12_felt_65 rfl rfl rfl ?_
              refine Go_getRs (pc' := 69) dX12_felt_66 rfl kf_RX12_141 (by decide) (by decide) rfl (I.S.b 99 rfl rfl) (I.S.o 99 rfl rfl rfl) (I.S.r 99 58 rfl rfl rfl) ?_
              refine Go_aload_n (pc' := 70) dX12_felt_69 rfl rfl rfl ?_
              refine Go_getIv (v := (iZ (n : Int))) (pc' := 73) dX12_felt_70 rfl kf_RX12_400 (by decide) (by decide) rfl (I.S.b 99 rfl rfl) (I.S.o 99 rfl rfl rfl) ((vi_skip (Or.inl (by decide))).trans ((vi_skip (Or.inl (by decide))).trans (en2))) ?_
              refine Go_iload_n (pc' := 74) dX12_felt_73 rfl rfl rfl ?_
              refine Go_iastoreZ (n := 100) (k := n) (pc' := 75) dX12_felt_74 rfl (I.S.b 140 rfl rfl) (I.S.k 140 rfl rfl rfl) rfl (by omega) (by decide) ?_
              refine Go_aload_n (pc' := 76) dX12_felt_75 rfl rfl rfl ?_
              refine Go_dup (pc' := 77) dX12_felt_76 rfl rfl ?_
              refine Go_getIv (v := (iZ (n : Int))) (pc' := 80) dX12_felt_77 rfl kf_RX12_400 (by decide) (by decide) rfl (I.S.b 99 rfl rfl) (I.S.o 99 rfl rfl rfl) ((vi_skip (Or.inl (by decide))).trans ((vi_skip (Or.inl (by decide))).trans ((vi_skip (Or.inl (by decide))).trans (en2)))) ?_
              refine Go_iconst (v := iZ 1) (pc' := 81) dX12_felt_80 rfl (by decide) ?_
              refine Go_iaddZ (pc' := 82) dX12_felt_81 rfl ?_
              refine Go_putI (pc' := 85) dX12_felt_82 rfl kf_RX12_400 (by decide) (by decide) rfl (I.S.b 99 rfl rfl) (I.S.o 99 rfl rfl rfl) (Or.inl rfl) rfl rfl ?_
              refine Go_aload_n (pc' := 86) dX12_felt_85 rfl rfl rfl ?_
              refine Go_getIv (v := (iZ ((n : Int) + 1))) (pc' := 89) dX12_felt_86 rfl kf_RX12_400 (by decide) (by decide) rfl (I.S.b 99 rfl rfl) (I.S.o 99 rfl rfl rfl) (vi_same) ?_
              refine Go_ireturn (ty := .int) dX12_felt_89 rfl rfl ?_
              exfalso; omega
            · refine Go_iconst (v := iZ (-1)) (pc' := 44) dX12_felt_43 rfl (by decide) ?_
              refine Go_ireturn (ty := .int) dX12_felt_44 rfl rfl ?_
              exact k _ I
set_option maxRecDepth 20000 in
set_option maxHeartbeats 1000000 in
theorem pair35 {G : GC} (a b c e f : Int32) : PairI G M_X11_entry M_X12_entry [.int a, .int b, .int c, .int e, .int f] := by
  intro h I
  obtain ⟨Az, hva, rfl⟩ := i_eta a
  obtain ⟨Bz, hvb, rfl⟩ := i_eta b
  obtain ⟨Cz, hvc, rfl⟩ := i_eta c
  obtain ⟨Ez, hve, rfl⟩ := i_eta e
  obtain ⟨Fz, hvf, rfl⟩ := i_eta f
  obtain ⟨n, hn, en⟩ := of_rgZ (b := 100) I.E.1.2
  have en2 : vi h 134 0 = iZ (n : Int) := I.E.1.1.symm.trans en
  obtain ⟨m, hm, em⟩ := of_rgZ (b := 100) I.E.2.1.2
  have em2 : vi h 134 1 = iZ (m : Int) := I.E.2.1.1.symm.trans em
  by_cases a01 : Az = 0 ∨ Az = 1
  · rcases a01 with rfl | rfl
    · refine ⟨fun r h1 => (((0 ≤ Bz ∧ Bz ≤ 9999) ∧ (0 ≤ Cz ∧ Cz ≤ 23) ∧ (0 ≤ Ez ∧ Ez ≤ 1599) ∧ (0 ≤ Fz ∧ Fz ≤ 999) ∧ (n : Int) < 100) ∧ r = iZ (((n : Int) + 1) - 1) ∧ h1 = (wI (wI (wI (wI (wI h 84 n (iZ ((24 * Bz) + Cz))) 85 n (iZ (Ez % 40))) 86 n (iZ (Ez / 40))) 87 n (iZ Fz)) 83 5 (iZ ((n : Int) + 1)))) ∨ (¬ ((0 ≤ Bz ∧ Bz ≤ 9999) ∧ (0 ≤ Cz ∧ Cz ≤ 23) ∧ (0 ≤ Ez ∧ Ez ≤ 1599) ∧ (0 ≤ Fz ∧ Fz ≤ 999) ∧ (n : Int) < 100) ∧ r = iZ (-1) ∧ h = h1), fun K k => ?_, ?_⟩
      · refine Go.more (d := 60) (mc := 0) (ms := 0) ?_ (by omega) (by omega) (by omega)
        show Go G 60 0 0 M_X11_entry 0 [.ref 64, .int (iZ 0), .int (iZ Bz), .int (iZ Cz), .int (iZ Ez), .int (iZ Fz)] [] h K
        refine Go_iload_n (pc' := 1) dX11_entry_0 rfl rfl rfl ?_
        refine Go_iconst (v := iZ 0) (pc' := 2) dX11_entry_1 rfl (by decide) ?_
        refine Go_iconst (v := iZ 1) (pc' := 3) dX11_entry_2 rfl (by decide) ?_
        refine Go_callS_i (pc' := 6) (As := [.int _, .int _, .int _]) (st := []) dX11_entry_3 rfl ok_X11_within km_RX11_94 rfl (Nat.le_of_ble_eq_true rfl) rfl rfl rfl (Nat.le_of_ble_eq_true rfl) (Nat.lt_succ_self _) ?_
        refine s_withinY (by first | exact ⟨i_lo _, i_hi _⟩ | omega) (by first | exact ⟨i_lo _, i_hi _⟩ | omega) (by first | exact ⟨i_lo _, i_hi _⟩ | omega) ?_
        refine ⟨_, rfl, ?_⟩
        refine Go_if_eqb (tgt := 30) (pc' := 9) dX11_entry_6 (by decide) rfl (fun c6 => by exfalso; omega) (fun c6 => ?_)
        refine Go_iload_n (pc' := 10) dX11_entry_9 rfl rfl rfl ?_
        refine Go_iconst (v := iZ 0) (pc' := 11) dX11_entry_10 rfl (by decide) ?_
        refine Go_sipush (v := iZ 9999) (pc' := 14) dX11_entry_11 rfl (by decide) ?_
        refine Go_callS_i (pc' := 17) (As := [.int _, .int _, .int _]) (st := []) dX11_entry_14 rfl ok_X11_within km_RX11_94 rfl (Nat.le_of_ble_eq_true rfl) rfl rfl rfl (Nat.le_of_ble_eq_true rfl) (Nat.lt_succ_self _) ?_
        refine s_withinY (by first | exact ⟨i_lo _, i_hi _⟩ | omega) (by first | exact ⟨i_lo _, i_hi _⟩ | omega) (by first | exact ⟨i_lo _, i_hi _⟩ | omega) ?_
        refine ⟨_, rfl, ?_⟩
        refine Go_if_eqb (tgt := 30) (pc' := 20) dX11_entry_17 (by decide) rfl (fun c17 => ?_) (fun c17 => ?_)
        · refine Go_iconst (v := iZ (-1)) (pc' := 31) dX11_entry_30 rfl (by decide) ?_
          refine Go_ireturn (ty := .int) dX11_entry_31 rfl rfl ?_
          exact k _ _ (Or.inr ⟨by omega, rfl, rfl⟩) I.S
        · refine Go_iload_n (pc' := 21) dX11_entry_20 rfl rfl rfl ?_
          refine Go_iconst (v := iZ 0) (pc' := 22) dX11_entry_21 rfl (by decide) ?_
          refine Go_bipush (v := iZ 23) (pc' := 24) dX11_entry_22 rfl (by decide) ?_
          refine Go_callS_i (pc' := 27) (As := [.int _, .int _, .int _]) (st := []) dX11_entry_24 rfl ok_X11_within km_RX11_94 rfl (Nat.le_of_ble_eq_true rfl) rfl rfl rfl (Nat.le_of_ble_eq_true rfl) (Nat.lt_succ_self _) ?_
          refine s_withinY (by first | exact ⟨i_lo _, i_hi _⟩ | omega) (by first | exact ⟨i_lo _, i_hi _⟩ | omega) (by first | exact ⟨i_lo _, i_hi _⟩ | omega) ?_
          refine ⟨_, rfl, ?_⟩
          refine Go_if_neb (tgt := 32) (pc' := 30) dX11_entry_27 (by decide) rfl (fun c27 => ?_) (fun c27 => ?_)
          · refine Go_iload (pc' := 34) dX11_entry_32 rfl rfl ?_
            refine Go_iconst (v := iZ 0) (pc' := 35) dX11_entry_34 rfl (by decide) ?_
            refine Go_sipush (v := iZ 1599) (pc' := 38) dX11_entry_35 rfl (by decide) ?_
            refine Go_callS_i (pc' := 41) (As := [.int _, .int _, .int _]) (st := []) dX11_entry_38 rfl ok_X11_within km_RX11_94 rfl (Nat.le_of_ble_eq_true rfl) rfl rfl rfl (Nat.le_of_ble_eq_true rfl) (Nat.lt_succ_self _) ?_
            refine s_withinY (by first | exact ⟨i_lo _, i_hi _⟩ | omega) (by first | exact ⟨i_lo _, i_hi _⟩ | omega) (by first | exact ⟨i_lo _, i_hi _⟩ | omega) ?_
            refine ⟨_, rfl, ?_⟩
            refine Go_if_eqb (tgt := 56) (pc' := 44) dX11_entry_41 (by decide) rfl (fun c41 => ?_) (fun c41 => ?_)
            · refine Go_iconst (v := iZ (-1)) (pc' := 57) dX11_entry_56 rfl (by decide) ?_
              refine Go_ireturn (ty := .int) dX11_entry_57 rfl rfl ?_
              exact k _ _ (Or.inr ⟨by omega, rfl, rfl⟩) I.S
            · refine Go_iload (pc' := 46) dX11_entry_44 rfl rfl ?_
              refine Go_iconst (v := iZ 0) (pc' := 47) dX11_entry_46 rfl (by decide) ?_
              refine Go_sipush (v := iZ 999) (pc' := 50) dX11_entry_47 rfl (by decide) ?_
              refine Go_callS_i (pc' := 53) (As := [.int _, .int _, .int _]) (st := []) dX11_entry_50 rfl ok_X11_within km_RX11_94 rfl (Nat.le_of_ble_eq_true rfl) rfl rfl rfl (Nat.le_of_ble_eq_true rfl) (Nat.lt_succ_self _) ?_
              refine s_withinY (by first | exact ⟨i_lo _, i_hi _⟩ | omega) (by first | exact ⟨i_lo _, i_hi _⟩ | omega) (by first | exact ⟨i_lo _, i_hi _⟩ | omega) ?_
              refine ⟨_, rfl, ?_⟩
              refine Go_if_neb (tgt := 58) (pc' := 56) dX11_entry_53 (by decide) rfl (fun c53 => ?_) (fun c53 => ?_)
              · refine Go_iload_n (pc' := 59) dX11_entry_58 rfl rfl rfl ?_
                refine Go_if_neY (tgt := 69) (pc' := 62) dX11_entry_59 (by decide) rfl (by first | exact ⟨i_lo _, i_hi _⟩ | omega) (fun c59 => by exfalso; omega) (fun c59 => ?_)
                refine Go_aload_n (pc' := 63) dX11_entry_62 rfl rfl rfl ?_
                refine Go_getRs (pc' := 66) dX11_entry_63 rfl kf_RX11_66 (by decide) (by decide) rfl (I.S.b 64 rfl rfl) (I.S.o 64 rfl rfl rfl) (I.S.r 64 11 rfl rfl rfl) ?_
                refine Go_goto (tgt := 73) dX11_entry_66 (by decide) ?_
                refine Go_bipush (v := iZ 24) (pc' := 75) dX11_entry_73 rfl (by decide) ?_
                refine Go_iload_n (pc' := 76) dX11_entry_75 rfl rfl rfl ?_
                refine Go_imulZ (pc' := 77) dX11_entry_76 rfl ?_
                refine Go_iload_n (pc' := 78) dX11_entry_77 rfl rfl rfl ?_
                refine Go_iaddZ (pc' := 79) dX11_entry_78 rfl ?_
                refine Go_iload (pc' := 81) dX11_entry_79 rfl rfl ?_
                refine Go_iload (pc' := 83) dX11_entry_81 rfl rfl ?_
                refine Go_callV_i (pc' := 86) (As := [.int _, .int _, .int _]) (st := []) dX11_entry_83 rfl ok_X1_append km_RX11_325 (I.S.o 83 rfl rfl rfl) (I.S.b 83 rfl rfl) ⟨_, _, rfl⟩ rfl (Nat.le_of_ble_eq_true rfl) rfl rfl rfl (Nat.le_of_ble_eq_true rfl) (Nat.lt_succ_self _) ?_
                refine Go_aload_n (pc' := 1) dX1_append_0 rfl rfl rfl ?_
                refine Go_getIv (v := (iZ (n : Int))) (pc' := 4) dX1_append_1 rfl kf_RX1_28 (by decide) (by decide) rfl (I.S.b 83 rfl rfl) (I.S.o 83 rfl rfl rfl) (en) ?_
                refine Go_bipush (v := iZ 100) (pc' := 6) dX1_append_4 rfl (by decide) ?_
                refine Go_icmp_ltY (tgt := 11) (pc' := 9) dX1_append_6 (by decide) rfl (by first | exact ⟨i_lo _, i_hi _⟩ | omega) (by first | exact ⟨i_lo _, i_hi _⟩ | omega) (fun d6 => ?_) (fun d6 => ?_)
                · refine Go_aload_n (pc' := 12) dX1_append_11 rfl rfl rfl ?_
                  refine Go_getRs (pc' := 15) dX1_append_12 rfl kf_RX1_9 (by decide) (by decide) rfl (I.S.b 83 rfl rfl) (I.S.o 83 rfl rfl rfl) (I.S.r 83 0 rfl rfl rfl) ?_
                  refine Go_aload_n (pc' := 16) dX1_append_15 rfl rfl rfl ?_
                  refine Go_getIv (v := (iZ (n : Int))) (pc' := 19) dX1_append_16 rfl kf_RX1_28 (by decide) (by decide) rfl (I.S.b 83 rfl rfl) (I.S.o 83 rfl rfl rfl) (en) ?_
                  refine Go_iload_n (pc' := 20) dX1_append_19 rfl rfl rfl ?_
                  refine Go_iastoreZ (n := 100) (k := n) (pc' := 21) dX1_append_20 rfl (I.S.b 84 rfl rfl) (I.S.k 84 rfl rfl rfl) rfl (by omega) (by decide) ?_
                  refine Go_aload_n (pc' := 22) dX1_append_21 rfl rfl rfl ?_
                  refine Go_getRs (pc' := 25) dX1_append_22 rfl kf_RX1_15 (by decide) (by decide) rfl (I.S.b 83 rfl rfl) (I.S.o 83 rfl rfl rfl) (I.S.r 83 1 rfl rfl rfl) ?_
                  refine Go_aload_n (pc' := 26) dX1_append_25 rfl rfl rfl ?_
                  refine Go_getIv (v := (iZ (n : Int))) (pc' := 29) dX1_append_26 rfl kf_RX1_28 (by decide) (by decide) rfl (I.S.b 83 rfl rfl) (I.S.o 83 rfl rfl rfl) ((vi_skip (Or.inl (by decide))).trans (en)) ?_
                  refine Go_iload_n (pc' := 30) dX1_append_29 rfl rfl rfl ?_
                  refine Go_bipush (v := iZ 40) (pc' := 32) dX1_append_30 rfl (by decide) ?_
                  refine Go_iremP (pc' := 33) dX1_append_32 rfl (by omega) (by omega) ?_
                  refine Go_iastoreZ (n := 100) (k := n) (pc' := 34) dX1_append_33 rfl (I.S.b 85 rfl rfl) (I.S.k 85 rfl rfl rfl) rfl (by omega) (by decide) ?_
                  refine Go_aload_n (pc' := 35) dX1_append_34 rfl rfl rfl ?_
                  refine Go_getRs (pc' := 38) dX1_append_35 rfl kf_RX1_18 (by decide) (by decide) rfl (I.S.b 83 rfl rfl) (I.S.o 83 rfl rfl rfl) (I.S.r 83 2 rfl rfl rfl) ?_
                  refine Go_aload_n (pc' := 39) dX1_append_38 rfl rfl rfl ?_
                  refine Go_getIv (v := (iZ (n : Int))) (pc' := 42) dX1_append_39 rfl kf_RX1_28 (by decide) (by decide) rfl (I.S.b 83 rfl rfl) (I.S.o 83 rfl rfl rfl) ((vi_skip (Or.inl (by decide))).trans ((vi_skip (Or.inl (by decide))).trans (en))) ?_
                  refine Go_iload_n (pc' := 43) dX1_append_42 rfl rfl rfl ?_
                  refine Go_bipush (v := iZ 40) (pc' := 45) dX1_append_43 rfl (by decide) ?_
                  refine Go_idivP (pc' := 46) dX1_append_45 rfl (by omega) (by omega) ?_
                  refine Go_iastoreZ (n := 100) (k := n) (pc' := 47) dX1_append_46 rfl (I.S.b 86 rfl rfl) (I.S.k 86 rfl rfl rfl) rfl (by omega) (by decide) ?_
                  refine Go_aload_n (pc' := 48) dX1_append_47 rfl rfl rfl ?_
                  refine Go_getRs (pc' := 51) dX1_append_48 rfl kf_RX1_21 (by decide) (by decide) rfl (I.S.b 83 rfl rfl) (I.S.o 83 rfl rfl rfl) (I.S.r 83 3 rfl rfl rfl) ?_
                  refine Go_aload_n (pc' := 52) dX1_append_51 rfl rfl rfl ?_
                  refine Go_getIv (v := (iZ (n : Int))) (pc' := 55) dX1_append_52 rfl kf_RX1_28 (by decide) (by decide) rfl (I.S.b 83 rfl rfl) (I.S.o 83 rfl rfl rfl) ((vi_skip (Or.inl (by decide))).trans ((vi_skip (Or.inl (by decide))).trans ((vi_skip (Or.inl (by decide))).trans (en)))) ?_
                  refine Go_iload_n (pc' := 56) dX1_append_55 rfl rfl rfl ?_
                  refine Go_iastoreZ (n := 100) (k := n) (pc' := 57) dX1_append_56 rfl (I.S.b 87 rfl rfl) (I.S.k 87 rfl rfl rfl) rfl (by omega) (by decide) ?_
                  refine Go_aload_n (pc' := 58) dX1_append_57 rfl rfl rfl ?_
                  refine Go_dup (pc' := 59) dX1_append_58 rfl rfl ?_
                  refine Go_getIv (v := (iZ (n : Int))) (pc' := 62) dX1_append_59 rfl kf_RX1_28 (by decide) (by decide) rfl (I.S.b 83 rfl rfl) (I.S.o 83 rfl rfl rfl) ((vi_skip (Or.inl (by decide))).trans ((vi_skip (Or.inl (by decide))).trans ((vi_skip (Or.inl (by decide))).trans ((vi_skip (Or.inl (by decide))).trans (en))))) ?_
                  refine Go_iconst (v := iZ 1) (pc' := 63) dX1_append_62 rfl (by decide) ?_
                  refine Go_iaddZ (pc' := 64) dX1_append_63 rfl ?_
                  refine Go_putI (pc' := 67) dX1_append_64 rfl kf_RX1_28 (by decide) (by decide) rfl (I.S.b 83 rfl rfl) (I.S.o 83 rfl rfl rfl) (Or.inl rfl) rfl rfl ?_
                  refine Go_aload_n (pc' := 68) dX1_append_67 rfl rfl rfl ?_
                  refine Go_getIv (v := (iZ ((n : Int) + 1))) (pc' := 71) dX1_append_68 rfl kf_RX1_28 (by decide) (by decide) rfl (I.S.b 83 rfl rfl) (I.S.o 83 rfl rfl rfl) (vi_same) ?_
                  refine Go_iconst (v := iZ 1) (pc' := 72) dX1_append_71 rfl (by decide) ?_
                  refine Go_isubZ (pc' := 73) dX1_append_72 rfl ?_
                  refine Go_ireturn (ty := .int) dX1_append_73 rfl rfl ?_
                  refine ⟨_, rfl, ?_⟩
                  refine Go_ireturn (ty := .int) dX11_entry_86 rfl rfl ?_
                  exact k _ _ (Or.inl ⟨by omega, rfl, rfl⟩) I.S
                · refine Go_iconst (v := iZ (-1)) (pc' := 10) dX1_append_9 rfl (by decide) ?_
                  refine Go_ireturn (ty := .int) dX1_append_10 rfl rfl ?_
                  refine ⟨_, rfl, ?_⟩
                  refine Go_ireturn (ty := .int) dX11_entry_86 rfl rfl ?_
                  exact k _ _ (Or.inr ⟨by omega, rfl, rfl⟩) I.S
              · refine Go_iconst (v := iZ (-1)) (pc' := 57) dX11_entry_56 rfl (by decide) ?_
                refine Go_ireturn (ty := .int) dX11_entry_57 rfl rfl ?_
                exact k _ _ (Or.inr ⟨by omega, rfl, rfl⟩) I.S
          · refine Go_iconst (v := iZ (-1)) (pc' := 31) dX11_entry_30 rfl (by decide) ?_
            refine Go_ireturn (ty := .int) dX11_entry_31 rfl rfl ?_
            exact k _ _ (Or.inr ⟨by omega, rfl, rfl⟩) I.S
      · rintro r h1 (⟨hc, rfl, rfl⟩ | ⟨hc, rfl, rfl⟩) K k
        · show Go G 60 0 0 M_X12_entry 0 [.ref 99, .int (iZ 0), .int (iZ Bz), .int (iZ Cz), .int (iZ Ez), .int (iZ Fz), un] [] (wI (wI (wI (wI (wI h 84 n (iZ ((24 * Bz) + Cz))) 85 n (iZ (Ez % 40))) 86 n (iZ (Ez / 40))) 87 n (iZ Fz)) 83 5 (iZ ((n : Int) + 1))) K
          refine Go_iload_n (pc' := 1) dX12_entry_0 rfl rfl rfl ?_
          refine Go_iconst (v := iZ 0) (pc' := 2) dX12_entry_1 rfl (by decide) ?_
          refine Go_iconst (v := iZ 1) (pc' := 3) dX12_entry_2 rfl (by decide) ?_
          refine Go_callS_i (pc' := 6) (As := [.int _, .int _, .int _]) (st := []) dX12_entry_3 rfl ok_X12_isIn km_RX12_147 rfl (Nat.le_of_ble_eq_true rfl) rfl rfl rfl (Nat.le_of_ble_eq_true rfl) (Nat.lt_succ_self _) ?_
          refine s_isInY (by first | exact ⟨i_lo _, i_hi _⟩ | omega) (by first | exact ⟨i_lo _, i_hi _⟩ | omega) (by first | exact ⟨i_lo _, i_hi _⟩ | omega) ?_
          refine ⟨_, rfl, ?_⟩
          refine Go_if_eqb (tgt := 61) (pc' := 9) dX12_entry_6 (by decide) rfl (fun c6 => by exfalso; omega) (fun c6 => ?_)
          refine Go_iload_n (pc' := 10) dX12_entry_9 rfl rfl rfl ?_
          refine Go_iconst (v := iZ 0) (pc' := 11) dX12_entry_10 rfl (by decide) ?_
          refine Go_sipush (v := iZ 9999) (pc' := 14) dX12_entry_11 rfl (by decide) ?_
          refine Go_callS_i (pc' := 17) (As := [.int _, .int _, .int _]) (st := []) dX12_entry_14 rfl ok_X12_isIn km_RX12_147 rfl (Nat.le_of_ble_eq_true rfl) rfl rfl rfl (Nat.le_of_ble_eq_true rfl) (Nat.lt_succ_self _) ?_
          refine s_isInY (by first | exact ⟨i_lo _, i_hi _⟩ | omega) (by first | exact ⟨i_lo _, i_hi _⟩ | omega) (by first | exact ⟨i_lo _, i_hi _⟩ | omega) ?_
          refine ⟨_, rfl, ?_⟩
          refine Go_if_eqb (tgt := 61) (pc' := 20) dX12_entry_17 (by decide) rfl (fun c17 => ?_) (fun c17 => ?_)
          · refine Go_iconst (v := iZ (-1)) (pc' := 62) dX12_entry_61 rfl (by decide) ?_
            refine Go_ireturn (ty := .int) dX12_entry_62 rfl rfl ?_
            exfalso; omega
          · refine Go_iload_n (pc' := 21) dX12_entry_20 rfl rfl rfl ?_
            refine Go_iconst (v := iZ 0) (pc' := 22) dX12_entry_21 rfl (by decide) ?_
            refine Go_bipush (v := iZ 23) (pc' := 24) dX12_entry_22 rfl (by decide) ?_
            refine Go_callS_i (pc' := 27) (As := [.int _, .int _, .int _]) (st := []) dX12_entry_24 rfl ok_X12_isIn km_RX12_147 rfl (Nat.le_of_ble_eq_true rfl) rfl rfl rfl (Nat.le_of_ble_eq_true rfl) (Nat.lt_succ_self _) ?_
            refine s_isInY (by first | exact ⟨i_lo _, i_hi _⟩ | omega) (by first | exact ⟨i_lo _, i_hi _⟩ | omega) (by first | exact ⟨i_lo _, i_hi _⟩ | omega) ?_
            refine ⟨_, rfl, ?_⟩
            refine Go_if_eqb (tgt := 61) (pc' := 30) dX12_entry_27 (by decide) rfl (fun c27 => ?_) (fun c27 => ?_)
            · refine Go_iconst (v := iZ (-1)) (pc' := 62) dX12_entry_61 rfl (by decide) ?_
              refine Go_ireturn (ty := .int) dX12_entry_62 rfl rfl ?_
              exfalso; omega
            · refine Go_iload (pc' := 32) dX12_entry_30 rfl rfl ?_
              refine Go_callS_i (pc' := 35) (As := [.int _]) (st := []) dX12_entry_32 rfl ok_X12_isPlace km_RX12_394 rfl (Nat.le_of_ble_eq_true rfl) rfl rfl rfl (Nat.le_of_ble_eq_true rfl) (Nat.lt_succ_self _) ?_
              refine s_isPlace (by first | exact ⟨i_lo _, i_hi _⟩ | omega) ?_
              refine ⟨_, rfl, ?_⟩
              refine Go_if_eqb (tgt := 61) (pc' := 38) dX12_entry_35 (by decide) rfl (fun c35 => ?_) (fun c35 => ?_)
              · refine Go_iconst (v := iZ (-1)) (pc' := 62) dX12_entry_61 rfl (by decide) ?_
                refine Go_ireturn (ty := .int) dX12_entry_62 rfl rfl ?_
                exfalso; omega
              · refine Go_iload (pc' := 40) dX12_entry_38 rfl rfl ?_
                refine Go_iconst (v := iZ 0) (pc' := 41) dX12_entry_40 rfl (by decide) ?_
                refine Go_sipush (v := iZ 999) (pc' := 44) dX12_entry_41 rfl (by decide) ?_
                refine Go_callS_i (pc' := 47) (As := [.int _, .int _, .int _]) (st := []) dX12_entry_44 rfl ok_X12_isIn km_RX12_147 rfl (Nat.le_of_ble_eq_true rfl) rfl rfl rfl (Nat.le_of_ble_eq_true rfl) (Nat.lt_succ_self _) ?_
                refine s_isInY (by first | exact ⟨i_lo _, i_hi _⟩ | omega) (by first | exact ⟨i_lo _, i_hi _⟩ | omega) (by first | exact ⟨i_lo _, i_hi _⟩ | omega) ?_
                refine ⟨_, rfl, ?_⟩
                refine Go_if_eqb (tgt := 61) (pc' := 50) dX12_entry_47 (by decide) rfl (fun c47 => ?_) (fun c47 => ?_)
                · refine Go_iconst (v := iZ (-1)) (pc' := 62) dX12_entry_61 rfl (by decide) ?_
                  refine Go_ireturn (ty := .int) dX12_entry_62 rfl rfl ?_
                  exfalso; omega
                · refine Go_aload_n (pc' := 51) dX12_entry_50 rfl rfl rfl ?_
                  refine Go_getRs (pc' := 54) dX12_entry_51 rfl kf_RX12_123 (by decide) (by decide) rfl (I.S.b 99 rfl rfl) (I.S.o 99 rfl rfl rfl) (I.S.r 99 52 rfl rfl rfl) ?_
                  refine Go_iload_n (pc' := 55) dX12_entry_54 rfl rfl rfl ?_
                  refine Go_ialoadZ (n := 2) (k := 0) (v := (iZ (n : Int))) (pc' := 56) dX12_entry_55 rfl (I.S.b 134 rfl rfl) (I.S.k 134 rfl rfl rfl) rfl (by decide) (by decide) ((vi_skip (Or.inl (by decide))).trans ((vi_skip (Or.inl (by decide))).trans ((vi_skip (Or.inl (by decide))).trans ((vi_skip (Or.inl (by decide))).trans ((vi_skip (Or.inl (by decide))).trans (en2)))))) ?_
                  refine Go_bipush (v := iZ 100) (pc' := 58) dX12_entry_56 rfl (by decide) ?_
                  refine Go_icmp_neY (tgt := 63) (pc' := 61) dX12_entry_58 (by decide) rfl (by first | exact ⟨i_lo _, i_hi _⟩ | omega) (by first | exact ⟨i_lo _, i_hi _⟩ | omega) (fun c58 => ?_) (fun c58 => ?_)
                  · refine Go_bipush (v := iZ 100) (pc' := 65) dX12_entry_63 rfl (by decide) ?_
                    refine Go_iload_n (pc' := 66) dX12_entry_65 rfl rfl rfl ?_
                    refine Go_imul (pc' := 67) dX12_entry_66 rfl ?_
                    rw [show (iZ 100 * iZ 0 : Int32) = iZ 0 from by decide]
                    refine Go_aload_n (pc' := 68) dX12_entry_67 rfl rfl rfl ?_
                    refine Go_getRs (pc' := 71) dX12_entry_68 rfl kf_RX12_123 (by decide) (by decide) rfl (I.S.b 99 rfl rfl) (I.S.o 99 rfl rfl rfl) (I.S.r 99 52 rfl rfl rfl) ?_
                    refine Go_iload_n (pc' := 72) dX12_entry_71 rfl rfl rfl ?_
                    refine Go_ialoadZ (n := 2) (k := 0) (v := (iZ (n : Int))) (pc' := 73) dX12_entry_72 rfl (I.S.b 134 rfl rfl) (I.S.k 134 rfl rfl rfl) rfl (by decide) (by decide) ((vi_skip (Or.inl (by decide))).trans ((vi_skip (Or.inl (by decide))).trans ((vi_skip (Or.inl (by decide))).trans ((vi_skip (Or.inl (by decide))).trans ((vi_skip (Or.inl (by decide))).trans (en2)))))) ?_
                    refine Go_iaddZ (pc' := 74) dX12_entry_73 rfl ?_
                    refine Go_istore (pc' := 76) (lv' := [.ref _, .int _, .int _, .int _, .int _, .int _, .int _]) dX12_entry_74 rfl (Nat.le_of_ble_eq_true rfl) rfl rfl ?_
                    refine Go_aload_n (pc' := 77) dX12_entry_76 rfl rfl rfl ?_
                    refine Go_getRs (pc' := 80) dX12_entry_77 rfl kf_RX12_126 (by decide) (by decide) rfl (I.S.b 99 rfl rfl) (I.S.o 99 rfl rfl rfl) (I.S.r 99 53 rfl rfl rfl) ?_
                    refine Go_iload (pc' := 82) dX12_entry_80 rfl rfl ?_
                    refine Go_bipush (v := iZ 24) (pc' := 84) dX12_entry_82 rfl (by decide) ?_
                    refine Go_iload_n (pc' := 85) dX12_entry_84 rfl rfl rfl ?_
                    refine Go_imulZ (pc' := 86) dX12_entry_85 rfl ?_
                    refine Go_iload_n (pc' := 87) dX12_entry_86 rfl rfl rfl ?_
                    refine Go_iaddZ (pc' := 88) dX12_entry_87 rfl ?_
                    refine Go_iastoreZ (n := 200) (k := n) (pc' := 89) dX12_entry_88 rfl (I.S.b 135 rfl rfl) (I.S.k 135 rfl rfl rfl) (by omega) (by omega) (by decide) ?_
                    refine Go_aload_n (pc' := 90) dX12_entry_89 rfl rfl rfl ?_
                    refine Go_getRs (pc' := 93) dX12_entry_90 rfl kf_RX12_129 (by decide) (by decide) rfl (I.S.b 99 rfl rfl) (I.S.o 99 rfl rfl rfl) (I.S.r 99 54 rfl rfl rfl) ?_
                    refine Go_iload (pc' := 95) dX12_entry_93 rfl rfl ?_
                    refine Go_iload (pc' := 97) dX12_entry_95 rfl rfl ?_
                    refine Go_iastoreZ (n := 200) (k := n) (pc' := 98) dX12_entry_97 rfl (I.S.b 136 rfl rfl) (I.S.k 136 rfl rfl rfl) (by omega) (by omega) (by decide) ?_
                    refine Go_aload_n (pc' := 99) dX12_entry_98 rfl rfl rfl ?_
                    refine Go_getRs (pc' := 102) dX12_entry_99 rfl kf_RX12_132 (by decide) (by decide) rfl (I.S.b 99 rfl rfl) (I.S.o 99 rfl rfl rfl) (I.S.r 99 55 rfl rfl rfl) ?_
                    refine Go_iload (pc' := 104) dX12_entry_102 rfl rfl ?_
                    refine Go_iload (pc' := 106) dX12_entry_104 rfl rfl ?_
                    refine Go_iastoreZ (n := 200) (k := n) (pc' := 107) dX12_entry_106 rfl (I.S.b 137 rfl rfl) (I.S.k 137 rfl rfl rfl) (by omega) (by omega) (by decide) ?_
                    refine Go_aload_n (pc' := 108) dX12_entry_107 rfl rfl rfl ?_
                    refine Go_getRs (pc' := 111) dX12_entry_108 rfl kf_RX12_123 (by decide) (by decide) rfl (I.S.b 99 rfl rfl) (I.S.o 99 rfl rfl rfl) (I.S.r 99 52 rfl rfl rfl) ?_
                    refine Go_iload_n (pc' := 112) dX12_entry_111 rfl rfl rfl ?_
                    refine Go_dup2 (pc' := 113) dX12_entry_112 rfl rfl rfl ?_
                    refine Go_ialoadZ (n := 2) (k := 0) (v := (iZ (n : Int))) (pc' := 114) dX12_entry_113 rfl (I.S.b 134 rfl rfl) (I.S.k 134 rfl rfl rfl) rfl (by decide) (by decide) ((vi_skip (Or.inl (by decide))).trans ((vi_skip (Or.inl (by decide))).trans ((vi_skip (Or.inl (by decide))).trans ((vi_skip (Or.inl (by decide))).trans ((vi_skip (Or.inl (by decide))).trans ((vi_skip (Or.inl (by decide))).trans ((vi_skip (Or.inl (by decide))).trans ((vi_skip (Or.inl (by decide))).trans (en2))))))))) ?_
                    refine Go_iconst (v := iZ 1) (pc' := 115) dX12_entry_114 rfl (by decide) ?_
                    refine Go_iaddZ (pc' := 116) dX12_entry_115 rfl ?_
                    refine Go_iastoreZ (n := 2) (k := 0) (pc' := 117) dX12_entry_116 rfl (I.S.b 134 rfl rfl) (I.S.k 134 rfl rfl rfl) rfl (by decide) (by decide) ?_
                    refine Go_aload_n (pc' := 118) dX12_entry_117 rfl rfl rfl ?_
                    refine Go_getRs (pc' := 121) dX12_entry_118 rfl kf_RX12_123 (by decide) (by decide) rfl (I.S.b 99 rfl rfl) (I.S.o 99 rfl rfl rfl) (I.S.r 99 52 rfl rfl rfl) ?_
                    refine Go_iload_n (pc' := 122) dX12_entry_121 rfl rfl rfl ?_
                    refine Go_ialoadZ (n := 2) (k := 0) (v := (iZ ((n : Int) + 1))) (pc' := 123) dX12_entry_122 rfl (I.S.b 134 rfl rfl) (I.S.k 134 rfl rfl rfl) rfl (by decide) (by decide) (vi_same) ?_
                    refine Go_iconst (v := iZ 1) (pc' := 124) dX12_entry_123 rfl (by decide) ?_
                    refine Go_isubZ (pc' := 125) dX12_entry_124 rfl ?_
                    refine Go_ireturn (ty := .int) dX12_entry_125 rfl rfl ?_
                    exact k _ ⟨I.S, I.D.fr ((((((((((SameOn.rf _ _).wI rfl).wI rfl).wI rfl).wI rfl).wI rfl).wI rfl).wI rfl).wI rfl).wI rfl), I.W.fr ((((((((((SameOn.rf _ _).wI rfl).wI rfl).wI rfl).wI rfl).wI rfl).wI rfl).wI rfl).wI rfl).wI rfl), I.P.fr ((((((((((SameOn.rf _ _).wI rfl).wI rfl).wI rfl).wI rfl).wI rfl).wI rfl).wI rfl).wI rfl).wI rfl), (RE_of (I.E.c0.app en (by omega) (H := 24 * Bz + Cz) (D := Ez) (Z := Fz) (by omega) (by omega) (by omega) ((vi_skip (Or.inl (by decide))).trans ((vi_skip (Or.inl (by decide))).trans ((vi_skip (Or.inl (by decide))).trans ((vi_skip (Or.inl (by decide))).trans (vi_same))))) (vi_same) (by intro i; simp [vi_wI]) (by intro i; simp [vi_wI]) (by intro i; simp [vi_wI]) (by intro i; simp [vi_wI]) (by intro i hi; simp [vi_wI]) (by intro i hi; simp [vi_wI]) (by intro i hi; simp [vi_wI])) (I.E.c1.fr (by simp [vi_wI]) (by simp [vi_wI]) (fun j i h1 h2 => ((vi_skip (by omega)).trans ((vi_skip (by omega)).trans ((vi_skip (by omega)).trans ((vi_skip (by omega)).trans ((vi_skip (by omega)).trans ((vi_skip (by omega)).trans ((vi_skip (by omega)).trans ((vi_skip (by omega)).trans ((vi_skip (by omega)).trans (rfl))))))))))) (fun j i h1 h2 h3 => ((vi_skip (by omega)).trans ((vi_skip (by omega)).trans ((vi_skip (by omega)).trans ((vi_skip (by omega)).trans ((vi_skip (by omega)).trans ((vi_skip (by omega)).trans ((vi_skip (by omega)).trans ((vi_skip (by omega)).trans ((vi_skip (by omega)).trans (rfl))))))))))))), (I.F.grow en (by omega) ((vi_skip (Or.inl (by decide))).trans ((vi_skip (Or.inl (by decide))).trans ((vi_skip (Or.inl (by decide))).trans ((vi_skip (Or.inl (by decide))).trans (vi_same))))) ((((((((((SameOn.rf _ _).wI rfl).wI rfl).wI rfl).wI rfl).wI rfl).wI rfl).wI rfl).wI rfl).wI rfl)), I.T.fr ((((((((((SameOn.rf _ _).wI rfl).wI rfl).wI rfl).wI rfl).wI rfl).wI rfl).wI rfl).wI rfl).wI rfl), I.G.fr ((((((((((SameOn.rf _ _).wI rfl).wI rfl).wI rfl).wI rfl).wI rfl).wI rfl).wI rfl).wI rfl).wI rfl), stat_C (stat_C (stat_C (stat_C (stat_C (stat_C (stat_C (stat_C (stat_C (I.C) (by decide) rfl) (by decide) rfl) (by decide) rfl) (by decide) rfl) (by decide) rfl) (by decide) rfl) (by decide) rfl) (by decide) rfl) (by decide) rfl, stat_Q (stat_Q (stat_Q (stat_Q (stat_Q (stat_Q (stat_Q (stat_Q (stat_Q (I.Q) (by decide) rfl) (by decide) rfl) (by decide) rfl) (by decide) rfl) (by decide) rfl) (by decide) rfl) (by decide) rfl) (by decide) rfl) (by decide) rfl⟩
                  · refine Go_iconst (v := iZ (-1)) (pc' := 62) dX12_entry_61 rfl (by decide) ?_
                    refine Go_ireturn (ty := .int) dX12_entry_62 rfl rfl ?_
                    exfalso; omega
        · show Go G 60 0 0 M_X12_entry 0 [.ref 99, .int (iZ 0), .int (iZ Bz), .int (iZ Cz), .int (iZ Ez), .int (iZ Fz), un] [] h K
          refine Go_iload_n (pc' := 1) dX12_entry_0 rfl rfl rfl ?_
          refine Go_iconst (v := iZ 0) (pc' := 2) dX12_entry_1 rfl (by decide) ?_
          refine Go_iconst (v := iZ 1) (pc' := 3) dX12_entry_2 rfl (by decide) ?_
          refine Go_callS_i (pc' := 6) (As := [.int _, .int _, .int _]) (st := []) dX12_entry_3 rfl ok_X12_isIn km_RX12_147 rfl (Nat.le_of_ble_eq_true rfl) rfl rfl rfl (Nat.le_of_ble_eq_true rfl) (Nat.lt_succ_self _) ?_
          refine s_isInY (by first | exact ⟨i_lo _, i_hi _⟩ | omega) (by first | exact ⟨i_lo _, i_hi _⟩ | omega) (by first | exact ⟨i_lo _, i_hi _⟩ | omega) ?_
          refine ⟨_, rfl, ?_⟩
          refine Go_if_eqb (tgt := 61) (pc' := 9) dX12_entry_6 (by decide) rfl (fun c6 => by exfalso; omega) (fun c6 => ?_)
          refine Go_iload_n (pc' := 10) dX12_entry_9 rfl rfl rfl ?_
          refine Go_iconst (v := iZ 0) (pc' := 11) dX12_entry_10 rfl (by decide) ?_
          refine Go_sipush (v := iZ 9999) (pc' := 14) dX12_entry_11 rfl (by decide) ?_
          refine Go_callS_i (pc' := 17) (As := [.int _, .int _, .int _]) (st := []) dX12_entry_14 rfl ok_X12_isIn km_RX12_147 rfl (Nat.le_of_ble_eq_true rfl) rfl rfl rfl (Nat.le_of_ble_eq_true rfl) (Nat.lt_succ_self _) ?_
          refine s_isInY (by first | exact ⟨i_lo _, i_hi _⟩ | omega) (by first | exact ⟨i_lo _, i_hi _⟩ | omega) (by first | exact ⟨i_lo _, i_hi _⟩ | omega) ?_
          refine ⟨_, rfl, ?_⟩
          refine Go_if_eqb (tgt := 61) (pc' := 20) dX12_entry_17 (by decide) rfl (fun c17 => ?_) (fun c17 => ?_)
          · refine Go_iconst (v := iZ (-1)) (pc' := 62) dX12_entry_61 rfl (by decide) ?_
            refine Go_ireturn (ty := .int) dX12_entry_62 rfl rfl ?_
            exact k _ I
          · refine Go_iload_n (pc' := 21) dX12_entry_20 rfl rfl rfl ?_
            refine Go_iconst (v := iZ 0) (pc' := 22) dX12_entry_21 rfl (by decide) ?_
            refine Go_bipush (v := iZ 23) (pc' := 24) dX12_entry_22 rfl (by decide) ?_
            refine Go_callS_i (pc' := 27) (As := [.int _, .int _, .int _]) (st := []) dX12_entry_24 rfl ok_X12_isIn km_RX12_147 rfl (Nat.le_of_ble_eq_true rfl) rfl rfl rfl (Nat.le_of_ble_eq_true rfl) (Nat.lt_succ_self _) ?_
            refine s_isInY (by first | exact ⟨i_lo _, i_hi _⟩ | omega) (by first | exact ⟨i_lo _, i_hi _⟩ | omega) (by first | exact ⟨i_lo _, i_hi _⟩ | omega) ?_
            refine ⟨_, rfl, ?_⟩
            refine Go_if_eqb (tgt := 61) (pc' := 30) dX12_entry_27 (by decide) rfl (fun c27 => ?_) (fun c27 => ?_)
            · refine Go_iconst (v := iZ (-1)) (pc' := 62) dX12_entry_61 rfl (by decide) ?_
              refine Go_ireturn (ty := .int) dX12_entry_62 rfl rfl ?_
              exact k _ I
            · refine Go_iload (pc' := 32) dX12_entry_30 rfl rfl ?_
              refine Go_callS_i (pc' := 35) (As := [.int _]) (st := []) dX12_entry_32 rfl ok_X12_isPlace km_RX12_394 rfl (Nat.le_of_ble_eq_true rfl) rfl rfl rfl (Nat.le_of_ble_eq_true rfl) (Nat.lt_succ_self _) ?_
              refine s_isPlace (by first | exact ⟨i_lo _, i_hi _⟩ | omega) ?_
              refine ⟨_, rfl, ?_⟩
              refine Go_if_eqb (tgt := 61) (pc' := 38) dX12_entry_35 (by decide) rfl (fun c35 => ?_) (fun c35 => ?_)
              · refine Go_iconst (v := iZ (-1)) (pc' := 62) dX12_entry_61 rfl (by decide) ?_
                refine Go_ireturn (ty := .int) dX12_entry_62 rfl rfl ?_
                exact k _ I
              · refine Go_iload (pc' := 40) dX12_entry_38 rfl rfl ?_
                refine Go_iconst (v := iZ 0) (pc' := 41) dX12_entry_40 rfl (by decide) ?_
                refine Go_sipush (v := iZ 999) (pc' := 44) dX12_entry_41 rfl (by decide) ?_
                refine Go_callS_i (pc' := 47) (As := [.int _, .int _, .int _]) (st := []) dX12_entry_44 rfl ok_X12_isIn km_RX12_147 rfl (Nat.le_of_ble_eq_true rfl) rfl rfl rfl (Nat.le_of_ble_eq_true rfl) (Nat.lt_succ_self _) ?_
                refine s_isInY (by first | exact ⟨i_lo _, i_hi _⟩ | omega) (by first | exact ⟨i_lo _, i_hi _⟩ | omega) (by first | exact ⟨i_lo _, i_hi _⟩ | omega) ?_
                refine ⟨_, rfl, ?_⟩
                refine Go_if_eqb (tgt := 61) (pc' := 50) dX12_entry_47 (by decide) rfl (fun c47 => ?_) (fun c47 => ?_)
                · refine Go_iconst (v := iZ (-1)) (pc' := 62) dX12_entry_61 rfl (by decide) ?_
                  refine Go_ireturn (ty := .int) dX12_entry_62 rfl rfl ?_
                  exact k _ I
                · refine Go_aload_n (pc' := 51) dX12_entry_50 rfl rfl rfl ?_
                  refine Go_getRs (pc' := 54) dX12_entry_51 rfl kf_RX12_123 (by decide) (by decide) rfl (I.S.b 99 rfl rfl) (I.S.o 99 rfl rfl rfl) (I.S.r 99 52 rfl rfl rfl) ?_
                  refine Go_iload_n (pc' := 55) dX12_entry_54 rfl rfl rfl ?_
                  refine Go_ialoadZ (n := 2) (k := 0) (v := (iZ (n : Int))) (pc' := 56) dX12_entry_55 rfl (I.S.b 134 rfl rfl) (I.S.k 134 rfl rfl rfl) rfl (by decide) (by decide) (en2) ?_
                  refine Go_bipush (v := iZ 100) (pc' := 58) dX12_entry_56 rfl (by decide) ?_
                  refine Go_icmp_neY (tgt := 63) (pc' := 61) dX12_entry_58 (by decide) rfl (by first | exact ⟨i_lo _, i_hi _⟩ | omega) (by first | exact ⟨i_lo _, i_hi _⟩ | omega) (fun c58 => ?_) (fun c58 => ?_)
                  · refine Go_bipush (v := iZ 100) (pc' := 65) dX12_entry_63 rfl (by decide) ?_
                    refine Go_iload_n (pc' := 66) dX12_entry_65 rfl rfl rfl ?_
                    refine Go_imul (pc' := 67) dX12_entry_66 rfl ?_
                    rw [show (iZ 100 * iZ 0 : Int32) = iZ 0 from by decide]
                    refine Go_aload_n (pc' := 68) dX12_entry_67 rfl rfl rfl ?_
                    refine Go_getRs (pc' := 71) dX12_entry_68 rfl kf_RX12_123 (by decide) (by decide) rfl (I.S.b 99 rfl rfl) (I.S.o 99 rfl rfl rfl) (I.S.r 99 52 rfl rfl rfl) ?_
                    refine Go_iload_n (pc' := 72) dX12_entry_71 rfl rfl rfl ?_
                    refine Go_ialoadZ (n := 2) (k := 0) (v := (iZ (n : Int))) (pc' := 73) dX12_entry_72 rfl (I.S.b 134 rfl rfl) (I.S.k 134 rfl rfl rfl) rfl (by decide) (by decide) (en2) ?_
                    refine Go_iaddZ (pc' := 74) dX12_entry_73 rfl ?_
                    refine Go_istore (pc' := 76) (lv' := [.ref _, .int _, .int _, .int _, .int _, .int _, .int _]) dX12_entry_74 rfl (Nat.le_of_ble_eq_true rfl) rfl rfl ?_
                    refine Go_aload_n (pc' := 77) dX12_entry_76 rfl rfl rfl ?_
                    refine Go_getRs (pc' := 80) dX12_entry_77 rfl kf_RX12_126 (by decide) (by decide) rfl (I.S.b 99 rfl rfl) (I.S.o 99 rfl rfl rfl) (I.S.r 99 53 rfl rfl rfl) ?_
                    refine Go_iload (pc' := 82) dX12_entry_80 rfl rfl ?_
                    refine Go_bipush (v := iZ 24) (pc' := 84) dX12_entry_82 rfl (by decide) ?_
                    refine Go_iload_n (pc' := 85) dX12_entry_84 rfl rfl rfl ?_
                    refine Go_imulZ (pc' := 86) dX12_entry_85 rfl ?_
                    refine Go_iload_n (pc' := 87) dX12_entry_86 rfl rfl rfl ?_
                    refine Go_iaddZ (pc' := 88) dX12_entry_87 rfl ?_
                    refine Go_iastoreZ (n := 200) (k := n) (pc' := 89) dX12_entry_88 rfl (I.S.b 135 rfl rfl) (I.S.k 135 rfl rfl rfl) (by omega) (by omega) (by decide) ?_
                    refine Go_aload_n (pc' := 90) dX12_entry_89 rfl rfl rfl ?_
                    refine Go_getRs (pc' := 93) dX12_entry_90 rfl kf_RX12_129 (by decide) (by decide) rfl (I.S.b 99 rfl rfl) (I.S.o 99 rfl rfl rfl) (I.S.r 99 54 rfl rfl rfl) ?_
                    refine Go_iload (pc' := 95) dX12_entry_93 rfl rfl ?_
                    refine Go_iload (pc' := 97) dX12_entry_95 rfl rfl ?_
                    refine Go_iastoreZ (n := 200) (k := n) (pc' := 98) dX12_entry_97 rfl (I.S.b 136 rfl rfl) (I.S.k 136 rfl rfl rfl) (by omega) (by omega) (by decide) ?_
                    refine Go_aload_n (pc' := 99) dX12_entry_98 rfl rfl rfl ?_
                    refine Go_getRs (pc' := 102) dX12_entry_99 rfl kf_RX12_132 (by decide) (by decide) rfl (I.S.b 99 rfl rfl) (I.S.o 99 rfl rfl rfl) (I.S.r 99 55 rfl rfl rfl) ?_
                    refine Go_iload (pc' := 104) dX12_entry_102 rfl rfl ?_
                    refine Go_iload (pc' := 106) dX12_entry_104 rfl rfl ?_
                    refine Go_iastoreZ (n := 200) (k := n) (pc' := 107) dX12_entry_106 rfl (I.S.b 137 rfl rfl) (I.S.k 137 rfl rfl rfl) (by omega) (by omega) (by decide) ?_
                    refine Go_aload_n (pc' := 108) dX12_entry_107 rfl rfl rfl ?_
                    refine Go_getRs (pc' := 111) dX12_entry_108 rfl kf_RX12_123 (by decide) (by decide) rfl (I.S.b 99 rfl rfl) (I.S.o 99 rfl rfl rfl) (I.S.r 99 52 rfl rfl rfl) ?_
                    refine Go_iload_n (pc' := 112) dX12_entry_111 rfl rfl rfl ?_
                    refine Go_dup2 (pc' := 113) dX12_entry_112 rfl rfl rfl ?_
                    refine Go_ialoadZ (n := 2) (k := 0) (v := (iZ (n : Int))) (pc' := 114) dX12_entry_113 rfl (I.S.b 134 rfl rfl) (I.S.k 134 rfl rfl rfl) rfl (by decide) (by decide) ((vi_skip (Or.inl (by decide))).trans ((vi_skip (Or.inl (by decide))).trans ((vi_skip (Or.inl (by decide))).trans (en2)))) ?_
                    refine Go_iconst (v := iZ 1) (pc' := 115) dX12_entry_114 rfl (by decide) ?_
                    refine Go_iaddZ (pc' := 116) dX12_entry_115 rfl ?_
                    refine Go_iastoreZ (n := 2) (k := 0) (pc' := 117) dX12_entry_116 rfl (I.S.b 134 rfl rfl) (I.S.k 134 rfl rfl rfl) rfl (by decide) (by decide) ?_
                    refine Go_aload_n (pc' := 118) dX12_entry_117 rfl rfl rfl ?_
                    refine Go_getRs (pc' := 121) dX12_entry_118 rfl kf_RX12_123 (by decide) (by decide) rfl (I.S.b 99 rfl rfl) (I.S.o 99 rfl rfl rfl) (I.S.r 99 52 rfl rfl rfl) ?_
                    refine Go_iload_n (pc' := 122) dX12_entry_121 rfl rfl rfl ?_
                    refine Go_ialoadZ (n := 2) (k := 0) (v := (iZ ((n : Int) + 1))) (pc' := 123) dX12_entry_122 rfl (I.S.b 134 rfl rfl) (I.S.k 134 rfl rfl rfl) rfl (by decide) (by decide) (vi_same) ?_
                    refine Go_iconst (v := iZ 1) (pc' := 124) dX12_entry_123 rfl (by decide) ?_
                    refine Go_isubZ (pc' := 125) dX12_entry_124 rfl ?_
                    refine Go_ireturn (ty := .int) dX12_entry_125 rfl rfl ?_
                    exfalso; omega
                  · refine Go_iconst (v := iZ (-1)) (pc' := 62) dX12_entry_61 rfl (by decide) ?_
                    refine Go_ireturn (ty := .int) dX12_entry_62 rfl rfl ?_
                    exact k _ I
    · refine ⟨fun r h1 => (((0 ≤ Bz ∧ Bz ≤ 9999) ∧ (0 ≤ Cz ∧ Cz ≤ 23) ∧ (0 ≤ Ez ∧ Ez ≤ 1599) ∧ (0 ≤ Fz ∧ Fz ≤ 999) ∧ (m : Int) < 100) ∧ r = iZ (((m : Int) + 1) - 1) ∧ h1 = (wI (wI (wI (wI (wI h 90 m (iZ ((24 * Bz) + Cz))) 91 m (iZ (Ez % 40))) 92 m (iZ (Ez / 40))) 93 m (iZ Fz)) 89 5 (iZ ((m : Int) + 1)))) ∨ (¬ ((0 ≤ Bz ∧ Bz ≤ 9999) ∧ (0 ≤ Cz ∧ Cz ≤ 23) ∧ (0 ≤ Ez ∧ Ez ≤ 1599) ∧ (0 ≤ Fz ∧ Fz ≤ 999) ∧ (m : Int) < 100) ∧ r = iZ (-1) ∧ h = h1), fun K k => ?_, ?_⟩
      · refine Go.more (d := 60) (mc := 0) (ms := 0) ?_ (by omega) (by omega) (by omega)
        show Go G 60 0 0 M_X11_entry 0 [.ref 64, .int (iZ 1), .int (iZ Bz), .int (iZ Cz), .int (iZ Ez), .int (iZ Fz)] [] h K
        refine Go_iload_n (pc' := 1) dX11_entry_0 rfl rfl rfl ?_
        refine Go_iconst (v := iZ 0) (pc' := 2) dX11_entry_1 rfl (by decide) ?_
        refine Go_iconst (v := iZ 1) (pc' := 3) dX11_entry_2 rfl (by decide) ?_
        refine Go_callS_i (pc' := 6) (As := [.int _, .int _, .int _]) (st := []) dX11_entry_3 rfl ok_X11_within km_RX11_94 rfl (Nat.le_of_ble_eq_true rfl) rfl rfl rfl (Nat.le_of_ble_eq_true rfl) (Nat.lt_succ_self _) ?_
        refine s_withinY (by first | exact ⟨i_lo _, i_hi _⟩ | omega) (by first | exact ⟨i_lo _, i_hi _⟩ | omega) (by first | exact ⟨i_lo _, i_hi _⟩ | omega) ?_
        refine ⟨_, rfl, ?_⟩
        refine Go_if_eqb (tgt := 30) (pc' := 9) dX11_entry_6 (by decide) rfl (fun c6 => by exfalso; omega) (fun c6 => ?_)
        refine Go_iload_n (pc' := 10) dX11_entry_9 rfl rfl rfl ?_
        refine Go_iconst (v := iZ 0) (pc' := 11) dX11_entry_10 rfl (by decide) ?_
        refine Go_sipush (v := iZ 9999) (pc' := 14) dX11_entry_11 rfl (by decide) ?_
        refine Go_callS_i (pc' := 17) (As := [.int _, .int _, .int _]) (st := []) dX11_entry_14 rfl ok_X11_within km_RX11_94 rfl (Nat.le_of_ble_eq_true rfl) rfl rfl rfl (Nat.le_of_ble_eq_true rfl) (Nat.lt_succ_self _) ?_
        refine s_withinY (by first | exact ⟨i_lo _, i_hi _⟩ | omega) (by first | exact ⟨i_lo _, i_hi _⟩ | omega) (by first | exact ⟨i_lo _, i_hi _⟩ | omega) ?_
        refine ⟨_, rfl, ?_⟩
        refine Go_if_eqb (tgt := 30) (pc' := 20) dX11_entry_17 (by decide) rfl (fun c17 => ?_) (fun c17 => ?_)
        · refine Go_iconst (v := iZ (-1)) (pc' := 31) dX11_entry_30 rfl (by decide) ?_
          refine Go_ireturn (ty := .int) dX11_entry_31 rfl rfl ?_
          exact k _ _ (Or.inr ⟨by omega, rfl, rfl⟩) I.S
        · refine Go_iload_n (pc' := 21) dX11_entry_20 rfl rfl rfl ?_
          refine Go_iconst (v := iZ 0) (pc' := 22) dX11_entry_21 rfl (by decide) ?_
          refine Go_bipush (v := iZ 23) (pc' := 24) dX11_entry_22 rfl (by decide) ?_
          refine Go_callS_i (pc' := 27) (As := [.int _, .int _, .int _]) (st := []) dX11_entry_24 rfl ok_X11_within km_RX11_94 rfl (Nat.le_of_ble_eq_true rfl) rfl rfl rfl (Nat.le_of_ble_eq_true rfl) (Nat.lt_succ_self _) ?_
          refine s_withinY (by first | exact ⟨i_lo _, i_hi _⟩ | omega) (by first | exact ⟨i_lo _, i_hi _⟩ | omega) (by first | exact ⟨i_lo _, i_hi _⟩ | omega) ?_
          refine ⟨_, rfl, ?_⟩
          refine Go_if_neb (tgt := 32) (pc' := 30) dX11_entry_27 (by decide) rfl (fun c27 => ?_) (fun c27 => ?_)
          · refine Go_iload (pc' := 34) dX11_entry_32 rfl rfl ?_
            refine Go_iconst (v := iZ 0) (pc' := 35) dX11_entry_34 rfl (by decide) ?_
            refine Go_sipush (v := iZ 1599) (pc' := 38) dX11_entry_35 rfl (by decide) ?_
            refine Go_callS_i (pc' := 41) (As := [.int _, .int _, .int _]) (st := []) dX11_entry_38 rfl ok_X11_within km_RX11_94 rfl (Nat.le_of_ble_eq_true rfl) rfl rfl rfl (Nat.le_of_ble_eq_true rfl) (Nat.lt_succ_self _) ?_
            refine s_withinY (by first | exact ⟨i_lo _, i_hi _⟩ | omega) (by first | exact ⟨i_lo _, i_hi _⟩ | omega) (by first | exact ⟨i_lo _, i_hi _⟩ | omega) ?_
            refine ⟨_, rfl, ?_⟩
            refine Go_if_eqb (tgt := 56) (pc' := 44) dX11_entry_41 (by decide) rfl (fun c41 => ?_) (fun c41 => ?_)
            · refine Go_iconst (v := iZ (-1)) (pc' := 57) dX11_entry_56 rfl (by decide) ?_
              refine Go_ireturn (ty := .int) dX11_entry_57 rfl rfl ?_
              exact k _ _ (Or.inr ⟨by omega, rfl, rfl⟩) I.S
            · refine Go_iload (pc' := 46) dX11_entry_44 rfl rfl ?_
              refine Go_iconst (v := iZ 0) (pc' := 47) dX11_entry_46 rfl (by decide) ?_
              refine Go_sipush (v := iZ 999) (pc' := 50) dX11_entry_47 rfl (by decide) ?_
              refine Go_callS_i (pc' := 53) (As := [.int _, .int _, .int _]) (st := []) dX11_entry_50 rfl ok_X11_within km_RX11_94 rfl (Nat.le_of_ble_eq_true rfl) rfl rfl rfl (Nat.le_of_ble_eq_true rfl) (Nat.lt_succ_self _) ?_
              refine s_withinY (by first | exact ⟨i_lo _, i_hi _⟩ | omega) (by first | exact ⟨i_lo _, i_hi _⟩ | omega) (by first | exact ⟨i_lo _, i_hi _⟩ | omega) ?_
              refine ⟨_, rfl, ?_⟩
              refine Go_if_neb (tgt := 58) (pc' := 56) dX11_entry_53 (by decide) rfl (fun c53 => ?_) (fun c53 => ?_)
              · refine Go_iload_n (pc' := 59) dX11_entry_58 rfl rfl rfl ?_
                refine Go_if_neY (tgt := 69) (pc' := 62) dX11_entry_59 (by decide) rfl (by first | exact ⟨i_lo _, i_hi _⟩ | omega) (fun c59 => ?_) (fun c59 => by exfalso; omega)
                refine Go_aload_n (pc' := 70) dX11_entry_69 rfl rfl rfl ?_
                refine Go_getRs (pc' := 73) dX11_entry_70 rfl kf_RX11_70 (by decide) (by decide) rfl (I.S.b 64 rfl rfl) (I.S.o 64 rfl rfl rfl) (I.S.r 64 12 rfl rfl rfl) ?_
                refine Go_bipush (v := iZ 24) (pc' := 75) dX11_entry_73 rfl (by decide) ?_
                refine Go_iload_n (pc' := 76) dX11_entry_75 rfl rfl rfl ?_
                refine Go_imulZ (pc' := 77) dX11_entry_76 rfl ?_
                refine Go_iload_n (pc' := 78) dX11_entry_77 rfl rfl rfl ?_
                refine Go_iaddZ (pc' := 79) dX11_entry_78 rfl ?_
                refine Go_iload (pc' := 81) dX11_entry_79 rfl rfl ?_
                refine Go_iload (pc' := 83) dX11_entry_81 rfl rfl ?_
                refine Go_callV_i (pc' := 86) (As := [.int _, .int _, .int _]) (st := []) dX11_entry_83 rfl ok_X1_append km_RX11_325 (I.S.o 89 rfl rfl rfl) (I.S.b 89 rfl rfl) ⟨_, _, rfl⟩ rfl (Nat.le_of_ble_eq_true rfl) rfl rfl rfl (Nat.le_of_ble_eq_true rfl) (Nat.lt_succ_self _) ?_
                refine Go_aload_n (pc' := 1) dX1_append_0 rfl rfl rfl ?_
                refine Go_getIv (v := (iZ (m : Int))) (pc' := 4) dX1_append_1 rfl kf_RX1_28 (by decide) (by decide) rfl (I.S.b 89 rfl rfl) (I.S.o 89 rfl rfl rfl) (em) ?_
                refine Go_bipush (v := iZ 100) (pc' := 6) dX1_append_4 rfl (by decide) ?_
                refine Go_icmp_ltY (tgt := 11) (pc' := 9) dX1_append_6 (by decide) rfl (by first | exact ⟨i_lo _, i_hi _⟩ | omega) (by first | exact ⟨i_lo _, i_hi _⟩ | omega) (fun d6 => ?_) (fun d6 => ?_)
                · refine Go_aload_n (pc' := 12) dX1_append_11 rfl rfl rfl ?_
                  refine Go_getRs (pc' := 15) dX1_append_12 rfl kf_RX1_9 (by decide) (by decide) rfl (I.S.b 89 rfl rfl) (I.S.o 89 rfl rfl rfl) (I.S.r 89 0 rfl rfl rfl) ?_
                  refine Go_aload_n (pc' := 16) dX1_append_15 rfl rfl rfl ?_
                  refine Go_getIv (v := (iZ (m : Int))) (pc' := 19) dX1_append_16 rfl kf_RX1_28 (by decide) (by decide) rfl (I.S.b 89 rfl rfl) (I.S.o 89 rfl rfl rfl) (em) ?_
                  refine Go_iload_n (pc' := 20) dX1_append_19 rfl rfl rfl ?_
                  refine Go_iastoreZ (n := 100) (k := m) (pc' := 21) dX1_append_20 rfl (I.S.b 90 rfl rfl) (I.S.k 90 rfl rfl rfl) rfl (by omega) (by decide) ?_
                  refine Go_aload_n (pc' := 22) dX1_append_21 rfl rfl rfl ?_
                  refine Go_getRs (pc' := 25) dX1_append_22 rfl kf_RX1_15 (by decide) (by decide) rfl (I.S.b 89 rfl rfl) (I.S.o 89 rfl rfl rfl) (I.S.r 89 1 rfl rfl rfl) ?_
                  refine Go_aload_n (pc' := 26) dX1_append_25 rfl rfl rfl ?_
                  refine Go_getIv (v := (iZ (m : Int))) (pc' := 29) dX1_append_26 rfl kf_RX1_28 (by decide) (by decide) rfl (I.S.b 89 rfl rfl) (I.S.o 89 rfl rfl rfl) ((vi_skip (Or.inl (by decide))).trans (em)) ?_
                  refine Go_iload_n (pc' := 30) dX1_append_29 rfl rfl rfl ?_
                  refine Go_bipush (v := iZ 40) (pc' := 32) dX1_append_30 rfl (by decide) ?_
                  refine Go_iremP (pc' := 33) dX1_append_32 rfl (by omega) (by omega) ?_
                  refine Go_iastoreZ (n := 100) (k := m) (pc' := 34) dX1_append_33 rfl (I.S.b 91 rfl rfl) (I.S.k 91 rfl rfl rfl) rfl (by omega) (by decide) ?_
                  refine Go_aload_n (pc' := 35) dX1_append_34 rfl rfl rfl ?_
                  refine Go_getRs (pc' := 38) dX1_append_35 rfl kf_RX1_18 (by decide) (by decide) rfl (I.S.b 89 rfl rfl) (I.S.o 89 rfl rfl rfl) (I.S.r 89 2 rfl rfl rfl) ?_
                  refine Go_aload_n (pc' := 39) dX1_append_38 rfl rfl rfl ?_
                  refine Go_getIv (v := (iZ (m : Int))) (pc' := 42) dX1_append_39 rfl kf_RX1_28 (by decide) (by decide) rfl (I.S.b 89 rfl rfl) (I.S.o 89 rfl rfl rfl) ((vi_skip (Or.inl (by decide))).trans ((vi_skip (Or.inl (by decide))).trans (em))) ?_
                  refine Go_iload_n (pc' := 43) dX1_append_42 rfl rfl rfl ?_
                  refine Go_bipush (v := iZ 40) (pc' := 45) dX1_append_43 rfl (by decide) ?_
                  refine Go_idivP (pc' := 46) dX1_append_45 rfl (by omega) (by omega) ?_
                  refine Go_iastoreZ (n := 100) (k := m) (pc' := 47) dX1_append_46 rfl (I.S.b 92 rfl rfl) (I.S.k 92 rfl rfl rfl) rfl (by omega) (by decide) ?_
                  refine Go_aload_n (pc' := 48) dX1_append_47 rfl rfl rfl ?_
                  refine Go_getRs (pc' := 51) dX1_append_48 rfl kf_RX1_21 (by decide) (by decide) rfl (I.S.b 89 rfl rfl) (I.S.o 89 rfl rfl rfl) (I.S.r 89 3 rfl rfl rfl) ?_
                  refine Go_aload_n (pc' := 52) dX1_append_51 rfl rfl rfl ?_
                  refine Go_getIv (v := (iZ (m : Int))) (pc' := 55) dX1_append_52 rfl kf_RX1_28 (by decide) (by decide) rfl (I.S.b 89 rfl rfl) (I.S.o 89 rfl rfl rfl) ((vi_skip (Or.inl (by decide))).trans ((vi_skip (Or.inl (by decide))).trans ((vi_skip (Or.inl (by decide))).trans (em)))) ?_
                  refine Go_iload_n (pc' := 56) dX1_append_55 rfl rfl rfl ?_
                  refine Go_iastoreZ (n := 100) (k := m) (pc' := 57) dX1_append_56 rfl (I.S.b 93 rfl rfl) (I.S.k 93 rfl rfl rfl) rfl (by omega) (by decide) ?_
                  refine Go_aload_n (pc' := 58) dX1_append_57 rfl rfl rfl ?_
                  refine Go_dup (pc' := 59) dX1_append_58 rfl rfl ?_
                  refine Go_getIv (v := (iZ (m : Int))) (pc' := 62) dX1_append_59 rfl kf_RX1_28 (by decide) (by decide) rfl (I.S.b 89 rfl rfl) (I.S.o 89 rfl rfl rfl) ((vi_skip (Or.inl (by decide))).trans ((vi_skip (Or.inl (by decide))).trans ((vi_skip (Or.inl (by decide))).trans ((vi_skip (Or.inl (by decide))).trans (em))))) ?_
                  refine Go_iconst (v := iZ 1) (pc' := 63) dX1_append_62 rfl (by decide) ?_
                  refine Go_iaddZ (pc' := 64) dX1_append_63 rfl ?_
                  refine Go_putI (pc' := 67) dX1_append_64 rfl kf_RX1_28 (by decide) (by decide) rfl (I.S.b 89 rfl rfl) (I.S.o 89 rfl rfl rfl) (Or.inl rfl) rfl rfl ?_
                  refine Go_aload_n (pc' := 68) dX1_append_67 rfl rfl rfl ?_
                  refine Go_getIv (v := (iZ ((m : Int) + 1))) (pc' := 71) dX1_append_68 rfl kf_RX1_28 (by decide) (by decide) rfl (I.S.b 89 rfl rfl) (I.S.o 89 rfl rfl rfl) (vi_same) ?_
                  refine Go_iconst (v := iZ 1) (pc' := 72) dX1_append_71 rfl (by decide) ?_
                  refine Go_isubZ (pc' := 73) dX1_append_72 rfl ?_
                  refine Go_ireturn (ty := .int) dX1_append_73 rfl rfl ?_
                  refine ⟨_, rfl, ?_⟩
                  refine Go_ireturn (ty := .int) dX11_entry_86 rfl rfl ?_
                  exact k _ _ (Or.inl ⟨by omega, rfl, rfl⟩) I.S
                · refine Go_iconst (v := iZ (-1)) (pc' := 10) dX1_append_9 rfl (by decide) ?_
                  refine Go_ireturn (ty := .int) dX1_append_10 rfl rfl ?_
                  refine ⟨_, rfl, ?_⟩
                  refine Go_ireturn (ty := .int) dX11_entry_86 rfl rfl ?_
                  exact k _ _ (Or.inr ⟨by omega, rfl, rfl⟩) I.S
              · refine Go_iconst (v := iZ (-1)) (pc' := 57) dX11_entry_56 rfl (by decide) ?_
                refine Go_ireturn (ty := .int) dX11_entry_57 rfl rfl ?_
                exact k _ _ (Or.inr ⟨by omega, rfl, rfl⟩) I.S
          · refine Go_iconst (v := iZ (-1)) (pc' := 31) dX11_entry_30 rfl (by decide) ?_
            refine Go_ireturn (ty := .int) dX11_entry_31 rfl rfl ?_
            exact k _ _ (Or.inr ⟨by omega, rfl, rfl⟩) I.S
      · rintro r h1 (⟨hc, rfl, rfl⟩ | ⟨hc, rfl, rfl⟩) K k
        · show Go G 60 0 0 M_X12_entry 0 [.ref 99, .int (iZ 1), .int (iZ Bz), .int (iZ Cz), .int (iZ Ez), .int (iZ Fz), un] [] (wI (wI (wI (wI (wI h 90 m (iZ ((24 * Bz) + Cz))) 91 m (iZ (Ez % 40))) 92 m (iZ (Ez / 40))) 93 m (iZ Fz)) 89 5 (iZ ((m : Int) + 1))) K
          refine Go_iload_n (pc' := 1) dX12_entry_0 rfl rfl rfl ?_
          refine Go_iconst (v := iZ 0) (pc' := 2) dX12_entry_1 rfl (by decide) ?_
          refine Go_iconst (v := iZ 1) (pc' := 3) dX12_entry_2 rfl (by decide) ?_
          refine Go_callS_i (pc' := 6) (As := [.int _, .int _, .int _]) (st := []) dX12_entry_3 rfl ok_X12_isIn km_RX12_147 rfl (Nat.le_of_ble_eq_true rfl) rfl rfl rfl (Nat.le_of_ble_eq_true rfl) (Nat.lt_succ_self _) ?_
          refine s_isInY (by first | exact ⟨i_lo _, i_hi _⟩ | omega) (by first | exact ⟨i_lo _, i_hi _⟩ | omega) (by first | exact ⟨i_lo _, i_hi _⟩ | omega) ?_
          refine ⟨_, rfl, ?_⟩
          refine Go_if_eqb (tgt := 61) (pc' := 9) dX12_entry_6 (by decide) rfl (fun c6 => by exfalso; omega) (fun c6 => ?_)
          refine Go_iload_n (pc' := 10) dX12_entry_9 rfl rfl rfl ?_
          refine Go_iconst (v := iZ 0) (pc' := 11) dX12_entry_10 rfl (by decide) ?_
          refine Go_sipush (v := iZ 9999) (pc' := 14) dX12_entry_11 rfl (by decide) ?_
          refine Go_callS_i (pc' := 17) (As := [.int _, .int _, .int _]) (st := []) dX12_entry_14 rfl ok_X12_isIn km_RX12_147 rfl (Nat.le_of_ble_eq_true rfl) rfl rfl rfl (Nat.le_of_ble_eq_true rfl) (Nat.lt_succ_self _) ?_
          refine s_isInY (by first | exact ⟨i_lo _, i_hi _⟩ | omega) (by first | exact ⟨i_lo _, i_hi _⟩ | omega) (by first | exact ⟨i_lo _, i_hi _⟩ | omega) ?_
          refine ⟨_, rfl, ?_⟩
          refine Go_if_eqb (tgt := 61) (pc' := 20) dX12_entry_17 (by decide) rfl (fun c17 => ?_) (fun c17 => ?_)
          · refine Go_iconst (v := iZ (-1)) (pc' := 62) dX12_entry_61 rfl (by decide) ?_
            refine Go_ireturn (ty := .int) dX12_entry_62 rfl rfl ?_
            exfalso; omega
          · refine Go_iload_n (pc' := 21) dX12_entry_20 rfl rfl rfl ?_
            refine Go_iconst (v := iZ 0) (pc' := 22) dX12_entry_21 rfl (by decide) ?_
            refine Go_bipush (v := iZ 23) (pc' := 24) dX12_entry_22 rfl (by decide) ?_
            refine Go_callS_i (pc' := 27) (As := [.int _, .int _, .int _]) (st := []) dX12_entry_24 rfl ok_X12_isIn km_RX12_147 rfl (Nat.le_of_ble_eq_true rfl) rfl rfl rfl (Nat.le_of_ble_eq_true rfl) (Nat.lt_succ_self _) ?_
            refine s_isInY (by first | exact ⟨i_lo _, i_hi _⟩ | omega) (by first | exact ⟨i_lo _, i_hi _⟩ | omega) (by first | exact ⟨i_lo _, i_hi _⟩ | omega) ?_
            refine ⟨_, rfl, ?_⟩
            refine Go_if_eqb (tgt := 61) (pc' := 30) dX12_entry_27 (by decide) rfl (fun c27 => ?_) (fun c27 => ?_)
            · refine Go_iconst (v := iZ (-1)) (pc' := 62) dX12_entry_61 rfl (by decide) ?_
              refine Go_ireturn (ty := .int) dX12_entry_62 rfl rfl ?_
              exfalso; omega
            · refine Go_iload (pc' := 32) dX12_entry_30 rfl rfl ?_
              refine Go_callS_i (pc' := 35) (As := [.int _]) (st := []) dX12_entry_32 rfl ok_X12_isPlace km_RX12_394 rfl (Nat.le_of_ble_eq_true rfl) rfl rfl rfl (Nat.le_of_ble_eq_true rfl) (Nat.lt_succ_self _) ?_
              refine s_isPlace (by first | exact ⟨i_lo _, i_hi _⟩ | omega) ?_
              refine ⟨_, rfl, ?_⟩
              refine Go_if_eqb (tgt := 61) (pc' := 38) dX12_entry_35 (by decide) rfl (fun c35 => ?_) (fun c35 => ?_)
              · refine Go_iconst (v := iZ (-1)) (pc' := 62) dX12_entry_61 rfl (by decide) ?_
                refine Go_ireturn (ty := .int) dX12_entry_62 rfl rfl ?_
                exfalso; omega
              · refine Go_iload (pc' := 40) dX12_entry_38 rfl rfl ?_
                refine Go_iconst (v := iZ 0) (pc' := 41) dX12_entry_40 rfl (by decide) ?_
                refine Go_sipush (v := iZ 999) (pc' := 44) dX12_entry_41 rfl (by decide) ?_
                refine Go_callS_i (pc' := 47) (As := [.int _, .int _, .int _]) (st := []) dX12_entry_44 rfl ok_X12_isIn km_RX12_147 rfl (Nat.le_of_ble_eq_true rfl) rfl rfl rfl (Nat.le_of_ble_eq_true rfl) (Nat.lt_succ_self _) ?_
                refine s_isInY (by first | exact ⟨i_lo _, i_hi _⟩ | omega) (by first | exact ⟨i_lo _, i_hi _⟩ | omega) (by first | exact ⟨i_lo _, i_hi _⟩ | omega) ?_
                refine ⟨_, rfl, ?_⟩
                refine Go_if_eqb (tgt := 61) (pc' := 50) dX12_entry_47 (by decide) rfl (fun c47 => ?_) (fun c47 => ?_)
                · refine Go_iconst (v := iZ (-1)) (pc' := 62) dX12_entry_61 rfl (by decide) ?_
                  refine Go_ireturn (ty := .int) dX12_entry_62 rfl rfl ?_
                  exfalso; omega
                · refine Go_aload_n (pc' := 51) dX12_entry_50 rfl rfl rfl ?_
                  refine Go_getRs (pc' := 54) dX12_entry_51 rfl kf_RX12_123 (by decide) (by decide) rfl (I.S.b 99 rfl rfl) (I.S.o 99 rfl rfl rfl) (I.S.r 99 52 rfl rfl rfl) ?_
                  refine Go_iload_n (pc' := 55) dX12_entry_54 rfl rfl rfl ?_
                  refine Go_ialoadZ (n := 2) (k := 1) (v := (iZ (m : Int))) (pc' := 56) dX12_entry_55 rfl (I.S.b 134 rfl rfl) (I.S.k 134 rfl rfl rfl) rfl (by decide) (by decide) ((vi_skip (Or.inl (by decide))).trans ((vi_skip (Or.inl (by decide))).trans ((vi_skip (Or.inl (by decide))).trans ((vi_skip (Or.inl (by decide))).trans ((vi_skip (Or.inl (by decide))).trans (em2)))))) ?_
                  refine Go_bipush (v := iZ 100) (pc' := 58) dX12_entry_56 rfl (by decide) ?_
                  refine Go_icmp_neY (tgt := 63) (pc' := 61) dX12_entry_58 (by decide) rfl (by first | exact ⟨i_lo _, i_hi _⟩ | omega) (by first | exact ⟨i_lo _, i_hi _⟩ | omega) (fun c58 => ?_) (fun c58 => ?_)
                  · refine Go_bipush (v := iZ 100) (pc' := 65) dX12_entry_63 rfl (by decide) ?_
                    refine Go_iload_n (pc' := 66) dX12_entry_65 rfl rfl rfl ?_
                    refine Go_imul (pc' := 67) dX12_entry_66 rfl ?_
                    rw [show (iZ 100 * iZ 1 : Int32) = iZ 100 from by decide]
                    refine Go_aload_n (pc' := 68) dX12_entry_67 rfl rfl rfl ?_
                    refine Go_getRs (pc' := 71) dX12_entry_68 rfl kf_RX12_123 (by decide) (by decide) rfl (I.S.b 99 rfl rfl) (I.S.o 99 rfl rfl rfl) (I.S.r 99 52 rfl rfl rfl) ?_
                    refine Go_iload_n (pc' := 72) dX12_entry_71 rfl rfl rfl ?_
                    refine Go_ialoadZ (n := 2) (k := 1) (v := (iZ (m : Int))) (pc' := 73) dX12_entry_72 rfl (I.S.b 134 rfl rfl) (I.S.k 134 rfl rfl rfl) rfl (by decide) (by decide) ((vi_skip (Or.inl (by decide))).trans ((vi_skip (Or.inl (by decide))).trans ((vi_skip (Or.inl (by decide))).trans ((vi_skip (Or.inl (by decide))).trans ((vi_skip (Or.inl (by decide))).trans (em2)))))) ?_
                    refine Go_iaddZ (pc' := 74) dX12_entry_73 rfl ?_
                    refine Go_istore (pc' := 76) (lv' := [.ref _, .int _, .int _, .int _, .int _, .int _, .int _]) dX12_entry_74 rfl (Nat.le_of_ble_eq_true rfl) rfl rfl ?_
                    refine Go_aload_n (pc' := 77) dX12_entry_76 rfl rfl rfl ?_
                    refine Go_getRs (pc' := 80) dX12_entry_77 rfl kf_RX12_126 (by decide) (by decide) rfl (I.S.b 99 rfl rfl) (I.S.o 99 rfl rfl rfl) (I.S.r 99 53 rfl rfl rfl) ?_
                    refine Go_iload (pc' := 82) dX12_entry_80 rfl rfl ?_
                    refine Go_bipush (v := iZ 24) (pc' := 84) dX12_entry_82 rfl (by decide) ?_
                    refine Go_iload_n (pc' := 85) dX12_entry_84 rfl rfl rfl ?_
                    refine Go_imulZ (pc' := 86) dX12_entry_85 rfl ?_
                    refine Go_iload_n (pc' := 87) dX12_entry_86 rfl rfl rfl ?_
                    refine Go_iaddZ (pc' := 88) dX12_entry_87 rfl ?_
                    refine Go_iastoreZ (n := 200) (k := (100 + m)) (pc' := 89) dX12_entry_88 rfl (I.S.b 135 rfl rfl) (I.S.k 135 rfl rfl rfl) (by omega) (by omega) (by decide) ?_
                    refine Go_aload_n (pc' := 90) dX12_entry_89 rfl rfl rfl ?_
                    refine Go_getRs (pc' := 93) dX12_entry_90 rfl kf_RX12_129 (by decide) (by decide) rfl (I.S.b 99 rfl rfl) (I.S.o 99 rfl rfl rfl) (I.S.r 99 54 rfl rfl rfl) ?_
                    refine Go_iload (pc' := 95) dX12_entry_93 rfl rfl ?_
                    refine Go_iload (pc' := 97) dX12_entry_95 rfl rfl ?_
                    refine Go_iastoreZ (n := 200) (k := (100 + m)) (pc' := 98) dX12_entry_97 rfl (I.S.b 136 rfl rfl) (I.S.k 136 rfl rfl rfl) (by omega) (by omega) (by decide) ?_
                    refine Go_aload_n (pc' := 99) dX12_entry_98 rfl rfl rfl ?_
                    refine Go_getRs (pc' := 102) dX12_entry_99 rfl kf_RX12_132 (by decide) (by decide) rfl (I.S.b 99 rfl rfl) (I.S.o 99 rfl rfl rfl) (I.S.r 99 55 rfl rfl rfl) ?_
                    refine Go_iload (pc' := 104) dX12_entry_102 rfl rfl ?_
                    refine Go_iload (pc' := 106) dX12_entry_104 rfl rfl ?_
                    refine Go_iastoreZ (n := 200) (k := (100 + m)) (pc' := 107) dX12_entry_106 rfl (I.S.b 137 rfl rfl) (I.S.k 137 rfl rfl rfl) (by omega) (by omega) (by decide) ?_
                    refine Go_aload_n (pc' := 108) dX12_entry_107 rfl rfl rfl ?_
                    refine Go_getRs (pc' := 111) dX12_entry_108 rfl kf_RX12_123 (by decide) (by decide) rfl (I.S.b 99 rfl rfl) (I.S.o 99 rfl rfl rfl) (I.S.r 99 52 rfl rfl rfl) ?_
                    refine Go_iload_n (pc' := 112) dX12_entry_111 rfl rfl rfl ?_
                    refine Go_dup2 (pc' := 113) dX12_entry_112 rfl rfl rfl ?_
                    refine Go_ialoadZ (n := 2) (k := 1) (v := (iZ (m : Int))) (pc' := 114) dX12_entry_113 rfl (I.S.b 134 rfl rfl) (I.S.k 134 rfl rfl rfl) rfl (by decide) (by decide) ((vi_skip (Or.inl (by decide))).trans ((vi_skip (Or.inl (by decide))).trans ((vi_skip (Or.inl (by decide))).trans ((vi_skip (Or.inl (by decide))).trans ((vi_skip (Or.inl (by decide))).trans ((vi_skip (Or.inl (by decide))).trans ((vi_skip (Or.inl (by decide))).trans ((vi_skip (Or.inl (by decide))).trans (em2))))))))) ?_
                    refine Go_iconst (v := iZ 1) (pc' := 115) dX12_entry_114 rfl (by decide) ?_
                    refine Go_iaddZ (pc' := 116) dX12_entry_115 rfl ?_
                    refine Go_iastoreZ (n := 2) (k := 1) (pc' := 117) dX12_entry_116 rfl (I.S.b 134 rfl rfl) (I.S.k 134 rfl rfl rfl) rfl (by decide) (by decide) ?_
                    refine Go_aload_n (pc' := 118) dX12_entry_117 rfl rfl rfl ?_
                    refine Go_getRs (pc' := 121) dX12_entry_118 rfl kf_RX12_123 (by decide) (by decide) rfl (I.S.b 99 rfl rfl) (I.S.o 99 rfl rfl rfl) (I.S.r 99 52 rfl rfl rfl) ?_
                    refine Go_iload_n (pc' := 122) dX12_entry_121 rfl rfl rfl ?_
                    refine Go_ialoadZ (n := 2) (k := 1) (v := (iZ ((m : Int) + 1))) (pc' := 123) dX12_entry_122 rfl (I.S.b 134 rfl rfl) (I.S.k 134 rfl rfl rfl) rfl (by decide) (by decide) (vi_same) ?_
                    refine Go_iconst (v := iZ 1) (pc' := 124) dX12_entry_123 rfl (by decide) ?_
                    refine Go_isubZ (pc' := 125) dX12_entry_124 rfl ?_
                    refine Go_ireturn (ty := .int) dX12_entry_125 rfl rfl ?_
                    exact k _ ⟨I.S, I.D.fr ((((((((((SameOn.rf _ _).wI rfl).wI rfl).wI rfl).wI rfl).wI rfl).wI rfl).wI rfl).wI rfl).wI rfl), I.W.fr ((((((((((SameOn.rf _ _).wI rfl).wI rfl).wI rfl).wI rfl).wI rfl).wI rfl).wI rfl).wI rfl).wI rfl), I.P.fr ((((((((((SameOn.rf _ _).wI rfl).wI rfl).wI rfl).wI rfl).wI rfl).wI rfl).wI rfl).wI rfl).wI rfl), (RE_of (I.E.c0.fr (by simp [vi_wI]) (by simp [vi_wI]) (fun j i h1 h2 => ((vi_skip (by omega)).trans ((vi_skip (by omega)).trans ((vi_skip (by omega)).trans ((vi_skip (by omega)).trans ((vi_skip (by omega)).trans ((vi_skip (by omega)).trans ((vi_skip (by omega)).trans ((vi_skip (by omega)).trans ((vi_skip (by omega)).trans (rfl))))))))))) (fun j i h1 h2 h3 => ((vi_skip (by omega)).trans ((vi_skip (by omega)).trans ((vi_skip (by omega)).trans ((vi_skip (by omega)).trans ((vi_skip (by omega)).trans ((vi_skip (by omega)).trans ((vi_skip (by omega)).trans ((vi_skip (by omega)).trans ((vi_skip (by omega)).trans (rfl)))))))))))) (I.E.c1.app em (by omega) (H := 24 * Bz + Cz) (D := Ez) (Z := Fz) (by omega) (by omega) (by omega) ((vi_skip (Or.inl (by decide))).trans ((vi_skip (Or.inl (by decide))).trans ((vi_skip (Or.inl (by decide))).trans ((vi_skip (Or.inl (by decide))).trans (vi_same))))) (vi_same) (by intro i; simp [vi_wI]) (by intro i; simp [vi_wI]) (by intro i; simp [vi_wI]) (by intro i; simp [vi_wI]) (by intro i hi; simp [vi_wI]) (by intro i hi; simp [vi_wI]) (by intro i hi; simp [vi_wI]))), I.F.fr ((((((((((SameOn.rf _ _).wI rfl).wI rfl).wI rfl).wI rfl).wI rfl).wI rfl).wI rfl).wI rfl).wI rfl), I.T.fr ((((((((((SameOn.rf _ _).wI rfl).wI rfl).wI rfl).wI rfl).wI rfl).wI rfl).wI rfl).wI rfl).wI rfl), I.G.fr ((((((((((SameOn.rf _ _).wI rfl).wI rfl).wI rfl).wI rfl).wI rfl).wI rfl).wI rfl).wI rfl).wI rfl), stat_C (stat_C (stat_C (stat_C (stat_C (stat_C (stat_C (stat_C (stat_C (I.C) (by decide) rfl) (by decide) rfl) (by decide) rfl) (by decide) rfl) (by decide) rfl) (by decide) rfl) (by decide) rfl) (by decide) rfl) (by decide) rfl, stat_Q (stat_Q (stat_Q (stat_Q (stat_Q (stat_Q (stat_Q (stat_Q (stat_Q (I.Q) (by decide) rfl) (by decide) rfl) (by decide) rfl) (by decide) rfl) (by decide) rfl) (by decide) rfl) (by decide) rfl) (by decide) rfl) (by decide) rfl⟩
                  · refine Go_iconst (v := iZ (-1)) (pc' := 62) dX12_entry_61 rfl (by decide) ?_
                    refine Go_ireturn (ty := .int) dX12_entry_62 rfl rfl ?_
                    exfalso; omega
        · show Go G 60 0 0 M_X12_entry 0 [.ref 99, .int (iZ 1), .int (iZ Bz), .int (iZ Cz), .int (iZ Ez), .int (iZ Fz), un] [] h K
          refine Go_iload_n (pc' := 1) dX12_entry_0 rfl rfl rfl ?_
          refine Go_iconst (v := iZ 0) (pc' := 2) dX12_entry_1 rfl (by decide) ?_
          refine Go_iconst (v := iZ 1) (pc' := 3) dX12_entry_2 rfl (by decide) ?_
          refine Go_callS_i (pc' := 6) (As := [.int _, .int _, .int _]) (st := []) dX12_entry_3 rfl ok_X12_isIn km_RX12_147 rfl (Nat.le_of_ble_eq_true rfl) rfl rfl rfl (Nat.le_of_ble_eq_true rfl) (Nat.lt_succ_self _) ?_
          refine s_isInY (by first | exact ⟨i_lo _, i_hi _⟩ | omega) (by first | exact ⟨i_lo _, i_hi _⟩ | omega) (by first | exact ⟨i_lo _, i_hi _⟩ | omega) ?_
          refine ⟨_, rfl, ?_⟩
          refine Go_if_eqb (tgt := 61) (pc' := 9) dX12_entry_6 (by decide) rfl (fun c6 => by exfalso; omega) (fun c6 => ?_)
          refine Go_iload_n (pc' := 10) dX12_entry_9 rfl rfl rfl ?_
          refine Go_iconst (v := iZ 0) (pc' := 11) dX12_entry_10 rfl (by decide) ?_
          refine Go_sipush (v := iZ 9999) (pc' := 14) dX12_entry_11 rfl (by decide) ?_
          refine Go_callS_i (pc' := 17) (As := [.int _, .int _, .int _]) (st := []) dX12_entry_14 rfl ok_X12_isIn km_RX12_147 rfl (Nat.le_of_ble_eq_true rfl) rfl rfl rfl (Nat.le_of_ble_eq_true rfl) (Nat.lt_succ_self _) ?_
          refine s_isInY (by first | exact ⟨i_lo _, i_hi _⟩ | omega) (by first | exact ⟨i_lo _, i_hi _⟩ | omega) (by first | exact ⟨i_lo _, i_hi _⟩ | omega) ?_
          refine ⟨_, rfl, ?_⟩
          refine Go_if_eqb (tgt := 61) (pc' := 20) dX12_entry_17 (by decide) rfl (fun c17 => ?_) (fun c17 => ?_)
          · refine Go_iconst (v := iZ (-1)) (pc' := 62) dX12_entry_61 rfl (by decide) ?_
            refine Go_ireturn (ty := .int) dX12_entry_62 rfl rfl ?_
            exact k _ I
          · refine Go_iload_n (pc' := 21) dX12_entry_20 rfl rfl rfl ?_
            refine Go_iconst (v := iZ 0) (pc' := 22) dX12_entry_21 rfl (by decide) ?_
            refine Go_bipush (v := iZ 23) (pc' := 24) dX12_entry_22 rfl (by decide) ?_
            refine Go_callS_i (pc' := 27) (As := [.int _, .int _, .int _]) (st := []) dX12_entry_24 rfl ok_X12_isIn km_RX12_147 rfl (Nat.le_of_ble_eq_true rfl) rfl rfl rfl (Nat.le_of_ble_eq_true rfl) (Nat.lt_succ_self _) ?_
            refine s_isInY (by first | exact ⟨i_lo _, i_hi _⟩ | omega) (by first | exact ⟨i_lo _, i_hi _⟩ | omega) (by first | exact ⟨i_lo _, i_hi _⟩ | omega) ?_
            refine ⟨_, rfl, ?_⟩
            refine Go_if_eqb (tgt := 61) (pc' := 30) dX12_entry_27 (by decide) rfl (fun c27 => ?_) (fun c27 => ?_)
            · refine Go_iconst (v := iZ (-1)) (pc' := 62) dX12_entry_61 rfl (by decide) ?_
              refine Go_ireturn (ty := .int) dX12_entry_62 rfl rfl ?_
              exact k _ I
            · refine Go_iload (pc' := 32) dX12_entry_30 rfl rfl ?_
              refine Go_callS_i (pc' := 35) (As := [.int _]) (st := []) dX12_entry_32 rfl ok_X12_isPlace km_RX12_394 rfl (Nat.le_of_ble_eq_true rfl) rfl rfl rfl (Nat.le_of_ble_eq_true rfl) (Nat.lt_succ_self _) ?_
              refine s_isPlace (by first | exact ⟨i_lo _, i_hi _⟩ | omega) ?_
              refine ⟨_, rfl, ?_⟩
              refine Go_if_eqb (tgt := 61) (pc' := 38) dX12_entry_35 (by decide) rfl (fun c35 => ?_) (fun c35 => ?_)
              · refine Go_iconst (v := iZ (-1)) (pc' := 62) dX12_entry_61 rfl (by decide) ?_
                refine Go_ireturn (ty := .int) dX12_entry_62 rfl rfl ?_
                exact k _ I
              · refine Go_iload (pc' := 40) dX12_entry_38 rfl rfl ?_
                refine Go_iconst (v := iZ 0) (pc' := 41) dX12_entry_40 rfl (by decide) ?_
                refine Go_sipush (v := iZ 999) (pc' := 44) dX12_entry_41 rfl (by decide) ?_
                refine Go_callS_i (pc' := 47) (As := [.int _, .int _, .int _]) (st := []) dX12_entry_44 rfl ok_X12_isIn km_RX12_147 rfl (Nat.le_of_ble_eq_true rfl) rfl rfl rfl (Nat.le_of_ble_eq_true rfl) (Nat.lt_succ_self _) ?_
                refine s_isInY (by first | exact ⟨i_lo _, i_hi _⟩ | omega) (by first | exact ⟨i_lo _, i_hi _⟩ | omega) (by first | exact ⟨i_lo _, i_hi _⟩ | omega) ?_
                refine ⟨_, rfl, ?_⟩
                refine Go_if_eqb (tgt := 61) (pc' := 50) dX12_entry_47 (by decide) rfl (fun c47 => ?_) (fun c47 => ?_)
                · refine Go_iconst (v := iZ (-1)) (pc' := 62) dX12_entry_61 rfl (by decide) ?_
                  refine Go_ireturn (ty := .int) dX12_entry_62 rfl rfl ?_
                  exact k _ I
                · refine Go_aload_n (pc' := 51) dX12_entry_50 rfl rfl rfl ?_
                  refine Go_getRs (pc' := 54) dX12_entry_51 rfl kf_RX12_123 (by decide) (by decide) rfl (I.S.b 99 rfl rfl) (I.S.o 99 rfl rfl rfl) (I.S.r 99 52 rfl rfl rfl) ?_
                  refine Go_iload_n (pc' := 55) dX12_entry_54 rfl rfl rfl ?_
                  refine Go_ialoadZ (n := 2) (k := 1) (v := (iZ (m : Int))) (pc' := 56) dX12_entry_55 rfl (I.S.b 134 rfl rfl) (I.S.k 134 rfl rfl rfl) rfl (by decide) (by decide) (em2) ?_
                  refine Go_bipush (v := iZ 100) (pc' := 58) dX12_entry_56 rfl (by decide) ?_
                  refine Go_icmp_neY (tgt := 63) (pc' := 61) dX12_entry_58 (by decide) rfl (by first | exact ⟨i_lo _, i_hi _⟩ | omega) (by first | exact ⟨i_lo _, i_hi _⟩ | omega) (fun c58 => ?_) (fun c58 => ?_)
                  · refine Go_bipush (v := iZ 100) (pc' := 65) dX12_entry_63 rfl (by decide) ?_
                    refine Go_iload_n (pc' := 66) dX12_entry_65 rfl rfl rfl ?_
                    refine Go_imul (pc' := 67) dX12_entry_66 rfl ?_
                    rw [show (iZ 100 * iZ 1 : Int32) = iZ 100 from by decide]
                    refine Go_aload_n (pc' := 68) dX12_entry_67 rfl rfl rfl ?_
                    refine Go_getRs (pc' := 71) dX12_entry_68 rfl kf_RX12_123 (by decide) (by decide) rfl (I.S.b 99 rfl rfl) (I.S.o 99 rfl rfl rfl) (I.S.r 99 52 rfl rfl rfl) ?_
                    refine Go_iload_n (pc' := 72) dX12_entry_71 rfl rfl rfl ?_
                    refine Go_ialoadZ (n := 2) (k := 1) (v := (iZ (m : Int))) (pc' := 73) dX12_entry_72 rfl (I.S.b 134 rfl rfl) (I.S.k 134 rfl rfl rfl) rfl (by decide) (by decide) (em2) ?_
                    refine Go_iaddZ (pc' := 74) dX12_entry_73 rfl ?_
                    refine Go_istore (pc' := 76) (lv' := [.ref _, .int _, .int _, .int _, .int _, .int _, .int _]) dX12_entry_74 rfl (Nat.le_of_ble_eq_true rfl) rfl rfl ?_
                    refine Go_aload_n (pc' := 77) dX12_entry_76 rfl rfl rfl ?_
                    refine Go_getRs (pc' := 80) dX12_entry_77 rfl kf_RX12_126 (by decide) (by decide) rfl (I.S.b 99 rfl rfl) (I.S.o 99 rfl rfl rfl) (I.S.r 99 53 rfl rfl rfl) ?_
                    refine Go_iload (pc' := 82) dX12_entry_80 rfl rfl ?_
                    refine Go_bipush (v := iZ 24) (pc' := 84) dX12_entry_82 rfl (by decide) ?_
                    refine Go_iload_n (pc' := 85) dX12_entry_84 rfl rfl rfl ?_
                    refine Go_imulZ (pc' := 86) dX12_entry_85 rfl ?_
                    refine Go_iload_n (pc' := 87) dX12_entry_86 rfl rfl rfl ?_
                    refine Go_iaddZ (pc' := 88) dX12_entry_87 rfl ?_
                    refine Go_iastoreZ (n := 200) (k := (100 + m)) (pc' := 89) dX12_entry_88 rfl (I.S.b 135 rfl rfl) (I.S.k 135 rfl rfl rfl) (by omega) (by omega) (by decide) ?_
                    refine Go_aload_n (pc' := 90) dX12_entry_89 rfl rfl rfl ?_
                    refine Go_getRs (pc' := 93) dX12_entry_90 rfl kf_RX12_129 (by decide) (by decide) rfl (I.S.b 99 rfl rfl) (I.S.o 99 rfl rfl rfl) (I.S.r 99 54 rfl rfl rfl) ?_
                    refine Go_iload (pc' := 95) dX12_entry_93 rfl rfl ?_
                    refine Go_iload (pc' := 97) dX12_entry_95 rfl rfl ?_
                    refine Go_iastoreZ (n := 200) (k := (100 + m)) (pc' := 98) dX12_entry_97 rfl (I.S.b 136 rfl rfl) (I.S.k 136 rfl rfl rfl) (by omega) (by omega) (by decide) ?_
                    refine Go_aload_n (pc' := 99) dX12_entry_98 rfl rfl rfl ?_
                    refine Go_getRs (pc' := 102) dX12_entry_99 rfl kf_RX12_132 (by decide) (by decide) rfl (I.S.b 99 rfl rfl) (I.S.o 99 rfl rfl rfl) (I.S.r 99 55 rfl rfl rfl) ?_
                    refine Go_iload (pc' := 104) dX12_entry_102 rfl rfl ?_
                    refine Go_iload (pc' := 106) dX12_entry_104 rfl rfl ?_
                    refine Go_iastoreZ (n := 200) (k := (100 + m)) (pc' := 107) dX12_entry_106 rfl (I.S.b 137 rfl rfl) (I.S.k 137 rfl rfl rfl) (by omega) (by omega) (by decide) ?_
                    refine Go_aload_n (pc' := 108) dX12_entry_107 rfl rfl rfl ?_
                    refine Go_getRs (pc' := 111) dX12_entry_108 rfl kf_RX12_123 (by decide) (by decide) rfl (I.S.b 99 rfl rfl) (I.S.o 99 rfl rfl rfl) (I.S.r 99 52 rfl rfl rfl) ?_
                    refine Go_iload_n (pc' := 112) dX12_entry_111 rfl rfl rfl ?_
                    refine Go_dup2 (pc' := 113) dX12_entry_112 rfl rfl rfl ?_
                    refine Go_ialoadZ (n := 2) (k := 1) (v := (iZ (m : Int))) (pc' := 114) dX12_entry_113 rfl (I.S.b 134 rfl rfl) (I.S.k 134 rfl rfl rfl) rfl (by decide) (by decide) ((vi_skip (Or.inl (by decide))).trans ((vi_skip (Or.inl (by decide))).trans ((vi_skip (Or.inl (by decide))).trans (em2)))) ?_
                    refine Go_iconst (v := iZ 1) (pc' := 115) dX12_entry_114 rfl (by decide) ?_
                    refine Go_iaddZ (pc' := 116) dX12_entry_115 rfl ?_
                    refine Go_iastoreZ (n := 2) (k := 1) (pc' := 117) dX12_entry_116 rfl (I.S.b 134 rfl rfl) (I.S.k 134 rfl rfl rfl) rfl (by decide) (by decide) ?_
                    refine Go_aload_n (pc' := 118) dX12_entry_117 rfl rfl rfl ?_
                    refine Go_getRs (pc' := 121) dX12_entry_118 rfl kf_RX12_123 (by decide) (by decide) rfl (I.S.b 99 rfl rfl) (I.S.o 99 rfl rfl rfl) (I.S.r 99 52 rfl rfl rfl) ?_
                    refine Go_iload_n (pc' := 122) dX12_entry_121 rfl rfl rfl ?_
                    refine Go_ialoadZ (n := 2) (k := 1) (v := (iZ ((m : Int) + 1))) (pc' := 123) dX12_entry_122 rfl (I.S.b 134 rfl rfl) (I.S.k 134 rfl rfl rfl) rfl (by decide) (by decide) (vi_same) ?_
                    refine Go_iconst (v := iZ 1) (pc' := 124) dX12_entry_123 rfl (by decide) ?_
                    refine Go_isubZ (pc' := 125) dX12_entry_124 rfl ?_
                    refine Go_ireturn (ty := .int) dX12_entry_125 rfl rfl ?_
                    exfalso; omega
                  · refine Go_iconst (v := iZ (-1)) (pc' := 62) dX12_entry_61 rfl (by decide) ?_
                    refine Go_ireturn (ty := .int) dX12_entry_62 rfl rfl ?_
                    exact k _ I
  · refine PairI.ro' (fun _ => iZ (-1)) h I (fun K k => ?_) (fun K k => ?_)
    · show Go G 60 0 0 M_X11_entry 0 [.ref 64, .int (iZ Az), .int (iZ Bz), .int (iZ Cz), .int (iZ Ez), .int (iZ Fz)] [] h K
      refine Go_iload_n (pc' := 1) dX11_entry_0 rfl rfl rfl ?_
      refine Go_iconst (v := iZ 0) (pc' := 2) dX11_entry_1 rfl (by decide) ?_
      refine Go_iconst (v := iZ 1) (pc' := 3) dX11_entry_2 rfl (by decide) ?_
      refine Go_callS_i (pc' := 6) (As := [.int _, .int _, .int _]) (st := []) dX11_entry_3 rfl ok_X11_within km_RX11_94 rfl (Nat.le_of_ble_eq_true rfl) rfl rfl rfl (Nat.le_of_ble_eq_true rfl) (Nat.lt_succ_self _) ?_
      refine s_withinY (by first | exact ⟨i_lo _, i_hi _⟩ | omega) (by first | exact ⟨i_lo _, i_hi _⟩ | omega) (by first | exact ⟨i_lo _, i_hi _⟩ | omega) ?_
      refine ⟨_, rfl, ?_⟩
      refine Go_if_eqb (tgt := 30) (pc' := 9) dX11_entry_6 (by decide) rfl (fun c6 => ?_) (fun c6 => by exfalso; omega)
      refine Go_iconst (v := iZ (-1)) (pc' := 31) dX11_entry_30 rfl (by decide) ?_
      refine Go_ireturn (ty := .int) dX11_entry_31 rfl rfl ?_
      exact k
    · show Go G 60 0 0 M_X12_entry 0 [.ref 99, .int (iZ Az), .int (iZ Bz), .int (iZ Cz), .int (iZ Ez), .int (iZ Fz), un] [] h K
      refine Go_iload_n (pc' := 1) dX12_entry_0 rfl rfl rfl ?_
      refine Go_iconst (v := iZ 0) (pc' := 2) dX12_entry_1 rfl (by decide) ?_
      refine Go_iconst (v := iZ 1) (pc' := 3) dX12_entry_2 rfl (by decide) ?_
      refine Go_callS_i (pc' := 6) (As := [.int _, .int _, .int _]) (st := []) dX12_entry_3 rfl ok_X12_isIn km_RX12_147 rfl (Nat.le_of_ble_eq_true rfl) rfl rfl rfl (Nat.le_of_ble_eq_true rfl) (Nat.lt_succ_self _) ?_
      refine s_isInY (by first | exact ⟨i_lo _, i_hi _⟩ | omega) (by first | exact ⟨i_lo _, i_hi _⟩ | omega) (by first | exact ⟨i_lo _, i_hi _⟩ | omega) ?_
      refine ⟨_, rfl, ?_⟩
      refine Go_if_eqb (tgt := 61) (pc' := 9) dX12_entry_6 (by decide) rfl (fun c6 => ?_) (fun c6 => by exfalso; omega)
      refine Go_iconst (v := iZ (-1)) (pc' := 62) dX12_entry_61 rfl (by decide) ?_
      refine Go_ireturn (ty := .int) dX12_entry_62 rfl rfl ?_
      exact k
