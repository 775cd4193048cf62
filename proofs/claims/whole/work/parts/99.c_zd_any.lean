/-! the model reads conditions -/
def zOne (G : GC) (T : Nat → Int) (n : Nat) (s0 : St6) (g0 : List Stp2) (O0 : List Int32) (vd : Int) (L : Nat) (k : Nat) : Prop := ∀ (mc ms D : Nat) (K : Option Value → HS → Prop) (H : HS) (pos : Nat) (W : List Int) (ts : List Bool) (cm : Int), 3 * k + 10 ≤ D → zEn T n s0 g0 O0 vd L W ts (zop W) 2 cm H pos → (W.length : Int) ≤ 3 * zop W + 2 → 8 ≤ zop W + (k : Int) → zop W ≤ 8 → ztp 4 W → ts.length ≤ W.length → (∀ H', DX zPb H H' → zBd T n s0 H' → K (some (.int (iZ 0))) H') → (∀ H' pos' st' cm', DX zPe H H' → pos ≤ pos' → zXt T n s0 g0 O0 vd L 3 W (true :: ts) (zop W) st' cm' H' pos' → zWh T n pos' st' cm' → K (some (.int (iZ 1))) H') → Go G D mc ms M_X12_one 0 [.ref 99, un] [] H K
set_option maxRecDepth 20000 in
set_option maxHeartbeats 4000000 in
theorem ev_loop {G : GC} {d mc ms : Nat} {K : Option Value → HS → Prop} {T : Nat → Int} {n : Nat} {s0 : St6} {g0 : List Stp2} {O0 : List Int32} {vd : Int} {L : Nat} {k : Nat} {W : List Int} {ts : List Bool} (IH : zOne G T n s0 g0 O0 vd L k) (hD : 3 * k + 11 ≤ d + 11) (hW : (W.length : Int) ≤ 3 * zop W + 1) (h8 : 8 ≤ zop W + (k : Int)) (h8' : zop W ≤ 8) (ht : ztp 2 W) (h2y : ts.length ≤ W.length) (hg : g0.length ≤ O0.length) : ∀ (m : Nat) (H : HS) (pos : Nat) (st cm : Int), n < pos + m → zXt T n s0 g0 O0 vd L 2 W (true :: ts) (zop W) st cm H pos → zWh T n pos st cm → (∀ H', DX zPb H H' → zBd T n s0 H' → K (some (.int (iZ 0))) H') → (∀ H' pos' st' cm', DX zPe H H' → pos ≤ pos' → zXt T n s0 g0 O0 vd L 2 W (true :: ts) (zop W) st' cm' H' pos' → zWh T n pos' st' cm' → ¬ tC T n pos' = 5 → K (some (.int (iZ 1))) H') → Go G (d + 11) mc ms M_X12_every 9 [.ref 99] [] H K := by
  intro m
  induction m with
  | zero =>
    intro H pos st cm hm X w kb kg
    obtain ⟨f, W1, o1, M, C, hr, hb, hy⟩ := X
    have := M.hp
    exfalso; omega
  | succ m ih =>
    intro H pos st cm hm X w kb kg
    obtain ⟨f, W1, o1, M, C, hr, hb, hy⟩ := X
    have hp := M.hp
    have hn := M.hn
    have mx := mtk_x (tC_s (T := T) (n := n) (pos := pos))
    by_cases h1 : tC T n pos = 5
    · have tl := tE_lt (T := T) hp (by omega)
      have C1 := C.st hp hn (by omega) (z_log w (Or.inr ⟨h1, rfl⟩) hr ht (by omega))
      rw [h1] at C1
      refine Go_aload_n (pc' := 10) dX12_every_9 rfl rfl rfl ?_
      refine Go_getIv (v := (iZ (mtk (tC T n pos)))) (pc' := 13) dX12_every_10 rfl kf_RX12_255 (by decide) (by decide) rfl (M.S.b 99 rfl rfl) (M.S.o 99 rfl rfl rfl) (M.e30) ?_
      refine Go_iconst (v := iZ 5) (pc' := 14) dX12_every_13 rfl (by decide) ?_
      refine Go_icmp_neY (tgt := 40) (pc' := 17) dX12_every_14 (by decide) rfl (by first | exact ⟨i_lo _, i_hi _⟩ | omega) (by first | exact ⟨i_lo _, i_hi _⟩ | omega) (fun c14 => ?_) (fun c14 => ?_)
      · exfalso; omega
      · refine Go_aload_n (pc' := 18) dX12_every_17 rfl rfl rfl ?_
        refine Go_callV_v (pc' := 21) (As := []) (st := []) dX12_every_18 rfl ok_X12_next0 km_RX12_279 (M.S.o 99 rfl rfl rfl) (M.S.b 99 rfl rfl) ⟨_, _, rfl⟩ rfl (Nat.le_of_ble_eq_true rfl) rfl rfl rfl (Nat.le_of_ble_eq_true rfl) (Nat.lt_succ_self _) ?_
        refine s_nx M (fun H1 D1 M1 => ?_)
        refine ⟨rfl, ?_⟩
        have zo : zop (5 :: W) = zop W := zop_n (by decide)
        have X1 : zEn T n s0 g0 O0 vd L (5 :: W) (true :: ts) (zop (5 :: W)) 2 cm H1 (tE T n pos) := ⟨f, by rw [zo]; exact M1, C1, by rw [List.length_cons]; omega, hy⟩
        refine Go_aload_n (pc' := 22) dX12_every_21 rfl rfl rfl ?_
        refine Go_callV_i (pc' := 25) (As := []) (st := []) dX12_every_22 rfl ok_X12_one km_RX12_302 (M1.S.o 99 rfl rfl rfl) (M1.S.b 99 rfl rfl) ⟨_, _, rfl⟩ rfl (Nat.le_of_ble_eq_true rfl) rfl rfl rfl (Nat.le_of_ble_eq_true rfl) (Nat.lt_succ_self _) ?_
        refine IH _ _ _ _ _ _ _ _ _ (by omega) X1 (by rw [List.length_cons, zo]; omega) (by rw [zo]; exact h8) (by rw [zo]; exact h8') (show zrk 5 < 4 by decide) (by rw [List.length_cons, List.length_cons]; omega) (fun H2 D2 B2 => ?_) (fun H2 p2 s2 c2 D2 l2 X2 w2 => ?_)
        · refine ⟨_, rfl, ?_⟩
          refine Go_if_neY (tgt := 30) (pc' := 28) dX12_every_25 (by decide) rfl (by first | exact ⟨i_lo _, i_hi _⟩ | omega) (fun c25 => by exfalso; omega) (fun c25 => ?_)
          refine Go_iconst (v := iZ 0) (pc' := 29) dX12_every_28 rfl (by decide) ?_
          refine Go_ireturn (ty := .boolean) dX12_every_29 rfl rfl ?_
          exact kb H2 ((zPeb (zPm D1)).tr D2) B2
        · refine ⟨_, rfl, ?_⟩
          obtain ⟨f2, W2, o2, M2, C2, r2, b2, y2⟩ := X2
          have hp2 := M2.hp
          have b2' := b2
          rw [List.length_cons] at b2'
          rw [zo] at M2
          refine Go_if_neY (tgt := 30) (pc' := 28) dX12_every_25 (by decide) rfl (by first | exact ⟨i_lo _, i_hi _⟩ | omega) (fun c25 => ?_) (fun c25 => by exfalso; omega)
          refine Go_aload_n (pc' := 31) dX12_every_30 rfl rfl rfl ?_
          refine Go_bipush (v := iZ 16) (pc' := 33) dX12_every_31 rfl (by decide) ?_
          refine Go_iconst (v := iZ 0) (pc' := 34) dX12_every_33 rfl (by decide) ?_
          refine Go_callV_v (pc' := 37) (As := [.int _, .int _]) (st := []) dX12_every_34 rfl ok_X12_lay km_RX12_292 (M2.S.o 99 rfl rfl rfl) (M2.S.b 99 rfl rfl) ⟨_, _, rfl⟩ rfl (Nat.le_of_ble_eq_true rfl) rfl rfl rfl (Nat.le_of_ble_eq_true rfl) (Nat.lt_succ_self _) ?_
          refine s_lay (k := 16) M2.S M2.fe (zsteps hg (by omega)) (by decide) (fun H3 D3 E3 => ?_)
          refine ⟨rfl, ?_⟩
          refine Go_goto (tgt := 9) dX12_every_37 (by decide) ?_
          exact ih H3 p2 s2 c2 (by omega) (zXt.lay (r' := 3) M2 C2 r2 b2 y2 D3 E3 (by decide) (by decide) (by decide) (tyS_o (by omega))) w2 (fun H9 D9 B9 => kb H9 ((zPeb ((zPm D1).tr (D2.tr (zPfe D3)))).tr D9) B9) (fun H9 p9 s9 c9 D9 l9 X9 w9 a0 => kg H9 p9 s9 c9 (((zPm D1).tr (D2.tr (zPfe D3))).tr D9) (by omega) X9 w9 a0)
    · refine Go_aload_n (pc' := 10) dX12_every_9 rfl rfl rfl ?_
      refine Go_getIv (v := (iZ (mtk (tC T n pos)))) (pc' := 13) dX12_every_10 rfl kf_RX12_255 (by decide) (by decide) rfl (M.S.b 99 rfl rfl) (M.S.o 99 rfl rfl rfl) (M.e30) ?_
      refine Go_iconst (v := iZ 5) (pc' := 14) dX12_every_13 rfl (by decide) ?_
      refine Go_icmp_neY (tgt := 40) (pc' := 17) dX12_every_14 (by decide) rfl (by first | exact ⟨i_lo _, i_hi _⟩ | omega) (by first | exact ⟨i_lo _, i_hi _⟩ | omega) (fun c14 => ?_) (fun c14 => ?_)
      · refine Go_iconst (v := iZ 1) (pc' := 41) dX12_every_40 rfl (by decide) ?_
        refine Go_ireturn (ty := .boolean) dX12_every_41 rfl rfl ?_
        exact kg H pos st cm (DX.rf _ _) (Nat.le_refl _) ⟨f, W1, o1, M, C, hr, hb, hy⟩ w h1
      · exfalso; omega
set_option maxRecDepth 20000 in
set_option maxHeartbeats 1000000 in
theorem m_every {G : GC} {d mc ms : Nat} {H : HS} {K : Option Value → HS → Prop} {T : Nat → Int} {n : Nat} {s0 : St6} {g0 : List Stp2} {O0 : List Int32} {vd : Int} {L : Nat} {cm : Int} {pos : Nat} {k : Nat} {W : List Int} {ts : List Bool} (IH : zOne G T n s0 g0 O0 vd L k) (hD : 3 * k + 11 ≤ d + 11) (X : zEn T n s0 g0 O0 vd L W ts (zop W) 2 cm H pos) (hW : (W.length : Int) ≤ 3 * zop W + 1) (h8 : 8 ≤ zop W + (k : Int)) (h8' : zop W ≤ 8) (ht : ztp 2 W) (h2y : ts.length ≤ W.length) (hg : g0.length ≤ O0.length) (kb : (∀ H', DX zPb H H' → zBd T n s0 H' → K (some (.int (iZ 0))) H')) (kg : (∀ H' pos' st' cm', DX zPe H H' → pos ≤ pos' → zXt T n s0 g0 O0 vd L 2 W (true :: ts) (zop W) st' cm' H' pos' → zWh T n pos' st' cm' → ¬ tC T n pos' = 5 → K (some (.int (iZ 1))) H')) : Go G (d + 11) mc ms M_X12_every 0 [.ref 99] [] H K := by
  have S : Shp H := by obtain ⟨f, M, _⟩ := X; exact M.S
  refine Go_aload_n (pc' := 1) dX12_every_0 rfl rfl rfl ?_
  refine Go_callV_i (pc' := 4) (As := []) (st := []) dX12_every_1 rfl ok_X12_one km_RX12_302 (S.o 99 rfl rfl rfl) (S.b 99 rfl rfl) ⟨_, _, rfl⟩ rfl (Nat.le_of_ble_eq_true rfl) rfl rfl rfl (Nat.le_of_ble_eq_true rfl) (Nat.lt_succ_self _) ?_
  refine IH _ _ _ _ _ _ _ _ _ (by omega) X (by omega) h8 h8' (ztp_m ht (by decide)) h2y (fun H1 D1 B1 => ?_) (fun H1 p1 s1 c1 D1 l1 X1 w1 => ?_)
  · refine ⟨_, rfl, ?_⟩
    refine Go_if_neY (tgt := 9) (pc' := 7) dX12_every_4 (by decide) rfl (by first | exact ⟨i_lo _, i_hi _⟩ | omega) (fun c4 => by exfalso; omega) (fun c4 => ?_)
    refine Go_iconst (v := iZ 0) (pc' := 8) dX12_every_7 rfl (by decide) ?_
    refine Go_ireturn (ty := .boolean) dX12_every_8 rfl rfl ?_
    exact kb H1 D1 B1
  · refine ⟨_, rfl, ?_⟩
    refine Go_if_neY (tgt := 9) (pc' := 7) dX12_every_4 (by decide) rfl (by first | exact ⟨i_lo _, i_hi _⟩ | omega) (fun c4 => ?_) (fun c4 => by exfalso; omega)
    exact ev_loop IH hD hW h8 h8' ht h2y hg (n + 1) H1 p1 s1 c1 (by omega) (X1.w (by decide)) w1 (fun H9 D9 B9 => kb H9 ((zPeb D1).tr D9) B9) (fun H9 p9 s9 c9 D9 l9 X9 w9 a0 => kg H9 p9 s9 c9 (D1.tr D9) (by omega) X9 w9 a0)
set_option maxRecDepth 20000 in
set_option maxHeartbeats 4000000 in
theorem an_loop {G : GC} {d mc ms : Nat} {K : Option Value → HS → Prop} {T : Nat → Int} {n : Nat} {s0 : St6} {g0 : List Stp2} {O0 : List Int32} {vd : Int} {L : Nat} {k : Nat} {W : List Int} {ts : List Bool} (IH : zOne G T n s0 g0 O0 vd L k) (hD : 3 * k + 12 ≤ d + 12) (hW : (W.length : Int) ≤ 3 * zop W + 0) (h8 : 8 ≤ zop W + (k : Int)) (h8' : zop W ≤ 8) (ht : ztp 1 W) (h2y : ts.length ≤ W.length) (hg : g0.length ≤ O0.length) : ∀ (m : Nat) (H : HS) (pos : Nat) (st cm : Int), n < pos + m → zXt T n s0 g0 O0 vd L 1 W (true :: ts) (zop W) st cm H pos → zWh T n pos st cm → ¬ tC T n pos = 5 → (∀ H', DX zPb H H' → zBd T n s0 H' → K (some (.int (iZ 0))) H') → (∀ H' pos' st' cm', DX zPe H H' → pos ≤ pos' → zXt T n s0 g0 O0 vd L 1 W (true :: ts) (zop W) st' cm' H' pos' → zWh T n pos' st' cm' → ¬ tC T n pos' = 5 → ¬ tC T n pos' = 4 → K (some (.int (iZ 1))) H') → Go G (d + 12) mc ms M_X12_any 9 [.ref 99] [] H K := by
  intro m
  induction m with
  | zero =>
    intro H pos st cm hm X w q0 kb kg
    obtain ⟨f, W1, o1, M, C, hr, hb, hy⟩ := X
    have := M.hp
    exfalso; omega
  | succ m ih =>
    intro H pos st cm hm X w q0 kb kg
    obtain ⟨f, W1, o1, M, C, hr, hb, hy⟩ := X
    have hp := M.hp
    have hn := M.hn
    have mx := mtk_x (tC_s (T := T) (n := n) (pos := pos))
    by_cases h1 : tC T n pos = 4
    · have tl := tE_lt (T := T) hp (by omega)
      have C1 := C.st hp hn (by omega) (z_log w (Or.inl ⟨h1, rfl⟩) hr ht (by omega))
      rw [h1] at C1
      refine Go_aload_n (pc' := 10) dX12_any_9 rfl rfl rfl ?_
      refine Go_getIv (v := (iZ (mtk (tC T n pos)))) (pc' := 13) dX12_any_10 rfl kf_RX12_255 (by decide) (by decide) rfl (M.S.b 99 rfl rfl) (M.S.o 99 rfl rfl rfl) (M.e30) ?_
      refine Go_iconst (v := iZ 4) (pc' := 14) dX12_any_13 rfl (by decide) ?_
      refine Go_icmp_neY (tgt := 40) (pc' := 17) dX12_any_14 (by decide) rfl (by first | exact ⟨i_lo _, i_hi _⟩ | omega) (by first | exact ⟨i_lo _, i_hi _⟩ | omega) (fun c14 => ?_) (fun c14 => ?_)
      · exfalso; omega
      · refine Go_aload_n (pc' := 18) dX12_any_17 rfl rfl rfl ?_
        refine Go_callV_v (pc' := 21) (As := []) (st := []) dX12_any_18 rfl ok_X12_next0 km_RX12_279 (M.S.o 99 rfl rfl rfl) (M.S.b 99 rfl rfl) ⟨_, _, rfl⟩ rfl (Nat.le_of_ble_eq_true rfl) rfl rfl rfl (Nat.le_of_ble_eq_true rfl) (Nat.lt_succ_self _) ?_
        refine s_nx M (fun H1 D1 M1 => ?_)
        refine ⟨rfl, ?_⟩
        have zo : zop (4 :: W) = zop W := zop_n (by decide)
        have X1 : zEn T n s0 g0 O0 vd L (4 :: W) (true :: ts) (zop (4 :: W)) 2 cm H1 (tE T n pos) := ⟨f, by rw [zo]; exact M1, C1, by rw [List.length_cons]; omega, hy⟩
        refine Go_aload_n (pc' := 22) dX12_any_21 rfl rfl rfl ?_
        refine Go_callV_i (pc' := 25) (As := []) (st := []) dX12_any_22 rfl ok_X12_every km_RX12_299 (M1.S.o 99 rfl rfl rfl) (M1.S.b 99 rfl rfl) ⟨_, _, rfl⟩ rfl (Nat.le_of_ble_eq_true rfl) rfl rfl rfl (Nat.le_of_ble_eq_true rfl) (Nat.lt_succ_self _) ?_
        refine m_every IH (by omega) X1 (by rw [List.length_cons, zo]; omega) (by rw [zo]; exact h8) (by rw [zo]; exact h8') (show zrk 4 < 2 by decide) (by rw [List.length_cons, List.length_cons]; omega) hg (fun H2 D2 B2 => ?_) (fun H2 p2 s2 c2 D2 l2 X2 w2 n0 => ?_)
        · refine ⟨_, rfl, ?_⟩
          refine Go_if_neY (tgt := 30) (pc' := 28) dX12_any_25 (by decide) rfl (by first | exact ⟨i_lo _, i_hi _⟩ | omega) (fun c25 => by exfalso; omega) (fun c25 => ?_)
          refine Go_iconst (v := iZ 0) (pc' := 29) dX12_any_28 rfl (by decide) ?_
          refine Go_ireturn (ty := .boolean) dX12_any_29 rfl rfl ?_
          exact kb H2 ((zPeb (zPm D1)).tr D2) B2
        · refine ⟨_, rfl, ?_⟩
          obtain ⟨f2, W2, o2, M2, C2, r2, b2, y2⟩ := X2
          have hp2 := M2.hp
          have b2' := b2
          rw [List.length_cons] at b2'
          rw [zo] at M2
          refine Go_if_neY (tgt := 30) (pc' := 28) dX12_any_25 (by decide) rfl (by first | exact ⟨i_lo _, i_hi _⟩ | omega) (fun c25 => ?_) (fun c25 => by exfalso; omega)
          refine Go_aload_n (pc' := 31) dX12_any_30 rfl rfl rfl ?_
          refine Go_bipush (v := iZ 17) (pc' := 33) dX12_any_31 rfl (by decide) ?_
          refine Go_iconst (v := iZ 0) (pc' := 34) dX12_any_33 rfl (by decide) ?_
          refine Go_callV_v (pc' := 37) (As := [.int _, .int _]) (st := []) dX12_any_34 rfl ok_X12_lay km_RX12_292 (M2.S.o 99 rfl rfl rfl) (M2.S.b 99 rfl rfl) ⟨_, _, rfl⟩ rfl (Nat.le_of_ble_eq_true rfl) rfl rfl rfl (Nat.le_of_ble_eq_true rfl) (Nat.lt_succ_self _) ?_
          refine s_lay (k := 17) M2.S M2.fe (zsteps hg (by omega)) (by decide) (fun H3 D3 E3 => ?_)
          refine ⟨rfl, ?_⟩
          refine Go_goto (tgt := 9) dX12_any_37 (by decide) ?_
          exact ih H3 p2 s2 c2 (by omega) (zXt.lay (r' := 2) M2 C2 r2 b2 y2 D3 E3 (by decide) (by decide) (by decide) (tyS_o (by omega))) w2 n0 (fun H9 D9 B9 => kb H9 ((zPeb ((zPm D1).tr (D2.tr (zPfe D3)))).tr D9) B9) (fun H9 p9 s9 c9 D9 l9 X9 w9 a0 a1 => kg H9 p9 s9 c9 (((zPm D1).tr (D2.tr (zPfe D3))).tr D9) (by omega) X9 w9 a0 a1)
    · refine Go_aload_n (pc' := 10) dX12_any_9 rfl rfl rfl ?_
      refine Go_getIv (v := (iZ (mtk (tC T n pos)))) (pc' := 13) dX12_any_10 rfl kf_RX12_255 (by decide) (by decide) rfl (M.S.b 99 rfl rfl) (M.S.o 99 rfl rfl rfl) (M.e30) ?_
      refine Go_iconst (v := iZ 4) (pc' := 14) dX12_any_13 rfl (by decide) ?_
      refine Go_icmp_neY (tgt := 40) (pc' := 17) dX12_any_14 (by decide) rfl (by first | exact ⟨i_lo _, i_hi _⟩ | omega) (by first | exact ⟨i_lo _, i_hi _⟩ | omega) (fun c14 => ?_) (fun c14 => ?_)
      · refine Go_iconst (v := iZ 1) (pc' := 41) dX12_any_40 rfl (by decide) ?_
        refine Go_ireturn (ty := .boolean) dX12_any_41 rfl rfl ?_
        exact kg H pos st cm (DX.rf _ _) (Nat.le_refl _) ⟨f, W1, o1, M, C, hr, hb, hy⟩ w q0 h1
      · exfalso; omega
set_option maxRecDepth 20000 in
set_option maxHeartbeats 1000000 in
theorem m_any {G : GC} {d mc ms : Nat} {H : HS} {K : Option Value → HS → Prop} {T : Nat → Int} {n : Nat} {s0 : St6} {g0 : List Stp2} {O0 : List Int32} {vd : Int} {L : Nat} {cm : Int} {pos : Nat} {k : Nat} {W : List Int} {ts : List Bool} (IH : zOne G T n s0 g0 O0 vd L k) (hD : 3 * k + 12 ≤ d + 12) (X : zEn T n s0 g0 O0 vd L W ts (zop W) 2 cm H pos) (hW : (W.length : Int) ≤ 3 * zop W + 0) (h8 : 8 ≤ zop W + (k : Int)) (h8' : zop W ≤ 8) (ht : ztp 1 W) (h2y : ts.length ≤ W.length) (hg : g0.length ≤ O0.length) (kb : (∀ H', DX zPb H H' → zBd T n s0 H' → K (some (.int (iZ 0))) H')) (kg : (∀ H' pos' st' cm', DX zPe H H' → pos ≤ pos' → zXt T n s0 g0 O0 vd L 1 W (true :: ts) (zop W) st' cm' H' pos' → zWh T n pos' st' cm' → ¬ tC T n pos' = 5 → ¬ tC T n pos' = 4 → K (some (.int (iZ 1))) H')) : Go G (d + 12) mc ms M_X12_any 0 [.ref 99] [] H K := by
  have S : Shp H := by obtain ⟨f, M, _⟩ := X; exact M.S
  refine Go_aload_n (pc' := 1) dX12_any_0 rfl rfl rfl ?_
  refine Go_callV_i (pc' := 4) (As := []) (st := []) dX12_any_1 rfl ok_X12_every km_RX12_299 (S.o 99 rfl rfl rfl) (S.b 99 rfl rfl) ⟨_, _, rfl⟩ rfl (Nat.le_of_ble_eq_true rfl) rfl rfl rfl (Nat.le_of_ble_eq_true rfl) (Nat.lt_succ_self _) ?_
  refine m_every IH (by omega) X (by omega) h8 h8' (ztp_m ht (by decide)) h2y hg (fun H1 D1 B1 => ?_) (fun H1 p1 s1 c1 D1 l1 X1 w1 n0 => ?_)
  · refine ⟨_, rfl, ?_⟩
    refine Go_if_neY (tgt := 9) (pc' := 7) dX12_any_4 (by decide) rfl (by first | exact ⟨i_lo _, i_hi _⟩ | omega) (fun c4 => by exfalso; omega) (fun c4 => ?_)
    refine Go_iconst (v := iZ 0) (pc' := 8) dX12_any_7 rfl (by decide) ?_
    refine Go_ireturn (ty := .boolean) dX12_any_8 rfl rfl ?_
    exact kb H1 D1 B1
  · refine ⟨_, rfl, ?_⟩
    refine Go_if_neY (tgt := 9) (pc' := 7) dX12_any_4 (by decide) rfl (by first | exact ⟨i_lo _, i_hi _⟩ | omega) (fun c4 => ?_) (fun c4 => by exfalso; omega)
    exact an_loop IH hD hW h8 h8' ht h2y hg (n + 1) H1 p1 s1 c1 (by omega) (X1.w (by decide)) w1 n0 (fun H9 D9 B9 => kb H9 ((zPeb D1).tr D9) B9) (fun H9 p9 s9 c9 D9 l9 X9 w9 a0 a1 => kg H9 p9 s9 c9 (D1.tr D9) (by omega) X9 w9 a0 a1)
set_option maxRecDepth 20000 in
set_option maxHeartbeats 4000000 in
theorem one_step {G : GC} {T : Nat → Int} {n : Nat} {s0 : St6} {g0 : List Stp2} {O0 : List Int32} {vd : Int} {L : Nat} (hg : g0.length ≤ O0.length) {k : Nat} (IH : ∀ k', k = k' + 1 → zOne G T n s0 g0 O0 vd L k') : zOne G T n s0 g0 O0 vd L k := by
  intro mc ms D K H pos W ts cm hD X hW h8 h8' ht h2y kb kg
  have X0 := X
  obtain ⟨f, M, C, hb, hy⟩ := X
  have hp := M.hp
  have hn := M.hn
  have mx := mtk_x (tC_s (T := T) (n := n) (pos := pos))
  have zr := zop_r W
  obtain ⟨d, rfl⟩ : ∃ d, D = d + 10 := ⟨D - 10, by omega⟩
  by_cases h6 : tC T n pos = 6
  · refine Go_aload_n (pc' := 1) dX12_one_0 rfl rfl rfl ?_
    refine Go_getIv (v := (iZ (mtk (tC T n pos)))) (pc' := 4) dX12_one_1 rfl kf_RX12_255 (by decide) (by decide) rfl (M.S.b 99 rfl rfl) (M.S.o 99 rfl rfl rfl) (M.e30) ?_
    refine Go_bipush (v := iZ 6) (pc' := 6) dX12_one_4 rfl (by decide) ?_
    refine Go_icmp_neY (tgt := 44) (pc' := 9) dX12_one_6 (by decide) rfl (by first | exact ⟨i_lo _, i_hi _⟩ | omega) (by first | exact ⟨i_lo _, i_hi _⟩ | omega) (fun c6 => ?_) (fun c6 => ?_)
    · exfalso; omega
    · refine Go_aload_n (pc' := 10) dX12_one_9 rfl rfl rfl ?_
      refine Go_callV_i (pc' := 13) (As := []) (st := []) dX12_one_10 rfl ok_X12_opens km_RX12_305 (M.S.o 99 rfl rfl rfl) (M.S.b 99 rfl rfl) ⟨_, _, rfl⟩ rfl (Nat.le_of_ble_eq_true rfl) rfl rfl rfl (Nat.le_of_ble_eq_true rfl) (Nat.lt_succ_self _) ?_
      refine s_opens M (by omega) (fun e8 => ?_) (fun e8 H1 D1 M1 => ?_)
      · refine ⟨_, rfl, ?_⟩
        refine Go_if_eqY (tgt := 23) (pc' := 16) dX12_one_13 (by decide) rfl (by first | exact ⟨i_lo _, i_hi _⟩ | omega) (fun c13 => ?_) (fun c13 => by exfalso; omega)
        refine Go_iconst (v := iZ 0) (pc' := 24) dX12_one_23 rfl (by decide) ?_
        refine Go_ireturn (ty := .boolean) dX12_one_24 rfl rfl ?_
        exact kb _ zBdd (C.bd (by omega) (by omega) (z_full (Or.inl h6) (by omega)) (by decide))
      · refine ⟨_, rfl, ?_⟩
        have tl := tE_lt (T := T) hp (by omega)
        obtain ⟨k', rfl⟩ : ∃ k', k = k' + 1 := ⟨k - 1, by omega⟩
        have zo : zop (6 :: W) = zop W + 1 := zop_o (Or.inl rfl)
        have ez : zop (6 :: W) - 1 = zop W := by omega
        have C1 := C.st hp hn (by omega) (z_open (Or.inl h6) e8 (by omega))
        rw [h6] at C1
        have X1 : zEn T n s0 g0 O0 vd L (6 :: W) ts (zop (6 :: W)) 2 cm H1 (tE T n pos) := ⟨f, by rw [zo]; exact M1, C1, by rw [List.length_cons]; omega, hy⟩
        refine Go_if_eqY (tgt := 23) (pc' := 16) dX12_one_13 (by decide) rfl (by first | exact ⟨i_lo _, i_hi _⟩ | omega) (fun c13 => by exfalso; omega) (fun c13 => ?_)
        refine Go_aload_n (pc' := 17) dX12_one_16 rfl rfl rfl ?_
        refine Go_callV_i (pc' := 20) (As := []) (st := []) dX12_one_17 rfl ok_X12_one km_RX12_302 (M1.S.o 99 rfl rfl rfl) (M1.S.b 99 rfl rfl) ⟨_, _, rfl⟩ rfl (Nat.le_of_ble_eq_true rfl) rfl rfl rfl (Nat.le_of_ble_eq_true rfl) (Nat.lt_succ_self _) ?_
        refine IH k' rfl _ _ _ _ _ _ _ _ _ (by omega) X1 (by rw [List.length_cons, zo]; omega) (by rw [zo]; omega) (by rw [zo]; omega) (show zrk 6 < 4 by decide) (by rw [List.length_cons]; omega) (fun H2 D2 B2 => ?_) (fun H2 p2 s2 c2 D2 l2 X2 w2 => ?_)
        · refine ⟨_, rfl, ?_⟩
          refine Go_if_neY (tgt := 25) (pc' := 23) dX12_one_20 (by decide) rfl (by first | exact ⟨i_lo _, i_hi _⟩ | omega) (fun c20 => by exfalso; omega) (fun c20 => ?_)
          refine Go_iconst (v := iZ 0) (pc' := 24) dX12_one_23 rfl (by decide) ?_
          refine Go_ireturn (ty := .boolean) dX12_one_24 rfl rfl ?_
          exact kb H2 ((zPeb D1).tr D2) B2
        · refine ⟨_, rfl, ?_⟩
          obtain ⟨f2, W2, o2, M2, C2, r2, b2, y2⟩ := X2
          have hp2 := M2.hp
          have b2' := b2
          rw [List.length_cons] at b2'
          have M3 := M2.dep (e := zop (6 :: W) - 1)
          rw [ez] at M3
          refine Go_if_neY (tgt := 25) (pc' := 23) dX12_one_20 (by decide) rfl (by first | exact ⟨i_lo _, i_hi _⟩ | omega) (fun c20 => ?_) (fun c20 => by exfalso; omega)
          refine Go_aload_n (pc' := 26) dX12_one_25 rfl rfl rfl ?_
          refine Go_dup (pc' := 27) dX12_one_26 rfl rfl ?_
          refine Go_getIv (v := (iZ (zop (6 :: W)))) (pc' := 30) dX12_one_27 rfl kf_RX12_285 (by decide) (by decide) rfl (M2.S.b 99 rfl rfl) (M2.S.o 99 rfl rfl rfl) (M2.e36) ?_
          refine Go_iconst (v := iZ 1) (pc' := 31) dX12_one_30 rfl (by decide) ?_
          refine Go_isubZ (pc' := 32) dX12_one_31 rfl ?_
          rw [ez]
          refine Go_putI (pc' := 35) dX12_one_32 rfl kf_RX12_285 (by decide) (by decide) rfl (M2.S.b 99 rfl rfl) (M2.S.o 99 rfl rfl rfl) (Or.inl rfl) rfl rfl ?_
          refine Go_aload_n (pc' := 36) dX12_one_35 rfl rfl rfl ?_
          refine Go_bipush (v := iZ 15) (pc' := 38) dX12_one_36 rfl (by decide) ?_
          refine Go_iconst (v := iZ 0) (pc' := 39) dX12_one_38 rfl (by decide) ?_
          refine Go_callV_v (pc' := 42) (As := [.int _, .int _]) (st := []) dX12_one_39 rfl ok_X12_lay km_RX12_292 (M2.S.o 99 rfl rfl rfl) (M2.S.b 99 rfl rfl) ⟨_, _, rfl⟩ rfl (Nat.le_of_ble_eq_true rfl) rfl rfl rfl (Nat.le_of_ble_eq_true rfl) (Nat.lt_succ_self _) ?_
          refine s_lay (k := 15) M3.S M3.fe (zsteps hg (by omega)) (by decide) (fun H3 D3 E3 => ?_)
          refine ⟨rfl, ?_⟩
          refine Go_iconst (v := iZ 1) (pc' := 43) dX12_one_42 rfl (by decide) ?_
          refine Go_ireturn (ty := .boolean) dX12_one_43 rfl rfl ?_
          exact kg H3 p2 s2 c2 (D1.tr (D2.tr (zDep.tr (zPfe D3)))) (by omega) (zXt.lay (r' := 3) M3 C2 r2 b2 y2 D3 E3 (by decide) (by decide) (by decide) tyS_t) w2
  · by_cases h140 : tC T n pos = 140
    · refine Go_aload_n (pc' := 1) dX12_one_0 rfl rfl rfl ?_
      refine Go_getIv (v := (iZ (mtk (tC T n pos)))) (pc' := 4) dX12_one_1 rfl kf_RX12_255 (by decide) (by decide) rfl (M.S.b 99 rfl rfl) (M.S.o 99 rfl rfl rfl) (M.e30) ?_
      refine Go_bipush (v := iZ 6) (pc' := 6) dX12_one_4 rfl (by decide) ?_
      refine Go_icmp_neY (tgt := 44) (pc' := 9) dX12_one_6 (by decide) rfl (by first | exact ⟨i_lo _, i_hi _⟩ | omega) (by first | exact ⟨i_lo _, i_hi _⟩ | omega) (fun c6 => ?_) (fun c6 => ?_)
      · refine Go_aload_n (pc' := 45) dX12_one_44 rfl rfl rfl ?_
        refine Go_getIv (v := (iZ (mtk (tC T n pos)))) (pc' := 48) dX12_one_45 rfl kf_RX12_255 (by decide) (by decide) rfl (M.S.b 99 rfl rfl) (M.S.o 99 rfl rfl rfl) (M.e30) ?_
        refine Go_sipush (v := iZ 140) (pc' := 51) dX12_one_48 rfl (by decide) ?_
        refine Go_icmp_neY (tgt := 92) (pc' := 54) dX12_one_51 (by decide) rfl (by first | exact ⟨i_lo _, i_hi _⟩ | omega) (by first | exact ⟨i_lo _, i_hi _⟩ | omega) (fun c51 => ?_) (fun c51 => ?_)
        · exfalso; omega
        · refine Go_aload_n (pc' := 55) dX12_one_54 rfl rfl rfl ?_
          refine Go_callV_i (pc' := 58) (As := []) (st := []) dX12_one_55 rfl ok_X12_opens km_RX12_305 (M.S.o 99 rfl rfl rfl) (M.S.b 99 rfl rfl) ⟨_, _, rfl⟩ rfl (Nat.le_of_ble_eq_true rfl) rfl rfl rfl (Nat.le_of_ble_eq_true rfl) (Nat.lt_succ_self _) ?_
          refine s_opens M (by omega) (fun e8 => ?_) (fun e8 H1 D1 M1 => ?_)
          · refine ⟨_, rfl, ?_⟩
            refine Go_if_eqY (tgt := 78) (pc' := 61) dX12_one_58 (by decide) rfl (by first | exact ⟨i_lo _, i_hi _⟩ | omega) (fun c58 => ?_) (fun c58 => by exfalso; omega)
            refine Go_iconst (v := iZ 0) (pc' := 79) dX12_one_78 rfl (by decide) ?_
            refine Go_ireturn (ty := .boolean) dX12_one_79 rfl rfl ?_
            exact kb _ zBdd (C.bd (by omega) (by omega) (z_full (Or.inr h140) (by omega)) (by decide))
          · refine ⟨_, rfl, ?_⟩
            have tl := tE_lt (T := T) hp (by omega)
            obtain ⟨k', rfl⟩ : ∃ k', k = k' + 1 := ⟨k - 1, by omega⟩
            obtain ⟨e, rfl⟩ : ∃ e, d = e + 3 := ⟨d - 3, by omega⟩
            have zo : zop (140 :: W) = zop W + 1 := zop_o (Or.inr rfl)
            have ez : zop (140 :: W) - 1 = zop W := by omega
            have C1 := C.st hp hn (by omega) (z_open (Or.inr h140) e8 (by omega))
            rw [h140] at C1
            have X1 : zEn T n s0 g0 O0 vd L (140 :: W) ts (zop (140 :: W)) 2 cm H1 (tE T n pos) := ⟨f, by rw [zo]; exact M1, C1, by rw [List.length_cons]; omega, hy⟩
            refine Go_if_eqY (tgt := 78) (pc' := 61) dX12_one_58 (by decide) rfl (by first | exact ⟨i_lo _, i_hi _⟩ | omega) (fun c58 => by exfalso; omega) (fun c58 => ?_)
            refine Go_aload_n (pc' := 62) dX12_one_61 rfl rfl rfl ?_
            refine Go_callV_i (pc' := 65) (As := []) (st := []) dX12_one_62 rfl ok_X12_any km_RX12_308 (M1.S.o 99 rfl rfl rfl) (M1.S.b 99 rfl rfl) ⟨_, _, rfl⟩ rfl (Nat.le_of_ble_eq_true rfl) rfl rfl rfl (Nat.le_of_ble_eq_true rfl) (Nat.lt_succ_self _) ?_
            refine m_any (IH k' rfl) (by omega) X1 (by rw [List.length_cons, zo]; omega) (by rw [zo]; omega) (by rw [zo]; omega) (show zrk 140 < 1 by decide) (by rw [List.length_cons]; omega) hg (fun H2 D2 B2 => ?_) (fun H2 p2 s2 c2 D2 l2 X2 w2 n0 n1 => ?_)
            · refine ⟨_, rfl, ?_⟩
              refine Go_if_eqY (tgt := 78) (pc' := 68) dX12_one_65 (by decide) rfl (by first | exact ⟨i_lo _, i_hi _⟩ | omega) (fun c65 => ?_) (fun c65 => by exfalso; omega)
              refine Go_iconst (v := iZ 0) (pc' := 79) dX12_one_78 rfl (by decide) ?_
              refine Go_ireturn (ty := .boolean) dX12_one_79 rfl rfl ?_
              exact kb H2 ((zPeb D1).tr D2) B2
            · refine ⟨_, rfl, ?_⟩
              obtain ⟨f2, W2, o2, M2, C2, r2, b2, y2⟩ := X2
              have hp2 := M2.hp
              have b2' := b2
              rw [List.length_cons] at b2'
              refine Go_if_eqY (tgt := 78) (pc' := 68) dX12_one_65 (by decide) rfl (by first | exact ⟨i_lo _, i_hi _⟩ | omega) (fun c65 => by exfalso; omega) (fun c65 => ?_)
              refine Go_aload_n (pc' := 69) dX12_one_68 rfl rfl rfl ?_
              refine Go_sipush (v := iZ 141) (pc' := 72) dX12_one_69 rfl (by decide) ?_
              refine Go_callV_i (pc' := 75) (As := [.int _]) (st := []) dX12_one_72 rfl ok_X12_need km_RX12_311 (M2.S.o 99 rfl rfl rfl) (M2.S.b 99 rfl rfl) ⟨_, _, rfl⟩ rfl (Nat.le_of_ble_eq_true rfl) rfl rfl rfl (Nat.le_of_ble_eq_true rfl) (Nat.lt_succ_self _) ?_
              refine s_need (c := 141) (by omega) M2 (fun e9 => ?_) (fun e9 H3 D3 M3 => ?_)
              · refine ⟨_, rfl, ?_⟩
                have hz2 : zbr W2 = zbr W + 1 := by
                  have t1 := zrel_b (r := 1) (by omega) W2 o2
                  rw [r2, zrel_b (by omega)] at t1
                  exact t1.symm
                have hz0 := (zbr_r W).1
                refine Go_if_neY (tgt := 80) (pc' := 78) dX12_one_75 (by decide) rfl (by first | exact ⟨i_lo _, i_hi _⟩ | omega) (fun c75 => by exfalso; omega) (fun c75 => ?_)
                refine Go_iconst (v := iZ 0) (pc' := 79) dX12_one_78 rfl (by decide) ?_
                refine Go_ireturn (ty := .boolean) dX12_one_79 rfl rfl ?_
                exact kb _ ((zPeb (D1.tr D2)).tr zBdd) (C2.bd (by omega) (fun z => by have h0 : s2 = 0 := z.2; rcases w2 with z2 | z2 <;> omega) (z_stop w2 n1 n0 (by omega) (by omega)) (by decide))
              · refine ⟨_, rfl, ?_⟩
                have M4 := M3.dep (e := zop (140 :: W) - 1)
                rw [ez] at M4
                have C3 := C2.st hp2 hn (by omega) (z_close w2 e9 r2 (zbr_r W).1)
                have tl2 := tE_lt (T := T) hp2 (by omega)
                refine Go_if_neY (tgt := 80) (pc' := 78) dX12_one_75 (by decide) rfl (by first | exact ⟨i_lo _, i_hi _⟩ | omega) (fun c75 => ?_) (fun c75 => by exfalso; omega)
                refine Go_aload_n (pc' := 81) dX12_one_80 rfl rfl rfl ?_
                refine Go_dup (pc' := 82) dX12_one_81 rfl rfl ?_
                refine Go_getIv (v := (iZ (zop (140 :: W)))) (pc' := 85) dX12_one_82 rfl kf_RX12_285 (by decide) (by decide) rfl (M3.S.b 99 rfl rfl) (M3.S.o 99 rfl rfl rfl) (M3.e36) ?_
                refine Go_iconst (v := iZ 1) (pc' := 86) dX12_one_85 rfl (by decide) ?_
                refine Go_isubZ (pc' := 87) dX12_one_86 rfl ?_
                rw [ez]
                refine Go_putI (pc' := 90) dX12_one_87 rfl kf_RX12_285 (by decide) (by decide) rfl (M3.S.b 99 rfl rfl) (M3.S.o 99 rfl rfl rfl) (Or.inl rfl) rfl rfl ?_
                refine Go_iconst (v := iZ 1) (pc' := 91) dX12_one_90 rfl (by decide) ?_
                refine Go_ireturn (ty := .boolean) dX12_one_91 rfl rfl ?_
                exact kg _ _ 6 c2 (D1.tr (D2.tr ((zPm D3).tr zDep))) (by omega) ⟨f2, W, O0 ++ zco f2, M4, C3, rfl, by omega, y2⟩ (Or.inl rfl)
      · exfalso; omega
    · refine Go_aload_n (pc' := 1) dX12_one_0 rfl rfl rfl ?_
      refine Go_getIv (v := (iZ (mtk (tC T n pos)))) (pc' := 4) dX12_one_1 rfl kf_RX12_255 (by decide) (by decide) rfl (M.S.b 99 rfl rfl) (M.S.o 99 rfl rfl rfl) (M.e30) ?_
      refine Go_bipush (v := iZ 6) (pc' := 6) dX12_one_4 rfl (by decide) ?_
      refine Go_icmp_neY (tgt := 44) (pc' := 9) dX12_one_6 (by decide) rfl (by first | exact ⟨i_lo _, i_hi _⟩ | omega) (by first | exact ⟨i_lo _, i_hi _⟩ | omega) (fun c6 => ?_) (fun c6 => ?_)
      · refine Go_aload_n (pc' := 45) dX12_one_44 rfl rfl rfl ?_
        refine Go_getIv (v := (iZ (mtk (tC T n pos)))) (pc' := 48) dX12_one_45 rfl kf_RX12_255 (by decide) (by decide) rfl (M.S.b 99 rfl rfl) (M.S.o 99 rfl rfl rfl) (M.e30) ?_
        refine Go_sipush (v := iZ 140) (pc' := 51) dX12_one_48 rfl (by decide) ?_
        refine Go_icmp_neY (tgt := 92) (pc' := 54) dX12_one_51 (by decide) rfl (by first | exact ⟨i_lo _, i_hi _⟩ | omega) (by first | exact ⟨i_lo _, i_hi _⟩ | omega) (fun c51 => ?_) (fun c51 => ?_)
        · refine Go_aload_n (pc' := 93) dX12_one_92 rfl rfl rfl ?_
          refine Go_callV_i (pc' := 96) (As := []) (st := []) dX12_one_93 rfl ok_X12_sumUp km_RX12_314 (M.S.o 99 rfl rfl rfl) (M.S.b 99 rfl rfl) ⟨_, _, rfl⟩ rfl (Nat.le_of_ble_eq_true rfl) rfl rfl rfl (Nat.le_of_ble_eq_true rfl) (Nat.lt_succ_self _) ?_
          refine m_sum X0 (by decide) (fun _ => z_u2 (by omega)) (by omega) (ztp_m ht (by decide)) h2y hg (fun H1 D1 B1 => ?_) (fun H1 p1 D1 l1 X1 n0 n1 n2 n3 => ?_)
          · refine ⟨_, rfl, ?_⟩
            refine Go_if_neY (tgt := 101) (pc' := 99) dX12_one_96 (by decide) rfl (by first | exact ⟨i_lo _, i_hi _⟩ | omega) (fun c96 => by exfalso; omega) (fun c96 => ?_)
            refine Go_iconst (v := iZ 0) (pc' := 100) dX12_one_99 rfl (by decide) ?_
            refine Go_ireturn (ty := .boolean) dX12_one_100 rfl rfl ?_
            exact kb H1 D1 B1
          · refine ⟨_, rfl, ?_⟩
            obtain ⟨f1, W1, o1, M1, C1, r1, b1, y1⟩ := X1
            have hp1 := M1.hp
            have mx1 := mtk_x (tC_s (T := T) (n := n) (pos := p1))
            refine Go_if_neY (tgt := 101) (pc' := 99) dX12_one_96 (by decide) rfl (by first | exact ⟨i_lo _, i_hi _⟩ | omega) (fun c96 => ?_) (fun c96 => by exfalso; omega)
            refine Go_aload_n (pc' := 102) dX12_one_101 rfl rfl rfl ?_
            refine Go_getIv (v := (iZ (mtk (tC T n p1)))) (pc' := 105) dX12_one_102 rfl kf_RX12_255 (by decide) (by decide) rfl (M1.S.b 99 rfl rfl) (M1.S.o 99 rfl rfl rfl) (M1.e30) ?_
            refine Go_sipush (v := iZ 160) (pc' := 108) dX12_one_105 rfl (by decide) ?_
            refine Go_icmp_neY (tgt := 116) (pc' := 111) dX12_one_108 (by decide) rfl (by first | exact ⟨i_lo _, i_hi _⟩ | omega) (by first | exact ⟨i_lo _, i_hi _⟩ | omega) (fun c108 => ?_) (fun c108 => ?_)
            · refine Go_aload_n (pc' := 117) dX12_one_116 rfl rfl rfl ?_
              refine Go_getIv (v := (iZ (mtk (tC T n p1)))) (pc' := 120) dX12_one_117 rfl kf_RX12_255 (by decide) (by decide) rfl (M1.S.b 99 rfl rfl) (M1.S.o 99 rfl rfl rfl) (M1.e30) ?_
              refine Go_sipush (v := iZ 161) (pc' := 123) dX12_one_120 rfl (by decide) ?_
              refine Go_icmp_neY (tgt := 131) (pc' := 126) dX12_one_123 (by decide) rfl (by first | exact ⟨i_lo _, i_hi _⟩ | omega) (by first | exact ⟨i_lo _, i_hi _⟩ | omega) (fun c123 => ?_) (fun c123 => ?_)
              · refine Go_aload_n (pc' := 132) dX12_one_131 rfl rfl rfl ?_
                refine Go_getIv (v := (iZ (mtk (tC T n p1)))) (pc' := 135) dX12_one_132 rfl kf_RX12_255 (by decide) (by decide) rfl (M1.S.b 99 rfl rfl) (M1.S.o 99 rfl rfl rfl) (M1.e30) ?_
                refine Go_sipush (v := iZ 162) (pc' := 138) dX12_one_135 rfl (by decide) ?_
                refine Go_icmp_neY (tgt := 146) (pc' := 141) dX12_one_138 (by decide) rfl (by first | exact ⟨i_lo _, i_hi _⟩ | omega) (by first | exact ⟨i_lo _, i_hi _⟩ | omega) (fun c138 => ?_) (fun c138 => ?_)
                · refine Go_iconst (v := iZ (-1)) (pc' := 147) dX12_one_146 rfl (by decide) ?_
                  refine Go_istore_n (pc' := 148) (lv' := [.ref _, .int _]) dX12_one_147 rfl rfl (Nat.le_of_ble_eq_true rfl) rfl rfl ?_
                  refine Go_iload_n (pc' := 149) dX12_one_148 rfl rfl rfl ?_
                  refine Go_iconst (v := iZ (-1)) (pc' := 150) dX12_one_149 rfl (by decide) ?_
                  refine Go_icmp_neY (tgt := 159) (pc' := 153) dX12_one_150 (by decide) rfl (by first | exact ⟨i_lo _, i_hi _⟩ | omega) (by first | exact ⟨i_lo _, i_hi _⟩ | omega) (fun c150 => by exfalso; omega) (fun c150 => ?_)
                  refine Go_aload_n (pc' := 154) dX12_one_153 rfl rfl rfl ?_
                  refine Go_iconst (v := iZ 1) (pc' := 155) dX12_one_154 rfl (by decide) ?_
                  refine Go_callV_i (pc' := 158) (As := [.int _]) (st := []) dX12_one_155 rfl ok_X12_bad km_RX12_276 (M1.S.o 99 rfl rfl rfl) (M1.S.b 99 rfl rfl) ⟨_, _, rfl⟩ rfl (Nat.le_of_ble_eq_true rfl) rfl rfl rfl (Nat.le_of_ble_eq_true rfl) (Nat.lt_succ_self _) ?_
                  refine s_bad (k := 1) M1.S M1.e31 ?_
                  refine ⟨_, rfl, ?_⟩
                  refine Go_ireturn (ty := .boolean) dX12_one_158 rfl rfl ?_
                  exact kb _ ((zPeb D1).tr zBdd) (C1.bd (by omega) (fun z => absurd (show (5 : Int) = 0 from z.2) (by decide)) (z_nocmp n0 n1 n2 n3 (by omega)) (by decide))
                · refine Go_bipush (v := iZ 14) (pc' := 143) dX12_one_141 rfl (by decide) ?_
                  refine Go_goto (tgt := 147) dX12_one_143 (by decide) ?_
                  refine Go_istore_n (pc' := 148) (lv' := [.ref _, .int _]) dX12_one_147 rfl rfl (Nat.le_of_ble_eq_true rfl) rfl rfl ?_
                  refine Go_iload_n (pc' := 149) dX12_one_148 rfl rfl rfl ?_
                  refine Go_iconst (v := iZ (-1)) (pc' := 150) dX12_one_149 rfl (by decide) ?_
                  refine Go_icmp_neY (tgt := 159) (pc' := 153) dX12_one_150 (by decide) rfl (by first | exact ⟨i_lo _, i_hi _⟩ | omega) (by first | exact ⟨i_lo _, i_hi _⟩ | omega) (fun c150 => ?_) (fun c150 => by exfalso; omega)
                  refine Go_aload_n (pc' := 160) dX12_one_159 rfl rfl rfl ?_
                  refine Go_callV_v (pc' := 163) (As := []) (st := []) dX12_one_160 rfl ok_X12_next0 km_RX12_279 (M1.S.o 99 rfl rfl rfl) (M1.S.b 99 rfl rfl) ⟨_, _, rfl⟩ rfl (Nat.le_of_ble_eq_true rfl) rfl rfl rfl (Nat.le_of_ble_eq_true rfl) (Nat.lt_succ_self _) ?_
                  refine s_nx M1 (fun H2 D2 M2 => ?_)
                  refine ⟨rfl, ?_⟩
                  have hc : tC T n p1 = 162 := by omega
                  have C2 := C1.st hp1 hn (by omega) (z_cmp (by omega) (zrel_w (by decide) r1) ht (by omega))
                  rw [hc] at C2
                  have tl1 := tE_lt (T := T) hp1 (by omega)
                  have X2 : zEn T n s0 g0 O0 vd L (162 :: W) (false :: ts) (zop W) 3 1 H2 (tE T n p1) := ⟨f1, M2, C2, by rw [List.length_cons]; omega, y1⟩
                  refine Go_aload_n (pc' := 164) dX12_one_163 rfl rfl rfl ?_
                  refine Go_callV_i (pc' := 167) (As := []) (st := []) dX12_one_164 rfl ok_X12_sumUp km_RX12_314 (M2.S.o 99 rfl rfl rfl) (M2.S.b 99 rfl rfl) ⟨_, _, rfl⟩ rfl (Nat.le_of_ble_eq_true rfl) rfl rfl rfl (Nat.le_of_ble_eq_true rfl) (Nat.lt_succ_self _) ?_
                  refine m_sum X2 (by decide) (fun _ => z_u3) (by rw [List.length_cons]; omega) (show zrk 162 < 5 by decide) (by rw [List.length_cons, List.length_cons]; omega) hg (fun H3 D3 B3 => ?_) (fun H3 p3 D3 l3 X3 a0 a1 a2 a3 => ?_)
                  · refine ⟨_, rfl, ?_⟩
                    refine Go_if_neY (tgt := 172) (pc' := 170) dX12_one_167 (by decide) rfl (by first | exact ⟨i_lo _, i_hi _⟩ | omega) (fun c167 => by exfalso; omega) (fun c167 => ?_)
                    refine Go_iconst (v := iZ 0) (pc' := 171) dX12_one_170 rfl (by decide) ?_
                    refine Go_ireturn (ty := .boolean) dX12_one_171 rfl rfl ?_
                    exact kb H3 ((zPeb (D1.tr (zPm D2))).tr D3) B3
                  · refine ⟨_, rfl, ?_⟩
                    obtain ⟨f3, W3, o3, M3, C3, r3, b3, y3⟩ := X3
                    have hp3 := M3.hp
                    have b3' := b3
                    rw [List.length_cons] at b3'
                    refine Go_if_neY (tgt := 172) (pc' := 170) dX12_one_167 (by decide) rfl (by first | exact ⟨i_lo _, i_hi _⟩ | omega) (fun c167 => ?_) (fun c167 => by exfalso; omega)
                    refine Go_aload_n (pc' := 173) dX12_one_172 rfl rfl rfl ?_
                    refine Go_iload_n (pc' := 174) dX12_one_173 rfl rfl rfl ?_
                    refine Go_iconst (v := iZ 0) (pc' := 175) dX12_one_174 rfl (by decide) ?_
                    refine Go_callV_v (pc' := 178) (As := [.int _, .int _]) (st := []) dX12_one_175 rfl ok_X12_lay km_RX12_292 (M3.S.o 99 rfl rfl rfl) (M3.S.b 99 rfl rfl) ⟨_, _, rfl⟩ rfl (Nat.le_of_ble_eq_true rfl) rfl rfl rfl (Nat.le_of_ble_eq_true rfl) (Nat.lt_succ_self _) ?_
                    refine s_lay (k := 14) M3.S M3.fe (zsteps hg (by omega)) (by decide) (fun H4 D4 E4 => ?_)
                    refine ⟨rfl, ?_⟩
                    refine Go_iconst (v := iZ 1) (pc' := 179) dX12_one_178 rfl (by decide) ?_
                    refine Go_ireturn (ty := .boolean) dX12_one_179 rfl rfl ?_
                    exact kg H4 p3 5 1 (D1.tr ((zPm D2).tr (D3.tr (zPfe D4)))) (by omega) (zXt.w (r' := 4) (zXt.lay (r' := 5) M3 C3 r3 b3 y3 D4 E4 (by decide) (by decide) (by decide) (tyS_c (by omega))) (by decide)) (Or.inr ⟨rfl, by decide, a0, a1, a2, a3⟩)
              · refine Go_bipush (v := iZ 13) (pc' := 128) dX12_one_126 rfl (by decide) ?_
                refine Go_goto (tgt := 147) dX12_one_128 (by decide) ?_
                refine Go_istore_n (pc' := 148) (lv' := [.ref _, .int _]) dX12_one_147 rfl rfl (Nat.le_of_ble_eq_true rfl) rfl rfl ?_
                refine Go_iload_n (pc' := 149) dX12_one_148 rfl rfl rfl ?_
                refine Go_iconst (v := iZ (-1)) (pc' := 150) dX12_one_149 rfl (by decide) ?_
                refine Go_icmp_neY (tgt := 159) (pc' := 153) dX12_one_150 (by decide) rfl (by first | exact ⟨i_lo _, i_hi _⟩ | omega) (by first | exact ⟨i_lo _, i_hi _⟩ | omega) (fun c150 => ?_) (fun c150 => by exfalso; omega)
                refine Go_aload_n (pc' := 160) dX12_one_159 rfl rfl rfl ?_
                refine Go_callV_v (pc' := 163) (As := []) (st := []) dX12_one_160 rfl ok_X12_next0 km_RX12_279 (M1.S.o 99 rfl rfl rfl) (M1.S.b 99 rfl rfl) ⟨_, _, rfl⟩ rfl (Nat.le_of_ble_eq_true rfl) rfl rfl rfl (Nat.le_of_ble_eq_true rfl) (Nat.lt_succ_self _) ?_
                refine s_nx M1 (fun H2 D2 M2 => ?_)
                refine ⟨rfl, ?_⟩
                have hc : tC T n p1 = 161 := by omega
                have C2 := C1.st hp1 hn (by omega) (z_cmp (by omega) (zrel_w (by decide) r1) ht (by omega))
                rw [hc] at C2
                have tl1 := tE_lt (T := T) hp1 (by omega)
                have X2 : zEn T n s0 g0 O0 vd L (161 :: W) (false :: ts) (zop W) 3 1 H2 (tE T n p1) := ⟨f1, M2, C2, by rw [List.length_cons]; omega, y1⟩
                refine Go_aload_n (pc' := 164) dX12_one_163 rfl rfl rfl ?_
                refine Go_callV_i (pc' := 167) (As := []) (st := []) dX12_one_164 rfl ok_X12_sumUp km_RX12_314 (M2.S.o 99 rfl rfl rfl) (M2.S.b 99 rfl rfl) ⟨_, _, rfl⟩ rfl (Nat.le_of_ble_eq_true rfl) rfl rfl rfl (Nat.le_of_ble_eq_true rfl) (Nat.lt_succ_self _) ?_
                refine m_sum X2 (by decide) (fun _ => z_u3) (by rw [List.length_cons]; omega) (show zrk 161 < 5 by decide) (by rw [List.length_cons, List.length_cons]; omega) hg (fun H3 D3 B3 => ?_) (fun H3 p3 D3 l3 X3 a0 a1 a2 a3 => ?_)
                · refine ⟨_, rfl, ?_⟩
                  refine Go_if_neY (tgt := 172) (pc' := 170) dX12_one_167 (by decide) rfl (by first | exact ⟨i_lo _, i_hi _⟩ | omega) (fun c167 => by exfalso; omega) (fun c167 => ?_)
                  refine Go_iconst (v := iZ 0) (pc' := 171) dX12_one_170 rfl (by decide) ?_
                  refine Go_ireturn (ty := .boolean) dX12_one_171 rfl rfl ?_
                  exact kb H3 ((zPeb (D1.tr (zPm D2))).tr D3) B3
                · refine ⟨_, rfl, ?_⟩
                  obtain ⟨f3, W3, o3, M3, C3, r3, b3, y3⟩ := X3
                  have hp3 := M3.hp
                  have b3' := b3
                  rw [List.length_cons] at b3'
                  refine Go_if_neY (tgt := 172) (pc' := 170) dX12_one_167 (by decide) rfl (by first | exact ⟨i_lo _, i_hi _⟩ | omega) (fun c167 => ?_) (fun c167 => by exfalso; omega)
                  refine Go_aload_n (pc' := 173) dX12_one_172 rfl rfl rfl ?_
                  refine Go_iload_n (pc' := 174) dX12_one_173 rfl rfl rfl ?_
                  refine Go_iconst (v := iZ 0) (pc' := 175) dX12_one_174 rfl (by decide) ?_
                  refine Go_callV_v (pc' := 178) (As := [.int _, .int _]) (st := []) dX12_one_175 rfl ok_X12_lay km_RX12_292 (M3.S.o 99 rfl rfl rfl) (M3.S.b 99 rfl rfl) ⟨_, _, rfl⟩ rfl (Nat.le_of_ble_eq_true rfl) rfl rfl rfl (Nat.le_of_ble_eq_true rfl) (Nat.lt_succ_self _) ?_
                  refine s_lay (k := 13) M3.S M3.fe (zsteps hg (by omega)) (by decide) (fun H4 D4 E4 => ?_)
                  refine ⟨rfl, ?_⟩
                  refine Go_iconst (v := iZ 1) (pc' := 179) dX12_one_178 rfl (by decide) ?_
                  refine Go_ireturn (ty := .boolean) dX12_one_179 rfl rfl ?_
                  exact kg H4 p3 5 1 (D1.tr ((zPm D2).tr (D3.tr (zPfe D4)))) (by omega) (zXt.w (r' := 4) (zXt.lay (r' := 5) M3 C3 r3 b3 y3 D4 E4 (by decide) (by decide) (by decide) (tyS_c (by omega))) (by decide)) (Or.inr ⟨rfl, by decide, a0, a1, a2, a3⟩)
            · refine Go_bipush (v := iZ 12) (pc' := 113) dX12_one_111 rfl (by decide) ?_
              refine Go_goto (tgt := 147) dX12_one_113 (by decide) ?_
              refine Go_istore_n (pc' := 148) (lv' := [.ref _, .int _]) dX12_one_147 rfl rfl (Nat.le_of_ble_eq_true rfl) rfl rfl ?_
              refine Go_iload_n (pc' := 149) dX12_one_148 rfl rfl rfl ?_
              refine Go_iconst (v := iZ (-1)) (pc' := 150) dX12_one_149 rfl (by decide) ?_
              refine Go_icmp_neY (tgt := 159) (pc' := 153) dX12_one_150 (by decide) rfl (by first | exact ⟨i_lo _, i_hi _⟩ | omega) (by first | exact ⟨i_lo _, i_hi _⟩ | omega) (fun c150 => ?_) (fun c150 => by exfalso; omega)
              refine Go_aload_n (pc' := 160) dX12_one_159 rfl rfl rfl ?_
              refine Go_callV_v (pc' := 163) (As := []) (st := []) dX12_one_160 rfl ok_X12_next0 km_RX12_279 (M1.S.o 99 rfl rfl rfl) (M1.S.b 99 rfl rfl) ⟨_, _, rfl⟩ rfl (Nat.le_of_ble_eq_true rfl) rfl rfl rfl (Nat.le_of_ble_eq_true rfl) (Nat.lt_succ_self _) ?_
              refine s_nx M1 (fun H2 D2 M2 => ?_)
              refine ⟨rfl, ?_⟩
              have hc : tC T n p1 = 160 := by omega
              have C2 := C1.st hp1 hn (by omega) (z_cmp (by omega) (zrel_w (by decide) r1) ht (by omega))
              rw [hc] at C2
              have tl1 := tE_lt (T := T) hp1 (by omega)
              have X2 : zEn T n s0 g0 O0 vd L (160 :: W) (false :: ts) (zop W) 3 1 H2 (tE T n p1) := ⟨f1, M2, C2, by rw [List.length_cons]; omega, y1⟩
              refine Go_aload_n (pc' := 164) dX12_one_163 rfl rfl rfl ?_
              refine Go_callV_i (pc' := 167) (As := []) (st := []) dX12_one_164 rfl ok_X12_sumUp km_RX12_314 (M2.S.o 99 rfl rfl rfl) (M2.S.b 99 rfl rfl) ⟨_, _, rfl⟩ rfl (Nat.le_of_ble_eq_true rfl) rfl rfl rfl (Nat.le_of_ble_eq_true rfl) (Nat.lt_succ_self _) ?_
              refine m_sum X2 (by decide) (fun _ => z_u3) (by rw [List.length_cons]; omega) (show zrk 160 < 5 by decide) (by rw [List.length_cons, List.length_cons]; omega) hg (fun H3 D3 B3 => ?_) (fun H3 p3 D3 l3 X3 a0 a1 a2 a3 => ?_)
              · refine ⟨_, rfl, ?_⟩
                refine Go_if_neY (tgt := 172) (pc' := 170) dX12_one_167 (by decide) rfl (by first | exact ⟨i_lo _, i_hi _⟩ | omega) (fun c167 => by exfalso; omega) (fun c167 => ?_)
                refine Go_iconst (v := iZ 0) (pc' := 171) dX12_one_170 rfl (by decide) ?_
                refine Go_ireturn (ty := .boolean) dX12_one_171 rfl rfl ?_
                exact kb H3 ((zPeb (D1.tr (zPm D2))).tr D3) B3
              · refine ⟨_, rfl, ?_⟩
                obtain ⟨f3, W3, o3, M3, C3, r3, b3, y3⟩ := X3
                have hp3 := M3.hp
                have b3' := b3
                rw [List.length_cons] at b3'
                refine Go_if_neY (tgt := 172) (pc' := 170) dX12_one_167 (by decide) rfl (by first | exact ⟨i_lo _, i_hi _⟩ | omega) (fun c167 => ?_) (fun c167 => by exfalso; omega)
                refine Go_aload_n (pc' := 173) dX12_one_172 rfl rfl rfl ?_
                refine Go_iload_n (pc' := 174) dX12_one_173 rfl rfl rfl ?_
                refine Go_iconst (v := iZ 0) (pc' := 175) dX12_one_174 rfl (by decide) ?_
                refine Go_callV_v (pc' := 178) (As := [.int _, .int _]) (st := []) dX12_one_175 rfl ok_X12_lay km_RX12_292 (M3.S.o 99 rfl rfl rfl) (M3.S.b 99 rfl rfl) ⟨_, _, rfl⟩ rfl (Nat.le_of_ble_eq_true rfl) rfl rfl rfl (Nat.le_of_ble_eq_true rfl) (Nat.lt_succ_self _) ?_
                refine s_lay (k := 12) M3.S M3.fe (zsteps hg (by omega)) (by decide) (fun H4 D4 E4 => ?_)
                refine ⟨rfl, ?_⟩
                refine Go_iconst (v := iZ 1) (pc' := 179) dX12_one_178 rfl (by decide) ?_
                refine Go_ireturn (ty := .boolean) dX12_one_179 rfl rfl ?_
                exact kg H4 p3 5 1 (D1.tr ((zPm D2).tr (D3.tr (zPfe D4)))) (by omega) (zXt.w (r' := 4) (zXt.lay (r' := 5) M3 C3 r3 b3 y3 D4 E4 (by decide) (by decide) (by decide) (tyS_c (by omega))) (by decide)) (Or.inr ⟨rfl, by decide, a0, a1, a2, a3⟩)
        · exfalso; omega
      · exfalso; omega
theorem m_one {G : GC} {T : Nat → Int} {n : Nat} {s0 : St6} {g0 : List Stp2} {O0 : List Int32} {vd : Int} {L : Nat} (hg : g0.length ≤ O0.length) : ∀ k, zOne G T n s0 g0 O0 vd L k
  | 0 => one_step hg (fun k' h => absurd h (by omega))
  | k + 1 => one_step hg (fun k' h => by
      obtain rfl : k = k' := by omega
      exact m_one hg k)
