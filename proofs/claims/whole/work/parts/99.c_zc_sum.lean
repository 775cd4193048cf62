/-! the model reads units, products and sums -/
/-- both readers stand before a piece; behind it -/
def zEn (T : Nat → Int) (n : Nat) (s0 : St6) (g0 : List Stp2) (O0 : List Int32) (vd : Int) (L : Nat) (W : List Int) (ts : List Bool) (dep st cm : Int) (H : HS) (pos : Nat) : Prop := ∃ f, zMX H T n pos (g0 ++ f) dep ∧ zCf T n s0 pos (st, vd, cm, W, O0 ++ zco f, L) ∧ (O0 ++ zco f).length + W.length ≤ pos ∧ tyR f [] = some ts
def zXt (T : Nat → Int) (n : Nat) (s0 : St6) (g0 : List Stp2) (O0 : List Int32) (vd : Int) (L : Nat) (r : Int) (W : List Int) (ts : List Bool) (dep st cm : Int) (H : HS) (pos : Nat) : Prop := ∃ f W' o', zMX H T n pos (g0 ++ f) dep ∧ zCf T n s0 pos (st, vd, cm, W', o', L) ∧ zrel r W' o' = zrel r W (O0 ++ zco f) ∧ (O0 ++ zco f).length + W.length ≤ pos ∧ tyR f [] = some ts
theorem zEn.xt {T : Nat → Int} {n : Nat} {s0 : St6} {g0 : List Stp2} {O0 : List Int32} {vd : Int} {L : Nat} {r : Int} {W : List Int} {ts : List Bool} {dep st cm : Int} {H : HS} {pos : Nat} (X : zEn T n s0 g0 O0 vd L W ts dep st cm H pos) : zXt T n s0 g0 O0 vd L r W ts dep st cm H pos := by
  obtain ⟨f, M, C, b, y⟩ := X
  exact ⟨f, W, O0 ++ zco f, M, C, rfl, b, y⟩
theorem zXt.w {T : Nat → Int} {n : Nat} {s0 : St6} {g0 : List Stp2} {O0 : List Int32} {vd : Int} {L : Nat} {r r' : Int} {W : List Int} {ts : List Bool} {dep st cm : Int} {H : HS} {pos : Nat} (X : zXt T n s0 g0 O0 vd L r' W ts dep st cm H pos) (hr : r ≤ r') : zXt T n s0 g0 O0 vd L r W ts dep st cm H pos := by
  obtain ⟨f, W', o', M, C, e, b, y⟩ := X
  exact ⟨f, W', o', M, C, zrel_w hr e, b, y⟩
/-- an operator is laid -/
theorem zXt.lay {T : Nat → Int} {n : Nat} {s0 : St6} {g0 : List Stp2} {O0 : List Int32} {vd : Int} {L : Nat} {r r' c : Int} {W W' : List Int} {o' : List Int32} {ts ts' : List Bool} {dep st cm : Int} {H H' : HS} {pos : Nat} {f : List Stp2} {u : Stp2} (M : zMX H T n pos (g0 ++ f) dep) (C : zCf T n s0 pos (st, vd, cm, W', o', L)) (e : zrel r' W' o' = zrel r' (c :: W) (O0 ++ zco f)) (b : (O0 ++ zco f).length + (c :: W).length ≤ pos) (y : tyR f [] = some ts) (D : DX zPf H H') (E : zFE H' (g0 ++ f ++ [u])) (hr : r ≤ r') (hc : r ≤ zrk c) (hu : stepC u = [iZ (10000 + c)]) (hy : tyS ts u = some ts') : zXt T n s0 g0 O0 vd L r W ts' dep st cm H' pos := by
  have hp := M.hp
  have hn := M.hn
  rw [List.length_cons] at b
  rw [List.append_assoc] at E
  refine ⟨f ++ [u], W', o', M.lay D E, C, zrel_lay hc (zrel_w hr e) hu (by omega), ?_, ty_lay y hy⟩
  rw [zlen1 hu]
  omega
set_option maxRecDepth 20000 in
set_option maxHeartbeats 2000000 in
theorem m_unit {G : GC} {d mc ms : Nat} {H : HS} {K : Option Value → HS → Prop} {T : Nat → Int} {n : Nat} {s0 : St6} {g0 : List Stp2} {O0 : List Int32} {vd : Int} {L : Nat} {W : List Int} {ts : List Bool} {dep st cm cm' : Int} {pos : Nat} (X : zEn T n s0 g0 O0 vd L W ts dep st cm H pos) (hs : ¬ st = 0) (hz : ∀ o, zst (tC T n pos) (tV T n pos) (st, vd, cm, W, o, L) = zunit (tC T n pos) (tV T n pos) (st, vd, cm', W, o, L)) (h40 : ts.length < 40) (hg : g0.length ≤ O0.length) (kb : (∀ H', DX zPb H H' → zBd T n s0 H' → K (some (.int (iZ 0))) H')) (kg : ∀ H', DX zPe H H' → pos < tE T n pos → zEn T n s0 g0 O0 vd L W (false :: ts) dep 5 cm' H' (tE T n pos) → K (some (.int (iZ 1))) H') : Go G (d + 7) mc ms M_X12_unit 0 [.ref 99, un] [] H K := by
  obtain ⟨f, M, C, hb, hy⟩ := X
  have hp := M.hp
  have hn := M.hn
  have mx := mtk_x (tC_s (T := T) (n := n) (pos := pos))
  by_cases h20 : tC T n pos = 20
  · have tl := tE_lt (T := T) hp (by omega)
    have hv := tV_r h20
    have zz : zst (tC T n pos) (tV T n pos) (st, vd, cm, W, O0 ++ zco f, L) = (0, (5, vd, cm', W, O0 ++ zco (f ++ [(0, iZ (tV T n pos))]), L)) := by
      rw [hz, zunit_n h20, zco_app, ← List.append_assoc]
      show ((0 : Int), ((5 : Int), vd, cm', W, zadd (O0 ++ zco f) (iZ (tV T n pos)), L)) = _
      rw [zadd_a (by omega)]
      rfl
    refine Go_aload_n (pc' := 1) dX12_unit_0 rfl rfl rfl ?_
    refine Go_getIv (v := (iZ (mtk (tC T n pos)))) (pc' := 4) dX12_unit_1 rfl kf_RX12_255 (by decide) (by decide) rfl (M.S.b 99 rfl rfl) (M.S.o 99 rfl rfl rfl) (M.e30) ?_
    refine Go_bipush (v := iZ 21) (pc' := 6) dX12_unit_4 rfl (by decide) ?_
    refine Go_bipush (v := iZ 27) (pc' := 8) dX12_unit_6 rfl (by decide) ?_
    refine Go_callS_i (pc' := 11) (As := [.int _, .int _, .int _]) (st := []) dX12_unit_8 rfl ok_X12_isIn km_RX12_147 rfl (Nat.le_of_ble_eq_true rfl) rfl rfl rfl (Nat.le_of_ble_eq_true rfl) (Nat.lt_succ_self _) ?_
    refine s_isInY (by first | exact ⟨i_lo _, i_hi _⟩ | omega) (by first | exact ⟨i_lo _, i_hi _⟩ | omega) (by first | exact ⟨i_lo _, i_hi _⟩ | omega) ?_
    refine ⟨_, rfl, ?_⟩
    refine Go_istore_n (pc' := 12) (lv' := [.ref _, .int _]) dX12_unit_11 rfl rfl (Nat.le_of_ble_eq_true rfl) rfl rfl ?_
    refine Go_aload_n (pc' := 13) dX12_unit_12 rfl rfl rfl ?_
    refine Go_getIv (v := (iZ (mtk (tC T n pos)))) (pc' := 16) dX12_unit_13 rfl kf_RX12_255 (by decide) (by decide) rfl (M.S.b 99 rfl rfl) (M.S.o 99 rfl rfl rfl) (M.e30) ?_
    refine Go_iconst (v := iZ 2) (pc' := 17) dX12_unit_16 rfl (by decide) ?_
    refine Go_icmp_eqY (tgt := 30) (pc' := 20) dX12_unit_17 (by decide) rfl (by first | exact ⟨i_lo _, i_hi _⟩ | omega) (by first | exact ⟨i_lo _, i_hi _⟩ | omega) (fun c17 => ?_) (fun c17 => ?_)
    · refine Go_aload_n (pc' := 31) dX12_unit_30 rfl rfl rfl ?_
      refine Go_iload_n (pc' := 32) dX12_unit_31 rfl rfl rfl ?_
      refine Go_if_eqb (tgt := 45) (pc' := 35) dX12_unit_32 (by decide) rfl (fun c32 => ?_) (fun c32 => ?_)
      · refine Go_iconst (v := iZ 0) (pc' := 46) dX12_unit_45 rfl (by decide) ?_
        refine Go_aload_n (pc' := 47) dX12_unit_46 rfl rfl rfl ?_
        refine Go_getIv (v := (iZ (tV T n pos))) (pc' := 50) dX12_unit_47 rfl kf_RX12_267 (by decide) (by decide) rfl (M.S.b 99 rfl rfl) (M.S.o 99 rfl rfl rfl) ((M.e32 h20)) ?_
        refine Go_callV_v (pc' := 53) (As := [.int _, .int _]) (st := []) dX12_unit_50 rfl ok_X12_lay km_RX12_292 (M.S.o 99 rfl rfl rfl) (M.S.b 99 rfl rfl) ⟨_, _, rfl⟩ rfl (Nat.le_of_ble_eq_true rfl) rfl rfl rfl (Nat.le_of_ble_eq_true rfl) (Nat.lt_succ_self _) ?_
        refine s_lay (k := 0) (v := iZ (tV T n pos)) M.S M.fe (zsteps hg (by omega)) (by decide) (fun H1 D1 E1 => ?_)
        refine ⟨rfl, ?_⟩
        rw [List.append_assoc] at E1
        have M1 := M.lay D1 E1
        refine Go_aload_n (pc' := 54) dX12_unit_53 rfl rfl rfl ?_
        refine Go_callV_v (pc' := 57) (As := []) (st := []) dX12_unit_54 rfl ok_X12_next0 km_RX12_279 (M1.S.o 99 rfl rfl rfl) (M1.S.b 99 rfl rfl) ⟨_, _, rfl⟩ rfl (Nat.le_of_ble_eq_true rfl) rfl rfl rfl (Nat.le_of_ble_eq_true rfl) (Nat.lt_succ_self _) ?_
        refine s_nx M1 (fun H2 D2 M2 => ?_)
        refine ⟨rfl, ?_⟩
        refine Go_iconst (v := iZ 1) (pc' := 58) dX12_unit_57 rfl (by decide) ?_
        refine Go_ireturn (ty := .boolean) dX12_unit_58 rfl rfl ?_
        exact kg H2 ((zPfe D1).tr (zPm D2)) tl.1 ⟨f ++ [(0, iZ (tV T n pos))], M2, C.st hp hn (by omega) zz, by rw [zlen1 rfl]; omega, ty_lay hy (tyS_n h40 hv)⟩
      · exfalso; omega
    · refine Go_iload_n (pc' := 21) dX12_unit_20 rfl rfl rfl ?_
      refine Go_if_neb (tgt := 30) (pc' := 24) dX12_unit_21 (by decide) rfl (fun c21 => ?_) (fun c21 => ?_)
      · refine Go_aload_n (pc' := 31) dX12_unit_30 rfl rfl rfl ?_
        refine Go_iload_n (pc' := 32) dX12_unit_31 rfl rfl rfl ?_
        refine Go_if_eqb (tgt := 45) (pc' := 35) dX12_unit_32 (by decide) rfl (fun c32 => ?_) (fun c32 => ?_)
        · refine Go_iconst (v := iZ 0) (pc' := 46) dX12_unit_45 rfl (by decide) ?_
          refine Go_aload_n (pc' := 47) dX12_unit_46 rfl rfl rfl ?_
          refine Go_getIv (v := (iZ (tV T n pos))) (pc' := 50) dX12_unit_47 rfl kf_RX12_267 (by decide) (by decide) rfl (M.S.b 99 rfl rfl) (M.S.o 99 rfl rfl rfl) ((M.e32 h20)) ?_
          refine Go_callV_v (pc' := 53) (As := [.int _, .int _]) (st := []) dX12_unit_50 rfl ok_X12_lay km_RX12_292 (M.S.o 99 rfl rfl rfl) (M.S.b 99 rfl rfl) ⟨_, _, rfl⟩ rfl (Nat.le_of_ble_eq_true rfl) rfl rfl rfl (Nat.le_of_ble_eq_true rfl) (Nat.lt_succ_self _) ?_
          refine s_lay (k := 0) (v := iZ (tV T n pos)) M.S M.fe (zsteps hg (by omega)) (by decide) (fun H1 D1 E1 => ?_)
          refine ⟨rfl, ?_⟩
          rw [List.append_assoc] at E1
          have M1 := M.lay D1 E1
          refine Go_aload_n (pc' := 54) dX12_unit_53 rfl rfl rfl ?_
          refine Go_callV_v (pc' := 57) (As := []) (st := []) dX12_unit_54 rfl ok_X12_next0 km_RX12_279 (M1.S.o 99 rfl rfl rfl) (M1.S.b 99 rfl rfl) ⟨_, _, rfl⟩ rfl (Nat.le_of_ble_eq_true rfl) rfl rfl rfl (Nat.le_of_ble_eq_true rfl) (Nat.lt_succ_self _) ?_
          refine s_nx M1 (fun H2 D2 M2 => ?_)
          refine ⟨rfl, ?_⟩
          refine Go_iconst (v := iZ 1) (pc' := 58) dX12_unit_57 rfl (by decide) ?_
          refine Go_ireturn (ty := .boolean) dX12_unit_58 rfl rfl ?_
          exact kg H2 ((zPfe D1).tr (zPm D2)) tl.1 ⟨f ++ [(0, iZ (tV T n pos))], M2, C.st hp hn (by omega) zz, by rw [zlen1 rfl]; omega, ty_lay hy (tyS_n h40 hv)⟩
        · exfalso; omega
      · exfalso; omega
  · by_cases hf : 7 ≤ tC T n pos ∧ tC T n pos ≤ 13
    · have tl := tE_lt (T := T) hp (by omega)
      obtain ⟨k, hk, hc⟩ : ∃ k : Nat, (1 ≤ k ∧ k ≤ 7) ∧ tC T n pos = (k : Int) + 6 := ⟨(tC T n pos - 6).toNat, by omega, by omega⟩
      have zz : zst (tC T n pos) (tV T n pos) (st, vd, cm, W, O0 ++ zco f, L) = (0, (5, vd, cm', W, O0 ++ zco (f ++ [(k, iZ (vi H 99 32).toInt)]), L)) := by
        rw [hz, zunit_f hf, zco_app, ← List.append_assoc, stepC_f hk]
        show ((0 : Int), ((5 : Int), vd, cm', W, zadd (O0 ++ zco f) (iZ (10000 + tC T n pos)), L)) = _
        rw [zadd_a (by omega), show iZ (10000 + tC T n pos) = nI (10006 + k) from by rw [← iZ_nat]; exact congrArg iZ (by omega)]
      refine Go_aload_n (pc' := 1) dX12_unit_0 rfl rfl rfl ?_
      refine Go_getIv (v := (iZ (mtk (tC T n pos)))) (pc' := 4) dX12_unit_1 rfl kf_RX12_255 (by decide) (by decide) rfl (M.S.b 99 rfl rfl) (M.S.o 99 rfl rfl rfl) (M.e30) ?_
      refine Go_bipush (v := iZ 21) (pc' := 6) dX12_unit_4 rfl (by decide) ?_
      refine Go_bipush (v := iZ 27) (pc' := 8) dX12_unit_6 rfl (by decide) ?_
      refine Go_callS_i (pc' := 11) (As := [.int _, .int _, .int _]) (st := []) dX12_unit_8 rfl ok_X12_isIn km_RX12_147 rfl (Nat.le_of_ble_eq_true rfl) rfl rfl rfl (Nat.le_of_ble_eq_true rfl) (Nat.lt_succ_self _) ?_
      refine s_isInY (by first | exact ⟨i_lo _, i_hi _⟩ | omega) (by first | exact ⟨i_lo _, i_hi _⟩ | omega) (by first | exact ⟨i_lo _, i_hi _⟩ | omega) ?_
      refine ⟨_, rfl, ?_⟩
      refine Go_istore_n (pc' := 12) (lv' := [.ref _, .int _]) dX12_unit_11 rfl rfl (Nat.le_of_ble_eq_true rfl) rfl rfl ?_
      refine Go_aload_n (pc' := 13) dX12_unit_12 rfl rfl rfl ?_
      refine Go_getIv (v := (iZ (mtk (tC T n pos)))) (pc' := 16) dX12_unit_13 rfl kf_RX12_255 (by decide) (by decide) rfl (M.S.b 99 rfl rfl) (M.S.o 99 rfl rfl rfl) (M.e30) ?_
      refine Go_iconst (v := iZ 2) (pc' := 17) dX12_unit_16 rfl (by decide) ?_
      refine Go_icmp_eqY (tgt := 30) (pc' := 20) dX12_unit_17 (by decide) rfl (by first | exact ⟨i_lo _, i_hi _⟩ | omega) (by first | exact ⟨i_lo _, i_hi _⟩ | omega) (fun c17 => ?_) (fun c17 => ?_)
      · refine Go_aload_n (pc' := 31) dX12_unit_30 rfl rfl rfl ?_
        refine Go_iload_n (pc' := 32) dX12_unit_31 rfl rfl rfl ?_
        refine Go_if_eqb (tgt := 45) (pc' := 35) dX12_unit_32 (by decide) rfl (fun c32 => ?_) (fun c32 => ?_)
        · exfalso; omega
        · refine Go_aload_n (pc' := 36) dX12_unit_35 rfl rfl rfl ?_
          refine Go_getIv (v := (iZ (mtk (tC T n pos)))) (pc' := 39) dX12_unit_36 rfl kf_RX12_255 (by decide) (by decide) rfl (M.S.b 99 rfl rfl) (M.S.o 99 rfl rfl rfl) (M.e30) ?_
          refine Go_bipush (v := iZ 20) (pc' := 41) dX12_unit_39 rfl (by decide) ?_
          refine Go_isubZ (pc' := 42) dX12_unit_41 rfl ?_
          refine Go_goto (tgt := 46) dX12_unit_42 (by decide) ?_
          refine Go_aload_n (pc' := 47) dX12_unit_46 rfl rfl rfl ?_
          refine Go_getIv (v := (iZ (vi H 99 32).toInt)) (pc' := 50) dX12_unit_47 rfl kf_RX12_267 (by decide) (by decide) rfl (M.S.b 99 rfl rfl) (M.S.o 99 rfl rfl rfl) (vi_eta _ _ _) ?_
          refine Go_callV_v (pc' := 53) (As := [.int _, .int _]) (st := []) dX12_unit_50 rfl ok_X12_lay km_RX12_292 (M.S.o 99 rfl rfl rfl) (M.S.b 99 rfl rfl) ⟨_, _, rfl⟩ rfl (Nat.le_of_ble_eq_true rfl) rfl rfl rfl (Nat.le_of_ble_eq_true rfl) (Nat.lt_succ_self _) ?_
          refine s_lay (k := k) (v := iZ (vi H 99 32).toInt) M.S M.fe (zsteps hg (by omega)) (by rw [← iZ_nat]; exact congrArg iZ (by omega)) (fun H1 D1 E1 => ?_)
          refine ⟨rfl, ?_⟩
          rw [List.append_assoc] at E1
          have M1 := M.lay D1 E1
          refine Go_aload_n (pc' := 54) dX12_unit_53 rfl rfl rfl ?_
          refine Go_callV_v (pc' := 57) (As := []) (st := []) dX12_unit_54 rfl ok_X12_next0 km_RX12_279 (M1.S.o 99 rfl rfl rfl) (M1.S.b 99 rfl rfl) ⟨_, _, rfl⟩ rfl (Nat.le_of_ble_eq_true rfl) rfl rfl rfl (Nat.le_of_ble_eq_true rfl) (Nat.lt_succ_self _) ?_
          refine s_nx M1 (fun H2 D2 M2 => ?_)
          refine ⟨rfl, ?_⟩
          refine Go_iconst (v := iZ 1) (pc' := 58) dX12_unit_57 rfl (by decide) ?_
          refine Go_ireturn (ty := .boolean) dX12_unit_58 rfl rfl ?_
          exact kg H2 ((zPfe D1).tr (zPm D2)) tl.1 ⟨f ++ [(k, iZ (vi H 99 32).toInt)], M2, C.st hp hn (by omega) zz, by rw [zlen1 (stepC_f hk)]; omega, ty_lay hy (tyS_f h40 hk)⟩
      · refine Go_iload_n (pc' := 21) dX12_unit_20 rfl rfl rfl ?_
        refine Go_if_neb (tgt := 30) (pc' := 24) dX12_unit_21 (by decide) rfl (fun c21 => ?_) (fun c21 => ?_)
        · refine Go_aload_n (pc' := 31) dX12_unit_30 rfl rfl rfl ?_
          refine Go_iload_n (pc' := 32) dX12_unit_31 rfl rfl rfl ?_
          refine Go_if_eqb (tgt := 45) (pc' := 35) dX12_unit_32 (by decide) rfl (fun c32 => ?_) (fun c32 => ?_)
          · exfalso; omega
          · refine Go_aload_n (pc' := 36) dX12_unit_35 rfl rfl rfl ?_
            refine Go_getIv (v := (iZ (mtk (tC T n pos)))) (pc' := 39) dX12_unit_36 rfl kf_RX12_255 (by decide) (by decide) rfl (M.S.b 99 rfl rfl) (M.S.o 99 rfl rfl rfl) (M.e30) ?_
            refine Go_bipush (v := iZ 20) (pc' := 41) dX12_unit_39 rfl (by decide) ?_
            refine Go_isubZ (pc' := 42) dX12_unit_41 rfl ?_
            refine Go_goto (tgt := 46) dX12_unit_42 (by decide) ?_
            refine Go_aload_n (pc' := 47) dX12_unit_46 rfl rfl rfl ?_
            refine Go_getIv (v := (iZ (vi H 99 32).toInt)) (pc' := 50) dX12_unit_47 rfl kf_RX12_267 (by decide) (by decide) rfl (M.S.b 99 rfl rfl) (M.S.o 99 rfl rfl rfl) (vi_eta _ _ _) ?_
            refine Go_callV_v (pc' := 53) (As := [.int _, .int _]) (st := []) dX12_unit_50 rfl ok_X12_lay km_RX12_292 (M.S.o 99 rfl rfl rfl) (M.S.b 99 rfl rfl) ⟨_, _, rfl⟩ rfl (Nat.le_of_ble_eq_true rfl) rfl rfl rfl (Nat.le_of_ble_eq_true rfl) (Nat.lt_succ_self _) ?_
            refine s_lay (k := k) (v := iZ (vi H 99 32).toInt) M.S M.fe (zsteps hg (by omega)) (by rw [← iZ_nat]; exact congrArg iZ (by omega)) (fun H1 D1 E1 => ?_)
            refine ⟨rfl, ?_⟩
            rw [List.append_assoc] at E1
            have M1 := M.lay D1 E1
            refine Go_aload_n (pc' := 54) dX12_unit_53 rfl rfl rfl ?_
            refine Go_callV_v (pc' := 57) (As := []) (st := []) dX12_unit_54 rfl ok_X12_next0 km_RX12_279 (M1.S.o 99 rfl rfl rfl) (M1.S.b 99 rfl rfl) ⟨_, _, rfl⟩ rfl (Nat.le_of_ble_eq_true rfl) rfl rfl rfl (Nat.le_of_ble_eq_true rfl) (Nat.lt_succ_self _) ?_
            refine s_nx M1 (fun H2 D2 M2 => ?_)
            refine ⟨rfl, ?_⟩
            refine Go_iconst (v := iZ 1) (pc' := 58) dX12_unit_57 rfl (by decide) ?_
            refine Go_ireturn (ty := .boolean) dX12_unit_58 rfl rfl ?_
            exact kg H2 ((zPfe D1).tr (zPm D2)) tl.1 ⟨f ++ [(k, iZ (vi H 99 32).toInt)], M2, C.st hp hn (by omega) zz, by rw [zlen1 (stepC_f hk)]; omega, ty_lay hy (tyS_f h40 hk)⟩
        · exfalso; omega
    · refine Go_aload_n (pc' := 1) dX12_unit_0 rfl rfl rfl ?_
      refine Go_getIv (v := (iZ (mtk (tC T n pos)))) (pc' := 4) dX12_unit_1 rfl kf_RX12_255 (by decide) (by decide) rfl (M.S.b 99 rfl rfl) (M.S.o 99 rfl rfl rfl) (M.e30) ?_
      refine Go_bipush (v := iZ 21) (pc' := 6) dX12_unit_4 rfl (by decide) ?_
      refine Go_bipush (v := iZ 27) (pc' := 8) dX12_unit_6 rfl (by decide) ?_
      refine Go_callS_i (pc' := 11) (As := [.int _, .int _, .int _]) (st := []) dX12_unit_8 rfl ok_X12_isIn km_RX12_147 rfl (Nat.le_of_ble_eq_true rfl) rfl rfl rfl (Nat.le_of_ble_eq_true rfl) (Nat.lt_succ_self _) ?_
      refine s_isInY (by first | exact ⟨i_lo _, i_hi _⟩ | omega) (by first | exact ⟨i_lo _, i_hi _⟩ | omega) (by first | exact ⟨i_lo _, i_hi _⟩ | omega) ?_
      refine ⟨_, rfl, ?_⟩
      refine Go_istore_n (pc' := 12) (lv' := [.ref _, .int _]) dX12_unit_11 rfl rfl (Nat.le_of_ble_eq_true rfl) rfl rfl ?_
      refine Go_aload_n (pc' := 13) dX12_unit_12 rfl rfl rfl ?_
      refine Go_getIv (v := (iZ (mtk (tC T n pos)))) (pc' := 16) dX12_unit_13 rfl kf_RX12_255 (by decide) (by decide) rfl (M.S.b 99 rfl rfl) (M.S.o 99 rfl rfl rfl) (M.e30) ?_
      refine Go_iconst (v := iZ 2) (pc' := 17) dX12_unit_16 rfl (by decide) ?_
      refine Go_icmp_eqY (tgt := 30) (pc' := 20) dX12_unit_17 (by decide) rfl (by first | exact ⟨i_lo _, i_hi _⟩ | omega) (by first | exact ⟨i_lo _, i_hi _⟩ | omega) (fun c17 => ?_) (fun c17 => ?_)
      · exfalso; omega
      · refine Go_iload_n (pc' := 21) dX12_unit_20 rfl rfl rfl ?_
        refine Go_if_neb (tgt := 30) (pc' := 24) dX12_unit_21 (by decide) rfl (fun c21 => ?_) (fun c21 => ?_)
        · exfalso; omega
        · refine Go_aload_n (pc' := 25) dX12_unit_24 rfl rfl rfl ?_
          refine Go_iconst (v := iZ 1) (pc' := 26) dX12_unit_25 rfl (by decide) ?_
          refine Go_callV_i (pc' := 29) (As := [.int _]) (st := []) dX12_unit_26 rfl ok_X12_bad km_RX12_276 (M.S.o 99 rfl rfl rfl) (M.S.b 99 rfl rfl) ⟨_, _, rfl⟩ rfl (Nat.le_of_ble_eq_true rfl) rfl rfl rfl (Nat.le_of_ble_eq_true rfl) (Nat.lt_succ_self _) ?_
          refine s_bad (k := 1) M.S M.e31 ?_
          refine ⟨_, rfl, ?_⟩
          refine Go_ireturn (ty := .boolean) dX12_unit_29 rfl rfl ?_
          exact kb _ zBdd (C.bd (by omega) (fun z => hs z.2) (by rw [hz, zunit_b h20 hf]) (by decide))
set_option maxRecDepth 20000 in
set_option maxHeartbeats 4000000 in
theorem pr_loop {G : GC} {d mc ms : Nat} {K : Option Value → HS → Prop} {T : Nat → Int} {n : Nat} {s0 : St6} {g0 : List Stp2} {O0 : List Int32} {vd : Int} {L : Nat} {W : List Int} {ts : List Bool} {dep cm : Int} (hW : W.length ≤ 38) (ht : ztp 6 W) (h2y : ts.length ≤ W.length) (hg : g0.length ≤ O0.length) : ∀ (m : Nat) (H : HS) (pos : Nat) (y : Value), n < pos + m → zXt T n s0 g0 O0 vd L 6 W (false :: ts) dep 5 cm H pos → (∀ H', DX zPb H H' → zBd T n s0 H' → K (some (.int (iZ 0))) H') → (∀ H' pos', DX zPe H H' → pos ≤ pos' → zXt T n s0 g0 O0 vd L 6 W (false :: ts) dep 5 cm H' pos' → ¬ tC T n pos' = 142 → ¬ tC T n pos' = 147 → K (some (.int (iZ 1))) H') → Go G (d + 8) mc ms M_X12_product 9 [.ref 99, y] [] H K := by
  intro m
  induction m with
  | zero =>
    intro H pos y hm X kb kg
    obtain ⟨f, W1, o1, M, C, hr, hb, hy⟩ := X
    have := M.hp
    exfalso; omega
  | succ m ih =>
    intro H pos y hm X kb kg
    obtain ⟨f, W1, o1, M, C, hr, hb, hy⟩ := X
    have hp := M.hp
    have hn := M.hn
    have mx := mtk_x (tC_s (T := T) (n := n) (pos := pos))
    by_cases h1 : tC T n pos = 142
    · have tl := tE_lt (T := T) hp (by omega)
      have z1 := z_prod (v := tV T n pos) (vd := vd) (cm := cm) (L := L) (Or.inl h1) hr ht (by omega)
      rw [if_neg (by omega)] at z1
      have C1 := C.st hp hn (by omega) z1
      rw [h1] at C1
      refine Go_aload_n (pc' := 10) dX12_product_9 rfl rfl rfl ?_
      refine Go_getIv (v := (iZ (mtk (tC T n pos)))) (pc' := 13) dX12_product_10 rfl kf_RX12_255 (by decide) (by decide) rfl (M.S.b 99 rfl rfl) (M.S.o 99 rfl rfl rfl) (M.e30) ?_
      refine Go_sipush (v := iZ 142) (pc' := 16) dX12_product_13 rfl (by decide) ?_
      refine Go_icmp_eqY (tgt := 29) (pc' := 19) dX12_product_16 (by decide) rfl (by first | exact ⟨i_lo _, i_hi _⟩ | omega) (by first | exact ⟨i_lo _, i_hi _⟩ | omega) (fun c16 => ?_) (fun c16 => ?_)
      · refine Go_aload_n (pc' := 30) dX12_product_29 rfl rfl rfl ?_
        refine Go_getIv (v := (iZ (mtk (tC T n pos)))) (pc' := 33) dX12_product_30 rfl kf_RX12_255 (by decide) (by decide) rfl (M.S.b 99 rfl rfl) (M.S.o 99 rfl rfl rfl) (M.e30) ?_
        refine Go_sipush (v := iZ 147) (pc' := 36) dX12_product_33 rfl (by decide) ?_
        refine Go_icmp_neY (tgt := 43) (pc' := 39) dX12_product_36 (by decide) rfl (by first | exact ⟨i_lo _, i_hi _⟩ | omega) (by first | exact ⟨i_lo _, i_hi _⟩ | omega) (fun c36 => ?_) (fun c36 => ?_)
        · refine Go_iconst (v := iZ 0) (pc' := 44) dX12_product_43 rfl (by decide) ?_
          refine Go_istore_n (pc' := 45) (lv' := [.ref _, .int _]) dX12_product_44 rfl rfl (Nat.le_of_ble_eq_true rfl) rfl rfl ?_
          refine Go_aload_n (pc' := 46) dX12_product_45 rfl rfl rfl ?_
          refine Go_callV_v (pc' := 49) (As := []) (st := []) dX12_product_46 rfl ok_X12_next0 km_RX12_279 (M.S.o 99 rfl rfl rfl) (M.S.b 99 rfl rfl) ⟨_, _, rfl⟩ rfl (Nat.le_of_ble_eq_true rfl) rfl rfl rfl (Nat.le_of_ble_eq_true rfl) (Nat.lt_succ_self _) ?_
          refine s_nx M (fun H1 D1 M1 => ?_)
          refine ⟨rfl, ?_⟩
          have X1 : zEn T n s0 g0 O0 vd L (142 :: W) (false :: ts) dep 3 cm H1 (tE T n pos) := ⟨f, M1, C1, by rw [List.length_cons]; omega, hy⟩
          refine Go_iload_n (pc' := 50) dX12_product_49 rfl rfl rfl ?_
          refine Go_if_eqY (tgt := 97) (pc' := 53) dX12_product_50 (by decide) rfl (by first | exact ⟨i_lo _, i_hi _⟩ | omega) (fun c50 => ?_) (fun c50 => by exfalso; omega)
          refine Go_aload_n (pc' := 98) dX12_product_97 rfl rfl rfl ?_
          refine Go_callV_i (pc' := 101) (As := []) (st := []) dX12_product_98 rfl ok_X12_unit km_RX12_296 (M1.S.o 99 rfl rfl rfl) (M1.S.b 99 rfl rfl) ⟨_, _, rfl⟩ rfl (Nat.le_of_ble_eq_true rfl) rfl rfl rfl (Nat.le_of_ble_eq_true rfl) (Nat.lt_succ_self _) ?_
          refine m_unit X1 (by decide) (fun _ => z_u3) (by rw [List.length_cons]; omega) hg (fun H2 D2 B2 => ?_) (fun H2 D2 l2 X2 => ?_)
          · refine ⟨_, rfl, ?_⟩
            refine Go_if_neY (tgt := 106) (pc' := 104) dX12_product_101 (by decide) rfl (by first | exact ⟨i_lo _, i_hi _⟩ | omega) (fun c101 => by exfalso; omega) (fun c101 => ?_)
            refine Go_iconst (v := iZ 0) (pc' := 105) dX12_product_104 rfl (by decide) ?_
            refine Go_ireturn (ty := .boolean) dX12_product_105 rfl rfl ?_
            exact kb H2 ((zPeb (zPm D1)).tr D2) B2
          · refine ⟨_, rfl, ?_⟩
            obtain ⟨f2, M2, C2, b2, y2⟩ := X2
            have hp2 := M2.hp
            have b2' := b2
            rw [List.length_cons] at b2'
            refine Go_if_neY (tgt := 106) (pc' := 104) dX12_product_101 (by decide) rfl (by first | exact ⟨i_lo _, i_hi _⟩ | omega) (fun c101 => ?_) (fun c101 => by exfalso; omega)
            refine Go_aload_n (pc' := 107) dX12_product_106 rfl rfl rfl ?_
            refine Go_bipush (v := iZ 10) (pc' := 109) dX12_product_107 rfl (by decide) ?_
            refine Go_iconst (v := iZ 0) (pc' := 110) dX12_product_109 rfl (by decide) ?_
            refine Go_callV_v (pc' := 113) (As := [.int _, .int _]) (st := []) dX12_product_110 rfl ok_X12_lay km_RX12_292 (M2.S.o 99 rfl rfl rfl) (M2.S.b 99 rfl rfl) ⟨_, _, rfl⟩ rfl (Nat.le_of_ble_eq_true rfl) rfl rfl rfl (Nat.le_of_ble_eq_true rfl) (Nat.lt_succ_self _) ?_
            refine s_lay (k := 10) M2.S M2.fe (zsteps hg (by omega)) (by decide) (fun H3 D3 E3 => ?_)
            refine ⟨rfl, ?_⟩
            refine Go_goto (tgt := 9) dX12_product_113 (by decide) ?_
            exact ih H3 _ _ (by omega) (zXt.lay (r' := 6) M2 C2 rfl b2 y2 D3 E3 (by decide) (by decide) (by decide) (tyS_a (by omega))) (fun H9 D9 B9 => kb H9 ((zPeb ((zPm D1).tr (D2.tr (zPfe D3)))).tr D9) B9) (fun H9 p9 D9 l9 X9 n0 n1 => kg H9 p9 (((zPm D1).tr (D2.tr (zPfe D3))).tr D9) (by omega) X9 n0 n1)
        · exfalso; omega
      · refine Go_aload_n (pc' := 20) dX12_product_19 rfl rfl rfl ?_
        refine Go_getIv (v := (iZ (mtk (tC T n pos)))) (pc' := 23) dX12_product_20 rfl kf_RX12_255 (by decide) (by decide) rfl (M.S.b 99 rfl rfl) (M.S.o 99 rfl rfl rfl) (M.e30) ?_
        refine Go_sipush (v := iZ 147) (pc' := 26) dX12_product_23 rfl (by decide) ?_
        refine Go_icmp_neY (tgt := 116) (pc' := 29) dX12_product_26 (by decide) rfl (by first | exact ⟨i_lo _, i_hi _⟩ | omega) (by first | exact ⟨i_lo _, i_hi _⟩ | omega) (fun c26 => ?_) (fun c26 => ?_)
        · exfalso; omega
        · refine Go_aload_n (pc' := 30) dX12_product_29 rfl rfl rfl ?_
          refine Go_getIv (v := (iZ (mtk (tC T n pos)))) (pc' := 33) dX12_product_30 rfl kf_RX12_255 (by decide) (by decide) rfl (M.S.b 99 rfl rfl) (M.S.o 99 rfl rfl rfl) (M.e30) ?_
          refine Go_sipush (v := iZ 147) (pc' := 36) dX12_product_33 rfl (by decide) ?_
          refine Go_icmp_neY (tgt := 43) (pc' := 39) dX12_product_36 (by decide) rfl (by first | exact ⟨i_lo _, i_hi _⟩ | omega) (by first | exact ⟨i_lo _, i_hi _⟩ | omega) (fun c36 => ?_) (fun c36 => ?_)
          · refine Go_iconst (v := iZ 0) (pc' := 44) dX12_product_43 rfl (by decide) ?_
            refine Go_istore_n (pc' := 45) (lv' := [.ref _, .int _]) dX12_product_44 rfl rfl (Nat.le_of_ble_eq_true rfl) rfl rfl ?_
            refine Go_aload_n (pc' := 46) dX12_product_45 rfl rfl rfl ?_
            refine Go_callV_v (pc' := 49) (As := []) (st := []) dX12_product_46 rfl ok_X12_next0 km_RX12_279 (M.S.o 99 rfl rfl rfl) (M.S.b 99 rfl rfl) ⟨_, _, rfl⟩ rfl (Nat.le_of_ble_eq_true rfl) rfl rfl rfl (Nat.le_of_ble_eq_true rfl) (Nat.lt_succ_self _) ?_
            refine s_nx M (fun H1 D1 M1 => ?_)
            refine ⟨rfl, ?_⟩
            have X1 : zEn T n s0 g0 O0 vd L (142 :: W) (false :: ts) dep 3 cm H1 (tE T n pos) := ⟨f, M1, C1, by rw [List.length_cons]; omega, hy⟩
            refine Go_iload_n (pc' := 50) dX12_product_49 rfl rfl rfl ?_
            refine Go_if_eqY (tgt := 97) (pc' := 53) dX12_product_50 (by decide) rfl (by first | exact ⟨i_lo _, i_hi _⟩ | omega) (fun c50 => ?_) (fun c50 => by exfalso; omega)
            refine Go_aload_n (pc' := 98) dX12_product_97 rfl rfl rfl ?_
            refine Go_callV_i (pc' := 101) (As := []) (st := []) dX12_product_98 rfl ok_X12_unit km_RX12_296 (M1.S.o 99 rfl rfl rfl) (M1.S.b 99 rfl rfl) ⟨_, _, rfl⟩ rfl (Nat.le_of_ble_eq_true rfl) rfl rfl rfl (Nat.le_of_ble_eq_true rfl) (Nat.lt_succ_self _) ?_
            refine m_unit X1 (by decide) (fun _ => z_u3) (by rw [List.length_cons]; omega) hg (fun H2 D2 B2 => ?_) (fun H2 D2 l2 X2 => ?_)
            · refine ⟨_, rfl, ?_⟩
              refine Go_if_neY (tgt := 106) (pc' := 104) dX12_product_101 (by decide) rfl (by first | exact ⟨i_lo _, i_hi _⟩ | omega) (fun c101 => by exfalso; omega) (fun c101 => ?_)
              refine Go_iconst (v := iZ 0) (pc' := 105) dX12_product_104 rfl (by decide) ?_
              refine Go_ireturn (ty := .boolean) dX12_product_105 rfl rfl ?_
              exact kb H2 ((zPeb (zPm D1)).tr D2) B2
            · refine ⟨_, rfl, ?_⟩
              obtain ⟨f2, M2, C2, b2, y2⟩ := X2
              have hp2 := M2.hp
              have b2' := b2
              rw [List.length_cons] at b2'
              refine Go_if_neY (tgt := 106) (pc' := 104) dX12_product_101 (by decide) rfl (by first | exact ⟨i_lo _, i_hi _⟩ | omega) (fun c101 => ?_) (fun c101 => by exfalso; omega)
              refine Go_aload_n (pc' := 107) dX12_product_106 rfl rfl rfl ?_
              refine Go_bipush (v := iZ 10) (pc' := 109) dX12_product_107 rfl (by decide) ?_
              refine Go_iconst (v := iZ 0) (pc' := 110) dX12_product_109 rfl (by decide) ?_
              refine Go_callV_v (pc' := 113) (As := [.int _, .int _]) (st := []) dX12_product_110 rfl ok_X12_lay km_RX12_292 (M2.S.o 99 rfl rfl rfl) (M2.S.b 99 rfl rfl) ⟨_, _, rfl⟩ rfl (Nat.le_of_ble_eq_true rfl) rfl rfl rfl (Nat.le_of_ble_eq_true rfl) (Nat.lt_succ_self _) ?_
              refine s_lay (k := 10) M2.S M2.fe (zsteps hg (by omega)) (by decide) (fun H3 D3 E3 => ?_)
              refine ⟨rfl, ?_⟩
              refine Go_goto (tgt := 9) dX12_product_113 (by decide) ?_
              exact ih H3 _ _ (by omega) (zXt.lay (r' := 6) M2 C2 rfl b2 y2 D3 E3 (by decide) (by decide) (by decide) (tyS_a (by omega))) (fun H9 D9 B9 => kb H9 ((zPeb ((zPm D1).tr (D2.tr (zPfe D3)))).tr D9) B9) (fun H9 p9 D9 l9 X9 n0 n1 => kg H9 p9 (((zPm D1).tr (D2.tr (zPfe D3))).tr D9) (by omega) X9 n0 n1)
          · exfalso; omega
    · by_cases h2 : tC T n pos = 147
      · have tl := tE_lt (T := T) hp (by omega)
        have z1 := z_prod (v := tV T n pos) (vd := vd) (cm := cm) (L := L) (Or.inr h2) hr ht (by omega)
        rw [if_pos h2] at z1
        have C1 := C.st hp hn (by omega) z1
        rw [h2] at C1
        refine Go_aload_n (pc' := 10) dX12_product_9 rfl rfl rfl ?_
        refine Go_getIv (v := (iZ (mtk (tC T n pos)))) (pc' := 13) dX12_product_10 rfl kf_RX12_255 (by decide) (by decide) rfl (M.S.b 99 rfl rfl) (M.S.o 99 rfl rfl rfl) (M.e30) ?_
        refine Go_sipush (v := iZ 142) (pc' := 16) dX12_product_13 rfl (by decide) ?_
        refine Go_icmp_eqY (tgt := 29) (pc' := 19) dX12_product_16 (by decide) rfl (by first | exact ⟨i_lo _, i_hi _⟩ | omega) (by first | exact ⟨i_lo _, i_hi _⟩ | omega) (fun c16 => ?_) (fun c16 => ?_)
        · refine Go_aload_n (pc' := 30) dX12_product_29 rfl rfl rfl ?_
          refine Go_getIv (v := (iZ (mtk (tC T n pos)))) (pc' := 33) dX12_product_30 rfl kf_RX12_255 (by decide) (by decide) rfl (M.S.b 99 rfl rfl) (M.S.o 99 rfl rfl rfl) (M.e30) ?_
          refine Go_sipush (v := iZ 147) (pc' := 36) dX12_product_33 rfl (by decide) ?_
          refine Go_icmp_neY (tgt := 43) (pc' := 39) dX12_product_36 (by decide) rfl (by first | exact ⟨i_lo _, i_hi _⟩ | omega) (by first | exact ⟨i_lo _, i_hi _⟩ | omega) (fun c36 => ?_) (fun c36 => ?_)
          · exfalso; omega
          · refine Go_iconst (v := iZ 1) (pc' := 40) dX12_product_39 rfl (by decide) ?_
            refine Go_goto (tgt := 44) dX12_product_40 (by decide) ?_
            refine Go_istore_n (pc' := 45) (lv' := [.ref _, .int _]) dX12_product_44 rfl rfl (Nat.le_of_ble_eq_true rfl) rfl rfl ?_
            refine Go_aload_n (pc' := 46) dX12_product_45 rfl rfl rfl ?_
            refine Go_callV_v (pc' := 49) (As := []) (st := []) dX12_product_46 rfl ok_X12_next0 km_RX12_279 (M.S.o 99 rfl rfl rfl) (M.S.b 99 rfl rfl) ⟨_, _, rfl⟩ rfl (Nat.le_of_ble_eq_true rfl) rfl rfl rfl (Nat.le_of_ble_eq_true rfl) (Nat.lt_succ_self _) ?_
            refine s_nx M (fun H1 D1 M1 => ?_)
            refine ⟨rfl, ?_⟩
            have hp1 := M1.hp
            have mx1 := mtk_x (tC_s (T := T) (n := n) (pos := tE T n pos))
            by_cases h20 : tC T n (tE T n pos) = 20
            · have hv := tV_r h20
              have tl1 := tE_lt (T := T) hp1 (by omega)
              by_cases h0 : tV T n (tE T n pos) = 0
              · refine Go_iload_n (pc' := 50) dX12_product_49 rfl rfl rfl ?_
                refine Go_if_eqY (tgt := 97) (pc' := 53) dX12_product_50 (by decide) rfl (by first | exact ⟨i_lo _, i_hi _⟩ | omega) (fun c50 => by exfalso; omega) (fun c50 => ?_)
                refine Go_aload_n (pc' := 54) dX12_product_53 rfl rfl rfl ?_
                refine Go_getIv (v := (iZ (mtk (tC T n (tE T n pos))))) (pc' := 57) dX12_product_54 rfl kf_RX12_255 (by decide) (by decide) rfl (M1.S.b 99 rfl rfl) (M1.S.o 99 rfl rfl rfl) (M1.e30) ?_
                refine Go_iconst (v := iZ 2) (pc' := 58) dX12_product_57 rfl (by decide) ?_
                refine Go_icmp_eqY (tgt := 67) (pc' := 61) dX12_product_58 (by decide) rfl (by first | exact ⟨i_lo _, i_hi _⟩ | omega) (by first | exact ⟨i_lo _, i_hi _⟩ | omega) (fun c58 => ?_) (fun c58 => ?_)
                · refine Go_aload_n (pc' := 68) dX12_product_67 rfl rfl rfl ?_
                  refine Go_getIv (v := (iZ (tV T n (tE T n pos)))) (pc' := 71) dX12_product_68 rfl kf_RX12_267 (by decide) (by decide) rfl (M1.S.b 99 rfl rfl) (M1.S.o 99 rfl rfl rfl) ((M1.e32 h20)) ?_
                  refine Go_if_neY (tgt := 80) (pc' := 74) dX12_product_71 (by decide) rfl (by first | exact ⟨i_lo _, i_hi _⟩ | omega) (fun c71 => ?_) (fun c71 => ?_)
                  · exfalso; omega
                  · refine Go_aload_n (pc' := 75) dX12_product_74 rfl rfl rfl ?_
                    refine Go_iconst (v := iZ 2) (pc' := 76) dX12_product_75 rfl (by decide) ?_
                    refine Go_callV_i (pc' := 79) (As := [.int _]) (st := []) dX12_product_76 rfl ok_X12_bad km_RX12_276 (M1.S.o 99 rfl rfl rfl) (M1.S.b 99 rfl rfl) ⟨_, _, rfl⟩ rfl (Nat.le_of_ble_eq_true rfl) rfl rfl rfl (Nat.le_of_ble_eq_true rfl) (Nat.lt_succ_self _) ?_
                    refine s_bad (k := 2) M1.S M1.e31 ?_
                    refine ⟨_, rfl, ?_⟩
                    refine Go_ireturn (ty := .boolean) dX12_product_79 rfl rfl ?_
                    exact kb _ ((zPeb (zPm D1)).tr zBdd) (C1.bd (by omega) (fun z => absurd (show (4 : Int) = 0 from z.2) (by decide)) (show (zdiv _ _ _).1 = 2 by unfold zdiv; rw [if_pos h20, if_pos h0]) (by decide))
                · exfalso; omega
              · have zz : zst (tC T n (tE T n pos)) (tV T n (tE T n pos)) (4, vd, cm, 147 :: W, O0 ++ zco f, L) = (0, (5, vd, cm, 147 :: W, O0 ++ zco f ++ [iZ (tV T n (tE T n pos))], L)) := by
                  show zdiv _ _ _ = _
                  unfold zdiv
                  rw [if_pos h20, if_neg h0, zunit_n h20]
                  show ((0 : Int), ((5 : Int), vd, cm, 147 :: W, zadd (O0 ++ zco f) (iZ (tV T n (tE T n pos))), L)) = _
                  rw [zadd_a (by omega)]
                have zq : zrel 6 (147 :: W) (O0 ++ zco f ++ [iZ (tV T n (tE T n pos))]) = zrel 6 W (O0 ++ zco (f ++ [(11, iZ (tV T n (tE T n pos)))])) := by
                  rw [zrel_t (by decide), zadd_a (by rw [List.length_append]; show _ + 1 < _; omega), zco_app, List.append_assoc, List.append_assoc]
                  rfl
                refine Go_iload_n (pc' := 50) dX12_product_49 rfl rfl rfl ?_
                refine Go_if_eqY (tgt := 97) (pc' := 53) dX12_product_50 (by decide) rfl (by first | exact ⟨i_lo _, i_hi _⟩ | omega) (fun c50 => by exfalso; omega) (fun c50 => ?_)
                refine Go_aload_n (pc' := 54) dX12_product_53 rfl rfl rfl ?_
                refine Go_getIv (v := (iZ (mtk (tC T n (tE T n pos))))) (pc' := 57) dX12_product_54 rfl kf_RX12_255 (by decide) (by decide) rfl (M1.S.b 99 rfl rfl) (M1.S.o 99 rfl rfl rfl) (M1.e30) ?_
                refine Go_iconst (v := iZ 2) (pc' := 58) dX12_product_57 rfl (by decide) ?_
                refine Go_icmp_eqY (tgt := 67) (pc' := 61) dX12_product_58 (by decide) rfl (by first | exact ⟨i_lo _, i_hi _⟩ | omega) (by first | exact ⟨i_lo _, i_hi _⟩ | omega) (fun c58 => ?_) (fun c58 => ?_)
                · refine Go_aload_n (pc' := 68) dX12_product_67 rfl rfl rfl ?_
                  refine Go_getIv (v := (iZ (tV T n (tE T n pos)))) (pc' := 71) dX12_product_68 rfl kf_RX12_267 (by decide) (by decide) rfl (M1.S.b 99 rfl rfl) (M1.S.o 99 rfl rfl rfl) ((M1.e32 h20)) ?_
                  refine Go_if_neY (tgt := 80) (pc' := 74) dX12_product_71 (by decide) rfl (by first | exact ⟨i_lo _, i_hi _⟩ | omega) (fun c71 => ?_) (fun c71 => ?_)
                  · refine Go_aload_n (pc' := 81) dX12_product_80 rfl rfl rfl ?_
                    refine Go_bipush (v := iZ 11) (pc' := 83) dX12_product_81 rfl (by decide) ?_
                    refine Go_aload_n (pc' := 84) dX12_product_83 rfl rfl rfl ?_
                    refine Go_getIv (v := (iZ (tV T n (tE T n pos)))) (pc' := 87) dX12_product_84 rfl kf_RX12_267 (by decide) (by decide) rfl (M1.S.b 99 rfl rfl) (M1.S.o 99 rfl rfl rfl) ((M1.e32 h20)) ?_
                    refine Go_callV_v (pc' := 90) (As := [.int _, .int _]) (st := []) dX12_product_87 rfl ok_X12_lay km_RX12_292 (M1.S.o 99 rfl rfl rfl) (M1.S.b 99 rfl rfl) ⟨_, _, rfl⟩ rfl (Nat.le_of_ble_eq_true rfl) rfl rfl rfl (Nat.le_of_ble_eq_true rfl) (Nat.lt_succ_self _) ?_
                    refine s_lay (k := 11) M1.S M1.fe (zsteps hg (by omega)) (by decide) (fun H2 D2 E2 => ?_)
                    refine ⟨rfl, ?_⟩
                    rw [List.append_assoc] at E2
                    have M2 := M1.lay D2 E2
                    refine Go_aload_n (pc' := 91) dX12_product_90 rfl rfl rfl ?_
                    refine Go_callV_v (pc' := 94) (As := []) (st := []) dX12_product_91 rfl ok_X12_next0 km_RX12_279 (M2.S.o 99 rfl rfl rfl) (M2.S.b 99 rfl rfl) ⟨_, _, rfl⟩ rfl (Nat.le_of_ble_eq_true rfl) rfl rfl rfl (Nat.le_of_ble_eq_true rfl) (Nat.lt_succ_self _) ?_
                    refine s_nx M2 (fun H3 D3 M3 => ?_)
                    refine ⟨rfl, ?_⟩
                    refine Go_goto (tgt := 113) dX12_product_94 (by decide) ?_
                    refine Go_goto (tgt := 9) dX12_product_113 (by decide) ?_
                    exact ih H3 _ _ (by omega) ⟨f ++ [(11, iZ (tV T n (tE T n pos)))], _, _, M3, C1.st hp1 hn (by omega) zz, zq, by rw [zco_app, ← List.append_assoc, List.length_append]; show _ + 2 + _ ≤ _; omega, ty_lay hy (tyS_p (by omega) (by omega))⟩ (fun H9 D9 B9 => kb H9 ((zPeb ((zPm D1).tr ((zPfe D2).tr (zPm D3)))).tr D9) B9) (fun H9 p9 D9 l9 X9 n0 n1 => kg H9 p9 (((zPm D1).tr ((zPfe D2).tr (zPm D3))).tr D9) (by omega) X9 n0 n1)
                  · exfalso; omega
                · exfalso; omega
            · refine Go_iload_n (pc' := 50) dX12_product_49 rfl rfl rfl ?_
              refine Go_if_eqY (tgt := 97) (pc' := 53) dX12_product_50 (by decide) rfl (by first | exact ⟨i_lo _, i_hi _⟩ | omega) (fun c50 => by exfalso; omega) (fun c50 => ?_)
              refine Go_aload_n (pc' := 54) dX12_product_53 rfl rfl rfl ?_
              refine Go_getIv (v := (iZ (mtk (tC T n (tE T n pos))))) (pc' := 57) dX12_product_54 rfl kf_RX12_255 (by decide) (by decide) rfl (M1.S.b 99 rfl rfl) (M1.S.o 99 rfl rfl rfl) (M1.e30) ?_
              refine Go_iconst (v := iZ 2) (pc' := 58) dX12_product_57 rfl (by decide) ?_
              refine Go_icmp_eqY (tgt := 67) (pc' := 61) dX12_product_58 (by decide) rfl (by first | exact ⟨i_lo _, i_hi _⟩ | omega) (by first | exact ⟨i_lo _, i_hi _⟩ | omega) (fun c58 => ?_) (fun c58 => ?_)
              · exfalso; omega
              · refine Go_aload_n (pc' := 62) dX12_product_61 rfl rfl rfl ?_
                refine Go_iconst (v := iZ 1) (pc' := 63) dX12_product_62 rfl (by decide) ?_
                refine Go_callV_i (pc' := 66) (As := [.int _]) (st := []) dX12_product_63 rfl ok_X12_bad km_RX12_276 (M1.S.o 99 rfl rfl rfl) (M1.S.b 99 rfl rfl) ⟨_, _, rfl⟩ rfl (Nat.le_of_ble_eq_true rfl) rfl rfl rfl (Nat.le_of_ble_eq_true rfl) (Nat.lt_succ_self _) ?_
                refine s_bad (k := 1) M1.S M1.e31 ?_
                refine ⟨_, rfl, ?_⟩
                refine Go_ireturn (ty := .boolean) dX12_product_66 rfl rfl ?_
                exact kb _ ((zPeb (zPm D1)).tr zBdd) (C1.bd (by omega) (fun z => absurd (show (4 : Int) = 0 from z.2) (by decide)) (show (zdiv _ _ _).1 = 1 by unfold zdiv; rw [if_neg h20]) (by decide))
        · refine Go_aload_n (pc' := 20) dX12_product_19 rfl rfl rfl ?_
          refine Go_getIv (v := (iZ (mtk (tC T n pos)))) (pc' := 23) dX12_product_20 rfl kf_RX12_255 (by decide) (by decide) rfl (M.S.b 99 rfl rfl) (M.S.o 99 rfl rfl rfl) (M.e30) ?_
          refine Go_sipush (v := iZ 147) (pc' := 26) dX12_product_23 rfl (by decide) ?_
          refine Go_icmp_neY (tgt := 116) (pc' := 29) dX12_product_26 (by decide) rfl (by first | exact ⟨i_lo _, i_hi _⟩ | omega) (by first | exact ⟨i_lo _, i_hi _⟩ | omega) (fun c26 => ?_) (fun c26 => ?_)
          · exfalso; omega
          · refine Go_aload_n (pc' := 30) dX12_product_29 rfl rfl rfl ?_
            refine Go_getIv (v := (iZ (mtk (tC T n pos)))) (pc' := 33) dX12_product_30 rfl kf_RX12_255 (by decide) (by decide) rfl (M.S.b 99 rfl rfl) (M.S.o 99 rfl rfl rfl) (M.e30) ?_
            refine Go_sipush (v := iZ 147) (pc' := 36) dX12_product_33 rfl (by decide) ?_
            refine Go_icmp_neY (tgt := 43) (pc' := 39) dX12_product_36 (by decide) rfl (by first | exact ⟨i_lo _, i_hi _⟩ | omega) (by first | exact ⟨i_lo _, i_hi _⟩ | omega) (fun c36 => ?_) (fun c36 => ?_)
            · exfalso; omega
            · refine Go_iconst (v := iZ 1) (pc' := 40) dX12_product_39 rfl (by decide) ?_
              refine Go_goto (tgt := 44) dX12_product_40 (by decide) ?_
              refine Go_istore_n (pc' := 45) (lv' := [.ref _, .int _]) dX12_product_44 rfl rfl (Nat.le_of_ble_eq_true rfl) rfl rfl ?_
              refine Go_aload_n (pc' := 46) dX12_product_45 rfl rfl rfl ?_
              refine Go_callV_v (pc' := 49) (As := []) (st := []) dX12_product_46 rfl ok_X12_next0 km_RX12_279 (M.S.o 99 rfl rfl rfl) (M.S.b 99 rfl rfl) ⟨_, _, rfl⟩ rfl (Nat.le_of_ble_eq_true rfl) rfl rfl rfl (Nat.le_of_ble_eq_true rfl) (Nat.lt_succ_self _) ?_
              refine s_nx M (fun H1 D1 M1 => ?_)
              refine ⟨rfl, ?_⟩
              have hp1 := M1.hp
              have mx1 := mtk_x (tC_s (T := T) (n := n) (pos := tE T n pos))
              by_cases h20 : tC T n (tE T n pos) = 20
              · have hv := tV_r h20
                have tl1 := tE_lt (T := T) hp1 (by omega)
                by_cases h0 : tV T n (tE T n pos) = 0
                · refine Go_iload_n (pc' := 50) dX12_product_49 rfl rfl rfl ?_
                  refine Go_if_eqY (tgt := 97) (pc' := 53) dX12_product_50 (by decide) rfl (by first | exact ⟨i_lo _, i_hi _⟩ | omega) (fun c50 => by exfalso; omega) (fun c50 => ?_)
                  refine Go_aload_n (pc' := 54) dX12_product_53 rfl rfl rfl ?_
                  refine Go_getIv (v := (iZ (mtk (tC T n (tE T n pos))))) (pc' := 57) dX12_product_54 rfl kf_RX12_255 (by decide) (by decide) rfl (M1.S.b 99 rfl rfl) (M1.S.o 99 rfl rfl rfl) (M1.e30) ?_
                  refine Go_iconst (v := iZ 2) (pc' := 58) dX12_product_57 rfl (by decide) ?_
                  refine Go_icmp_eqY (tgt := 67) (pc' := 61) dX12_product_58 (by decide) rfl (by first | exact ⟨i_lo _, i_hi _⟩ | omega) (by first | exact ⟨i_lo _, i_hi _⟩ | omega) (fun c58 => ?_) (fun c58 => ?_)
                  · refine Go_aload_n (pc' := 68) dX12_product_67 rfl rfl rfl ?_
                    refine Go_getIv (v := (iZ (tV T n (tE T n pos)))) (pc' := 71) dX12_product_68 rfl kf_RX12_267 (by decide) (by decide) rfl (M1.S.b 99 rfl rfl) (M1.S.o 99 rfl rfl rfl) ((M1.e32 h20)) ?_
                    refine Go_if_neY (tgt := 80) (pc' := 74) dX12_product_71 (by decide) rfl (by first | exact ⟨i_lo _, i_hi _⟩ | omega) (fun c71 => ?_) (fun c71 => ?_)
                    · exfalso; omega
                    · refine Go_aload_n (pc' := 75) dX12_product_74 rfl rfl rfl ?_
                      refine Go_iconst (v := iZ 2) (pc' := 76) dX12_product_75 rfl (by decide) ?_
                      refine Go_callV_i (pc' := 79) (As := [.int _]) (st := []) dX12_product_76 rfl ok_X12_bad km_RX12_276 (M1.S.o 99 rfl rfl rfl) (M1.S.b 99 rfl rfl) ⟨_, _, rfl⟩ rfl (Nat.le_of_ble_eq_true rfl) rfl rfl rfl (Nat.le_of_ble_eq_true rfl) (Nat.lt_succ_self _) ?_
                      refine s_bad (k := 2) M1.S M1.e31 ?_
                      refine ⟨_, rfl, ?_⟩
                      refine Go_ireturn (ty := .boolean) dX12_product_79 rfl rfl ?_
                      exact kb _ ((zPeb (zPm D1)).tr zBdd) (C1.bd (by omega) (fun z => absurd (show (4 : Int) = 0 from z.2) (by decide)) (show (zdiv _ _ _).1 = 2 by unfold zdiv; rw [if_pos h20, if_pos h0]) (by decide))
                  · exfalso; omega
                · have zz : zst (tC T n (tE T n pos)) (tV T n (tE T n pos)) (4, vd, cm, 147 :: W, O0 ++ zco f, L) = (0, (5, vd, cm, 147 :: W, O0 ++ zco f ++ [iZ (tV T n (tE T n pos))], L)) := by
                    show zdiv _ _ _ = _
                    unfold zdiv
                    rw [if_pos h20, if_neg h0, zunit_n h20]
                    show ((0 : Int), ((5 : Int), vd, cm, 147 :: W, zadd (O0 ++ zco f) (iZ (tV T n (tE T n pos))), L)) = _
                    rw [zadd_a (by omega)]
                  have zq : zrel 6 (147 :: W) (O0 ++ zco f ++ [iZ (tV T n (tE T n pos))]) = zrel 6 W (O0 ++ zco (f ++ [(11, iZ (tV T n (tE T n pos)))])) := by
                    rw [zrel_t (by decide), zadd_a (by rw [List.length_append]; show _ + 1 < _; omega), zco_app, List.append_assoc, List.append_assoc]
                    rfl
                  refine Go_iload_n (pc' := 50) dX12_product_49 rfl rfl rfl ?_
                  refine Go_if_eqY (tgt := 97) (pc' := 53) dX12_product_50 (by decide) rfl (by first | exact ⟨i_lo _, i_hi _⟩ | omega) (fun c50 => by exfalso; omega) (fun c50 => ?_)
                  refine Go_aload_n (pc' := 54) dX12_product_53 rfl rfl rfl ?_
                  refine Go_getIv (v := (iZ (mtk (tC T n (tE T n pos))))) (pc' := 57) dX12_product_54 rfl kf_RX12_255 (by decide) (by decide) rfl (M1.S.b 99 rfl rfl) (M1.S.o 99 rfl rfl rfl) (M1.e30) ?_
                  refine Go_iconst (v := iZ 2) (pc' := 58) dX12_product_57 rfl (by decide) ?_
                  refine Go_icmp_eqY (tgt := 67) (pc' := 61) dX12_product_58 (by decide) rfl (by first | exact ⟨i_lo _, i_hi _⟩ | omega) (by first | exact ⟨i_lo _, i_hi _⟩ | omega) (fun c58 => ?_) (fun c58 => ?_)
                  · refine Go_aload_n (pc' := 68) dX12_product_67 rfl rfl rfl ?_
                    refine Go_getIv (v := (iZ (tV T n (tE T n pos)))) (pc' := 71) dX12_product_68 rfl kf_RX12_267 (by decide) (by decide) rfl (M1.S.b 99 rfl rfl) (M1.S.o 99 rfl rfl rfl) ((M1.e32 h20)) ?_
                    refine Go_if_neY (tgt := 80) (pc' := 74) dX12_product_71 (by decide) rfl (by first | exact ⟨i_lo _, i_hi _⟩ | omega) (fun c71 => ?_) (fun c71 => ?_)
                    · refine Go_aload_n (pc' := 81) dX12_product_80 rfl rfl rfl ?_
                      refine Go_bipush (v := iZ 11) (pc' := 83) dX12_product_81 rfl (by decide) ?_
                      refine Go_aload_n (pc' := 84) dX12_product_83 rfl rfl rfl ?_
                      refine Go_getIv (v := (iZ (tV T n (tE T n pos)))) (pc' := 87) dX12_product_84 rfl kf_RX12_267 (by decide) (by decide) rfl (M1.S.b 99 rfl rfl) (M1.S.o 99 rfl rfl rfl) ((M1.e32 h20)) ?_
                      refine Go_callV_v (pc' := 90) (As := [.int _, .int _]) (st := []) dX12_product_87 rfl ok_X12_lay km_RX12_292 (M1.S.o 99 rfl rfl rfl) (M1.S.b 99 rfl rfl) ⟨_, _, rfl⟩ rfl (Nat.le_of_ble_eq_true rfl) rfl rfl rfl (Nat.le_of_ble_eq_true rfl) (Nat.lt_succ_self _) ?_
                      refine s_lay (k := 11) M1.S M1.fe (zsteps hg (by omega)) (by decide) (fun H2 D2 E2 => ?_)
                      refine ⟨rfl, ?_⟩
                      rw [List.append_assoc] at E2
                      have M2 := M1.lay D2 E2
                      refine Go_aload_n (pc' := 91) dX12_product_90 rfl rfl rfl ?_
                      refine Go_callV_v (pc' := 94) (As := []) (st := []) dX12_product_91 rfl ok_X12_next0 km_RX12_279 (M2.S.o 99 rfl rfl rfl) (M2.S.b 99 rfl rfl) ⟨_, _, rfl⟩ rfl (Nat.le_of_ble_eq_true rfl) rfl rfl rfl (Nat.le_of_ble_eq_true rfl) (Nat.lt_succ_self _) ?_
                      refine s_nx M2 (fun H3 D3 M3 => ?_)
                      refine ⟨rfl, ?_⟩
                      refine Go_goto (tgt := 113) dX12_product_94 (by decide) ?_
                      refine Go_goto (tgt := 9) dX12_product_113 (by decide) ?_
                      exact ih H3 _ _ (by omega) ⟨f ++ [(11, iZ (tV T n (tE T n pos)))], _, _, M3, C1.st hp1 hn (by omega) zz, zq, by rw [zco_app, ← List.append_assoc, List.length_append]; show _ + 2 + _ ≤ _; omega, ty_lay hy (tyS_p (by omega) (by omega))⟩ (fun H9 D9 B9 => kb H9 ((zPeb ((zPm D1).tr ((zPfe D2).tr (zPm D3)))).tr D9) B9) (fun H9 p9 D9 l9 X9 n0 n1 => kg H9 p9 (((zPm D1).tr ((zPfe D2).tr (zPm D3))).tr D9) (by omega) X9 n0 n1)
                    · exfalso; omega
                  · exfalso; omega
              · refine Go_iload_n (pc' := 50) dX12_product_49 rfl rfl rfl ?_
                refine Go_if_eqY (tgt := 97) (pc' := 53) dX12_product_50 (by decide) rfl (by first | exact ⟨i_lo _, i_hi _⟩ | omega) (fun c50 => by exfalso; omega) (fun c50 => ?_)
                refine Go_aload_n (pc' := 54) dX12_product_53 rfl rfl rfl ?_
                refine Go_getIv (v := (iZ (mtk (tC T n (tE T n pos))))) (pc' := 57) dX12_product_54 rfl kf_RX12_255 (by decide) (by decide) rfl (M1.S.b 99 rfl rfl) (M1.S.o 99 rfl rfl rfl) (M1.e30) ?_
                refine Go_iconst (v := iZ 2) (pc' := 58) dX12_product_57 rfl (by decide) ?_
                refine Go_icmp_eqY (tgt := 67) (pc' := 61) dX12_product_58 (by decide) rfl (by first | exact ⟨i_lo _, i_hi _⟩ | omega) (by first | exact ⟨i_lo _, i_hi _⟩ | omega) (fun c58 => ?_) (fun c58 => ?_)
                · exfalso; omega
                · refine Go_aload_n (pc' := 62) dX12_product_61 rfl rfl rfl ?_
                  refine Go_iconst (v := iZ 1) (pc' := 63) dX12_product_62 rfl (by decide) ?_
                  refine Go_callV_i (pc' := 66) (As := [.int _]) (st := []) dX12_product_63 rfl ok_X12_bad km_RX12_276 (M1.S.o 99 rfl rfl rfl) (M1.S.b 99 rfl rfl) ⟨_, _, rfl⟩ rfl (Nat.le_of_ble_eq_true rfl) rfl rfl rfl (Nat.le_of_ble_eq_true rfl) (Nat.lt_succ_self _) ?_
                  refine s_bad (k := 1) M1.S M1.e31 ?_
                  refine ⟨_, rfl, ?_⟩
                  refine Go_ireturn (ty := .boolean) dX12_product_66 rfl rfl ?_
                  exact kb _ ((zPeb (zPm D1)).tr zBdd) (C1.bd (by omega) (fun z => absurd (show (4 : Int) = 0 from z.2) (by decide)) (show (zdiv _ _ _).1 = 1 by unfold zdiv; rw [if_neg h20]) (by decide))
      · refine Go_aload_n (pc' := 10) dX12_product_9 rfl rfl rfl ?_
        refine Go_getIv (v := (iZ (mtk (tC T n pos)))) (pc' := 13) dX12_product_10 rfl kf_RX12_255 (by decide) (by decide) rfl (M.S.b 99 rfl rfl) (M.S.o 99 rfl rfl rfl) (M.e30) ?_
        refine Go_sipush (v := iZ 142) (pc' := 16) dX12_product_13 rfl (by decide) ?_
        refine Go_icmp_eqY (tgt := 29) (pc' := 19) dX12_product_16 (by decide) rfl (by first | exact ⟨i_lo _, i_hi _⟩ | omega) (by first | exact ⟨i_lo _, i_hi _⟩ | omega) (fun c16 => ?_) (fun c16 => ?_)
        · exfalso; omega
        · refine Go_aload_n (pc' := 20) dX12_product_19 rfl rfl rfl ?_
          refine Go_getIv (v := (iZ (mtk (tC T n pos)))) (pc' := 23) dX12_product_20 rfl kf_RX12_255 (by decide) (by decide) rfl (M.S.b 99 rfl rfl) (M.S.o 99 rfl rfl rfl) (M.e30) ?_
          refine Go_sipush (v := iZ 147) (pc' := 26) dX12_product_23 rfl (by decide) ?_
          refine Go_icmp_neY (tgt := 116) (pc' := 29) dX12_product_26 (by decide) rfl (by first | exact ⟨i_lo _, i_hi _⟩ | omega) (by first | exact ⟨i_lo _, i_hi _⟩ | omega) (fun c26 => ?_) (fun c26 => ?_)
          · refine Go_iconst (v := iZ 1) (pc' := 117) dX12_product_116 rfl (by decide) ?_
            refine Go_ireturn (ty := .boolean) dX12_product_117 rfl rfl ?_
            exact kg H pos (DX.rf _ _) (Nat.le_refl _) ⟨f, W1, o1, M, C, hr, hb, hy⟩ h1 h2
          · exfalso; omega
set_option maxRecDepth 20000 in
set_option maxHeartbeats 1000000 in
theorem m_prod {G : GC} {d mc ms : Nat} {H : HS} {K : Option Value → HS → Prop} {T : Nat → Int} {n : Nat} {s0 : St6} {g0 : List Stp2} {O0 : List Int32} {vd : Int} {L : Nat} {W : List Int} {ts : List Bool} {dep st cm cm' : Int} {pos : Nat} (X : zEn T n s0 g0 O0 vd L W ts dep st cm H pos) (hs : ¬ st = 0) (hz : ∀ o, zst (tC T n pos) (tV T n pos) (st, vd, cm, W, o, L) = zunit (tC T n pos) (tV T n pos) (st, vd, cm', W, o, L)) (hW : W.length ≤ 38) (ht : ztp 6 W) (h2y : ts.length ≤ W.length) (hg : g0.length ≤ O0.length) (kb : (∀ H', DX zPb H H' → zBd T n s0 H' → K (some (.int (iZ 0))) H')) (kg : (∀ H' pos', DX zPe H H' → pos ≤ pos' → zXt T n s0 g0 O0 vd L 6 W (false :: ts) dep 5 cm' H' pos' → ¬ tC T n pos' = 142 → ¬ tC T n pos' = 147 → K (some (.int (iZ 1))) H')) : Go G (d + 8) mc ms M_X12_product 0 [.ref 99, un] [] H K := by
  have S : Shp H := by obtain ⟨f, M, _⟩ := X; exact M.S
  refine Go_aload_n (pc' := 1) dX12_product_0 rfl rfl rfl ?_
  refine Go_callV_i (pc' := 4) (As := []) (st := []) dX12_product_1 rfl ok_X12_unit km_RX12_296 (S.o 99 rfl rfl rfl) (S.b 99 rfl rfl) ⟨_, _, rfl⟩ rfl (Nat.le_of_ble_eq_true rfl) rfl rfl rfl (Nat.le_of_ble_eq_true rfl) (Nat.lt_succ_self _) ?_
  refine m_unit X hs hz (by omega) hg (fun H1 D1 B1 => ?_) (fun H1 D1 l1 X1 => ?_)
  · refine ⟨_, rfl, ?_⟩
    refine Go_if_neY (tgt := 9) (pc' := 7) dX12_product_4 (by decide) rfl (by first | exact ⟨i_lo _, i_hi _⟩ | omega) (fun c4 => by exfalso; omega) (fun c4 => ?_)
    refine Go_iconst (v := iZ 0) (pc' := 8) dX12_product_7 rfl (by decide) ?_
    refine Go_ireturn (ty := .boolean) dX12_product_8 rfl rfl ?_
    exact kb H1 D1 B1
  · refine ⟨_, rfl, ?_⟩
    refine Go_if_neY (tgt := 9) (pc' := 7) dX12_product_4 (by decide) rfl (by first | exact ⟨i_lo _, i_hi _⟩ | omega) (fun c4 => ?_) (fun c4 => by exfalso; omega)
    exact pr_loop hW ht h2y hg (n + 1) H1 _ _ (by omega) X1.xt (fun H9 D9 B9 => kb H9 ((zPeb D1).tr D9) B9) (fun H9 p9 D9 l9 X9 n0 n1 => kg H9 p9 (D1.tr D9) (by omega) X9 n0 n1)
set_option maxRecDepth 20000 in
set_option maxHeartbeats 4000000 in
theorem sm_loop {G : GC} {d mc ms : Nat} {K : Option Value → HS → Prop} {T : Nat → Int} {n : Nat} {s0 : St6} {g0 : List Stp2} {O0 : List Int32} {vd : Int} {L : Nat} {W : List Int} {ts : List Bool} {dep cm : Int} (hW : W.length ≤ 37) (ht : ztp 5 W) (h2y : ts.length ≤ W.length) (hg : g0.length ≤ O0.length) : ∀ (m : Nat) (H : HS) (pos : Nat) (y : Value), n < pos + m → zXt T n s0 g0 O0 vd L 5 W (false :: ts) dep 5 cm H pos → ¬ tC T n pos = 142 → ¬ tC T n pos = 147 → (∀ H', DX zPb H H' → zBd T n s0 H' → K (some (.int (iZ 0))) H') → (∀ H' pos', DX zPe H H' → pos ≤ pos' → zXt T n s0 g0 O0 vd L 5 W (false :: ts) dep 5 cm H' pos' → ¬ tC T n pos' = 142 → ¬ tC T n pos' = 147 → ¬ tC T n pos' = 143 → ¬ tC T n pos' = 145 → K (some (.int (iZ 1))) H') → Go G (d + 9) mc ms M_X12_sumUp 9 [.ref 99, y] [] H K := by
  intro m
  induction m with
  | zero =>
    intro H pos y hm X q1 q2 kb kg
    obtain ⟨f, W1, o1, M, C, hr, hb, hy⟩ := X
    have := M.hp
    exfalso; omega
  | succ m ih =>
    intro H pos y hm X q1 q2 kb kg
    obtain ⟨f, W1, o1, M, C, hr, hb, hy⟩ := X
    have hp := M.hp
    have hn := M.hn
    have mx := mtk_x (tC_s (T := T) (n := n) (pos := pos))
    by_cases h1 : tC T n pos = 143
    · have tl := tE_lt (T := T) hp (by omega)
      have C1 := C.st hp hn (by omega) (z_sum (Or.inl h1) hr ht (by omega))
      rw [h1] at C1
      refine Go_aload_n (pc' := 10) dX12_sumUp_9 rfl rfl rfl ?_
      refine Go_getIv (v := (iZ (mtk (tC T n pos)))) (pc' := 13) dX12_sumUp_10 rfl kf_RX12_255 (by decide) (by decide) rfl (M.S.b 99 rfl rfl) (M.S.o 99 rfl rfl rfl) (M.e30) ?_
      refine Go_sipush (v := iZ 143) (pc' := 16) dX12_sumUp_13 rfl (by decide) ?_
      refine Go_icmp_eqY (tgt := 29) (pc' := 19) dX12_sumUp_16 (by decide) rfl (by first | exact ⟨i_lo _, i_hi _⟩ | omega) (by first | exact ⟨i_lo _, i_hi _⟩ | omega) (fun c16 => ?_) (fun c16 => ?_)
      · refine Go_aload_n (pc' := 30) dX12_sumUp_29 rfl rfl rfl ?_
        refine Go_getIv (v := (iZ (mtk (tC T n pos)))) (pc' := 33) dX12_sumUp_30 rfl kf_RX12_255 (by decide) (by decide) rfl (M.S.b 99 rfl rfl) (M.S.o 99 rfl rfl rfl) (M.e30) ?_
        refine Go_sipush (v := iZ 143) (pc' := 36) dX12_sumUp_33 rfl (by decide) ?_
        refine Go_icmp_neY (tgt := 44) (pc' := 39) dX12_sumUp_36 (by decide) rfl (by first | exact ⟨i_lo _, i_hi _⟩ | omega) (by first | exact ⟨i_lo _, i_hi _⟩ | omega) (fun c36 => ?_) (fun c36 => ?_)
        · exfalso; omega
        · refine Go_bipush (v := iZ 8) (pc' := 41) dX12_sumUp_39 rfl (by decide) ?_
          refine Go_goto (tgt := 46) dX12_sumUp_41 (by decide) ?_
          refine Go_istore_n (pc' := 47) (lv' := [.ref _, .int _]) dX12_sumUp_46 rfl rfl (Nat.le_of_ble_eq_true rfl) rfl rfl ?_
          refine Go_aload_n (pc' := 48) dX12_sumUp_47 rfl rfl rfl ?_
          refine Go_callV_v (pc' := 51) (As := []) (st := []) dX12_sumUp_48 rfl ok_X12_next0 km_RX12_279 (M.S.o 99 rfl rfl rfl) (M.S.b 99 rfl rfl) ⟨_, _, rfl⟩ rfl (Nat.le_of_ble_eq_true rfl) rfl rfl rfl (Nat.le_of_ble_eq_true rfl) (Nat.lt_succ_self _) ?_
          refine s_nx M (fun H1 D1 M1 => ?_)
          refine ⟨rfl, ?_⟩
          have X1 : zEn T n s0 g0 O0 vd L (143 :: W) (false :: ts) dep 3 cm H1 (tE T n pos) := ⟨f, M1, C1, by rw [List.length_cons]; omega, hy⟩
          refine Go_aload_n (pc' := 52) dX12_sumUp_51 rfl rfl rfl ?_
          refine Go_callV_i (pc' := 55) (As := []) (st := []) dX12_sumUp_52 rfl ok_X12_product km_RX12_288 (M1.S.o 99 rfl rfl rfl) (M1.S.b 99 rfl rfl) ⟨_, _, rfl⟩ rfl (Nat.le_of_ble_eq_true rfl) rfl rfl rfl (Nat.le_of_ble_eq_true rfl) (Nat.lt_succ_self _) ?_
          refine m_prod X1 (by decide) (fun _ => z_u3) (by rw [List.length_cons]; omega) (show zrk 143 < 6 by decide) (by rw [List.length_cons, List.length_cons]; omega) hg (fun H2 D2 B2 => ?_) (fun H2 p2 D2 l2 X2 n2 n3 => ?_)
          · refine ⟨_, rfl, ?_⟩
            refine Go_if_neY (tgt := 60) (pc' := 58) dX12_sumUp_55 (by decide) rfl (by first | exact ⟨i_lo _, i_hi _⟩ | omega) (fun c55 => by exfalso; omega) (fun c55 => ?_)
            refine Go_iconst (v := iZ 0) (pc' := 59) dX12_sumUp_58 rfl (by decide) ?_
            refine Go_ireturn (ty := .boolean) dX12_sumUp_59 rfl rfl ?_
            exact kb H2 ((zPeb (zPm D1)).tr D2) B2
          · refine ⟨_, rfl, ?_⟩
            obtain ⟨f2, W2, o2, M2, C2, r2, b2, y2⟩ := X2
            have hp2 := M2.hp
            have b2' := b2
            rw [List.length_cons] at b2'
            refine Go_if_neY (tgt := 60) (pc' := 58) dX12_sumUp_55 (by decide) rfl (by first | exact ⟨i_lo _, i_hi _⟩ | omega) (fun c55 => ?_) (fun c55 => by exfalso; omega)
            refine Go_aload_n (pc' := 61) dX12_sumUp_60 rfl rfl rfl ?_
            refine Go_iload_n (pc' := 62) dX12_sumUp_61 rfl rfl rfl ?_
            refine Go_iconst (v := iZ 0) (pc' := 63) dX12_sumUp_62 rfl (by decide) ?_
            refine Go_callV_v (pc' := 66) (As := [.int _, .int _]) (st := []) dX12_sumUp_63 rfl ok_X12_lay km_RX12_292 (M2.S.o 99 rfl rfl rfl) (M2.S.b 99 rfl rfl) ⟨_, _, rfl⟩ rfl (Nat.le_of_ble_eq_true rfl) rfl rfl rfl (Nat.le_of_ble_eq_true rfl) (Nat.lt_succ_self _) ?_
            refine s_lay (k := 8) M2.S M2.fe (zsteps hg (by omega)) (by decide) (fun H3 D3 E3 => ?_)
            refine ⟨rfl, ?_⟩
            refine Go_goto (tgt := 9) dX12_sumUp_66 (by decide) ?_
            exact ih H3 _ _ (by omega) (zXt.lay (r' := 6) M2 C2 r2 b2 y2 D3 E3 (by decide) (by decide) (by decide) (tyS_a (by omega))) n2 n3 (fun H9 D9 B9 => kb H9 ((zPeb ((zPm D1).tr (D2.tr (zPfe D3)))).tr D9) B9) (fun H9 p9 D9 l9 X9 n0 n1 n2 n3 => kg H9 p9 (((zPm D1).tr (D2.tr (zPfe D3))).tr D9) (by omega) X9 n0 n1 n2 n3)
      · refine Go_aload_n (pc' := 20) dX12_sumUp_19 rfl rfl rfl ?_
        refine Go_getIv (v := (iZ (mtk (tC T n pos)))) (pc' := 23) dX12_sumUp_20 rfl kf_RX12_255 (by decide) (by decide) rfl (M.S.b 99 rfl rfl) (M.S.o 99 rfl rfl rfl) (M.e30) ?_
        refine Go_sipush (v := iZ 145) (pc' := 26) dX12_sumUp_23 rfl (by decide) ?_
        refine Go_icmp_neY (tgt := 69) (pc' := 29) dX12_sumUp_26 (by decide) rfl (by first | exact ⟨i_lo _, i_hi _⟩ | omega) (by first | exact ⟨i_lo _, i_hi _⟩ | omega) (fun c26 => ?_) (fun c26 => ?_)
        · exfalso; omega
        · refine Go_aload_n (pc' := 30) dX12_sumUp_29 rfl rfl rfl ?_
          refine Go_getIv (v := (iZ (mtk (tC T n pos)))) (pc' := 33) dX12_sumUp_30 rfl kf_RX12_255 (by decide) (by decide) rfl (M.S.b 99 rfl rfl) (M.S.o 99 rfl rfl rfl) (M.e30) ?_
          refine Go_sipush (v := iZ 143) (pc' := 36) dX12_sumUp_33 rfl (by decide) ?_
          refine Go_icmp_neY (tgt := 44) (pc' := 39) dX12_sumUp_36 (by decide) rfl (by first | exact ⟨i_lo _, i_hi _⟩ | omega) (by first | exact ⟨i_lo _, i_hi _⟩ | omega) (fun c36 => ?_) (fun c36 => ?_)
          · exfalso; omega
          · refine Go_bipush (v := iZ 8) (pc' := 41) dX12_sumUp_39 rfl (by decide) ?_
            refine Go_goto (tgt := 46) dX12_sumUp_41 (by decide) ?_
            refine Go_istore_n (pc' := 47) (lv' := [.ref _, .int _]) dX12_sumUp_46 rfl rfl (Nat.le_of_ble_eq_true rfl) rfl rfl ?_
            refine Go_aload_n (pc' := 48) dX12_sumUp_47 rfl rfl rfl ?_
            refine Go_callV_v (pc' := 51) (As := []) (st := []) dX12_sumUp_48 rfl ok_X12_next0 km_RX12_279 (M.S.o 99 rfl rfl rfl) (M.S.b 99 rfl rfl) ⟨_, _, rfl⟩ rfl (Nat.le_of_ble_eq_true rfl) rfl rfl rfl (Nat.le_of_ble_eq_true rfl) (Nat.lt_succ_self _) ?_
            refine s_nx M (fun H1 D1 M1 => ?_)
            refine ⟨rfl, ?_⟩
            have X1 : zEn T n s0 g0 O0 vd L (143 :: W) (false :: ts) dep 3 cm H1 (tE T n pos) := ⟨f, M1, C1, by rw [List.length_cons]; omega, hy⟩
            refine Go_aload_n (pc' := 52) dX12_sumUp_51 rfl rfl rfl ?_
            refine Go_callV_i (pc' := 55) (As := []) (st := []) dX12_sumUp_52 rfl ok_X12_product km_RX12_288 (M1.S.o 99 rfl rfl rfl) (M1.S.b 99 rfl rfl) ⟨_, _, rfl⟩ rfl (Nat.le_of_ble_eq_true rfl) rfl rfl rfl (Nat.le_of_ble_eq_true rfl) (Nat.lt_succ_self _) ?_
            refine m_prod X1 (by decide) (fun _ => z_u3) (by rw [List.length_cons]; omega) (show zrk 143 < 6 by decide) (by rw [List.length_cons, List.length_cons]; omega) hg (fun H2 D2 B2 => ?_) (fun H2 p2 D2 l2 X2 n2 n3 => ?_)
            · refine ⟨_, rfl, ?_⟩
              refine Go_if_neY (tgt := 60) (pc' := 58) dX12_sumUp_55 (by decide) rfl (by first | exact ⟨i_lo _, i_hi _⟩ | omega) (fun c55 => by exfalso; omega) (fun c55 => ?_)
              refine Go_iconst (v := iZ 0) (pc' := 59) dX12_sumUp_58 rfl (by decide) ?_
              refine Go_ireturn (ty := .boolean) dX12_sumUp_59 rfl rfl ?_
              exact kb H2 ((zPeb (zPm D1)).tr D2) B2
            · refine ⟨_, rfl, ?_⟩
              obtain ⟨f2, W2, o2, M2, C2, r2, b2, y2⟩ := X2
              have hp2 := M2.hp
              have b2' := b2
              rw [List.length_cons] at b2'
              refine Go_if_neY (tgt := 60) (pc' := 58) dX12_sumUp_55 (by decide) rfl (by first | exact ⟨i_lo _, i_hi _⟩ | omega) (fun c55 => ?_) (fun c55 => by exfalso; omega)
              refine Go_aload_n (pc' := 61) dX12_sumUp_60 rfl rfl rfl ?_
              refine Go_iload_n (pc' := 62) dX12_sumUp_61 rfl rfl rfl ?_
              refine Go_iconst (v := iZ 0) (pc' := 63) dX12_sumUp_62 rfl (by decide) ?_
              refine Go_callV_v (pc' := 66) (As := [.int _, .int _]) (st := []) dX12_sumUp_63 rfl ok_X12_lay km_RX12_292 (M2.S.o 99 rfl rfl rfl) (M2.S.b 99 rfl rfl) ⟨_, _, rfl⟩ rfl (Nat.le_of_ble_eq_true rfl) rfl rfl rfl (Nat.le_of_ble_eq_true rfl) (Nat.lt_succ_self _) ?_
              refine s_lay (k := 8) M2.S M2.fe (zsteps hg (by omega)) (by decide) (fun H3 D3 E3 => ?_)
              refine ⟨rfl, ?_⟩
              refine Go_goto (tgt := 9) dX12_sumUp_66 (by decide) ?_
              exact ih H3 _ _ (by omega) (zXt.lay (r' := 6) M2 C2 r2 b2 y2 D3 E3 (by decide) (by decide) (by decide) (tyS_a (by omega))) n2 n3 (fun H9 D9 B9 => kb H9 ((zPeb ((zPm D1).tr (D2.tr (zPfe D3)))).tr D9) B9) (fun H9 p9 D9 l9 X9 n0 n1 n2 n3 => kg H9 p9 (((zPm D1).tr (D2.tr (zPfe D3))).tr D9) (by omega) X9 n0 n1 n2 n3)
    · by_cases h2 : tC T n pos = 145
      · have tl := tE_lt (T := T) hp (by omega)
        have C1 := C.st hp hn (by omega) (z_sum (Or.inr h2) hr ht (by omega))
        rw [h2] at C1
        refine Go_aload_n (pc' := 10) dX12_sumUp_9 rfl rfl rfl ?_
        refine Go_getIv (v := (iZ (mtk (tC T n pos)))) (pc' := 13) dX12_sumUp_10 rfl kf_RX12_255 (by decide) (by decide) rfl (M.S.b 99 rfl rfl) (M.S.o 99 rfl rfl rfl) (M.e30) ?_
        refine Go_sipush (v := iZ 143) (pc' := 16) dX12_sumUp_13 rfl (by decide) ?_
        refine Go_icmp_eqY (tgt := 29) (pc' := 19) dX12_sumUp_16 (by decide) rfl (by first | exact ⟨i_lo _, i_hi _⟩ | omega) (by first | exact ⟨i_lo _, i_hi _⟩ | omega) (fun c16 => ?_) (fun c16 => ?_)
        · refine Go_aload_n (pc' := 30) dX12_sumUp_29 rfl rfl rfl ?_
          refine Go_getIv (v := (iZ (mtk (tC T n pos)))) (pc' := 33) dX12_sumUp_30 rfl kf_RX12_255 (by decide) (by decide) rfl (M.S.b 99 rfl rfl) (M.S.o 99 rfl rfl rfl) (M.e30) ?_
          refine Go_sipush (v := iZ 143) (pc' := 36) dX12_sumUp_33 rfl (by decide) ?_
          refine Go_icmp_neY (tgt := 44) (pc' := 39) dX12_sumUp_36 (by decide) rfl (by first | exact ⟨i_lo _, i_hi _⟩ | omega) (by first | exact ⟨i_lo _, i_hi _⟩ | omega) (fun c36 => ?_) (fun c36 => ?_)
          · refine Go_bipush (v := iZ 9) (pc' := 46) dX12_sumUp_44 rfl (by decide) ?_
            refine Go_istore_n (pc' := 47) (lv' := [.ref _, .int _]) dX12_sumUp_46 rfl rfl (Nat.le_of_ble_eq_true rfl) rfl rfl ?_
            refine Go_aload_n (pc' := 48) dX12_sumUp_47 rfl rfl rfl ?_
            refine Go_callV_v (pc' := 51) (As := []) (st := []) dX12_sumUp_48 rfl ok_X12_next0 km_RX12_279 (M.S.o 99 rfl rfl rfl) (M.S.b 99 rfl rfl) ⟨_, _, rfl⟩ rfl (Nat.le_of_ble_eq_true rfl) rfl rfl rfl (Nat.le_of_ble_eq_true rfl) (Nat.lt_succ_self _) ?_
            refine s_nx M (fun H1 D1 M1 => ?_)
            refine ⟨rfl, ?_⟩
            have X1 : zEn T n s0 g0 O0 vd L (145 :: W) (false :: ts) dep 3 cm H1 (tE T n pos) := ⟨f, M1, C1, by rw [List.length_cons]; omega, hy⟩
            refine Go_aload_n (pc' := 52) dX12_sumUp_51 rfl rfl rfl ?_
            refine Go_callV_i (pc' := 55) (As := []) (st := []) dX12_sumUp_52 rfl ok_X12_product km_RX12_288 (M1.S.o 99 rfl rfl rfl) (M1.S.b 99 rfl rfl) ⟨_, _, rfl⟩ rfl (Nat.le_of_ble_eq_true rfl) rfl rfl rfl (Nat.le_of_ble_eq_true rfl) (Nat.lt_succ_self _) ?_
            refine m_prod X1 (by decide) (fun _ => z_u3) (by rw [List.length_cons]; omega) (show zrk 145 < 6 by decide) (by rw [List.length_cons, List.length_cons]; omega) hg (fun H2 D2 B2 => ?_) (fun H2 p2 D2 l2 X2 n2 n3 => ?_)
            · refine ⟨_, rfl, ?_⟩
              refine Go_if_neY (tgt := 60) (pc' := 58) dX12_sumUp_55 (by decide) rfl (by first | exact ⟨i_lo _, i_hi _⟩ | omega) (fun c55 => by exfalso; omega) (fun c55 => ?_)
              refine Go_iconst (v := iZ 0) (pc' := 59) dX12_sumUp_58 rfl (by decide) ?_
              refine Go_ireturn (ty := .boolean) dX12_sumUp_59 rfl rfl ?_
              exact kb H2 ((zPeb (zPm D1)).tr D2) B2
            · refine ⟨_, rfl, ?_⟩
              obtain ⟨f2, W2, o2, M2, C2, r2, b2, y2⟩ := X2
              have hp2 := M2.hp
              have b2' := b2
              rw [List.length_cons] at b2'
              refine Go_if_neY (tgt := 60) (pc' := 58) dX12_sumUp_55 (by decide) rfl (by first | exact ⟨i_lo _, i_hi _⟩ | omega) (fun c55 => ?_) (fun c55 => by exfalso; omega)
              refine Go_aload_n (pc' := 61) dX12_sumUp_60 rfl rfl rfl ?_
              refine Go_iload_n (pc' := 62) dX12_sumUp_61 rfl rfl rfl ?_
              refine Go_iconst (v := iZ 0) (pc' := 63) dX12_sumUp_62 rfl (by decide) ?_
              refine Go_callV_v (pc' := 66) (As := [.int _, .int _]) (st := []) dX12_sumUp_63 rfl ok_X12_lay km_RX12_292 (M2.S.o 99 rfl rfl rfl) (M2.S.b 99 rfl rfl) ⟨_, _, rfl⟩ rfl (Nat.le_of_ble_eq_true rfl) rfl rfl rfl (Nat.le_of_ble_eq_true rfl) (Nat.lt_succ_self _) ?_
              refine s_lay (k := 9) M2.S M2.fe (zsteps hg (by omega)) (by decide) (fun H3 D3 E3 => ?_)
              refine ⟨rfl, ?_⟩
              refine Go_goto (tgt := 9) dX12_sumUp_66 (by decide) ?_
              exact ih H3 _ _ (by omega) (zXt.lay (r' := 6) M2 C2 r2 b2 y2 D3 E3 (by decide) (by decide) (by decide) (tyS_a (by omega))) n2 n3 (fun H9 D9 B9 => kb H9 ((zPeb ((zPm D1).tr (D2.tr (zPfe D3)))).tr D9) B9) (fun H9 p9 D9 l9 X9 n0 n1 n2 n3 => kg H9 p9 (((zPm D1).tr (D2.tr (zPfe D3))).tr D9) (by omega) X9 n0 n1 n2 n3)
          · exfalso; omega
        · refine Go_aload_n (pc' := 20) dX12_sumUp_19 rfl rfl rfl ?_
          refine Go_getIv (v := (iZ (mtk (tC T n pos)))) (pc' := 23) dX12_sumUp_20 rfl kf_RX12_255 (by decide) (by decide) rfl (M.S.b 99 rfl rfl) (M.S.o 99 rfl rfl rfl) (M.e30) ?_
          refine Go_sipush (v := iZ 145) (pc' := 26) dX12_sumUp_23 rfl (by decide) ?_
          refine Go_icmp_neY (tgt := 69) (pc' := 29) dX12_sumUp_26 (by decide) rfl (by first | exact ⟨i_lo _, i_hi _⟩ | omega) (by first | exact ⟨i_lo _, i_hi _⟩ | omega) (fun c26 => ?_) (fun c26 => ?_)
          · exfalso; omega
          · refine Go_aload_n (pc' := 30) dX12_sumUp_29 rfl rfl rfl ?_
            refine Go_getIv (v := (iZ (mtk (tC T n pos)))) (pc' := 33) dX12_sumUp_30 rfl kf_RX12_255 (by decide) (by decide) rfl (M.S.b 99 rfl rfl) (M.S.o 99 rfl rfl rfl) (M.e30) ?_
            refine Go_sipush (v := iZ 143) (pc' := 36) dX12_sumUp_33 rfl (by decide) ?_
            refine Go_icmp_neY (tgt := 44) (pc' := 39) dX12_sumUp_36 (by decide) rfl (by first | exact ⟨i_lo _, i_hi _⟩ | omega) (by first | exact ⟨i_lo _, i_hi _⟩ | omega) (fun c36 => ?_) (fun c36 => ?_)
            · refine Go_bipush (v := iZ 9) (pc' := 46) dX12_sumUp_44 rfl (by decide) ?_
              refine Go_istore_n (pc' := 47) (lv' := [.ref _, .int _]) dX12_sumUp_46 rfl rfl (Nat.le_of_ble_eq_true rfl) rfl rfl ?_
              refine Go_aload_n (pc' := 48) dX12_sumUp_47 rfl rfl rfl ?_
              refine Go_callV_v (pc' := 51) (As := []) (st := []) dX12_sumUp_48 rfl ok_X12_next0 km_RX12_279 (M.S.o 99 rfl rfl rfl) (M.S.b 99 rfl rfl) ⟨_, _, rfl⟩ rfl (Nat.le_of_ble_eq_true rfl) rfl rfl rfl (Nat.le_of_ble_eq_true rfl) (Nat.lt_succ_self _) ?_
              refine s_nx M (fun H1 D1 M1 => ?_)
              refine ⟨rfl, ?_⟩
              have X1 : zEn T n s0 g0 O0 vd L (145 :: W) (false :: ts) dep 3 cm H1 (tE T n pos) := ⟨f, M1, C1, by rw [List.length_cons]; omega, hy⟩
              refine Go_aload_n (pc' := 52) dX12_sumUp_51 rfl rfl rfl ?_
              refine Go_callV_i (pc' := 55) (As := []) (st := []) dX12_sumUp_52 rfl ok_X12_product km_RX12_288 (M1.S.o 99 rfl rfl rfl) (M1.S.b 99 rfl rfl) ⟨_, _, rfl⟩ rfl (Nat.le_of_ble_eq_true rfl) rfl rfl rfl (Nat.le_of_ble_eq_true rfl) (Nat.lt_succ_self _) ?_
              refine m_prod X1 (by decide) (fun _ => z_u3) (by rw [List.length_cons]; omega) (show zrk 145 < 6 by decide) (by rw [List.length_cons, List.length_cons]; omega) hg (fun H2 D2 B2 => ?_) (fun H2 p2 D2 l2 X2 n2 n3 => ?_)
              · refine ⟨_, rfl, ?_⟩
                refine Go_if_neY (tgt := 60) (pc' := 58) dX12_sumUp_55 (by decide) rfl (by first | exact ⟨i_lo _, i_hi _⟩ | omega) (fun c55 => by exfalso; omega) (fun c55 => ?_)
                refine Go_iconst (v := iZ 0) (pc' := 59) dX12_sumUp_58 rfl (by decide) ?_
                refine Go_ireturn (ty := .boolean) dX12_sumUp_59 rfl rfl ?_
                exact kb H2 ((zPeb (zPm D1)).tr D2) B2
              · refine ⟨_, rfl, ?_⟩
                obtain ⟨f2, W2, o2, M2, C2, r2, b2, y2⟩ := X2
                have hp2 := M2.hp
                have b2' := b2
                rw [List.length_cons] at b2'
                refine Go_if_neY (tgt := 60) (pc' := 58) dX12_sumUp_55 (by decide) rfl (by first | exact ⟨i_lo _, i_hi _⟩ | omega) (fun c55 => ?_) (fun c55 => by exfalso; omega)
                refine Go_aload_n (pc' := 61) dX12_sumUp_60 rfl rfl rfl ?_
                refine Go_iload_n (pc' := 62) dX12_sumUp_61 rfl rfl rfl ?_
                refine Go_iconst (v := iZ 0) (pc' := 63) dX12_sumUp_62 rfl (by decide) ?_
                refine Go_callV_v (pc' := 66) (As := [.int _, .int _]) (st := []) dX12_sumUp_63 rfl ok_X12_lay km_RX12_292 (M2.S.o 99 rfl rfl rfl) (M2.S.b 99 rfl rfl) ⟨_, _, rfl⟩ rfl (Nat.le_of_ble_eq_true rfl) rfl rfl rfl (Nat.le_of_ble_eq_true rfl) (Nat.lt_succ_self _) ?_
                refine s_lay (k := 9) M2.S M2.fe (zsteps hg (by omega)) (by decide) (fun H3 D3 E3 => ?_)
                refine ⟨rfl, ?_⟩
                refine Go_goto (tgt := 9) dX12_sumUp_66 (by decide) ?_
                exact ih H3 _ _ (by omega) (zXt.lay (r' := 6) M2 C2 r2 b2 y2 D3 E3 (by decide) (by decide) (by decide) (tyS_a (by omega))) n2 n3 (fun H9 D9 B9 => kb H9 ((zPeb ((zPm D1).tr (D2.tr (zPfe D3)))).tr D9) B9) (fun H9 p9 D9 l9 X9 n0 n1 n2 n3 => kg H9 p9 (((zPm D1).tr (D2.tr (zPfe D3))).tr D9) (by omega) X9 n0 n1 n2 n3)
            · exfalso; omega
      · refine Go_aload_n (pc' := 10) dX12_sumUp_9 rfl rfl rfl ?_
        refine Go_getIv (v := (iZ (mtk (tC T n pos)))) (pc' := 13) dX12_sumUp_10 rfl kf_RX12_255 (by decide) (by decide) rfl (M.S.b 99 rfl rfl) (M.S.o 99 rfl rfl rfl) (M.e30) ?_
        refine Go_sipush (v := iZ 143) (pc' := 16) dX12_sumUp_13 rfl (by decide) ?_
        refine Go_icmp_eqY (tgt := 29) (pc' := 19) dX12_sumUp_16 (by decide) rfl (by first | exact ⟨i_lo _, i_hi _⟩ | omega) (by first | exact ⟨i_lo _, i_hi _⟩ | omega) (fun c16 => ?_) (fun c16 => ?_)
        · exfalso; omega
        · refine Go_aload_n (pc' := 20) dX12_sumUp_19 rfl rfl rfl ?_
          refine Go_getIv (v := (iZ (mtk (tC T n pos)))) (pc' := 23) dX12_sumUp_20 rfl kf_RX12_255 (by decide) (by decide) rfl (M.S.b 99 rfl rfl) (M.S.o 99 rfl rfl rfl) (M.e30) ?_
          refine Go_sipush (v := iZ 145) (pc' := 26) dX12_sumUp_23 rfl (by decide) ?_
          refine Go_icmp_neY (tgt := 69) (pc' := 29) dX12_sumUp_26 (by decide) rfl (by first | exact ⟨i_lo _, i_hi _⟩ | omega) (by first | exact ⟨i_lo _, i_hi _⟩ | omega) (fun c26 => ?_) (fun c26 => ?_)
          · refine Go_iconst (v := iZ 1) (pc' := 70) dX12_sumUp_69 rfl (by decide) ?_
            refine Go_ireturn (ty := .boolean) dX12_sumUp_70 rfl rfl ?_
            exact kg H pos (DX.rf _ _) (Nat.le_refl _) ⟨f, W1, o1, M, C, hr, hb, hy⟩ q1 q2 h1 h2
          · exfalso; omega
set_option maxRecDepth 20000 in
set_option maxHeartbeats 1000000 in
theorem m_sum {G : GC} {d mc ms : Nat} {H : HS} {K : Option Value → HS → Prop} {T : Nat → Int} {n : Nat} {s0 : St6} {g0 : List Stp2} {O0 : List Int32} {vd : Int} {L : Nat} {W : List Int} {ts : List Bool} {dep st cm cm' : Int} {pos : Nat} (X : zEn T n s0 g0 O0 vd L W ts dep st cm H pos) (hs : ¬ st = 0) (hz : ∀ o, zst (tC T n pos) (tV T n pos) (st, vd, cm, W, o, L) = zunit (tC T n pos) (tV T n pos) (st, vd, cm', W, o, L)) (hW : W.length ≤ 37) (ht : ztp 5 W) (h2y : ts.length ≤ W.length) (hg : g0.length ≤ O0.length) (kb : (∀ H', DX zPb H H' → zBd T n s0 H' → K (some (.int (iZ 0))) H')) (kg : (∀ H' pos', DX zPe H H' → pos ≤ pos' → zXt T n s0 g0 O0 vd L 5 W (false :: ts) dep 5 cm' H' pos' → ¬ tC T n pos' = 142 → ¬ tC T n pos' = 147 → ¬ tC T n pos' = 143 → ¬ tC T n pos' = 145 → K (some (.int (iZ 1))) H')) : Go G (d + 9) mc ms M_X12_sumUp 0 [.ref 99, un] [] H K := by
  have S : Shp H := by obtain ⟨f, M, _⟩ := X; exact M.S
  refine Go_aload_n (pc' := 1) dX12_sumUp_0 rfl rfl rfl ?_
  refine Go_callV_i (pc' := 4) (As := []) (st := []) dX12_sumUp_1 rfl ok_X12_product km_RX12_288 (S.o 99 rfl rfl rfl) (S.b 99 rfl rfl) ⟨_, _, rfl⟩ rfl (Nat.le_of_ble_eq_true rfl) rfl rfl rfl (Nat.le_of_ble_eq_true rfl) (Nat.lt_succ_self _) ?_
  refine m_prod X hs hz (by omega) (ztp_m ht (by decide)) h2y hg (fun H1 D1 B1 => ?_) (fun H1 p1 D1 l1 X1 n0 n1 => ?_)
  · refine ⟨_, rfl, ?_⟩
    refine Go_if_neY (tgt := 9) (pc' := 7) dX12_sumUp_4 (by decide) rfl (by first | exact ⟨i_lo _, i_hi _⟩ | omega) (fun c4 => by exfalso; omega) (fun c4 => ?_)
    refine Go_iconst (v := iZ 0) (pc' := 8) dX12_sumUp_7 rfl (by decide) ?_
    refine Go_ireturn (ty := .boolean) dX12_sumUp_8 rfl rfl ?_
    exact kb H1 D1 B1
  · refine ⟨_, rfl, ?_⟩
    refine Go_if_neY (tgt := 9) (pc' := 7) dX12_sumUp_4 (by decide) rfl (by first | exact ⟨i_lo _, i_hi _⟩ | omega) (fun c4 => ?_) (fun c4 => by exfalso; omega)
    exact sm_loop hW ht h2y hg (n + 1) H1 _ _ (by omega) (X1.w (by decide)) n0 n1 (fun H9 D9 B9 => kb H9 ((zPeb D1).tr D9) B9) (fun H9 p9 D9 l9 X9 a0 a1 a2 a3 => kg H9 p9 (D1.tr D9) (by omega) X9 a0 a1 a2 a3)
