/-! pairs: size, own -/
def tlB (h : HS) (q c : Nat) : Bool := decide (vi h 124 (6 * q + c) = iZ 1 ∧ 0 < (vi h 131 (6 * q + c)).toInt)
def bz (h : HS) (q c : Nat) (x y : Int) : Int := lv (vi h 131 (6 * q + c)).toInt + fz (dz (x - cX h c) (y - cY h c))
theorem tl_n {h : HS} {q c : Nat} (e : vi h 124 (6 * q + c) = iZ 0) : ¬ tlB h q c = true := fun z => by
  have z := of_decide_eq_true z
  rw [e] at z; exact absurd z.1 (by decide)
theorem tl_i {h : HS} {q c : Nat} (e : vi h 124 (6 * q + c) = iZ 1) : (tlB h q c = true) ↔ 0 < (vi h 131 (6 * q + c)).toInt := by
  unfold tlB; rw [decide_eq_true_iff]; exact ⟨fun z => z.2, fun z => ⟨e, z⟩⟩
def mz (h : HS) (q : Nat) (x y but : Int) : Nat → Nat → Int → Int → Int
  | 0, _, s, n => if n = 0 then -1000000000 else s / n
  | m + 1, c, s, n => if ¬ (c : Int) = but ∧ tlB h q c = true then mz h q x y but m (c + 1) (s + (bz h q c x y + (vi h 114 c).toInt)) (n + 1) else mz h q x y but m (c + 1) s n
theorem mz_t {h : HS} {q : Nat} {x y but : Int} {m c : Nat} {s n : Int} (h1 : ¬ (c : Int) = but) (h2 : tlB h q c = true) : mz h q x y but (m + 1) c s n = mz h q x y but m (c + 1) (s + (bz h q c x y + (vi h 114 c).toInt)) (n + 1) := by show (if _ then _ else _) = _; rw [if_pos ⟨h1, h2⟩]
theorem mz_f {h : HS} {q : Nat} {x y but : Int} {m c : Nat} {s n : Int} (h1 : (c : Int) = but ∨ ¬ tlB h q c = true) : mz h q x y but (m + 1) c s n = mz h q x y but m (c + 1) s n := by show (if _ then _ else _) = _; rw [if_neg (fun z => h1.elim z.1 (fun w => w z.2))]
theorem bz_r {h : HS} {q c : Nat} {x y : Int} (hp : (vi h 131 (6 * q + c)).toInt ≤ 999999) (hx : 0 ≤ x ∧ x ≤ 39) (hy : 0 ≤ y ∧ y ≤ 39) (hcx : 0 ≤ cX h c ∧ cX h c ≤ 39) (hcy : 0 ≤ cY h c ∧ cY h c ≤ 39) : 0 ≤ bz h q c x y ∧ bz h q c x y ≤ 772 := by
  have z := (dz_r (X := x - cX h c) (Y := y - cY h c) (by omega) (by omega)).1
  have a := lv_r (v := (vi h 131 (6 * q + c)).toInt) (by omega)
  have b := fz_r (x := dz (x - cX h c) (y - cY h c)) (by omega)
  unfold bz; omega
set_option maxRecDepth 20000 in
set_option maxHeartbeats 1000000 in
theorem s_bareT {G : GC} {d mc ms : Nat} {h : HS} {K : Option Value → HS → Prop} {q u nq nc : Nat} {x y : Int} (I : Inv h) (hnc : nc ≤ 6) (ec2 : vi h 64 2 = iZ (nc : Int)) (ec0 : vi h 99 0 = iZ (nc : Int)) (hq : q < nq) (hnq : nq ≤ 16) (QS : QkS h u) (RR : ∀ c, c < 6 → RdR h u q c) (hx : 0 ≤ x ∧ x ≤ 39) (hy : 0 ≤ y ∧ y ≤ 39) {c : Nat} (hc : c < nc) (ht : tlB h q c = true) (hk : K (some (.int (iZ (bz h q c x y)))) h) : Go G (d + 2) mc ms M_X11_bareSize 0 [.ref 64, .ref u, .int (iZ x), .int (iZ y), .int (iZ (c : Int)), un, un] [] h K := by
  have hu0 := QS.1
  obtain ⟨o, ho, CS, CV⟩ := cel_ex I hnc ec2 (c := c) (by omega)
  obtain ⟨xr, yr, ex, ey, exy⟩ := CV.1.xy
  rcases RR c (by omega) with ⟨hw, h0⟩ | ⟨w, hw, h0, RS, RV, -⟩
  · exact absurd ht (tl_n h0)
  · have hw0 := RS.1
    have pk := RV.2.2.2.2.2
    rw [RV.2.2.2.2.1] at pk
    unfold rg at pk
    have zz := (dz_r (X := x - cX h c) (Y := y - cY h c) (by omega) (by omega)).1
    have zl := lv_r (v := (vi h 131 (6 * q + c)).toInt) (by omega)
    have zf := fz_r (x := dz (x - cX h c) (y - cY h c)) (by omega)
    have hp := (tl_i h0).1 ht
    refine Go_aload_n (pc' := 1) dX11_bareSize_0 rfl rfl rfl ?_
    refine Go_iload (pc' := 3) dX11_bareSize_1 rfl rfl ?_
    refine Go_callV_r (pc' := 6) (As := [.int _]) (st := []) dX11_bareSize_3 rfl ok_X5_reading km_RX11_271 QS.o QS.b ⟨_, _, rfl⟩ rfl (Nat.le_of_ble_eq_true rfl) rfl rfl rfl (Nat.le_of_ble_eq_true rfl) (Nat.lt_succ_self _) ?_
    refine Go_iload_n (pc' := 1) dX5_reading_0 rfl rfl rfl ?_
    refine Go_if_ltY (tgt := 22) (pc' := 4) dX5_reading_1 (by decide) rfl (by first | exact ⟨i_lo _, i_hi _⟩ | omega) (fun r1 => by exfalso; omega) (fun r1 => ?_)
    refine Go_iload_n (pc' := 5) dX5_reading_4 rfl rfl rfl ?_
    refine Go_aload_n (pc' := 6) dX5_reading_5 rfl rfl rfl ?_
    refine Go_getRs (pc' := 9) dX5_reading_6 rfl kf_RX5_11 (by decide) (by decide) rfl QS.b QS.o QS.r0 ?_
    refine Go_alenZ (n := 6) (pc' := 10) dX5_reading_9 rfl QS.b1 QS.k1 (Or.inr (Or.inr ⟨_, rfl⟩)) ?_
    refine Go_icmp_geY (tgt := 22) (pc' := 13) dX5_reading_10 (by decide) rfl (by first | exact ⟨i_lo _, i_hi _⟩ | omega) (by first | exact ⟨i_lo _, i_hi _⟩ | omega) (fun r10 => by exfalso; omega) (fun r10 => ?_)
    refine Go_aload_n (pc' := 14) dX5_reading_13 rfl rfl rfl ?_
    refine Go_getRs (pc' := 17) dX5_reading_14 rfl kf_RX5_11 (by decide) (by decide) rfl QS.b QS.o QS.r0 ?_
    refine Go_iload_n (pc' := 18) dX5_reading_17 rfl rfl rfl ?_
    refine Go_aaloadZ (n := 6) (k := c) (pc' := 19) dX5_reading_18 rfl QS.b1 QS.k1 rfl rfl (by omega) (by decide) hw ?_
    refine Go_goto (tgt := 23) dX5_reading_19 (by decide) ?_
    refine Go_areturn (r := some _) dX5_reading_23 rfl ?_
    refine ⟨some _, rfl, ?_⟩
    refine Go_astore (pc' := 8) (lv' := [.ref _, .ref _, .int _, .int _, .int _, .ref _, un]) dX11_bareSize_6 rfl (Nat.le_of_ble_eq_true rfl) rfl rfl ?_
    refine Go_aload_n (pc' := 9) dX11_bareSize_8 rfl rfl rfl ?_
    refine Go_iload (pc' := 11) dX11_bareSize_9 rfl rfl ?_
    refine Go_callV_r (pc' := 14) (As := [.int _]) (st := []) dX11_bareSize_11 rfl ok_X11_cellarOf km_RX11_90 (I.S.o 64 rfl rfl rfl) (I.S.b 64 rfl rfl) ⟨_, _, rfl⟩ rfl (Nat.le_of_ble_eq_true rfl) rfl rfl rfl (Nat.le_of_ble_eq_true rfl) (Nat.lt_succ_self _) ?_
    refine Go_iload_n (pc' := 1) dX11_cellarOf_0 rfl rfl rfl ?_
    refine Go_iconst (v := iZ 0) (pc' := 2) dX11_cellarOf_1 rfl (by decide) ?_
    refine Go_aload_n (pc' := 3) dX11_cellarOf_2 rfl rfl rfl ?_
    refine Go_getIv (v := (iZ (nc : Int))) (pc' := 6) dX11_cellarOf_3 rfl kf_RX11_84 (by decide) (by decide) rfl (I.S.b 64 rfl rfl) (I.S.o 64 rfl rfl rfl) (ec2) ?_
    refine Go_iconst (v := iZ 1) (pc' := 7) dX11_cellarOf_6 rfl (by decide) ?_
    refine Go_isubZ (pc' := 8) dX11_cellarOf_7 rfl ?_
    refine Go_callS_i (pc' := 11) (As := [.int _, .int _, .int _]) (st := []) dX11_cellarOf_8 rfl ok_X11_within km_RX11_94 rfl (Nat.le_of_ble_eq_true rfl) rfl rfl rfl (Nat.le_of_ble_eq_true rfl) (Nat.lt_succ_self _) ?_
    refine s_withinY (by first | exact ⟨i_lo _, i_hi _⟩ | omega) (by first | exact ⟨i_lo _, i_hi _⟩ | omega) (by first | exact ⟨i_lo _, i_hi _⟩ | omega) ?_
    refine ⟨_, rfl, ?_⟩
    refine Go_if_eqb (tgt := 32) (pc' := 14) dX11_cellarOf_11 (by decide) rfl (fun q11 => by exfalso; omega) (fun q11 => ?_)
    refine Go_iload_n (pc' := 15) dX11_cellarOf_14 rfl rfl rfl ?_
    refine Go_aload_n (pc' := 16) dX11_cellarOf_15 rfl rfl rfl ?_
    refine Go_getRs (pc' := 19) dX11_cellarOf_16 rfl kf_RX11_18 (by decide) (by decide) rfl (I.S.b 64 rfl rfl) (I.S.o 64 rfl rfl rfl) (I.S.r 64 1 rfl rfl rfl) ?_
    refine Go_alenZ (n := 6) (pc' := 20) dX11_cellarOf_19 rfl (I.S.b 67 rfl rfl) (I.S.k 67 rfl rfl rfl) (Or.inr (Or.inr ⟨_, rfl⟩)) ?_
    refine Go_icmp_geY (tgt := 32) (pc' := 23) dX11_cellarOf_20 (by decide) rfl (by first | exact ⟨i_lo _, i_hi _⟩ | omega) (by first | exact ⟨i_lo _, i_hi _⟩ | omega) (fun q20 => by exfalso; omega) (fun q20 => ?_)
    refine Go_aload_n (pc' := 24) dX11_cellarOf_23 rfl rfl rfl ?_
    refine Go_getRs (pc' := 27) dX11_cellarOf_24 rfl kf_RX11_18 (by decide) (by decide) rfl (I.S.b 64 rfl rfl) (I.S.o 64 rfl rfl rfl) (I.S.r 64 1 rfl rfl rfl) ?_
    refine Go_iload_n (pc' := 28) dX11_cellarOf_27 rfl rfl rfl ?_
    refine Go_aaloadZ (n := 6) (k := c) (pc' := 29) dX11_cellarOf_28 rfl (I.S.b 67 rfl rfl) (I.S.k 67 rfl rfl rfl) rfl rfl (by omega) (by decide) ho ?_
    refine Go_goto (tgt := 33) dX11_cellarOf_29 (by decide) ?_
    refine Go_areturn (r := some _) dX11_cellarOf_33 rfl ?_
    refine ⟨some _, rfl, ?_⟩
    refine Go_astore (pc' := 16) (lv' := [.ref _, .ref _, .int _, .int _, .int _, .ref _, .ref _]) dX11_bareSize_14 rfl (Nat.le_of_ble_eq_true rfl) rfl rfl ?_
    refine Go_aload (pc' := 18) dX11_bareSize_16 rfl rfl ?_
    refine Go_ifnull (pc' := 21) dX11_bareSize_18 rfl ?_
    refine Go_aload (pc' := 23) dX11_bareSize_21 rfl rfl ?_
    refine Go_ifnull (pc' := 26) dX11_bareSize_23 rfl ?_
    refine Go_aload (pc' := 28) dX11_bareSize_26 rfl rfl ?_
    refine Go_getIv (v := (iZ (vi h 131 (6 * q + c)).toInt)) (pc' := 31) dX11_bareSize_28 rfl kf_RX11_256 (by decide) (by decide) rfl RS.b RS.o (RV.2.2.2.2.1.trans (vi_eta _ _ _)) ?_
    refine Go_if_neY (tgt := 37) (pc' := 34) dX11_bareSize_31 (by decide) rfl (by first | exact ⟨i_lo _, i_hi _⟩ | omega) (fun c31 => ?_) (fun c31 => by exfalso; omega)
    refine Go_aload (pc' := 39) dX11_bareSize_37 rfl rfl ?_
    refine Go_getIv (v := (iZ (vi h 131 (6 * q + c)).toInt)) (pc' := 42) dX11_bareSize_39 rfl kf_RX11_256 (by decide) (by decide) rfl RS.b RS.o (RV.2.2.2.2.1.trans (vi_eta _ _ _)) ?_
    refine Go_callS_i (pc' := 45) (As := [.int _]) (st := []) dX11_bareSize_42 rfl ok_X11_levelOf km_RX11_287 rfl (Nat.le_of_ble_eq_true rfl) rfl rfl rfl (Nat.le_of_ble_eq_true rfl) (Nat.lt_succ_self _) ?_
    refine s_levY (by omega) ?_
    refine ⟨_, rfl, ?_⟩
    refine Go_aload_n (pc' := 46) dX11_bareSize_45 rfl rfl rfl ?_
    refine Go_getRs (pc' := 49) dX11_bareSize_46 rfl kf_RX11_10 (by decide) (by decide) rfl (I.S.b 64 rfl rfl) (I.S.o 64 rfl rfl rfl) (I.S.r 64 0 rfl rfl rfl) ?_
    refine Go_iload_n (pc' := 50) dX11_bareSize_49 rfl rfl rfl ?_
    refine Go_iload_n (pc' := 51) dX11_bareSize_50 rfl rfl rfl ?_
    refine Go_aload (pc' := 53) dX11_bareSize_51 rfl rfl ?_
    refine Go_getIv (v := (iZ (cX h c))) (pc' := 56) dX11_bareSize_53 rfl kf_RX11_275 (by decide) (by decide) rfl CS.b CS.o (ex) ?_
    refine Go_aload (pc' := 58) dX11_bareSize_56 rfl rfl ?_
    refine Go_getIv (v := (iZ (cY h c))) (pc' := 61) dX11_bareSize_58 rfl kf_RX11_278 (by decide) (by decide) rfl CS.b CS.o (ey) ?_
    refine Go_callV_i (pc' := 64) (As := [.int _, .int _, .int _, .int _]) (st := [.int _]) dX11_bareSize_61 rfl ok_X3_distance km_RX11_357 (I.S.o 65 rfl rfl rfl) (I.S.b 65 rfl rfl) ⟨_, _, rfl⟩ rfl (Nat.le_of_ble_eq_true rfl) rfl rfl rfl (Nat.le_of_ble_eq_true rfl) (Nat.lt_succ_self _) ?_
    refine s_dist I.S I.D (by omega) (by omega) (by omega) (by omega) ?_
    refine ⟨_, rfl, ?_⟩
    refine Go_callS_i (pc' := 67) (As := [.int _]) (st := [.int _]) dX11_bareSize_64 rfl ok_X11_fading km_RX11_381 rfl (Nat.le_of_ble_eq_true rfl) rfl rfl rfl (Nat.le_of_ble_eq_true rfl) (Nat.lt_succ_self _) ?_
    refine s_fading (by omega) ?_
    refine ⟨_, rfl, ?_⟩
    refine Go_iaddZ (pc' := 68) dX11_bareSize_67 rfl ?_
    refine Go_ireturn (ty := .int) dX11_bareSize_68 rfl rfl ?_
    exact hk
set_option maxRecDepth 20000 in
set_option maxHeartbeats 1000000 in
theorem s_bareF {G : GC} {d mc ms : Nat} {h : HS} {K : Option Value → HS → Prop} {q u nq nc : Nat} {x y : Int} (I : Inv h) (hnc : nc ≤ 6) (ec2 : vi h 64 2 = iZ (nc : Int)) (ec0 : vi h 99 0 = iZ (nc : Int)) (hq : q < nq) (hnq : nq ≤ 16) (QS : QkS h u) (RR : ∀ c, c < 6 → RdR h u q c) (hx : 0 ≤ x ∧ x ≤ 39) (hy : 0 ≤ y ∧ y ≤ 39) {c : Nat} (hc : c < nc) (ht : ¬ tlB h q c = true) (hk : K (some (.int (iZ (-1000000000)))) h) : Go G (d + 2) mc ms M_X11_bareSize 0 [.ref 64, .ref u, .int (iZ x), .int (iZ y), .int (iZ (c : Int)), un, un] [] h K := by
  have hu0 := QS.1
  obtain ⟨o, ho, CS, CV⟩ := cel_ex I hnc ec2 (c := c) (by omega)
  obtain ⟨xr, yr, ex, ey, exy⟩ := CV.1.xy
  rcases RR c (by omega) with ⟨hw, h0⟩ | ⟨w, hw, h0, RS, RV, -⟩
  · refine Go_aload_n (pc' := 1) dX11_bareSize_0 rfl rfl rfl ?_
    refine Go_iload (pc' := 3) dX11_bareSize_1 rfl rfl ?_
    refine Go_callV_r (pc' := 6) (As := [.int _]) (st := []) dX11_bareSize_3 rfl ok_X5_reading km_RX11_271 QS.o QS.b ⟨_, _, rfl⟩ rfl (Nat.le_of_ble_eq_true rfl) rfl rfl rfl (Nat.le_of_ble_eq_true rfl) (Nat.lt_succ_self _) ?_
    refine Go_iload_n (pc' := 1) dX5_reading_0 rfl rfl rfl ?_
    refine Go_if_ltY (tgt := 22) (pc' := 4) dX5_reading_1 (by decide) rfl (by first | exact ⟨i_lo _, i_hi _⟩ | omega) (fun r1 => by exfalso; omega) (fun r1 => ?_)
    refine Go_iload_n (pc' := 5) dX5_reading_4 rfl rfl rfl ?_
    refine Go_aload_n (pc' := 6) dX5_reading_5 rfl rfl rfl ?_
    refine Go_getRs (pc' := 9) dX5_reading_6 rfl kf_RX5_11 (by decide) (by decide) rfl QS.b QS.o QS.r0 ?_
    refine Go_alenZ (n := 6) (pc' := 10) dX5_reading_9 rfl QS.b1 QS.k1 (Or.inr (Or.inr ⟨_, rfl⟩)) ?_
    refine Go_icmp_geY (tgt := 22) (pc' := 13) dX5_reading_10 (by decide) rfl (by first | exact ⟨i_lo _, i_hi _⟩ | omega) (by first | exact ⟨i_lo _, i_hi _⟩ | omega) (fun r10 => by exfalso; omega) (fun r10 => ?_)
    refine Go_aload_n (pc' := 14) dX5_reading_13 rfl rfl rfl ?_
    refine Go_getRs (pc' := 17) dX5_reading_14 rfl kf_RX5_11 (by decide) (by decide) rfl QS.b QS.o QS.r0 ?_
    refine Go_iload_n (pc' := 18) dX5_reading_17 rfl rfl rfl ?_
    refine Go_aaloadNZ (n := 6) (k := c) (pc' := 19) dX5_reading_18 rfl QS.b1 QS.k1 rfl rfl (by omega) (by decide) hw ?_
    refine Go_goto (tgt := 23) dX5_reading_19 (by decide) ?_
    refine Go_areturn (r := none) dX5_reading_23 rfl ?_
    refine ⟨none, rfl, ?_⟩
    refine Go_astoreN (pc' := 8) (lv' := [.ref _, .ref _, .int _, .int _, .int _, .null, un]) dX11_bareSize_6 rfl (Nat.le_of_ble_eq_true rfl) rfl rfl ?_
    refine Go_aload_n (pc' := 9) dX11_bareSize_8 rfl rfl rfl ?_
    refine Go_iload (pc' := 11) dX11_bareSize_9 rfl rfl ?_
    refine Go_callV_r (pc' := 14) (As := [.int _]) (st := []) dX11_bareSize_11 rfl ok_X11_cellarOf km_RX11_90 (I.S.o 64 rfl rfl rfl) (I.S.b 64 rfl rfl) ⟨_, _, rfl⟩ rfl (Nat.le_of_ble_eq_true rfl) rfl rfl rfl (Nat.le_of_ble_eq_true rfl) (Nat.lt_succ_self _) ?_
    refine Go_iload_n (pc' := 1) dX11_cellarOf_0 rfl rfl rfl ?_
    refine Go_iconst (v := iZ 0) (pc' := 2) dX11_cellarOf_1 rfl (by decide) ?_
    refine Go_aload_n (pc' := 3) dX11_cellarOf_2 rfl rfl rfl ?_
    refine Go_getIv (v := (iZ (nc : Int))) (pc' := 6) dX11_cellarOf_3 rfl kf_RX11_84 (by decide) (by decide) rfl (I.S.b 64 rfl rfl) (I.S.o 64 rfl rfl rfl) (ec2) ?_
    refine Go_iconst (v := iZ 1) (pc' := 7) dX11_cellarOf_6 rfl (by decide) ?_
    refine Go_isubZ (pc' := 8) dX11_cellarOf_7 rfl ?_
    refine Go_callS_i (pc' := 11) (As := [.int _, .int _, .int _]) (st := []) dX11_cellarOf_8 rfl ok_X11_within km_RX11_94 rfl (Nat.le_of_ble_eq_true rfl) rfl rfl rfl (Nat.le_of_ble_eq_true rfl) (Nat.lt_succ_self _) ?_
    refine s_withinY (by first | exact ⟨i_lo _, i_hi _⟩ | omega) (by first | exact ⟨i_lo _, i_hi _⟩ | omega) (by first | exact ⟨i_lo _, i_hi _⟩ | omega) ?_
    refine ⟨_, rfl, ?_⟩
    refine Go_if_eqb (tgt := 32) (pc' := 14) dX11_cellarOf_11 (by decide) rfl (fun q11 => by exfalso; omega) (fun q11 => ?_)
    refine Go_iload_n (pc' := 15) dX11_cellarOf_14 rfl rfl rfl ?_
    refine Go_aload_n (pc' := 16) dX11_cellarOf_15 rfl rfl rfl ?_
    refine Go_getRs (pc' := 19) dX11_cellarOf_16 rfl kf_RX11_18 (by decide) (by decide) rfl (I.S.b 64 rfl rfl) (I.S.o 64 rfl rfl rfl) (I.S.r 64 1 rfl rfl rfl) ?_
    refine Go_alenZ (n := 6) (pc' := 20) dX11_cellarOf_19 rfl (I.S.b 67 rfl rfl) (I.S.k 67 rfl rfl rfl) (Or.inr (Or.inr ⟨_, rfl⟩)) ?_
    refine Go_icmp_geY (tgt := 32) (pc' := 23) dX11_cellarOf_20 (by decide) rfl (by first | exact ⟨i_lo _, i_hi _⟩ | omega) (by first | exact ⟨i_lo _, i_hi _⟩ | omega) (fun q20 => by exfalso; omega) (fun q20 => ?_)
    refine Go_aload_n (pc' := 24) dX11_cellarOf_23 rfl rfl rfl ?_
    refine Go_getRs (pc' := 27) dX11_cellarOf_24 rfl kf_RX11_18 (by decide) (by decide) rfl (I.S.b 64 rfl rfl) (I.S.o 64 rfl rfl rfl) (I.S.r 64 1 rfl rfl rfl) ?_
    refine Go_iload_n (pc' := 28) dX11_cellarOf_27 rfl rfl rfl ?_
    refine Go_aaloadZ (n := 6) (k := c) (pc' := 29) dX11_cellarOf_28 rfl (I.S.b 67 rfl rfl) (I.S.k 67 rfl rfl rfl) rfl rfl (by omega) (by decide) ho ?_
    refine Go_goto (tgt := 33) dX11_cellarOf_29 (by decide) ?_
    refine Go_areturn (r := some _) dX11_cellarOf_33 rfl ?_
    refine ⟨some _, rfl, ?_⟩
    refine Go_astore (pc' := 16) (lv' := [.ref _, .ref _, .int _, .int _, .int _, .null, .ref _]) dX11_bareSize_14 rfl (Nat.le_of_ble_eq_true rfl) rfl rfl ?_
    refine Go_aloadN (pc' := 18) dX11_bareSize_16 rfl rfl ?_
    refine Go_ifnullN (tgt := 34) dX11_bareSize_18 (by decide) ?_
    refine Go_ldcZ (X := (-1000000000)) (pc' := 36) dX11_bareSize_34 rfl kn_RX11_110 (by decide) ?_
    refine Go_ireturn (ty := .int) dX11_bareSize_36 rfl rfl ?_
    exact hk
  · have hw0 := RS.1
    have pk := RV.2.2.2.2.2
    rw [RV.2.2.2.2.1] at pk
    unfold rg at pk
    have zz := (dz_r (X := x - cX h c) (Y := y - cY h c) (by omega) (by omega)).1
    have zl := lv_r (v := (vi h 131 (6 * q + c)).toInt) (by omega)
    have zf := fz_r (x := dz (x - cX h c) (y - cY h c)) (by omega)
    have hp := fun z => ht ((tl_i h0).2 z)
    refine Go_aload_n (pc' := 1) dX11_bareSize_0 rfl rfl rfl ?_
    refine Go_iload (pc' := 3) dX11_bareSize_1 rfl rfl ?_
    refine Go_callV_r (pc' := 6) (As := [.int _]) (st := []) dX11_bareSize_3 rfl ok_X5_reading km_RX11_271 QS.o QS.b ⟨_, _, rfl⟩ rfl (Nat.le_of_ble_eq_true rfl) rfl rfl rfl (Nat.le_of_ble_eq_true rfl) (Nat.lt_succ_self _) ?_
    refine Go_iload_n (pc' := 1) dX5_reading_0 rfl rfl rfl ?_
    refine Go_if_ltY (tgt := 22) (pc' := 4) dX5_reading_1 (by decide) rfl (by first | exact ⟨i_lo _, i_hi _⟩ | omega) (fun r1 => by exfalso; omega) (fun r1 => ?_)
    refine Go_iload_n (pc' := 5) dX5_reading_4 rfl rfl rfl ?_
    refine Go_aload_n (pc' := 6) dX5_reading_5 rfl rfl rfl ?_
    refine Go_getRs (pc' := 9) dX5_reading_6 rfl kf_RX5_11 (by decide) (by decide) rfl QS.b QS.o QS.r0 ?_
    refine Go_alenZ (n := 6) (pc' := 10) dX5_reading_9 rfl QS.b1 QS.k1 (Or.inr (Or.inr ⟨_, rfl⟩)) ?_
    refine Go_icmp_geY (tgt := 22) (pc' := 13) dX5_reading_10 (by decide) rfl (by first | exact ⟨i_lo _, i_hi _⟩ | omega) (by first | exact ⟨i_lo _, i_hi _⟩ | omega) (fun r10 => by exfalso; omega) (fun r10 => ?_)
    refine Go_aload_n (pc' := 14) dX5_reading_13 rfl rfl rfl ?_
    refine Go_getRs (pc' := 17) dX5_reading_14 rfl kf_RX5_11 (by decide) (by decide) rfl QS.b QS.o QS.r0 ?_
    refine Go_iload_n (pc' := 18) dX5_reading_17 rfl rfl rfl ?_
    refine Go_aaloadZ (n := 6) (k := c) (pc' := 19) dX5_reading_18 rfl QS.b1 QS.k1 rfl rfl (by omega) (by decide) hw ?_
    refine Go_goto (tgt := 23) dX5_reading_19 (by decide) ?_
    refine Go_areturn (r := some _) dX5_reading_23 rfl ?_
    refine ⟨some _, rfl, ?_⟩
    refine Go_astore (pc' := 8) (lv' := [.ref _, .ref _, .int _, .int _, .int _, .ref _, un]) dX11_bareSize_6 rfl (Nat.le_of_ble_eq_true rfl) rfl rfl ?_
    refine Go_aload_n (pc' := 9) dX11_bareSize_8 rfl rfl rfl ?_
    refine Go_iload (pc' := 11) dX11_bareSize_9 rfl rfl ?_
    refine Go_callV_r (pc' := 14) (As := [.int _]) (st := []) dX11_bareSize_11 rfl ok_X11_cellarOf km_RX11_90 (I.S.o 64 rfl rfl rfl) (I.S.b 64 rfl rfl) ⟨_, _, rfl⟩ rfl (Nat.le_of_ble_eq_true rfl) rfl rfl rfl (Nat.le_of_ble_eq_true rfl) (Nat.lt_succ_self _) ?_
    refine Go_iload_n (pc' := 1) dX11_cellarOf_0 rfl rfl rfl ?_
    refine Go_iconst (v := iZ 0) (pc' := 2) dX11_cellarOf_1 rfl (by decide) ?_
    refine Go_aload_n (pc' := 3) dX11_cellarOf_2 rfl rfl rfl ?_
    refine Go_getIv (v := (iZ (nc : Int))) (pc' := 6) dX11_cellarOf_3 rfl kf_RX11_84 (by decide) (by decide) rfl (I.S.b 64 rfl rfl) (I.S.o 64 rfl rfl rfl) (ec2) ?_
    refine Go_iconst (v := iZ 1) (pc' := 7) dX11_cellarOf_6 rfl (by decide) ?_
    refine Go_isubZ (pc' := 8) dX11_cellarOf_7 rfl ?_
    refine Go_callS_i (pc' := 11) (As := [.int _, .int _, .int _]) (st := []) dX11_cellarOf_8 rfl ok_X11_within km_RX11_94 rfl (Nat.le_of_ble_eq_true rfl) rfl rfl rfl (Nat.le_of_ble_eq_true rfl) (Nat.lt_succ_self _) ?_
    refine s_withinY (by first | exact ⟨i_lo _, i_hi _⟩ | omega) (by first | exact ⟨i_lo _, i_hi _⟩ | omega) (by first | exact ⟨i_lo _, i_hi _⟩ | omega) ?_
    refine ⟨_, rfl, ?_⟩
    refine Go_if_eqb (tgt := 32) (pc' := 14) dX11_cellarOf_11 (by decide) rfl (fun q11 => by exfalso; omega) (fun q11 => ?_)
    refine Go_iload_n (pc' := 15) dX11_cellarOf_14 rfl rfl rfl ?_
    refine Go_aload_n (pc' := 16) dX11_cellarOf_15 rfl rfl rfl ?_
    refine Go_getRs (pc' := 19) dX11_cellarOf_16 rfl kf_RX11_18 (by decide) (by decide) rfl (I.S.b 64 rfl rfl) (I.S.o 64 rfl rfl rfl) (I.S.r 64 1 rfl rfl rfl) ?_
    refine Go_alenZ (n := 6) (pc' := 20) dX11_cellarOf_19 rfl (I.S.b 67 rfl rfl) (I.S.k 67 rfl rfl rfl) (Or.inr (Or.inr ⟨_, rfl⟩)) ?_
    refine Go_icmp_geY (tgt := 32) (pc' := 23) dX11_cellarOf_20 (by decide) rfl (by first | exact ⟨i_lo _, i_hi _⟩ | omega) (by first | exact ⟨i_lo _, i_hi _⟩ | omega) (fun q20 => by exfalso; omega) (fun q20 => ?_)
    refine Go_aload_n (pc' := 24) dX11_cellarOf_23 rfl rfl rfl ?_
    refine Go_getRs (pc' := 27) dX11_cellarOf_24 rfl kf_RX11_18 (by decide) (by decide) rfl (I.S.b 64 rfl rfl) (I.S.o 64 rfl rfl rfl) (I.S.r 64 1 rfl rfl rfl) ?_
    refine Go_iload_n (pc' := 28) dX11_cellarOf_27 rfl rfl rfl ?_
    refine Go_aaloadZ (n := 6) (k := c) (pc' := 29) dX11_cellarOf_28 rfl (I.S.b 67 rfl rfl) (I.S.k 67 rfl rfl rfl) rfl rfl (by omega) (by decide) ho ?_
    refine Go_goto (tgt := 33) dX11_cellarOf_29 (by decide) ?_
    refine Go_areturn (r := some _) dX11_cellarOf_33 rfl ?_
    refine ⟨some _, rfl, ?_⟩
    refine Go_astore (pc' := 16) (lv' := [.ref _, .ref _, .int _, .int _, .int _, .ref _, .ref _]) dX11_bareSize_14 rfl (Nat.le_of_ble_eq_true rfl) rfl rfl ?_
    refine Go_aload (pc' := 18) dX11_bareSize_16 rfl rfl ?_
    refine Go_ifnull (pc' := 21) dX11_bareSize_18 rfl ?_
    refine Go_aload (pc' := 23) dX11_bareSize_21 rfl rfl ?_
    refine Go_ifnull (pc' := 26) dX11_bareSize_23 rfl ?_
    refine Go_aload (pc' := 28) dX11_bareSize_26 rfl rfl ?_
    refine Go_getIv (v := (iZ (vi h 131 (6 * q + c)).toInt)) (pc' := 31) dX11_bareSize_28 rfl kf_RX11_256 (by decide) (by decide) rfl RS.b RS.o (RV.2.2.2.2.1.trans (vi_eta _ _ _)) ?_
    refine Go_if_neY (tgt := 37) (pc' := 34) dX11_bareSize_31 (by decide) rfl (by first | exact ⟨i_lo _, i_hi _⟩ | omega) (fun c31 => by exact absurd (show 0 < (vi h 131 (6 * q + c)).toInt by omega) hp) (fun c31 => ?_)
    refine Go_ldcZ (X := (-1000000000)) (pc' := 36) dX11_bareSize_34 rfl kn_RX11_110 (by decide) ?_
    refine Go_ireturn (ty := .int) dX11_bareSize_36 rfl rfl ?_
    exact hk
set_option maxRecDepth 20000 in
set_option maxHeartbeats 1000000 in
theorem s_bare0 {G : GC} {d mc ms : Nat} {h : HS} {K : Option Value → HS → Prop} {q u nq nc : Nat} {x y : Int} (I : Inv h) (hnc : nc ≤ 6) (ec2 : vi h 64 2 = iZ (nc : Int)) (ec0 : vi h 99 0 = iZ (nc : Int)) (hq : q < nq) (hnq : nq ≤ 16) (QS : QkS h u) (RR : ∀ c, c < 6 → RdR h u q c) (hx : 0 ≤ x ∧ x ≤ 39) (hy : 0 ≤ y ∧ y ≤ 39) {C : Int} (hC : -2147483648 ≤ C ∧ C < 2147483648) (hc : ¬ (0 ≤ C ∧ C < nc)) (hk : K (some (.int (iZ (-1000000000)))) h) : Go G (d + 2) mc ms M_X11_bareSize 0 [.ref 64, .ref u, .int (iZ x), .int (iZ y), .int (iZ C), un, un] [] h K := by
  have hu0 := QS.1
  rcases rd_cases hnc ec2 RR C with hc0 | ⟨c, rfl, hc6, ⟨hw, h0⟩ | ⟨w, hw, h0, RS, RV, hcn⟩⟩
  · refine Go_aload_n (pc' := 1) dX11_bareSize_0 rfl rfl rfl ?_
    refine Go_iload (pc' := 3) dX11_bareSize_1 rfl rfl ?_
    refine Go_callV_r (pc' := 6) (As := [.int _]) (st := []) dX11_bareSize_3 rfl ok_X5_reading km_RX11_271 QS.o QS.b ⟨_, _, rfl⟩ rfl (Nat.le_of_ble_eq_true rfl) rfl rfl rfl (Nat.le_of_ble_eq_true rfl) (Nat.lt_succ_self _) ?_
    refine Go_iload_n (pc' := 1) dX5_reading_0 rfl rfl rfl ?_
    refine Go_if_ltY (tgt := 22) (pc' := 4) dX5_reading_1 (by decide) rfl (by first | exact ⟨i_lo _, i_hi _⟩ | omega) (fun r1 => ?_) (fun r1 => ?_)
    · refine Go_null (pc' := 23) dX5_reading_22 rfl ?_
      refine Go_areturn (r := none) dX5_reading_23 rfl ?_
      refine ⟨none, rfl, ?_⟩
      refine Go_astoreN (pc' := 8) (lv' := [.ref _, .ref _, .int _, .int _, .int _, .null, un]) dX11_bareSize_6 rfl (Nat.le_of_ble_eq_true rfl) rfl rfl ?_
      refine Go_aload_n (pc' := 9) dX11_bareSize_8 rfl rfl rfl ?_
      refine Go_iload (pc' := 11) dX11_bareSize_9 rfl rfl ?_
      refine Go_callV_r (pc' := 14) (As := [.int _]) (st := []) dX11_bareSize_11 rfl ok_X11_cellarOf km_RX11_90 (I.S.o 64 rfl rfl rfl) (I.S.b 64 rfl rfl) ⟨_, _, rfl⟩ rfl (Nat.le_of_ble_eq_true rfl) rfl rfl rfl (Nat.le_of_ble_eq_true rfl) (Nat.lt_succ_self _) ?_
      refine Go_iload_n (pc' := 1) dX11_cellarOf_0 rfl rfl rfl ?_
      refine Go_iconst (v := iZ 0) (pc' := 2) dX11_cellarOf_1 rfl (by decide) ?_
      refine Go_aload_n (pc' := 3) dX11_cellarOf_2 rfl rfl rfl ?_
      refine Go_getIv (v := (iZ (nc : Int))) (pc' := 6) dX11_cellarOf_3 rfl kf_RX11_84 (by decide) (by decide) rfl (I.S.b 64 rfl rfl) (I.S.o 64 rfl rfl rfl) (ec2) ?_
      refine Go_iconst (v := iZ 1) (pc' := 7) dX11_cellarOf_6 rfl (by decide) ?_
      refine Go_isubZ (pc' := 8) dX11_cellarOf_7 rfl ?_
      refine Go_callS_i (pc' := 11) (As := [.int _, .int _, .int _]) (st := []) dX11_cellarOf_8 rfl ok_X11_within km_RX11_94 rfl (Nat.le_of_ble_eq_true rfl) rfl rfl rfl (Nat.le_of_ble_eq_true rfl) (Nat.lt_succ_self _) ?_
      refine s_withinY (by first | exact ⟨i_lo _, i_hi _⟩ | omega) (by first | exact ⟨i_lo _, i_hi _⟩ | omega) (by first | exact ⟨i_lo _, i_hi _⟩ | omega) ?_
      refine ⟨_, rfl, ?_⟩
      refine Go_if_eqb (tgt := 32) (pc' := 14) dX11_cellarOf_11 (by decide) rfl (fun q11 => ?_) (fun q11 => by exfalso; omega)
      refine Go_null (pc' := 33) dX11_cellarOf_32 rfl ?_
      refine Go_areturn (r := none) dX11_cellarOf_33 rfl ?_
      refine ⟨none, rfl, ?_⟩
      refine Go_astoreN (pc' := 16) (lv' := [.ref _, .ref _, .int _, .int _, .int _, .null, .null]) dX11_bareSize_14 rfl (Nat.le_of_ble_eq_true rfl) rfl rfl ?_
      refine Go_aloadN (pc' := 18) dX11_bareSize_16 rfl rfl ?_
      refine Go_ifnullN (tgt := 34) dX11_bareSize_18 (by decide) ?_
      refine Go_ldcZ (X := (-1000000000)) (pc' := 36) dX11_bareSize_34 rfl kn_RX11_110 (by decide) ?_
      refine Go_ireturn (ty := .int) dX11_bareSize_36 rfl rfl ?_
      exact hk
    · refine Go_iload_n (pc' := 5) dX5_reading_4 rfl rfl rfl ?_
      refine Go_aload_n (pc' := 6) dX5_reading_5 rfl rfl rfl ?_
      refine Go_getRs (pc' := 9) dX5_reading_6 rfl kf_RX5_11 (by decide) (by decide) rfl QS.b QS.o QS.r0 ?_
      refine Go_alenZ (n := 6) (pc' := 10) dX5_reading_9 rfl QS.b1 QS.k1 (Or.inr (Or.inr ⟨_, rfl⟩)) ?_
      refine Go_icmp_geY (tgt := 22) (pc' := 13) dX5_reading_10 (by decide) rfl (by first | exact ⟨i_lo _, i_hi _⟩ | omega) (by first | exact ⟨i_lo _, i_hi _⟩ | omega) (fun r10 => ?_) (fun r10 => ?_)
      · refine Go_null (pc' := 23) dX5_reading_22 rfl ?_
        refine Go_areturn (r := none) dX5_reading_23 rfl ?_
        refine ⟨none, rfl, ?_⟩
        refine Go_astoreN (pc' := 8) (lv' := [.ref _, .ref _, .int _, .int _, .int _, .null, un]) dX11_bareSize_6 rfl (Nat.le_of_ble_eq_true rfl) rfl rfl ?_
        refine Go_aload_n (pc' := 9) dX11_bareSize_8 rfl rfl rfl ?_
        refine Go_iload (pc' := 11) dX11_bareSize_9 rfl rfl ?_
        refine Go_callV_r (pc' := 14) (As := [.int _]) (st := []) dX11_bareSize_11 rfl ok_X11_cellarOf km_RX11_90 (I.S.o 64 rfl rfl rfl) (I.S.b 64 rfl rfl) ⟨_, _, rfl⟩ rfl (Nat.le_of_ble_eq_true rfl) rfl rfl rfl (Nat.le_of_ble_eq_true rfl) (Nat.lt_succ_self _) ?_
        refine Go_iload_n (pc' := 1) dX11_cellarOf_0 rfl rfl rfl ?_
        refine Go_iconst (v := iZ 0) (pc' := 2) dX11_cellarOf_1 rfl (by decide) ?_
        refine Go_aload_n (pc' := 3) dX11_cellarOf_2 rfl rfl rfl ?_
        refine Go_getIv (v := (iZ (nc : Int))) (pc' := 6) dX11_cellarOf_3 rfl kf_RX11_84 (by decide) (by decide) rfl (I.S.b 64 rfl rfl) (I.S.o 64 rfl rfl rfl) (ec2) ?_
        refine Go_iconst (v := iZ 1) (pc' := 7) dX11_cellarOf_6 rfl (by decide) ?_
        refine Go_isubZ (pc' := 8) dX11_cellarOf_7 rfl ?_
        refine Go_callS_i (pc' := 11) (As := [.int _, .int _, .int _]) (st := []) dX11_cellarOf_8 rfl ok_X11_within km_RX11_94 rfl (Nat.le_of_ble_eq_true rfl) rfl rfl rfl (Nat.le_of_ble_eq_true rfl) (Nat.lt_succ_self _) ?_
        refine s_withinY (by first | exact ⟨i_lo _, i_hi _⟩ | omega) (by first | exact ⟨i_lo _, i_hi _⟩ | omega) (by first | exact ⟨i_lo _, i_hi _⟩ | omega) ?_
        refine ⟨_, rfl, ?_⟩
        refine Go_if_eqb (tgt := 32) (pc' := 14) dX11_cellarOf_11 (by decide) rfl (fun q11 => ?_) (fun q11 => by exfalso; omega)
        refine Go_null (pc' := 33) dX11_cellarOf_32 rfl ?_
        refine Go_areturn (r := none) dX11_cellarOf_33 rfl ?_
        refine ⟨none, rfl, ?_⟩
        refine Go_astoreN (pc' := 16) (lv' := [.ref _, .ref _, .int _, .int _, .int _, .null, .null]) dX11_bareSize_14 rfl (Nat.le_of_ble_eq_true rfl) rfl rfl ?_
        refine Go_aloadN (pc' := 18) dX11_bareSize_16 rfl rfl ?_
        refine Go_ifnullN (tgt := 34) dX11_bareSize_18 (by decide) ?_
        refine Go_ldcZ (X := (-1000000000)) (pc' := 36) dX11_bareSize_34 rfl kn_RX11_110 (by decide) ?_
        refine Go_ireturn (ty := .int) dX11_bareSize_36 rfl rfl ?_
        exact hk
      · exfalso; omega
  · refine Go_aload_n (pc' := 1) dX11_bareSize_0 rfl rfl rfl ?_
    refine Go_iload (pc' := 3) dX11_bareSize_1 rfl rfl ?_
    refine Go_callV_r (pc' := 6) (As := [.int _]) (st := []) dX11_bareSize_3 rfl ok_X5_reading km_RX11_271 QS.o QS.b ⟨_, _, rfl⟩ rfl (Nat.le_of_ble_eq_true rfl) rfl rfl rfl (Nat.le_of_ble_eq_true rfl) (Nat.lt_succ_self _) ?_
    refine Go_iload_n (pc' := 1) dX5_reading_0 rfl rfl rfl ?_
    refine Go_if_ltY (tgt := 22) (pc' := 4) dX5_reading_1 (by decide) rfl (by first | exact ⟨i_lo _, i_hi _⟩ | omega) (fun r1 => by exfalso; omega) (fun r1 => ?_)
    refine Go_iload_n (pc' := 5) dX5_reading_4 rfl rfl rfl ?_
    refine Go_aload_n (pc' := 6) dX5_reading_5 rfl rfl rfl ?_
    refine Go_getRs (pc' := 9) dX5_reading_6 rfl kf_RX5_11 (by decide) (by decide) rfl QS.b QS.o QS.r0 ?_
    refine Go_alenZ (n := 6) (pc' := 10) dX5_reading_9 rfl QS.b1 QS.k1 (Or.inr (Or.inr ⟨_, rfl⟩)) ?_
    refine Go_icmp_geY (tgt := 22) (pc' := 13) dX5_reading_10 (by decide) rfl (by first | exact ⟨i_lo _, i_hi _⟩ | omega) (by first | exact ⟨i_lo _, i_hi _⟩ | omega) (fun r10 => by exfalso; omega) (fun r10 => ?_)
    refine Go_aload_n (pc' := 14) dX5_reading_13 rfl rfl rfl ?_
    refine Go_getRs (pc' := 17) dX5_reading_14 rfl kf_RX5_11 (by decide) (by decide) rfl QS.b QS.o QS.r0 ?_
    refine Go_iload_n (pc' := 18) dX5_reading_17 rfl rfl rfl ?_
    refine Go_aaloadNZ (n := 6) (k := c) (pc' := 19) dX5_reading_18 rfl QS.b1 QS.k1 rfl rfl (by omega) (by decide) hw ?_
    refine Go_goto (tgt := 23) dX5_reading_19 (by decide) ?_
    refine Go_areturn (r := none) dX5_reading_23 rfl ?_
    refine ⟨none, rfl, ?_⟩
    refine Go_astoreN (pc' := 8) (lv' := [.ref _, .ref _, .int _, .int _, .int _, .null, un]) dX11_bareSize_6 rfl (Nat.le_of_ble_eq_true rfl) rfl rfl ?_
    refine Go_aload_n (pc' := 9) dX11_bareSize_8 rfl rfl rfl ?_
    refine Go_iload (pc' := 11) dX11_bareSize_9 rfl rfl ?_
    refine Go_callV_r (pc' := 14) (As := [.int _]) (st := []) dX11_bareSize_11 rfl ok_X11_cellarOf km_RX11_90 (I.S.o 64 rfl rfl rfl) (I.S.b 64 rfl rfl) ⟨_, _, rfl⟩ rfl (Nat.le_of_ble_eq_true rfl) rfl rfl rfl (Nat.le_of_ble_eq_true rfl) (Nat.lt_succ_self _) ?_
    refine Go_iload_n (pc' := 1) dX11_cellarOf_0 rfl rfl rfl ?_
    refine Go_iconst (v := iZ 0) (pc' := 2) dX11_cellarOf_1 rfl (by decide) ?_
    refine Go_aload_n (pc' := 3) dX11_cellarOf_2 rfl rfl rfl ?_
    refine Go_getIv (v := (iZ (nc : Int))) (pc' := 6) dX11_cellarOf_3 rfl kf_RX11_84 (by decide) (by decide) rfl (I.S.b 64 rfl rfl) (I.S.o 64 rfl rfl rfl) (ec2) ?_
    refine Go_iconst (v := iZ 1) (pc' := 7) dX11_cellarOf_6 rfl (by decide) ?_
    refine Go_isubZ (pc' := 8) dX11_cellarOf_7 rfl ?_
    refine Go_callS_i (pc' := 11) (As := [.int _, .int _, .int _]) (st := []) dX11_cellarOf_8 rfl ok_X11_within km_RX11_94 rfl (Nat.le_of_ble_eq_true rfl) rfl rfl rfl (Nat.le_of_ble_eq_true rfl) (Nat.lt_succ_self _) ?_
    refine s_withinY (by first | exact ⟨i_lo _, i_hi _⟩ | omega) (by first | exact ⟨i_lo _, i_hi _⟩ | omega) (by first | exact ⟨i_lo _, i_hi _⟩ | omega) ?_
    refine ⟨_, rfl, ?_⟩
    refine Go_if_eqb (tgt := 32) (pc' := 14) dX11_cellarOf_11 (by decide) rfl (fun q11 => ?_) (fun q11 => by exfalso; omega)
    refine Go_null (pc' := 33) dX11_cellarOf_32 rfl ?_
    refine Go_areturn (r := none) dX11_cellarOf_33 rfl ?_
    refine ⟨none, rfl, ?_⟩
    refine Go_astoreN (pc' := 16) (lv' := [.ref _, .ref _, .int _, .int _, .int _, .null, .null]) dX11_bareSize_14 rfl (Nat.le_of_ble_eq_true rfl) rfl rfl ?_
    refine Go_aloadN (pc' := 18) dX11_bareSize_16 rfl rfl ?_
    refine Go_ifnullN (tgt := 34) dX11_bareSize_18 (by decide) ?_
    refine Go_ldcZ (X := (-1000000000)) (pc' := 36) dX11_bareSize_34 rfl kn_RX11_110 (by decide) ?_
    refine Go_ireturn (ty := .int) dX11_bareSize_36 rfl rfl ?_
    exact hk
  · exfalso; omega
set_option maxRecDepth 20000 in
set_option maxHeartbeats 1000000 in
theorem s_tells {G : GC} {d mc ms : Nat} {h : HS} {K : Option Value → HS → Prop} {q u nq nc c : Nat} (I : Inv h) (hnc : nc ≤ 6) (hq : q < nq) (hnq : nq ≤ 16) (RR : ∀ c, c < 6 → RdR h u q c) (hc : c < 6) (hk : K (some (.int (b2i (tlB h q c = true)))) h) : Go G d mc ms M_X12_tells 0 [.ref 99, .int (iZ (q : Int)), .int (iZ (c : Int))] [] h K := by
  rcases RR c hc with ⟨hw, h0⟩ | ⟨w, hw, h0, RS, RV, -⟩
  · refine Go_aload_n (pc' := 1) dX12_tells_0 rfl rfl rfl ?_
    refine Go_getRs (pc' := 4) dX12_tells_1 rfl kf_RX12_92 (by decide) (by decide) rfl (I.S.b 99 rfl rfl) (I.S.o 99 rfl rfl rfl) (I.S.r 99 41 rfl rfl rfl) ?_
    refine Go_bipush (v := iZ 6) (pc' := 6) dX12_tells_4 rfl (by decide) ?_
    refine Go_iload_n (pc' := 7) dX12_tells_6 rfl rfl rfl ?_
    refine Go_imulZ (pc' := 8) dX12_tells_7 rfl ?_
    refine Go_iload_n (pc' := 9) dX12_tells_8 rfl rfl rfl ?_
    refine Go_iaddZ (pc' := 10) dX12_tells_9 rfl ?_
    refine Go_baloadZ (n := 96) (k := (6 * q + c)) (v := (iZ 0)) (pc' := 11) dX12_tells_10 rfl (I.S.b 124 rfl rfl) (I.S.k 124 rfl rfl rfl) (by omega) (by omega) (by decide) (h0) ?_
    refine Go_if_eqY (tgt := 32) (pc' := 14) dX12_tells_11 (by decide) rfl (by first | exact ⟨i_lo _, i_hi _⟩ | omega) (fun c11 => ?_) (fun c11 => by exfalso; omega)
    refine Go_iconst (v := iZ 0) (pc' := 33) dX12_tells_32 rfl (by decide) ?_
    refine Go_ireturn (ty := .boolean) dX12_tells_33 rfl rfl ?_
    rw [b2i_f (tl_n h0)] at hk; exact hk
  · refine Go_aload_n (pc' := 1) dX12_tells_0 rfl rfl rfl ?_
    refine Go_getRs (pc' := 4) dX12_tells_1 rfl kf_RX12_92 (by decide) (by decide) rfl (I.S.b 99 rfl rfl) (I.S.o 99 rfl rfl rfl) (I.S.r 99 41 rfl rfl rfl) ?_
    refine Go_bipush (v := iZ 6) (pc' := 6) dX12_tells_4 rfl (by decide) ?_
    refine Go_iload_n (pc' := 7) dX12_tells_6 rfl rfl rfl ?_
    refine Go_imulZ (pc' := 8) dX12_tells_7 rfl ?_
    refine Go_iload_n (pc' := 9) dX12_tells_8 rfl rfl rfl ?_
    refine Go_iaddZ (pc' := 10) dX12_tells_9 rfl ?_
    refine Go_baloadZ (n := 96) (k := (6 * q + c)) (v := (iZ 1)) (pc' := 11) dX12_tells_10 rfl (I.S.b 124 rfl rfl) (I.S.k 124 rfl rfl rfl) (by omega) (by omega) (by decide) (h0) ?_
    refine Go_if_eqY (tgt := 32) (pc' := 14) dX12_tells_11 (by decide) rfl (by first | exact ⟨i_lo _, i_hi _⟩ | omega) (fun c11 => by exfalso; omega) (fun c11 => ?_)
    refine Go_aload_n (pc' := 15) dX12_tells_14 rfl rfl rfl ?_
    refine Go_getRs (pc' := 18) dX12_tells_15 rfl kf_RX12_114 (by decide) (by decide) rfl (I.S.b 99 rfl rfl) (I.S.o 99 rfl rfl rfl) (I.S.r 99 48 rfl rfl rfl) ?_
    refine Go_bipush (v := iZ 6) (pc' := 20) dX12_tells_18 rfl (by decide) ?_
    refine Go_iload_n (pc' := 21) dX12_tells_20 rfl rfl rfl ?_
    refine Go_imulZ (pc' := 22) dX12_tells_21 rfl ?_
    refine Go_iload_n (pc' := 23) dX12_tells_22 rfl rfl rfl ?_
    refine Go_iaddZ (pc' := 24) dX12_tells_23 rfl ?_
    refine Go_ialoadZ (n := 96) (k := (6 * q + c)) (v := (iZ (vi h 131 (6 * q + c)).toInt)) (pc' := 25) dX12_tells_24 rfl (I.S.b 131 rfl rfl) (I.S.k 131 rfl rfl rfl) (by omega) (by omega) (by decide) (vi_eta _ _ _) ?_
    refine Go_if_leY (tgt := 32) (pc' := 28) dX12_tells_25 (by decide) rfl (by first | exact ⟨i_lo _, i_hi _⟩ | omega) (fun c25 => ?_) (fun c25 => ?_)
    · refine Go_iconst (v := iZ 0) (pc' := 33) dX12_tells_32 rfl (by decide) ?_
      refine Go_ireturn (ty := .boolean) dX12_tells_33 rfl rfl ?_
      rw [b2i_f (fun z => by have z := (tl_i h0).1 z; omega)] at hk; exact hk
    · refine Go_iconst (v := iZ 1) (pc' := 29) dX12_tells_28 rfl (by decide) ?_
      refine Go_goto (tgt := 33) dX12_tells_29 (by decide) ?_
      refine Go_ireturn (ty := .boolean) dX12_tells_33 rfl rfl ?_
      rw [b2i_t ((tl_i h0).2 (by omega))] at hk; exact hk
set_option maxRecDepth 20000 in
set_option maxHeartbeats 1000000 in
theorem s_bareM {G : GC} {d mc ms : Nat} {h : HS} {K : Option Value → HS → Prop} {q u nq nc : Nat} {x y : Int} (I : Inv h) (hnc : nc ≤ 6) (ec2 : vi h 64 2 = iZ (nc : Int)) (ec0 : vi h 99 0 = iZ (nc : Int)) (hq : q < nq) (hnq : nq ≤ 16) (QS : QkS h u) (RR : ∀ c, c < 6 → RdR h u q c) (hx : 0 ≤ x ∧ x ≤ 39) (hy : 0 ≤ y ∧ y ≤ 39) {c : Nat} {z : Int} (ez : z = 40 * y + x) (hc : c < nc) (ht : tlB h q c = true) (hk : K (some (.int (iZ (bz h q c x y)))) h) : Go G (d + 2) mc ms M_X12_bare 0 [.ref 99, .int (iZ (q : Int)), .int (iZ z), .int (iZ (c : Int))] [] h K := by
  obtain ⟨o, ho, CS, CV⟩ := cel_ex I hnc ec2 (c := c) (by omega)
  obtain ⟨xr, yr, ex, ey, exy⟩ := CV.1.xy
  rcases RR c (by omega) with ⟨hw, h0⟩ | ⟨w, hw, h0, RS, RV, -⟩
  · exact absurd ht (tl_n h0)
  · have hw0 := RS.1
    have pk := RV.2.2.2.2.2
    rw [RV.2.2.2.2.1] at pk
    unfold rg at pk
    have zz := (dz_r (X := x - cX h c) (Y := y - cY h c) (by omega) (by omega)).1
    have zl := lv_r (v := (vi h 131 (6 * q + c)).toInt) (by omega)
    have zf := fz_r (x := dz (x - cX h c) (y - cY h c)) (by omega)
    refine Go_aload_n (pc' := 1) dX12_bare_0 rfl rfl rfl ?_
    refine Go_getRs (pc' := 4) dX12_bare_1 rfl kf_RX12_114 (by decide) (by decide) rfl (I.S.b 99 rfl rfl) (I.S.o 99 rfl rfl rfl) (I.S.r 99 48 rfl rfl rfl) ?_
    refine Go_bipush (v := iZ 6) (pc' := 6) dX12_bare_4 rfl (by decide) ?_
    refine Go_iload_n (pc' := 7) dX12_bare_6 rfl rfl rfl ?_
    refine Go_imulZ (pc' := 8) dX12_bare_7 rfl ?_
    refine Go_iload_n (pc' := 9) dX12_bare_8 rfl rfl rfl ?_
    refine Go_iaddZ (pc' := 10) dX12_bare_9 rfl ?_
    refine Go_ialoadZ (n := 96) (k := (6 * q + c)) (v := (iZ (vi h 131 (6 * q + c)).toInt)) (pc' := 11) dX12_bare_10 rfl (I.S.b 131 rfl rfl) (I.S.k 131 rfl rfl rfl) (by omega) (by omega) (by decide) (vi_eta _ _ _) ?_
    refine Go_callS_i (pc' := 14) (As := [.int _]) (st := []) dX12_bare_11 rfl ok_X12_levelOf km_RX12_364 rfl (Nat.le_of_ble_eq_true rfl) rfl rfl rfl (Nat.le_of_ble_eq_true rfl) (Nat.lt_succ_self _) ?_
    refine s_levMY (by omega) ?_
    refine ⟨_, rfl, ?_⟩
    refine Go_iload_n (pc' := 15) dX12_bare_14 rfl rfl rfl ?_
    refine Go_aload_n (pc' := 16) dX12_bare_15 rfl rfl rfl ?_
    refine Go_getRs (pc' := 19) dX12_bare_16 rfl kf_RX12_7 (by decide) (by decide) rfl (I.S.b 99 rfl rfl) (I.S.o 99 rfl rfl rfl) (I.S.r 99 1 rfl rfl rfl) ?_
    refine Go_iload_n (pc' := 20) dX12_bare_19 rfl rfl rfl ?_
    refine Go_ialoadZ (n := 6) (k := c) (v := (iZ (40 * cY h c + cX h c))) (pc' := 21) dX12_bare_20 rfl (I.S.b 100 rfl rfl) (I.S.k 100 rfl rfl rfl) rfl (by omega) (by decide) (exy) ?_
    refine Go_callS_i (pc' := 24) (As := [.int _, .int _]) (st := [.int _]) dX12_bare_21 rfl ok_X12_fades km_RX12_367 rfl (Nat.le_of_ble_eq_true rfl) rfl rfl rfl (Nat.le_of_ble_eq_true rfl) (Nat.lt_succ_self _) ?_
    refine s_fadesX (x := x) (y := y) (u := cX h c) (v := cY h c) ez rfl (by omega) (by omega) (by omega) (by omega) ?_
    refine ⟨_, rfl, ?_⟩
    refine Go_iaddZ (pc' := 25) dX12_bare_24 rfl ?_
    refine Go_ireturn (ty := .int) dX12_bare_25 rfl rfl ?_
    exact hk
set_option maxRecDepth 20000 in
set_option maxHeartbeats 1000000 in
theorem s_mean {G : GC} {d mc ms : Nat} {h : HS} {K : Option Value → HS → Prop} {s n : Int} (hs : -2147483648 < s ∧ s < 2147483648) (hn : 0 ≤ n ∧ n < 2147483648) (hk : K (some (.int (iZ (if n = 0 then -1000000000 else s / n)))) h) : Go G (d + 1) mc ms M_X11_mean 0 [.int (iZ s), .int (iZ n)] [] h K := by
  refine Go_iload_n (pc' := 1) dX11_mean_0 rfl rfl rfl ?_
  refine Go_if_neY (tgt := 9) (pc' := 4) dX11_mean_1 (by decide) rfl (by first | exact ⟨i_lo _, i_hi _⟩ | omega) (fun c1 => ?_) (fun c1 => ?_)
  · refine Go_iload_n (pc' := 10) dX11_mean_9 rfl rfl rfl ?_
    refine Go_iload_n (pc' := 11) dX11_mean_10 rfl rfl rfl ?_
    refine Go_callS_i (pc' := 14) (As := [.int _, .int _]) (st := []) dX11_mean_11 rfl ok_J9_floorDiv_7cf53 km_RX11_177 rfl (Nat.le_of_ble_eq_true rfl) rfl rfl rfl (Nat.le_of_ble_eq_true rfl) (Nat.lt_succ_self _) ?_
    refine s_fdivY (by omega) (by omega) ?_
    refine ⟨_, rfl, ?_⟩
    refine Go_ireturn (ty := .int) dX11_mean_14 rfl rfl ?_
    rw [if_neg c1] at hk; exact hk
  · refine Go_ldcZ (X := (-1000000000)) (pc' := 6) dX11_mean_4 rfl kn_RX11_110 (by decide) ?_
    refine Go_goto (tgt := 14) dX11_mean_6 (by decide) ?_
    refine Go_ireturn (ty := .int) dX11_mean_14 rfl rfl ?_
    rw [if_pos c1] at hk; exact hk
set_option maxRecDepth 20000 in
set_option maxHeartbeats 1000000 in
theorem mz_loop {G : GC} {d mc ms : Nat} {h : HS} {K : Option Value → HS → Prop} {q u nq nc : Nat} {x y : Int} (I : Inv h) (hnc : nc ≤ 6) (ec2 : vi h 64 2 = iZ (nc : Int)) (ec0 : vi h 99 0 = iZ (nc : Int)) (hq : q < nq) (hnq : nq ≤ 16) (QS : QkS h u) (RR : ∀ c, c < 6 → RdR h u q c) (hx : 0 ≤ x ∧ x ≤ 39) (hy : 0 ≤ y ∧ y ≤ 39) {but : Int} (hbut : -1 ≤ but ∧ but ≤ 10) : ∀ (m c : Nat) (s n : Int) (v8 v9 : Value), c + m = nc → (-1000 * (c : Int) ≤ s ∧ s ≤ 1000 * (c : Int)) → (0 ≤ n ∧ n ≤ c) → K (some (.int (iZ (mz h q x y but m c s n)))) h → Go G (d + 3) mc ms M_X11_meanSize 9 [.ref 64, .ref u, .int (iZ x), .int (iZ y), .int (iZ but), .int (iZ s), .int (iZ n), .int (iZ (c : Int)), v8, v9] [] h K := by
  intro m
  induction m with
  | zero =>
    intro c s n v8 v9 hm hs hn hk
    refine Go_iload (pc' := 11) dX11_meanSize_9 rfl rfl ?_
    refine Go_aload_n (pc' := 12) dX11_meanSize_11 rfl rfl rfl ?_
    refine Go_getIv (v := (iZ (nc : Int))) (pc' := 15) dX11_meanSize_12 rfl kf_RX11_84 (by decide) (by decide) rfl (I.S.b 64 rfl rfl) (I.S.o 64 rfl rfl rfl) (ec2) ?_
    refine Go_icmp_geY (tgt := 83) (pc' := 18) dX11_meanSize_15 (by decide) rfl (by first | exact ⟨i_lo _, i_hi _⟩ | omega) (by first | exact ⟨i_lo _, i_hi _⟩ | omega) (fun c15 => ?_) (fun c15 => by exfalso; omega)
    refine Go_iload (pc' := 85) dX11_meanSize_83 rfl rfl ?_
    refine Go_iload (pc' := 87) dX11_meanSize_85 rfl rfl ?_
    refine Go_callS_i (pc' := 90) (As := [.int _, .int _]) (st := []) dX11_meanSize_87 rfl ok_X11_mean km_RX11_309 rfl (Nat.le_of_ble_eq_true rfl) rfl rfl rfl (Nat.le_of_ble_eq_true rfl) (Nat.lt_succ_self _) ?_
    refine s_mean (by omega) (by omega) ?_
    refine ⟨_, rfl, ?_⟩
    refine Go_ireturn (ty := .int) dX11_meanSize_90 rfl rfl ?_
    exact hk
  | succ m ih =>
    intro c s n v8 v9 hm hs hn hk
    obtain ⟨o, ho, CS, CV⟩ := cel_ex I hnc ec2 (c := c) (by omega)
    obtain ⟨xr, yr, ex, ey, exy⟩ := CV.1.xy
    have hbz : tlB h q c = true → 0 ≤ bz h q c x y ∧ bz h q c x y ≤ 772 := by
      intro ht
      rcases RR c (by omega) with ⟨hw, h0⟩ | ⟨w, hw, h0, RS, RV, -⟩
      · exact absurd ht (tl_n h0)
      · have pk := RV.2.2.2.2.2
        rw [RV.2.2.2.2.1] at pk
        exact bz_r pk.2 hx hy xr yr
    have hbt := CV.2.2.2.2.2.2.2
    rw [CV.2.2.2.2.2.2.1] at hbt
    unfold rg at hbt
    by_cases ht : tlB h q c = true
    · have hbz := hbz ht
      refine Go_iload (pc' := 11) dX11_meanSize_9 rfl rfl ?_
      refine Go_aload_n (pc' := 12) dX11_meanSize_11 rfl rfl rfl ?_
      refine Go_getIv (v := (iZ (nc : Int))) (pc' := 15) dX11_meanSize_12 rfl kf_RX11_84 (by decide) (by decide) rfl (I.S.b 64 rfl rfl) (I.S.o 64 rfl rfl rfl) (ec2) ?_
      refine Go_icmp_geY (tgt := 83) (pc' := 18) dX11_meanSize_15 (by decide) rfl (by first | exact ⟨i_lo _, i_hi _⟩ | omega) (by first | exact ⟨i_lo _, i_hi _⟩ | omega) (fun c15 => by exfalso; omega) (fun c15 => ?_)
      refine Go_aload_n (pc' := 19) dX11_meanSize_18 rfl rfl rfl ?_
      refine Go_iload (pc' := 21) dX11_meanSize_19 rfl rfl ?_
      refine Go_callV_r (pc' := 24) (As := [.int _]) (st := []) dX11_meanSize_21 rfl ok_X11_cellarOf km_RX11_90 (I.S.o 64 rfl rfl rfl) (I.S.b 64 rfl rfl) ⟨_, _, rfl⟩ rfl (Nat.le_of_ble_eq_true rfl) rfl rfl rfl (Nat.le_of_ble_eq_true rfl) (Nat.lt_succ_self _) ?_
      refine Go_iload_n (pc' := 1) dX11_cellarOf_0 rfl rfl rfl ?_
      refine Go_iconst (v := iZ 0) (pc' := 2) dX11_cellarOf_1 rfl (by decide) ?_
      refine Go_aload_n (pc' := 3) dX11_cellarOf_2 rfl rfl rfl ?_
      refine Go_getIv (v := (iZ (nc : Int))) (pc' := 6) dX11_cellarOf_3 rfl kf_RX11_84 (by decide) (by decide) rfl (I.S.b 64 rfl rfl) (I.S.o 64 rfl rfl rfl) (ec2) ?_
      refine Go_iconst (v := iZ 1) (pc' := 7) dX11_cellarOf_6 rfl (by decide) ?_
      refine Go_isubZ (pc' := 8) dX11_cellarOf_7 rfl ?_
      refine Go_callS_i (pc' := 11) (As := [.int _, .int _, .int _]) (st := []) dX11_cellarOf_8 rfl ok_X11_within km_RX11_94 rfl (Nat.le_of_ble_eq_true rfl) rfl rfl rfl (Nat.le_of_ble_eq_true rfl) (Nat.lt_succ_self _) ?_
      refine s_withinY (by first | exact ⟨i_lo _, i_hi _⟩ | omega) (by first | exact ⟨i_lo _, i_hi _⟩ | omega) (by first | exact ⟨i_lo _, i_hi _⟩ | omega) ?_
      refine ⟨_, rfl, ?_⟩
      refine Go_if_eqb (tgt := 32) (pc' := 14) dX11_cellarOf_11 (by decide) rfl (fun q11 => by exfalso; omega) (fun q11 => ?_)
      refine Go_iload_n (pc' := 15) dX11_cellarOf_14 rfl rfl rfl ?_
      refine Go_aload_n (pc' := 16) dX11_cellarOf_15 rfl rfl rfl ?_
      refine Go_getRs (pc' := 19) dX11_cellarOf_16 rfl kf_RX11_18 (by decide) (by decide) rfl (I.S.b 64 rfl rfl) (I.S.o 64 rfl rfl rfl) (I.S.r 64 1 rfl rfl rfl) ?_
      refine Go_alenZ (n := 6) (pc' := 20) dX11_cellarOf_19 rfl (I.S.b 67 rfl rfl) (I.S.k 67 rfl rfl rfl) (Or.inr (Or.inr ⟨_, rfl⟩)) ?_
      refine Go_icmp_geY (tgt := 32) (pc' := 23) dX11_cellarOf_20 (by decide) rfl (by first | exact ⟨i_lo _, i_hi _⟩ | omega) (by first | exact ⟨i_lo _, i_hi _⟩ | omega) (fun q20 => by exfalso; omega) (fun q20 => ?_)
      refine Go_aload_n (pc' := 24) dX11_cellarOf_23 rfl rfl rfl ?_
      refine Go_getRs (pc' := 27) dX11_cellarOf_24 rfl kf_RX11_18 (by decide) (by decide) rfl (I.S.b 64 rfl rfl) (I.S.o 64 rfl rfl rfl) (I.S.r 64 1 rfl rfl rfl) ?_
      refine Go_iload_n (pc' := 28) dX11_cellarOf_27 rfl rfl rfl ?_
      refine Go_aaloadZ (n := 6) (k := c) (pc' := 29) dX11_cellarOf_28 rfl (I.S.b 67 rfl rfl) (I.S.k 67 rfl rfl rfl) rfl rfl (by omega) (by decide) ho ?_
      refine Go_goto (tgt := 33) dX11_cellarOf_29 (by decide) ?_
      refine Go_areturn (r := some _) dX11_cellarOf_33 rfl ?_
      refine ⟨some _, rfl, ?_⟩
      refine Go_astore (pc' := 26) (lv' := [.ref _, .ref _, .int _, .int _, .int _, .int _, .int _, .int _, .ref _, _]) dX11_meanSize_24 rfl (Nat.le_of_ble_eq_true rfl) rfl rfl ?_
      refine Go_iload (pc' := 28) dX11_meanSize_26 rfl rfl ?_
      refine Go_iload (pc' := 30) dX11_meanSize_28 rfl rfl ?_
      refine Go_icmp_neY (tgt := 38) (pc' := 33) dX11_meanSize_30 (by decide) rfl (by first | exact ⟨i_lo _, i_hi _⟩ | omega) (by first | exact ⟨i_lo _, i_hi _⟩ | omega) (fun c30 => ?_) (fun c30 => ?_)
      · refine Go_aload_n (pc' := 39) dX11_meanSize_38 rfl rfl rfl ?_
        refine Go_aload_n (pc' := 40) dX11_meanSize_39 rfl rfl rfl ?_
        refine Go_iload_n (pc' := 41) dX11_meanSize_40 rfl rfl rfl ?_
        refine Go_iload_n (pc' := 42) dX11_meanSize_41 rfl rfl rfl ?_
        refine Go_iload (pc' := 44) dX11_meanSize_42 rfl rfl ?_
        refine Go_callV_i (pc' := 47) (As := [.ref _, .int _, .int _, .int _]) (st := []) dX11_meanSize_44 rfl ok_X11_bareSize km_RX11_297 (I.S.o 64 rfl rfl rfl) (I.S.b 64 rfl rfl) ⟨_, _, rfl⟩ rfl (Nat.le_of_ble_eq_true rfl) rfl rfl rfl (Nat.le_of_ble_eq_true rfl) (Nat.lt_succ_self _) ?_
        refine s_bareT I hnc ec2 ec0 hq hnq QS RR hx hy (by omega) ht ?_
        refine ⟨_, rfl, ?_⟩
        refine Go_istore (pc' := 49) (lv' := [.ref _, .ref _, .int _, .int _, .int _, .int _, .int _, .int _, .ref _, .int _]) dX11_meanSize_47 rfl (Nat.le_of_ble_eq_true rfl) rfl rfl ?_
        refine Go_aload (pc' := 51) dX11_meanSize_49 rfl rfl ?_
        refine Go_ifnull (pc' := 54) dX11_meanSize_51 rfl ?_
        refine Go_iload (pc' := 56) dX11_meanSize_54 rfl rfl ?_
        refine Go_ldcZ (X := (-1000000000)) (pc' := 58) dX11_meanSize_56 rfl kn_RX11_110 (by decide) ?_
        refine Go_icmp_eqY (tgt := 77) (pc' := 61) dX11_meanSize_58 (by decide) rfl (by first | exact ⟨i_lo _, i_hi _⟩ | omega) (by first | exact ⟨i_lo _, i_hi _⟩ | omega) (fun c58 => by exfalso; omega) (fun c58 => ?_)
        refine Go_iload (pc' := 63) dX11_meanSize_61 rfl rfl ?_
        refine Go_iload (pc' := 65) dX11_meanSize_63 rfl rfl ?_
        refine Go_aload (pc' := 67) dX11_meanSize_65 rfl rfl ?_
        refine Go_getIv (v := (iZ (vi h 114 c).toInt)) (pc' := 70) dX11_meanSize_67 rfl kf_RX11_290 (by decide) (by decide) rfl CS.b CS.o (CV.2.2.2.2.2.2.1.trans (vi_eta _ _ _)) ?_
        refine Go_iaddZ (pc' := 71) dX11_meanSize_70 rfl ?_
        refine Go_iaddZ (pc' := 72) dX11_meanSize_71 rfl ?_
        refine Go_istore (pc' := 74) (lv' := [.ref _, .ref _, .int _, .int _, .int _, .int _, .int _, .int _, .ref _, .int _]) dX11_meanSize_72 rfl (Nat.le_of_ble_eq_true rfl) rfl rfl ?_
        refine Go_iincZ (pc' := 77) (lv' := [.ref _, .ref _, .int _, .int _, .int _, .int _, .int _, .int _, .ref _, .int _]) dX11_meanSize_74 rfl rfl (Nat.le_of_ble_eq_true rfl) rfl rfl ?_
        refine Go_iincZ (pc' := 80) (lv' := [.ref _, .ref _, .int _, .int _, .int _, .int _, .int _, .int _, .ref _, .int _]) dX11_meanSize_77 rfl rfl (Nat.le_of_ble_eq_true rfl) rfl rfl ?_
        refine Go_goto (tgt := 9) dX11_meanSize_80 (by decide) ?_
        rw [mz_t (by omega) ht] at hk
        exact ih (c + 1) _ _ _ _ (by omega) (by omega) (by omega) hk
      · refine Go_ldcZ (X := (-1000000000)) (pc' := 35) dX11_meanSize_33 rfl kn_RX11_110 (by decide) ?_
        refine Go_goto (tgt := 47) dX11_meanSize_35 (by decide) ?_
        refine Go_istore (pc' := 49) (lv' := [.ref _, .ref _, .int _, .int _, .int _, .int _, .int _, .int _, .ref _, .int _]) dX11_meanSize_47 rfl (Nat.le_of_ble_eq_true rfl) rfl rfl ?_
        refine Go_aload (pc' := 51) dX11_meanSize_49 rfl rfl ?_
        refine Go_ifnull (pc' := 54) dX11_meanSize_51 rfl ?_
        refine Go_iload (pc' := 56) dX11_meanSize_54 rfl rfl ?_
        refine Go_ldcZ (X := (-1000000000)) (pc' := 58) dX11_meanSize_56 rfl kn_RX11_110 (by decide) ?_
        refine Go_icmp_eqY (tgt := 77) (pc' := 61) dX11_meanSize_58 (by decide) rfl (by first | exact ⟨i_lo _, i_hi _⟩ | omega) (by first | exact ⟨i_lo _, i_hi _⟩ | omega) (fun c58 => ?_) (fun c58 => by exfalso; omega)
        refine Go_iincZ (pc' := 80) (lv' := [.ref _, .ref _, .int _, .int _, .int _, .int _, .int _, .int _, .ref _, .int _]) dX11_meanSize_77 rfl rfl (Nat.le_of_ble_eq_true rfl) rfl rfl ?_
        refine Go_goto (tgt := 9) dX11_meanSize_80 (by decide) ?_
        rw [mz_f (Or.inl (by omega))] at hk
        exact ih (c + 1) _ _ _ _ (by omega) (by omega) (by omega) hk
    · refine Go_iload (pc' := 11) dX11_meanSize_9 rfl rfl ?_
      refine Go_aload_n (pc' := 12) dX11_meanSize_11 rfl rfl rfl ?_
      refine Go_getIv (v := (iZ (nc : Int))) (pc' := 15) dX11_meanSize_12 rfl kf_RX11_84 (by decide) (by decide) rfl (I.S.b 64 rfl rfl) (I.S.o 64 rfl rfl rfl) (ec2) ?_
      refine Go_icmp_geY (tgt := 83) (pc' := 18) dX11_meanSize_15 (by decide) rfl (by first | exact ⟨i_lo _, i_hi _⟩ | omega) (by first | exact ⟨i_lo _, i_hi _⟩ | omega) (fun c15 => by exfalso; omega) (fun c15 => ?_)
      refine Go_aload_n (pc' := 19) dX11_meanSize_18 rfl rfl rfl ?_
      refine Go_iload (pc' := 21) dX11_meanSize_19 rfl rfl ?_
      refine Go_callV_r (pc' := 24) (As := [.int _]) (st := []) dX11_meanSize_21 rfl ok_X11_cellarOf km_RX11_90 (I.S.o 64 rfl rfl rfl) (I.S.b 64 rfl rfl) ⟨_, _, rfl⟩ rfl (Nat.le_of_ble_eq_true rfl) rfl rfl rfl (Nat.le_of_ble_eq_true rfl) (Nat.lt_succ_self _) ?_
      refine Go_iload_n (pc' := 1) dX11_cellarOf_0 rfl rfl rfl ?_
      refine Go_iconst (v := iZ 0) (pc' := 2) dX11_cellarOf_1 rfl (by decide) ?_
      refine Go_aload_n (pc' := 3) dX11_cellarOf_2 rfl rfl rfl ?_
      refine Go_getIv (v := (iZ (nc : Int))) (pc' := 6) dX11_cellarOf_3 rfl kf_RX11_84 (by decide) (by decide) rfl (I.S.b 64 rfl rfl) (I.S.o 64 rfl rfl rfl) (ec2) ?_
      refine Go_iconst (v := iZ 1) (pc' := 7) dX11_cellarOf_6 rfl (by decide) ?_
      refine Go_isubZ (pc' := 8) dX11_cellarOf_7 rfl ?_
      refine Go_callS_i (pc' := 11) (As := [.int _, .int _, .int _]) (st := []) dX11_cellarOf_8 rfl ok_X11_within km_RX11_94 rfl (Nat.le_of_ble_eq_true rfl) rfl rfl rfl (Nat.le_of_ble_eq_true rfl) (Nat.lt_succ_self _) ?_
      refine s_withinY (by first | exact ⟨i_lo _, i_hi _⟩ | omega) (by first | exact ⟨i_lo _, i_hi _⟩ | omega) (by first | exact ⟨i_lo _, i_hi _⟩ | omega) ?_
      refine ⟨_, rfl, ?_⟩
      refine Go_if_eqb (tgt := 32) (pc' := 14) dX11_cellarOf_11 (by decide) rfl (fun q11 => by exfalso; omega) (fun q11 => ?_)
      refine Go_iload_n (pc' := 15) dX11_cellarOf_14 rfl rfl rfl ?_
      refine Go_aload_n (pc' := 16) dX11_cellarOf_15 rfl rfl rfl ?_
      refine Go_getRs (pc' := 19) dX11_cellarOf_16 rfl kf_RX11_18 (by decide) (by decide) rfl (I.S.b 64 rfl rfl) (I.S.o 64 rfl rfl rfl) (I.S.r 64 1 rfl rfl rfl) ?_
      refine Go_alenZ (n := 6) (pc' := 20) dX11_cellarOf_19 rfl (I.S.b 67 rfl rfl) (I.S.k 67 rfl rfl rfl) (Or.inr (Or.inr ⟨_, rfl⟩)) ?_
      refine Go_icmp_geY (tgt := 32) (pc' := 23) dX11_cellarOf_20 (by decide) rfl (by first | exact ⟨i_lo _, i_hi _⟩ | omega) (by first | exact ⟨i_lo _, i_hi _⟩ | omega) (fun q20 => by exfalso; omega) (fun q20 => ?_)
      refine Go_aload_n (pc' := 24) dX11_cellarOf_23 rfl rfl rfl ?_
      refine Go_getRs (pc' := 27) dX11_cellarOf_24 rfl kf_RX11_18 (by decide) (by decide) rfl (I.S.b 64 rfl rfl) (I.S.o 64 rfl rfl rfl) (I.S.r 64 1 rfl rfl rfl) ?_
      refine Go_iload_n (pc' := 28) dX11_cellarOf_27 rfl rfl rfl ?_
      refine Go_aaloadZ (n := 6) (k := c) (pc' := 29) dX11_cellarOf_28 rfl (I.S.b 67 rfl rfl) (I.S.k 67 rfl rfl rfl) rfl rfl (by omega) (by decide) ho ?_
      refine Go_goto (tgt := 33) dX11_cellarOf_29 (by decide) ?_
      refine Go_areturn (r := some _) dX11_cellarOf_33 rfl ?_
      refine ⟨some _, rfl, ?_⟩
      refine Go_astore (pc' := 26) (lv' := [.ref _, .ref _, .int _, .int _, .int _, .int _, .int _, .int _, .ref _, _]) dX11_meanSize_24 rfl (Nat.le_of_ble_eq_true rfl) rfl rfl ?_
      refine Go_iload (pc' := 28) dX11_meanSize_26 rfl rfl ?_
      refine Go_iload (pc' := 30) dX11_meanSize_28 rfl rfl ?_
      refine Go_icmp_neY (tgt := 38) (pc' := 33) dX11_meanSize_30 (by decide) rfl (by first | exact ⟨i_lo _, i_hi _⟩ | omega) (by first | exact ⟨i_lo _, i_hi _⟩ | omega) (fun c30 => ?_) (fun c30 => ?_)
      · refine Go_aload_n (pc' := 39) dX11_meanSize_38 rfl rfl rfl ?_
        refine Go_aload_n (pc' := 40) dX11_meanSize_39 rfl rfl rfl ?_
        refine Go_iload_n (pc' := 41) dX11_meanSize_40 rfl rfl rfl ?_
        refine Go_iload_n (pc' := 42) dX11_meanSize_41 rfl rfl rfl ?_
        refine Go_iload (pc' := 44) dX11_meanSize_42 rfl rfl ?_
        refine Go_callV_i (pc' := 47) (As := [.ref _, .int _, .int _, .int _]) (st := []) dX11_meanSize_44 rfl ok_X11_bareSize km_RX11_297 (I.S.o 64 rfl rfl rfl) (I.S.b 64 rfl rfl) ⟨_, _, rfl⟩ rfl (Nat.le_of_ble_eq_true rfl) rfl rfl rfl (Nat.le_of_ble_eq_true rfl) (Nat.lt_succ_self _) ?_
        refine s_bareF I hnc ec2 ec0 hq hnq QS RR hx hy (by omega) ht ?_
        refine ⟨_, rfl, ?_⟩
        refine Go_istore (pc' := 49) (lv' := [.ref _, .ref _, .int _, .int _, .int _, .int _, .int _, .int _, .ref _, .int _]) dX11_meanSize_47 rfl (Nat.le_of_ble_eq_true rfl) rfl rfl ?_
        refine Go_aload (pc' := 51) dX11_meanSize_49 rfl rfl ?_
        refine Go_ifnull (pc' := 54) dX11_meanSize_51 rfl ?_
        refine Go_iload (pc' := 56) dX11_meanSize_54 rfl rfl ?_
        refine Go_ldcZ (X := (-1000000000)) (pc' := 58) dX11_meanSize_56 rfl kn_RX11_110 (by decide) ?_
        refine Go_icmp_eqY (tgt := 77) (pc' := 61) dX11_meanSize_58 (by decide) rfl (by first | exact ⟨i_lo _, i_hi _⟩ | omega) (by first | exact ⟨i_lo _, i_hi _⟩ | omega) (fun c58 => ?_) (fun c58 => by exfalso; omega)
        refine Go_iincZ (pc' := 80) (lv' := [.ref _, .ref _, .int _, .int _, .int _, .int _, .int _, .int _, .ref _, .int _]) dX11_meanSize_77 rfl rfl (Nat.le_of_ble_eq_true rfl) rfl rfl ?_
        refine Go_goto (tgt := 9) dX11_meanSize_80 (by decide) ?_
        rw [mz_f (Or.inr ht)] at hk
        exact ih (c + 1) _ _ _ _ (by omega) (by omega) (by omega) hk
      · refine Go_ldcZ (X := (-1000000000)) (pc' := 35) dX11_meanSize_33 rfl kn_RX11_110 (by decide) ?_
        refine Go_goto (tgt := 47) dX11_meanSize_35 (by decide) ?_
        refine Go_istore (pc' := 49) (lv' := [.ref _, .ref _, .int _, .int _, .int _, .int _, .int _, .int _, .ref _, .int _]) dX11_meanSize_47 rfl (Nat.le_of_ble_eq_true rfl) rfl rfl ?_
        refine Go_aload (pc' := 51) dX11_meanSize_49 rfl rfl ?_
        refine Go_ifnull (pc' := 54) dX11_meanSize_51 rfl ?_
        refine Go_iload (pc' := 56) dX11_meanSize_54 rfl rfl ?_
        refine Go_ldcZ (X := (-1000000000)) (pc' := 58) dX11_meanSize_56 rfl kn_RX11_110 (by decide) ?_
        refine Go_icmp_eqY (tgt := 77) (pc' := 61) dX11_meanSize_58 (by decide) rfl (by first | exact ⟨i_lo _, i_hi _⟩ | omega) (by first | exact ⟨i_lo _, i_hi _⟩ | omega) (fun c58 => ?_) (fun c58 => by exfalso; omega)
        refine Go_iincZ (pc' := 80) (lv' := [.ref _, .ref _, .int _, .int _, .int _, .int _, .int _, .int _, .ref _, .int _]) dX11_meanSize_77 rfl rfl (Nat.le_of_ble_eq_true rfl) rfl rfl ?_
        refine Go_goto (tgt := 9) dX11_meanSize_80 (by decide) ?_
        rw [mz_f (Or.inr ht)] at hk
        exact ih (c + 1) _ _ _ _ (by omega) (by omega) (by omega) hk
set_option maxRecDepth 20000 in
set_option maxHeartbeats 1000000 in
theorem s_mz {G : GC} {d mc ms : Nat} {h : HS} {K : Option Value → HS → Prop} {q u nq nc : Nat} {x y : Int} (I : Inv h) (hnc : nc ≤ 6) (ec2 : vi h 64 2 = iZ (nc : Int)) (ec0 : vi h 99 0 = iZ (nc : Int)) (hq : q < nq) (hnq : nq ≤ 16) (QS : QkS h u) (RR : ∀ c, c < 6 → RdR h u q c) (hx : 0 ≤ x ∧ x ≤ 39) (hy : 0 ≤ y ∧ y ≤ 39) {but : Int} (hbut : -1 ≤ but ∧ but ≤ 10) (hk : K (some (.int (iZ (mz h q x y but nc 0 0 0)))) h) : Go G (d + 3) mc ms M_X11_meanSize 0 [.ref 64, .ref u, .int (iZ x), .int (iZ y), .int (iZ but), un, un, un, un, un] [] h K := by
  refine Go_iconst (v := iZ 0) (pc' := 1) dX11_meanSize_0 rfl (by decide) ?_
  refine Go_istore (pc' := 3) (lv' := [.ref _, .ref _, .int _, .int _, .int _, .int _, un, un, un, un]) dX11_meanSize_1 rfl (Nat.le_of_ble_eq_true rfl) rfl rfl ?_
  refine Go_iconst (v := iZ 0) (pc' := 4) dX11_meanSize_3 rfl (by decide) ?_
  refine Go_istore (pc' := 6) (lv' := [.ref _, .ref _, .int _, .int _, .int _, .int _, .int _, un, un, un]) dX11_meanSize_4 rfl (Nat.le_of_ble_eq_true rfl) rfl rfl ?_
  refine Go_iconst (v := iZ 0) (pc' := 7) dX11_meanSize_6 rfl (by decide) ?_
  refine Go_istore (pc' := 9) (lv' := [.ref _, .ref _, .int _, .int _, .int _, .int _, .int _, .int _, un, un]) dX11_meanSize_7 rfl (Nat.le_of_ble_eq_true rfl) rfl rfl ?_
  exact mz_loop I hnc ec2 ec0 hq hnq QS RR hx hy hbut nc 0 0 0 _ _ (Nat.zero_add nc) (by omega) (by omega) hk
set_option maxRecDepth 20000 in
set_option maxHeartbeats 1000000 in
theorem mzM_loop {G : GC} {d mc ms : Nat} {h : HS} {K : Option Value → HS → Prop} {q u nq nc : Nat} {x y : Int} (I : Inv h) (hnc : nc ≤ 6) (ec2 : vi h 64 2 = iZ (nc : Int)) (ec0 : vi h 99 0 = iZ (nc : Int)) (hq : q < nq) (hnq : nq ≤ 16) (QS : QkS h u) (RR : ∀ c, c < 6 → RdR h u q c) (hx : 0 ≤ x ∧ x ≤ 39) (hy : 0 ≤ y ∧ y ≤ 39) {but : Int} (hbut : -1 ≤ but ∧ but ≤ 10) {z : Int} (ez : z = 40 * y + x) : ∀ (m c : Nat) (s n : Int), c + m = nc → (-1000 * (c : Int) ≤ s ∧ s ≤ 1000 * (c : Int)) → (0 ≤ n ∧ n ≤ c) → K (some (.int (iZ (mz h q x y but m c s n)))) h → Go G (d + 3) mc ms M_X12_sizeBut 9 [.ref 99, .int (iZ (q : Int)), .int (iZ z), .int (iZ but), .int (iZ n), .int (iZ s), .int (iZ (c : Int))] [] h K := by
  intro m
  induction m with
  | zero =>
    intro c s n hm hs hn hk
    refine Go_iload (pc' := 11) dX12_sizeBut_9 rfl rfl ?_
    refine Go_aload_n (pc' := 12) dX12_sizeBut_11 rfl rfl rfl ?_
    refine Go_getIv (v := (iZ (nc : Int))) (pc' := 15) dX12_sizeBut_12 rfl kf_RX12_151 (by decide) (by decide) rfl (I.S.b 99 rfl rfl) (I.S.o 99 rfl rfl rfl) (ec0) ?_
    refine Go_icmp_geY (tgt := 67) (pc' := 18) dX12_sizeBut_15 (by decide) rfl (by first | exact ⟨i_lo _, i_hi _⟩ | omega) (by first | exact ⟨i_lo _, i_hi _⟩ | omega) (fun c15 => ?_) (fun c15 => by exfalso; omega)
    refine Go_iload (pc' := 69) dX12_sizeBut_67 rfl rfl ?_
    refine Go_if_neY (tgt := 77) (pc' := 72) dX12_sizeBut_69 (by decide) rfl (by first | exact ⟨i_lo _, i_hi _⟩ | omega) (fun c69 => ?_) (fun c69 => ?_)
    · refine Go_iload (pc' := 79) dX12_sizeBut_77 rfl rfl ?_
      refine Go_iload (pc' := 81) dX12_sizeBut_79 rfl rfl ?_
      refine Go_callS_i (pc' := 84) (As := [.int _, .int _]) (st := []) dX12_sizeBut_81 rfl ok_X12_down km_RX12_376 rfl (Nat.le_of_ble_eq_true rfl) rfl rfl rfl (Nat.le_of_ble_eq_true rfl) (Nat.lt_succ_self _) ?_
      refine s_down (by omega) (by omega) ?_
      refine ⟨_, rfl, ?_⟩
      refine Go_ireturn (ty := .int) dX12_sizeBut_84 rfl rfl ?_
      have hk : K (some (.int (iZ (if n = 0 then -1000000000 else s / n)))) h := hk
      rw [if_neg c69] at hk; exact hk
    · refine Go_ldcZ (X := (-1000000000)) (pc' := 74) dX12_sizeBut_72 rfl kn_RX12_162 (by decide) ?_
      refine Go_goto (tgt := 84) dX12_sizeBut_74 (by decide) ?_
      refine Go_ireturn (ty := .int) dX12_sizeBut_84 rfl rfl ?_
      have hk : K (some (.int (iZ (if n = 0 then -1000000000 else s / n)))) h := hk
      rw [if_pos c69] at hk; exact hk
  | succ m ih =>
    intro c s n hm hs hn hk
    obtain ⟨o, ho, CS, CV⟩ := cel_ex I hnc ec2 (c := c) (by omega)
    obtain ⟨xr, yr, ex, ey, exy⟩ := CV.1.xy
    have hbz : tlB h q c = true → 0 ≤ bz h q c x y ∧ bz h q c x y ≤ 772 := by
      intro ht
      rcases RR c (by omega) with ⟨hw, h0⟩ | ⟨w, hw, h0, RS, RV, -⟩
      · exact absurd ht (tl_n h0)
      · have pk := RV.2.2.2.2.2
        rw [RV.2.2.2.2.1] at pk
        exact bz_r pk.2 hx hy xr yr
    have hbt := CV.2.2.2.2.2.2.2
    rw [CV.2.2.2.2.2.2.1] at hbt
    unfold rg at hbt
    refine Go_iload (pc' := 11) dX12_sizeBut_9 rfl rfl ?_
    refine Go_aload_n (pc' := 12) dX12_sizeBut_11 rfl rfl rfl ?_
    refine Go_getIv (v := (iZ (nc : Int))) (pc' := 15) dX12_sizeBut_12 rfl kf_RX12_151 (by decide) (by decide) rfl (I.S.b 99 rfl rfl) (I.S.o 99 rfl rfl rfl) (ec0) ?_
    refine Go_icmp_geY (tgt := 67) (pc' := 18) dX12_sizeBut_15 (by decide) rfl (by first | exact ⟨i_lo _, i_hi _⟩ | omega) (by first | exact ⟨i_lo _, i_hi _⟩ | omega) (fun c15 => by exfalso; omega) (fun c15 => ?_)
    refine Go_iload (pc' := 20) dX12_sizeBut_18 rfl rfl ?_
    refine Go_iload_n (pc' := 21) dX12_sizeBut_20 rfl rfl rfl ?_
    refine Go_icmp_eqY (tgt := 61) (pc' := 24) dX12_sizeBut_21 (by decide) rfl (by first | exact ⟨i_lo _, i_hi _⟩ | omega) (by first | exact ⟨i_lo _, i_hi _⟩ | omega) (fun c21 => ?_) (fun c21 => ?_)
    · refine Go_iincZ (pc' := 64) (lv' := [.ref _, .int _, .int _, .int _, .int _, .int _, .int _]) dX12_sizeBut_61 rfl rfl (Nat.le_of_ble_eq_true rfl) rfl rfl ?_
      refine Go_goto (tgt := 9) dX12_sizeBut_64 (by decide) ?_
      rw [mz_f (Or.inl c21)] at hk
      exact ih (c + 1) _ _ (by omega) (by omega) (by omega) hk
    · refine Go_aload_n (pc' := 25) dX12_sizeBut_24 rfl rfl rfl ?_
      refine Go_iload_n (pc' := 26) dX12_sizeBut_25 rfl rfl rfl ?_
      refine Go_iload (pc' := 28) dX12_sizeBut_26 rfl rfl ?_
      refine Go_callV_i (pc' := 31) (As := [.int _, .int _]) (st := []) dX12_sizeBut_28 rfl ok_X12_tells km_RX12_370 (I.S.o 99 rfl rfl rfl) (I.S.b 99 rfl rfl) ⟨_, _, rfl⟩ rfl (Nat.le_of_ble_eq_true rfl) rfl rfl rfl (Nat.le_of_ble_eq_true rfl) (Nat.lt_succ_self _) ?_
      refine s_tells I hnc hq hnq RR (by omega) ?_
      refine ⟨_, rfl, ?_⟩
      refine Go_if_neb (tgt := 37) (pc' := 34) dX12_sizeBut_31 (by decide) rfl (fun c31 => ?_) (fun c31 => ?_)
      · refine Go_iincZ (pc' := 40) (lv' := [.ref _, .int _, .int _, .int _, .int _, .int _, .int _]) dX12_sizeBut_37 rfl rfl (Nat.le_of_ble_eq_true rfl) rfl rfl ?_
        refine Go_iload (pc' := 42) dX12_sizeBut_40 rfl rfl ?_
        refine Go_aload_n (pc' := 43) dX12_sizeBut_42 rfl rfl rfl ?_
        refine Go_iload_n (pc' := 44) dX12_sizeBut_43 rfl rfl rfl ?_
        refine Go_iload_n (pc' := 45) dX12_sizeBut_44 rfl rfl rfl ?_
        refine Go_iload (pc' := 47) dX12_sizeBut_45 rfl rfl ?_
        refine Go_callV_i (pc' := 50) (As := [.int _, .int _, .int _]) (st := [.int _]) dX12_sizeBut_47 rfl ok_X12_bare km_RX12_373 (I.S.o 99 rfl rfl rfl) (I.S.b 99 rfl rfl) ⟨_, _, rfl⟩ rfl (Nat.le_of_ble_eq_true rfl) rfl rfl rfl (Nat.le_of_ble_eq_true rfl) (Nat.lt_succ_self _) ?_
        refine s_bareM I hnc ec2 ec0 hq hnq QS RR hx hy ez (by omega) c31 ?_
        refine ⟨_, rfl, ?_⟩
        refine Go_aload_n (pc' := 51) dX12_sizeBut_50 rfl rfl rfl ?_
        refine Go_getRs (pc' := 54) dX12_sizeBut_51 rfl kf_RX12_52 (by decide) (by decide) rfl (I.S.b 99 rfl rfl) (I.S.o 99 rfl rfl rfl) (I.S.r 99 15 rfl rfl rfl) ?_
        refine Go_iload (pc' := 56) dX12_sizeBut_54 rfl rfl ?_
        refine Go_ialoadZ (n := 6) (k := c) (v := (iZ (vi h 114 c).toInt)) (pc' := 57) dX12_sizeBut_56 rfl (I.S.b 114 rfl rfl) (I.S.k 114 rfl rfl rfl) rfl (by omega) (by decide) (vi_eta _ _ _) ?_
        refine Go_iaddZ (pc' := 58) dX12_sizeBut_57 rfl ?_
        refine Go_iaddZ (pc' := 59) dX12_sizeBut_58 rfl ?_
        refine Go_istore (pc' := 61) (lv' := [.ref _, .int _, .int _, .int _, .int _, .int _, .int _]) dX12_sizeBut_59 rfl (Nat.le_of_ble_eq_true rfl) rfl rfl ?_
        refine Go_iincZ (pc' := 64) (lv' := [.ref _, .int _, .int _, .int _, .int _, .int _, .int _]) dX12_sizeBut_61 rfl rfl (Nat.le_of_ble_eq_true rfl) rfl rfl ?_
        refine Go_goto (tgt := 9) dX12_sizeBut_64 (by decide) ?_
        have hbz := hbz c31
        rw [mz_t (by omega) c31] at hk
        exact ih (c + 1) _ _ (by omega) (by omega) (by omega) hk
      · refine Go_goto (tgt := 61) dX12_sizeBut_34 (by decide) ?_
        refine Go_iincZ (pc' := 64) (lv' := [.ref _, .int _, .int _, .int _, .int _, .int _, .int _]) dX12_sizeBut_61 rfl rfl (Nat.le_of_ble_eq_true rfl) rfl rfl ?_
        refine Go_goto (tgt := 9) dX12_sizeBut_64 (by decide) ?_
        rw [mz_f (Or.inr c31)] at hk
        exact ih (c + 1) _ _ (by omega) (by omega) (by omega) hk
set_option maxRecDepth 20000 in
set_option maxHeartbeats 1000000 in
theorem s_mzM {G : GC} {d mc ms : Nat} {h : HS} {K : Option Value → HS → Prop} {q u nq nc : Nat} {x y : Int} (I : Inv h) (hnc : nc ≤ 6) (ec2 : vi h 64 2 = iZ (nc : Int)) (ec0 : vi h 99 0 = iZ (nc : Int)) (hq : q < nq) (hnq : nq ≤ 16) (QS : QkS h u) (RR : ∀ c, c < 6 → RdR h u q c) (hx : 0 ≤ x ∧ x ≤ 39) (hy : 0 ≤ y ∧ y ≤ 39) {but : Int} (hbut : -1 ≤ but ∧ but ≤ 10) {z : Int} (ez : z = 40 * y + x) (hk : K (some (.int (iZ (mz h q x y but nc 0 0 0)))) h) : Go G (d + 3) mc ms M_X12_sizeBut 0 [.ref 99, .int (iZ (q : Int)), .int (iZ z), .int (iZ but), un, un, un] [] h K := by
  refine Go_iconst (v := iZ 0) (pc' := 1) dX12_sizeBut_0 rfl (by decide) ?_
  refine Go_istore (pc' := 3) (lv' := [.ref _, .int _, .int _, .int _, .int _, un, un]) dX12_sizeBut_1 rfl (Nat.le_of_ble_eq_true rfl) rfl rfl ?_
  refine Go_iconst (v := iZ 0) (pc' := 4) dX12_sizeBut_3 rfl (by decide) ?_
  refine Go_istore (pc' := 6) (lv' := [.ref _, .int _, .int _, .int _, .int _, .int _, un]) dX12_sizeBut_4 rfl (Nat.le_of_ble_eq_true rfl) rfl rfl ?_
  refine Go_iconst (v := iZ 0) (pc' := 7) dX12_sizeBut_6 rfl (by decide) ?_
  refine Go_istore (pc' := 9) (lv' := [.ref _, .int _, .int _, .int _, .int _, .int _, .int _]) dX12_sizeBut_7 rfl (Nat.le_of_ble_eq_true rfl) rfl rfl ?_
  exact mzM_loop I hnc ec2 ec0 hq hnq QS RR hx hy hbut ez nc 0 0 0 (Nat.zero_add nc) (by omega) (by omega) hk
set_option maxRecDepth 20000 in
set_option maxHeartbeats 1000000 in
theorem pair29 {G : GC} (a b c e : Int32) : PairI G M_X11_size M_X12_size [.int a, .int b, .int c, .int e] := by
  intro h I
  obtain ⟨Az, hva, rfl⟩ := i_eta a
  obtain ⟨Bz, hvb, rfl⟩ := i_eta b
  obtain ⟨Cz, hvc, rfl⟩ := i_eta c
  obtain ⟨Ez, hve, rfl⟩ := i_eta e
  obtain ⟨nq, hnq, eq7⟩ := of_rgZ (b := 16) I.Q.1.2
  have eq38 : vi h 99 38 = iZ (nq : Int) := I.Q.1.1.trans eq7
  obtain ⟨nc, hnc, ec2⟩ := of_rgZ (b := 6) I.C.1.2
  have ec0 : vi h 99 0 = iZ (nc : Int) := I.C.1.1.trans ec2
  rcases qk_cases I hnq eq7 Az with hq0 | ⟨q, u, rfl, hq, hu, QS, PV, RR⟩
  · refine PairI.ro' (fun _ => iZ (-1000000000)) h I (fun K k => ?_) (fun K k => ?_)
    · show Go G 60 0 0 M_X11_size 0 [.ref 64, .int (iZ Az), .int (iZ Bz), .int (iZ Cz), .int (iZ Ez), un, un, un] [] h K
      refine Go_aload_n (pc' := 1) dX11_size_0 rfl rfl rfl ?_
      refine Go_iload_n (pc' := 2) dX11_size_1 rfl rfl rfl ?_
      refine Go_callV_r (pc' := 5) (As := [.int _]) (st := []) dX11_size_2 rfl ok_X11_quakeOf km_RX11_230 (I.S.o 64 rfl rfl rfl) (I.S.b 64 rfl rfl) ⟨_, _, rfl⟩ rfl (Nat.le_of_ble_eq_true rfl) rfl rfl rfl (Nat.le_of_ble_eq_true rfl) (Nat.lt_succ_self _) ?_
      refine Go_iload_n (pc' := 1) dX11_quakeOf_0 rfl rfl rfl ?_
      refine Go_iconst (v := iZ 0) (pc' := 2) dX11_quakeOf_1 rfl (by decide) ?_
      refine Go_aload_n (pc' := 3) dX11_quakeOf_2 rfl rfl rfl ?_
      refine Go_getIv (v := (iZ (nq : Int))) (pc' := 6) dX11_quakeOf_3 rfl kf_RX11_226 (by decide) (by decide) rfl (I.S.b 64 rfl rfl) (I.S.o 64 rfl rfl rfl) (eq7) ?_
      refine Go_iconst (v := iZ 1) (pc' := 7) dX11_quakeOf_6 rfl (by decide) ?_
      refine Go_isubZ (pc' := 8) dX11_quakeOf_7 rfl ?_
      refine Go_callS_i (pc' := 11) (As := [.int _, .int _, .int _]) (st := []) dX11_quakeOf_8 rfl ok_X11_within km_RX11_94 rfl (Nat.le_of_ble_eq_true rfl) rfl rfl rfl (Nat.le_of_ble_eq_true rfl) (Nat.lt_succ_self _) ?_
      refine s_withinY (by first | exact ⟨i_lo _, i_hi _⟩ | omega) (by first | exact ⟨i_lo _, i_hi _⟩ | omega) (by first | exact ⟨i_lo _, i_hi _⟩ | omega) ?_
      refine ⟨_, rfl, ?_⟩
      refine Go_if_eqb (tgt := 32) (pc' := 14) dX11_quakeOf_11 (by decide) rfl (fun q11 => ?_) (fun q11 => by exfalso; omega)
      refine Go_null (pc' := 33) dX11_quakeOf_32 rfl ?_
      refine Go_areturn (r := none) dX11_quakeOf_33 rfl ?_
      refine ⟨none, rfl, ?_⟩
      refine Go_astoreN (pc' := 7) (lv' := [.ref _, .int _, .int _, .int _, .int _, .null, un, un]) dX11_size_5 rfl (Nat.le_of_ble_eq_true rfl) rfl rfl ?_
      refine Go_aloadN (pc' := 9) dX11_size_7 rfl rfl ?_
      refine Go_ifnullN (tgt := 20) dX11_size_9 (by decide) ?_
      refine Go_ldcZ (X := (-1000000000)) (pc' := 22) dX11_size_20 rfl kn_RX11_110 (by decide) ?_
      refine Go_ireturn (ty := .int) dX11_size_22 rfl rfl ?_
      exact k
    · show Go G 60 0 0 M_X12_size 0 [.ref 99, .int (iZ Az), .int (iZ Bz), .int (iZ Cz), .int (iZ Ez), un] [] h K
      refine Go_aload_n (pc' := 1) dX12_size_0 rfl rfl rfl ?_
      refine Go_iload_n (pc' := 2) dX12_size_1 rfl rfl rfl ?_
      refine Go_callV_i (pc' := 5) (As := [.int _]) (st := []) dX12_size_2 rfl ok_X12_isQuake km_RX12_340 (I.S.o 99 rfl rfl rfl) (I.S.b 99 rfl rfl) ⟨_, _, rfl⟩ rfl (Nat.le_of_ble_eq_true rfl) rfl rfl rfl (Nat.le_of_ble_eq_true rfl) (Nat.lt_succ_self _) ?_
      refine Go_iload_n (pc' := 1) dX12_isQuake_0 rfl rfl rfl ?_
      refine Go_iconst (v := iZ 0) (pc' := 2) dX12_isQuake_1 rfl (by decide) ?_
      refine Go_aload_n (pc' := 3) dX12_isQuake_2 rfl rfl rfl ?_
      refine Go_getIv (v := (iZ (nq : Int))) (pc' := 6) dX12_isQuake_3 rfl kf_RX12_336 (by decide) (by decide) rfl (I.S.b 99 rfl rfl) (I.S.o 99 rfl rfl rfl) (eq38) ?_
      refine Go_iconst (v := iZ 1) (pc' := 7) dX12_isQuake_6 rfl (by decide) ?_
      refine Go_isubZ (pc' := 8) dX12_isQuake_7 rfl ?_
      refine Go_callS_i (pc' := 11) (As := [.int _, .int _, .int _]) (st := []) dX12_isQuake_8 rfl ok_X12_isIn km_RX12_147 rfl (Nat.le_of_ble_eq_true rfl) rfl rfl rfl (Nat.le_of_ble_eq_true rfl) (Nat.lt_succ_self _) ?_
      refine s_isInY (by first | exact ⟨i_lo _, i_hi _⟩ | omega) (by first | exact ⟨i_lo _, i_hi _⟩ | omega) (by first | exact ⟨i_lo _, i_hi _⟩ | omega) ?_
      refine ⟨_, rfl, ?_⟩
      refine Go_ireturn (ty := .boolean) dX12_isQuake_11 rfl b2i_nb ?_
      refine ⟨_, rfl, ?_⟩
      refine Go_if_eqb (tgt := 31) (pc' := 8) dX12_size_5 (by decide) rfl (fun c5 => ?_) (fun c5 => by exfalso; omega)
      refine Go_ldcZ (X := (-1000000000)) (pc' := 33) dX12_size_31 rfl kn_RX12_162 (by decide) ?_
      refine Go_ireturn (ty := .int) dX12_size_33 rfl rfl ?_
      exact k
  · by_cases hxy : (0 ≤ Bz ∧ Bz ≤ 39) ∧ (0 ≤ Cz ∧ Cz ≤ 39)
    · by_cases e1 : Ez = -1
      · subst e1
        refine PairI.ro' (fun _ => iZ (mz h q Bz Cz (-1) nc 0 0 0)) h I (fun K k => ?_) (fun K k => ?_)
        · show Go G 60 0 0 M_X11_size 0 [.ref 64, .int (iZ (q : Int)), .int (iZ Bz), .int (iZ Cz), .int (iZ (-1)), un, un, un] [] h K
          refine Go_aload_n (pc' := 1) dX11_size_0 rfl rfl rfl ?_
          refine Go_iload_n (pc' := 2) dX11_size_1 rfl rfl rfl ?_
          refine Go_callV_r (pc' := 5) (As := [.int _]) (st := []) dX11_size_2 rfl ok_X11_quakeOf km_RX11_230 (I.S.o 64 rfl rfl rfl) (I.S.b 64 rfl rfl) ⟨_, _, rfl⟩ rfl (Nat.le_of_ble_eq_true rfl) rfl rfl rfl (Nat.le_of_ble_eq_true rfl) (Nat.lt_succ_self _) ?_
          refine Go_iload_n (pc' := 1) dX11_quakeOf_0 rfl rfl rfl ?_
          refine Go_iconst (v := iZ 0) (pc' := 2) dX11_quakeOf_1 rfl (by decide) ?_
          refine Go_aload_n (pc' := 3) dX11_quakeOf_2 rfl rfl rfl ?_
          refine Go_getIv (v := (iZ (nq : Int))) (pc' := 6) dX11_quakeOf_3 rfl kf_RX11_226 (by decide) (by decide) rfl (I.S.b 64 rfl rfl) (I.S.o 64 rfl rfl rfl) (eq7) ?_
          refine Go_iconst (v := iZ 1) (pc' := 7) dX11_quakeOf_6 rfl (by decide) ?_
          refine Go_isubZ (pc' := 8) dX11_quakeOf_7 rfl ?_
          refine Go_callS_i (pc' := 11) (As := [.int _, .int _, .int _]) (st := []) dX11_quakeOf_8 rfl ok_X11_within km_RX11_94 rfl (Nat.le_of_ble_eq_true rfl) rfl rfl rfl (Nat.le_of_ble_eq_true rfl) (Nat.lt_succ_self _) ?_
          refine s_withinY (by first | exact ⟨i_lo _, i_hi _⟩ | omega) (by first | exact ⟨i_lo _, i_hi _⟩ | omega) (by first | exact ⟨i_lo _, i_hi _⟩ | omega) ?_
          refine ⟨_, rfl, ?_⟩
          refine Go_if_eqb (tgt := 32) (pc' := 14) dX11_quakeOf_11 (by decide) rfl (fun q11 => by exfalso; omega) (fun q11 => ?_)
          refine Go_iload_n (pc' := 15) dX11_quakeOf_14 rfl rfl rfl ?_
          refine Go_aload_n (pc' := 16) dX11_quakeOf_15 rfl rfl rfl ?_
          refine Go_getRs (pc' := 19) dX11_quakeOf_16 rfl kf_RX11_45 (by decide) (by decide) rfl (I.S.b 64 rfl rfl) (I.S.o 64 rfl rfl rfl) (I.S.r 64 6 rfl rfl rfl) ?_
          refine Go_alenZ (n := 16) (pc' := 20) dX11_quakeOf_19 rfl (I.S.b 80 rfl rfl) (I.S.k 80 rfl rfl rfl) (Or.inr (Or.inr ⟨_, rfl⟩)) ?_
          refine Go_icmp_geY (tgt := 32) (pc' := 23) dX11_quakeOf_20 (by decide) rfl (by first | exact ⟨i_lo _, i_hi _⟩ | omega) (by first | exact ⟨i_lo _, i_hi _⟩ | omega) (fun q20 => by exfalso; omega) (fun q20 => ?_)
          refine Go_aload_n (pc' := 24) dX11_quakeOf_23 rfl rfl rfl ?_
          refine Go_getRs (pc' := 27) dX11_quakeOf_24 rfl kf_RX11_45 (by decide) (by decide) rfl (I.S.b 64 rfl rfl) (I.S.o 64 rfl rfl rfl) (I.S.r 64 6 rfl rfl rfl) ?_
          refine Go_iload_n (pc' := 28) dX11_quakeOf_27 rfl rfl rfl ?_
          refine Go_aaloadZ (n := 16) (k := q) (pc' := 29) dX11_quakeOf_28 rfl (I.S.b 80 rfl rfl) (I.S.k 80 rfl rfl rfl) rfl rfl (by omega) (by decide) hu ?_
          refine Go_goto (tgt := 33) dX11_quakeOf_29 (by decide) ?_
          refine Go_areturn (r := some _) dX11_quakeOf_33 rfl ?_
          refine ⟨some _, rfl, ?_⟩
          refine Go_astore (pc' := 7) (lv' := [.ref _, .int _, .int _, .int _, .int _, .ref _, un, un]) dX11_size_5 rfl (Nat.le_of_ble_eq_true rfl) rfl rfl ?_
          refine Go_aload (pc' := 9) dX11_size_7 rfl rfl ?_
          refine Go_ifnull (pc' := 12) dX11_size_9 rfl ?_
          refine Go_iload_n (pc' := 13) dX11_size_12 rfl rfl rfl ?_
          refine Go_iload_n (pc' := 14) dX11_size_13 rfl rfl rfl ?_
          refine Go_callS_i (pc' := 17) (As := [.int _, .int _]) (st := []) dX11_size_14 rfl ok_X11_isCell km_RX11_80 rfl (Nat.le_of_ble_eq_true rfl) rfl rfl rfl (Nat.le_of_ble_eq_true rfl) (Nat.lt_succ_self _) ?_
          refine s_isCellY (by first | exact ⟨i_lo _, i_hi _⟩ | omega) (by first | exact ⟨i_lo _, i_hi _⟩ | omega) ?_
          refine ⟨_, rfl, ?_⟩
          refine Go_if_neb (tgt := 23) (pc' := 20) dX11_size_17 (by decide) rfl (fun c17 => ?_) (fun c17 => by exfalso; omega)
          refine Go_iload (pc' := 25) dX11_size_23 rfl rfl ?_
          refine Go_iconst (v := iZ (-1)) (pc' := 26) dX11_size_25 rfl (by decide) ?_
          refine Go_icmp_neY (tgt := 39) (pc' := 29) dX11_size_26 (by decide) rfl (by first | exact ⟨i_lo _, i_hi _⟩ | omega) (by first | exact ⟨i_lo _, i_hi _⟩ | omega) (fun c26 => by exfalso; omega) (fun c26 => ?_)
          refine Go_aload_n (pc' := 30) dX11_size_29 rfl rfl rfl ?_
          refine Go_aload (pc' := 32) dX11_size_30 rfl rfl ?_
          refine Go_iload_n (pc' := 33) dX11_size_32 rfl rfl rfl ?_
          refine Go_iload_n (pc' := 34) dX11_size_33 rfl rfl rfl ?_
          refine Go_iconst (v := iZ (-1)) (pc' := 35) dX11_size_34 rfl (by decide) ?_
          refine Go_callV_i (pc' := 38) (As := [.ref _, .int _, .int _, .int _]) (st := []) dX11_size_35 rfl ok_X11_meanSize km_RX11_293 (I.S.o 64 rfl rfl rfl) (I.S.b 64 rfl rfl) ⟨_, _, rfl⟩ rfl (Nat.le_of_ble_eq_true rfl) rfl rfl rfl (Nat.le_of_ble_eq_true rfl) (Nat.lt_succ_self _) ?_
          refine s_mz I hnc ec2 ec0 hq hnq QS RR (by omega) (by omega) (by omega) ?_
          refine ⟨_, rfl, ?_⟩
          refine Go_ireturn (ty := .int) dX11_size_38 rfl rfl ?_
          exact k
        · show Go G 60 0 0 M_X12_size 0 [.ref 99, .int (iZ (q : Int)), .int (iZ Bz), .int (iZ Cz), .int (iZ (-1)), un] [] h K
          refine Go_aload_n (pc' := 1) dX12_size_0 rfl rfl rfl ?_
          refine Go_iload_n (pc' := 2) dX12_size_1 rfl rfl rfl ?_
          refine Go_callV_i (pc' := 5) (As := [.int _]) (st := []) dX12_size_2 rfl ok_X12_isQuake km_RX12_340 (I.S.o 99 rfl rfl rfl) (I.S.b 99 rfl rfl) ⟨_, _, rfl⟩ rfl (Nat.le_of_ble_eq_true rfl) rfl rfl rfl (Nat.le_of_ble_eq_true rfl) (Nat.lt_succ_self _) ?_
          refine Go_iload_n (pc' := 1) dX12_isQuake_0 rfl rfl rfl ?_
          refine Go_iconst (v := iZ 0) (pc' := 2) dX12_isQuake_1 rfl (by decide) ?_
          refine Go_aload_n (pc' := 3) dX12_isQuake_2 rfl rfl rfl ?_
          refine Go_getIv (v := (iZ (nq : Int))) (pc' := 6) dX12_isQuake_3 rfl kf_RX12_336 (by decide) (by decide) rfl (I.S.b 99 rfl rfl) (I.S.o 99 rfl rfl rfl) (eq38) ?_
          refine Go_iconst (v := iZ 1) (pc' := 7) dX12_isQuake_6 rfl (by decide) ?_
          refine Go_isubZ (pc' := 8) dX12_isQuake_7 rfl ?_
          refine Go_callS_i (pc' := 11) (As := [.int _, .int _, .int _]) (st := []) dX12_isQuake_8 rfl ok_X12_isIn km_RX12_147 rfl (Nat.le_of_ble_eq_true rfl) rfl rfl rfl (Nat.le_of_ble_eq_true rfl) (Nat.lt_succ_self _) ?_
          refine s_isInY (by first | exact ⟨i_lo _, i_hi _⟩ | omega) (by first | exact ⟨i_lo _, i_hi _⟩ | omega) (by first | exact ⟨i_lo _, i_hi _⟩ | omega) ?_
          refine ⟨_, rfl, ?_⟩
          refine Go_ireturn (ty := .boolean) dX12_isQuake_11 rfl b2i_nb ?_
          refine ⟨_, rfl, ?_⟩
          refine Go_if_eqb (tgt := 31) (pc' := 8) dX12_size_5 (by decide) rfl (fun c5 => by exfalso; omega) (fun c5 => ?_)
          refine Go_iload_n (pc' := 9) dX12_size_8 rfl rfl rfl ?_
          refine Go_iload_n (pc' := 10) dX12_size_9 rfl rfl rfl ?_
          refine Go_callS_i (pc' := 13) (As := [.int _, .int _]) (st := []) dX12_size_10 rfl ok_X12_isCell km_RX12_154 rfl (Nat.le_of_ble_eq_true rfl) rfl rfl rfl (Nat.le_of_ble_eq_true rfl) (Nat.lt_succ_self _) ?_
          refine s_isCellMY (by first | exact ⟨i_lo _, i_hi _⟩ | omega) (by first | exact ⟨i_lo _, i_hi _⟩ | omega) ?_
          refine ⟨_, rfl, ?_⟩
          refine Go_if_eqb (tgt := 31) (pc' := 16) dX12_size_13 (by decide) rfl (fun c13 => by exfalso; omega) (fun c13 => ?_)
          refine Go_iload (pc' := 18) dX12_size_16 rfl rfl ?_
          refine Go_iconst (v := iZ (-1)) (pc' := 19) dX12_size_18 rfl (by decide) ?_
          refine Go_icmp_eqY (tgt := 34) (pc' := 22) dX12_size_19 (by decide) rfl (by first | exact ⟨i_lo _, i_hi _⟩ | omega) (by first | exact ⟨i_lo _, i_hi _⟩ | omega) (fun c19 => ?_) (fun c19 => by exfalso; omega)
          refine Go_bipush (v := iZ 40) (pc' := 36) dX12_size_34 rfl (by decide) ?_
          refine Go_iload_n (pc' := 37) dX12_size_36 rfl rfl rfl ?_
          refine Go_imulZ (pc' := 38) dX12_size_37 rfl ?_
          refine Go_iload_n (pc' := 39) dX12_size_38 rfl rfl rfl ?_
          refine Go_iaddZ (pc' := 40) dX12_size_39 rfl ?_
          refine Go_istore (pc' := 42) (lv' := [.ref _, .int _, .int _, .int _, .int _, .int _]) dX12_size_40 rfl (Nat.le_of_ble_eq_true rfl) rfl rfl ?_
          refine Go_iload (pc' := 44) dX12_size_42 rfl rfl ?_
          refine Go_iconst (v := iZ (-1)) (pc' := 45) dX12_size_44 rfl (by decide) ?_
          refine Go_icmp_neY (tgt := 57) (pc' := 48) dX12_size_45 (by decide) rfl (by first | exact ⟨i_lo _, i_hi _⟩ | omega) (by first | exact ⟨i_lo _, i_hi _⟩ | omega) (fun c45 => by exfalso; omega) (fun c45 => ?_)
          refine Go_aload_n (pc' := 49) dX12_size_48 rfl rfl rfl ?_
          refine Go_iload_n (pc' := 50) dX12_size_49 rfl rfl rfl ?_
          refine Go_iload (pc' := 52) dX12_size_50 rfl rfl ?_
          refine Go_iconst (v := iZ (-1)) (pc' := 53) dX12_size_52 rfl (by decide) ?_
          refine Go_callV_i (pc' := 56) (As := [.int _, .int _, .int _]) (st := []) dX12_size_53 rfl ok_X12_sizeBut km_RX12_379 (I.S.o 99 rfl rfl rfl) (I.S.b 99 rfl rfl) ⟨_, _, rfl⟩ rfl (Nat.le_of_ble_eq_true rfl) rfl rfl rfl (Nat.le_of_ble_eq_true rfl) (Nat.lt_succ_self _) ?_
          refine s_mzM (x := Bz) (y := Cz) I hnc ec2 ec0 hq hnq QS RR (by omega) (by omega) (by omega) rfl ?_
          refine ⟨_, rfl, ?_⟩
          refine Go_ireturn (ty := .int) dX12_size_56 rfl rfl ?_
          exact k
      · by_cases hcc : 0 ≤ Ez ∧ Ez < nc
        · obtain ⟨c, rfl⟩ : ∃ c : Nat, Ez = (c : Int) := ⟨Ez.toNat, by omega⟩
          obtain ⟨o, ho, CS, CV⟩ := cel_ex I hnc ec2 (c := c) (by omega)
          obtain ⟨xr, yr, ex, ey, exy⟩ := CV.1.xy
          have hbt := CV.2.2.2.2.2.2.2
          rw [CV.2.2.2.2.2.2.1] at hbt
          unfold rg at hbt
          by_cases ht : tlB h q c = true
          · have hbz : 0 ≤ bz h q c Bz Cz ∧ bz h q c Bz Cz ≤ 772 := by
              rcases RR c (by omega) with ⟨hw, h0⟩ | ⟨w, hw, h0, RS, RV, -⟩
              · exact absurd ht (tl_n h0)
              · have pk := RV.2.2.2.2.2
                rw [RV.2.2.2.2.1] at pk
                exact bz_r pk.2 hxy.1 hxy.2 xr yr
            refine PairI.ro' (fun _ => iZ (bz h q c Bz Cz + (vi h 114 c).toInt)) h I (fun K k => ?_) (fun K k => ?_)
            · show Go G 60 0 0 M_X11_size 0 [.ref 64, .int (iZ (q : Int)), .int (iZ Bz), .int (iZ Cz), .int (iZ (c : Int)), un, un, un] [] h K
              refine Go_aload_n (pc' := 1) dX11_size_0 rfl rfl rfl ?_
              refine Go_iload_n (pc' := 2) dX11_size_1 rfl rfl rfl ?_
              refine Go_callV_r (pc' := 5) (As := [.int _]) (st := []) dX11_size_2 rfl ok_X11_quakeOf km_RX11_230 (I.S.o 64 rfl rfl rfl) (I.S.b 64 rfl rfl) ⟨_, _, rfl⟩ rfl (Nat.le_of_ble_eq_true rfl) rfl rfl rfl (Nat.le_of_ble_eq_true rfl) (Nat.lt_succ_self _) ?_
              refine Go_iload_n (pc' := 1) dX11_quakeOf_0 rfl rfl rfl ?_
              refine Go_iconst (v := iZ 0) (pc' := 2) dX11_quakeOf_1 rfl (by decide) ?_
              refine Go_aload_n (pc' := 3) dX11_quakeOf_2 rfl rfl rfl ?_
              refine Go_getIv (v := (iZ (nq : Int))) (pc' := 6) dX11_quakeOf_3 rfl kf_RX11_226 (by decide) (by decide) rfl (I.S.b 64 rfl rfl) (I.S.o 64 rfl rfl rfl) (eq7) ?_
              refine Go_iconst (v := iZ 1) (pc' := 7) dX11_quakeOf_6 rfl (by decide) ?_
              refine Go_isubZ (pc' := 8) dX11_quakeOf_7 rfl ?_
              refine Go_callS_i (pc' := 11) (As := [.int _, .int _, .int _]) (st := []) dX11_quakeOf_8 rfl ok_X11_within km_RX11_94 rfl (Nat.le_of_ble_eq_true rfl) rfl rfl rfl (Nat.le_of_ble_eq_true rfl) (Nat.lt_succ_self _) ?_
              refine s_withinY (by first | exact ⟨i_lo _, i_hi _⟩ | omega) (by first | exact ⟨i_lo _, i_hi _⟩ | omega) (by first | exact ⟨i_lo _, i_hi _⟩ | omega) ?_
              refine ⟨_, rfl, ?_⟩
              refine Go_if_eqb (tgt := 32) (pc' := 14) dX11_quakeOf_11 (by decide) rfl (fun q11 => by exfalso; omega) (fun q11 => ?_)
              refine Go_iload_n (pc' := 15) dX11_quakeOf_14 rfl rfl rfl ?_
              refine Go_aload_n (pc' := 16) dX11_quakeOf_15 rfl rfl rfl ?_
              refine Go_getRs (pc' := 19) dX11_quakeOf_16 rfl kf_RX11_45 (by decide) (by decide) rfl (I.S.b 64 rfl rfl) (I.S.o 64 rfl rfl rfl) (I.S.r 64 6 rfl rfl rfl) ?_
              refine Go_alenZ (n := 16) (pc' := 20) dX11_quakeOf_19 rfl (I.S.b 80 rfl rfl) (I.S.k 80 rfl rfl rfl) (Or.inr (Or.inr ⟨_, rfl⟩)) ?_
              refine Go_icmp_geY (tgt := 32) (pc' := 23) dX11_quakeOf_20 (by decide) rfl (by first | exact ⟨i_lo _, i_hi _⟩ | omega) (by first | exact ⟨i_lo _, i_hi _⟩ | omega) (fun q20 => by exfalso; omega) (fun q20 => ?_)
              refine Go_aload_n (pc' := 24) dX11_quakeOf_23 rfl rfl rfl ?_
              refine Go_getRs (pc' := 27) dX11_quakeOf_24 rfl kf_RX11_45 (by decide) (by decide) rfl (I.S.b 64 rfl rfl) (I.S.o 64 rfl rfl rfl) (I.S.r 64 6 rfl rfl rfl) ?_
              refine Go_iload_n (pc' := 28) dX11_quakeOf_27 rfl rfl rfl ?_
              refine Go_aaloadZ (n := 16) (k := q) (pc' := 29) dX11_quakeOf_28 rfl (I.S.b 80 rfl rfl) (I.S.k 80 rfl rfl rfl) rfl rfl (by omega) (by decide) hu ?_
              refine Go_goto (tgt := 33) dX11_quakeOf_29 (by decide) ?_
              refine Go_areturn (r := some _) dX11_quakeOf_33 rfl ?_
              refine ⟨some _, rfl, ?_⟩
              refine Go_astore (pc' := 7) (lv' := [.ref _, .int _, .int _, .int _, .int _, .ref _, un, un]) dX11_size_5 rfl (Nat.le_of_ble_eq_true rfl) rfl rfl ?_
              refine Go_aload (pc' := 9) dX11_size_7 rfl rfl ?_
              refine Go_ifnull (pc' := 12) dX11_size_9 rfl ?_
              refine Go_iload_n (pc' := 13) dX11_size_12 rfl rfl rfl ?_
              refine Go_iload_n (pc' := 14) dX11_size_13 rfl rfl rfl ?_
              refine Go_callS_i (pc' := 17) (As := [.int _, .int _]) (st := []) dX11_size_14 rfl ok_X11_isCell km_RX11_80 rfl (Nat.le_of_ble_eq_true rfl) rfl rfl rfl (Nat.le_of_ble_eq_true rfl) (Nat.lt_succ_self _) ?_
              refine s_isCellY (by first | exact ⟨i_lo _, i_hi _⟩ | omega) (by first | exact ⟨i_lo _, i_hi _⟩ | omega) ?_
              refine ⟨_, rfl, ?_⟩
              refine Go_if_neb (tgt := 23) (pc' := 20) dX11_size_17 (by decide) rfl (fun c17 => ?_) (fun c17 => by exfalso; omega)
              refine Go_iload (pc' := 25) dX11_size_23 rfl rfl ?_
              refine Go_iconst (v := iZ (-1)) (pc' := 26) dX11_size_25 rfl (by decide) ?_
              refine Go_icmp_neY (tgt := 39) (pc' := 29) dX11_size_26 (by decide) rfl (by first | exact ⟨i_lo _, i_hi _⟩ | omega) (by first | exact ⟨i_lo _, i_hi _⟩ | omega) (fun c26 => ?_) (fun c26 => by exfalso; omega)
              refine Go_aload_n (pc' := 40) dX11_size_39 rfl rfl rfl ?_
              refine Go_iload (pc' := 42) dX11_size_40 rfl rfl ?_
              refine Go_callV_r (pc' := 45) (As := [.int _]) (st := []) dX11_size_42 rfl ok_X11_cellarOf km_RX11_90 (I.S.o 64 rfl rfl rfl) (I.S.b 64 rfl rfl) ⟨_, _, rfl⟩ rfl (Nat.le_of_ble_eq_true rfl) rfl rfl rfl (Nat.le_of_ble_eq_true rfl) (Nat.lt_succ_self _) ?_
              refine Go_iload_n (pc' := 1) dX11_cellarOf_0 rfl rfl rfl ?_
              refine Go_iconst (v := iZ 0) (pc' := 2) dX11_cellarOf_1 rfl (by decide) ?_
              refine Go_aload_n (pc' := 3) dX11_cellarOf_2 rfl rfl rfl ?_
              refine Go_getIv (v := (iZ (nc : Int))) (pc' := 6) dX11_cellarOf_3 rfl kf_RX11_84 (by decide) (by decide) rfl (I.S.b 64 rfl rfl) (I.S.o 64 rfl rfl rfl) (ec2) ?_
              refine Go_iconst (v := iZ 1) (pc' := 7) dX11_cellarOf_6 rfl (by decide) ?_
              refine Go_isubZ (pc' := 8) dX11_cellarOf_7 rfl ?_
              refine Go_callS_i (pc' := 11) (As := [.int _, .int _, .int _]) (st := []) dX11_cellarOf_8 rfl ok_X11_within km_RX11_94 rfl (Nat.le_of_ble_eq_true rfl) rfl rfl rfl (Nat.le_of_ble_eq_true rfl) (Nat.lt_succ_self _) ?_
              refine s_withinY (by first | exact ⟨i_lo _, i_hi _⟩ | omega) (by first | exact ⟨i_lo _, i_hi _⟩ | omega) (by first | exact ⟨i_lo _, i_hi _⟩ | omega) ?_
              refine ⟨_, rfl, ?_⟩
              refine Go_if_eqb (tgt := 32) (pc' := 14) dX11_cellarOf_11 (by decide) rfl (fun q11 => by exfalso; omega) (fun q11 => ?_)
              refine Go_iload_n (pc' := 15) dX11_cellarOf_14 rfl rfl rfl ?_
              refine Go_aload_n (pc' := 16) dX11_cellarOf_15 rfl rfl rfl ?_
              refine Go_getRs (pc' := 19) dX11_cellarOf_16 rfl kf_RX11_18 (by decide) (by decide) rfl (I.S.b 64 rfl rfl) (I.S.o 64 rfl rfl rfl) (I.S.r 64 1 rfl rfl rfl) ?_
              refine Go_alenZ (n := 6) (pc' := 20) dX11_cellarOf_19 rfl (I.S.b 67 rfl rfl) (I.S.k 67 rfl rfl rfl) (Or.inr (Or.inr ⟨_, rfl⟩)) ?_
              refine Go_icmp_geY (tgt := 32) (pc' := 23) dX11_cellarOf_20 (by decide) rfl (by first | exact ⟨i_lo _, i_hi _⟩ | omega) (by first | exact ⟨i_lo _, i_hi _⟩ | omega) (fun q20 => by exfalso; omega) (fun q20 => ?_)
              refine Go_aload_n (pc' := 24) dX11_cellarOf_23 rfl rfl rfl ?_
              refine Go_getRs (pc' := 27) dX11_cellarOf_24 rfl kf_RX11_18 (by decide) (by decide) rfl (I.S.b 64 rfl rfl) (I.S.o 64 rfl rfl rfl) (I.S.r 64 1 rfl rfl rfl) ?_
              refine Go_iload_n (pc' := 28) dX11_cellarOf_27 rfl rfl rfl ?_
              refine Go_aaloadZ (n := 6) (k := c) (pc' := 29) dX11_cellarOf_28 rfl (I.S.b 67 rfl rfl) (I.S.k 67 rfl rfl rfl) rfl rfl (by omega) (by decide) ho ?_
              refine Go_goto (tgt := 33) dX11_cellarOf_29 (by decide) ?_
              refine Go_areturn (r := some _) dX11_cellarOf_33 rfl ?_
              refine ⟨some _, rfl, ?_⟩
              refine Go_astore (pc' := 47) (lv' := [.ref _, .int _, .int _, .int _, .int _, .ref _, .ref _, un]) dX11_size_45 rfl (Nat.le_of_ble_eq_true rfl) rfl rfl ?_
              refine Go_aload_n (pc' := 48) dX11_size_47 rfl rfl rfl ?_
              refine Go_aload (pc' := 50) dX11_size_48 rfl rfl ?_
              refine Go_iload_n (pc' := 51) dX11_size_50 rfl rfl rfl ?_
              refine Go_iload_n (pc' := 52) dX11_size_51 rfl rfl rfl ?_
              refine Go_iload (pc' := 54) dX11_size_52 rfl rfl ?_
              refine Go_callV_i (pc' := 57) (As := [.ref _, .int _, .int _, .int _]) (st := []) dX11_size_54 rfl ok_X11_bareSize km_RX11_297 (I.S.o 64 rfl rfl rfl) (I.S.b 64 rfl rfl) ⟨_, _, rfl⟩ rfl (Nat.le_of_ble_eq_true rfl) rfl rfl rfl (Nat.le_of_ble_eq_true rfl) (Nat.lt_succ_self _) ?_
              refine s_bareT I hnc ec2 ec0 hq hnq QS RR (by omega) (by omega) (by omega) ht ?_
              refine ⟨_, rfl, ?_⟩
              refine Go_istore (pc' := 59) (lv' := [.ref _, .int _, .int _, .int _, .int _, .ref _, .ref _, .int _]) dX11_size_57 rfl (Nat.le_of_ble_eq_true rfl) rfl rfl ?_
              refine Go_aload (pc' := 61) dX11_size_59 rfl rfl ?_
              refine Go_ifnull (pc' := 64) dX11_size_61 rfl ?_
              refine Go_iload (pc' := 66) dX11_size_64 rfl rfl ?_
              refine Go_ldcZ (X := (-1000000000)) (pc' := 68) dX11_size_66 rfl kn_RX11_110 (by decide) ?_
              refine Go_icmp_neY (tgt := 76) (pc' := 71) dX11_size_68 (by decide) rfl (by first | exact ⟨i_lo _, i_hi _⟩ | omega) (by first | exact ⟨i_lo _, i_hi _⟩ | omega) (fun c68 => ?_) (fun c68 => by exfalso; omega)
              refine Go_iload (pc' := 78) dX11_size_76 rfl rfl ?_
              refine Go_aload (pc' := 80) dX11_size_78 rfl rfl ?_
              refine Go_getIv (v := (iZ (vi h 114 c).toInt)) (pc' := 83) dX11_size_80 rfl kf_RX11_290 (by decide) (by decide) rfl CS.b CS.o (CV.2.2.2.2.2.2.1.trans (vi_eta _ _ _)) ?_
              refine Go_iaddZ (pc' := 84) dX11_size_83 rfl ?_
              refine Go_ireturn (ty := .int) dX11_size_84 rfl rfl ?_
              exact k
            · show Go G 60 0 0 M_X12_size 0 [.ref 99, .int (iZ (q : Int)), .int (iZ Bz), .int (iZ Cz), .int (iZ (c : Int)), un] [] h K
              refine Go_aload_n (pc' := 1) dX12_size_0 rfl rfl rfl ?_
              refine Go_iload_n (pc' := 2) dX12_size_1 rfl rfl rfl ?_
              refine Go_callV_i (pc' := 5) (As := [.int _]) (st := []) dX12_size_2 rfl ok_X12_isQuake km_RX12_340 (I.S.o 99 rfl rfl rfl) (I.S.b 99 rfl rfl) ⟨_, _, rfl⟩ rfl (Nat.le_of_ble_eq_true rfl) rfl rfl rfl (Nat.le_of_ble_eq_true rfl) (Nat.lt_succ_self _) ?_
              refine Go_iload_n (pc' := 1) dX12_isQuake_0 rfl rfl rfl ?_
              refine Go_iconst (v := iZ 0) (pc' := 2) dX12_isQuake_1 rfl (by decide) ?_
              refine Go_aload_n (pc' := 3) dX12_isQuake_2 rfl rfl rfl ?_
              refine Go_getIv (v := (iZ (nq : Int))) (pc' := 6) dX12_isQuake_3 rfl kf_RX12_336 (by decide) (by decide) rfl (I.S.b 99 rfl rfl) (I.S.o 99 rfl rfl rfl) (eq38) ?_
              refine Go_iconst (v := iZ 1) (pc' := 7) dX12_isQuake_6 rfl (by decide) ?_
              refine Go_isubZ (pc' := 8) dX12_isQuake_7 rfl ?_
              refine Go_callS_i (pc' := 11) (As := [.int _, .int _, .int _]) (st := []) dX12_isQuake_8 rfl ok_X12_isIn km_RX12_147 rfl (Nat.le_of_ble_eq_true rfl) rfl rfl rfl (Nat.le_of_ble_eq_true rfl) (Nat.lt_succ_self _) ?_
              refine s_isInY (by first | exact ⟨i_lo _, i_hi _⟩ | omega) (by first | exact ⟨i_lo _, i_hi _⟩ | omega) (by first | exact ⟨i_lo _, i_hi _⟩ | omega) ?_
              refine ⟨_, rfl, ?_⟩
              refine Go_ireturn (ty := .boolean) dX12_isQuake_11 rfl b2i_nb ?_
              refine ⟨_, rfl, ?_⟩
              refine Go_if_eqb (tgt := 31) (pc' := 8) dX12_size_5 (by decide) rfl (fun c5 => by exfalso; omega) (fun c5 => ?_)
              refine Go_iload_n (pc' := 9) dX12_size_8 rfl rfl rfl ?_
              refine Go_iload_n (pc' := 10) dX12_size_9 rfl rfl rfl ?_
              refine Go_callS_i (pc' := 13) (As := [.int _, .int _]) (st := []) dX12_size_10 rfl ok_X12_isCell km_RX12_154 rfl (Nat.le_of_ble_eq_true rfl) rfl rfl rfl (Nat.le_of_ble_eq_true rfl) (Nat.lt_succ_self _) ?_
              refine s_isCellMY (by first | exact ⟨i_lo _, i_hi _⟩ | omega) (by first | exact ⟨i_lo _, i_hi _⟩ | omega) ?_
              refine ⟨_, rfl, ?_⟩
              refine Go_if_eqb (tgt := 31) (pc' := 16) dX12_size_13 (by decide) rfl (fun c13 => by exfalso; omega) (fun c13 => ?_)
              refine Go_iload (pc' := 18) dX12_size_16 rfl rfl ?_
              refine Go_iconst (v := iZ (-1)) (pc' := 19) dX12_size_18 rfl (by decide) ?_
              refine Go_icmp_eqY (tgt := 34) (pc' := 22) dX12_size_19 (by decide) rfl (by first | exact ⟨i_lo _, i_hi _⟩ | omega) (by first | exact ⟨i_lo _, i_hi _⟩ | omega) (fun c19 => by exfalso; omega) (fun c19 => ?_)
              refine Go_aload_n (pc' := 23) dX12_size_22 rfl rfl rfl ?_
              refine Go_iload (pc' := 25) dX12_size_23 rfl rfl ?_
              refine Go_callV_i (pc' := 28) (As := [.int _]) (st := []) dX12_size_25 rfl ok_X12_isCellar km_RX12_158 (I.S.o 99 rfl rfl rfl) (I.S.b 99 rfl rfl) ⟨_, _, rfl⟩ rfl (Nat.le_of_ble_eq_true rfl) rfl rfl rfl (Nat.le_of_ble_eq_true rfl) (Nat.lt_succ_self _) ?_
              refine Go_iload_n (pc' := 1) dX12_isCellar_0 rfl rfl rfl ?_
              refine Go_iconst (v := iZ 0) (pc' := 2) dX12_isCellar_1 rfl (by decide) ?_
              refine Go_aload_n (pc' := 3) dX12_isCellar_2 rfl rfl rfl ?_
              refine Go_getIv (v := (iZ (nc : Int))) (pc' := 6) dX12_isCellar_3 rfl kf_RX12_151 (by decide) (by decide) rfl (I.S.b 99 rfl rfl) (I.S.o 99 rfl rfl rfl) (ec0) ?_
              refine Go_iconst (v := iZ 1) (pc' := 7) dX12_isCellar_6 rfl (by decide) ?_
              refine Go_isubZ (pc' := 8) dX12_isCellar_7 rfl ?_
              refine Go_callS_i (pc' := 11) (As := [.int _, .int _, .int _]) (st := []) dX12_isCellar_8 rfl ok_X12_isIn km_RX12_147 rfl (Nat.le_of_ble_eq_true rfl) rfl rfl rfl (Nat.le_of_ble_eq_true rfl) (Nat.lt_succ_self _) ?_
              refine s_isInY (by first | exact ⟨i_lo _, i_hi _⟩ | omega) (by first | exact ⟨i_lo _, i_hi _⟩ | omega) (by first | exact ⟨i_lo _, i_hi _⟩ | omega) ?_
              refine ⟨_, rfl, ?_⟩
              refine Go_ireturn (ty := .boolean) dX12_isCellar_11 rfl b2i_nb ?_
              refine ⟨_, rfl, ?_⟩
              refine Go_if_neb (tgt := 34) (pc' := 31) dX12_size_28 (by decide) rfl (fun c28 => ?_) (fun c28 => by exfalso; omega)
              refine Go_bipush (v := iZ 40) (pc' := 36) dX12_size_34 rfl (by decide) ?_
              refine Go_iload_n (pc' := 37) dX12_size_36 rfl rfl rfl ?_
              refine Go_imulZ (pc' := 38) dX12_size_37 rfl ?_
              refine Go_iload_n (pc' := 39) dX12_size_38 rfl rfl rfl ?_
              refine Go_iaddZ (pc' := 40) dX12_size_39 rfl ?_
              refine Go_istore (pc' := 42) (lv' := [.ref _, .int _, .int _, .int _, .int _, .int _]) dX12_size_40 rfl (Nat.le_of_ble_eq_true rfl) rfl rfl ?_
              refine Go_iload (pc' := 44) dX12_size_42 rfl rfl ?_
              refine Go_iconst (v := iZ (-1)) (pc' := 45) dX12_size_44 rfl (by decide) ?_
              refine Go_icmp_neY (tgt := 57) (pc' := 48) dX12_size_45 (by decide) rfl (by first | exact ⟨i_lo _, i_hi _⟩ | omega) (by first | exact ⟨i_lo _, i_hi _⟩ | omega) (fun c45 => ?_) (fun c45 => by exfalso; omega)
              refine Go_aload_n (pc' := 58) dX12_size_57 rfl rfl rfl ?_
              refine Go_iload_n (pc' := 59) dX12_size_58 rfl rfl rfl ?_
              refine Go_iload (pc' := 61) dX12_size_59 rfl rfl ?_
              refine Go_callV_i (pc' := 64) (As := [.int _, .int _]) (st := []) dX12_size_61 rfl ok_X12_tells km_RX12_370 (I.S.o 99 rfl rfl rfl) (I.S.b 99 rfl rfl) ⟨_, _, rfl⟩ rfl (Nat.le_of_ble_eq_true rfl) rfl rfl rfl (Nat.le_of_ble_eq_true rfl) (Nat.lt_succ_self _) ?_
              refine s_tells I hnc hq hnq RR (by omega) ?_
              refine ⟨_, rfl, ?_⟩
              refine Go_if_eqb (tgt := 87) (pc' := 67) dX12_size_64 (by decide) rfl (fun c64 => by exact absurd ht c64) (fun c64 => ?_)
              refine Go_aload_n (pc' := 68) dX12_size_67 rfl rfl rfl ?_
              refine Go_iload_n (pc' := 69) dX12_size_68 rfl rfl rfl ?_
              refine Go_iload (pc' := 71) dX12_size_69 rfl rfl ?_
              refine Go_iload (pc' := 73) dX12_size_71 rfl rfl ?_
              refine Go_callV_i (pc' := 76) (As := [.int _, .int _, .int _]) (st := []) dX12_size_73 rfl ok_X12_bare km_RX12_373 (I.S.o 99 rfl rfl rfl) (I.S.b 99 rfl rfl) ⟨_, _, rfl⟩ rfl (Nat.le_of_ble_eq_true rfl) rfl rfl rfl (Nat.le_of_ble_eq_true rfl) (Nat.lt_succ_self _) ?_
              refine s_bareM (x := Bz) (y := Cz) I hnc ec2 ec0 hq hnq QS RR (by omega) (by omega) rfl (by omega) ht ?_
              refine ⟨_, rfl, ?_⟩
              refine Go_aload_n (pc' := 77) dX12_size_76 rfl rfl rfl ?_
              refine Go_getRs (pc' := 80) dX12_size_77 rfl kf_RX12_52 (by decide) (by decide) rfl (I.S.b 99 rfl rfl) (I.S.o 99 rfl rfl rfl) (I.S.r 99 15 rfl rfl rfl) ?_
              refine Go_iload (pc' := 82) dX12_size_80 rfl rfl ?_
              refine Go_ialoadZ (n := 6) (k := c) (v := (iZ (vi h 114 c).toInt)) (pc' := 83) dX12_size_82 rfl (I.S.b 114 rfl rfl) (I.S.k 114 rfl rfl rfl) rfl (by omega) (by decide) (vi_eta _ _ _) ?_
              refine Go_iaddZ (pc' := 84) dX12_size_83 rfl ?_
              refine Go_goto (tgt := 89) dX12_size_84 (by decide) ?_
              refine Go_ireturn (ty := .int) dX12_size_89 rfl rfl ?_
              exact k
          · refine PairI.ro' (fun _ => iZ (-1000000000)) h I (fun K k => ?_) (fun K k => ?_)
            · show Go G 60 0 0 M_X11_size 0 [.ref 64, .int (iZ (q : Int)), .int (iZ Bz), .int (iZ Cz), .int (iZ (c : Int)), un, un, un] [] h K
              refine Go_aload_n (pc' := 1) dX11_size_0 rfl rfl rfl ?_
              refine Go_iload_n (pc' := 2) dX11_size_1 rfl rfl rfl ?_
              refine Go_callV_r (pc' := 5) (As := [.int _]) (st := []) dX11_size_2 rfl ok_X11_quakeOf km_RX11_230 (I.S.o 64 rfl rfl rfl) (I.S.b 64 rfl rfl) ⟨_, _, rfl⟩ rfl (Nat.le_of_ble_eq_true rfl) rfl rfl rfl (Nat.le_of_ble_eq_true rfl) (Nat.lt_succ_self _) ?_
              refine Go_iload_n (pc' := 1) dX11_quakeOf_0 rfl rfl rfl ?_
              refine Go_iconst (v := iZ 0) (pc' := 2) dX11_quakeOf_1 rfl (by decide) ?_
              refine Go_aload_n (pc' := 3) dX11_quakeOf_2 rfl rfl rfl ?_
              refine Go_getIv (v := (iZ (nq : Int))) (pc' := 6) dX11_quakeOf_3 rfl kf_RX11_226 (by decide) (by decide) rfl (I.S.b 64 rfl rfl) (I.S.o 64 rfl rfl rfl) (eq7) ?_
              refine Go_iconst (v := iZ 1) (pc' := 7) dX11_quakeOf_6 rfl (by decide) ?_
              refine Go_isubZ (pc' := 8) dX11_quakeOf_7 rfl ?_
              refine Go_callS_i (pc' := 11) (As := [.int _, .int _, .int _]) (st := []) dX11_quakeOf_8 rfl ok_X11_within km_RX11_94 rfl (Nat.le_of_ble_eq_true rfl) rfl rfl rfl (Nat.le_of_ble_eq_true rfl) (Nat.lt_succ_self _) ?_
              refine s_withinY (by first | exact ⟨i_lo _, i_hi _⟩ | omega) (by first | exact ⟨i_lo _, i_hi _⟩ | omega) (by first | exact ⟨i_lo _, i_hi _⟩ | omega) ?_
              refine ⟨_, rfl, ?_⟩
              refine Go_if_eqb (tgt := 32) (pc' := 14) dX11_quakeOf_11 (by decide) rfl (fun q11 => by exfalso; omega) (fun q11 => ?_)
              refine Go_iload_n (pc' := 15) dX11_quakeOf_14 rfl rfl rfl ?_
              refine Go_aload_n (pc' := 16) dX11_quakeOf_15 rfl rfl rfl ?_
              refine Go_getRs (pc' := 19) dX11_quakeOf_16 rfl kf_RX11_45 (by decide) (by decide) rfl (I.S.b 64 rfl rfl) (I.S.o 64 rfl rfl rfl) (I.S.r 64 6 rfl rfl rfl) ?_
              refine Go_alenZ (n := 16) (pc' := 20) dX11_quakeOf_19 rfl (I.S.b 80 rfl rfl) (I.S.k 80 rfl rfl rfl) (Or.inr (Or.inr ⟨_, rfl⟩)) ?_
              refine Go_icmp_geY (tgt := 32) (pc' := 23) dX11_quakeOf_20 (by decide) rfl (by first | exact ⟨i_lo _, i_hi _⟩ | omega) (by first | exact ⟨i_lo _, i_hi _⟩ | omega) (fun q20 => by exfalso; omega) (fun q20 => ?_)
              refine Go_aload_n (pc' := 24) dX11_quakeOf_23 rfl rfl rfl ?_
              refine Go_getRs (pc' := 27) dX11_quakeOf_24 rfl kf_RX11_45 (by decide) (by decide) rfl (I.S.b 64 rfl rfl) (I.S.o 64 rfl rfl rfl) (I.S.r 64 6 rfl rfl rfl) ?_
              refine Go_iload_n (pc' := 28) dX11_quakeOf_27 rfl rfl rfl ?_
              refine Go_aaloadZ (n := 16) (k := q) (pc' := 29) dX11_quakeOf_28 rfl (I.S.b 80 rfl rfl) (I.S.k 80 rfl rfl rfl) rfl rfl (by omega) (by decide) hu ?_
              refine Go_goto (tgt := 33) dX11_quakeOf_29 (by decide) ?_
              refine Go_areturn (r := some _) dX11_quakeOf_33 rfl ?_
              refine ⟨some _, rfl, ?_⟩
              refine Go_astore (pc' := 7) (lv' := [.ref _, .int _, .int _, .int _, .int _, .ref _, un, un]) dX11_size_5 rfl (Nat.le_of_ble_eq_true rfl) rfl rfl ?_
              refine Go_aload (pc' := 9) dX11_size_7 rfl rfl ?_
              refine Go_ifnull (pc' := 12) dX11_size_9 rfl ?_
              refine Go_iload_n (pc' := 13) dX11_size_12 rfl rfl rfl ?_
              refine Go_iload_n (pc' := 14) dX11_size_13 rfl rfl rfl ?_
              refine Go_callS_i (pc' := 17) (As := [.int _, .int _]) (st := []) dX11_size_14 rfl ok_X11_isCell km_RX11_80 rfl (Nat.le_of_ble_eq_true rfl) rfl rfl rfl (Nat.le_of_ble_eq_true rfl) (Nat.lt_succ_self _) ?_
              refine s_isCellY (by first | exact ⟨i_lo _, i_hi _⟩ | omega) (by first | exact ⟨i_lo _, i_hi _⟩ | omega) ?_
              refine ⟨_, rfl, ?_⟩
              refine Go_if_neb (tgt := 23) (pc' := 20) dX11_size_17 (by decide) rfl (fun c17 => ?_) (fun c17 => by exfalso; omega)
              refine Go_iload (pc' := 25) dX11_size_23 rfl rfl ?_
              refine Go_iconst (v := iZ (-1)) (pc' := 26) dX11_size_25 rfl (by decide) ?_
              refine Go_icmp_neY (tgt := 39) (pc' := 29) dX11_size_26 (by decide) rfl (by first | exact ⟨i_lo _, i_hi _⟩ | omega) (by first | exact ⟨i_lo _, i_hi _⟩ | omega) (fun c26 => ?_) (fun c26 => by exfalso; omega)
              refine Go_aload_n (pc' := 40) dX11_size_39 rfl rfl rfl ?_
              refine Go_iload (pc' := 42) dX11_size_40 rfl rfl ?_
              refine Go_callV_r (pc' := 45) (As := [.int _]) (st := []) dX11_size_42 rfl ok_X11_cellarOf km_RX11_90 (I.S.o 64 rfl rfl rfl) (I.S.b 64 rfl rfl) ⟨_, _, rfl⟩ rfl (Nat.le_of_ble_eq_true rfl) rfl rfl rfl (Nat.le_of_ble_eq_true rfl) (Nat.lt_succ_self _) ?_
              refine Go_iload_n (pc' := 1) dX11_cellarOf_0 rfl rfl rfl ?_
              refine Go_iconst (v := iZ 0) (pc' := 2) dX11_cellarOf_1 rfl (by decide) ?_
              refine Go_aload_n (pc' := 3) dX11_cellarOf_2 rfl rfl rfl ?_
              refine Go_getIv (v := (iZ (nc : Int))) (pc' := 6) dX11_cellarOf_3 rfl kf_RX11_84 (by decide) (by decide) rfl (I.S.b 64 rfl rfl) (I.S.o 64 rfl rfl rfl) (ec2) ?_
              refine Go_iconst (v := iZ 1) (pc' := 7) dX11_cellarOf_6 rfl (by decide) ?_
              refine Go_isubZ (pc' := 8) dX11_cellarOf_7 rfl ?_
              refine Go_callS_i (pc' := 11) (As := [.int _, .int _, .int _]) (st := []) dX11_cellarOf_8 rfl ok_X11_within km_RX11_94 rfl (Nat.le_of_ble_eq_true rfl) rfl rfl rfl (Nat.le_of_ble_eq_true rfl) (Nat.lt_succ_self _) ?_
              refine s_withinY (by first | exact ⟨i_lo _, i_hi _⟩ | omega) (by first | exact ⟨i_lo _, i_hi _⟩ | omega) (by first | exact ⟨i_lo _, i_hi _⟩ | omega) ?_
              refine ⟨_, rfl, ?_⟩
              refine Go_if_eqb (tgt := 32) (pc' := 14) dX11_cellarOf_11 (by decide) rfl (fun q11 => by exfalso; omega) (fun q11 => ?_)
              refine Go_iload_n (pc' := 15) dX11_cellarOf_14 rfl rfl rfl ?_
              refine Go_aload_n (pc' := 16) dX11_cellarOf_15 rfl rfl rfl ?_
              refine Go_getRs (pc' := 19) dX11_cellarOf_16 rfl kf_RX11_18 (by decide) (by decide) rfl (I.S.b 64 rfl rfl) (I.S.o 64 rfl rfl rfl) (I.S.r 64 1 rfl rfl rfl) ?_
              refine Go_alenZ (n := 6) (pc' := 20) dX11_cellarOf_19 rfl (I.S.b 67 rfl rfl) (I.S.k 67 rfl rfl rfl) (Or.inr (Or.inr ⟨_, rfl⟩)) ?_
              refine Go_icmp_geY (tgt := 32) (pc' := 23) dX11_cellarOf_20 (by decide) rfl (by first | exact ⟨i_lo _, i_hi _⟩ | omega) (by first | exact ⟨i_lo _, i_hi _⟩ | omega) (fun q20 => by exfalso; omega) (fun q20 => ?_)
              refine Go_aload_n (pc' := 24) dX11_cellarOf_23 rfl rfl rfl ?_
              refine Go_getRs (pc' := 27) dX11_cellarOf_24 rfl kf_RX11_18 (by decide) (by decide) rfl (I.S.b 64 rfl rfl) (I.S.o 64 rfl rfl rfl) (I.S.r 64 1 rfl rfl rfl) ?_
              refine Go_iload_n (pc' := 28) dX11_cellarOf_27 rfl rfl rfl ?_
              refine Go_aaloadZ (n := 6) (k := c) (pc' := 29) dX11_cellarOf_28 rfl (I.S.b 67 rfl rfl) (I.S.k 67 rfl rfl rfl) rfl rfl (by omega) (by decide) ho ?_
              refine Go_goto (tgt := 33) dX11_cellarOf_29 (by decide) ?_
              refine Go_areturn (r := some _) dX11_cellarOf_33 rfl ?_
              refine ⟨some _, rfl, ?_⟩
              refine Go_astore (pc' := 47) (lv' := [.ref _, .int _, .int _, .int _, .int _, .ref _, .ref _, un]) dX11_size_45 rfl (Nat.le_of_ble_eq_true rfl) rfl rfl ?_
              refine Go_aload_n (pc' := 48) dX11_size_47 rfl rfl rfl ?_
              refine Go_aload (pc' := 50) dX11_size_48 rfl rfl ?_
              refine Go_iload_n (pc' := 51) dX11_size_50 rfl rfl rfl ?_
              refine Go_iload_n (pc' := 52) dX11_size_51 rfl rfl rfl ?_
              refine Go_iload (pc' := 54) dX11_size_52 rfl rfl ?_
              refine Go_callV_i (pc' := 57) (As := [.ref _, .int _, .int _, .int _]) (st := []) dX11_size_54 rfl ok_X11_bareSize km_RX11_297 (I.S.o 64 rfl rfl rfl) (I.S.b 64 rfl rfl) ⟨_, _, rfl⟩ rfl (Nat.le_of_ble_eq_true rfl) rfl rfl rfl (Nat.le_of_ble_eq_true rfl) (Nat.lt_succ_self _) ?_
              refine s_bareF I hnc ec2 ec0 hq hnq QS RR (by omega) (by omega) (by omega) ht ?_
              refine ⟨_, rfl, ?_⟩
              refine Go_istore (pc' := 59) (lv' := [.ref _, .int _, .int _, .int _, .int _, .ref _, .ref _, .int _]) dX11_size_57 rfl (Nat.le_of_ble_eq_true rfl) rfl rfl ?_
              refine Go_aload (pc' := 61) dX11_size_59 rfl rfl ?_
              refine Go_ifnull (pc' := 64) dX11_size_61 rfl ?_
              refine Go_iload (pc' := 66) dX11_size_64 rfl rfl ?_
              refine Go_ldcZ (X := (-1000000000)) (pc' := 68) dX11_size_66 rfl kn_RX11_110 (by decide) ?_
              refine Go_icmp_neY (tgt := 76) (pc' := 71) dX11_size_68 (by decide) rfl (by first | exact ⟨i_lo _, i_hi _⟩ | omega) (by first | exact ⟨i_lo _, i_hi _⟩ | omega) (fun c68 => by exfalso; omega) (fun c68 => ?_)
              refine Go_ldcZ (X := (-1000000000)) (pc' := 73) dX11_size_71 rfl kn_RX11_110 (by decide) ?_
              refine Go_goto (tgt := 84) dX11_size_73 (by decide) ?_
              refine Go_ireturn (ty := .int) dX11_size_84 rfl rfl ?_
              exact k
            · show Go G 60 0 0 M_X12_size 0 [.ref 99, .int (iZ (q : Int)), .int (iZ Bz), .int (iZ Cz), .int (iZ (c : Int)), un] [] h K
              refine Go_aload_n (pc' := 1) dX12_size_0 rfl rfl rfl ?_
              refine Go_iload_n (pc' := 2) dX12_size_1 rfl rfl rfl ?_
              refine Go_callV_i (pc' := 5) (As := [.int _]) (st := []) dX12_size_2 rfl ok_X12_isQuake km_RX12_340 (I.S.o 99 rfl rfl rfl) (I.S.b 99 rfl rfl) ⟨_, _, rfl⟩ rfl (Nat.le_of_ble_eq_true rfl) rfl rfl rfl (Nat.le_of_ble_eq_true rfl) (Nat.lt_succ_self _) ?_
              refine Go_iload_n (pc' := 1) dX12_isQuake_0 rfl rfl rfl ?_
              refine Go_iconst (v := iZ 0) (pc' := 2) dX12_isQuake_1 rfl (by decide) ?_
              refine Go_aload_n (pc' := 3) dX12_isQuake_2 rfl rfl rfl ?_
              refine Go_getIv (v := (iZ (nq : Int))) (pc' := 6) dX12_isQuake_3 rfl kf_RX12_336 (by decide) (by decide) rfl (I.S.b 99 rfl rfl) (I.S.o 99 rfl rfl rfl) (eq38) ?_
              refine Go_iconst (v := iZ 1) (pc' := 7) dX12_isQuake_6 rfl (by decide) ?_
              refine Go_isubZ (pc' := 8) dX12_isQuake_7 rfl ?_
              refine Go_callS_i (pc' := 11) (As := [.int _, .int _, .int _]) (st := []) dX12_isQuake_8 rfl ok_X12_isIn km_RX12_147 rfl (Nat.le_of_ble_eq_true rfl) rfl rfl rfl (Nat.le_of_ble_eq_true rfl) (Nat.lt_succ_self _) ?_
              refine s_isInY (by first | exact ⟨i_lo _, i_hi _⟩ | omega) (by first | exact ⟨i_lo _, i_hi _⟩ | omega) (by first | exact ⟨i_lo _, i_hi _⟩ | omega) ?_
              refine ⟨_, rfl, ?_⟩
              refine Go_ireturn (ty := .boolean) dX12_isQuake_11 rfl b2i_nb ?_
              refine ⟨_, rfl, ?_⟩
              refine Go_if_eqb (tgt := 31) (pc' := 8) dX12_size_5 (by decide) rfl (fun c5 => by exfalso; omega) (fun c5 => ?_)
              refine Go_iload_n (pc' := 9) dX12_size_8 rfl rfl rfl ?_
              refine Go_iload_n (pc' := 10) dX12_size_9 rfl rfl rfl ?_
              refine Go_callS_i (pc' := 13) (As := [.int _, .int _]) (st := []) dX12_size_10 rfl ok_X12_isCell km_RX12_154 rfl (Nat.le_of_ble_eq_true rfl) rfl rfl rfl (Nat.le_of_ble_eq_true rfl) (Nat.lt_succ_self _) ?_
              refine s_isCellMY (by first | exact ⟨i_lo _, i_hi _⟩ | omega) (by first | exact ⟨i_lo _, i_hi _⟩ | omega) ?_
              refine ⟨_, rfl, ?_⟩
              refine Go_if_eqb (tgt := 31) (pc' := 16) dX12_size_13 (by decide) rfl (fun c13 => by exfalso; omega) (fun c13 => ?_)
              refine Go_iload (pc' := 18) dX12_size_16 rfl rfl ?_
              refine Go_iconst (v := iZ (-1)) (pc' := 19) dX12_size_18 rfl (by decide) ?_
              refine Go_icmp_eqY (tgt := 34) (pc' := 22) dX12_size_19 (by decide) rfl (by first | exact ⟨i_lo _, i_hi _⟩ | omega) (by first | exact ⟨i_lo _, i_hi _⟩ | omega) (fun c19 => by exfalso; omega) (fun c19 => ?_)
              refine Go_aload_n (pc' := 23) dX12_size_22 rfl rfl rfl ?_
              refine Go_iload (pc' := 25) dX12_size_23 rfl rfl ?_
              refine Go_callV_i (pc' := 28) (As := [.int _]) (st := []) dX12_size_25 rfl ok_X12_isCellar km_RX12_158 (I.S.o 99 rfl rfl rfl) (I.S.b 99 rfl rfl) ⟨_, _, rfl⟩ rfl (Nat.le_of_ble_eq_true rfl) rfl rfl rfl (Nat.le_of_ble_eq_true rfl) (Nat.lt_succ_self _) ?_
              refine Go_iload_n (pc' := 1) dX12_isCellar_0 rfl rfl rfl ?_
              refine Go_iconst (v := iZ 0) (pc' := 2) dX12_isCellar_1 rfl (by decide) ?_
              refine Go_aload_n (pc' := 3) dX12_isCellar_2 rfl rfl rfl ?_
              refine Go_getIv (v := (iZ (nc : Int))) (pc' := 6) dX12_isCellar_3 rfl kf_RX12_151 (by decide) (by decide) rfl (I.S.b 99 rfl rfl) (I.S.o 99 rfl rfl rfl) (ec0) ?_
              refine Go_iconst (v := iZ 1) (pc' := 7) dX12_isCellar_6 rfl (by decide) ?_
              refine Go_isubZ (pc' := 8) dX12_isCellar_7 rfl ?_
              refine Go_callS_i (pc' := 11) (As := [.int _, .int _, .int _]) (st := []) dX12_isCellar_8 rfl ok_X12_isIn km_RX12_147 rfl (Nat.le_of_ble_eq_true rfl) rfl rfl rfl (Nat.le_of_ble_eq_true rfl) (Nat.lt_succ_self _) ?_
              refine s_isInY (by first | exact ⟨i_lo _, i_hi _⟩ | omega) (by first | exact ⟨i_lo _, i_hi _⟩ | omega) (by first | exact ⟨i_lo _, i_hi _⟩ | omega) ?_
              refine ⟨_, rfl, ?_⟩
              refine Go_ireturn (ty := .boolean) dX12_isCellar_11 rfl b2i_nb ?_
              refine ⟨_, rfl, ?_⟩
              refine Go_if_neb (tgt := 34) (pc' := 31) dX12_size_28 (by decide) rfl (fun c28 => ?_) (fun c28 => by exfalso; omega)
              refine Go_bipush (v := iZ 40) (pc' := 36) dX12_size_34 rfl (by decide) ?_
              refine Go_iload_n (pc' := 37) dX12_size_36 rfl rfl rfl ?_
              refine Go_imulZ (pc' := 38) dX12_size_37 rfl ?_
              refine Go_iload_n (pc' := 39) dX12_size_38 rfl rfl rfl ?_
              refine Go_iaddZ (pc' := 40) dX12_size_39 rfl ?_
              refine Go_istore (pc' := 42) (lv' := [.ref _, .int _, .int _, .int _, .int _, .int _]) dX12_size_40 rfl (Nat.le_of_ble_eq_true rfl) rfl rfl ?_
              refine Go_iload (pc' := 44) dX12_size_42 rfl rfl ?_
              refine Go_iconst (v := iZ (-1)) (pc' := 45) dX12_size_44 rfl (by decide) ?_
              refine Go_icmp_neY (tgt := 57) (pc' := 48) dX12_size_45 (by decide) rfl (by first | exact ⟨i_lo _, i_hi _⟩ | omega) (by first | exact ⟨i_lo _, i_hi _⟩ | omega) (fun c45 => ?_) (fun c45 => by exfalso; omega)
              refine Go_aload_n (pc' := 58) dX12_size_57 rfl rfl rfl ?_
              refine Go_iload_n (pc' := 59) dX12_size_58 rfl rfl rfl ?_
              refine Go_iload (pc' := 61) dX12_size_59 rfl rfl ?_
              refine Go_callV_i (pc' := 64) (As := [.int _, .int _]) (st := []) dX12_size_61 rfl ok_X12_tells km_RX12_370 (I.S.o 99 rfl rfl rfl) (I.S.b 99 rfl rfl) ⟨_, _, rfl⟩ rfl (Nat.le_of_ble_eq_true rfl) rfl rfl rfl (Nat.le_of_ble_eq_true rfl) (Nat.lt_succ_self _) ?_
              refine s_tells I hnc hq hnq RR (by omega) ?_
              refine ⟨_, rfl, ?_⟩
              refine Go_if_eqb (tgt := 87) (pc' := 67) dX12_size_64 (by decide) rfl (fun c64 => ?_) (fun c64 => by exact absurd c64 ht)
              refine Go_ldcZ (X := (-1000000000)) (pc' := 89) dX12_size_87 rfl kn_RX12_162 (by decide) ?_
              refine Go_ireturn (ty := .int) dX12_size_89 rfl rfl ?_
              exact k
        · refine PairI.ro' (fun _ => iZ (-1000000000)) h I (fun K k => ?_) (fun K k => ?_)
          · show Go G 60 0 0 M_X11_size 0 [.ref 64, .int (iZ (q : Int)), .int (iZ Bz), .int (iZ Cz), .int (iZ Ez), un, un, un] [] h K
            refine Go_aload_n (pc' := 1) dX11_size_0 rfl rfl rfl ?_
            refine Go_iload_n (pc' := 2) dX11_size_1 rfl rfl rfl ?_
            refine Go_callV_r (pc' := 5) (As := [.int _]) (st := []) dX11_size_2 rfl ok_X11_quakeOf km_RX11_230 (I.S.o 64 rfl rfl rfl) (I.S.b 64 rfl rfl) ⟨_, _, rfl⟩ rfl (Nat.le_of_ble_eq_true rfl) rfl rfl rfl (Nat.le_of_ble_eq_true rfl) (Nat.lt_succ_self _) ?_
            refine Go_iload_n (pc' := 1) dX11_quakeOf_0 rfl rfl rfl ?_
            refine Go_iconst (v := iZ 0) (pc' := 2) dX11_quakeOf_1 rfl (by decide) ?_
            refine Go_aload_n (pc' := 3) dX11_quakeOf_2 rfl rfl rfl ?_
            refine Go_getIv (v := (iZ (nq : Int))) (pc' := 6) dX11_quakeOf_3 rfl kf_RX11_226 (by decide) (by decide) rfl (I.S.b 64 rfl rfl) (I.S.o 64 rfl rfl rfl) (eq7) ?_
            refine Go_iconst (v := iZ 1) (pc' := 7) dX11_quakeOf_6 rfl (by decide) ?_
            refine Go_isubZ (pc' := 8) dX11_quakeOf_7 rfl ?_
            refine Go_callS_i (pc' := 11) (As := [.int _, .int _, .int _]) (st := []) dX11_quakeOf_8 rfl ok_X11_within km_RX11_94 rfl (Nat.le_of_ble_eq_true rfl) rfl rfl rfl (Nat.le_of_ble_eq_true rfl) (Nat.lt_succ_self _) ?_
            refine s_withinY (by first | exact ⟨i_lo _, i_hi _⟩ | omega) (by first | exact ⟨i_lo _, i_hi _⟩ | omega) (by first | exact ⟨i_lo _, i_hi _⟩ | omega) ?_
            refine ⟨_, rfl, ?_⟩
            refine Go_if_eqb (tgt := 32) (pc' := 14) dX11_quakeOf_11 (by decide) rfl (fun q11 => by exfalso; omega) (fun q11 => ?_)
            refine Go_iload_n (pc' := 15) dX11_quakeOf_14 rfl rfl rfl ?_
            refine Go_aload_n (pc' := 16) dX11_quakeOf_15 rfl rfl rfl ?_
            refine Go_getRs (pc' := 19) dX11_quakeOf_16 rfl kf_RX11_45 (by decide) (by decide) rfl (I.S.b 64 rfl rfl) (I.S.o 64 rfl rfl rfl) (I.S.r 64 6 rfl rfl rfl) ?_
            refine Go_alenZ (n := 16) (pc' := 20) dX11_quakeOf_19 rfl (I.S.b 80 rfl rfl) (I.S.k 80 rfl rfl rfl) (Or.inr (Or.inr ⟨_, rfl⟩)) ?_
            refine Go_icmp_geY (tgt := 32) (pc' := 23) dX11_quakeOf_20 (by decide) rfl (by first | exact ⟨i_lo _, i_hi _⟩ | omega) (by first | exact ⟨i_lo _, i_hi _⟩ | omega) (fun q20 => by exfalso; omega) (fun q20 => ?_)
            refine Go_aload_n (pc' := 24) dX11_quakeOf_23 rfl rfl rfl ?_
            refine Go_getRs (pc' := 27) dX11_quakeOf_24 rfl kf_RX11_45 (by decide) (by decide) rfl (I.S.b 64 rfl rfl) (I.S.o 64 rfl rfl rfl) (I.S.r 64 6 rfl rfl rfl) ?_
            refine Go_iload_n (pc' := 28) dX11_quakeOf_27 rfl rfl rfl ?_
            refine Go_aaloadZ (n := 16) (k := q) (pc' := 29) dX11_quakeOf_28 rfl (I.S.b 80 rfl rfl) (I.S.k 80 rfl rfl rfl) rfl rfl (by omega) (by decide) hu ?_
            refine Go_goto (tgt := 33) dX11_quakeOf_29 (by decide) ?_
            refine Go_areturn (r := some _) dX11_quakeOf_33 rfl ?_
            refine ⟨some _, rfl, ?_⟩
            refine Go_astore (pc' := 7) (lv' := [.ref _, .int _, .int _, .int _, .int _, .ref _, un, un]) dX11_size_5 rfl (Nat.le_of_ble_eq_true rfl) rfl rfl ?_
            refine Go_aload (pc' := 9) dX11_size_7 rfl rfl ?_
            refine Go_ifnull (pc' := 12) dX11_size_9 rfl ?_
            refine Go_iload_n (pc' := 13) dX11_size_12 rfl rfl rfl ?_
            refine Go_iload_n (pc' := 14) dX11_size_13 rfl rfl rfl ?_
            refine Go_callS_i (pc' := 17) (As := [.int _, .int _]) (st := []) dX11_size_14 rfl ok_X11_isCell km_RX11_80 rfl (Nat.le_of_ble_eq_true rfl) rfl rfl rfl (Nat.le_of_ble_eq_true rfl) (Nat.lt_succ_self _) ?_
            refine s_isCellY (by first | exact ⟨i_lo _, i_hi _⟩ | omega) (by first | exact ⟨i_lo _, i_hi _⟩ | omega) ?_
            refine ⟨_, rfl, ?_⟩
            refine Go_if_neb (tgt := 23) (pc' := 20) dX11_size_17 (by decide) rfl (fun c17 => ?_) (fun c17 => by exfalso; omega)
            refine Go_iload (pc' := 25) dX11_size_23 rfl rfl ?_
            refine Go_iconst (v := iZ (-1)) (pc' := 26) dX11_size_25 rfl (by decide) ?_
            refine Go_icmp_neY (tgt := 39) (pc' := 29) dX11_size_26 (by decide) rfl (by first | exact ⟨i_lo _, i_hi _⟩ | omega) (by first | exact ⟨i_lo _, i_hi _⟩ | omega) (fun c26 => ?_) (fun c26 => by exfalso; omega)
            refine Go_aload_n (pc' := 40) dX11_size_39 rfl rfl rfl ?_
            refine Go_iload (pc' := 42) dX11_size_40 rfl rfl ?_
            refine Go_callV_r (pc' := 45) (As := [.int _]) (st := []) dX11_size_42 rfl ok_X11_cellarOf km_RX11_90 (I.S.o 64 rfl rfl rfl) (I.S.b 64 rfl rfl) ⟨_, _, rfl⟩ rfl (Nat.le_of_ble_eq_true rfl) rfl rfl rfl (Nat.le_of_ble_eq_true rfl) (Nat.lt_succ_self _) ?_
            refine Go_iload_n (pc' := 1) dX11_cellarOf_0 rfl rfl rfl ?_
            refine Go_iconst (v := iZ 0) (pc' := 2) dX11_cellarOf_1 rfl (by decide) ?_
            refine Go_aload_n (pc' := 3) dX11_cellarOf_2 rfl rfl rfl ?_
            refine Go_getIv (v := (iZ (nc : Int))) (pc' := 6) dX11_cellarOf_3 rfl kf_RX11_84 (by decide) (by decide) rfl (I.S.b 64 rfl rfl) (I.S.o 64 rfl rfl rfl) (ec2) ?_
            refine Go_iconst (v := iZ 1) (pc' := 7) dX11_cellarOf_6 rfl (by decide) ?_
            refine Go_isubZ (pc' := 8) dX11_cellarOf_7 rfl ?_
            refine Go_callS_i (pc' := 11) (As := [.int _, .int _, .int _]) (st := []) dX11_cellarOf_8 rfl ok_X11_within km_RX11_94 rfl (Nat.le_of_ble_eq_true rfl) rfl rfl rfl (Nat.le_of_ble_eq_true rfl) (Nat.lt_succ_self _) ?_
            refine s_withinY (by first | exact ⟨i_lo _, i_hi _⟩ | omega) (by first | exact ⟨i_lo _, i_hi _⟩ | omega) (by first | exact ⟨i_lo _, i_hi _⟩ | omega) ?_
            refine ⟨_, rfl, ?_⟩
            refine Go_if_eqb (tgt := 32) (pc' := 14) dX11_cellarOf_11 (by decide) rfl (fun q11 => ?_) (fun q11 => by exfalso; omega)
            refine Go_null (pc' := 33) dX11_cellarOf_32 rfl ?_
            refine Go_areturn (r := none) dX11_cellarOf_33 rfl ?_
            refine ⟨none, rfl, ?_⟩
            refine Go_astoreN (pc' := 47) (lv' := [.ref _, .int _, .int _, .int _, .int _, .ref _, .null, un]) dX11_size_45 rfl (Nat.le_of_ble_eq_true rfl) rfl rfl ?_
            refine Go_aload_n (pc' := 48) dX11_size_47 rfl rfl rfl ?_
            refine Go_aload (pc' := 50) dX11_size_48 rfl rfl ?_
            refine Go_iload_n (pc' := 51) dX11_size_50 rfl rfl rfl ?_
            refine Go_iload_n (pc' := 52) dX11_size_51 rfl rfl rfl ?_
            refine Go_iload (pc' := 54) dX11_size_52 rfl rfl ?_
            refine Go_callV_i (pc' := 57) (As := [.ref _, .int _, .int _, .int _]) (st := []) dX11_size_54 rfl ok_X11_bareSize km_RX11_297 (I.S.o 64 rfl rfl rfl) (I.S.b 64 rfl rfl) ⟨_, _, rfl⟩ rfl (Nat.le_of_ble_eq_true rfl) rfl rfl rfl (Nat.le_of_ble_eq_true rfl) (Nat.lt_succ_self _) ?_
            refine s_bare0 I hnc ec2 ec0 hq hnq QS RR (by omega) (by omega) (by omega) hcc ?_
            refine ⟨_, rfl, ?_⟩
            refine Go_istore (pc' := 59) (lv' := [.ref _, .int _, .int _, .int _, .int _, .ref _, .null, .int _]) dX11_size_57 rfl (Nat.le_of_ble_eq_true rfl) rfl rfl ?_
            refine Go_aloadN (pc' := 61) dX11_size_59 rfl rfl ?_
            refine Go_ifnullN (tgt := 71) dX11_size_61 (by decide) ?_
            refine Go_ldcZ (X := (-1000000000)) (pc' := 73) dX11_size_71 rfl kn_RX11_110 (by decide) ?_
            refine Go_goto (tgt := 84) dX11_size_73 (by decide) ?_
            refine Go_ireturn (ty := .int) dX11_size_84 rfl rfl ?_
            exact k
          · show Go G 60 0 0 M_X12_size 0 [.ref 99, .int (iZ (q : Int)), .int (iZ Bz), .int (iZ Cz), .int (iZ Ez), un] [] h K
            refine Go_aload_n (pc' := 1) dX12_size_0 rfl rfl rfl ?_
            refine Go_iload_n (pc' := 2) dX12_size_1 rfl rfl rfl ?_
            refine Go_callV_i (pc' := 5) (As := [.int _]) (st := []) dX12_size_2 rfl ok_X12_isQuake km_RX12_340 (I.S.o 99 rfl rfl rfl) (I.S.b 99 rfl rfl) ⟨_, _, rfl⟩ rfl (Nat.le_of_ble_eq_true rfl) rfl rfl rfl (Nat.le_of_ble_eq_true rfl) (Nat.lt_succ_self _) ?_
            refine Go_iload_n (pc' := 1) dX12_isQuake_0 rfl rfl rfl ?_
            refine Go_iconst (v := iZ 0) (pc' := 2) dX12_isQuake_1 rfl (by decide) ?_
            refine Go_aload_n (pc' := 3) dX12_isQuake_2 rfl rfl rfl ?_
            refine Go_getIv (v := (iZ (nq : Int))) (pc' := 6) dX12_isQuake_3 rfl kf_RX12_336 (by decide) (by decide) rfl (I.S.b 99 rfl rfl) (I.S.o 99 rfl rfl rfl) (eq38) ?_
            refine Go_iconst (v := iZ 1) (pc' := 7) dX12_isQuake_6 rfl (by decide) ?_
            refine Go_isubZ (pc' := 8) dX12_isQuake_7 rfl ?_
            refine Go_callS_i (pc' := 11) (As := [.int _, .int _, .int _]) (st := []) dX12_isQuake_8 rfl ok_X12_isIn km_RX12_147 rfl (Nat.le_of_ble_eq_true rfl) rfl rfl rfl (Nat.le_of_ble_eq_true rfl) (Nat.lt_succ_self _) ?_
            refine s_isInY (by first | exact ⟨i_lo _, i_hi _⟩ | omega) (by first | exact ⟨i_lo _, i_hi _⟩ | omega) (by first | exact ⟨i_lo _, i_hi _⟩ | omega) ?_
            refine ⟨_, rfl, ?_⟩
            refine Go_ireturn (ty := .boolean) dX12_isQuake_11 rfl b2i_nb ?_
            refine ⟨_, rfl, ?_⟩
            refine Go_if_eqb (tgt := 31) (pc' := 8) dX12_size_5 (by decide) rfl (fun c5 => by exfalso; omega) (fun c5 => ?_)
            refine Go_iload_n (pc' := 9) dX12_size_8 rfl rfl rfl ?_
            refine Go_iload_n (pc' := 10) dX12_size_9 rfl rfl rfl ?_
            refine Go_callS_i (pc' := 13) (As := [.int _, .int _]) (st := []) dX12_size_10 rfl ok_X12_isCell km_RX12_154 rfl (Nat.le_of_ble_eq_true rfl) rfl rfl rfl (Nat.le_of_ble_eq_true rfl) (Nat.lt_succ_self _) ?_
            refine s_isCellMY (by first | exact ⟨i_lo _, i_hi _⟩ | omega) (by first | exact ⟨i_lo _, i_hi _⟩ | omega) ?_
            refine ⟨_, rfl, ?_⟩
            refine Go_if_eqb (tgt := 31) (pc' := 16) dX12_size_13 (by decide) rfl (fun c13 => by exfalso; omega) (fun c13 => ?_)
            refine Go_iload (pc' := 18) dX12_size_16 rfl rfl ?_
            refine Go_iconst (v := iZ (-1)) (pc' := 19) dX12_size_18 rfl (by decide) ?_
            refine Go_icmp_eqY (tgt := 34) (pc' := 22) dX12_size_19 (by decide) rfl (by first | exact ⟨i_lo _, i_hi _⟩ | omega) (by first | exact ⟨i_lo _, i_hi _⟩ | omega) (fun c19 => by exfalso; omega) (fun c19 => ?_)
            refine Go_aload_n (pc' := 23) dX12_size_22 rfl rfl rfl ?_
            refine Go_iload (pc' := 25) dX12_size_23 rfl rfl ?_
            refine Go_callV_i (pc' := 28) (As := [.int _]) (st := []) dX12_size_25 rfl ok_X12_isCellar km_RX12_158 (I.S.o 99 rfl rfl rfl) (I.S.b 99 rfl rfl) ⟨_, _, rfl⟩ rfl (Nat.le_of_ble_eq_true rfl) rfl rfl rfl (Nat.le_of_ble_eq_true rfl) (Nat.lt_succ_self _) ?_
            refine Go_iload_n (pc' := 1) dX12_isCellar_0 rfl rfl rfl ?_
            refine Go_iconst (v := iZ 0) (pc' := 2) dX12_isCellar_1 rfl (by decide) ?_
            refine Go_aload_n (pc' := 3) dX12_isCellar_2 rfl rfl rfl ?_
            refine Go_getIv (v := (iZ (nc : Int))) (pc' := 6) dX12_isCellar_3 rfl kf_RX12_151 (by decide) (by decide) rfl (I.S.b 99 rfl rfl) (I.S.o 99 rfl rfl rfl) (ec0) ?_
            refine Go_iconst (v := iZ 1) (pc' := 7) dX12_isCellar_6 rfl (by decide) ?_
            refine Go_isubZ (pc' := 8) dX12_isCellar_7 rfl ?_
            refine Go_callS_i (pc' := 11) (As := [.int _, .int _, .int _]) (st := []) dX12_isCellar_8 rfl ok_X12_isIn km_RX12_147 rfl (Nat.le_of_ble_eq_true rfl) rfl rfl rfl (Nat.le_of_ble_eq_true rfl) (Nat.lt_succ_self _) ?_
            refine s_isInY (by first | exact ⟨i_lo _, i_hi _⟩ | omega) (by first | exact ⟨i_lo _, i_hi _⟩ | omega) (by first | exact ⟨i_lo _, i_hi _⟩ | omega) ?_
            refine ⟨_, rfl, ?_⟩
            refine Go_ireturn (ty := .boolean) dX12_isCellar_11 rfl b2i_nb ?_
            refine ⟨_, rfl, ?_⟩
            refine Go_if_neb (tgt := 34) (pc' := 31) dX12_size_28 (by decide) rfl (fun c28 => by exfalso; omega) (fun c28 => ?_)
            refine Go_ldcZ (X := (-1000000000)) (pc' := 33) dX12_size_31 rfl kn_RX12_162 (by decide) ?_
            refine Go_ireturn (ty := .int) dX12_size_33 rfl rfl ?_
            exact k
    · refine PairI.ro' (fun _ => iZ (-1000000000)) h I (fun K k => ?_) (fun K k => ?_)
      · show Go G 60 0 0 M_X11_size 0 [.ref 64, .int (iZ (q : Int)), .int (iZ Bz), .int (iZ Cz), .int (iZ Ez), un, un, un] [] h K
        refine Go_aload_n (pc' := 1) dX11_size_0 rfl rfl rfl ?_
        refine Go_iload_n (pc' := 2) dX11_size_1 rfl rfl rfl ?_
        refine Go_callV_r (pc' := 5) (As := [.int _]) (st := []) dX11_size_2 rfl ok_X11_quakeOf km_RX11_230 (I.S.o 64 rfl rfl rfl) (I.S.b 64 rfl rfl) ⟨_, _, rfl⟩ rfl (Nat.le_of_ble_eq_true rfl) rfl rfl rfl (Nat.le_of_ble_eq_true rfl) (Nat.lt_succ_self _) ?_
        refine Go_iload_n (pc' := 1) dX11_quakeOf_0 rfl rfl rfl ?_
        refine Go_iconst (v := iZ 0) (pc' := 2) dX11_quakeOf_1 rfl (by decide) ?_
        refine Go_aload_n (pc' := 3) dX11_quakeOf_2 rfl rfl rfl ?_
        refine Go_getIv (v := (iZ (nq : Int))) (pc' := 6) dX11_quakeOf_3 rfl kf_RX11_226 (by decide) (by decide) rfl (I.S.b 64 rfl rfl) (I.S.o 64 rfl rfl rfl) (eq7) ?_
        refine Go_iconst (v := iZ 1) (pc' := 7) dX11_quakeOf_6 rfl (by decide) ?_
        refine Go_isubZ (pc' := 8) dX11_quakeOf_7 rfl ?_
        refine Go_callS_i (pc' := 11) (As := [.int _, .int _, .int _]) (st := []) dX11_quakeOf_8 rfl ok_X11_within km_RX11_94 rfl (Nat.le_of_ble_eq_true rfl) rfl rfl rfl (Nat.le_of_ble_eq_true rfl) (Nat.lt_succ_self _) ?_
        refine s_withinY (by first | exact ⟨i_lo _, i_hi _⟩ | omega) (by first | exact ⟨i_lo _, i_hi _⟩ | omega) (by first | exact ⟨i_lo _, i_hi _⟩ | omega) ?_
        refine ⟨_, rfl, ?_⟩
        refine Go_if_eqb (tgt := 32) (pc' := 14) dX11_quakeOf_11 (by decide) rfl (fun q11 => by exfalso; omega) (fun q11 => ?_)
        refine Go_iload_n (pc' := 15) dX11_quakeOf_14 rfl rfl rfl ?_
        refine Go_aload_n (pc' := 16) dX11_quakeOf_15 rfl rfl rfl ?_
        refine Go_getRs (pc' := 19) dX11_quakeOf_16 rfl kf_RX11_45 (by decide) (by decide) rfl (I.S.b 64 rfl rfl) (I.S.o 64 rfl rfl rfl) (I.S.r 64 6 rfl rfl rfl) ?_
        refine Go_alenZ (n := 16) (pc' := 20) dX11_quakeOf_19 rfl (I.S.b 80 rfl rfl) (I.S.k 80 rfl rfl rfl) (Or.inr (Or.inr ⟨_, rfl⟩)) ?_
        refine Go_icmp_geY (tgt := 32) (pc' := 23) dX11_quakeOf_20 (by decide) rfl (by first | exact ⟨i_lo _, i_hi _⟩ | omega) (by first | exact ⟨i_lo _, i_hi _⟩ | omega) (fun q20 => by exfalso; omega) (fun q20 => ?_)
        refine Go_aload_n (pc' := 24) dX11_quakeOf_23 rfl rfl rfl ?_
        refine Go_getRs (pc' := 27) dX11_quakeOf_24 rfl kf_RX11_45 (by decide) (by decide) rfl (I.S.b 64 rfl rfl) (I.S.o 64 rfl rfl rfl) (I.S.r 64 6 rfl rfl rfl) ?_
        refine Go_iload_n (pc' := 28) dX11_quakeOf_27 rfl rfl rfl ?_
        refine Go_aaloadZ (n := 16) (k := q) (pc' := 29) dX11_quakeOf_28 rfl (I.S.b 80 rfl rfl) (I.S.k 80 rfl rfl rfl) rfl rfl (by omega) (by decide) hu ?_
        refine Go_goto (tgt := 33) dX11_quakeOf_29 (by decide) ?_
        refine Go_areturn (r := some _) dX11_quakeOf_33 rfl ?_
        refine ⟨some _, rfl, ?_⟩
        refine Go_astore (pc' := 7) (lv' := [.ref _, .int _, .int _, .int _, .int _, .ref _, un, un]) dX11_size_5 rfl (Nat.le_of_ble_eq_true rfl) rfl rfl ?_
        refine Go_aload (pc' := 9) dX11_size_7 rfl rfl ?_
        refine Go_ifnull (pc' := 12) dX11_size_9 rfl ?_
        refine Go_iload_n (pc' := 13) dX11_size_12 rfl rfl rfl ?_
        refine Go_iload_n (pc' := 14) dX11_size_13 rfl rfl rfl ?_
        refine Go_callS_i (pc' := 17) (As := [.int _, .int _]) (st := []) dX11_size_14 rfl ok_X11_isCell km_RX11_80 rfl (Nat.le_of_ble_eq_true rfl) rfl rfl rfl (Nat.le_of_ble_eq_true rfl) (Nat.lt_succ_self _) ?_
        refine s_isCellY (by first | exact ⟨i_lo _, i_hi _⟩ | omega) (by first | exact ⟨i_lo _, i_hi _⟩ | omega) ?_
        refine ⟨_, rfl, ?_⟩
        refine Go_if_neb (tgt := 23) (pc' := 20) dX11_size_17 (by decide) rfl (fun c17 => by exfalso; omega) (fun c17 => ?_)
        refine Go_ldcZ (X := (-1000000000)) (pc' := 22) dX11_size_20 rfl kn_RX11_110 (by decide) ?_
        refine Go_ireturn (ty := .int) dX11_size_22 rfl rfl ?_
        exact k
      · show Go G 60 0 0 M_X12_size 0 [.ref 99, .int (iZ (q : Int)), .int (iZ Bz), .int (iZ Cz), .int (iZ Ez), un] [] h K
        refine Go_aload_n (pc' := 1) dX12_size_0 rfl rfl rfl ?_
        refine Go_iload_n (pc' := 2) dX12_size_1 rfl rfl rfl ?_
        refine Go_callV_i (pc' := 5) (As := [.int _]) (st := []) dX12_size_2 rfl ok_X12_isQuake km_RX12_340 (I.S.o 99 rfl rfl rfl) (I.S.b 99 rfl rfl) ⟨_, _, rfl⟩ rfl (Nat.le_of_ble_eq_true rfl) rfl rfl rfl (Nat.le_of_ble_eq_true rfl) (Nat.lt_succ_self _) ?_
        refine Go_iload_n (pc' := 1) dX12_isQuake_0 rfl rfl rfl ?_
        refine Go_iconst (v := iZ 0) (pc' := 2) dX12_isQuake_1 rfl (by decide) ?_
        refine Go_aload_n (pc' := 3) dX12_isQuake_2 rfl rfl rfl ?_
        refine Go_getIv (v := (iZ (nq : Int))) (pc' := 6) dX12_isQuake_3 rfl kf_RX12_336 (by decide) (by decide) rfl (I.S.b 99 rfl rfl) (I.S.o 99 rfl rfl rfl) (eq38) ?_
        refine Go_iconst (v := iZ 1) (pc' := 7) dX12_isQuake_6 rfl (by decide) ?_
        refine Go_isubZ (pc' := 8) dX12_isQuake_7 rfl ?_
        refine Go_callS_i (pc' := 11) (As := [.int _, .int _, .int _]) (st := []) dX12_isQuake_8 rfl ok_X12_isIn km_RX12_147 rfl (Nat.le_of_ble_eq_true rfl) rfl rfl rfl (Nat.le_of_ble_eq_true rfl) (Nat.lt_succ_self _) ?_
        refine s_isInY (by first | exact ⟨i_lo _, i_hi _⟩ | omega) (by first | exact ⟨i_lo _, i_hi _⟩ | omega) (by first | exact ⟨i_lo _, i_hi _⟩ | omega) ?_
        refine ⟨_, rfl, ?_⟩
        refine Go_ireturn (ty := .boolean) dX12_isQuake_11 rfl b2i_nb ?_
        refine ⟨_, rfl, ?_⟩
        refine Go_if_eqb (tgt := 31) (pc' := 8) dX12_size_5 (by decide) rfl (fun c5 => by exfalso; omega) (fun c5 => ?_)
        refine Go_iload_n (pc' := 9) dX12_size_8 rfl rfl rfl ?_
        refine Go_iload_n (pc' := 10) dX12_size_9 rfl rfl rfl ?_
        refine Go_callS_i (pc' := 13) (As := [.int _, .int _]) (st := []) dX12_size_10 rfl ok_X12_isCell km_RX12_154 rfl (Nat.le_of_ble_eq_true rfl) rfl rfl rfl (Nat.le_of_ble_eq_true rfl) (Nat.lt_succ_self _) ?_
        refine s_isCellMY (by first | exact ⟨i_lo _, i_hi _⟩ | omega) (by first | exact ⟨i_lo _, i_hi _⟩ | omega) ?_
        refine ⟨_, rfl, ?_⟩
        refine Go_if_eqb (tgt := 31) (pc' := 16) dX12_size_13 (by decide) rfl (fun c13 => ?_) (fun c13 => by exfalso; omega)
        refine Go_ldcZ (X := (-1000000000)) (pc' := 33) dX12_size_31 rfl kn_RX12_162 (by decide) ?_
        refine Go_ireturn (ty := .int) dX12_size_33 rfl rfl ?_
        exact k
