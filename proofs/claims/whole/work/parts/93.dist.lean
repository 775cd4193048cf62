/-! distances, levels, fading, means -/
def dz (X Y : Int) : Int := ((rt (X.natAbs * X.natAbs + Y.natAbs * Y.natAbs) : Nat) : Int)
theorem root_u {r s t : Int} (hr : 0 ≤ r) (hs : 0 ≤ s) (h1 : r * r ≤ t) (h2 : t < (s + 1) * (s + 1)) : r ≤ s := by
  by_cases c : r ≤ s
  · exact c
  · have := Int.mul_le_mul (a := s + 1) (b := s + 1) (c := r) (d := r) (by omega) (by omega) (by omega) (by omega)
    omega
theorem dz_r {X Y : Int} (hX : X.natAbs < 40) (hY : Y.natAbs < 40) : (0 ≤ dz X Y ∧ dz X Y ≤ 55) ∧ dz X Y * dz X Y ≤ X * X + Y * Y ∧ X * X + Y * Y < (dz X Y + 1) * (dz X Y + 1) := by
  obtain ⟨a, b, c⟩ := rt_ok Y.natAbs hY X.natAbs hX
  unfold dz
  refine ⟨⟨by omega, by omega⟩, ?_, ?_⟩
  · rw [← Int.natAbs_mul_self' X, ← Int.natAbs_mul_self' Y]; exact_mod_cast b
  · rw [← Int.natAbs_mul_self' X, ← Int.natAbs_mul_self' Y]; exact_mod_cast c
theorem RD.dz {h : HS} (R : RD h) {X Y : Int} (hX : X.natAbs < 40) (hY : Y.natAbs < 40) : vi h 66 (40 * Y.natAbs + X.natAbs) = iZ (dz X Y) := by
  apply iZ_of
  obtain ⟨⟨a1, a2⟩, b1, b2, b3⟩ := R X.natAbs Y.natAbs hX hY
  obtain ⟨⟨c1, c2⟩, c3, c4⟩ := dz_r hX hY
  rw [Int.natAbs_mul_self' X, Int.natAbs_mul_self' Y] at b2 b3
  have q1 := root_u a1 c1 b2 c4
  have q2 := root_u c1 a1 c3 b3
  omega
def lv (v : Int) : Int := ((lev v.toNat : Nat) : Int)
theorem lv_r {v : Int} (h : v < 2147483648) : 0 ≤ lv v ∧ lv v ≤ 309 := by
  refine ⟨by unfold lv; omega, ?_⟩
  unfold lv lev
  by_cases c : v.toNat = 0
  · rw [if_pos c]; decide
  · rw [if_neg c]
    have l1 : Nat.log2 v.toNat < 31 := (Nat.log2_lt c).2 (by omega)
    have l2 : v.toNat < 2 ^ (Nat.log2 v.toNat + 1) := Nat.lt_log2_self
    have l3 : (v.toNat - 2 ^ Nat.log2 v.toNat) * 10 / 2 ^ Nat.log2 v.toNat < 10 := by
      rw [Nat.div_lt_iff_lt_mul (Nat.two_pow_pos _)]
      rw [Nat.pow_succ] at l2
      omega
    omega
def fz (x : Int) : Int := 3 * lv (x + 1) / 2
theorem fz_r {x : Int} (h : x < 2147483647) : 0 ≤ fz x ∧ fz x ≤ 463 := by
  have := lv_r (v := x + 1) (by omega)
  unfold fz; omega
set_option maxRecDepth 20000 in
set_option maxHeartbeats 1000000 in
theorem s_dist {G : GC} {d mc ms : Nat} {h : HS} {K : Option Value → HS → Prop} {x y u v : Int} (S : Shp h) (R : RD h) (hx : 0 ≤ x ∧ x ≤ 39) (hy : 0 ≤ y ∧ y ≤ 39) (hu : 0 ≤ u ∧ u ≤ 39) (hv : 0 ≤ v ∧ v ≤ 39) (hk : K (some (.int (iZ (dz (x - u) (y - v))))) h) : Go G (d + 1) mc ms M_X3_distance 0 [.ref 65, .int (iZ x), .int (iZ y), .int (iZ u), .int (iZ v), un, un, un] [] h K := by
  refine Go_iload_n (pc' := 1) dX3_distance_0 rfl rfl rfl ?_
  refine Go_iload_n (pc' := 2) dX3_distance_1 rfl rfl rfl ?_
  refine Go_isubZ (pc' := 3) dX3_distance_2 rfl ?_
  refine Go_callS_i (pc' := 6) (As := [.int _]) (st := []) dX3_distance_3 rfl ok_J9_abs_0f7a4 km_RX3_15 rfl (Nat.le_of_ble_eq_true rfl) rfl rfl rfl (Nat.le_of_ble_eq_true rfl) (Nat.lt_succ_self _) ?_
  refine s_absY (by omega) ?_
  refine ⟨_, rfl, ?_⟩
  refine Go_istore (pc' := 8) (lv' := [.ref _, .int _, .int _, .int _, .int _, .int _, un, un]) dX3_distance_6 rfl (Nat.le_of_ble_eq_true rfl) rfl rfl ?_
  refine Go_iload_n (pc' := 9) dX3_distance_8 rfl rfl rfl ?_
  refine Go_iload (pc' := 11) dX3_distance_9 rfl rfl ?_
  refine Go_isubZ (pc' := 12) dX3_distance_11 rfl ?_
  refine Go_callS_i (pc' := 15) (As := [.int _]) (st := []) dX3_distance_12 rfl ok_J9_abs_0f7a4 km_RX3_15 rfl (Nat.le_of_ble_eq_true rfl) rfl rfl rfl (Nat.le_of_ble_eq_true rfl) (Nat.lt_succ_self _) ?_
  refine s_absY (by omega) ?_
  refine ⟨_, rfl, ?_⟩
  refine Go_istore (pc' := 17) (lv' := [.ref _, .int _, .int _, .int _, .int _, .int _, .int _, un]) dX3_distance_15 rfl (Nat.le_of_ble_eq_true rfl) rfl rfl ?_
  refine Go_bipush (v := iZ 40) (pc' := 19) dX3_distance_17 rfl (by decide) ?_
  refine Go_iload (pc' := 21) dX3_distance_19 rfl rfl ?_
  refine Go_imulZ (pc' := 22) dX3_distance_21 rfl ?_
  refine Go_iload (pc' := 24) dX3_distance_22 rfl rfl ?_
  refine Go_iaddZ (pc' := 25) dX3_distance_24 rfl ?_
  refine Go_istore (pc' := 27) (lv' := [.ref _, .int _, .int _, .int _, .int _, .int _, .int _, .int _]) dX3_distance_25 rfl (Nat.le_of_ble_eq_true rfl) rfl rfl ?_
  refine Go_iload (pc' := 29) dX3_distance_27 rfl rfl ?_
  refine Go_if_ltY (tgt := 52) (pc' := 32) dX3_distance_29 (by decide) rfl (by first | exact ⟨i_lo _, i_hi _⟩ | omega) (fun c29 => by exfalso; omega) (fun c29 => ?_)
  refine Go_iload (pc' := 34) dX3_distance_32 rfl rfl ?_
  refine Go_aload_n (pc' := 35) dX3_distance_34 rfl rfl rfl ?_
  refine Go_getRs (pc' := 38) dX3_distance_35 rfl kf_RX3_9 (by decide) (by decide) rfl (S.b 65 rfl rfl) (S.o 65 rfl rfl rfl) (S.r 65 0 rfl rfl rfl) ?_
  refine Go_alenZ (n := 1600) (pc' := 39) dX3_distance_38 rfl (S.b 66 rfl rfl) (S.k 66 rfl rfl rfl) (Or.inl rfl) ?_
  refine Go_icmp_geY (tgt := 52) (pc' := 42) dX3_distance_39 (by decide) rfl (by first | exact ⟨i_lo _, i_hi _⟩ | omega) (by first | exact ⟨i_lo _, i_hi _⟩ | omega) (fun c39 => by exfalso; omega) (fun c39 => ?_)
  refine Go_aload_n (pc' := 43) dX3_distance_42 rfl rfl rfl ?_
  refine Go_getRs (pc' := 46) dX3_distance_43 rfl kf_RX3_9 (by decide) (by decide) rfl (S.b 65 rfl rfl) (S.o 65 rfl rfl rfl) (S.r 65 0 rfl rfl rfl) ?_
  refine Go_iload (pc' := 48) dX3_distance_46 rfl rfl ?_
  refine Go_ialoadZ (n := 1600) (k := (40 * (y - v).natAbs + (x - u).natAbs)) (v := (iZ (dz (x - u) (y - v)))) (pc' := 49) dX3_distance_48 rfl (S.b 66 rfl rfl) (S.k 66 rfl rfl rfl) (by omega) (by omega) (by decide) (R.dz (by omega) (by omega)) ?_
  refine Go_goto (tgt := 53) dX3_distance_49 (by decide) ?_
  refine Go_ireturn (ty := .int) dX3_distance_53 rfl rfl ?_
  exact hk
set_option maxRecDepth 20000 in
set_option maxHeartbeats 1000000 in
theorem distM_loop {G : GC} {d mc ms : Nat} {h : HS} {K : Option Value → HS → Prop} {a b X Y D : Int} (hX : -39 ≤ X ∧ X ≤ 39) (hY : -39 ≤ Y ∧ Y ≤ 39) (hD : 0 ≤ D ∧ D ≤ 55) (h1 : D * D ≤ X * X + Y * Y) (h2 : X * X + Y * Y < (D + 1) * (D + 1)) (hk : K (some (.int (iZ D))) h) : ∀ (m : Nat) (r : Int), 0 ≤ r → r + m = D → Go G d mc ms M_X12_distance 23 [.int (iZ a), .int (iZ b), .int (iZ X), .int (iZ Y), .int (iZ r)] [] h K := by
  have xx : 0 ≤ X * X ∧ X * X ≤ 1521 := by
    have e1 := Int.natAbs_mul_self' X
    have e2 : X.natAbs * X.natAbs ≤ 39 * 39 := Nat.mul_le_mul (by omega) (by omega)
    have e3 : ((X.natAbs : Nat) : Int) * X.natAbs = ((X.natAbs * X.natAbs : Nat) : Int) := by push_cast; rfl
    omega
  have yy : 0 ≤ Y * Y ∧ Y * Y ≤ 1521 := by
    have e1 := Int.natAbs_mul_self' Y
    have e2 : Y.natAbs * Y.natAbs ≤ 39 * 39 := Nat.mul_le_mul (by omega) (by omega)
    have e3 : ((Y.natAbs : Nat) : Int) * Y.natAbs = ((Y.natAbs * Y.natAbs : Nat) : Int) := by push_cast; rfl
    omega
  intro m
  induction m with
  | zero =>
    intro r hr hm
    have rr : 0 ≤ (r + 1) * (r + 1) ∧ (r + 1) * (r + 1) ≤ 56 * 56 := ⟨Int.mul_nonneg (by omega) (by omega), Int.mul_le_mul (by omega) (by omega) (by omega) (by omega)⟩
    have hrD : r = D := by omega
    rw [← hrD] at h2
    refine Go_iload (pc' := 25) dX12_distance_23 rfl rfl ?_
    refine Go_iconst (v := iZ 1) (pc' := 26) dX12_distance_25 rfl (by decide) ?_
    refine Go_iaddZ (pc' := 27) dX12_distance_26 rfl ?_
    refine Go_iload (pc' := 29) dX12_distance_27 rfl rfl ?_
    refine Go_iconst (v := iZ 1) (pc' := 30) dX12_distance_29 rfl (by decide) ?_
    refine Go_iaddZ (pc' := 31) dX12_distance_30 rfl ?_
    refine Go_imulZ (pc' := 32) dX12_distance_31 rfl ?_
    refine Go_iload_n (pc' := 33) dX12_distance_32 rfl rfl rfl ?_
    refine Go_iload_n (pc' := 34) dX12_distance_33 rfl rfl rfl ?_
    refine Go_imulZ (pc' := 35) dX12_distance_34 rfl ?_
    refine Go_iload_n (pc' := 36) dX12_distance_35 rfl rfl rfl ?_
    refine Go_iload_n (pc' := 37) dX12_distance_36 rfl rfl rfl ?_
    refine Go_imulZ (pc' := 38) dX12_distance_37 rfl ?_
    refine Go_iaddZ (pc' := 39) dX12_distance_38 rfl ?_
    refine Go_icmp_gtY (tgt := 48) (pc' := 42) dX12_distance_39 (by decide) rfl (by first | exact ⟨i_lo _, i_hi _⟩ | omega) (by first | exact ⟨i_lo _, i_hi _⟩ | omega) (fun c39 => ?_) (fun c39 => by exfalso; omega)
    refine Go_iload (pc' := 50) dX12_distance_48 rfl rfl ?_
    refine Go_ireturn (ty := .int) dX12_distance_50 rfl rfl ?_
    rw [show r = D by omega]; exact hk
  | succ m ih =>
    intro r hr hm
    have rr : 0 ≤ (r + 1) * (r + 1) ∧ (r + 1) * (r + 1) ≤ 56 * 56 := ⟨Int.mul_nonneg (by omega) (by omega), Int.mul_le_mul (by omega) (by omega) (by omega) (by omega)⟩
    have r2 : (r + 1) * (r + 1) ≤ D * D := Int.mul_le_mul (by omega) (by omega) (by omega) (by omega)
    refine Go_iload (pc' := 25) dX12_distance_23 rfl rfl ?_
    refine Go_iconst (v := iZ 1) (pc' := 26) dX12_distance_25 rfl (by decide) ?_
    refine Go_iaddZ (pc' := 27) dX12_distance_26 rfl ?_
    refine Go_iload (pc' := 29) dX12_distance_27 rfl rfl ?_
    refine Go_iconst (v := iZ 1) (pc' := 30) dX12_distance_29 rfl (by decide) ?_
    refine Go_iaddZ (pc' := 31) dX12_distance_30 rfl ?_
    refine Go_imulZ (pc' := 32) dX12_distance_31 rfl ?_
    refine Go_iload_n (pc' := 33) dX12_distance_32 rfl rfl rfl ?_
    refine Go_iload_n (pc' := 34) dX12_distance_33 rfl rfl rfl ?_
    refine Go_imulZ (pc' := 35) dX12_distance_34 rfl ?_
    refine Go_iload_n (pc' := 36) dX12_distance_35 rfl rfl rfl ?_
    refine Go_iload_n (pc' := 37) dX12_distance_36 rfl rfl rfl ?_
    refine Go_imulZ (pc' := 38) dX12_distance_37 rfl ?_
    refine Go_iaddZ (pc' := 39) dX12_distance_38 rfl ?_
    refine Go_icmp_gtY (tgt := 48) (pc' := 42) dX12_distance_39 (by decide) rfl (by first | exact ⟨i_lo _, i_hi _⟩ | omega) (by first | exact ⟨i_lo _, i_hi _⟩ | omega) (fun c39 => by exfalso; omega) (fun c39 => ?_)
    refine Go_iincZ (pc' := 45) (lv' := [.int _, .int _, .int _, .int _, .int _]) dX12_distance_42 rfl rfl (Nat.le_of_ble_eq_true rfl) rfl rfl ?_
    refine Go_goto (tgt := 23) dX12_distance_45 (by decide) ?_
    exact ih (r + 1) (by omega) (by omega)
set_option maxRecDepth 20000 in
set_option maxHeartbeats 1000000 in
theorem s_distM {G : GC} {d mc ms : Nat} {h : HS} {K : Option Value → HS → Prop} {a b : Int} (ha : 0 ≤ a ∧ a < 1600) (hb : 0 ≤ b ∧ b < 1600) (hk : K (some (.int (iZ (dz (a % 40 - b % 40) (a / 40 - b / 40))))) h) : Go G d mc ms M_X12_distance 0 [.int (iZ a), .int (iZ b), un, un, un] [] h K := by
  obtain ⟨z1, z2, z3⟩ := dz_r (X := a % 40 - b % 40) (Y := a / 40 - b / 40) (by omega) (by omega)
  refine Go_iload_n (pc' := 1) dX12_distance_0 rfl rfl rfl ?_
  refine Go_bipush (v := iZ 40) (pc' := 3) dX12_distance_1 rfl (by decide) ?_
  refine Go_iremP (pc' := 4) dX12_distance_3 rfl (by omega) (by omega) ?_
  refine Go_iload_n (pc' := 5) dX12_distance_4 rfl rfl rfl ?_
  refine Go_bipush (v := iZ 40) (pc' := 7) dX12_distance_5 rfl (by decide) ?_
  refine Go_iremP (pc' := 8) dX12_distance_7 rfl (by omega) (by omega) ?_
  refine Go_isubZ (pc' := 9) dX12_distance_8 rfl ?_
  refine Go_istore_n (pc' := 10) (lv' := [.int _, .int _, .int _, un, un]) dX12_distance_9 rfl rfl (Nat.le_of_ble_eq_true rfl) rfl rfl ?_
  refine Go_iload_n (pc' := 11) dX12_distance_10 rfl rfl rfl ?_
  refine Go_bipush (v := iZ 40) (pc' := 13) dX12_distance_11 rfl (by decide) ?_
  refine Go_idivP (pc' := 14) dX12_distance_13 rfl (by omega) (by omega) ?_
  refine Go_iload_n (pc' := 15) dX12_distance_14 rfl rfl rfl ?_
  refine Go_bipush (v := iZ 40) (pc' := 17) dX12_distance_15 rfl (by decide) ?_
  refine Go_idivP (pc' := 18) dX12_distance_17 rfl (by omega) (by omega) ?_
  refine Go_isubZ (pc' := 19) dX12_distance_18 rfl ?_
  refine Go_istore_n (pc' := 20) (lv' := [.int _, .int _, .int _, .int _, un]) dX12_distance_19 rfl rfl (Nat.le_of_ble_eq_true rfl) rfl rfl ?_
  refine Go_iconst (v := iZ 0) (pc' := 21) dX12_distance_20 rfl (by decide) ?_
  refine Go_istore (pc' := 23) (lv' := [.int _, .int _, .int _, .int _, .int _]) dX12_distance_21 rfl (Nat.le_of_ble_eq_true rfl) rfl rfl ?_
  exact distM_loop (by omega) (by omega) z1 z2 z3 hk (dz (a % 40 - b % 40) (a / 40 - b / 40)).toNat 0 (by omega) (by omega)
theorem s_levY {G : GC} {d mc ms : Nat} {h : HS} {K : Option Value → HS → Prop} {v : Int} (hv : 0 ≤ v ∧ v < 2147483648) (hk : K (some (.int (iZ (lv v)))) h) : Go G d mc ms M_X11_levelOf 0 [.int (iZ v), un, un, un] [] h K := by
  rw [show iZ v = nI v.toNat from (congrArg iZ (show v = ((v.toNat : Nat) : Int) by omega)).trans (iZ_nat _)]
  refine s_levelOf (by omega) ?_
  rw [← iZ_nat]; exact hk
theorem s_levMY {G : GC} {d mc ms : Nat} {h : HS} {K : Option Value → HS → Prop} {v : Int} (hv : 0 ≤ v ∧ v < 2147483648) (hk : K (some (.int (iZ (lv v)))) h) : Go G d mc ms M_X12_levelOf 0 [.int (iZ v), un] [] h K := by
  rw [show iZ v = nI v.toNat from (congrArg iZ (show v = ((v.toNat : Nat) : Int) by omega)).trans (iZ_nat _)]
  refine s_levelOfM (by omega) ?_
  rw [← iZ_nat]; exact hk
set_option maxRecDepth 20000 in
set_option maxHeartbeats 1000000 in
theorem s_fading {G : GC} {d mc ms : Nat} {h : HS} {K : Option Value → HS → Prop} {x : Int} (hx : 0 ≤ x ∧ x < 1000) (hk : K (some (.int (iZ (fz x)))) h) : Go G (d + 1) mc ms M_X11_fading 0 [.int (iZ x)] [] h K := by
  have z := lv_r (v := x + 1) (by omega)
  refine Go_iconst (v := iZ 3) (pc' := 1) dX11_fading_0 rfl (by decide) ?_
  refine Go_iload_n (pc' := 2) dX11_fading_1 rfl rfl rfl ?_
  refine Go_iconst (v := iZ 1) (pc' := 3) dX11_fading_2 rfl (by decide) ?_
  refine Go_iaddZ (pc' := 4) dX11_fading_3 rfl ?_
  refine Go_callS_i (pc' := 7) (As := [.int _]) (st := [.int _]) dX11_fading_4 rfl ok_X11_levelOf km_RX11_287 rfl (Nat.le_of_ble_eq_true rfl) rfl rfl rfl (Nat.le_of_ble_eq_true rfl) (Nat.lt_succ_self _) ?_
  refine s_levY (by omega) ?_
  refine ⟨_, rfl, ?_⟩
  refine Go_imulZ (pc' := 8) dX11_fading_7 rfl ?_
  refine Go_iconst (v := iZ 2) (pc' := 9) dX11_fading_8 rfl (by decide) ?_
  refine Go_callS_i (pc' := 12) (As := [.int _, .int _]) (st := []) dX11_fading_9 rfl ok_J9_floorDiv_7cf53 km_RX11_177 rfl (Nat.le_of_ble_eq_true rfl) rfl rfl rfl (Nat.le_of_ble_eq_true rfl) (Nat.lt_succ_self _) ?_
  refine s_fdivY (by omega) (by omega) ?_
  refine ⟨_, rfl, ?_⟩
  refine Go_ireturn (ty := .int) dX11_fading_12 rfl rfl ?_
  exact hk
set_option maxRecDepth 20000 in
set_option maxHeartbeats 1000000 in
theorem s_fades {G : GC} {d mc ms : Nat} {h : HS} {K : Option Value → HS → Prop} {a b : Int} (ha : 0 ≤ a ∧ a < 1600) (hb : 0 ≤ b ∧ b < 1600) (hk : K (some (.int (iZ (fz (dz (a % 40 - b % 40) (a / 40 - b / 40)))))) h) : Go G (d + 1) mc ms M_X12_fades 0 [.int (iZ a), .int (iZ b)] [] h K := by
  have z0 := (dz_r (X := a % 40 - b % 40) (Y := a / 40 - b / 40) (by omega) (by omega)).1
  have z := lv_r (v := dz (a % 40 - b % 40) (a / 40 - b / 40) + 1) (by omega)
  refine Go_iconst (v := iZ 3) (pc' := 1) dX12_fades_0 rfl (by decide) ?_
  refine Go_iload_n (pc' := 2) dX12_fades_1 rfl rfl rfl ?_
  refine Go_iload_n (pc' := 3) dX12_fades_2 rfl rfl rfl ?_
  refine Go_callS_i (pc' := 6) (As := [.int _, .int _]) (st := [.int _]) dX12_fades_3 rfl ok_X12_distance km_RX12_350 rfl (Nat.le_of_ble_eq_true rfl) rfl rfl rfl (Nat.le_of_ble_eq_true rfl) (Nat.lt_succ_self _) ?_
  refine s_distM (by omega) (by omega) ?_
  refine ⟨_, rfl, ?_⟩
  refine Go_iconst (v := iZ 1) (pc' := 7) dX12_fades_6 rfl (by decide) ?_
  refine Go_iaddZ (pc' := 8) dX12_fades_7 rfl ?_
  refine Go_callS_i (pc' := 11) (As := [.int _]) (st := [.int _]) dX12_fades_8 rfl ok_X12_levelOf km_RX12_364 rfl (Nat.le_of_ble_eq_true rfl) rfl rfl rfl (Nat.le_of_ble_eq_true rfl) (Nat.lt_succ_self _) ?_
  refine s_levMY (by omega) ?_
  refine ⟨_, rfl, ?_⟩
  refine Go_imulZ (pc' := 12) dX12_fades_11 rfl ?_
  refine Go_iconst (v := iZ 2) (pc' := 13) dX12_fades_12 rfl (by decide) ?_
  refine Go_idivP (pc' := 14) dX12_fades_13 rfl (by omega) (by omega) ?_
  refine Go_ireturn (ty := .int) dX12_fades_14 rfl rfl ?_
  exact hk
theorem down_eq {a b : Int} (hb : 0 < b) : (if a.tmod b < 0 then a.tdiv b - 1 else a.tdiv b) = a / b := by
  have t := Int.tdiv_eq_ediv (a := a) (b := b)
  have dv : b ∣ a ↔ a.tmod b = 0 := Int.dvd_iff_tmod_eq_zero
  by_cases c : 0 ≤ a
  · rw [if_neg (by have := Int.tmod_nonneg (a := a) b c; omega), t, if_pos (Or.inl c)]; omega
  · have z3 : a.tmod b ≤ 0 := by
      have := Int.tmod_nonneg (a := -a) b (by omega)
      rw [Int.neg_tmod] at this; omega
    by_cases q : a.tmod b = 0
    · rw [if_neg (by omega), t, if_pos (Or.inr (dv.2 q))]; omega
    · rw [if_pos (by omega), t, if_neg (fun w => w.elim c (fun w => q (dv.1 w))), Int.sign_eq_one_of_pos hb]; omega
set_option maxRecDepth 20000 in
set_option maxHeartbeats 1000000 in
theorem s_down {G : GC} {d mc ms : Nat} {h : HS} {K : Option Value → HS → Prop} {a b : Int} (ha : -2147483648 < a ∧ a < 2147483648) (hb : 0 < b ∧ b < 2147483648) (hk : K (some (.int (iZ (a / b)))) h) : Go G d mc ms M_X12_down 0 [.int (iZ a), .int (iZ b), un] [] h K := by
  rw [← down_eq hb.1] at hk
  have w1 := Int.tmod_lt_of_pos a hb.1
  have w2 := Int.lt_tmod_of_pos a hb.1
  refine Go_iload_n (pc' := 1) dX12_down_0 rfl rfl rfl ?_
  refine Go_iload_n (pc' := 2) dX12_down_1 rfl rfl rfl ?_
  refine Go_idivT (pc' := 3) dX12_down_2 rfl (by omega) (by omega) ?_
  refine Go_istore_n (pc' := 4) (lv' := [.int _, .int _, .int _]) dX12_down_3 rfl rfl (Nat.le_of_ble_eq_true rfl) rfl rfl ?_
  refine Go_iload_n (pc' := 5) dX12_down_4 rfl rfl rfl ?_
  refine Go_iload_n (pc' := 6) dX12_down_5 rfl rfl rfl ?_
  refine Go_iremT (pc' := 7) dX12_down_6 rfl (by omega) (by omega) ?_
  refine Go_if_geY (tgt := 16) (pc' := 10) dX12_down_7 (by decide) rfl (by first | exact ⟨i_lo _, i_hi _⟩ | omega) (fun c7 => ?_) (fun c7 => ?_)
  · refine Go_iload_n (pc' := 17) dX12_down_16 rfl rfl rfl ?_
    refine Go_ireturn (ty := .int) dX12_down_17 rfl rfl ?_
    rw [if_neg (by omega)] at hk; exact hk
  · refine Go_iload_n (pc' := 11) dX12_down_10 rfl rfl rfl ?_
    refine Go_iconst (v := iZ 1) (pc' := 12) dX12_down_11 rfl (by decide) ?_
    refine Go_isubZ (pc' := 13) dX12_down_12 rfl ?_
    refine Go_goto (tgt := 17) dX12_down_13 (by decide) ?_
    refine Go_ireturn (ty := .int) dX12_down_17 rfl rfl ?_
    rw [if_pos (by omega)] at hk; exact hk
