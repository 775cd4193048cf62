/-! pair: swing -/
theorem tdiv_iff (N p : Int) : N.tdiv 64 = p ↔ (if 0 < p then 64 * p else 64 * p - 63) ≤ N ∧ N ≤ (if p < 0 then 64 * p else 64 * p + 63) := by
  by_cases h : 0 ≤ N
  · rw [Int.tdiv_eq_ediv_of_nonneg h]
    split <;> split <;> omega
  · have e : N.tdiv 64 = -((-N) / 64) := by
      rw [← Int.tdiv_eq_ediv_of_nonneg (by omega : 0 ≤ -N), Int.neg_tdiv, Int.neg_neg]
    rw [e]
    split <;> split <;> omega
theorem nr_p {W p y L H l m T : Int} (hy : 0 < y) (hl : ∀ N : Int, N.tdiv 64 = p ↔ l + W ≤ N ∧ N ≤ m + W) : (max L (-((-l) / y)) ≤ T ∧ T ≤ min H (m / y)) ↔ (L ≤ T ∧ T ≤ H) ∧ (W + T * y).tdiv 64 = p := by
  rw [hl]
  have h1 : T ≤ m / y ↔ T * y ≤ m := Int.le_ediv_iff_mul_le hy
  have h2 : -T ≤ (-l) / y ↔ -T * y ≤ -l := Int.le_ediv_iff_mul_le hy
  rw [Int.neg_mul] at h2
  generalize T * y = Q at *
  generalize m / y = A at *
  generalize (-l) / y = B at *
  omega
theorem nr_n {W p y L H l m T : Int} (hy : y < 0) (hl : ∀ N : Int, N.tdiv 64 = p ↔ l + W ≤ N ∧ N ≤ m + W) : (max L (-((-(-m)) / (-y))) ≤ T ∧ T ≤ min H ((-l) / (-y))) ↔ (L ≤ T ∧ T ≤ H) ∧ (W + T * y).tdiv 64 = p := by
  rw [hl]
  have h1 : T ≤ (-l) / (-y) ↔ T * (-y) ≤ -l := Int.le_ediv_iff_mul_le (by omega)
  have h2 : -T ≤ (-(-m)) / (-y) ↔ -T * (-y) ≤ -(-m) := Int.le_ediv_iff_mul_le (by omega)
  rw [Int.neg_mul, Int.mul_neg] at h2
  rw [Int.mul_neg] at h1
  generalize T * y = Q at *
  generalize (-l) / (-y) = A at *
  generalize (-(-m)) / (-y) = B at *
  omega
theorem nr_z {W p y L H l m T : Int} (hy : y = 0) (hl : ∀ N : Int, N.tdiv 64 = p ↔ l + W ≤ N ∧ N ≤ m + W) (h0 : l ≤ 0 ∧ 0 ≤ m) : (L ≤ T ∧ T ≤ H) ↔ (L ≤ T ∧ T ≤ H) ∧ (W + T * y).tdiv 64 = p := by
  rw [hl, hy, Int.mul_zero]; omega
theorem nr_e {W p y L H l m T : Int} (hy : y = 0) (hl : ∀ N : Int, N.tdiv 64 = p ↔ l + W ≤ N ∧ N ≤ m + W) (h0 : 0 < l ∨ m < 0) : (L ≤ T ∧ T ≤ L - 1) ↔ (L ≤ T ∧ T ≤ H) ∧ (W + T * y).tdiv 64 = p := by
  rw [hl, hy, Int.mul_zero]; omega
theorem td_p {p W : Int} (hp : 0 < p) (N : Int) : N.tdiv 64 = p ↔ (64 * p - W) + W ≤ N ∧ N ≤ (64 * p + 63 - W) + W := by
  rw [tdiv_iff, if_pos hp, if_neg (by omega)]; omega
theorem td_z {p W : Int} (hp : p = 0) (N : Int) : N.tdiv 64 = p ↔ (64 * p - 63 - W) + W ≤ N ∧ N ≤ (64 * p + 63 - W) + W := by
  rw [tdiv_iff, if_neg (by omega), if_neg (by omega)]; omega
theorem td_n {p W : Int} (hp : p < 0) (N : Int) : N.tdiv 64 = p ↔ (64 * p - 63 - W) + W ≤ N ∧ N ≤ (64 * p - W) + W := by
  rw [tdiv_iff, if_neg (by omega), if_pos hp]; omega
theorem div_b {A y B : Int} (hy : 1 ≤ y) (hA : -B ≤ A ∧ A ≤ B) (hB : 0 ≤ B) : -B ≤ A / y ∧ A / y ≤ B := by
  have h1 : A / y ≤ B ↔ A < (B + 1) * y := by rw [← Int.ediv_lt_iff_lt_mul (by omega)]; omega
  have h2 : -B ≤ A / y ↔ -B * y ≤ A := Int.le_ediv_iff_mul_le (by omega)
  have h3 : B * 1 ≤ B * y := Int.mul_le_mul_of_nonneg_left hy hB
  rw [Int.neg_mul] at h2
  rw [Int.add_mul] at h1
  omega

set_option maxRecDepth 20000 in
set_option maxHeartbeats 4000000 in
theorem s_nar {G : GC} {d mc ms : Nat} {h : HS} {K : Option Value → HS → Prop} {u : Nat → Int32} {p W y L H : Int} (S : Shp h) (e3 : u 3 = iZ L) (e4 : u 4 = iZ H) (hp : -4000 ≤ p ∧ p ≤ 4000) (hW : -130000 ≤ W ∧ W ≤ 130000) (hy : -999 ≤ y ∧ y ≤ 999) (hL : 0 ≤ L ∧ L ≤ 1000000) (hH : -1000000 ≤ H ∧ H ≤ 63) (hLH : L ≤ H) (hk : ∀ (u' : Nat → Int32) (L' H' : Int), u' 0 = u 0 → u' 1 = u 1 → u' 2 = u 2 → u' 3 = iZ L' → u' 4 = iZ H' → (0 ≤ L' ∧ L' ≤ 1000000) → (-1000000 ≤ H' ∧ H' ≤ 63) → (∀ T, 0 ≤ T → T ≤ 63 → ((L' ≤ T ∧ T ≤ H') ↔ (L ≤ T ∧ T ≤ H) ∧ (W + T * y).tdiv 64 = p)) → K none (setR h 68 u')) : Go G (d + 2) mc ms M_X7_narrow 0 [.ref 68, .int (iZ p), .int (iZ W), .int (iZ y), un, un] [] (setR h 68 u) K := by
  refine Go_iload_n (pc' := 1) dX7_narrow_0 rfl rfl rfl ?_
  refine Go_if_leY (tgt := 11) (pc' := 4) dX7_narrow_1 (by decide) rfl (by first | exact ⟨i_lo _, i_hi _⟩ | omega) (fun c1 => ?_) (fun c1 => ?_)
  · refine Go_bipush (v := iZ 64) (pc' := 13) dX7_narrow_11 rfl (by decide) ?_
    refine Go_iload_n (pc' := 14) dX7_narrow_13 rfl rfl rfl ?_
    refine Go_imulZ (pc' := 15) dX7_narrow_14 rfl ?_
    refine Go_bipush (v := iZ 63) (pc' := 17) dX7_narrow_15 rfl (by decide) ?_
    refine Go_isubZ (pc' := 18) dX7_narrow_17 rfl ?_
    refine Go_iload_n (pc' := 19) dX7_narrow_18 rfl rfl rfl ?_
    refine Go_isubZ (pc' := 20) dX7_narrow_19 rfl ?_
    refine Go_istore (pc' := 22) (lv' := [.ref _, .int _, .int _, .int _, .int _, un]) dX7_narrow_20 rfl (Nat.le_of_ble_eq_true rfl) rfl rfl ?_
    refine Go_iload_n (pc' := 23) dX7_narrow_22 rfl rfl rfl ?_
    refine Go_if_geY (tgt := 33) (pc' := 26) dX7_narrow_23 (by decide) rfl (by first | exact ⟨i_lo _, i_hi _⟩ | omega) (fun c23 => ?_) (fun c23 => ?_)
    · refine Go_bipush (v := iZ 64) (pc' := 35) dX7_narrow_33 rfl (by decide) ?_
      refine Go_iload_n (pc' := 36) dX7_narrow_35 rfl rfl rfl ?_
      refine Go_imulZ (pc' := 37) dX7_narrow_36 rfl ?_
      refine Go_bipush (v := iZ 63) (pc' := 39) dX7_narrow_37 rfl (by decide) ?_
      refine Go_iaddZ (pc' := 40) dX7_narrow_39 rfl ?_
      refine Go_iload_n (pc' := 41) dX7_narrow_40 rfl rfl rfl ?_
      refine Go_isubZ (pc' := 42) dX7_narrow_41 rfl ?_
      refine Go_istore (pc' := 44) (lv' := [.ref _, .int _, .int _, .int _, .int _, .int _]) dX7_narrow_42 rfl (Nat.le_of_ble_eq_true rfl) rfl rfl ?_
      refine Go_iload_n (pc' := 45) dX7_narrow_44 rfl rfl rfl ?_
      refine Go_if_leY (tgt := 60) (pc' := 48) dX7_narrow_45 (by decide) rfl (by first | exact ⟨i_lo _, i_hi _⟩ | omega) (fun c45 => ?_) (fun c45 => ?_)
      · refine Go_iload_n (pc' := 61) dX7_narrow_60 rfl rfl rfl ?_
        refine Go_if_geY (tgt := 79) (pc' := 64) dX7_narrow_61 (by decide) rfl (by first | exact ⟨i_lo _, i_hi _⟩ | omega) (fun c61 => ?_) (fun c61 => ?_)
        · refine Go_iload (pc' := 81) dX7_narrow_79 rfl rfl ?_
          refine Go_if_gtY (tgt := 89) (pc' := 84) dX7_narrow_81 (by decide) rfl (by first | exact ⟨i_lo _, i_hi _⟩ | omega) (fun c81 => ?_) (fun c81 => ?_)
          · refine Go_aload_n (pc' := 90) dX7_narrow_89 rfl rfl rfl ?_
            refine Go_aload_n (pc' := 91) dX7_narrow_90 rfl rfl rfl ?_
            refine Go_getIv (v := (iZ L)) (pc' := 94) dX7_narrow_91 rfl kf_RX7_21 (by decide) (by decide) rfl (S.b 68 rfl rfl) (S.o 68 rfl rfl rfl) ((vi_setR h 68 u 3).trans e3) ?_
            refine Go_iconst (v := iZ 1) (pc' := 95) dX7_narrow_94 rfl (by decide) ?_
            refine Go_isubZ (pc' := 96) dX7_narrow_95 rfl ?_
            refine Go_putI (pc' := 99) dX7_narrow_96 rfl kf_RX7_24 (by decide) (by decide) rfl (S.b 68 rfl rfl) (S.o 68 rfl rfl rfl) (Or.inl rfl) rfl rfl ?_
            refine Go_return dX7_narrow_99 rfl ?_
            rw [setR_wI]
            refine hk _ L (L - 1) (by simp [upd]) (by simp [upd]) (by simp [upd]) (by simp [upd, e3]) (by simp [upd, e4]) (by omega) (by omega) (fun T t0 t1 => ?_)
            exact nr_e (by omega) (td_z (by omega)) (by omega)
          · refine Go_iload (pc' := 86) dX7_narrow_84 rfl rfl ?_
            refine Go_if_geY (tgt := 99) (pc' := 89) dX7_narrow_86 (by decide) rfl (by first | exact ⟨i_lo _, i_hi _⟩ | omega) (fun c86 => ?_) (fun c86 => ?_)
            · refine Go_return dX7_narrow_99 rfl ?_
              refine hk _ L H (by simp [upd]) (by simp [upd]) (by simp [upd]) (by simp [upd, e3]) (by simp [upd, e4]) (by omega) (by omega) (fun T t0 t1 => ?_)
              exact nr_z (by omega) (td_z (by omega)) (by omega)
            · refine Go_aload_n (pc' := 90) dX7_narrow_89 rfl rfl rfl ?_
              refine Go_aload_n (pc' := 91) dX7_narrow_90 rfl rfl rfl ?_
              refine Go_getIv (v := (iZ L)) (pc' := 94) dX7_narrow_91 rfl kf_RX7_21 (by decide) (by decide) rfl (S.b 68 rfl rfl) (S.o 68 rfl rfl rfl) ((vi_setR h 68 u 3).trans e3) ?_
              refine Go_iconst (v := iZ 1) (pc' := 95) dX7_narrow_94 rfl (by decide) ?_
              refine Go_isubZ (pc' := 96) dX7_narrow_95 rfl ?_
              refine Go_putI (pc' := 99) dX7_narrow_96 rfl kf_RX7_24 (by decide) (by decide) rfl (S.b 68 rfl rfl) (S.o 68 rfl rfl rfl) (Or.inl rfl) rfl rfl ?_
              refine Go_return dX7_narrow_99 rfl ?_
              rw [setR_wI]
              refine hk _ L (L - 1) (by simp [upd]) (by simp [upd]) (by simp [upd]) (by simp [upd, e3]) (by simp [upd, e4]) (by omega) (by omega) (fun T t0 t1 => ?_)
              exact nr_e (by omega) (td_z (by omega)) (by omega)
        · refine Go_aload_n (pc' := 65) dX7_narrow_64 rfl rfl rfl ?_
          refine Go_iload (pc' := 67) dX7_narrow_65 rfl rfl ?_
          refine Go_inegZ (pc' := 68) dX7_narrow_67 rfl ?_
          refine Go_iload (pc' := 70) dX7_narrow_68 rfl rfl ?_
          refine Go_inegZ (pc' := 71) dX7_narrow_70 rfl ?_
          refine Go_iload_n (pc' := 72) dX7_narrow_71 rfl rfl rfl ?_
          refine Go_inegZ (pc' := 73) dX7_narrow_72 rfl ?_
          refine Go_callV_v (pc' := 76) (As := [.int _, .int _, .int _]) (st := []) dX7_narrow_73 rfl ok_X7_keepBetween km_RX7_44 (S.o 68 rfl rfl rfl) (S.b 68 rfl rfl) ⟨_, _, rfl⟩ rfl (Nat.le_of_ble_eq_true rfl) rfl rfl rfl (Nat.le_of_ble_eq_true rfl) (Nat.lt_succ_self _) ?_
          refine Go_iload_n (pc' := 1) dX7_keepBetween_0 rfl rfl rfl ?_
          refine Go_if_leY (tgt := 38) (pc' := 4) dX7_keepBetween_1 (by decide) rfl (by first | exact ⟨i_lo _, i_hi _⟩ | omega) (fun z1 => by exfalso; omega) (fun z1 => ?_)
          refine Go_aload_n (pc' := 5) dX7_keepBetween_4 rfl rfl rfl ?_
          refine Go_aload_n (pc' := 6) dX7_keepBetween_5 rfl rfl rfl ?_
          refine Go_getIv (v := (iZ L)) (pc' := 9) dX7_keepBetween_6 rfl kf_RX7_21 (by decide) (by decide) rfl (S.b 68 rfl rfl) (S.o 68 rfl rfl rfl) ((vi_setR h 68 u 3).trans e3) ?_
          refine Go_iload_n (pc' := 10) dX7_keepBetween_9 rfl rfl rfl ?_
          refine Go_inegZ (pc' := 11) dX7_keepBetween_10 rfl ?_
          refine Go_iload_n (pc' := 12) dX7_keepBetween_11 rfl rfl rfl ?_
          refine Go_callS_i (pc' := 15) (As := [.int _, .int _]) (st := [.int _, .ref _]) dX7_keepBetween_12 rfl ok_J9_floorDiv_7cf53 km_RX7_47 rfl (Nat.le_of_ble_eq_true rfl) rfl rfl rfl (Nat.le_of_ble_eq_true rfl) (Nat.lt_succ_self _) ?_
          refine s_fdivY (by omega) (by omega) ?_
          have bx12 := div_b (A := (-(-(((64 * p) + 63) - W)))) (y := (-y)) (B := 1000000) (by omega) (by omega) (by omega)
          refine ⟨_, rfl, ?_⟩
          refine Go_inegZ (pc' := 16) dX7_keepBetween_15 rfl ?_
          refine Go_callS_i (pc' := 19) (As := [.int _, .int _]) (st := [.ref _]) dX7_keepBetween_16 rfl ok_J9_max_7cf53 km_RX7_53 rfl (Nat.le_of_ble_eq_true rfl) rfl rfl rfl (Nat.le_of_ble_eq_true rfl) (Nat.lt_succ_self _) ?_
          refine s_maxY (by first | exact ⟨i_lo _, i_hi _⟩ | omega) (by first | exact ⟨i_lo _, i_hi _⟩ | omega) ?_
          refine ⟨_, rfl, ?_⟩
          refine Go_putI (pc' := 22) dX7_keepBetween_19 rfl kf_RX7_21 (by decide) (by decide) rfl (S.b 68 rfl rfl) (S.o 68 rfl rfl rfl) (Or.inl rfl) rfl rfl ?_
          refine Go_aload_n (pc' := 23) dX7_keepBetween_22 rfl rfl rfl ?_
          refine Go_aload_n (pc' := 24) dX7_keepBetween_23 rfl rfl rfl ?_
          refine Go_getIv (v := (iZ H)) (pc' := 27) dX7_keepBetween_24 rfl kf_RX7_24 (by decide) (by decide) rfl (S.b 68 rfl rfl) (S.o 68 rfl rfl rfl) ((vi_skip (Or.inr (by decide))).trans ((vi_setR h 68 u 4).trans e4)) ?_
          refine Go_iload_n (pc' := 28) dX7_keepBetween_27 rfl rfl rfl ?_
          refine Go_iload_n (pc' := 29) dX7_keepBetween_28 rfl rfl rfl ?_
          refine Go_callS_i (pc' := 32) (As := [.int _, .int _]) (st := [.int _, .ref _]) dX7_keepBetween_29 rfl ok_J9_floorDiv_7cf53 km_RX7_47 rfl (Nat.le_of_ble_eq_true rfl) rfl rfl rfl (Nat.le_of_ble_eq_true rfl) (Nat.lt_succ_self _) ?_
          refine s_fdivY (by omega) (by omega) ?_
          have bx29 := div_b (A := (-(((64 * p) - 63) - W))) (y := (-y)) (B := 1000000) (by omega) (by omega) (by omega)
          refine ⟨_, rfl, ?_⟩
          refine Go_callS_i (pc' := 35) (As := [.int _, .int _]) (st := [.ref _]) dX7_keepBetween_32 rfl ok_J9_min_7cf53 km_RX7_56 rfl (Nat.le_of_ble_eq_true rfl) rfl rfl rfl (Nat.le_of_ble_eq_true rfl) (Nat.lt_succ_self _) ?_
          refine s_minY (by first | exact ⟨i_lo _, i_hi _⟩ | omega) (by first | exact ⟨i_lo _, i_hi _⟩ | omega) ?_
          refine ⟨_, rfl, ?_⟩
          refine Go_putI (pc' := 38) dX7_keepBetween_35 rfl kf_RX7_24 (by decide) (by decide) rfl (S.b 68 rfl rfl) (S.o 68 rfl rfl rfl) (Or.inl rfl) rfl rfl ?_
          refine Go_return dX7_keepBetween_38 rfl ?_
          refine ⟨rfl, ?_⟩
          refine Go_goto (tgt := 99) dX7_narrow_76 (by decide) ?_
          refine Go_return dX7_narrow_99 rfl ?_
          have b0 := div_b (A := (-(-(((64 * p) + 63) - W)))) (y := (-y)) (B := 1000000) (by omega) (by omega) (by omega)
          have b1 := div_b (A := (-(((64 * p) - 63) - W))) (y := (-y)) (B := 1000000) (by omega) (by omega) (by omega)
          rw [setR_wI, setR_wI]
          refine hk _ (max L (-((-(-(((64 * p) + 63) - W))) / (-y)))) (min H ((-(((64 * p) - 63) - W)) / (-y))) (by simp [upd]) (by simp [upd]) (by simp [upd]) (by simp [upd, e3]) (by simp [upd, e4]) (by omega) (by omega) (fun T t0 t1 => ?_)
          exact nr_n (by omega) (td_z (by omega))
      · refine Go_aload_n (pc' := 49) dX7_narrow_48 rfl rfl rfl ?_
        refine Go_iload (pc' := 51) dX7_narrow_49 rfl rfl ?_
        refine Go_iload (pc' := 53) dX7_narrow_51 rfl rfl ?_
        refine Go_iload_n (pc' := 54) dX7_narrow_53 rfl rfl rfl ?_
        refine Go_callV_v (pc' := 57) (As := [.int _, .int _, .int _]) (st := []) dX7_narrow_54 rfl ok_X7_keepBetween km_RX7_44 (S.o 68 rfl rfl rfl) (S.b 68 rfl rfl) ⟨_, _, rfl⟩ rfl (Nat.le_of_ble_eq_true rfl) rfl rfl rfl (Nat.le_of_ble_eq_true rfl) (Nat.lt_succ_self _) ?_
        refine Go_iload_n (pc' := 1) dX7_keepBetween_0 rfl rfl rfl ?_
        refine Go_if_leY (tgt := 38) (pc' := 4) dX7_keepBetween_1 (by decide) rfl (by first | exact ⟨i_lo _, i_hi _⟩ | omega) (fun z1 => by exfalso; omega) (fun z1 => ?_)
        refine Go_aload_n (pc' := 5) dX7_keepBetween_4 rfl rfl rfl ?_
        refine Go_aload_n (pc' := 6) dX7_keepBetween_5 rfl rfl rfl ?_
        refine Go_getIv (v := (iZ L)) (pc' := 9) dX7_keepBetween_6 rfl kf_RX7_21 (by decide) (by decide) rfl (S.b 68 rfl rfl) (S.o 68 rfl rfl rfl) ((vi_setR h 68 u 3).trans e3) ?_
        refine Go_iload_n (pc' := 10) dX7_keepBetween_9 rfl rfl rfl ?_
        refine Go_inegZ (pc' := 11) dX7_keepBetween_10 rfl ?_
        refine Go_iload_n (pc' := 12) dX7_keepBetween_11 rfl rfl rfl ?_
        refine Go_callS_i (pc' := 15) (As := [.int _, .int _]) (st := [.int _, .ref _]) dX7_keepBetween_12 rfl ok_J9_floorDiv_7cf53 km_RX7_47 rfl (Nat.le_of_ble_eq_true rfl) rfl rfl rfl (Nat.le_of_ble_eq_true rfl) (Nat.lt_succ_self _) ?_
        refine s_fdivY (by omega) (by omega) ?_
        have bx12 := div_b (A := (-(((64 * p) - 63) - W))) (y := y) (B := 1000000) (by omega) (by omega) (by omega)
        refine ⟨_, rfl, ?_⟩
        refine Go_inegZ (pc' := 16) dX7_keepBetween_15 rfl ?_
        refine Go_callS_i (pc' := 19) (As := [.int _, .int _]) (st := [.ref _]) dX7_keepBetween_16 rfl ok_J9_max_7cf53 km_RX7_53 rfl (Nat.le_of_ble_eq_true rfl) rfl rfl rfl (Nat.le_of_ble_eq_true rfl) (Nat.lt_succ_self _) ?_
        refine s_maxY (by first | exact ⟨i_lo _, i_hi _⟩ | omega) (by first | exact ⟨i_lo _, i_hi _⟩ | omega) ?_
        refine ⟨_, rfl, ?_⟩
        refine Go_putI (pc' := 22) dX7_keepBetween_19 rfl kf_RX7_21 (by decide) (by decide) rfl (S.b 68 rfl rfl) (S.o 68 rfl rfl rfl) (Or.inl rfl) rfl rfl ?_
        refine Go_aload_n (pc' := 23) dX7_keepBetween_22 rfl rfl rfl ?_
        refine Go_aload_n (pc' := 24) dX7_keepBetween_23 rfl rfl rfl ?_
        refine Go_getIv (v := (iZ H)) (pc' := 27) dX7_keepBetween_24 rfl kf_RX7_24 (by decide) (by decide) rfl (S.b 68 rfl rfl) (S.o 68 rfl rfl rfl) ((vi_skip (Or.inr (by decide))).trans ((vi_setR h 68 u 4).trans e4)) ?_
        refine Go_iload_n (pc' := 28) dX7_keepBetween_27 rfl rfl rfl ?_
        refine Go_iload_n (pc' := 29) dX7_keepBetween_28 rfl rfl rfl ?_
        refine Go_callS_i (pc' := 32) (As := [.int _, .int _]) (st := [.int _, .ref _]) dX7_keepBetween_29 rfl ok_J9_floorDiv_7cf53 km_RX7_47 rfl (Nat.le_of_ble_eq_true rfl) rfl rfl rfl (Nat.le_of_ble_eq_true rfl) (Nat.lt_succ_self _) ?_
        refine s_fdivY (by omega) (by omega) ?_
        have bx29 := div_b (A := (((64 * p) + 63) - W)) (y := y) (B := 1000000) (by omega) (by omega) (by omega)
        refine ⟨_, rfl, ?_⟩
        refine Go_callS_i (pc' := 35) (As := [.int _, .int _]) (st := [.ref _]) dX7_keepBetween_32 rfl ok_J9_min_7cf53 km_RX7_56 rfl (Nat.le_of_ble_eq_true rfl) rfl rfl rfl (Nat.le_of_ble_eq_true rfl) (Nat.lt_succ_self _) ?_
        refine s_minY (by first | exact ⟨i_lo _, i_hi _⟩ | omega) (by first | exact ⟨i_lo _, i_hi _⟩ | omega) ?_
        refine ⟨_, rfl, ?_⟩
        refine Go_putI (pc' := 38) dX7_keepBetween_35 rfl kf_RX7_24 (by decide) (by decide) rfl (S.b 68 rfl rfl) (S.o 68 rfl rfl rfl) (Or.inl rfl) rfl rfl ?_
        refine Go_return dX7_keepBetween_38 rfl ?_
        refine ⟨rfl, ?_⟩
        refine Go_goto (tgt := 99) dX7_narrow_57 (by decide) ?_
        refine Go_return dX7_narrow_99 rfl ?_
        have b0 := div_b (A := (-(((64 * p) - 63) - W))) (y := y) (B := 1000000) (by omega) (by omega) (by omega)
        have b1 := div_b (A := (((64 * p) + 63) - W)) (y := y) (B := 1000000) (by omega) (by omega) (by omega)
        rw [setR_wI, setR_wI]
        refine hk _ (max L (-((-(((64 * p) - 63) - W)) / y))) (min H ((((64 * p) + 63) - W) / y)) (by simp [upd]) (by simp [upd]) (by simp [upd]) (by simp [upd, e3]) (by simp [upd, e4]) (by omega) (by omega) (fun T t0 t1 => ?_)
        exact nr_p (by omega) (td_z (by omega))
    · refine Go_bipush (v := iZ 64) (pc' := 28) dX7_narrow_26 rfl (by decide) ?_
      refine Go_iload_n (pc' := 29) dX7_narrow_28 rfl rfl rfl ?_
      refine Go_imulZ (pc' := 30) dX7_narrow_29 rfl ?_
      refine Go_goto (tgt := 40) dX7_narrow_30 (by decide) ?_
      refine Go_iload_n (pc' := 41) dX7_narrow_40 rfl rfl rfl ?_
      refine Go_isubZ (pc' := 42) dX7_narrow_41 rfl ?_
      refine Go_istore (pc' := 44) (lv' := [.ref _, .int _, .int _, .int _, .int _, .int _]) dX7_narrow_42 rfl (Nat.le_of_ble_eq_true rfl) rfl rfl ?_
      refine Go_iload_n (pc' := 45) dX7_narrow_44 rfl rfl rfl ?_
      refine Go_if_leY (tgt := 60) (pc' := 48) dX7_narrow_45 (by decide) rfl (by first | exact ⟨i_lo _, i_hi _⟩ | omega) (fun c45 => ?_) (fun c45 => ?_)
      · refine Go_iload_n (pc' := 61) dX7_narrow_60 rfl rfl rfl ?_
        refine Go_if_geY (tgt := 79) (pc' := 64) dX7_narrow_61 (by decide) rfl (by first | exact ⟨i_lo _, i_hi _⟩ | omega) (fun c61 => ?_) (fun c61 => ?_)
        · refine Go_iload (pc' := 81) dX7_narrow_79 rfl rfl ?_
          refine Go_if_gtY (tgt := 89) (pc' := 84) dX7_narrow_81 (by decide) rfl (by first | exact ⟨i_lo _, i_hi _⟩ | omega) (fun c81 => ?_) (fun c81 => ?_)
          · refine Go_aload_n (pc' := 90) dX7_narrow_89 rfl rfl rfl ?_
            refine Go_aload_n (pc' := 91) dX7_narrow_90 rfl rfl rfl ?_
            refine Go_getIv (v := (iZ L)) (pc' := 94) dX7_narrow_91 rfl kf_RX7_21 (by decide) (by decide) rfl (S.b 68 rfl rfl) (S.o 68 rfl rfl rfl) ((vi_setR h 68 u 3).trans e3) ?_
            refine Go_iconst (v := iZ 1) (pc' := 95) dX7_narrow_94 rfl (by decide) ?_
            refine Go_isubZ (pc' := 96) dX7_narrow_95 rfl ?_
            refine Go_putI (pc' := 99) dX7_narrow_96 rfl kf_RX7_24 (by decide) (by decide) rfl (S.b 68 rfl rfl) (S.o 68 rfl rfl rfl) (Or.inl rfl) rfl rfl ?_
            refine Go_return dX7_narrow_99 rfl ?_
            rw [setR_wI]
            refine hk _ L (L - 1) (by simp [upd]) (by simp [upd]) (by simp [upd]) (by simp [upd, e3]) (by simp [upd, e4]) (by omega) (by omega) (fun T t0 t1 => ?_)
            exact nr_e (by omega) (td_n (by omega)) (by omega)
          · refine Go_iload (pc' := 86) dX7_narrow_84 rfl rfl ?_
            refine Go_if_geY (tgt := 99) (pc' := 89) dX7_narrow_86 (by decide) rfl (by first | exact ⟨i_lo _, i_hi _⟩ | omega) (fun c86 => ?_) (fun c86 => ?_)
            · refine Go_return dX7_narrow_99 rfl ?_
              refine hk _ L H (by simp [upd]) (by simp [upd]) (by simp [upd]) (by simp [upd, e3]) (by simp [upd, e4]) (by omega) (by omega) (fun T t0 t1 => ?_)
              exact nr_z (by omega) (td_n (by omega)) (by omega)
            · refine Go_aload_n (pc' := 90) dX7_narrow_89 rfl rfl rfl ?_
              refine Go_aload_n (pc' := 91) dX7_narrow_90 rfl rfl rfl ?_
              refine Go_getIv (v := (iZ L)) (pc' := 94) dX7_narrow_91 rfl kf_RX7_21 (by decide) (by decide) rfl (S.b 68 rfl rfl) (S.o 68 rfl rfl rfl) ((vi_setR h 68 u 3).trans e3) ?_
              refine Go_iconst (v := iZ 1) (pc' := 95) dX7_narrow_94 rfl (by decide) ?_
              refine Go_isubZ (pc' := 96) dX7_narrow_95 rfl ?_
              refine Go_putI (pc' := 99) dX7_narrow_96 rfl kf_RX7_24 (by decide) (by decide) rfl (S.b 68 rfl rfl) (S.o 68 rfl rfl rfl) (Or.inl rfl) rfl rfl ?_
              refine Go_return dX7_narrow_99 rfl ?_
              rw [setR_wI]
              refine hk _ L (L - 1) (by simp [upd]) (by simp [upd]) (by simp [upd]) (by simp [upd, e3]) (by simp [upd, e4]) (by omega) (by omega) (fun T t0 t1 => ?_)
              exact nr_e (by omega) (td_n (by omega)) (by omega)
        · refine Go_aload_n (pc' := 65) dX7_narrow_64 rfl rfl rfl ?_
          refine Go_iload (pc' := 67) dX7_narrow_65 rfl rfl ?_
          refine Go_inegZ (pc' := 68) dX7_narrow_67 rfl ?_
          refine Go_iload (pc' := 70) dX7_narrow_68 rfl rfl ?_
          refine Go_inegZ (pc' := 71) dX7_narrow_70 rfl ?_
          refine Go_iload_n (pc' := 72) dX7_narrow_71 rfl rfl rfl ?_
          refine Go_inegZ (pc' := 73) dX7_narrow_72 rfl ?_
          refine Go_callV_v (pc' := 76) (As := [.int _, .int _, .int _]) (st := []) dX7_narrow_73 rfl ok_X7_keepBetween km_RX7_44 (S.o 68 rfl rfl rfl) (S.b 68 rfl rfl) ⟨_, _, rfl⟩ rfl (Nat.le_of_ble_eq_true rfl) rfl rfl rfl (Nat.le_of_ble_eq_true rfl) (Nat.lt_succ_self _) ?_
          refine Go_iload_n (pc' := 1) dX7_keepBetween_0 rfl rfl rfl ?_
          refine Go_if_leY (tgt := 38) (pc' := 4) dX7_keepBetween_1 (by decide) rfl (by first | exact ⟨i_lo _, i_hi _⟩ | omega) (fun z1 => by exfalso; omega) (fun z1 => ?_)
          refine Go_aload_n (pc' := 5) dX7_keepBetween_4 rfl rfl rfl ?_
          refine Go_aload_n (pc' := 6) dX7_keepBetween_5 rfl rfl rfl ?_
          refine Go_getIv (v := (iZ L)) (pc' := 9) dX7_keepBetween_6 rfl kf_RX7_21 (by decide) (by decide) rfl (S.b 68 rfl rfl) (S.o 68 rfl rfl rfl) ((vi_setR h 68 u 3).trans e3) ?_
          refine Go_iload_n (pc' := 10) dX7_keepBetween_9 rfl rfl rfl ?_
          refine Go_inegZ (pc' := 11) dX7_keepBetween_10 rfl ?_
          refine Go_iload_n (pc' := 12) dX7_keepBetween_11 rfl rfl rfl ?_
          refine Go_callS_i (pc' := 15) (As := [.int _, .int _]) (st := [.int _, .ref _]) dX7_keepBetween_12 rfl ok_J9_floorDiv_7cf53 km_RX7_47 rfl (Nat.le_of_ble_eq_true rfl) rfl rfl rfl (Nat.le_of_ble_eq_true rfl) (Nat.lt_succ_self _) ?_
          refine s_fdivY (by omega) (by omega) ?_
          have bx12 := div_b (A := (-(-((64 * p) - W)))) (y := (-y)) (B := 1000000) (by omega) (by omega) (by omega)
          refine ⟨_, rfl, ?_⟩
          refine Go_inegZ (pc' := 16) dX7_keepBetween_15 rfl ?_
          refine Go_callS_i (pc' := 19) (As := [.int _, .int _]) (st := [.ref _]) dX7_keepBetween_16 rfl ok_J9_max_7cf53 km_RX7_53 rfl (Nat.le_of_ble_eq_true rfl) rfl rfl rfl (Nat.le_of_ble_eq_true rfl) (Nat.lt_succ_self _) ?_
          refine s_maxY (by first | exact ⟨i_lo _, i_hi _⟩ | omega) (by first | exact ⟨i_lo _, i_hi _⟩ | omega) ?_
          refine ⟨_, rfl, ?_⟩
          refine Go_putI (pc' := 22) dX7_keepBetween_19 rfl kf_RX7_21 (by decide) (by decide) rfl (S.b 68 rfl rfl) (S.o 68 rfl rfl rfl) (Or.inl rfl) rfl rfl ?_
          refine Go_aload_n (pc' := 23) dX7_keepBetween_22 rfl rfl rfl ?_
          refine Go_aload_n (pc' := 24) dX7_keepBetween_23 rfl rfl rfl ?_
          refine Go_getIv (v := (iZ H)) (pc' := 27) dX7_keepBetween_24 rfl kf_RX7_24 (by decide) (by decide) rfl (S.b 68 rfl rfl) (S.o 68 rfl rfl rfl) ((vi_skip (Or.inr (by decide))).trans ((vi_setR h 68 u 4).trans e4)) ?_
          refine Go_iload_n (pc' := 28) dX7_keepBetween_27 rfl rfl rfl ?_
          refine Go_iload_n (pc' := 29) dX7_keepBetween_28 rfl rfl rfl ?_
          refine Go_callS_i (pc' := 32) (As := [.int _, .int _]) (st := [.int _, .ref _]) dX7_keepBetween_29 rfl ok_J9_floorDiv_7cf53 km_RX7_47 rfl (Nat.le_of_ble_eq_true rfl) rfl rfl rfl (Nat.le_of_ble_eq_true rfl) (Nat.lt_succ_self _) ?_
          refine s_fdivY (by omega) (by omega) ?_
          have bx29 := div_b (A := (-(((64 * p) - 63) - W))) (y := (-y)) (B := 1000000) (by omega) (by omega) (by omega)
          refine ⟨_, rfl, ?_⟩
          refine Go_callS_i (pc' := 35) (As := [.int _, .int _]) (st := [.ref _]) dX7_keepBetween_32 rfl ok_J9_min_7cf53 km_RX7_56 rfl (Nat.le_of_ble_eq_true rfl) rfl rfl rfl (Nat.le_of_ble_eq_true rfl) (Nat.lt_succ_self _) ?_
          refine s_minY (by first | exact ⟨i_lo _, i_hi _⟩ | omega) (by first | exact ⟨i_lo _, i_hi _⟩ | omega) ?_
          refine ⟨_, rfl, ?_⟩
          refine Go_putI (pc' := 38) dX7_keepBetween_35 rfl kf_RX7_24 (by decide) (by decide) rfl (S.b 68 rfl rfl) (S.o 68 rfl rfl rfl) (Or.inl rfl) rfl rfl ?_
          refine Go_return dX7_keepBetween_38 rfl ?_
          refine ⟨rfl, ?_⟩
          refine Go_goto (tgt := 99) dX7_narrow_76 (by decide) ?_
          refine Go_return dX7_narrow_99 rfl ?_
          have b0 := div_b (A := (-(-((64 * p) - W)))) (y := (-y)) (B := 1000000) (by omega) (by omega) (by omega)
          have b1 := div_b (A := (-(((64 * p) - 63) - W))) (y := (-y)) (B := 1000000) (by omega) (by omega) (by omega)
          rw [setR_wI, setR_wI]
          refine hk _ (max L (-((-(-((64 * p) - W))) / (-y)))) (min H ((-(((64 * p) - 63) - W)) / (-y))) (by simp [upd]) (by simp [upd]) (by simp [upd]) (by simp [upd, e3]) (by simp [upd, e4]) (by omega) (by omega) (fun T t0 t1 => ?_)
          exact nr_n (by omega) (td_n (by omega))
      · refine Go_aload_n (pc' := 49) dX7_narrow_48 rfl rfl rfl ?_
        refine Go_iload (pc' := 51) dX7_narrow_49 rfl rfl ?_
        refine Go_iload (pc' := 53) dX7_narrow_51 rfl rfl ?_
        refine Go_iload_n (pc' := 54) dX7_narrow_53 rfl rfl rfl ?_
        refine Go_callV_v (pc' := 57) (As := [.int _, .int _, .int _]) (st := []) dX7_narrow_54 rfl ok_X7_keepBetween km_RX7_44 (S.o 68 rfl rfl rfl) (S.b 68 rfl rfl) ⟨_, _, rfl⟩ rfl (Nat.le_of_ble_eq_true rfl) rfl rfl rfl (Nat.le_of_ble_eq_true rfl) (Nat.lt_succ_self _) ?_
        refine Go_iload_n (pc' := 1) dX7_keepBetween_0 rfl rfl rfl ?_
        refine Go_if_leY (tgt := 38) (pc' := 4) dX7_keepBetween_1 (by decide) rfl (by first | exact ⟨i_lo _, i_hi _⟩ | omega) (fun z1 => by exfalso; omega) (fun z1 => ?_)
        refine Go_aload_n (pc' := 5) dX7_keepBetween_4 rfl rfl rfl ?_
        refine Go_aload_n (pc' := 6) dX7_keepBetween_5 rfl rfl rfl ?_
        refine Go_getIv (v := (iZ L)) (pc' := 9) dX7_keepBetween_6 rfl kf_RX7_21 (by decide) (by decide) rfl (S.b 68 rfl rfl) (S.o 68 rfl rfl rfl) ((vi_setR h 68 u 3).trans e3) ?_
        refine Go_iload_n (pc' := 10) dX7_keepBetween_9 rfl rfl rfl ?_
        refine Go_inegZ (pc' := 11) dX7_keepBetween_10 rfl ?_
        refine Go_iload_n (pc' := 12) dX7_keepBetween_11 rfl rfl rfl ?_
        refine Go_callS_i (pc' := 15) (As := [.int _, .int _]) (st := [.int _, .ref _]) dX7_keepBetween_12 rfl ok_J9_floorDiv_7cf53 km_RX7_47 rfl (Nat.le_of_ble_eq_true rfl) rfl rfl rfl (Nat.le_of_ble_eq_true rfl) (Nat.lt_succ_self _) ?_
        refine s_fdivY (by omega) (by omega) ?_
        have bx12 := div_b (A := (-(((64 * p) - 63) - W))) (y := y) (B := 1000000) (by omega) (by omega) (by omega)
        refine ⟨_, rfl, ?_⟩
        refine Go_inegZ (pc' := 16) dX7_keepBetween_15 rfl ?_
        refine Go_callS_i (pc' := 19) (As := [.int _, .int _]) (st := [.ref _]) dX7_keepBetween_16 rfl ok_J9_max_7cf53 km_RX7_53 rfl (Nat.le_of_ble_eq_true rfl) rfl rfl rfl (Nat.le_of_ble_eq_true rfl) (Nat.lt_succ_self _) ?_
        refine s_maxY (by first | exact ⟨i_lo _, i_hi _⟩ | omega) (by first | exact ⟨i_lo _, i_hi _⟩ | omega) ?_
        refine ⟨_, rfl, ?_⟩
        refine Go_putI (pc' := 22) dX7_keepBetween_19 rfl kf_RX7_21 (by decide) (by decide) rfl (S.b 68 rfl rfl) (S.o 68 rfl rfl rfl) (Or.inl rfl) rfl rfl ?_
        refine Go_aload_n (pc' := 23) dX7_keepBetween_22 rfl rfl rfl ?_
        refine Go_aload_n (pc' := 24) dX7_keepBetween_23 rfl rfl rfl ?_
        refine Go_getIv (v := (iZ H)) (pc' := 27) dX7_keepBetween_24 rfl kf_RX7_24 (by decide) (by decide) rfl (S.b 68 rfl rfl) (S.o 68 rfl rfl rfl) ((vi_skip (Or.inr (by decide))).trans ((vi_setR h 68 u 4).trans e4)) ?_
        refine Go_iload_n (pc' := 28) dX7_keepBetween_27 rfl rfl rfl ?_
        refine Go_iload_n (pc' := 29) dX7_keepBetween_28 rfl rfl rfl ?_
        refine Go_callS_i (pc' := 32) (As := [.int _, .int _]) (st := [.int _, .ref _]) dX7_keepBetween_29 rfl ok_J9_floorDiv_7cf53 km_RX7_47 rfl (Nat.le_of_ble_eq_true rfl) rfl rfl rfl (Nat.le_of_ble_eq_true rfl) (Nat.lt_succ_self _) ?_
        refine s_fdivY (by omega) (by omega) ?_
        have bx29 := div_b (A := ((64 * p) - W)) (y := y) (B := 1000000) (by omega) (by omega) (by omega)
        refine ⟨_, rfl, ?_⟩
        refine Go_callS_i (pc' := 35) (As := [.int _, .int _]) (st := [.ref _]) dX7_keepBetween_32 rfl ok_J9_min_7cf53 km_RX7_56 rfl (Nat.le_of_ble_eq_true rfl) rfl rfl rfl (Nat.le_of_ble_eq_true rfl) (Nat.lt_succ_self _) ?_
        refine s_minY (by first | exact ⟨i_lo _, i_hi _⟩ | omega) (by first | exact ⟨i_lo _, i_hi _⟩ | omega) ?_
        refine ⟨_, rfl, ?_⟩
        refine Go_putI (pc' := 38) dX7_keepBetween_35 rfl kf_RX7_24 (by decide) (by decide) rfl (S.b 68 rfl rfl) (S.o 68 rfl rfl rfl) (Or.inl rfl) rfl rfl ?_
        refine Go_return dX7_keepBetween_38 rfl ?_
        refine ⟨rfl, ?_⟩
        refine Go_goto (tgt := 99) dX7_narrow_57 (by decide) ?_
        refine Go_return dX7_narrow_99 rfl ?_
        have b0 := div_b (A := (-(((64 * p) - 63) - W))) (y := y) (B := 1000000) (by omega) (by omega) (by omega)
        have b1 := div_b (A := ((64 * p) - W)) (y := y) (B := 1000000) (by omega) (by omega) (by omega)
        rw [setR_wI, setR_wI]
        refine hk _ (max L (-((-(((64 * p) - 63) - W)) / y))) (min H (((64 * p) - W) / y)) (by simp [upd]) (by simp [upd]) (by simp [upd]) (by simp [upd, e3]) (by simp [upd, e4]) (by omega) (by omega) (fun T t0 t1 => ?_)
        exact nr_p (by omega) (td_n (by omega))
  · refine Go_bipush (v := iZ 64) (pc' := 6) dX7_narrow_4 rfl (by decide) ?_
    refine Go_iload_n (pc' := 7) dX7_narrow_6 rfl rfl rfl ?_
    refine Go_imulZ (pc' := 8) dX7_narrow_7 rfl ?_
    refine Go_goto (tgt := 18) dX7_narrow_8 (by decide) ?_
    refine Go_iload_n (pc' := 19) dX7_narrow_18 rfl rfl rfl ?_
    refine Go_isubZ (pc' := 20) dX7_narrow_19 rfl ?_
    refine Go_istore (pc' := 22) (lv' := [.ref _, .int _, .int _, .int _, .int _, un]) dX7_narrow_20 rfl (Nat.le_of_ble_eq_true rfl) rfl rfl ?_
    refine Go_iload_n (pc' := 23) dX7_narrow_22 rfl rfl rfl ?_
    refine Go_if_geY (tgt := 33) (pc' := 26) dX7_narrow_23 (by decide) rfl (by first | exact ⟨i_lo _, i_hi _⟩ | omega) (fun c23 => ?_) (fun c23 => by exfalso; omega)
    refine Go_bipush (v := iZ 64) (pc' := 35) dX7_narrow_33 rfl (by decide) ?_
    refine Go_iload_n (pc' := 36) dX7_narrow_35 rfl rfl rfl ?_
    refine Go_imulZ (pc' := 37) dX7_narrow_36 rfl ?_
    refine Go_bipush (v := iZ 63) (pc' := 39) dX7_narrow_37 rfl (by decide) ?_
    refine Go_iaddZ (pc' := 40) dX7_narrow_39 rfl ?_
    refine Go_iload_n (pc' := 41) dX7_narrow_40 rfl rfl rfl ?_
    refine Go_isubZ (pc' := 42) dX7_narrow_41 rfl ?_
    refine Go_istore (pc' := 44) (lv' := [.ref _, .int _, .int _, .int _, .int _, .int _]) dX7_narrow_42 rfl (Nat.le_of_ble_eq_true rfl) rfl rfl ?_
    refine Go_iload_n (pc' := 45) dX7_narrow_44 rfl rfl rfl ?_
    refine Go_if_leY (tgt := 60) (pc' := 48) dX7_narrow_45 (by decide) rfl (by first | exact ⟨i_lo _, i_hi _⟩ | omega) (fun c45 => ?_) (fun c45 => ?_)
    · refine Go_iload_n (pc' := 61) dX7_narrow_60 rfl rfl rfl ?_
      refine Go_if_geY (tgt := 79) (pc' := 64) dX7_narrow_61 (by decide) rfl (by first | exact ⟨i_lo _, i_hi _⟩ | omega) (fun c61 => ?_) (fun c61 => ?_)
      · refine Go_iload (pc' := 81) dX7_narrow_79 rfl rfl ?_
        refine Go_if_gtY (tgt := 89) (pc' := 84) dX7_narrow_81 (by decide) rfl (by first | exact ⟨i_lo _, i_hi _⟩ | omega) (fun c81 => ?_) (fun c81 => ?_)
        · refine Go_aload_n (pc' := 90) dX7_narrow_89 rfl rfl rfl ?_
          refine Go_aload_n (pc' := 91) dX7_narrow_90 rfl rfl rfl ?_
          refine Go_getIv (v := (iZ L)) (pc' := 94) dX7_narrow_91 rfl kf_RX7_21 (by decide) (by decide) rfl (S.b 68 rfl rfl) (S.o 68 rfl rfl rfl) ((vi_setR h 68 u 3).trans e3) ?_
          refine Go_iconst (v := iZ 1) (pc' := 95) dX7_narrow_94 rfl (by decide) ?_
          refine Go_isubZ (pc' := 96) dX7_narrow_95 rfl ?_
          refine Go_putI (pc' := 99) dX7_narrow_96 rfl kf_RX7_24 (by decide) (by decide) rfl (S.b 68 rfl rfl) (S.o 68 rfl rfl rfl) (Or.inl rfl) rfl rfl ?_
          refine Go_return dX7_narrow_99 rfl ?_
          rw [setR_wI]
          refine hk _ L (L - 1) (by simp [upd]) (by simp [upd]) (by simp [upd]) (by simp [upd, e3]) (by simp [upd, e4]) (by omega) (by omega) (fun T t0 t1 => ?_)
          exact nr_e (by omega) (td_p (by omega)) (by omega)
        · refine Go_iload (pc' := 86) dX7_narrow_84 rfl rfl ?_
          refine Go_if_geY (tgt := 99) (pc' := 89) dX7_narrow_86 (by decide) rfl (by first | exact ⟨i_lo _, i_hi _⟩ | omega) (fun c86 => ?_) (fun c86 => ?_)
          · refine Go_return dX7_narrow_99 rfl ?_
            refine hk _ L H (by simp [upd]) (by simp [upd]) (by simp [upd]) (by simp [upd, e3]) (by simp [upd, e4]) (by omega) (by omega) (fun T t0 t1 => ?_)
            exact nr_z (by omega) (td_p (by omega)) (by omega)
          · refine Go_aload_n (pc' := 90) dX7_narrow_89 rfl rfl rfl ?_
            refine Go_aload_n (pc' := 91) dX7_narrow_90 rfl rfl rfl ?_
            refine Go_getIv (v := (iZ L)) (pc' := 94) dX7_narrow_91 rfl kf_RX7_21 (by decide) (by decide) rfl (S.b 68 rfl rfl) (S.o 68 rfl rfl rfl) ((vi_setR h 68 u 3).trans e3) ?_
            refine Go_iconst (v := iZ 1) (pc' := 95) dX7_narrow_94 rfl (by decide) ?_
            refine Go_isubZ (pc' := 96) dX7_narrow_95 rfl ?_
            refine Go_putI (pc' := 99) dX7_narrow_96 rfl kf_RX7_24 (by decide) (by decide) rfl (S.b 68 rfl rfl) (S.o 68 rfl rfl rfl) (Or.inl rfl) rfl rfl ?_
            refine Go_return dX7_narrow_99 rfl ?_
            rw [setR_wI]
            refine hk _ L (L - 1) (by simp [upd]) (by simp [upd]) (by simp [upd]) (by simp [upd, e3]) (by simp [upd, e4]) (by omega) (by omega) (fun T t0 t1 => ?_)
            exact nr_e (by omega) (td_p (by omega)) (by omega)
      · refine Go_aload_n (pc' := 65) dX7_narrow_64 rfl rfl rfl ?_
        refine Go_iload (pc' := 67) dX7_narrow_65 rfl rfl ?_
        refine Go_inegZ (pc' := 68) dX7_narrow_67 rfl ?_
        refine Go_iload (pc' := 70) dX7_narrow_68 rfl rfl ?_
        refine Go_inegZ (pc' := 71) dX7_narrow_70 rfl ?_
        refine Go_iload_n (pc' := 72) dX7_narrow_71 rfl rfl rfl ?_
        refine Go_inegZ (pc' := 73) dX7_narrow_72 rfl ?_
        refine Go_callV_v (pc' := 76) (As := [.int _, .int _, .int _]) (st := []) dX7_narrow_73 rfl ok_X7_keepBetween km_RX7_44 (S.o 68 rfl rfl rfl) (S.b 68 rfl rfl) ⟨_, _, rfl⟩ rfl (Nat.le_of_ble_eq_true rfl) rfl rfl rfl (Nat.le_of_ble_eq_true rfl) (Nat.lt_succ_self _) ?_
        refine Go_iload_n (pc' := 1) dX7_keepBetween_0 rfl rfl rfl ?_
        refine Go_if_leY (tgt := 38) (pc' := 4) dX7_keepBetween_1 (by decide) rfl (by first | exact ⟨i_lo _, i_hi _⟩ | omega) (fun z1 => by exfalso; omega) (fun z1 => ?_)
        refine Go_aload_n (pc' := 5) dX7_keepBetween_4 rfl rfl rfl ?_
        refine Go_aload_n (pc' := 6) dX7_keepBetween_5 rfl rfl rfl ?_
        refine Go_getIv (v := (iZ L)) (pc' := 9) dX7_keepBetween_6 rfl kf_RX7_21 (by decide) (by decide) rfl (S.b 68 rfl rfl) (S.o 68 rfl rfl rfl) ((vi_setR h 68 u 3).trans e3) ?_
        refine Go_iload_n (pc' := 10) dX7_keepBetween_9 rfl rfl rfl ?_
        refine Go_inegZ (pc' := 11) dX7_keepBetween_10 rfl ?_
        refine Go_iload_n (pc' := 12) dX7_keepBetween_11 rfl rfl rfl ?_
        refine Go_callS_i (pc' := 15) (As := [.int _, .int _]) (st := [.int _, .ref _]) dX7_keepBetween_12 rfl ok_J9_floorDiv_7cf53 km_RX7_47 rfl (Nat.le_of_ble_eq_true rfl) rfl rfl rfl (Nat.le_of_ble_eq_true rfl) (Nat.lt_succ_self _) ?_
        refine s_fdivY (by omega) (by omega) ?_
        have bx12 := div_b (A := (-(-(((64 * p) + 63) - W)))) (y := (-y)) (B := 1000000) (by omega) (by omega) (by omega)
        refine ⟨_, rfl, ?_⟩
        refine Go_inegZ (pc' := 16) dX7_keepBetween_15 rfl ?_
        refine Go_callS_i (pc' := 19) (As := [.int _, .int _]) (st := [.ref _]) dX7_keepBetween_16 rfl ok_J9_max_7cf53 km_RX7_53 rfl (Nat.le_of_ble_eq_true rfl) rfl rfl rfl (Nat.le_of_ble_eq_true rfl) (Nat.lt_succ_self _) ?_
        refine s_maxY (by first | exact ⟨i_lo _, i_hi _⟩ | omega) (by first | exact ⟨i_lo _, i_hi _⟩ | omega) ?_
        refine ⟨_, rfl, ?_⟩
        refine Go_putI (pc' := 22) dX7_keepBetween_19 rfl kf_RX7_21 (by decide) (by decide) rfl (S.b 68 rfl rfl) (S.o 68 rfl rfl rfl) (Or.inl rfl) rfl rfl ?_
        refine Go_aload_n (pc' := 23) dX7_keepBetween_22 rfl rfl rfl ?_
        refine Go_aload_n (pc' := 24) dX7_keepBetween_23 rfl rfl rfl ?_
        refine Go_getIv (v := (iZ H)) (pc' := 27) dX7_keepBetween_24 rfl kf_RX7_24 (by decide) (by decide) rfl (S.b 68 rfl rfl) (S.o 68 rfl rfl rfl) ((vi_skip (Or.inr (by decide))).trans ((vi_setR h 68 u 4).trans e4)) ?_
        refine Go_iload_n (pc' := 28) dX7_keepBetween_27 rfl rfl rfl ?_
        refine Go_iload_n (pc' := 29) dX7_keepBetween_28 rfl rfl rfl ?_
        refine Go_callS_i (pc' := 32) (As := [.int _, .int _]) (st := [.int _, .ref _]) dX7_keepBetween_29 rfl ok_J9_floorDiv_7cf53 km_RX7_47 rfl (Nat.le_of_ble_eq_true rfl) rfl rfl rfl (Nat.le_of_ble_eq_true rfl) (Nat.lt_succ_self _) ?_
        refine s_fdivY (by omega) (by omega) ?_
        have bx29 := div_b (A := (-((64 * p) - W))) (y := (-y)) (B := 1000000) (by omega) (by omega) (by omega)
        refine ⟨_, rfl, ?_⟩
        refine Go_callS_i (pc' := 35) (As := [.int _, .int _]) (st := [.ref _]) dX7_keepBetween_32 rfl ok_J9_min_7cf53 km_RX7_56 rfl (Nat.le_of_ble_eq_true rfl) rfl rfl rfl (Nat.le_of_ble_eq_true rfl) (Nat.lt_succ_self _) ?_
        refine s_minY (by first | exact ⟨i_lo _, i_hi _⟩ | omega) (by first | exact ⟨i_lo _, i_hi _⟩ | omega) ?_
        refine ⟨_, rfl, ?_⟩
        refine Go_putI (pc' := 38) dX7_keepBetween_35 rfl kf_RX7_24 (by decide) (by decide) rfl (S.b 68 rfl rfl) (S.o 68 rfl rfl rfl) (Or.inl rfl) rfl rfl ?_
        refine Go_return dX7_keepBetween_38 rfl ?_
        refine ⟨rfl, ?_⟩
        refine Go_goto (tgt := 99) dX7_narrow_76 (by decide) ?_
        refine Go_return dX7_narrow_99 rfl ?_
        have b0 := div_b (A := (-(-(((64 * p) + 63) - W)))) (y := (-y)) (B := 1000000) (by omega) (by omega) (by omega)
        have b1 := div_b (A := (-((64 * p) - W))) (y := (-y)) (B := 1000000) (by omega) (by omega) (by omega)
        rw [setR_wI, setR_wI]
        refine hk _ (max L (-((-(-(((64 * p) + 63) - W))) / (-y)))) (min H ((-((64 * p) - W)) / (-y))) (by simp [upd]) (by simp [upd]) (by simp [upd]) (by simp [upd, e3]) (by simp [upd, e4]) (by omega) (by omega) (fun T t0 t1 => ?_)
        exact nr_n (by omega) (td_p (by omega))
    · refine Go_aload_n (pc' := 49) dX7_narrow_48 rfl rfl rfl ?_
      refine Go_iload (pc' := 51) dX7_narrow_49 rfl rfl ?_
      refine Go_iload (pc' := 53) dX7_narrow_51 rfl rfl ?_
      refine Go_iload_n (pc' := 54) dX7_narrow_53 rfl rfl rfl ?_
      refine Go_callV_v (pc' := 57) (As := [.int _, .int _, .int _]) (st := []) dX7_narrow_54 rfl ok_X7_keepBetween km_RX7_44 (S.o 68 rfl rfl rfl) (S.b 68 rfl rfl) ⟨_, _, rfl⟩ rfl (Nat.le_of_ble_eq_true rfl) rfl rfl rfl (Nat.le_of_ble_eq_true rfl) (Nat.lt_succ_self _) ?_
      refine Go_iload_n (pc' := 1) dX7_keepBetween_0 rfl rfl rfl ?_
      refine Go_if_leY (tgt := 38) (pc' := 4) dX7_keepBetween_1 (by decide) rfl (by first | exact ⟨i_lo _, i_hi _⟩ | omega) (fun z1 => by exfalso; omega) (fun z1 => ?_)
      refine Go_aload_n (pc' := 5) dX7_keepBetween_4 rfl rfl rfl ?_
      refine Go_aload_n (pc' := 6) dX7_keepBetween_5 rfl rfl rfl ?_
      refine Go_getIv (v := (iZ L)) (pc' := 9) dX7_keepBetween_6 rfl kf_RX7_21 (by decide) (by decide) rfl (S.b 68 rfl rfl) (S.o 68 rfl rfl rfl) ((vi_setR h 68 u 3).trans e3) ?_
      refine Go_iload_n (pc' := 10) dX7_keepBetween_9 rfl rfl rfl ?_
      refine Go_inegZ (pc' := 11) dX7_keepBetween_10 rfl ?_
      refine Go_iload_n (pc' := 12) dX7_keepBetween_11 rfl rfl rfl ?_
      refine Go_callS_i (pc' := 15) (As := [.int _, .int _]) (st := [.int _, .ref _]) dX7_keepBetween_12 rfl ok_J9_floorDiv_7cf53 km_RX7_47 rfl (Nat.le_of_ble_eq_true rfl) rfl rfl rfl (Nat.le_of_ble_eq_true rfl) (Nat.lt_succ_self _) ?_
      refine s_fdivY (by omega) (by omega) ?_
      have bx12 := div_b (A := (-((64 * p) - W))) (y := y) (B := 1000000) (by omega) (by omega) (by omega)
      refine ⟨_, rfl, ?_⟩
      refine Go_inegZ (pc' := 16) dX7_keepBetween_15 rfl ?_
      refine Go_callS_i (pc' := 19) (As := [.int _, .int _]) (st := [.ref _]) dX7_keepBetween_16 rfl ok_J9_max_7cf53 km_RX7_53 rfl (Nat.le_of_ble_eq_true rfl) rfl rfl rfl (Nat.le_of_ble_eq_true rfl) (Nat.lt_succ_self _) ?_
      refine s_maxY (by first | exact ⟨i_lo _, i_hi _⟩ | omega) (by first | exact ⟨i_lo _, i_hi _⟩ | omega) ?_
      refine ⟨_, rfl, ?_⟩
      refine Go_putI (pc' := 22) dX7_keepBetween_19 rfl kf_RX7_21 (by decide) (by decide) rfl (S.b 68 rfl rfl) (S.o 68 rfl rfl rfl) (Or.inl rfl) rfl rfl ?_
      refine Go_aload_n (pc' := 23) dX7_keepBetween_22 rfl rfl rfl ?_
      refine Go_aload_n (pc' := 24) dX7_keepBetween_23 rfl rfl rfl ?_
      refine Go_getIv (v := (iZ H)) (pc' := 27) dX7_keepBetween_24 rfl kf_RX7_24 (by decide) (by decide) rfl (S.b 68 rfl rfl) (S.o 68 rfl rfl rfl) ((vi_skip (Or.inr (by decide))).trans ((vi_setR h 68 u 4).trans e4)) ?_
      refine Go_iload_n (pc' := 28) dX7_keepBetween_27 rfl rfl rfl ?_
      refine Go_iload_n (pc' := 29) dX7_keepBetween_28 rfl rfl rfl ?_
      refine Go_callS_i (pc' := 32) (As := [.int _, .int _]) (st := [.int _, .ref _]) dX7_keepBetween_29 rfl ok_J9_floorDiv_7cf53 km_RX7_47 rfl (Nat.le_of_ble_eq_true rfl) rfl rfl rfl (Nat.le_of_ble_eq_true rfl) (Nat.lt_succ_self _) ?_
      refine s_fdivY (by omega) (by omega) ?_
      have bx29 := div_b (A := (((64 * p) + 63) - W)) (y := y) (B := 1000000) (by omega) (by omega) (by omega)
      refine ⟨_, rfl, ?_⟩
      refine Go_callS_i (pc' := 35) (As := [.int _, .int _]) (st := [.ref _]) dX7_keepBetween_32 rfl ok_J9_min_7cf53 km_RX7_56 rfl (Nat.le_of_ble_eq_true rfl) rfl rfl rfl (Nat.le_of_ble_eq_true rfl) (Nat.lt_succ_self _) ?_
      refine s_minY (by first | exact ⟨i_lo _, i_hi _⟩ | omega) (by first | exact ⟨i_lo _, i_hi _⟩ | omega) ?_
      refine ⟨_, rfl, ?_⟩
      refine Go_putI (pc' := 38) dX7_keepBetween_35 rfl kf_RX7_24 (by decide) (by decide) rfl (S.b 68 rfl rfl) (S.o 68 rfl rfl rfl) (Or.inl rfl) rfl rfl ?_
      refine Go_return dX7_keepBetween_38 rfl ?_
      refine ⟨rfl, ?_⟩
      refine Go_goto (tgt := 99) dX7_narrow_57 (by decide) ?_
      refine Go_return dX7_narrow_99 rfl ?_
      have b0 := div_b (A := (-((64 * p) - W))) (y := y) (B := 1000000) (by omega) (by omega) (by omega)
      have b1 := div_b (A := (((64 * p) + 63) - W)) (y := y) (B := 1000000) (by omega) (by omega) (by omega)
      rw [setR_wI, setR_wI]
      refine hk _ (max L (-((-((64 * p) - W)) / y))) (min H ((((64 * p) + 63) - W) / y)) (by simp [upd]) (by simp [upd]) (by simp [upd]) (by simp [upd, e3]) (by simp [upd, e4]) (by omega) (by omega) (fun T t0 t1 => ?_)
      exact nr_p (by omega) (td_p (by omega))
def zB (h : HS) (o : Nat) (D T X : Int) : Bool := decide (rbk h o D T X = 0)
theorem zB_iff {h : HS} {o : Nat} {D T X : Int} : zB h o D T X = true ↔ (D * (sap h o (X - 1) - sap h o (X - 1 - 1)) + T * sap h o (X - 1)).tdiv 64 = (sap h o (X - 1) - sap h o (X - 1 - 1)) - (sap h o X - sap h o (X - 1)) := by
  unfold zB
  rw [decide_eq_true_iff]
  unfold rbk
  generalize (D * (sap h o (X - 1) - sap h o (X - 1 - 1)) + T * sap h o (X - 1)).tdiv 64 = Q
  omega
theorem all_and {f : Int → Bool} {m : Nat} {X : Int} : all f (m + 1) X = true ↔ f X = true ∧ all f m (X + 1) = true := by
  by_cases e : f X = true
  · rw [all_t e]; exact ⟨fun a => ⟨e, a⟩, fun a => a.2⟩
  · rw [all_f e]; exact ⟨fun a => (by cases a), fun a => absurd a.1 e⟩
/-- the model's count of stiffs, and the first couple -/
def sws (g : Int → Bool) (D : Int) : Nat → Int → Int → Int → Int × Int
  | 0, _, n, f => (n, f)
  | m + 1, T, n, f => if g T = true then sws g D m (T + 1) (n + 1) (if n = 0 then 64 * D + T else f) else sws g D m (T + 1) n f
theorem sws_t {g : Int → Bool} {D : Int} {m : Nat} {T n f : Int} (e : g T = true) : sws g D (m + 1) T n f = sws g D m (T + 1) (n + 1) (if n = 0 then 64 * D + T else f) := by show (if _ then _ else _) = _; rw [if_pos e]
theorem sws_f {g : Int → Bool} {D : Int} {m : Nat} {T n f : Int} (e : ¬ g T = true) : sws g D (m + 1) T n f = sws g D m (T + 1) n f := by show (if _ then _ else _) = _; rw [if_neg e]
theorem sws_iv {g : Int → Bool} {D L H : Int} (hH : H ≤ 63) (hg : ∀ T, 0 ≤ T → T ≤ 63 → ((L ≤ T ∧ T ≤ H) ↔ g T = true)) : ∀ (m : Nat) (T n f : Int), T + m = 64 → 0 ≤ T → 0 ≤ n → sws g D m T n f = if max L T ≤ H then (n + (H - max L T + 1), if n = 0 then 64 * D + max L T else f) else (n, f)
  | 0, T, n, f, hT, h0, hn => by
    rw [if_neg (by omega)]; rfl
  | m + 1, T, n, f, hT, h0, hn => by
    by_cases e : g T = true
    · rw [sws_t e, sws_iv hH hg m (T + 1) _ _ (by omega) (by omega) (by omega)]
      have := (hg T h0 (by omega)).2 e
      rw [if_pos (show max L T ≤ H by omega), show max L T = T by omega, show max L (T + 1) = T + 1 by omega, if_neg (show ¬ n + 1 = 0 by omega)]
      by_cases z : T + 1 ≤ H
      · rw [if_pos z, show n + 1 + (H - (T + 1) + 1) = n + (H - T + 1) by omega]
      · rw [if_neg z, show n + 1 = n + (H - T + 1) by omega]
    · rw [sws_f e, sws_iv hH hg m (T + 1) _ _ (by omega) (by omega) (by omega)]
      have : ¬ (L ≤ T ∧ T ≤ H) := fun z => e ((hg T h0 (by omega)).1 z)
      by_cases z : max L T ≤ H
      · rw [if_pos z, show max L (T + 1) = max L T by omega, if_pos z]
      · rw [if_neg z, if_neg (by omega)]
def sso (gg : Int → Int → Bool) : Nat → Int → Int × Int → Int × Int
  | 0, _, t => t
  | m + 1, D, t => sso gg m (D + 1) (sws (gg D) D 64 0 t.1 t.2)
theorem sso_s {gg : Int → Int → Bool} {m : Nat} {D : Int} {t t' : Int × Int} (e : sws (gg D) D 64 0 t.1 t.2 = t') : sso gg (m + 1) D t = sso gg m (D + 1) t' := by rw [← e]; rfl
abbrev gsw (h : HS) (o : Nat) (a b : Int) (D T : Int) : Bool := all (zB h o D T) (b + 1 - (a + 2)).toNat (a + 2)
def U3 (u : Nat → Int32) (t : Int × Int) : Prop := u 0 = iZ t.1 ∧ u 1 = iZ (if t.1 = 0 then -1 else t.2 / 64) ∧ u 2 = iZ (if t.1 = 0 then -1 else t.2 % 64)
theorem s_smpD {G : GC} {d mc ms : Nat} {h H : HS} {K : Option Value → HS → Prop} {j o n : Nat} {X : Int} (D : DifS h H) (M : Smp h j o n) (hX : 0 ≤ X ∧ X < n) (hk : K (some (.int (iZ (sap h o X)))) H) : Go G d mc ms M_X2_sampleAt 0 [.ref o, .int (iZ X)] [] H K :=
  s_smpY (M.dif D) hX (by rw [sap_dif M.2.1.1.1 D]; exact hk)

set_option maxRecDepth 20000 in
set_option maxHeartbeats 1000000 in
theorem sw_in {G : GC} {d mc ms : Nat} {h : HS} {K : Option Value → HS → Prop} {j o n : Nat} {a b D : Int} (S : Shp h) (M : Smp h j o n) (ha : 0 ≤ a ∧ b < n) (hD : 0 ≤ D ∧ D ≤ 63) (hw : ∀ X, a ≤ X → X ≤ b → ¬ sap h o X = -1000000000) : ∀ (m : Nat) (X : Int) (u : Nat → Int32) (L H : Int) (v6 : Value), X + m = b + 1 → a + 2 ≤ X → u 3 = iZ L → u 4 = iZ H → (0 ≤ L ∧ L ≤ 1000000) → (-1000000 ≤ H ∧ H ≤ 63) → (∀ (u' : Nat → Int32) (L' H' : Int) (x : Int) (v6 : Value), u' 0 = u 0 → u' 1 = u 1 → u' 2 = u 2 → u' 3 = iZ L' → u' 4 = iZ H' → (0 ≤ L' ∧ L' ≤ 1000000) → (-1000000 ≤ H' ∧ H' ≤ 63) → (∀ T, 0 ≤ T → T ≤ 63 → ((L' ≤ T ∧ T ≤ H') ↔ (L ≤ T ∧ T ≤ H) ∧ all (zB h o D T) m X = true)) → Go G (d + 3) mc ms M_X7_search 100 [.ref 68, .ref o, .int (iZ a), .int (iZ b), .int (iZ D), .int (iZ x), v6] [] (setR h 68 u') K) → Go G (d + 3) mc ms M_X7_search 41 [.ref 68, .ref o, .int (iZ a), .int (iZ b), .int (iZ D), .int (iZ X), v6] [] (setR h 68 u) K := by
  have CS := M.2.1
  have hn := M.n
  have hj6 := M.j
  have hq0 := CS.1
  intro m
  induction m with
  | zero =>
    intro X u L H v6 hm hx e3 e4 hL hH hk
    refine Go_iload (pc' := 43) dX7_search_41 rfl rfl ?_
    refine Go_iload_n (pc' := 44) dX7_search_43 rfl rfl rfl ?_
    refine Go_icmp_gtY (tgt := 100) (pc' := 47) dX7_search_44 (by decide) rfl (by first | exact ⟨i_lo _, i_hi _⟩ | omega) (by first | exact ⟨i_lo _, i_hi _⟩ | omega) (fun c44 => ?_) (fun c44 => by exfalso; omega)
    exact hk u L H _ _ rfl rfl rfl e3 e4 hL hH (fun T t0 t1 => ⟨fun z => ⟨z, rfl⟩, fun z => z.1⟩)
  | succ m ih =>
    intro X u L H v6 hm hx e3 e4 hL hH hk
    have s0 := sap_ok M (X := X) (by omega)
    have s1 := sap_ok M (X := X - 1) (by omega)
    have s2 := sap_ok M (X := X - 1 - 1) (by omega)
    have q0 := hw X (by omega) (by omega)
    have q1 := hw (X - 1) (by omega) (by omega)
    have q2 := hw (X - 1 - 1) (by omega) (by omega)
    have bb := mul63 (B := 1998) hD (V := sap h o (X - 1) - sap h o (X - 1 - 1)) (by omega)
    refine Go_iload (pc' := 43) dX7_search_41 rfl rfl ?_
    refine Go_iload_n (pc' := 44) dX7_search_43 rfl rfl rfl ?_
    refine Go_icmp_gtY (tgt := 100) (pc' := 47) dX7_search_44 (by decide) rfl (by first | exact ⟨i_lo _, i_hi _⟩ | omega) (by first | exact ⟨i_lo _, i_hi _⟩ | omega) (fun c44 => by exfalso; omega) (fun c44 => ?_)
    refine Go_aload_n (pc' := 48) dX7_search_47 rfl rfl rfl ?_
    refine Go_getIv (v := (iZ L)) (pc' := 51) dX7_search_48 rfl kf_RX7_21 (by decide) (by decide) rfl (S.b 68 rfl rfl) (S.o 68 rfl rfl rfl) ((vi_setR h 68 u 3).trans e3) ?_
    refine Go_aload_n (pc' := 52) dX7_search_51 rfl rfl rfl ?_
    refine Go_getIv (v := (iZ H)) (pc' := 55) dX7_search_52 rfl kf_RX7_24 (by decide) (by decide) rfl (S.b 68 rfl rfl) (S.o 68 rfl rfl rfl) ((vi_setR h 68 u 4).trans e4) ?_
    refine Go_icmp_gtY (tgt := 100) (pc' := 58) dX7_search_55 (by decide) rfl (by first | exact ⟨i_lo _, i_hi _⟩ | omega) (by first | exact ⟨i_lo _, i_hi _⟩ | omega) (fun c55 => ?_) (fun c55 => ?_)
    · exact hk u L H _ _ rfl rfl rfl e3 e4 hL hH (fun T t0 t1 => ⟨fun z => (by exfalso; omega), fun z => (by exfalso; omega)⟩)
    · refine Go_aload_n (pc' := 59) dX7_search_58 rfl rfl rfl ?_
      refine Go_iload (pc' := 61) dX7_search_59 rfl rfl ?_
      refine Go_iconst (v := iZ 1) (pc' := 62) dX7_search_61 rfl (by decide) ?_
      refine Go_isubZ (pc' := 63) dX7_search_62 rfl ?_
      refine Go_callV_i (pc' := 66) (As := [.int _]) (st := []) dX7_search_63 rfl ok_X2_speedAt km_RX7_27 CS.o CS.b ⟨_, _, rfl⟩ rfl (Nat.le_of_ble_eq_true rfl) rfl rfl rfl (Nat.le_of_ble_eq_true rfl) (Nat.lt_succ_self _) ?_
      refine Go_aload_n (pc' := 1) dX2_speedAt_0 rfl rfl rfl ?_
      refine Go_iload_n (pc' := 2) dX2_speedAt_1 rfl rfl rfl ?_
      refine Go_callV_i (pc' := 5) (As := [.int _]) (st := []) dX2_speedAt_2 rfl ok_X2_sampleAt km_RX2_64 CS.o CS.b ⟨_, _, rfl⟩ rfl (Nat.le_of_ble_eq_true rfl) rfl rfl rfl (Nat.le_of_ble_eq_true rfl) (Nat.lt_succ_self _) ?_
      refine s_smpD ((DifS.rf h).setR (by omega)) M (by omega) ?_
      refine ⟨_, rfl, ?_⟩
      refine Go_aload_n (pc' := 6) dX2_speedAt_5 rfl rfl rfl ?_
      refine Go_iload_n (pc' := 7) dX2_speedAt_6 rfl rfl rfl ?_
      refine Go_iconst (v := iZ 1) (pc' := 8) dX2_speedAt_7 rfl (by decide) ?_
      refine Go_isubZ (pc' := 9) dX2_speedAt_8 rfl ?_
      refine Go_callV_i (pc' := 12) (As := [.int _]) (st := [.int _]) dX2_speedAt_9 rfl ok_X2_sampleAt km_RX2_64 CS.o CS.b ⟨_, _, rfl⟩ rfl (Nat.le_of_ble_eq_true rfl) rfl rfl rfl (Nat.le_of_ble_eq_true rfl) (Nat.lt_succ_self _) ?_
      refine s_smpD ((DifS.rf h).setR (by omega)) M (by omega) ?_
      refine ⟨_, rfl, ?_⟩
      refine Go_isubZ (pc' := 13) dX2_speedAt_12 rfl ?_
      refine Go_ireturn (ty := .int) dX2_speedAt_13 rfl rfl ?_
      refine ⟨_, rfl, ?_⟩
      refine Go_istore (pc' := 68) (lv' := [.ref _, .ref _, .int _, .int _, .int _, .int _, .int _]) dX7_search_66 rfl (Nat.le_of_ble_eq_true rfl) rfl rfl ?_
      refine Go_aload_n (pc' := 69) dX7_search_68 rfl rfl rfl ?_
      refine Go_iload (pc' := 71) dX7_search_69 rfl rfl ?_
      refine Go_aload_n (pc' := 72) dX7_search_71 rfl rfl rfl ?_
      refine Go_iload (pc' := 74) dX7_search_72 rfl rfl ?_
      refine Go_callV_i (pc' := 77) (As := [.int _]) (st := [.int _, .ref _]) dX7_search_74 rfl ok_X2_speedAt km_RX7_27 CS.o CS.b ⟨_, _, rfl⟩ rfl (Nat.le_of_ble_eq_true rfl) rfl rfl rfl (Nat.le_of_ble_eq_true rfl) (Nat.lt_succ_self _) ?_
      refine Go_aload_n (pc' := 1) dX2_speedAt_0 rfl rfl rfl ?_
      refine Go_iload_n (pc' := 2) dX2_speedAt_1 rfl rfl rfl ?_
      refine Go_callV_i (pc' := 5) (As := [.int _]) (st := []) dX2_speedAt_2 rfl ok_X2_sampleAt km_RX2_64 CS.o CS.b ⟨_, _, rfl⟩ rfl (Nat.le_of_ble_eq_true rfl) rfl rfl rfl (Nat.le_of_ble_eq_true rfl) (Nat.lt_succ_self _) ?_
      refine s_smpD ((DifS.rf h).setR (by omega)) M (by omega) ?_
      refine ⟨_, rfl, ?_⟩
      refine Go_aload_n (pc' := 6) dX2_speedAt_5 rfl rfl rfl ?_
      refine Go_iload_n (pc' := 7) dX2_speedAt_6 rfl rfl rfl ?_
      refine Go_iconst (v := iZ 1) (pc' := 8) dX2_speedAt_7 rfl (by decide) ?_
      refine Go_isubZ (pc' := 9) dX2_speedAt_8 rfl ?_
      refine Go_callV_i (pc' := 12) (As := [.int _]) (st := [.int _]) dX2_speedAt_9 rfl ok_X2_sampleAt km_RX2_64 CS.o CS.b ⟨_, _, rfl⟩ rfl (Nat.le_of_ble_eq_true rfl) rfl rfl rfl (Nat.le_of_ble_eq_true rfl) (Nat.lt_succ_self _) ?_
      refine s_smpD ((DifS.rf h).setR (by omega)) M (by omega) ?_
      refine ⟨_, rfl, ?_⟩
      refine Go_isubZ (pc' := 13) dX2_speedAt_12 rfl ?_
      refine Go_ireturn (ty := .int) dX2_speedAt_13 rfl rfl ?_
      refine ⟨_, rfl, ?_⟩
      refine Go_isubZ (pc' := 78) dX7_search_77 rfl ?_
      refine Go_iload (pc' := 80) dX7_search_78 rfl rfl ?_
      refine Go_iload (pc' := 82) dX7_search_80 rfl rfl ?_
      refine Go_imulZ (pc' := 83) dX7_search_82 rfl ?_
      refine Go_aload_n (pc' := 84) dX7_search_83 rfl rfl rfl ?_
      refine Go_iload (pc' := 86) dX7_search_84 rfl rfl ?_
      refine Go_iconst (v := iZ 1) (pc' := 87) dX7_search_86 rfl (by decide) ?_
      refine Go_isubZ (pc' := 88) dX7_search_87 rfl ?_
      refine Go_callV_i (pc' := 91) (As := [.int _]) (st := [.int _, .int _, .ref _]) dX7_search_88 rfl ok_X2_sampleAt km_RX7_33 CS.o CS.b ⟨_, _, rfl⟩ rfl (Nat.le_of_ble_eq_true rfl) rfl rfl rfl (Nat.le_of_ble_eq_true rfl) (Nat.lt_succ_self _) ?_
      refine s_smpD ((DifS.rf h).setR (by omega)) M (by omega) ?_
      refine ⟨_, rfl, ?_⟩
      refine Go_callV_v (pc' := 94) (As := [.int _, .int _, .int _]) (st := []) dX7_search_91 rfl ok_X7_narrow km_RX7_36 (S.o 68 rfl rfl rfl) (S.b 68 rfl rfl) ⟨_, _, rfl⟩ rfl (Nat.le_of_ble_eq_true rfl) rfl rfl rfl (Nat.le_of_ble_eq_true rfl) (Nat.lt_succ_self _) ?_
      refine s_nar S e3 e4 (by omega) (by omega) (by omega) hL hH (by omega) (fun u1 L1 H1 f0 f1 f2 f3 f4 f5 f6 f7 => ?_)
      refine ⟨rfl, ?_⟩
      refine Go_iincZ (pc' := 97) (lv' := [.ref _, .ref _, .int _, .int _, .int _, .int _, .int _]) dX7_search_94 rfl rfl (Nat.le_of_ble_eq_true rfl) rfl rfl ?_
      refine Go_goto (tgt := 41) dX7_search_97 (by decide) ?_
      refine ih (X + 1) u1 L1 H1 _ (by omega) (by omega) f3 f4 f5 f6 (fun u2 L2 H2 x2 v2 g0 g1 g2 g3 g4 g5 g6 g7 => ?_)
      refine hk u2 L2 H2 x2 v2 (g0.trans f0) (g1.trans f1) (g2.trans f2) g3 g4 g5 g6 (fun T t0 t1 => ?_)
      rw [g7 T t0 t1, f7 T t0 t1, all_and, zB_iff, and_assoc]
set_option maxRecDepth 20000 in
set_option maxHeartbeats 4000000 in
theorem sw_out {G : GC} {d mc ms : Nat} {h : HS} {K : Option Value → HS → Prop} {j o n : Nat} {a b : Int} (S : Shp h) (M : Smp h j o n) (ha : 0 ≤ a ∧ b < n) (hab : a + 2 ≤ b) (hw : ∀ X, a ≤ X → X ≤ b → ¬ sap h o X = -1000000000) : ∀ (m : Nat) (D n1 f : Int) (u : Nat → Int32) (v5 v6 : Value), D + m = 64 → 0 ≤ D → (0 ≤ n1 ∧ n1 ≤ 64 * D) → (n1 = 0 ∨ (0 ≤ f ∧ f < 4096)) → U3 u (n1, f) → (∀ u, U3 u (sso (gsw h o a b) m D (n1, f)) → K none (setR h 68 u)) → Go G (d + 3) mc ms M_X7_search 18 [.ref 68, .ref o, .int (iZ a), .int (iZ b), .int (iZ D), v5, v6] [] (setR h 68 u) K := by
  have CS := M.2.1
  have hn := M.n
  have hj6 := M.j
  have hq0 := CS.1
  intro m
  induction m with
  | zero =>
    intro D n1 f u v5 v6 hm hD hn1 hf hU hk
    refine Go_iload (pc' := 20) dX7_search_18 rfl rfl ?_
    refine Go_bipush (v := iZ 64) (pc' := 22) dX7_search_20 rfl (by decide) ?_
    refine Go_icmp_geY (tgt := 123) (pc' := 25) dX7_search_22 (by decide) rfl (by first | exact ⟨i_lo _, i_hi _⟩ | omega) (by first | exact ⟨i_lo _, i_hi _⟩ | omega) (fun c22 => ?_) (fun c22 => by exfalso; omega)
    refine Go_return dX7_search_123 rfl ?_
    exact hk u hU
  | succ m ih =>
    intro D n1 f u v5 v6 hm hD hn1 hf hU hk
    refine Go_iload (pc' := 20) dX7_search_18 rfl rfl ?_
    refine Go_bipush (v := iZ 64) (pc' := 22) dX7_search_20 rfl (by decide) ?_
    refine Go_icmp_geY (tgt := 123) (pc' := 25) dX7_search_22 (by decide) rfl (by first | exact ⟨i_lo _, i_hi _⟩ | omega) (by first | exact ⟨i_lo _, i_hi _⟩ | omega) (fun c22 => by exfalso; omega) (fun c22 => ?_)
    refine Go_aload_n (pc' := 26) dX7_search_25 rfl rfl rfl ?_
    refine Go_iconst (v := iZ 0) (pc' := 27) dX7_search_26 rfl (by decide) ?_
    refine Go_putI (pc' := 30) dX7_search_27 rfl kf_RX7_21 (by decide) (by decide) rfl (S.b 68 rfl rfl) (S.o 68 rfl rfl rfl) (Or.inl rfl) rfl rfl ?_
    refine Go_aload_n (pc' := 31) dX7_search_30 rfl rfl rfl ?_
    refine Go_bipush (v := iZ 63) (pc' := 33) dX7_search_31 rfl (by decide) ?_
    refine Go_putI (pc' := 36) dX7_search_33 rfl kf_RX7_24 (by decide) (by decide) rfl (S.b 68 rfl rfl) (S.o 68 rfl rfl rfl) (Or.inl rfl) rfl rfl ?_
    refine Go_iload_n (pc' := 37) dX7_search_36 rfl rfl rfl ?_
    refine Go_iconst (v := iZ 2) (pc' := 38) dX7_search_37 rfl (by decide) ?_
    refine Go_iaddZ (pc' := 39) dX7_search_38 rfl ?_
    refine Go_istore (pc' := 41) (lv' := [.ref _, .ref _, .int _, .int _, .int _, .int _, _]) dX7_search_39 rfl (Nat.le_of_ble_eq_true rfl) rfl rfl ?_
    rw [setR_wI, setR_wI]
    refine sw_in S M ha (by omega) hw (b + 1 - (a + 2)).toNat (a + 2) _ 0 63 _ (by omega) (by omega) (by simp [upd]) (by simp [upd]) (by omega) (by omega) (fun u1 L1 H1 x1 v1 f0 f1 f2 f3 f4 f5 f6 f7 => ?_)
    have f0 : u1 0 = u 0 := f0.trans (by simp [upd])
    have f1 : u1 1 = u 1 := f1.trans (by simp [upd])
    have f2 : u1 2 = u 2 := f2.trans (by simp [upd])
    have es := sws_iv (g := gsw h o a b D) (D := D) (L := L1) (H := H1) f6.2 (fun T t0 t1 => (f7 T t0 t1).trans ⟨fun z => z.2, fun z => ⟨by omega, z⟩⟩) 64 0 n1 f (by omega) (by omega) (by omega)
    rw [show max L1 0 = L1 by omega] at es
    obtain ⟨U1, U2, U3⟩ := hU
    refine Go_aload_n (pc' := 101) dX7_search_100 rfl rfl rfl ?_
    refine Go_getIv (v := (iZ L1)) (pc' := 104) dX7_search_101 rfl kf_RX7_21 (by decide) (by decide) rfl (S.b 68 rfl rfl) (S.o 68 rfl rfl rfl) ((vi_setR h 68 u1 3).trans f3) ?_
    refine Go_aload_n (pc' := 105) dX7_search_104 rfl rfl rfl ?_
    refine Go_getIv (v := (iZ H1)) (pc' := 108) dX7_search_105 rfl kf_RX7_24 (by decide) (by decide) rfl (S.b 68 rfl rfl) (S.o 68 rfl rfl rfl) ((vi_setR h 68 u1 4).trans f4) ?_
    refine Go_icmp_gtY (tgt := 117) (pc' := 111) dX7_search_108 (by decide) rfl (by first | exact ⟨i_lo _, i_hi _⟩ | omega) (by first | exact ⟨i_lo _, i_hi _⟩ | omega) (fun c108 => ?_) (fun c108 => ?_)
    · refine Go_iincZ (pc' := 120) (lv' := [.ref _, .ref _, .int _, .int _, .int _, .int _, _]) dX7_search_117 rfl rfl (Nat.le_of_ble_eq_true rfl) rfl rfl ?_
      refine Go_goto (tgt := 18) dX7_search_120 (by decide) ?_
      rw [sso_s (t' := (n1, f)) (by rw [es, if_neg (by omega)])] at hk
      exact ih (D + 1) n1 f _ _ _ (by omega) (by omega) (by omega) (by omega) ⟨f0.trans U1, f1.trans U2, f2.trans U3⟩ hk
    · refine Go_aload_n (pc' := 112) dX7_search_111 rfl rfl rfl ?_
      refine Go_iload (pc' := 114) dX7_search_112 rfl rfl ?_
      refine Go_callV_v (pc' := 117) (As := [.int _]) (st := []) dX7_search_114 rfl ok_X7_keep km_RX7_40 (S.o 68 rfl rfl rfl) (S.b 68 rfl rfl) ⟨_, _, rfl⟩ rfl (Nat.le_of_ble_eq_true rfl) rfl rfl rfl (Nat.le_of_ble_eq_true rfl) (Nat.lt_succ_self _) ?_
      refine Go_aload_n (pc' := 1) dX7_keep_0 rfl rfl rfl ?_
      refine Go_getIv (v := (iZ n1)) (pc' := 4) dX7_keep_1 rfl kf_RX7_9 (by decide) (by decide) rfl (S.b 68 rfl rfl) (S.o 68 rfl rfl rfl) ((vi_setR h 68 u1 0).trans (f0.trans U1)) ?_
      refine Go_if_neY (tgt := 20) (pc' := 7) dX7_keep_4 (by decide) rfl (by first | exact ⟨i_lo _, i_hi _⟩ | omega) (fun y4 => ?_) (fun y4 => ?_)
      · refine Go_aload_n (pc' := 21) dX7_keep_20 rfl rfl rfl ?_
        refine Go_dup (pc' := 22) dX7_keep_21 rfl rfl ?_
        refine Go_getIv (v := (iZ n1)) (pc' := 25) dX7_keep_22 rfl kf_RX7_9 (by decide) (by decide) rfl (S.b 68 rfl rfl) (S.o 68 rfl rfl rfl) ((vi_setR h 68 u1 0).trans (f0.trans U1)) ?_
        refine Go_aload_n (pc' := 26) dX7_keep_25 rfl rfl rfl ?_
        refine Go_getIv (v := (iZ H1)) (pc' := 29) dX7_keep_26 rfl kf_RX7_24 (by decide) (by decide) rfl (S.b 68 rfl rfl) (S.o 68 rfl rfl rfl) ((vi_setR h 68 u1 4).trans f4) ?_
        refine Go_aload_n (pc' := 30) dX7_keep_29 rfl rfl rfl ?_
        refine Go_getIv (v := (iZ L1)) (pc' := 33) dX7_keep_30 rfl kf_RX7_21 (by decide) (by decide) rfl (S.b 68 rfl rfl) (S.o 68 rfl rfl rfl) ((vi_setR h 68 u1 3).trans f3) ?_
        refine Go_isubZ (pc' := 34) dX7_keep_33 rfl ?_
        refine Go_iconst (v := iZ 1) (pc' := 35) dX7_keep_34 rfl (by decide) ?_
        refine Go_iaddZ (pc' := 36) dX7_keep_35 rfl ?_
        refine Go_iaddZ (pc' := 37) dX7_keep_36 rfl ?_
        refine Go_putI (pc' := 40) dX7_keep_37 rfl kf_RX7_9 (by decide) (by decide) rfl (S.b 68 rfl rfl) (S.o 68 rfl rfl rfl) (Or.inl rfl) rfl rfl ?_
        refine Go_return dX7_keep_40 rfl ?_
        refine ⟨rfl, ?_⟩
        refine Go_iincZ (pc' := 120) (lv' := [.ref _, .ref _, .int _, .int _, .int _, .int _, _]) dX7_search_117 rfl rfl (Nat.le_of_ble_eq_true rfl) rfl rfl ?_
        refine Go_goto (tgt := 18) dX7_search_120 (by decide) ?_
        rw [setR_wI]
        rw [sso_s (t' := (n1 + (H1 - L1 + 1), f)) (by rw [es, if_pos (by omega), if_neg (by omega)])] at hk
        refine ih (D + 1) _ _ _ _ _ (by omega) (by omega) (by omega) (by omega) ⟨?_, ?_, ?_⟩ hk
        · simp [upd]
        · rw [if_neg (by show ¬ n1 + (H1 - L1 + 1) = 0; omega)]; rw [if_neg (by show ¬ n1 = 0; omega)] at U2; simp [upd]; exact f1.trans U2
        · rw [if_neg (by show ¬ n1 + (H1 - L1 + 1) = 0; omega)]; rw [if_neg (by show ¬ n1 = 0; omega)] at U3; simp [upd]; exact f2.trans U3
      · refine Go_aload_n (pc' := 8) dX7_keep_7 rfl rfl rfl ?_
        refine Go_iload_n (pc' := 9) dX7_keep_8 rfl rfl rfl ?_
        refine Go_putI (pc' := 12) dX7_keep_9 rfl kf_RX7_15 (by decide) (by decide) rfl (S.b 68 rfl rfl) (S.o 68 rfl rfl rfl) (Or.inl rfl) rfl rfl ?_
        refine Go_aload_n (pc' := 13) dX7_keep_12 rfl rfl rfl ?_
        refine Go_aload_n (pc' := 14) dX7_keep_13 rfl rfl rfl ?_
        refine Go_getIv (v := (iZ L1)) (pc' := 17) dX7_keep_14 rfl kf_RX7_21 (by decide) (by decide) rfl (S.b 68 rfl rfl) (S.o 68 rfl rfl rfl) ((vi_skip (Or.inr (by decide))).trans ((vi_setR h 68 u1 3).trans f3)) ?_
        refine Go_putI (pc' := 20) dX7_keep_17 rfl kf_RX7_18 (by decide) (by decide) rfl (S.b 68 rfl rfl) (S.o 68 rfl rfl rfl) (Or.inl rfl) rfl rfl ?_
        refine Go_aload_n (pc' := 21) dX7_keep_20 rfl rfl rfl ?_
        refine Go_dup (pc' := 22) dX7_keep_21 rfl rfl ?_
        refine Go_getIv (v := (iZ n1)) (pc' := 25) dX7_keep_22 rfl kf_RX7_9 (by decide) (by decide) rfl (S.b 68 rfl rfl) (S.o 68 rfl rfl rfl) ((vi_skip (Or.inr (by decide))).trans ((vi_skip (Or.inr (by decide))).trans ((vi_setR h 68 u1 0).trans (f0.trans U1)))) ?_
        refine Go_aload_n (pc' := 26) dX7_keep_25 rfl rfl rfl ?_
        refine Go_getIv (v := (iZ H1)) (pc' := 29) dX7_keep_26 rfl kf_RX7_24 (by decide) (by decide) rfl (S.b 68 rfl rfl) (S.o 68 rfl rfl rfl) ((vi_skip (Or.inr (by decide))).trans ((vi_skip (Or.inr (by decide))).trans ((vi_setR h 68 u1 4).trans f4))) ?_
        refine Go_aload_n (pc' := 30) dX7_keep_29 rfl rfl rfl ?_
        refine Go_getIv (v := (iZ L1)) (pc' := 33) dX7_keep_30 rfl kf_RX7_21 (by decide) (by decide) rfl (S.b 68 rfl rfl) (S.o 68 rfl rfl rfl) ((vi_skip (Or.inr (by decide))).trans ((vi_skip (Or.inr (by decide))).trans ((vi_setR h 68 u1 3).trans f3))) ?_
        refine Go_isubZ (pc' := 34) dX7_keep_33 rfl ?_
        refine Go_iconst (v := iZ 1) (pc' := 35) dX7_keep_34 rfl (by decide) ?_
        refine Go_iaddZ (pc' := 36) dX7_keep_35 rfl ?_
        refine Go_iaddZ (pc' := 37) dX7_keep_36 rfl ?_
        refine Go_putI (pc' := 40) dX7_keep_37 rfl kf_RX7_9 (by decide) (by decide) rfl (S.b 68 rfl rfl) (S.o 68 rfl rfl rfl) (Or.inl rfl) rfl rfl ?_
        refine Go_return dX7_keep_40 rfl ?_
        refine ⟨rfl, ?_⟩
        refine Go_iincZ (pc' := 120) (lv' := [.ref _, .ref _, .int _, .int _, .int _, .int _, _]) dX7_search_117 rfl rfl (Nat.le_of_ble_eq_true rfl) rfl rfl ?_
        refine Go_goto (tgt := 18) dX7_search_120 (by decide) ?_
        rw [setR_wI, setR_wI, setR_wI]
        rw [sso_s (t' := (H1 - L1 + 1, 64 * D + L1)) (by rw [es, if_pos (by omega), if_pos (by omega)]; exact Prod.ext (by show n1 + _ = _; omega) rfl)] at hk
        refine ih (D + 1) _ _ _ _ _ (by omega) (by omega) (by omega) (by omega) ⟨?_, ?_, ?_⟩ hk
        · simp [upd]; exact congrArg iZ (by omega)
        · rw [if_neg (by show ¬ H1 - L1 + 1 = 0; omega)]; simp [upd]; exact congrArg iZ (by omega)
        · rw [if_neg (by show ¬ H1 - L1 + 1 = 0; omega)]; simp [upd]; exact congrArg iZ (by omega)
set_option maxRecDepth 20000 in
set_option maxHeartbeats 1000000 in
theorem s_search {G : GC} {d mc ms : Nat} {h : HS} {K : Option Value → HS → Prop} {j o n : Nat} {a b : Int} (S : Shp h) (M : Smp h j o n) (ha : 0 ≤ a ∧ b < n) (hab : a + 2 ≤ b) (hw : ∀ X, a ≤ X → X ≤ b → ¬ sap h o X = -1000000000) (hk : ∀ u, U3 u (sso (gsw h o a b) 64 0 (0, -1)) → K none (setR h 68 u)) : Go G (d + 3) mc ms M_X7_search 0 [.ref 68, .ref o, .int (iZ a), .int (iZ b), un, un, un] [] h K := by
  refine Go_aload_n (pc' := 1) dX7_search_0 rfl rfl rfl ?_
  refine Go_iconst (v := iZ 0) (pc' := 2) dX7_search_1 rfl (by decide) ?_
  refine Go_putI (pc' := 5) dX7_search_2 rfl kf_RX7_9 (by decide) (by decide) rfl (S.b 68 rfl rfl) (S.o 68 rfl rfl rfl) (Or.inl rfl) rfl rfl ?_
  refine Go_aload_n (pc' := 6) dX7_search_5 rfl rfl rfl ?_
  refine Go_iconst (v := iZ (-1)) (pc' := 7) dX7_search_6 rfl (by decide) ?_
  refine Go_putI (pc' := 10) dX7_search_7 rfl kf_RX7_15 (by decide) (by decide) rfl (S.b 68 rfl rfl) (S.o 68 rfl rfl rfl) (Or.inl rfl) rfl rfl ?_
  refine Go_aload_n (pc' := 11) dX7_search_10 rfl rfl rfl ?_
  refine Go_iconst (v := iZ (-1)) (pc' := 12) dX7_search_11 rfl (by decide) ?_
  refine Go_putI (pc' := 15) dX7_search_12 rfl kf_RX7_18 (by decide) (by decide) rfl (S.b 68 rfl rfl) (S.o 68 rfl rfl rfl) (Or.inl rfl) rfl rfl ?_
  refine Go_iconst (v := iZ 0) (pc' := 16) dX7_search_15 rfl (by decide) ?_
  refine Go_istore (pc' := 18) (lv' := [.ref _, .ref _, .int _, .int _, .int _, un, un]) dX7_search_16 rfl (Nat.le_of_ble_eq_true rfl) rfl rfl ?_
  rw [show (wI (wI (wI h 68 0 (iZ 0)) 68 1 (iZ (-1))) 68 2 (iZ (-1))) = setR h 68 (upd (upd (upd (vi h 68) 0 (iZ 0)) 1 (iZ (-1))) 2 (iZ (-1))) from by rw [← setR_wI, ← setR_wI, ← setR_wI, setR_self]]
  exact sw_out S M ha hab hw 64 0 0 (-1) _ _ _ (by omega) (by omega) (by omega) (by omega) ⟨by simp [upd], by simp [upd], by simp [upd]⟩ hk
