/-! pair: swing -/
theorem tdiv_iff (N p : Int) : N.tdiv 64 = p ↔ (if 0 < p then 64 * p else 64 * p - 63) ≤ N ∧ N ≤ (if p < 0 then 64 * p else 64 * p + 63) := by
  by_cases h : 0 ≤ N
  · rw [Int.tdiv_eq_ediv_of_nonneg h]
    split <;> split <;> omega
  · have e : N.tdiv 64 = -((-N) / 64) := by
      rw [← Int.tdiv_eq_ediv_of_nonneg (by omega : 0 ≤ -N), Int.neg_tdiv, Int.neg_neg]
    rw [e]
    split <;> split <;> omega
theorem nr_p {W p y L H l m T : Int} (hy : 0 < y) (hl : ∀ N : Int, N.tdiv 64 = p ↔ l + W ≤ N ∧ N ≤ m + W) : (max L (-((-l) / y)) ≤ T ∧ T ≤ min H (m / y)) ↔ (L ≤ T ∧ T ≤ H) ∧ (W + T * y).tdiv 64 = p := by
  rw [hl]
  have h1 : T ≤ m / y ↔ T * y ≤ m := Int.le_ediv_iff_mul_le hy
  have h2 : -T ≤ (-l) / y ↔ -T * y ≤ -l := Int.le_ediv_iff_mul_le hy
  rw [Int.neg_mul] at h2
  generalize T * y = Q at *
  generalize m / y = A at *
  generalize (-l) / y = B at *
  omega
theorem nr_n {W p y L H l m T : Int} (hy : y < 0) (hl : ∀ N : Int, N.tdiv 64 = p ↔ l + W ≤ N ∧ N ≤ m + W) : (max L (-((-(-m)) / (-y))) ≤ T ∧ T ≤ min H ((-l) / (-y))) ↔ (L ≤ T ∧ T ≤ H) ∧ (W + T * y).tdiv 64 = p := by
  rw [hl]
  have h1 : T ≤ (-l) / (-y) ↔ T * (-y) ≤ -l := Int.le_ediv_iff_mul_le (by omega)
  have h2 : -T ≤ (-(-m)) / (-y) ↔ -T * (-y) ≤ -(-m) := Int.le_ediv_iff_mul_le (by omega)
  rw [Int.neg_mul, Int.mul_neg] at h2
  rw [Int.mul_neg] at h1
  generalize T * y = Q at *
  generalize (-l) / (-y) = A at *
  generalize (-(-m)) / (-y) = B at *
  omega
theorem nr_z {W p y L H l m T : Int} (hy : y = 0) (hl : ∀ N : Int, N.tdiv 64 = p ↔ l + W ≤ N ∧ N ≤ m + W) (h0 : l ≤ 0 ∧ 0 ≤ m) : (L ≤ T ∧ T ≤ H) ↔ (L ≤ T ∧ T ≤ H) ∧ (W + T * y).tdiv 64 = p := by
  rw [hl, hy, Int.mul_zero]; omega
theorem nr_e {W p y L H l m T : Int} (hy : y = 0) (hl : ∀ N : Int, N.tdiv 64 = p ↔ l + W ≤ N ∧ N ≤ m + W) (h0 : 0 < l ∨ m < 0) : (L ≤ T ∧ T ≤ L - 1) ↔ (L ≤ T ∧ T ≤ H) ∧ (W + T * y).tdiv 64 = p := by
  rw [hl, hy, Int.mul_zero]; omega
theorem td_p {p W : Int} (hp : 0 < p) (N : Int) : N.tdiv 64 = p ↔ (64 * p - W) + W ≤ N ∧ N ≤ (64 * p + 63 - W) + W := by
  rw [tdiv_iff, if_pos hp, if_neg (by omega)]; omega
theorem td_z {p W : Int} (hp : p = 0) (N : Int) : N.tdiv 64 = p ↔ (64 * p - 63 - W) + W ≤ N ∧ N ≤ (64 * p + 63 - W) + W := by
  rw [tdiv_iff, if_neg (by omega), if_neg (by omega)]; omega
theorem td_n {p W : Int} (hp : p < 0) (N : Int) : N.tdiv 64 = p ↔ (64 * p - 63 - W) + W ≤ N ∧ N ≤ (64 * p - W) + W := by
  rw [tdiv_iff, if_neg (by omega), if_pos hp]; omega
theorem div_b {A y B : Int} (hy : 1 ≤ y) (hA : -B ≤ A ∧ A ≤ B) (hB : 0 ≤ B) : -B ≤ A / y ∧ A / y ≤ B := by
  have h1 : A / y ≤ B ↔ A < (B + 1) * y := by rw [← Int.ediv_lt_iff_lt_mul (by omega)]; omega
  have h2 : -B ≤ A / y ↔ -B * y ≤ A := Int.le_ediv_iff_mul_le (by omega)
  have h3 : B * 1 ≤ B * y := Int.mul_le_mul_of_nonneg_left hy hB
  rw [Int.neg_mul] at h2
  rw [Int.add_mul] at h1
  omega

set_option maxRecDepth 20000 in
set_option maxHeartbeats 4000000 in
theorem s_nar {G : GC} {d mc ms : Nat} {h : HS} {K : Option Value → HS → Prop} {u : Nat → Int32} {p W y L H : Int} (S : Shp h) (e3 : u 3 = iZ L) (e4 : u 4 = iZ H) (hp : -4000 ≤ p ∧ p ≤ 4000) (hW : -130000 ≤ W ∧ W ≤ 130000) (hy : -999 ≤ y ∧ y ≤ 999) (hL : 0 ≤ L ∧ L ≤ 1000000) (hH : -1000000 ≤ H ∧ H ≤ 63) (hLH : L ≤ H) (hk : ∀ (u' : Nat → Int32) (L' H' : Int), u' 0 = u 0 → u' 1 = u 1 → u' 2 = u 2 → u' 3 = iZ L' → u' 4 = iZ H' → (0 ≤ L' ∧ L' ≤ 1000000) → (-1000000 ≤ H' ∧ H' ≤ 63) → (∀ T, 0 ≤ T → T ≤ 63 → ((L' ≤ T ∧ T ≤ H') ↔ (L ≤ T ∧ T ≤ H) ∧ (W + T * y).tdiv 64 = p)) → K none (setR h 68 u')) : Go G (d + 2) mc ms M_X7_narrow 0 [.ref 68, .int (iZ p), .int (iZ W), .int (iZ y), un, un] [] (setR h 68 u) K := by
  refine Go_iload_n (pc' := 1) dX7_narrow_0 rfl rfl rfl ?_
  refine Go_if_leY (tgt := 11) (pc' := 4) dX7_narrow_1 (by decide) rfl (by first | exact ⟨i_lo _, i_hi _⟩ | omega) (fun c1 => ?_) (fun c1 => ?_)
  · refine Go_bipush (v := iZ 64) (pc' := 13) dX7_narrow_11 rfl (by decide) ?_
    refine Go_iload_n (pc' := 14) dX7_narrow_13 rfl rfl rfl ?_
    refine Go_imulZ (pc' := 15) dX7_narrow_14 rfl ?_
    refine Go_bipush (v := iZ 63) (pc' := 17) dX7_narrow_15 rfl (by decide) ?_
    refine Go_isubZ (pc' := 18) dX7_narrow_17 rfl ?_
    refine Go_iload_n (pc' := 19) dX7_narrow_18 rfl rfl rfl ?_
    refine Go_isubZ (pc' := 20) dX7_narrow_19 rfl ?_
    refine Go_istore (pc' := 22) (lv' := [.ref _, .int _, .int _, .int _, .int _, un]) dX7_narrow_20 rfl (Nat.le_of_ble_eq_true rfl) rfl rfl ?_
    refine Go_iload_n (pc' := 23) dX7_narrow_22 rfl rfl rfl ?_
    refine Go_if_geY (tgt := 33) (pc' := 26) dX7_narrow_23 (by decide) rfl (by first | exact ⟨i_lo _, i_hi _⟩ | omega) (fun c23 => ?_) (fun c23 => ?_)
    · refine Go_bipush (v := iZ 64) (pc' := 35) dX7_narrow_33 rfl (by decide) ?_
      refine Go_iload_n (pc' := 36) dX7_narrow_35 rfl rfl rfl ?_
      refine Go_imulZ (pc' := 37) dX7_narrow_36 rfl ?_
      refine Go_bipush (v := iZ 63) (pc' := 39) dX7_narrow_37 rfl (by decide) ?_
      refine Go_iaddZ (pc' := 40) dX7_narrow_39 rfl ?_
      refine Go_iload_n (pc' := 41) dX7_narrow_40 rfl rfl rfl ?_
      refine Go_isubZ (pc' := 42) dX7_narrow_41 rfl ?_
      refine Go_istore (pc' := 44) (lv' := [.ref _, .int _, .int _, .int _, .int _, .int _]) dX7_narrow_42 rfl (Nat.le_of_ble_eq_true rfl) rfl rfl ?_
      refine Go_iload_n (pc' := 45) dX7_narrow_44 rfl rfl rfl ?_
      refine Go_if_leY (tgt := 60) (pc' := 48) dX7_narrow_45 (by decide) rfl (by first | exact ⟨i_lo _, i_hi _⟩ | omega) (fun c45 => ?_) (fun c45 => ?_)
      · refine Go_iload_n (pc' := 61) dX7_narrow_60 rfl rfl rfl ?_
        refine Go_if_geY (tgt := 79) (pc' := 64) dX7_narrow_61 (by decide) rfl (by first | exact ⟨i_lo _, i_hi _⟩ | omega) (fun c61 => ?_) (fun c61 => ?_)
        · refine Go_iload (pc' := 81) dX7_narrow_79 rfl rfl ?_
          refine Go_if_gtY (tgt := 89) (pc' := 84) dX7_narrow_81 (by decide) rfl (by first | exact ⟨i_lo _, i_hi _⟩ | omega) (fun c81 => ?_) (fun c81 => ?_)
          · refine Go_aload_n (pc' := 90) dX7_narrow_89 rfl rfl rfl ?_
            refine Go_aload_n (pc' := 91) dX7_narrow_90 rfl rfl rfl ?_
            refine Go_getIv (v := (iZ L)) (pc' := 94) dX7_narrow_91 rfl kf_RX7_21 (by decide) (by decide) rfl (S.b 68 rfl rfl) (S.o 68 rfl rfl rfl) ((vi_setR h 68 u 3).trans e3) ?_
            refine Go_iconst (v := iZ 1) (pc' := 95) dX7_narrow_94 rfl (by decide) ?_
            refine Go_isubZ (pc' := 96) dX7_narrow_95 rfl ?_
            refine Go_putI (pc' := 99) dX7_narrow_96 rfl kf_RX7_24 (by decide) (by decide) rfl (S.b 68 rfl rfl) (S.o 68 rfl rfl rfl) (Or.inl rfl) rfl rfl ?_
            refine Go_return dX7_narrow_99 rfl ?_
            rw [setR_wI]
            refine hk _ L (L - 1) (by simp [upd]) (by simp [upd]) (by simp [upd]) (by simp [upd, e3]) (by simp [upd, e4]) (by omega) (by omega) (fun T t0 t1 => ?_)
            exact nr_e (by omega) (td_z (by omega)) (by omega)
          · refine Go_iload (pc' := 86) dX7_narrow_84 rfl rfl ?_
            refine Go_if_geY (tgt := 99) (pc' := 89) dX7_narrow_86 (by decide) rfl (by first | exact ⟨i_lo _, i_hi _⟩ | omega) (fun c86 => ?_) (fun c86 => ?_)
            · refine Go_return dX7_narrow_99 rfl ?_
              refine hk _ L H (by simp [upd]) (by simp [upd]) (by simp [upd]) (by simp [upd, e3]) (by simp [upd, e4]) (by omega) (by omega) (fun T t0 t1 => ?_)
              exact nr_z (by omega) (td_z (by omega)) (by omega)
            · refine Go_aload_n (pc' := 90) dX7_narrow_89 rfl rfl rfl ?_
              refine Go_aload_n (pc' := 91) dX7_narrow_90 rfl rfl rfl ?_
              refine Go_getIv (v := (iZ L)) (pc' := 94) dX7_narrow_91 rfl kf_RX7_21 (by decide) (by decide) rfl (S.b 68 rfl rfl) (S.o 68 rfl rfl rfl) ((vi_setR h 68 u 3).trans e3) ?_
              refine Go_iconst (v := iZ 1) (pc' := 95) dX7_narrow_94 rfl (by decide) ?_
              refine Go_isubZ (pc' := 96) dX7_narrow_95 rfl ?_
              refine Go_putI (pc' := 99) dX7_narrow_96 rfl kf_RX7_24 (by decide) (by decide) rfl (S.b 68 rfl rfl) (S.o 68 rfl rfl rfl) (Or.inl rfl) rfl rfl ?_
              refine Go_return dX7_narrow_99 rfl ?_
              rw [setR_wI]
              refine hk _ L (L - 1) (by simp [upd]) (by simp [upd]) (by simp [upd]) (by simp [upd, e3]) (by simp [upd, e4]) (by omega) (by omega) (fun T t0 t1 => ?_)
              exact nr_e (by omega) (td_z (by omega)) (by omega)
        · refine Go_aload_n (pc' := 65) dX7_narrow_64 rfl rfl rfl ?_
          refine Go_iload (pc' := 67) dX7_narrow_65 rfl rfl ?_
          refine Go_inegZ (pc' := 68) dX7_narrow_67 rfl ?_
          refine Go_iload (pc' := 70) dX7_narrow_68 rfl rfl ?_
          refine Go_inegZ (pc' := 71) dX7_narrow_70 rfl ?_
          refine Go_iload_n (pc' := 72) dX7_narrow_71 rfl rfl rfl ?_
          refine Go_inegZ (pc' := 73) dX7_narrow_72 rfl ?_
          refine Go_callV_v (pc' := 76) (As := [.int _, .int _, .int _]) (st := []) dX7_narrow_73 rfl ok_X7_keepBetween km_RX7_44 (S.o 68 rfl rfl rfl) (S.b 68 rfl rfl) ⟨_, _, rfl⟩ rfl (Nat.le_of_ble_eq_true rfl) rfl rfl rfl (Nat.le_of_ble_eq_true rfl) (Nat.lt_succ_self _) ?_
          refine Go_iload_n (pc' := 1) dX7_keepBetween_0 rfl rfl rfl ?_
          refine Go_if_leY (tgt := 38) (pc' := 4) dX7_keepBetween_1 (by decide) rfl (by first | exact ⟨i_lo _, i_hi _⟩ | omega) (fun z1 => by exfalso; omega) (fun z1 => ?_)
          refine Go_aload_n (pc' := 5) dX7_keepBetween_4 rfl rfl rfl ?_
          refine Go_aload_n (pc' := 6) dX7_keepBetween_5 rfl rfl rfl ?_
          refine Go_getIv (v := (iZ L)) (pc' := 9) dX7_keepBetween_6 rfl kf_RX7_21 (by decide) (by decide) rfl (S.b 68 rfl rfl) (S.o 68 rfl rfl rfl) ((vi_setR h 68 u 3).trans e3) ?_
          refine Go_iload_n (pc' := 10) dX7_keepBetween_9 rfl rfl rfl ?_
          refine Go_inegZ (pc' := 11) dX7_keepBetween_10 rfl ?_
          refine Go_iload_n (pc' := 12) dX7_keepBetween_11 rfl rfl rfl ?_
          refine Go_callS_i (pc' := 15) (As := [.int _, .int _]) (st := [.int _, .ref _]) dX7_keepBetween_12 rfl ok_J9_floorDiv_7cf53 km_RX7_47 rfl (Nat.le_of_ble_eq_true rfl) rfl rfl rfl (Nat.le_of_ble_eq_true rfl) (Nat.lt_succ_self _) ?_
          refine s_fdivY (by omega) (by omega) ?_
          have bx12 := div_b (A := (-(-(((64 * p) + 63) - W)))) (y := (-y)) (B := 1000000) (by omega) (by omega) (by omega)
          refine ⟨_, rfl, ?_⟩
          refine Go_inegZ (pc' := 16) dX7_keepBetween_15 rfl ?_
          refine Go_callS_i (pc' := 19) (As := [.int _, .int _]) (st := [.ref _]) dX7_keepBetween_16 rfl ok_J9_max_7cf53 km_RX7_53 rfl (Nat.le_of_ble_eq_true rfl) rfl rfl rfl (Nat.le_of_ble_eq_true rfl) (Nat.lt_succ_self _) ?_
          refine s_maxY (by first | exact ⟨i_lo _, i_hi _⟩ | omega) (by first | exact ⟨i_lo _, i_hi _⟩ | omega) ?_
          refine ⟨_, rfl, ?_⟩
          refine Go_putI (pc' := 22) dX7_keepBetween_19 rfl kf_RX7_21 (by decide) (by decide) rfl (S.b 68 rfl rfl) (S.o 68 rfl rfl rfl) (Or.inl rfl) rfl rfl ?_
          refine Go_aload_n (pc' := 23) dX7_keepBetween_22 rfl rfl rfl ?_
          refine Go_aload_n (pc' := 24) dX7_keepBetween_23 rfl rfl rfl ?_
          refine Go_getIv (v := (iZ H)) (pc' := 27) dX7_keepBetween_24 rfl kf_RX7_24 (by decide) (by decide) rfl (S.b 68 rfl rfl) (S.o 68 rfl rfl rfl) ((vi_skip (Or.inr (by decide))).trans ((vi_setR h 68 u 4).trans e4)) ?_
          refine Go_iload_n (pc' := 28) dX7_keepBetween_27 rfl rfl rfl ?_
          refine Go_iload_n (pc' := 29) dX7_keepBetween_28 rfl rfl rfl ?_
          refine Go_callS_i (pc' := 32) (As := [.int _, .int _]) (st := [.int _, .ref _]) dX7_keepBetween_29 rfl ok_J9_floorDiv_7cf53 km_RX7_47 rfl (Nat.le_of_ble_eq_true rfl) rfl rfl rfl (Nat.le_of_ble_eq_true rfl) (Nat.lt_succ_self _) ?_
          refine s_fdivY (by omega) (by omega) ?_
          have bx29 := div_b (A := (-(((64 * p) - 63) - W))) (y := (-y)) (B := 1000000) (by omega) (by omega) (by omega)
          refine ⟨_, rfl, ?_⟩
          refine Go_callS_i (pc' := 35) (As := [.int _, .int _]) (st := [.ref _]) dX7_keepBetween_32 rfl ok_J9_min_7cf53 km_RX7_56 rfl (Nat.le_of_ble_eq_true rfl) rfl rfl rfl (Nat.le_of_ble_eq_true rfl) (Nat.lt_succ_self _) ?_
          refine s_minY (by first | exact ⟨i_lo _, i_hi _⟩ | omega) (by first | exact ⟨i_lo _, i_hi _⟩ | omega) ?_
          refine ⟨_, rfl, ?_⟩
          refine Go_putI (pc' := 38) dX7_keepBetween_35 rfl kf_RX7_24 (by decide) (by decide) rfl (S.b 68 rfl rfl) (S.o 68 rfl rfl rfl) (Or.inl rfl) rfl rfl ?_
          refine Go_return dX7_keepBetween_38 rfl ?_
          refine ⟨rfl, ?_⟩
          refine Go_goto (tgt := 99) dX7_narrow_76 (by decide) ?_
          refine Go_return dX7_narrow_99 rfl ?_
          have b0 := div_b (A := (-(-(((64 * p) + 63) - W)))) (y := (-y)) (B := 1000000) (by omega) (by omega) (by omega)
          have b1 := div_b (A := (-(((64 * p) - 63) - W))) (y := (-y)) (B := 1000000) (by omega) (by omega) (by omega)
          rw [setR_wI, setR_wI]
          refine hk _ (max L (-((-(-(((64 * p) + 63) - W))) / (-y)))) (min H ((-(((64 * p) - 63) - W)) / (-y))) (by simp [upd]) (by simp [upd]) (by simp [upd]) (by simp [upd, e3]) (by simp [upd, e4]) (by omega) (by omega) (fun T t0 t1 => ?_)
          exact nr_n (by omega) (td_z (by omega))
      · refine Go_aload_n (pc' := 49) dX7_narrow_48 rfl rfl rfl ?_
        refine Go_iload (pc' := 51) dX7_narrow_49 rfl rfl ?_
        refine Go_iload (pc' := 53) dX7_narrow_51 rfl rfl ?_
        refine Go_iload_n (pc' := 54) dX7_narrow_53 rfl rfl rfl ?_
        refine Go_callV_v (pc' := 57) (As := [.int _, .int _, .int _]) (st := []) dX7_narrow_54 rfl ok_X7_keepBetween km_RX7_44 (S.o 68 rfl rfl rfl) (S.b 68 rfl rfl) ⟨_, _, rfl⟩ rfl (Nat.le_of_ble_eq_true rfl) rfl rfl rfl (Nat.le_of_ble_eq_true rfl) (Nat.lt_succ_self _) ?_
        refine Go_iload_n (pc' := 1) dX7_keepBetween_0 rfl rfl rfl ?_
        refine Go_if_leY (tgt := 38) (pc' := 4) dX7_keepBetween_1 (by decide) rfl (by first | exact ⟨i_lo _, i_hi _⟩ | omega) (fun z1 => by exfalso; omega) (fun z1 => ?_)
        refine Go_aload_n (pc' := 5) dX7_keepBetween_4 rfl rfl rfl ?_
        refine Go_aload_n (pc' := 6) dX7_keepBetween_5 rfl rfl rfl ?_
        refine Go_getIv (v := (iZ L)) (pc' := 9) dX7_keepBetween_6 rfl kf_RX7_21 (by decide) (by decide) rfl (S.b 68 rfl rfl) (S.o 68 rfl rfl rfl) ((vi_setR h 68 u 3).trans e3) ?_
        refine Go_iload_n (pc' := 10) dX7_keepBetween_9 rfl rfl rfl ?_
        refine Go_inegZ (pc' := 11) dX7_keepBetween_10 rfl ?_
        refine Go_iload_n (pc' := 12) dX7_keepBetween_11 rfl rfl rfl ?_
        refine Go_callS_i (pc' := 15) (As := [.int _, .int _]) (st := [.int _, .ref _]) dX7_keepBetween_12 rfl ok_J9_floorDiv_7cf53 km_RX7_47 rfl (Nat.le_of_ble_eq_true rfl) rfl rfl rfl (Nat.le_of_ble_eq_true rfl) (Nat.lt_succ_self _) ?_
        refine s_fdivY (by omega) (by omega) ?_
        have bx12 := div_b (A := (-(((64 * p) - 63) - W))) (y := y) (B := 1000000) (by omega) (by omega) (by omega)
        refine ⟨_, rfl, ?_⟩
        refine Go_inegZ (pc' := 16) dX7_keepBetween_15 rfl ?_
        refine Go_callS_i (pc' := 19) (As := [.int _, .int _]) (st := [.ref _]) dX7_keepBetween_16 rfl ok_J9_max_7cf53 km_RX7_53 rfl (Nat.le_of_ble_eq_true rfl) rfl rfl rfl (Nat.le_of_ble_eq_true rfl) (Nat.lt_succ_self _) ?_
        refine s_maxY (by first | exact ⟨i_lo _, i_hi _⟩ | omega) (by first | exact ⟨i_lo _, i_hi _⟩ | omega) ?_
        refine ⟨_, rfl, ?_⟩
        refine Go_putI (pc' := 22) dX7_keepBetween_19 rfl kf_RX7_21 (by decide) (by decide) rfl (S.b 68 rfl rfl) (S.o 68 rfl rfl rfl) (Or.inl rfl) rfl rfl ?_
        refine Go_aload_n (pc' := 23) dX7_keepBetween_22 rfl rfl rfl ?_
        refine Go_aload_n (pc' := 24) dX7_keepBetween_23 rfl rfl rfl ?_
        refine Go_getIv (v := (iZ H)) (pc' := 27) dX7_keepBetween_24 rfl kf_RX7_24 (by decide) (by decide) rfl (S.b 68 rfl rfl) (S.o 68 rfl rfl rfl) ((vi_skip (Or.inr (by decide))).trans ((vi_setR h 68 u 4).trans e4)) ?_
        refine Go_iload_n (pc' := 28) dX7_keepBetween_27 rfl rfl rfl ?_
        refine Go_iload_n (pc' := 29) dX7_keepBetween_28 rfl rfl rfl ?_
        refine Go_callS_i (pc' := 32) (As := [.int _, .int _]) (st := [.int _, .ref _]) dX7_keepBetween_29 rfl ok_J9_floorDiv_7cf53 km_RX7_47 rfl (Nat.le_of_ble_eq_true rfl) rfl rfl rfl (Nat.le_of_ble_eq_true rfl) (Nat.lt_succ_self _) ?_
        refine s_fdivY (by omega) (by omega) ?_
        have bx29 := div_b (A := (((64 * p) + 63) - W)) (y := y) (B := 1000000) (by omega) (by omega) (by omega)
        refine ⟨_, rfl, ?_⟩
        refine Go_callS_i (pc' := 35) (As := [.int _, .int _]) (st := [.ref _]) dX7_keepBetween_32 rfl ok_J9_min_7cf53 km_RX7_56 rfl (Nat.le_of_ble_eq_true rfl) rfl rfl rfl (Nat.le_of_ble_eq_true rfl) (Nat.lt_succ_self _) ?_
        refine s_minY (by first | exact ⟨i_lo _, i_hi _⟩ | omega) (by first | exact ⟨i_lo _, i_hi _⟩ | omega) ?_
        refine ⟨_, rfl, ?_⟩
        refine Go_putI (pc' := 38) dX7_keepBetween_35 rfl kf_RX7_24 (by decide) (by decide) rfl (S.b 68 rfl rfl) (S.o 68 rfl rfl rfl) (Or.inl rfl) rfl rfl ?_
        refine Go_return dX7_keepBetween_38 rfl ?_
        refine ⟨rfl, ?_⟩
        refine Go_goto (tgt := 99) dX7_narrow_57 (by decide) ?_
        refine Go_return dX7_narrow_99 rfl ?_
        have b0 := div_b (A := (-(((64 * p) - 63) - W))) (y := y) (B := 1000000) (by omega) (by omega) (by omega)
        have b1 := div_b (A := (((64 * p) + 63) - W)) (y := y) (B := 1000000) (by omega) (by omega) (by omega)
        rw [setR_wI, setR_wI]
        refine hk _ (max L (-((-(((64 * p) - 63) - W)) / y))) (min H ((((64 * p) + 63) - W) / y)) (by simp [upd]) (by simp [upd]) (by simp [upd]) (by simp [upd, e3]) (by simp [upd, e4]) (by omega) (by omega) (fun T t0 t1 => ?_)
        exact nr_p (by omega) (td_z (by omega))
    · refine Go_bipush (v := iZ 64) (pc' := 28) dX7_narrow_26 rfl (by decide) ?_
      refine Go_iload_n (pc' := 29) dX7_narrow_28 rfl rfl rfl ?_
      refine Go_imulZ (pc' := 30) dX7_narrow_29 rfl ?_
      refine Go_goto (tgt := 40) dX7_narrow_30 (by decide) ?_
      refine Go_iload_n (pc' := 41) dX7_narrow_40 rfl rfl rfl ?_
      refine Go_isubZ (pc' := 42) dX7_narrow_41 rfl ?_
      refine Go_istore (pc' := 44) (lv' := [.ref _, .int _, .int _, .int _, .int _, .int _]) dX7_narrow_42 rfl (Nat.le_of_ble_eq_true rfl) rfl rfl ?_
      refine Go_iload_n (pc' := 45) dX7_narrow_44 rfl rfl rfl ?_
      refine Go_if_leY (tgt := 60) (pc' := 48) dX7_narrow_45 (by decide) rfl (by first | exact ⟨i_lo _, i_hi _⟩ | omega) (fun c45 => ?_) (fun c45 => ?_)
      · refine Go_iload_n (pc' := 61) dX7_narrow_60 rfl rfl rfl ?_
        refine Go_if_geY (tgt := 79) (pc' := 64) dX7_narrow_61 (by decide) rfl (by first | exact ⟨i_lo _, i_hi _⟩ | omega) (fun c61 => ?_) (fun c61 => ?_)
        · refine Go_iload (pc' := 81) dX7_narrow_79 rfl rfl ?_
          refine Go_if_gtY (tgt := 89) (pc' := 84) dX7_narrow_81 (by decide) rfl (by first | exact ⟨i_lo _, i_hi _⟩ | omega) (fun c81 => ?_) (fun c81 => ?_)
          · refine Go_aload_n (pc' := 90) dX7_narrow_89 rfl rfl rfl ?_
            refine Go_aload_n (pc' := 91) dX7_narrow_90 rfl rfl rfl ?_
            refine Go_getIv (v := (iZ L)) (pc' := 94) dX7_narrow_91 rfl kf_RX7_21 (by decide) (by decide) rfl (S.b 68 rfl rfl) (S.o 68 rfl rfl rfl) ((vi_setR h 68 u 3).trans e3) ?_
            refine Go_iconst (v := iZ 1) (pc' := 95) dX7_narrow_94 rfl (by decide) ?_
            refine Go_isubZ (pc' := 96) dX7_narrow_95 rfl ?_
            refine Go_putI (pc' := 99) dX7_narrow_96 rfl kf_RX7_24 (by decide) (by decide) rfl (S.b 68 rfl rfl) (S.o 68 rfl rfl rfl) (Or.inl rfl) rfl rfl ?_
            refine Go_return dX7_narrow_99 rfl ?_
            rw [setR_wI]
            refine hk _ L (L - 1) (by simp [upd]) (by simp [upd]) (by simp [upd]) (by simp [upd, e3]) (by simp [upd, e4]) (by omega) (by omega) (fun T t0 t1 => ?_)
            exact nr_e (by omega) (td_n (by omega)) (by omega)
          · refine Go_iload (pc' := 86) dX7_narrow_84 rfl rfl ?_
            refine Go_if_geY (tgt := 99) (pc' := 89) dX7_narrow_86 (by decide) rfl (by first | exact ⟨i_lo _, i_hi _⟩ | omega) (fun c86 => ?_) (fun c86 => ?_)
            · refine Go_return dX7_narrow_99 rfl ?_
              refine hk _ L H (by simp [upd]) (by simp [upd]) (by simp [upd]) (by simp [upd, e3]) (by simp [upd, e4]) (by omega) (by omega) (fun T t0 t1 => ?_)
              exact nr_z (by omega) (td_n (by omega)) (by omega)
            · refine Go_aload_n (pc' := 90) dX7_narrow_89 rfl rfl rfl ?_
              refine Go_aload_n (pc' := 91) dX7_narrow_90 rfl rfl rfl ?_
              refine Go_getIv (v := (iZ L)) (pc' := 94) dX7_narrow_91 rfl kf_RX7_21 (by decide) (by decide) rfl (S.b 68 rfl rfl) (S.o 68 rfl rfl rfl) ((vi_setR h 68 u 3).trans e3) ?_
              refine Go_iconst (v := iZ 1) (pc' := 95) dX7_narrow_94 rfl (by decide) ?_
              refine Go_isubZ (pc' := 96) dX7_narrow_95 rfl ?_
              refine Go_putI (pc' := 99) dX7_narrow_96 rfl kf_RX7_24 (by decide) (by decide) rfl (S.b 68 rfl rfl) (S.o 68 rfl rfl rfl) (Or.inl rfl) rfl rfl ?_
              refine Go_return dX7_narrow_99 rfl ?_
              rw [setR_wI]
              refine hk _ L (L - 1) (by simp [upd]) (by simp [upd]) (by simp [upd]) (by simp [upd, e3]) (by simp [upd, e4]) (by omega) (by omega) (fun T t0 t1 => ?_)
              exact nr_e (by omega) (td_n (by omega)) (by omega)
        · refine Go_aload_n (pc' := 65) dX7_narrow_64 rfl rfl rfl ?_
          refine Go_iload (pc' := 67) dX7_narrow_65 rfl rfl ?_
          refine Go_inegZ (pc' := 68) dX7_narrow_67 rfl ?_
          refine Go_iload (pc' := 70) dX7_narrow_68 rfl rfl ?_
          refine Go_inegZ (pc' := 71) dX7_narrow_70 rfl ?_
          refine Go_iload_n (pc' := 72) dX7_narrow_71 rfl rfl rfl ?_
          refine Go_inegZ (pc' := 73) dX7_narrow_72 rfl ?_
          refine Go_callV_v (pc' := 76) (As := [.int _, .int _, .int _]) (st := []) dX7_narrow_73 rfl ok_X7_keepBetween km_RX7_44 (S.o 68 rfl rfl rfl) (S.b 68 rfl rfl) ⟨_, _, rfl⟩ rfl (Nat.le_of_ble_eq_true rfl) rfl rfl rfl (Nat.le_of_ble_eq_true rfl) (Nat.lt_succ_self _) ?_
          refine Go_iload_n (pc' := 1) dX7_keepBetween_0 rfl rfl rfl ?_
          refine Go_if_leY (tgt := 38) (pc' := 4) dX7_keepBetween_1 (by decide) rfl (by first | exact ⟨i_lo _, i_hi _⟩ | omega) (fun z1 => by exfalso; omega) (fun z1 => ?_)
          refine Go_aload_n (pc' := 5) dX7_keepBetween_4 rfl rfl rfl ?_
          refine Go_aload_n (pc' := 6) dX7_keepBetween_5 rfl rfl rfl ?_
          refine Go_getIv (v := (iZ L)) (pc' := 9) dX7_keepBetween_6 rfl kf_RX7_21 (by decide) (by decide) rfl (S.b 68 rfl rfl) (S.o 68 rfl rfl rfl) ((vi_setR h 68 u 3).trans e3) ?_
          refine Go_iload_n (pc' := 10) dX7_keepBetween_9 rfl rfl rfl ?_
          refine Go_inegZ (pc' := 11) dX7_keepBetween_10 rfl ?_
          refine Go_iload_n (pc' := 12) dX7_keepBetween_11 rfl rfl rfl ?_
          refine Go_callS_i (pc' := 15) (As := [.int _, .int _]) (st := [.int _, .ref _]) dX7_keepBetween_12 rfl ok_J9_floorDiv_7cf53 km_RX7_47 rfl (Nat.le_of_ble_eq_true rfl) rfl rfl rfl (Nat.le_of_ble_eq_true rfl) (Nat.lt_succ_self _) ?_
          refine s_fdivY (by omega) (by omega) ?_
          have bx12 := div_b (A := (-(-((64 * p) - W)))) (y := (-y)) (B := 1000000) (by omega) (by omega) (by omega)
          refine ⟨_, rfl, ?_⟩
          refine Go_inegZ (pc' := 16) dX7_keepBetween_15 rfl ?_
          refine Go_callS_i (pc' := 19) (As := [.int _, .int _]) (st := [.ref _]) dX7_keepBetween_16 rfl ok_J9_max_7cf53 km_RX7_53 rfl (Nat.le_of_ble_eq_true rfl) rfl rfl rfl (Nat.le_of_ble_eq_true rfl) (Nat.lt_succ_self _) ?_
          refine s_maxY (by first | exact ⟨i_lo _, i_hi _⟩ | omega) (by first | exact ⟨i_lo _, i_hi _⟩ | omega) ?_
          refine ⟨_, rfl, ?_⟩
          refine Go_putI (pc' := 22) dX7_keepBetween_19 rfl kf_RX7_21 (by decide) (by decide) rfl (S.b 68 rfl rfl) (S.o 68 rfl rfl rfl) (Or.inl rfl) rfl rfl ?_
          refine Go_aload_n (pc' := 23) dX7_keepBetween_22 rfl rfl rfl ?_
          refine Go_aload_n (pc' := 24) dX7_keepBetween_23 rfl rfl rfl ?_
          refine Go_getIv (v := (iZ H)) (pc' := 27) dX7_keepBetween_24 rfl kf_RX7_24 (by decide) (by decide) rfl (S.b 68 rfl rfl) (S.o 68 rfl rfl rfl) ((vi_skip (Or.inr (by decide))).trans ((vi_setR h 68 u 4).trans e4)) ?_
          refine Go_iload_n (pc' := 28) dX7_keepBetween_27 rfl rfl rfl ?_
          refine Go_iload_n (pc' := 29) dX7_keepBetween_28 rfl rfl rfl ?_
          refine Go_callS_i (pc' := 32) (As := [.int _, .int _]) (st := [.int _, .ref _]) dX7_keepBetween_29 rfl ok_J9_floorDiv_7cf53 km_RX7_47 rfl (Nat.le_of_ble_eq_true rfl) rfl rfl rfl (Nat.le_of_ble_eq_true rfl) (Nat.lt_succ_self _) ?_
          refine s_fdivY (by omega) (by omega) ?_
          have bx29 := div_b (A := (-(((64 * p) - 63) - W))) (y := (-y)) (B := 1000000) (by omega) (by omega) (by omega)
          refine ⟨_, rfl, ?_⟩
          refine Go_callS_i (pc' := 35) (As := [.int _, .int _]) (st := [.ref _]) dX7_keepBetween_32 rfl ok_J9_min_7cf53 km_RX7_56 rfl (Nat.le_of_ble_eq_true rfl) rfl rfl rfl (Nat.le_of_ble_eq_true rfl) (Nat.lt_succ_self _) ?_
          refine s_minY (by first | exact ⟨i_lo _, i_hi _⟩ | omega) (by first | exact ⟨i_lo _, i_hi _⟩ | omega) ?_
          refine ⟨_, rfl, ?_⟩
          refine Go_putI (pc' := 38) dX7_keepBetween_35 rfl kf_RX7_24 (by decide) (by decide) rfl (S.b 68 rfl rfl) (S.o 68 rfl rfl rfl) (Or.inl rfl) rfl rfl ?_
          refine Go_return dX7_keepBetween_38 rfl ?_
          refine ⟨rfl, ?_⟩
          refine Go_goto (tgt := 99) dX7_narrow_76 (by decide) ?_
          refine Go_return dX7_narrow_99 rfl ?_
          have b0 := div_b (A := (-(-((64 * p) - W)))) (y := (-y)) (B := 1000000) (by omega) (by omega) (by omega)
          have b1 := div_b (A := (-(((64 * p) - 63) - W))) (y := (-y)) (B := 1000000) (by omega) (by omega) (by omega)
          rw [setR_wI, setR_wI]
          refine hk _ (max L (-((-(-((64 * p) - W))) / (-y)))) (min H ((-(((64 * p) - 63) - W)) / (-y))) (by simp [upd]) (by simp [upd]) (by simp [upd]) (by simp [upd, e3]) (by simp [upd, e4]) (by omega) (by omega) (fun T t0 t1 => ?_)
          exact nr_n (by omega) (td_n (by omega))
      · refine Go_aload_n (pc' := 49) dX7_narrow_48 rfl rfl rfl ?_
        refine Go_iload (pc' := 51) dX7_narrow_49 rfl rfl ?_
        refine Go_iload (pc' := 53) dX7_narrow_51 rfl rfl ?_
        refine Go_iload_n (pc' := 54) dX7_narrow_53 rfl rfl rfl ?_
        refine Go_callV_v (pc' := 57) (As := [.int _, .int _, .int _]) (st := []) dX7_narrow_54 rfl ok_X7_keepBetween km_RX7_44 (S.o 68 rfl rfl rfl) (S.b 68 rfl rfl) ⟨_, _, rfl⟩ rfl (Nat.le_of_ble_eq_true rfl) rfl rfl rfl (Nat.le_of_ble_eq_true rfl) (Nat.lt_succ_self _) ?_
        refine Go_iload_n (pc' := 1) dX7_keepBetween_0 rfl rfl rfl ?_
        refine Go_if_leY (tgt := 38) (pc' := 4) dX7_keepBetween_1 (by decide) rfl (by first | exact ⟨i_lo _, i_hi _⟩ | omega) (fun z1 => by exfalso; omega) (fun z1 => ?_)
        refine Go_aload_n (pc' := 5) dX7_keepBetween_4 rfl rfl rfl ?_
        refine Go_aload_n (pc' := 6) dX7_keepBetween_5 rfl rfl rfl ?_
        refine Go_getIv (v := (iZ L)) (pc' := 9) dX7_keepBetween_6 rfl kf_RX7_21 (by decide) (by decide) rfl (S.b 68 rfl rfl) (S.o 68 rfl rfl rfl) ((vi_setR h 68 u 3).trans e3) ?_
        refine Go_iload_n (pc' := 10) dX7_keepBetween_9 rfl rfl rfl ?_
        refine Go_inegZ (pc' := 11) dX7_keepBetween_10 rfl ?_
        refine Go_iload_n (pc' := 12) dX7_keepBetween_11 rfl rfl rfl ?_
        refine Go_callS_i (pc' := 15) (As := [.int _, .int _]) (st := [.int _, .ref _]) dX7_keepBetween_12 rfl ok_J9_floorDiv_7cf53 km_RX7_47 rfl (Nat.le_of_ble_eq_true rfl) rfl rfl rfl (Nat.le_of_ble_eq_true rfl) (Nat.lt_succ_self _) ?_
        refine s_fdivY (by omega) (by omega) ?_
        have bx12 := div_b (A := (-(((64 * p) - 63) - W))) (y := y) (B := 1000000) (by omega) (by omega) (by omega)
        refine ⟨_, rfl, ?_⟩
        refine Go_inegZ (pc' := 16) dX7_keepBetween_15 rfl ?_
        refine Go_callS_i (pc' := 19) (As := [.int _, .int _]) (st := [.ref _]) dX7_keepBetween_16 rfl ok_J9_max_7cf53 km_RX7_53 rfl (Nat.le_of_ble_eq_true rfl) rfl rfl rfl (Nat.le_of_ble_eq_true rfl) (Nat.lt_succ_self _) ?_
        refine s_maxY (by first | exact ⟨i_lo _, i_hi _⟩ | omega) (by first | exact ⟨i_lo _, i_hi _⟩ | omega) ?_
        refine ⟨_, rfl, ?_⟩
        refine Go_putI (pc' := 22) dX7_keepBetween_19 rfl kf_RX7_21 (by decide) (by decide) rfl (S.b 68 rfl rfl) (S.o 68 rfl rfl rfl) (Or.inl rfl) rfl rfl ?_
        refine Go_aload_n (pc' := 23) dX7_keepBetween_22 rfl rfl rfl ?_
        refine Go_aload_n (pc' := 24) dX7_keepBetween_23 rfl rfl rfl ?_
        refine Go_getIv (v := (iZ H)) (pc' := 27) dX7_keepBetween_24 rfl kf_RX7_24 (by decide) (by decide) rfl (S.b 68 rfl rfl) (S.o 68 rfl rfl rfl) ((vi_skip (Or.inr (by decide))).trans ((vi_setR h 68 u 4).trans e4)) ?_
        refine Go_iload_n (pc' := 28) dX7_keepBetween_27 rfl rfl rfl ?_
        refine Go_iload_n (pc' := 29) dX7_keepBetween_28 rfl rfl rfl ?_
        refine Go_callS_i (pc' := 32) (As := [.int _, .int _]) (st := [.int _, .ref _]) dX7_keepBetween_29 rfl ok_J9_floorDiv_7cf53 km_RX7_47 rfl (Nat.le_of_ble_eq_true rfl) rfl rfl rfl (Nat.le_of_ble_eq_true rfl) (Nat.lt_succ_self _) ?_
        refine s_fdivY (by omega) (by omega) ?_
        have bx29 := div_b (A := ((64 * p) - W)) (y := y) (B := 1000000) (by omega) (by omega) (by omega)
        refine ⟨_, rfl, ?_⟩
        refine Go_callS_i (pc' := 35) (As := [.int _, .int _]) (st := [.ref _]) dX7_keepBetween_32 rfl ok_J9_min_7cf53 km_RX7_56 rfl (Nat.le_of_ble_eq_true rfl) rfl rfl rfl (Nat.le_of_ble_eq_true rfl) (Nat.lt_succ_self _) ?_
        refine s_minY (by first | exact ⟨i_lo _, i_hi _⟩ | omega) (by first | exact ⟨i_lo _, i_hi _⟩ | omega) ?_
        refine ⟨_, rfl, ?_⟩
        refine Go_putI (pc' := 38) dX7_keepBetween_35 rfl kf_RX7_24 (by decide) (by decide) rfl (S.b 68 rfl rfl) (S.o 68 rfl rfl rfl) (Or.inl rfl) rfl rfl ?_
        refine Go_return dX7_keepBetween_38 rfl ?_
        refine ⟨rfl, ?_⟩
        refine Go_goto (tgt := 99) dX7_narrow_57 (by decide) ?_
        refine Go_return dX7_narrow_99 rfl ?_
        have b0 := div_b (A := (-(((64 * p) - 63) - W))) (y := y) (B := 1000000) (by omega) (by omega) (by omega)
        have b1 := div_b (A := ((64 * p) - W)) (y := y) (B := 1000000) (by omega) (by omega) (by omega)
        rw [setR_wI, setR_wI]
        refine hk _ (max L (-((-(((64 * p) - 63) - W)) / y))) (min H (((64 * p) - W) / y)) (by simp [upd]) (by simp [upd]) (by simp [upd]) (by simp [upd, e3]) (by simp [upd, e4]) (by omega) (by omega) (fun T t0 t1 => ?_)
        exact nr_p (by omega) (td_n (by omega))
  · refine Go_bipush (v := iZ 64) (pc' := 6) dX7_narrow_4 rfl (by decide) ?_
    refine Go_iload_n (pc' := 7) dX7_narrow_6 rfl rfl rfl ?_
    refine Go_imulZ (pc' := 8) dX7_narrow_7 rfl ?_
    refine Go_goto (tgt := 18) dX7_narrow_8 (by decide) ?_
    refine Go_iload_n (pc' := 19) dX7_narrow_18 rfl rfl rfl ?_
    refine Go_isubZ (pc' := 20) dX7_narrow_19 rfl ?_
    refine Go_istore (pc' := 22) (lv' := [.ref _, .int _, .int _, .int _, .int _, un]) dX7_narrow_20 rfl (Nat.le_of_ble_eq_true rfl) rfl rfl ?_
    refine Go_iload_n (pc' := 23) dX7_narrow_22 rfl rfl rfl ?_
    refine Go_if_geY (tgt := 33) (pc' := 26) dX7_narrow_23 (by decide) rfl (by first | exact ⟨i_lo _, i_hi _⟩ | omega) (fun c23 => ?_) (fun c23 => by exfalso; omega)
    refine Go_bipush (v := iZ 64) (pc' := 35) dX7_narrow_33 rfl (by decide) ?_
    refine Go_iload_n (pc' := 36) dX7_narrow_35 rfl rfl rfl ?_
    refine Go_imulZ (pc' := 37) dX7_narrow_36 rfl ?_
    refine Go_bipush (v := iZ 63) (pc' := 39) dX7_narrow_37 rfl (by decide) ?_
    refine Go_iaddZ (pc' := 40) dX7_narrow_39 rfl ?_
    refine Go_iload_n (pc' := 41) dX7_narrow_40 rfl rfl rfl ?_
    refine Go_isubZ (pc' := 42) dX7_narrow_41 rfl ?_
    refine Go_istore (pc' := 44) (lv' := [.ref _, .int _, .int _, .int _, .int _, .int _]) dX7_narrow_42 rfl (Nat.le_of_ble_eq_true rfl) rfl rfl ?_
    refine Go_iload_n (pc' := 45) dX7_narrow_44 rfl rfl rfl ?_
    refine Go_if_leY (tgt := 60) (pc' := 48) dX7_narrow_45 (by decide) rfl (by first | exact ⟨i_lo _, i_hi _⟩ | omega) (fun c45 => ?_) (fun c45 => ?_)
    · refine Go_iload_n (pc' := 61) dX7_narrow_60 rfl rfl rfl ?_
      refine Go_if_geY (tgt := 79) (pc' := 64) dX7_narrow_61 (by decide) rfl (by first | exact ⟨i_lo _, i_hi _⟩ | omega) (fun c61 => ?_) (fun c61 => ?_)
      · refine Go_iload (pc' := 81) dX7_narrow_79 rfl rfl ?_
        refine Go_if_gtY (tgt := 89) (pc' := 84) dX7_narrow_81 (by decide) rfl (by first | exact ⟨i_lo _, i_hi _⟩ | omega) (fun c81 => ?_) (fun c81 => ?_)
        · refine Go_aload_n (pc' := 90) dX7_narrow_89 rfl rfl rfl ?_
          refine Go_aload_n (pc' := 91) dX7_narrow_90 rfl rfl rfl ?_
          refine Go_getIv (v := (iZ L)) (pc' := 94) dX7_narrow_91 rfl kf_RX7_21 (by decide) (by decide) rfl (S.b 68 rfl rfl) (S.o 68 rfl rfl rfl) ((vi_setR h 68 u 3).trans e3) ?_
          refine Go_iconst (v := iZ 1) (pc' := 95) dX7_narrow_94 rfl (by decide) ?_
          refine Go_isubZ (pc' := 96) dX7_narrow_95 rfl ?_
          refine Go_putI (pc' := 99) dX7_narrow_96 rfl kf_RX7_24 (by decide) (by decide) rfl (S.b 68 rfl rfl) (S.o 68 rfl rfl rfl) (Or.inl rfl) rfl rfl ?_
          refine Go_return dX7_narrow_99 rfl ?_
          rw [setR_wI]
          refine hk _ L (L - 1) (by simp [upd]) (by simp [upd]) (by simp [upd]) (by simp [upd, e3]) (by simp [upd, e4]) (by omega) (by omega) (fun T t0 t1 => ?_)
          exact nr_e (by omega) (td_p (by omega)) (by omega)
        · refine Go_iload (pc' := 86) dX7_narrow_84 rfl rfl ?_
          refine Go_if_geY (tgt := 99) (pc' := 89) dX7_narrow_86 (by decide) rfl (by first | exact ⟨i_lo _, i_hi _⟩ | omega) (fun c86 => ?_) (fun c86 => ?_)
          · refine Go_return dX7_narrow_99 rfl ?_
            refine hk _ L H (by simp [upd]) (by simp [upd]) (by simp [upd]) (by simp [upd, e3]) (by simp [upd, e4]) (by omega) (by omega) (fun T t0 t1 => ?_)
            exact nr_z (by omega) (td_p (by omega)) (by omega)
          · refine Go_aload_n (pc' := 90) dX7_narrow_89 rfl rfl rfl ?_
            refine Go_aload_n (pc' := 91) dX7_narrow_90 rfl rfl rfl ?_
            refine Go_getIv (v := (iZ L)) (pc' := 94) dX7_narrow_91 rfl kf_RX7_21 (by decide) (by decide) rfl (S.b 68 rfl rfl) (S.o 68 rfl rfl rfl) ((vi_setR h 68 u 3).trans e3) ?_
            refine Go_iconst (v := iZ 1) (pc' := 95) dX7_narrow_94 rfl (by decide) ?_
            refine Go_isubZ (pc' := 96) dX7_narrow_95 rfl ?_
            refine Go_putI (pc' := 99) dX7_narrow_96 rfl kf_RX7_24 (by decide) (by decide) rfl (S.b 68 rfl rfl) (S.o 68 rfl rfl rfl) (Or.inl rfl) rfl rfl ?_
            refine Go_return dX7_narrow_99 rfl ?_
            rw [setR_wI]
            refine hk _ L (L - 1) (by simp [upd]) (by simp [upd]) (by simp [upd]) (by simp [upd, e3]) (by simp [upd, e4]) (by omega) (by omega) (fun T t0 t1 => ?_)
            exact nr_e (by omega) (td_p (by omega)) (by omega)
      · refine Go_aload_n (pc' := 65) dX7_narrow_64 rfl rfl rfl ?_
        refine Go_iload (pc' := 67) dX7_narrow_65 rfl rfl ?_
        refine Go_inegZ (pc' := 68) dX7_narrow_67 rfl ?_
        refine Go_iload (pc' := 70) dX7_narrow_68 rfl rfl ?_
        refine Go_inegZ (pc' := 71) dX7_narrow_70 rfl ?_
        refine Go_iload_n (pc' := 72) dX7_narrow_71 rfl rfl rfl ?_
        refine Go_inegZ (pc' := 73) dX7_narrow_72 rfl ?_
        refine Go_callV_v (pc' := 76) (As := [.int _, .int _, .int _]) (st := []) dX7_narrow_73 rfl ok_X7_keepBetween km_RX7_44 (S.o 68 rfl rfl rfl) (S.b 68 rfl rfl) ⟨_, _, rfl⟩ rfl (Nat.le_of_ble_eq_true rfl) rfl rfl rfl (Nat.le_of_ble_eq_true rfl) (Nat.lt_succ_self _) ?_
        refine Go_iload_n (pc' := 1) dX7_keepBetween_0 rfl rfl rfl ?_
        refine Go_if_leY (tgt := 38) (pc' := 4) dX7_keepBetween_1 (by decide) rfl (by first | exact ⟨i_lo _, i_hi _⟩ | omega) (fun z1 => by exfalso; omega) (fun z1 => ?_)
        refine Go_aload_n (pc' := 5) dX7_keepBetween_4 rfl rfl rfl ?_
        refine Go_aload_n (pc' := 6) dX7_keepBetween_5 rfl rfl rfl ?_
        refine Go_getIv (v := (iZ L)) (pc' := 9) dX7_keepBetween_6 rfl kf_RX7_21 (by decide) (by decide) rfl (S.b 68 rfl rfl) (S.o 68 rfl rfl rfl) ((vi_setR h 68 u 3).trans e3) ?_
        refine Go_iload_n (pc' := 10) dX7_keepBetween_9 rfl rfl rfl ?_
        refine Go_inegZ (pc' := 11) dX7_keepBetween_10 rfl ?_
        refine Go_iload_n (pc' := 12) dX7_keepBetween_11 rfl rfl rfl ?_
        refine Go_callS_i (pc' := 15) (As := [.int _, .int _]) (st := [.int _, .ref _]) dX7_keepBetween_12 rfl ok_J9_floorDiv_7cf53 km_RX7_47 rfl (Nat.le_of_ble_eq_true rfl) rfl rfl rfl (Nat.le_of_ble_eq_true rfl) (Nat.lt_succ_self _) ?_
        refine s_fdivY (by omega) (by omega) ?_
        have bx12 := div_b (A := (-(-(((64 * p) + 63) - W)))) (y := (-y)) (B := 1000000) (by omega) (by omega) (by omega)
        refine ⟨_, rfl, ?_⟩
        refine Go_inegZ (pc' := 16) dX7_keepBetween_15 rfl ?_
        refine Go_callS_i (pc' := 19) (As := [.int _, .int _]) (st := [.ref _]) dX7_keepBetween_16 rfl ok_J9_max_7cf53 km_RX7_53 rfl (Nat.le_of_ble_eq_true rfl) rfl rfl rfl (Nat.le_of_ble_eq_true rfl) (Nat.lt_succ_self _) ?_
        refine s_maxY (by first | exact ⟨i_lo _, i_hi _⟩ | omega) (by first | exact ⟨i_lo _, i_hi _⟩ | omega) ?_
        refine ⟨_, rfl, ?_⟩
        refine Go_putI (pc' := 22) dX7_keepBetween_19 rfl kf_RX7_21 (by decide) (by decide) rfl (S.b 68 rfl rfl) (S.o 68 rfl rfl rfl) (Or.inl rfl) rfl rfl ?_
        refine Go_aload_n (pc' := 23) dX7_keepBetween_22 rfl rfl rfl ?_
        refine Go_aload_n (pc' := 24) dX7_keepBetween_23 rfl rfl rfl ?_
        refine Go_getIv (v := (iZ H)) (pc' := 27) dX7_keepBetween_24 rfl kf_RX7_24 (by decide) (by decide) rfl (S.b 68 rfl rfl) (S.o 68 rfl rfl rfl) ((vi_skip (Or.inr (by decide))).trans ((vi_setR h 68 u 4).trans e4)) ?_
        refine Go_iload_n (pc' := 28) dX7_keepBetween_27 rfl rfl rfl ?_
        refine Go_iload_n (pc' := 29) dX7_keepBetween_28 rfl rfl rfl ?_
        refine Go_callS_i (pc' := 32) (As := [.int _, .int _]) (st := [.int _, .ref _]) dX7_keepBetween_29 rfl ok_J9_floorDiv_7cf53 km_RX7_47 rfl (Nat.le_of_ble_eq_true rfl) rfl rfl rfl (Nat.le_of_ble_eq_true rfl) (Nat.lt_succ_self _) ?_
        refine s_fdivY (by omega) (by omega) ?_
        have bx29 := div_b (A := (-((64 * p) - W))) (y := (-y)) (B := 1000000) (by omega) (by omega) (by omega)
        refine ⟨_, rfl, ?_⟩
        refine Go_callS_i (pc' := 35) (As := [.int _, .int _]) (st := [.ref _]) dX7_keepBetween_32 rfl ok_J9_min_7cf53 km_RX7_56 rfl (Nat.le_of_ble_eq_true rfl) rfl rfl rfl (Nat.le_of_ble_eq_true rfl) (Nat.lt_succ_self _) ?_
        refine s_minY (by first | exact ⟨i_lo _, i_hi _⟩ | omega) (by first | exact ⟨i_lo _, i_hi _⟩ | omega) ?_
        refine ⟨_, rfl, ?_⟩
        refine Go_putI (pc' := 38) dX7_keepBetween_35 rfl kf_RX7_24 (by decide) (by decide) rfl (S.b 68 rfl rfl) (S.o 68 rfl rfl rfl) (Or.inl rfl) rfl rfl ?_
        refine Go_return dX7_keepBetween_38 rfl ?_
        refine ⟨rfl, ?_⟩
        refine Go_goto (tgt := 99) dX7_narrow_76 (by decide) ?_
        refine Go_return dX7_narrow_99 rfl ?_
        have b0 := div_b (A := (-(-(((64 * p) + 63) - W)))) (y := (-y)) (B := 1000000) (by omega) (by omega) (by omega)
        have b1 := div_b (A := (-((64 * p) - W))) (y := (-y)) (B := 1000000) (by omega) (by omega) (by omega)
        rw [setR_wI, setR_wI]
        refine hk _ (max L (-((-(-(((64 * p) + 63) - W))) / (-y)))) (min H ((-((64 * p) - W)) / (-y))) (by simp [upd]) (by simp [upd]) (by simp [upd]) (by simp [upd, e3]) (by simp [upd, e4]) (by omega) (by omega) (fun T t0 t1 => ?_)
        exact nr_n (by omega) (td_p (by omega))
    · refine Go_aload_n (pc' := 49) dX7_narrow_48 rfl rfl rfl ?_
      refine Go_iload (pc' := 51) dX7_narrow_49 rfl rfl ?_
      refine Go_iload (pc' := 53) dX7_narrow_51 rfl rfl ?_
      refine Go_iload_n (pc' := 54) dX7_narrow_53 rfl rfl rfl ?_
      refine Go_callV_v (pc' := 57) (As := [.int _, .int _, .int _]) (st := []) dX7_narrow_54 rfl ok_X7_keepBetween km_RX7_44 (S.o 68 rfl rfl rfl) (S.b 68 rfl rfl) ⟨_, _, rfl⟩ rfl (Nat.le_of_ble_eq_true rfl) rfl rfl rfl (Nat.le_of_ble_eq_true rfl) (Nat.lt_succ_self _) ?_
      refine Go_iload_n (pc' := 1) dX7_keepBetween_0 rfl rfl rfl ?_
      refine Go_if_leY (tgt := 38) (pc' := 4) dX7_keepBetween_1 (by decide) rfl (by first | exact ⟨i_lo _, i_hi _⟩ | omega) (fun z1 => by exfalso; omega) (fun z1 => ?_)
      refine Go_aload_n (pc' := 5) dX7_keepBetween_4 rfl rfl rfl ?_
      refine Go_aload_n (pc' := 6) dX7_keepBetween_5 rfl rfl rfl ?_
      refine Go_getIv (v := (iZ L)) (pc' := 9) dX7_keepBetween_6 rfl kf_RX7_21 (by decide) (by decide) rfl (S.b 68 rfl rfl) (S.o 68 rfl rfl rfl) ((vi_setR h 68 u 3).trans e3) ?_
      refine Go_iload_n (pc' := 10) dX7_keepBetween_9 rfl rfl rfl ?_
      refine Go_inegZ (pc' := 11) dX7_keepBetween_10 rfl ?_
      refine Go_iload_n (pc' := 12) dX7_keepBetween_11 rfl rfl rfl ?_
      refine Go_callS_i (pc' := 15) (As := [.int _, .int _]) (st := [.int _, .ref _]) dX7_keepBetween_12 rfl ok_J9_floorDiv_7cf53 km_RX7_47 rfl (Nat.le_of_ble_eq_true rfl) rfl rfl rfl (Nat.le_of_ble_eq_true rfl) (Nat.lt_succ_self _) ?_
      refine s_fdivY (by omega) (by omega) ?_
      have bx12 := div_b (A := (-((64 * p) - W))) (y := y) (B := 1000000) (by omega) (by omega) (by omega)
      refine ⟨_, rfl, ?_⟩
      refine Go_inegZ (pc' := 16) dX7_keepBetween_15 rfl ?_
      refine Go_callS_i (pc' := 19) (As := [.int _, .int _]) (st := [.ref _]) dX7_keepBetween_16 rfl ok_J9_max_7cf53 km_RX7_53 rfl (Nat.le_of_ble_eq_true rfl) rfl rfl rfl (Nat.le_of_ble_eq_true rfl) (Nat.lt_succ_self _) ?_
      refine s_maxY (by first | exact ⟨i_lo _, i_hi _⟩ | omega) (by first | exact ⟨i_lo _, i_hi _⟩ | omega) ?_
      refine ⟨_, rfl, ?_⟩
      refine Go_putI (pc' := 22) dX7_keepBetween_19 rfl kf_RX7_21 (by decide) (by decide) rfl (S.b 68 rfl rfl) (S.o 68 rfl rfl rfl) (Or.inl rfl) rfl rfl ?_
      refine Go_aload_n (pc' := 23) dX7_keepBetween_22 rfl rfl rfl ?_
      refine Go_aload_n (pc' := 24) dX7_keepBetween_23 rfl rfl rfl ?_
      refine Go_getIv (v := (iZ H)) (pc' := 27) dX7_keepBetween_24 rfl kf_RX7_24 (by decide) (by decide) rfl (S.b 68 rfl rfl) (S.o 68 rfl rfl rfl) ((vi_skip (Or.inr (by decide))).trans ((vi_setR h 68 u 4).trans e4)) ?_
      refine Go_iload_n (pc' := 28) dX7_keepBetween_27 rfl rfl rfl ?_
      refine Go_iload_n (pc' := 29) dX7_keepBetween_28 rfl rfl rfl ?_
      refine Go_callS_i (pc' := 32) (As := [.int _, .int _]) (st := [.int _, .ref _]) dX7_keepBetween_29 rfl ok_J9_floorDiv_7cf53 km_RX7_47 rfl (Nat.le_of_ble_eq_true rfl) rfl rfl rfl (Nat.le_of_ble_eq_true rfl) (Nat.lt_succ_self _) ?_
      refine s_fdivY (by omega) (by omega) ?_
      have bx29 := div_b (A := (((64 * p) + 63) - W)) (y := y) (B := 1000000) (by omega) (by omega) (by omega)
      refine ⟨_, rfl, ?_⟩
      refine Go_callS_i (pc' := 35) (As := [.int _, .int _]) (st := [.ref _]) dX7_keepBetween_32 rfl ok_J9_min_7cf53 km_RX7_56 rfl (Nat.le_of_ble_eq_true rfl) rfl rfl rfl (Nat.le_of_ble_eq_true rfl) (Nat.lt_succ_self _) ?_
      refine s_minY (by first | exact ⟨i_lo _, i_hi _⟩ | omega) (by first | exact ⟨i_lo _, i_hi _⟩ | omega) ?_
      refine ⟨_, rfl, ?_⟩
      refine Go_putI (pc' := 38) dX7_keepBetween_35 rfl kf_RX7_24 (by decide) (by decide) rfl (S.b 68 rfl rfl) (S.o 68 rfl rfl rfl) (Or.inl rfl) rfl rfl ?_
      refine Go_return dX7_keepBetween_38 rfl ?_
      refine ⟨rfl, ?_⟩
      refine Go_goto (tgt := 99) dX7_narrow_57 (by decide) ?_
      refine Go_return dX7_narrow_99 rfl ?_
      have b0 := div_b (A := (-((64 * p) - W))) (y := y) (B := 1000000) (by omega) (by omega) (by omega)
      have b1 := div_b (A := (((64 * p) + 63) - W)) (y := y) (B := 1000000) (by omega) (by omega) (by omega)
      rw [setR_wI, setR_wI]
      refine hk _ (max L (-((-((64 * p) - W)) / y))) (min H ((((64 * p) + 63) - W) / y)) (by simp [upd]) (by simp [upd]) (by simp [upd]) (by simp [upd, e3]) (by simp [upd, e4]) (by omega) (by omega) (fun T t0 t1 => ?_)
      exact nr_p (by omega) (td_p (by omega))
def zB (h : HS) (o : Nat) (D T X : Int) : Bool := decide (rbk h o D T X = 0)
theorem zB_iff {h : HS} {o : Nat} {D T X : Int} : zB h o D T X = true ↔ (D * (sap h o (X - 1) - sap h o (X - 1 - 1)) + T * sap h o (X - 1)).tdiv 64 = (sap h o (X - 1) - sap h o (X - 1 - 1)) - (sap h o X - sap h o (X - 1)) := by
  unfold zB
  rw [decide_eq_true_iff]
  unfold rbk
  generalize (D * (sap h o (X - 1) - sap h o (X - 1 - 1)) + T * sap h o (X - 1)).tdiv 64 = Q
  omega
theorem all_and {f : Int → Bool} {m : Nat} {X : Int} : all f (m + 1) X = true ↔ f X = true ∧ all f m (X + 1) = true := by
  by_cases e : f X = true
  · rw [all_t e]; exact ⟨fun a => ⟨e, a⟩, fun a => a.2⟩
  · rw [all_f e]; exact ⟨fun a => (by cases a), fun a => absurd a.1 e⟩
/-- the model's count of stiffs, and the first couple -/
def sws (g : Int → Bool) (D : Int) : Nat → Int → Int → Int → Int × Int
  | 0, _, n, f => (n, f)
  | m + 1, T, n, f => if g T = true then sws g D m (T + 1) (n + 1) (if n = 0 then 64 * D + T else f) else sws g D m (T + 1) n f
theorem sws_t {g : Int → Bool} {D : Int} {m : Nat} {T n f : Int} (e : g T = true) : sws g D (m + 1) T n f = sws g D m (T + 1) (n + 1) (if n = 0 then 64 * D + T else f) := by show (if _ then _ else _) = _; rw [if_pos e]
theorem sws_f {g : Int → Bool} {D : Int} {m : Nat} {T n f : Int} (e : ¬ g T = true) : sws g D (m + 1) T n f = sws g D m (T + 1) n f := by show (if _ then _ else _) = _; rw [if_neg e]
theorem sws_iv {g : Int → Bool} {D L H : Int} (hH : H ≤ 63) (hg : ∀ T, 0 ≤ T → T ≤ 63 → ((L ≤ T ∧ T ≤ H) ↔ g T = true)) : ∀ (m : Nat) (T n f : Int), T + m = 64 → 0 ≤ T → 0 ≤ n → sws g D m T n f = if max L T ≤ H then (n + (H - max L T + 1), if n = 0 then 64 * D + max L T else f) else (n, f)
  | 0, T, n, f, hT, h0, hn => by
    rw [if_neg (by omega)]; rfl
  | m + 1, T, n, f, hT, h0, hn => by
    by_cases e : g T = true
    · rw [sws_t e, sws_iv hH hg m (T + 1) _ _ (by omega) (by omega) (by omega)]
      have := (hg T h0 (by omega)).2 e
      rw [if_pos (show max L T ≤ H by omega), show max L T = T by omega, show max L (T + 1) = T + 1 by omega, if_neg (show ¬ n + 1 = 0 by omega)]
      by_cases z : T + 1 ≤ H
      · rw [if_pos z, show n + 1 + (H - (T + 1) + 1) = n + (H - T + 1) by omega]
      · rw [if_neg z, show n + 1 = n + (H - T + 1) by omega]
    · rw [sws_f e, sws_iv hH hg m (T + 1) _ _ (by omega) (by omega) (by omega)]
      have : ¬ (L ≤ T ∧ T ≤ H) := fun z => e ((hg T h0 (by omega)).1 z)
      by_cases z : max L T ≤ H
      · rw [if_pos z, show max L (T + 1) = max L T by omega, if_pos z]
      · rw [if_neg z, if_neg (by omega)]
def sso (gg : Int → Int → Bool) : Nat → Int → Int × Int → Int × Int
  | 0, _, t => t
  | m + 1, D, t => sso gg m (D + 1) (sws (gg D) D 64 0 t.1 t.2)
theorem sso_s {gg : Int → Int → Bool} {m : Nat} {D : Int} {t t' : Int × Int} (e : sws (gg D) D 64 0 t.1 t.2 = t') : sso gg (m + 1) D t = sso gg m (D + 1) t' := by rw [← e]; rfl
abbrev gsw (h : HS) (o : Nat) (a b : Int) (D T : Int) : Bool := all (zB h o D T) (b + 1 - (a + 2)).toNat (a + 2)
def U3 (u : Nat → Int32) (t : Int × Int) : Prop := u 0 = iZ t.1 ∧ u 1 = iZ (if t.1 = 0 then -1 else t.2 / 64) ∧ u 2 = iZ (if t.1 = 0 then -1 else t.2 % 64)
theorem s_smpD {G : GC} {d mc ms : Nat} {h H : HS} {K : Option Value → HS → Prop} {j o n : Nat} {X : Int} (D : DifS h H) (M : Smp h j o n) (hX : 0 ≤ X ∧ X < n) (hk : K (some (.int (iZ (sap h o X)))) H) : Go G d mc ms M_X2_sampleAt 0 [.ref o, .int (iZ X)] [] H K :=
  s_smpY (M.dif D) hX (by rw [sap_dif M.2.1.1.1 D]; exact hk)

set_option maxRecDepth 20000 in
set_option maxHeartbeats 1000000 in
theorem sw_in {G : GC} {d mc ms : Nat} {h : HS} {K : Option Value → HS → Prop} {j o n : Nat} {a b D : Int} (S : Shp h) (M : Smp h j o n) (ha : 0 ≤ a ∧ b < n) (hD : 0 ≤ D ∧ D ≤ 63) (hw : ∀ X, a ≤ X → X ≤ b → ¬ sap h o X = -1000000000) : ∀ (m : Nat) (X : Int) (u : Nat → Int32) (L H : Int) (v6 : Value), X + m = b + 1 → a + 2 ≤ X → u 3 = iZ L → u 4 = iZ H → (0 ≤ L ∧ L ≤ 1000000) → (-1000000 ≤ H ∧ H ≤ 63) → (∀ (u' : Nat → Int32) (L' H' : Int) (x : Int) (v6 : Value), u' 0 = u 0 → u' 1 = u 1 → u' 2 = u 2 → u' 3 = iZ L' → u' 4 = iZ H' → (0 ≤ L' ∧ L' ≤ 1000000) → (-1000000 ≤ H' ∧ H' ≤ 63) → (∀ T, 0 ≤ T → T ≤ 63 → ((L' ≤ T ∧ T ≤ H') ↔ (L ≤ T ∧ T ≤ H) ∧ all (zB h o D T) m X = true)) → Go G (d + 3) mc ms M_X7_search 100 [.ref 68, .ref o, .int (iZ a), .int (iZ b), .int (iZ D), .int (iZ x), v6] [] (setR h 68 u') K) → Go G (d + 3) mc ms M_X7_search 41 [.ref 68, .ref o, .int (iZ a), .int (iZ b), .int (iZ D), .int (iZ X), v6] [] (setR h 68 u) K := by
  have CS := M.2.1
  have hn := M.n
  have hj6 := M.j
  have hq0 := CS.1
  intro m
  induction m with
  | zero =>
    intro X u L H v6 hm hx e3 e4 hL hH hk
    refine Go_iload (pc' := 43) dX7_search_41 rfl rfl ?_
    refine Go_iload_n (pc' := 44) dX7_search_43 rfl rfl rfl ?_
    refine Go_icmp_gtY (tgt := 100) (pc' := 47) dX7_search_44 (by decide) rfl (by first | exact ⟨i_lo _, i_hi _⟩ | omega) (by first | exact ⟨i_lo _, i_hi _⟩ | omega) (fun c44 => ?_) (fun c44 => by exfalso; omega)
    exact hk u L H _ _ rfl rfl rfl e3 e4 hL hH (fun T t0 t1 => ⟨fun z => ⟨z, rfl⟩, fun z => z.1⟩)
  | succ m ih =>
    intro X u L H v6 hm hx e3 e4 hL hH hk
    have s0 := sap_ok M (X := X) (by omega)
    have s1 := sap_ok M (X := X - 1) (by omega)
    have s2 := sap_ok M (X := X - 1 - 1) (by omega)
    have q0 := hw X (by omega) (by omega)
    have q1 := hw (X - 1) (by omega) (by omega)
    have q2 := hw (X - 1 - 1) (by omega) (by omega)
    have bb := mul63 (B := 1998) hD (V := sap h o (X - 1) - sap h o (X - 1 - 1)) (by omega)
    refine Go_iload (pc' := 43) dX7_search_41 rfl rfl ?_
    refine Go_iload_n (pc' := 44) dX7_search_43 rfl rfl rfl ?_
    refine Go_icmp_gtY (tgt := 100) (pc' := 47) dX7_search_44 (by decide) rfl (by first | exact ⟨i_lo _, i_hi _⟩ | omega) (by first | exact ⟨i_lo _, i_hi _⟩ | omega) (fun c44 => by exfalso; omega) (fun c44 => ?_)
    refine Go_aload_n (pc' := 48) dX7_search_47 rfl rfl rfl ?_
    refine Go_getIv (v := (iZ L)) (pc' := 51) dX7_search_48 rfl kf_RX7_21 (by decide) (by decide) rfl (S.b 68 rfl rfl) (S.o 68 rfl rfl rfl) ((vi_setR h 68 u 3).trans e3) ?_
    refine Go_aload_n (pc' := 52) dX7_search_51 rfl rfl rfl ?_
    refine Go_getIv (v := (iZ H)) (pc' := 55) dX7_search_52 rfl kf_RX7_24 (by decide) (by decide) rfl (S.b 68 rfl rfl) (S.o 68 rfl rfl rfl) ((vi_setR h 68 u 4).trans e4) ?_
    refine Go_icmp_gtY (tgt := 100) (pc' := 58) dX7_search_55 (by decide) rfl (by first | exact ⟨i_lo _, i_hi _⟩ | omega) (by first | exact ⟨i_lo _, i_hi _⟩ | omega) (fun c55 => ?_) (fun c55 => ?_)
    · exact hk u L H _ _ rfl rfl rfl e3 e4 hL hH (fun T t0 t1 => ⟨fun z => (by exfalso; omega), fun z => (by exfalso; omega)⟩)
    · refine Go_aload_n (pc' := 59) dX7_search_58 rfl rfl rfl ?_
      refine Go_iload (pc' := 61) dX7_search_59 rfl rfl ?_
      refine Go_iconst (v := iZ 1) (pc' := 62) dX7_search_61 rfl (by decide) ?_
      refine Go_isubZ (pc' := 63) dX7_search_62 rfl ?_
      refine Go_callV_i (pc' := 66) (As := [.int _]) (st := []) dX7_search_63 rfl ok_X2_speedAt km_RX7_27 CS.o CS.b ⟨_, _, rfl⟩ rfl (Nat.le_of_ble_eq_true rfl) rfl rfl rfl (Nat.le_of_ble_eq_true rfl) (Nat.lt_succ_self _) ?_
      refine Go_aload_n (pc' := 1) dX2_speedAt_0 rfl rfl rfl ?_
      refine Go_iload_n (pc' := 2) dX2_speedAt_1 rfl rfl rfl ?_
      refine Go_callV_i (pc' := 5) (As := [.int _]) (st := []) dX2_speedAt_2 rfl ok_X2_sampleAt km_RX2_64 CS.o CS.b ⟨_, _, rfl⟩ rfl (Nat.le_of_ble_eq_true rfl) rfl rfl rfl (Nat.le_of_ble_eq_true rfl) (Nat.lt_succ_self _) ?_
      refine s_smpD ((DifS.rf h).setR (by omega)) M (by omega) ?_
      refine ⟨_, rfl, ?_⟩
      refine Go_aload_n (pc' := 6) dX2_speedAt_5 rfl rfl rfl ?_
      refine Go_iload_n (pc' := 7) dX2_speedAt_6 rfl rfl rfl ?_
      refine Go_iconst (v := iZ 1) (pc' := 8) dX2_speedAt_7 rfl (by decide) ?_
      refine Go_isubZ (pc' := 9) dX2_speedAt_8 rfl ?_
      refine Go_callV_i (pc' := 12) (As := [.int _]) (st := [.int _]) dX2_speedAt_9 rfl ok_X2_sampleAt km_RX2_64 CS.o CS.b ⟨_, _, rfl⟩ rfl (Nat.le_of_ble_eq_true rfl) rfl rfl rfl (Nat.le_of_ble_eq_true rfl) (Nat.lt_succ_self _) ?_
      refine s_smpD ((DifS.rf h).setR (by omega)) M (by omega) ?_
      refine ⟨_, rfl, ?_⟩
      refine Go_isubZ (pc' := 13) dX2_speedAt_12 rfl ?_
      refine Go_ireturn (ty := .int) dX2_speedAt_13 rfl rfl ?_
      refine ⟨_, rfl, ?_⟩
      refine Go_istore (pc' := 68) (lv' := [.ref _, .ref _, .int _, .int _, .int _, .int _, .int _]) dX7_search_66 rfl (Nat.le_of_ble_eq_true rfl) rfl rfl ?_
      refine Go_aload_n (pc' := 69) dX7_search_68 rfl rfl rfl ?_
      refine Go_iload (pc' := 71) dX7_search_69 rfl rfl ?_
      refine Go_aload_n (pc' := 72) dX7_search_71 rfl rfl rfl ?_
      refine Go_iload (pc' := 74) dX7_search_72 rfl rfl ?_
      refine Go_callV_i (pc' := 77) (As := [.int _]) (st := [.int _, .ref _]) dX7_search_74 rfl ok_X2_speedAt km_RX7_27 CS.o CS.b ⟨_, _, rfl⟩ rfl (Nat.le_of_ble_eq_true rfl) rfl rfl rfl (Nat.le_of_ble_eq_true rfl) (Nat.lt_succ_self _) ?_
      refine Go_aload_n (pc' := 1) dX2_speedAt_0 rfl rfl rfl ?_
      refine Go_iload_n (pc' := 2) dX2_speedAt_1 rfl rfl rfl ?_
      refine Go_callV_i (pc' := 5) (As := [.int _]) (st := []) dX2_speedAt_2 rfl ok_X2_sampleAt km_RX2_64 CS.o CS.b ⟨_, _, rfl⟩ rfl (Nat.le_of_ble_eq_true rfl) rfl rfl rfl (Nat.le_of_ble_eq_true rfl) (Nat.lt_succ_self _) ?_
      refine s_smpD ((DifS.rf h).setR (by omega)) M (by omega) ?_
      refine ⟨_, rfl, ?_⟩
      refine Go_aload_n (pc' := 6) dX2_speedAt_5 rfl rfl rfl ?_
      refine Go_iload_n (pc' := 7) dX2_speedAt_6 rfl rfl rfl ?_
      refine Go_iconst (v := iZ 1) (pc' := 8) dX2_speedAt_7 rfl (by decide) ?_
      refine Go_isubZ (pc' := 9) dX2_speedAt_8 rfl ?_
      refine Go_callV_i (pc' := 12) (As := [.int _]) (st := [.int _]) dX2_speedAt_9 rfl ok_X2_sampleAt km_RX2_64 CS.o CS.b ⟨_, _, rfl⟩ rfl (Nat.le_of_ble_eq_true rfl) rfl rfl rfl (Nat.le_of_ble_eq_true rfl) (Nat.lt_succ_self _) ?_
      refine s_smpD ((DifS.rf h).setR (by omega)) M (by omega) ?_
      refine ⟨_, rfl, ?_⟩
      refine Go_isubZ (pc' := 13) dX2_speedAt_12 rfl ?_
      refine Go_ireturn (ty := .int) dX2_speedAt_13 rfl rfl ?_
      refine ⟨_, rfl, ?_⟩
      refine Go_isubZ (pc' := 78) dX7_search_77 rfl ?_
      refine Go_iload (pc' := 80) dX7_search_78 rfl rfl ?_
      refine Go_iload (pc' := 82) dX7_search_80 rfl rfl ?_
      refine Go_imulZ (pc' := 83) dX7_search_82 rfl ?_
      refine Go_aload_n (pc' := 84) dX7_search_83 rfl rfl rfl ?_
      refine Go_iload (pc' := 86) dX7_search_84 rfl rfl ?_
      refine Go_iconst (v := iZ 1) (pc' := 87) dX7_search_86 rfl (by decide) ?_
      refine Go_isubZ (pc' := 88) dX7_search_87 rfl ?_
      refine Go_callV_i (pc' := 91) (As := [.int _]) (st := [.int _, .int _, .ref _]) dX7_search_88 rfl ok_X2_sampleAt km_RX7_33 CS.o CS.b ⟨_, _, rfl⟩ rfl (Nat.le_of_ble_eq_true rfl) rfl rfl rfl (Nat.le_of_ble_eq_true rfl) (Nat.lt_succ_self _) ?_
      refine s_smpD ((DifS.rf h).setR (by omega)) M (by omega) ?_
      refine ⟨_, rfl, ?_⟩
      refine Go_callV_v (pc' := 94) (As := [.int _, .int _, .int _]) (st := []) dX7_search_91 rfl ok_X7_narrow km_RX7_36 (S.o 68 rfl rfl rfl) (S.b 68 rfl rfl) ⟨_, _, rfl⟩ rfl (Nat.le_of_ble_eq_true rfl) rfl rfl rfl (Nat.le_of_ble_eq_true rfl) (Nat.lt_succ_self _) ?_
      refine s_nar S e3 e4 (by omega) (by omega) (by omega) hL hH (by omega) (fun u1 L1 H1 f0 f1 f2 f3 f4 f5 f6 f7 => ?_)
      refine ⟨rfl, ?_⟩
      refine Go_iincZ (pc' := 97) (lv' := [.ref _, .ref _, .int _, .int _, .int _, .int _, .int _]) dX7_search_94 rfl rfl (Nat.le_of_ble_eq_true rfl) rfl rfl ?_
      refine Go_goto (tgt := 41) dX7_search_97 (by decide) ?_
      refine ih (X + 1) u1 L1 H1 _ (by omega) (by omega) f3 f4 f5 f6 (fun u2 L2 H2 x2 v2 g0 g1 g2 g3 g4 g5 g6 g7 => ?_)
      refine hk u2 L2 H2 x2 v2 (g0.trans f0) (g1.trans f1) (g2.trans f2) g3 g4 g5 g6 (fun T t0 t1 => ?_)
      rw [g7 T t0 t1, f7 T t0 t1, all_and, zB_iff, and_assoc]
set_option maxRecDepth 20000 in
set_option maxHeartbeats 4000000 in
theorem sw_out {G : GC} {d mc ms : Nat} {h : HS} {K : Option Value → HS → Prop} {j o n : Nat} {a b : Int} (S : Shp h) (M : Smp h j o n) (ha : 0 ≤ a ∧ b < n) (hab : a + 2 ≤ b) (hw : ∀ X, a ≤ X → X ≤ b → ¬ sap h o X = -1000000000) : ∀ (m : Nat) (D n1 f : Int) (u : Nat → Int32) (v5 v6 : Value), D + m = 64 → 0 ≤ D → (0 ≤ n1 ∧ n1 ≤ 64 * D) → (n1 = 0 ∨ (0 ≤ f ∧ f < 4096)) → U3 u (n1, f) → (∀ u, U3 u (sso (gsw h o a b) m D (n1, f)) → K none (setR h 68 u)) → Go G (d + 3) mc ms M_X7_search 18 [.ref 68, .ref o, .int (iZ a), .int (iZ b), .int (iZ D), v5, v6] [] (setR h 68 u) K := by
  have CS := M.2.1
  have hn := M.n
  have hj6 := M.j
  have hq0 := CS.1
  intro m
  induction m with
  | zero =>
    intro D n1 f u v5 v6 hm hD hn1 hf hU hk
    refine Go_iload (pc' := 20) dX7_search_18 rfl rfl ?_
    refine Go_bipush (v := iZ 64) (pc' := 22) dX7_search_20 rfl (by decide) ?_
    refine Go_icmp_geY (tgt := 123) (pc' := 25) dX7_search_22 (by decide) rfl (by first | exact ⟨i_lo _, i_hi _⟩ | omega) (by first | exact ⟨i_lo _, i_hi _⟩ | omega) (fun c22 => ?_) (fun c22 => by exfalso; omega)
    refine Go_return dX7_search_123 rfl ?_
    exact hk u hU
  | succ m ih =>
    intro D n1 f u v5 v6 hm hD hn1 hf hU hk
    refine Go_iload (pc' := 20) dX7_search_18 rfl rfl ?_
    refine Go_bipush (v := iZ 64) (pc' := 22) dX7_search_20 rfl (by decide) ?_
    refine Go_icmp_geY (tgt := 123) (pc' := 25) dX7_search_22 (by decide) rfl (by first | exact ⟨i_lo _, i_hi _⟩ | omega) (by first | exact ⟨i_lo _, i_hi _⟩ | omega) (fun c22 => by exfalso; omega) (fun c22 => ?_)
    refine Go_aload_n (pc' := 26) dX7_search_25 rfl rfl rfl ?_
    refine Go_iconst (v := iZ 0) (pc' := 27) dX7_search_26 rfl (by decide) ?_
    refine Go_putI (pc' := 30) dX7_search_27 rfl kf_RX7_21 (by decide) (by decide) rfl (S.b 68 rfl rfl) (S.o 68 rfl rfl rfl) (Or.inl rfl) rfl rfl ?_
    refine Go_aload_n (pc' := 31) dX7_search_30 rfl rfl rfl ?_
    refine Go_bipush (v := iZ 63) (pc' := 33) dX7_search_31 rfl (by decide) ?_
    refine Go_putI (pc' := 36) dX7_search_33 rfl kf_RX7_24 (by decide) (by decide) rfl (S.b 68 rfl rfl) (S.o 68 rfl rfl rfl) (Or.inl rfl) rfl rfl ?_
    refine Go_iload_n (pc' := 37) dX7_search_36 rfl rfl rfl ?_
    refine Go_iconst (v := iZ 2) (pc' := 38) dX7_search_37 rfl (by decide) ?_
    refine Go_iaddZ (pc' := 39) dX7_search_38 rfl ?_
    refine Go_istore (pc' := 41) (lv' := [.ref _, .ref _, .int _, .int _, .int _, .int _, _]) dX7_search_39 rfl (Nat.le_of_ble_eq_true rfl) rfl rfl ?_
    rw [setR_wI, setR_wI]
    refine sw_in S M ha (by omega) hw (b + 1 - (a + 2)).toNat (a + 2) _ 0 63 _ (by omega) (by omega) (by simp [upd]) (by simp [upd]) (by omega) (by omega) (fun u1 L1 H1 x1 v1 f0 f1 f2 f3 f4 f5 f6 f7 => ?_)
    have f0 : u1 0 = u 0 := f0.trans (by simp [upd])
    have f1 : u1 1 = u 1 := f1.trans (by simp [upd])
    have f2 : u1 2 = u 2 := f2.trans (by simp [upd])
    have es := sws_iv (g := gsw h o a b D) (D := D) (L := L1) (H := H1) f6.2 (fun T t0 t1 => (f7 T t0 t1).trans ⟨fun z => z.2, fun z => ⟨by omega, z⟩⟩) 64 0 n1 f (by omega) (by omega) (by omega)
    rw [show max L1 0 = L1 by omega] at es
    obtain ⟨U1, U2, U3⟩ := hU
    refine Go_aload_n (pc' := 101) dX7_search_100 rfl rfl rfl ?_
    refine Go_getIv (v := (iZ L1)) (pc' := 104) dX7_search_101 rfl kf_RX7_21 (by decide) (by decide) rfl (S.b 68 rfl rfl) (S.o 68 rfl rfl rfl) ((vi_setR h 68 u1 3).trans f3) ?_
    refine Go_aload_n (pc' := 105) dX7_search_104 rfl rfl rfl ?_
    refine Go_getIv (v := (iZ H1)) (pc' := 108) dX7_search_105 rfl kf_RX7_24 (by decide) (by decide) rfl (S.b 68 rfl rfl) (S.o 68 rfl rfl rfl) ((vi_setR h 68 u1 4).trans f4) ?_
    refine Go_icmp_gtY (tgt := 117) (pc' := 111) dX7_search_108 (by decide) rfl (by first | exact ⟨i_lo _, i_hi _⟩ | omega) (by first | exact ⟨i_lo _, i_hi _⟩ | omega) (fun c108 => ?_) (fun c108 => ?_)
    · refine Go_iincZ (pc' := 120) (lv' := [.ref _, .ref _, .int _, .int _, .int _, .int _, _]) dX7_search_117 rfl rfl (Nat.le_of_ble_eq_true rfl) rfl rfl ?_
      refine Go_goto (tgt := 18) dX7_search_120 (by decide) ?_
      rw [sso_s (t' := (n1, f)) (by rw [es, if_neg (by omega)])] at hk
      exact ih (D + 1) n1 f _ _ _ (by omega) (by omega) (by omega) (by omega) ⟨f0.trans U1, f1.trans U2, f2.trans U3⟩ hk
    · refine Go_aload_n (pc' := 112) dX7_search_111 rfl rfl rfl ?_
      refine Go_iload (pc' := 114) dX7_search_112 rfl rfl ?_
      refine Go_callV_v (pc' := 117) (As := [.int _]) (st := []) dX7_search_114 rfl ok_X7_keep km_RX7_40 (S.o 68 rfl rfl rfl) (S.b 68 rfl rfl) ⟨_, _, rfl⟩ rfl (Nat.le_of_ble_eq_true rfl) rfl rfl rfl (Nat.le_of_ble_eq_true rfl) (Nat.lt_succ_self _) ?_
      refine Go_aload_n (pc' := 1) dX7_keep_0 rfl rfl rfl ?_
      refine Go_getIv (v := (iZ n1)) (pc' := 4) dX7_keep_1 rfl kf_RX7_9 (by decide) (by decide) rfl (S.b 68 rfl rfl) (S.o 68 rfl rfl rfl) ((vi_setR h 68 u1 0).trans (f0.trans U1)) ?_
      refine Go_if_neY (tgt := 20) (pc' := 7) dX7_keep_4 (by decide) rfl (by first | exact ⟨i_lo _, i_hi _⟩ | omega) (fun y4 => ?_) (fun y4 => ?_)
      · refine Go_aload_n (pc' := 21) dX7_keep_20 rfl rfl rfl ?_
        refine Go_dup (pc' := 22) dX7_keep_21 rfl rfl ?_
        refine Go_getIv (v := (iZ n1)) (pc' := 25) dX7_keep_22 rfl kf_RX7_9 (by decide) (by decide) rfl (S.b 68 rfl rfl) (S.o 68 rfl rfl rfl) ((vi_setR h 68 u1 0).trans (f0.trans U1)) ?_
        refine Go_aload_n (pc' := 26) dX7_keep_25 rfl rfl rfl ?_
        refine Go_getIv (v := (iZ H1)) (pc' := 29) dX7_keep_26 rfl kf_RX7_24 (by decide) (by decide) rfl (S.b 68 rfl rfl) (S.o 68 rfl rfl rfl) ((vi_setR h 68 u1 4).trans f4) ?_
        refine Go_aload_n (pc' := 30) dX7_keep_29 rfl rfl rfl ?_
        refine Go_getIv (v := (iZ L1)) (pc' := 33) dX7_keep_30 rfl kf_RX7_21 (by decide) (by decide) rfl (S.b 68 rfl rfl) (S.o 68 rfl rfl rfl) ((vi_setR h 68 u1 3).trans f3) ?_
        refine Go_isubZ (pc' := 34) dX7_keep_33 rfl ?_
        refine Go_iconst (v := iZ 1) (pc' := 35) dX7_keep_34 rfl (by decide) ?_
        refine Go_iaddZ (pc' := 36) dX7_keep_35 rfl ?_
        refine Go_iaddZ (pc' := 37) dX7_keep_36 rfl ?_
        refine Go_putI (pc' := 40) dX7_keep_37 rfl kf_RX7_9 (by decide) (by decide) rfl (S.b 68 rfl rfl) (S.o 68 rfl rfl rfl) (Or.inl rfl) rfl rfl ?_
        refine Go_return dX7_keep_40 rfl ?_
        refine ⟨rfl, ?_⟩
        refine Go_iincZ (pc' := 120) (lv' := [.ref _, .ref _, .int _, .int _, .int _, .int _, _]) dX7_search_117 rfl rfl (Nat.le_of_ble_eq_true rfl) rfl rfl ?_
        refine Go_goto (tgt := 18) dX7_search_120 (by decide) ?_
        rw [setR_wI]
        rw [sso_s (t' := (n1 + (H1 - L1 + 1), f)) (by rw [es, if_pos (by omega), if_neg (by omega)])] at hk
        refine ih (D + 1) _ _ _ _ _ (by omega) (by omega) (by omega) (by omega) ⟨?_, ?_, ?_⟩ hk
        · simp [upd]
        · rw [if_neg (by show ¬ n1 + (H1 - L1 + 1) = 0; omega)]; rw [if_neg (by show ¬ n1 = 0; omega)] at U2; simp [upd]; exact f1.trans U2
        · rw [if_neg (by show ¬ n1 + (H1 - L1 + 1) = 0; omega)]; rw [if_neg (by show ¬ n1 = 0; omega)] at U3; simp [upd]; exact f2.trans U3
      · refine Go_aload_n (pc' := 8) dX7_keep_7 rfl rfl rfl ?_
        refine Go_iload_n (pc' := 9) dX7_keep_8 rfl rfl rfl ?_
        refine Go_putI (pc' := 12) dX7_keep_9 rfl kf_RX7_15 (by decide) (by decide) rfl (S.b 68 rfl rfl) (S.o 68 rfl rfl rfl) (Or.inl rfl) rfl rfl ?_
        refine Go_aload_n (pc' := 13) dX7_keep_12 rfl rfl rfl ?_
        refine Go_aload_n (pc' := 14) dX7_keep_13 rfl rfl rfl ?_
        refine Go_getIv (v := (iZ L1)) (pc' := 17) dX7_keep_14 rfl kf_RX7_21 (by decide) (by decide) rfl (S.b 68 rfl rfl) (S.o 68 rfl rfl rfl) ((vi_skip (Or.inr (by decide))).trans ((vi_setR h 68 u1 3).trans f3)) ?_
        refine Go_putI (pc' := 20) dX7_keep_17 rfl kf_RX7_18 (by decide) (by decide) rfl (S.b 68 rfl rfl) (S.o 68 rfl rfl rfl) (Or.inl rfl) rfl rfl ?_
        refine Go_aload_n (pc' := 21) dX7_keep_20 rfl rfl rfl ?_
        refine Go_dup (pc' := 22) dX7_keep_21 rfl rfl ?_
        refine Go_getIv (v := (iZ n1)) (pc' := 25) dX7_keep_22 rfl kf_RX7_9 (by decide) (by decide) rfl (S.b 68 rfl rfl) (S.o 68 rfl rfl rfl) ((vi_skip (Or.inr (by decide))).trans ((vi_skip (Or.inr (by decide))).trans ((vi_setR h 68 u1 0).trans (f0.trans U1)))) ?_
        refine Go_aload_n (pc' := 26) dX7_keep_25 rfl rfl rfl ?_
        refine Go_getIv (v := (iZ H1)) (pc' := 29) dX7_keep_26 rfl kf_RX7_24 (by decide) (by decide) rfl (S.b 68 rfl rfl) (S.o 68 rfl rfl rfl) ((vi_skip (Or.inr (by decide))).trans ((vi_skip (Or.inr (by decide))).trans ((vi_setR h 68 u1 4).trans f4))) ?_
        refine Go_aload_n (pc' := 30) dX7_keep_29 rfl rfl rfl ?_
        refine Go_getIv (v := (iZ L1)) (pc' := 33) dX7_keep_30 rfl kf_RX7_21 (by decide) (by decide) rfl (S.b 68 rfl rfl) (S.o 68 rfl rfl rfl) ((vi_skip (Or.inr (by decide))).trans ((vi_skip (Or.inr (by decide))).trans ((vi_setR h 68 u1 3).trans f3))) ?_
        refine Go_isubZ (pc' := 34) dX7_keep_33 rfl ?_
        refine Go_iconst (v := iZ 1) (pc' := 35) dX7_keep_34 rfl (by decide) ?_
        refine Go_iaddZ (pc' := 36) dX7_keep_35 rfl ?_
        refine Go_iaddZ (pc' := 37) dX7_keep_36 rfl ?_
        refine Go_putI (pc' := 40) dX7_keep_37 rfl kf_RX7_9 (by decide) (by decide) rfl (S.b 68 rfl rfl) (S.o 68 rfl rfl rfl) (Or.inl rfl) rfl rfl ?_
        refine Go_return dX7_keep_40 rfl ?_
        refine ⟨rfl, ?_⟩
        refine Go_iincZ (pc' := 120) (lv' := [.ref _, .ref _, .int _, .int _, .int _, .int _, _]) dX7_search_117 rfl rfl (Nat.le_of_ble_eq_true rfl) rfl rfl ?_
        refine Go_goto (tgt := 18) dX7_search_120 (by decide) ?_
        rw [setR_wI, setR_wI, setR_wI]
        rw [sso_s (t' := (H1 - L1 + 1, 64 * D + L1)) (by rw [es, if_pos (by omega), if_pos (by omega)]; exact Prod.ext (by show n1 + _ = _; omega) rfl)] at hk
        refine ih (D + 1) _ _ _ _ _ (by omega) (by omega) (by omega) (by omega) ⟨?_, ?_, ?_⟩ hk
        · simp [upd]; exact congrArg iZ (by omega)
        · rw [if_neg (by show ¬ H1 - L1 + 1 = 0; omega)]; simp [upd]; exact congrArg iZ (by omega)
        · rw [if_neg (by show ¬ H1 - L1 + 1 = 0; omega)]; simp [upd]; exact congrArg iZ (by omega)
set_option maxRecDepth 20000 in
set_option maxHeartbeats 1000000 in
theorem s_search {G : GC} {d mc ms : Nat} {h : HS} {K : Option Value → HS → Prop} {j o n : Nat} {a b : Int} (S : Shp h) (M : Smp h j o n) (ha : 0 ≤ a ∧ b < n) (hab : a + 2 ≤ b) (hw : ∀ X, a ≤ X → X ≤ b → ¬ sap h o X = -1000000000) (hk : ∀ u, U3 u (sso (gsw h o a b) 64 0 (0, -1)) → K none (setR h 68 u)) : Go G (d + 3) mc ms M_X7_search 0 [.ref 68, .ref o, .int (iZ a), .int (iZ b), un, un, un] [] h K := by
  refine Go_aload_n (pc' := 1) dX7_search_0 rfl rfl rfl ?_
  refine Go_iconst (v := iZ 0) (pc' := 2) dX7_search_1 rfl (by decide) ?_
  refine Go_putI (pc' := 5) dX7_search_2 rfl kf_RX7_9 (by decide) (by decide) rfl (S.b 68 rfl rfl) (S.o 68 rfl rfl rfl) (Or.inl rfl) rfl rfl ?_
  refine Go_aload_n (pc' := 6) dX7_search_5 rfl rfl rfl ?_
  refine Go_iconst (v := iZ (-1)) (pc' := 7) dX7_search_6 rfl (by decide) ?_
  refine Go_putI (pc' := 10) dX7_search_7 rfl kf_RX7_15 (by decide) (by decide) rfl (S.b 68 rfl rfl) (S.o 68 rfl rfl rfl) (Or.inl rfl) rfl rfl ?_
  refine Go_aload_n (pc' := 11) dX7_search_10 rfl rfl rfl ?_
  refine Go_iconst (v := iZ (-1)) (pc' := 12) dX7_search_11 rfl (by decide) ?_
  refine Go_putI (pc' := 15) dX7_search_12 rfl kf_RX7_18 (by decide) (by decide) rfl (S.b 68 rfl rfl) (S.o 68 rfl rfl rfl) (Or.inl rfl) rfl rfl ?_
  refine Go_iconst (v := iZ 0) (pc' := 16) dX7_search_15 rfl (by decide) ?_
  refine Go_istore (pc' := 18) (lv' := [.ref _, .ref _, .int _, .int _, .int _, un, un]) dX7_search_16 rfl (Nat.le_of_ble_eq_true rfl) rfl rfl ?_
  rw [show (wI (wI (wI h 68 0 (iZ 0)) 68 1 (iZ (-1))) 68 2 (iZ (-1))) = setR h 68 (upd (upd (upd (vi h 68) 0 (iZ 0)) 1 (iZ (-1))) 2 (iZ (-1))) from by rw [← setR_wI, ← setR_wI, ← setR_wI, setR_self]]
  exact sw_out S M ha hab hw 64 0 0 (-1) _ _ _ (by omega) (by omega) (by omega) (by omega) ⟨by simp [upd], by simp [upd], by simp [upd]⟩ hk
theorem rbk_r {h : HS} {j o n : Nat} {D T X : Int} (M : Smp h j o n) (hc : cr h o n X) (hD : 0 ≤ D ∧ D ≤ 63) (hT : 0 ≤ T ∧ T ≤ 63) : -1000000 ≤ rbk h o D T X ∧ rbk h o D T X ≤ 1000000 := by
  have hx := hc.1; have hn := M.n
  have q0 := hc.2.1.1; have q1 := hc.2.2.1.1; have q2 := hc.2.2.2.1
  rw [show X - 2 = X - 1 - 1 by omega] at q2
  have s0 := sap_ok M (X := X) (by omega)
  have s1 := sap_ok M (X := X - 1) (by omega)
  have s2 := sap_ok M (X := X - 1 - 1) (by omega)
  have b1 := mul63 (B := 1998) hD (V := sap h o (X - 1) - sap h o (X - 1 - 1)) (by omega)
  have b2 := mul63 (B := 999) hT (V := sap h o (X - 1)) (by omega)
  unfold rbk
  generalize D * (sap h o (X - 1) - sap h o (X - 1 - 1)) = A at *
  generalize T * sap h o (X - 1) = B at *
  have t := (tdiv_iff (A + B) ((A + B).tdiv 64)).1 rfl
  generalize (A + B).tdiv 64 = Q at *
  split at t <;> split at t <;> omega
set_option maxRecDepth 20000 in
set_option maxHeartbeats 1000000 in
theorem sws_loop {G : GC} {d mc ms : Nat} {h : HS} {K : Option Value → HS → Prop} {j o n : Nat} {a b D T : Int} (S : Shp h) (M : Smp h j o n) (ha : 0 ≤ a ∧ b < n) (hc : ∀ X, a + 2 ≤ X → X ≤ b → cr h o n X) (hD : 0 ≤ D ∧ D ≤ 63) (hT : 0 ≤ T ∧ T ≤ 63) : ∀ (m : Nat) (X : Int), X + m = b + 1 → a + 2 ≤ X → K (some (.int (b2i (all (zB h o D T) m X = true)))) h → Go G (d + 3) mc ms M_X12_swings 5 [.ref 99, .int (iZ (j : Int)), .int (iZ a), .int (iZ b), .int (iZ D), .int (iZ T), .int (iZ X)] [] h K := by
  have CS := M.2.1
  have hn := M.n
  have hj6 := M.j
  have hq0 := CS.1
  intro m
  induction m with
  | zero =>
    intro X hm hx hk
    refine Go_iload (pc' := 7) dX12_swings_5 rfl rfl ?_
    refine Go_iload_n (pc' := 8) dX12_swings_7 rfl rfl rfl ?_
    refine Go_icmp_gtY (tgt := 33) (pc' := 11) dX12_swings_8 (by decide) rfl (by first | exact ⟨i_lo _, i_hi _⟩ | omega) (by first | exact ⟨i_lo _, i_hi _⟩ | omega) (fun c8 => ?_) (fun c8 => by exfalso; omega)
    refine Go_iconst (v := iZ 1) (pc' := 34) dX12_swings_33 rfl (by decide) ?_
    refine Go_ireturn (ty := .boolean) dX12_swings_34 rfl rfl ?_
    exact hk
  | succ m ih =>
    intro X hm hx hk
    have rr := rbk_r M (hc X (by omega) (by omega)) hD hT
    refine Go_iload (pc' := 7) dX12_swings_5 rfl rfl ?_
    refine Go_iload_n (pc' := 8) dX12_swings_7 rfl rfl rfl ?_
    refine Go_icmp_gtY (tgt := 33) (pc' := 11) dX12_swings_8 (by decide) rfl (by first | exact ⟨i_lo _, i_hi _⟩ | omega) (by first | exact ⟨i_lo _, i_hi _⟩ | omega) (fun c8 => by exfalso; omega) (fun c8 => ?_)
    refine Go_aload_n (pc' := 12) dX12_swings_11 rfl rfl rfl ?_
    refine Go_iload_n (pc' := 13) dX12_swings_12 rfl rfl rfl ?_
    refine Go_iload (pc' := 15) dX12_swings_13 rfl rfl ?_
    refine Go_iload (pc' := 17) dX12_swings_15 rfl rfl ?_
    refine Go_iload (pc' := 19) dX12_swings_17 rfl rfl ?_
    refine Go_callV_i (pc' := 22) (As := [.int _, .int _, .int _, .int _]) (st := []) dX12_swings_19 rfl ok_X12_readBack km_RX12_176 (S.o 99 rfl rfl rfl) (S.b 99 rfl rfl) ⟨_, _, rfl⟩ rfl (Nat.le_of_ble_eq_true rfl) rfl rfl rfl (Nat.le_of_ble_eq_true rfl) (Nat.lt_succ_self _) ?_
    refine s_rbkM S M (hc X (by omega) (by omega)) hD hT ?_
    refine ⟨_, rfl, ?_⟩
    refine Go_if_eqY (tgt := 27) (pc' := 25) dX12_swings_22 (by decide) rfl (by first | exact ⟨i_lo _, i_hi _⟩ | omega) (fun c22 => ?_) (fun c22 => ?_)
    · refine Go_iincZ (pc' := 30) (lv' := [.ref _, .int _, .int _, .int _, .int _, .int _, .int _]) dX12_swings_27 rfl rfl (Nat.le_of_ble_eq_true rfl) rfl rfl ?_
      refine Go_goto (tgt := 5) dX12_swings_30 (by decide) ?_
      rw [all_t (by unfold zB; exact decide_eq_true c22)] at hk
      exact ih _ (by omega) (by omega) hk
    · refine Go_iconst (v := iZ 0) (pc' := 26) dX12_swings_25 rfl (by decide) ?_
      refine Go_ireturn (ty := .boolean) dX12_swings_26 rfl rfl ?_
      rw [all_f (by unfold zB; exact fun z => c22 (of_decide_eq_true z))] at hk; exact hk
set_option maxRecDepth 20000 in
set_option maxHeartbeats 1000000 in
theorem s_sws {G : GC} {d mc ms : Nat} {h : HS} {K : Option Value → HS → Prop} {j o n : Nat} {a b D T : Int} (S : Shp h) (M : Smp h j o n) (ha : 0 ≤ a ∧ b < n) (hc : ∀ X, a + 2 ≤ X → X ≤ b → cr h o n X) (hD : 0 ≤ D ∧ D ≤ 63) (hT : 0 ≤ T ∧ T ≤ 63) (hab : a + 2 ≤ b) (hk : K (some (.int (b2i (gsw h o a b D T = true)))) h) : Go G (d + 3) mc ms M_X12_swings 0 [.ref 99, .int (iZ (j : Int)), .int (iZ a), .int (iZ b), .int (iZ D), .int (iZ T), un] [] h K := by
  have CS := M.2.1
  have hn := M.n
  have hj6 := M.j
  have hq0 := CS.1
  refine Go_iload_n (pc' := 1) dX12_swings_0 rfl rfl rfl ?_
  refine Go_iconst (v := iZ 2) (pc' := 2) dX12_swings_1 rfl (by decide) ?_
  refine Go_iaddZ (pc' := 3) dX12_swings_2 rfl ?_
  refine Go_istore (pc' := 5) (lv' := [.ref _, .int _, .int _, .int _, .int _, .int _, .int _]) dX12_swings_3 rfl (Nat.le_of_ble_eq_true rfl) rfl rfl ?_
  exact sws_loop S M ha hc hD hT _ _ (by omega) (by omega) hk
set_option maxRecDepth 20000 in
set_option maxHeartbeats 1000000 in
theorem swm_in {G : GC} {d mc ms : Nat} {h : HS} {K : Option Value → HS → Prop} {j o n : Nat} {a b E D : Int} (S : Shp h) (M : Smp h j o n) (ha : 0 ≤ a ∧ b < n) (hab : a + 2 ≤ b) (hc : ∀ X, a + 2 ≤ X → X ≤ b → cr h o n X) (hD : 0 ≤ D ∧ D ≤ 63) : ∀ (m : Nat) (T n1 f : Int), T + m = 64 → 0 ≤ T → (0 ≤ n1 ∧ n1 ≤ 64 * D + T) → (∀ x, Go G (d + 4) mc ms M_X12_swing 149 [.ref 99, .int (iZ (j : Int)), .int (iZ a), .int (iZ b), .int (iZ E), .int (iZ (sws (gsw h o a b D) D m T n1 f).1), .int (iZ (sws (gsw h o a b D) D m T n1 f).2), .int (iZ D), .int (iZ x)] [] h K) → Go G (d + 4) mc ms M_X12_swing 96 [.ref 99, .int (iZ (j : Int)), .int (iZ a), .int (iZ b), .int (iZ E), .int (iZ n1), .int (iZ f), .int (iZ D), .int (iZ T)] [] h K := by
  have CS := M.2.1
  have hn := M.n
  have hj6 := M.j
  have hq0 := CS.1
  intro m
  induction m with
  | zero =>
    intro T n1 f hm hx hn1 hk
    refine Go_iload (pc' := 98) dX12_swing_96 rfl rfl ?_
    refine Go_bipush (v := iZ 64) (pc' := 100) dX12_swing_98 rfl (by decide) ?_
    refine Go_icmp_geY (tgt := 149) (pc' := 103) dX12_swing_100 (by decide) rfl (by first | exact ⟨i_lo _, i_hi _⟩ | omega) (by first | exact ⟨i_lo _, i_hi _⟩ | omega) (fun c100 => ?_) (fun c100 => by exfalso; omega)
    exact hk _
  | succ m ih =>
    intro T n1 f hm hx hn1 hk
    refine Go_iload (pc' := 98) dX12_swing_96 rfl rfl ?_
    refine Go_bipush (v := iZ 64) (pc' := 100) dX12_swing_98 rfl (by decide) ?_
    refine Go_icmp_geY (tgt := 149) (pc' := 103) dX12_swing_100 (by decide) rfl (by first | exact ⟨i_lo _, i_hi _⟩ | omega) (by first | exact ⟨i_lo _, i_hi _⟩ | omega) (fun c100 => by exfalso; omega) (fun c100 => ?_)
    refine Go_aload_n (pc' := 104) dX12_swing_103 rfl rfl rfl ?_
    refine Go_iload_n (pc' := 105) dX12_swing_104 rfl rfl rfl ?_
    refine Go_iload_n (pc' := 106) dX12_swing_105 rfl rfl rfl ?_
    refine Go_iload_n (pc' := 107) dX12_swing_106 rfl rfl rfl ?_
    refine Go_iload (pc' := 109) dX12_swing_107 rfl rfl ?_
    refine Go_iload (pc' := 111) dX12_swing_109 rfl rfl ?_
    refine Go_callV_i (pc' := 114) (As := [.int _, .int _, .int _, .int _, .int _]) (st := []) dX12_swing_111 rfl ok_X12_swings km_RX12_180 (S.o 99 rfl rfl rfl) (S.b 99 rfl rfl) ⟨_, _, rfl⟩ rfl (Nat.le_of_ble_eq_true rfl) rfl rfl rfl (Nat.le_of_ble_eq_true rfl) (Nat.lt_succ_self _) ?_
    refine s_sws S M ha hc hD (by omega) hab ?_
    refine ⟨_, rfl, ?_⟩
    refine Go_if_neb (tgt := 120) (pc' := 117) dX12_swing_114 (by decide) rfl (fun c114 => ?_) (fun c114 => ?_)
    · refine Go_iload (pc' := 122) dX12_swing_120 rfl rfl ?_
      refine Go_if_neY (tgt := 136) (pc' := 125) dX12_swing_122 (by decide) rfl (by first | exact ⟨i_lo _, i_hi _⟩ | omega) (fun c122 => ?_) (fun c122 => ?_)
      · refine Go_iload (pc' := 138) dX12_swing_136 rfl rfl ?_
        refine Go_istore (pc' := 140) (lv' := [.ref _, .int _, .int _, .int _, .int _, .int _, .int _, .int _, .int _]) dX12_swing_138 rfl (Nat.le_of_ble_eq_true rfl) rfl rfl ?_
        refine Go_iincZ (pc' := 143) (lv' := [.ref _, .int _, .int _, .int _, .int _, .int _, .int _, .int _, .int _]) dX12_swing_140 rfl rfl (Nat.le_of_ble_eq_true rfl) rfl rfl ?_
        refine Go_iincZ (pc' := 146) (lv' := [.ref _, .int _, .int _, .int _, .int _, .int _, .int _, .int _, .int _]) dX12_swing_143 rfl rfl (Nat.le_of_ble_eq_true rfl) rfl rfl ?_
        refine Go_goto (tgt := 96) dX12_swing_146 (by decide) ?_
        rw [sws_t c114, if_neg c122] at hk
        exact ih (T + 1) _ _ (by omega) (by omega) (by omega) hk
      · refine Go_bipush (v := iZ 64) (pc' := 127) dX12_swing_125 rfl (by decide) ?_
        refine Go_iload (pc' := 129) dX12_swing_127 rfl rfl ?_
        refine Go_imulZ (pc' := 130) dX12_swing_129 rfl ?_
        refine Go_iload (pc' := 132) dX12_swing_130 rfl rfl ?_
        refine Go_iaddZ (pc' := 133) dX12_swing_132 rfl ?_
        refine Go_goto (tgt := 138) dX12_swing_133 (by decide) ?_
        refine Go_istore (pc' := 140) (lv' := [.ref _, .int _, .int _, .int _, .int _, .int _, .int _, .int _, .int _]) dX12_swing_138 rfl (Nat.le_of_ble_eq_true rfl) rfl rfl ?_
        refine Go_iincZ (pc' := 143) (lv' := [.ref _, .int _, .int _, .int _, .int _, .int _, .int _, .int _, .int _]) dX12_swing_140 rfl rfl (Nat.le_of_ble_eq_true rfl) rfl rfl ?_
        refine Go_iincZ (pc' := 146) (lv' := [.ref _, .int _, .int _, .int _, .int _, .int _, .int _, .int _, .int _]) dX12_swing_143 rfl rfl (Nat.le_of_ble_eq_true rfl) rfl rfl ?_
        refine Go_goto (tgt := 96) dX12_swing_146 (by decide) ?_
        rw [sws_t c114, if_pos c122] at hk
        exact ih (T + 1) _ _ (by omega) (by omega) (by omega) hk
    · refine Go_goto (tgt := 143) dX12_swing_117 (by decide) ?_
      refine Go_iincZ (pc' := 146) (lv' := [.ref _, .int _, .int _, .int _, .int _, .int _, .int _, .int _, .int _]) dX12_swing_143 rfl rfl (Nat.le_of_ble_eq_true rfl) rfl rfl ?_
      refine Go_goto (tgt := 96) dX12_swing_146 (by decide) ?_
      rw [sws_f c114] at hk
      exact ih (T + 1) n1 f (by omega) (by omega) (by omega) hk
def swgR (E : Int) (t : Int × Int) : Int := if E = 0 then t.1 else if t.1 = 0 then -1 else if E = 1 then t.2 / 64 else t.2 % 64
theorem sws_r {g : Int → Bool} {D : Int} (hD : 0 ≤ D ∧ D ≤ 63) : ∀ (m : Nat) (T n f : Int), T + m = 64 → 0 ≤ T → (0 ≤ n ∧ n ≤ 64 * D + T) → (n = 0 ∨ (0 ≤ f ∧ f < 4096)) → (0 ≤ (sws g D m T n f).1 ∧ (sws g D m T n f).1 ≤ 64 * D + 64) ∧ ((sws g D m T n f).1 = 0 ∨ (0 ≤ (sws g D m T n f).2 ∧ (sws g D m T n f).2 < 4096))
  | 0, T, n, f, hT, h0, hn, hf => ⟨by show 0 ≤ n ∧ n ≤ _; omega, hf⟩
  | m + 1, T, n, f, hT, h0, hn, hf => by
    by_cases e : g T = true
    · rw [sws_t e]
      refine sws_r hD m (T + 1) _ _ (by omega) (by omega) (by omega) (Or.inr ?_)
      split <;> omega
    · rw [sws_f e]; exact sws_r hD m (T + 1) _ _ (by omega) (by omega) (by omega) hf
set_option maxRecDepth 20000 in
set_option maxHeartbeats 1000000 in
theorem swm_out {G : GC} {d mc ms : Nat} {h : HS} {K : Option Value → HS → Prop} {j o n : Nat} {a b E : Int} (S : Shp h) (M : Smp h j o n) (ha : 0 ≤ a ∧ b < n) (hab : a + 2 ≤ b) (hc : ∀ X, a + 2 ≤ X → X ≤ b → cr h o n X) (hE : 0 ≤ E ∧ E ≤ 2) : ∀ (m : Nat) (D n1 f : Int) (v8 : Value), D + m = 64 → 0 ≤ D → (0 ≤ n1 ∧ n1 ≤ 64 * D) → (n1 = 0 ∨ (0 ≤ f ∧ f < 4096)) → K (some (.int (iZ (swgR E (sso (gsw h o a b) m D (n1, f)))))) h → Go G (d + 4) mc ms M_X12_swing 86 [.ref 99, .int (iZ (j : Int)), .int (iZ a), .int (iZ b), .int (iZ E), .int (iZ n1), .int (iZ f), .int (iZ D), v8] [] h K := by
  have CS := M.2.1
  have hn := M.n
  have hj6 := M.j
  have hq0 := CS.1
  intro m
  induction m with
  | zero =>
    intro D n1 f v8 hm hx hn1 hf hk
    refine Go_iload (pc' := 88) dX12_swing_86 rfl rfl ?_
    refine Go_bipush (v := iZ 64) (pc' := 90) dX12_swing_88 rfl (by decide) ?_
    refine Go_icmp_geY (tgt := 155) (pc' := 93) dX12_swing_90 (by decide) rfl (by first | exact ⟨i_lo _, i_hi _⟩ | omega) (by first | exact ⟨i_lo _, i_hi _⟩ | omega) (fun c90 => ?_) (fun c90 => by exfalso; omega)
    refine Go_iload (pc' := 157) dX12_swing_155 rfl rfl ?_
    refine Go_if_neY (tgt := 165) (pc' := 160) dX12_swing_157 (by decide) rfl (by first | exact ⟨i_lo _, i_hi _⟩ | omega) (fun c157 => ?_) (fun c157 => ?_)
    · refine Go_iload (pc' := 167) dX12_swing_165 rfl rfl ?_
      refine Go_if_neY (tgt := 174) (pc' := 170) dX12_swing_167 (by decide) rfl (by first | exact ⟨i_lo _, i_hi _⟩ | omega) (fun c167 => ?_) (fun c167 => ?_)
      · refine Go_iload (pc' := 176) dX12_swing_174 rfl rfl ?_
        refine Go_iconst (v := iZ 1) (pc' := 177) dX12_swing_176 rfl (by decide) ?_
        refine Go_icmp_neY (tgt := 188) (pc' := 180) dX12_swing_177 (by decide) rfl (by first | exact ⟨i_lo _, i_hi _⟩ | omega) (by first | exact ⟨i_lo _, i_hi _⟩ | omega) (fun c177 => ?_) (fun c177 => ?_)
        · refine Go_iload (pc' := 190) dX12_swing_188 rfl rfl ?_
          refine Go_bipush (v := iZ 64) (pc' := 192) dX12_swing_190 rfl (by decide) ?_
          refine Go_iremP (pc' := 193) dX12_swing_192 rfl (by omega) (by omega) ?_
          refine Go_ireturn (ty := .int) dX12_swing_193 rfl rfl ?_
          have hk : K (some (.int (iZ (swgR E (n1, f))))) h := hk
          unfold swgR at hk
          rw [if_neg (by omega), if_neg (by show ¬ n1 = 0; omega), if_neg (by omega)] at hk; exact hk
        · refine Go_iload (pc' := 182) dX12_swing_180 rfl rfl ?_
          refine Go_bipush (v := iZ 64) (pc' := 184) dX12_swing_182 rfl (by decide) ?_
          refine Go_idivP (pc' := 185) dX12_swing_184 rfl (by omega) (by omega) ?_
          refine Go_goto (tgt := 193) dX12_swing_185 (by decide) ?_
          refine Go_ireturn (ty := .int) dX12_swing_193 rfl rfl ?_
          have hk : K (some (.int (iZ (swgR E (n1, f))))) h := hk
          unfold swgR at hk
          rw [if_neg (by omega), if_neg (by show ¬ n1 = 0; omega), if_pos (by omega)] at hk; exact hk
      · refine Go_iconst (v := iZ (-1)) (pc' := 171) dX12_swing_170 rfl (by decide) ?_
        refine Go_goto (tgt := 193) dX12_swing_171 (by decide) ?_
        refine Go_ireturn (ty := .int) dX12_swing_193 rfl rfl ?_
        have hk : K (some (.int (iZ (swgR E (n1, f))))) h := hk
        unfold swgR at hk
        rw [if_neg (by omega), if_pos (by show n1 = 0; omega)] at hk; exact hk
    · refine Go_iload (pc' := 162) dX12_swing_160 rfl rfl ?_
      refine Go_goto (tgt := 193) dX12_swing_162 (by decide) ?_
      refine Go_ireturn (ty := .int) dX12_swing_193 rfl rfl ?_
      have hk : K (some (.int (iZ (swgR E (n1, f))))) h := hk
      unfold swgR at hk
      rw [if_pos (by omega)] at hk; exact hk
  | succ m ih =>
    intro D n1 f v8 hm hx hn1 hf hk
    refine Go_iload (pc' := 88) dX12_swing_86 rfl rfl ?_
    refine Go_bipush (v := iZ 64) (pc' := 90) dX12_swing_88 rfl (by decide) ?_
    refine Go_icmp_geY (tgt := 155) (pc' := 93) dX12_swing_90 (by decide) rfl (by first | exact ⟨i_lo _, i_hi _⟩ | omega) (by first | exact ⟨i_lo _, i_hi _⟩ | omega) (fun c90 => by exfalso; omega) (fun c90 => ?_)
    refine Go_iconst (v := iZ 0) (pc' := 94) dX12_swing_93 rfl (by decide) ?_
    refine Go_istore (pc' := 96) (lv' := [.ref _, .int _, .int _, .int _, .int _, .int _, .int _, .int _, .int _]) dX12_swing_94 rfl (Nat.le_of_ble_eq_true rfl) rfl rfl ?_
    obtain ⟨n2, f2, e2⟩ : ∃ n2 f2, sws (gsw h o a b D) D 64 0 n1 f = (n2, f2) := ⟨_, _, rfl⟩
    refine swm_in S M ha hab hc (by omega) 64 0 n1 f (by omega) (by omega) (by omega) (fun x => ?_)
    rw [e2]
    show Go G (d + 4) mc ms M_X12_swing 149 [.ref 99, .int (iZ (j : Int)), .int (iZ a), .int (iZ b), .int (iZ E), .int (iZ n2), .int (iZ f2), .int (iZ D), .int (iZ x)] [] h K
    refine Go_iincZ (pc' := 152) (lv' := [.ref _, .int _, .int _, .int _, .int _, .int _, .int _, .int _, .int _]) dX12_swing_149 rfl rfl (Nat.le_of_ble_eq_true rfl) rfl rfl ?_
    refine Go_goto (tgt := 86) dX12_swing_152 (by decide) ?_
    have rr := sws_r (g := gsw h o a b D) (D := D) (by omega) 64 0 n1 f (by omega) (by omega) (by omega) hf
    rw [e2] at rr
    have r1 : 0 ≤ n2 ∧ n2 ≤ 64 * D + 64 := rr.1
    rw [sso_s (t := (n1, f)) (t' := (n2, f2)) e2] at hk
    exact ih (D + 1) n2 f2 _ (by omega) (by omega) (by omega) rr.2 hk
def crB (h : HS) (o n : Nat) (X : Int) : Bool := decide (cr h o n X)
set_option maxRecDepth 20000 in
set_option maxHeartbeats 1000000 in
theorem swc_loop {G : GC} {d mc ms : Nat} {h : HS} {K : Option Value → HS → Prop} {j o n : Nat} {a b E : Int} (S : Shp h) (M : Smp h j o n) (ha : 0 ≤ a ∧ b < n) : ∀ (m : Nat) (X : Int), X + m = b + 1 → a + 2 ≤ X → (all (crB h o n) m X = true → ∀ x, Go G (d + 4) mc ms M_X12_swing 77 [.ref 99, .int (iZ (j : Int)), .int (iZ a), .int (iZ b), .int (iZ E), .int (iZ x), un, un, un] [] h K) → (¬ all (crB h o n) m X = true → K (some (.int (iZ (-1)))) h) → Go G (d + 4) mc ms M_X12_swing 53 [.ref 99, .int (iZ (j : Int)), .int (iZ a), .int (iZ b), .int (iZ E), .int (iZ X), un, un, un] [] h K := by
  have CS := M.2.1
  have hn := M.n
  have hj6 := M.j
  have hq0 := CS.1
  intro m
  induction m with
  | zero =>
    intro X hm hx k1 k0
    refine Go_iload (pc' := 55) dX12_swing_53 rfl rfl ?_
    refine Go_iload_n (pc' := 56) dX12_swing_55 rfl rfl rfl ?_
    refine Go_icmp_gtY (tgt := 77) (pc' := 59) dX12_swing_56 (by decide) rfl (by first | exact ⟨i_lo _, i_hi _⟩ | omega) (by first | exact ⟨i_lo _, i_hi _⟩ | omega) (fun c56 => ?_) (fun c56 => by exfalso; omega)
    exact k1 rfl _
  | succ m ih =>
    intro X hm hx k1 k0
    refine Go_iload (pc' := 55) dX12_swing_53 rfl rfl ?_
    refine Go_iload_n (pc' := 56) dX12_swing_55 rfl rfl rfl ?_
    refine Go_icmp_gtY (tgt := 77) (pc' := 59) dX12_swing_56 (by decide) rfl (by first | exact ⟨i_lo _, i_hi _⟩ | omega) (by first | exact ⟨i_lo _, i_hi _⟩ | omega) (fun c56 => by exfalso; omega) (fun c56 => ?_)
    refine Go_aload_n (pc' := 60) dX12_swing_59 rfl rfl rfl ?_
    refine Go_iload_n (pc' := 61) dX12_swing_60 rfl rfl rfl ?_
    refine Go_iload (pc' := 63) dX12_swing_61 rfl rfl ?_
    refine Go_callV_i (pc' := 66) (As := [.int _, .int _]) (st := []) dX12_swing_63 rfl ok_X12_canRead km_RX12_173 (S.o 99 rfl rfl rfl) (S.b 99 rfl rfl) ⟨_, _, rfl⟩ rfl (Nat.le_of_ble_eq_true rfl) rfl rfl rfl (Nat.le_of_ble_eq_true rfl) (Nat.lt_succ_self _) ?_
    refine s_cr S M (by omega) ?_
    refine ⟨_, rfl, ?_⟩
    refine Go_if_neb (tgt := 71) (pc' := 69) dX12_swing_66 (by decide) rfl (fun c66 => ?_) (fun c66 => ?_)
    · refine Go_iincZ (pc' := 74) (lv' := [.ref _, .int _, .int _, .int _, .int _, .int _, un, un, un]) dX12_swing_71 rfl rfl (Nat.le_of_ble_eq_true rfl) rfl rfl ?_
      refine Go_goto (tgt := 53) dX12_swing_74 (by decide) ?_
      rw [all_t (f := crB h o n) (decide_eq_true c66)] at k1 k0
      exact ih _ (by omega) (by omega) k1 k0
    · refine Go_iconst (v := iZ (-1)) (pc' := 70) dX12_swing_69 rfl (by decide) ?_
      refine Go_ireturn (ty := .int) dX12_swing_70 rfl rfl ?_
      exact k0 (by rw [all_f (fun z => c66 (of_decide_eq_true z))]; decide)
theorem rb_all {h : HS} {o n : Nat} {a b : Int} (ha : 0 ≤ a) (hab : a + 2 ≤ b) (hb : b < n) : rb h o n a b ↔ all (crB h o n) (b + 1 - (a + 2)).toNat (a + 2) = true := by
  rw [rb_iff, all_iff]
  refine ⟨fun ⟨z, z1⟩ Y y1 y2 => decide_eq_true ⟨by omega, z1 _ (by omega) (by omega), z1 _ (by omega) (by omega), z1 _ (by omega) (by omega)⟩, fun z => ⟨by omega, fun X x1 x2 => ?_⟩⟩
  have g : ∀ Y, a + 2 ≤ Y → Y ≤ b → cr h o n Y := fun Y y1 y2 => of_decide_eq_true (z Y y1 (by omega))
  by_cases e : a + 2 ≤ X
  · exact (g X e x2).2.1
  · by_cases e1 : X = a
    · have := (g (a + 2) (by omega) (by omega)).2.2.2
      rw [show a + 2 - 2 = X by omega] at this; exact this
    · have := (g (a + 2) (by omega) (by omega)).2.2.1
      rw [show a + 2 - 1 = X by omega] at this; exact this
set_option maxRecDepth 20000 in
set_option maxHeartbeats 1000000 in
theorem pair7 {G : GC} (a b c e : Int32) : PairI G M_X11_swing M_X12_swing [.int a, .int b, .int c, .int e] := by
  intro h I
  obtain ⟨Az, hva, rfl⟩ := i_eta a
  obtain ⟨Bz, hvb, rfl⟩ := i_eta b
  obtain ⟨Cz, hvc, rfl⟩ := i_eta c
  obtain ⟨Ez, hve, rfl⟩ := i_eta e
  obtain ⟨nc, hnc, ec2⟩ := of_rgZ (b := 6) I.C.1.2
  have ec0 : vi h 99 0 = iZ (nc : Int) := I.C.1.1.trans ec2
  have S := I.S
  by_cases hcc : 0 ≤ Az ∧ Az < nc
  · obtain ⟨j, rfl⟩ : ∃ j : Nat, Az = (j : Int) := ⟨Az.toNat, by omega⟩
    obtain ⟨o, ho, CS, CV⟩ := cel_ex I hnc ec2 (c := j) (by omega)
    obtain ⟨n, M⟩ := smp_of (by omega) CS CV
    have hn := M.n
    have hq0 := CS.1
    by_cases hg : (0 ≤ Bz ∧ Bz + 2 ≤ Cz ∧ Cz < n) ∧ (0 ≤ Ez ∧ Ez ≤ 2)
    · have era := @rb_all h o n Bz Cz hg.1.1 hg.1.2.1 hg.1.2.2
      by_cases w : rb h o n Bz Cz
      · have hal := (rb_iff.1 w).2
        have hw : ∀ X, Bz ≤ X → X ≤ Cz → ¬ sap h o X = -1000000000 := fun X x1 x2 => (hal X x1 x2).1
        obtain ⟨t, et⟩ : ∃ t, sso (gsw h o Bz Cz) 64 0 (0, -1) = t := ⟨_, rfl⟩
        refine ⟨fun r h1 => r = iZ (swgR Ez t) ∧ ∃ u, h1 = setR h 68 u, fun K k => ?_, ?_⟩
        · refine Go.more (d := 60) (mc := 0) (ms := 0) ?_ (by omega) (by omega) (by omega)
          show Go G 60 0 0 M_X11_swing 0 [.ref 64, .int (iZ (j : Int)), .int (iZ Bz), .int (iZ Cz), .int (iZ Ez), un] [] h K
          refine Go_aload_n (pc' := 1) dX11_swing_0 rfl rfl rfl ?_
          refine Go_iload_n (pc' := 2) dX11_swing_1 rfl rfl rfl ?_
          refine Go_callV_r (pc' := 5) (As := [.int _]) (st := []) dX11_swing_2 rfl ok_X11_cellarOf km_RX11_90 (I.S.o 64 rfl rfl rfl) (I.S.b 64 rfl rfl) ⟨_, _, rfl⟩ rfl (Nat.le_of_ble_eq_true rfl) rfl rfl rfl (Nat.le_of_ble_eq_true rfl) (Nat.lt_succ_self _) ?_
          refine Go_iload_n (pc' := 1) dX11_cellarOf_0 rfl rfl rfl ?_
          refine Go_iconst (v := iZ 0) (pc' := 2) dX11_cellarOf_1 rfl (by decide) ?_
          refine Go_aload_n (pc' := 3) dX11_cellarOf_2 rfl rfl rfl ?_
          refine Go_getIv (v := (iZ (nc : Int))) (pc' := 6) dX11_cellarOf_3 rfl kf_RX11_84 (by decide) (by decide) rfl (I.S.b 64 rfl rfl) (I.S.o 64 rfl rfl rfl) (ec2) ?_
          refine Go_iconst (v := iZ 1) (pc' := 7) dX11_cellarOf_6 rfl (by decide) ?_
          refine Go_isubZ (pc' := 8) dX11_cellarOf_7 rfl ?_
          refine Go_callS_i (pc' := 11) (As := [.int _, .int _, .int _]) (st := []) dX11_cellarOf_8 rfl ok_X11_within km_RX11_94 rfl (Nat.le_of_ble_eq_true rfl) rfl rfl rfl (Nat.le_of_ble_eq_true rfl) (Nat.lt_succ_self _) ?_
          refine s_withinY (by first | exact ⟨i_lo _, i_hi _⟩ | omega) (by first | exact ⟨i_lo _, i_hi _⟩ | omega) (by first | exact ⟨i_lo _, i_hi _⟩ | omega) ?_
          refine ⟨_, rfl, ?_⟩
          refine Go_if_eqb (tgt := 32) (pc' := 14) dX11_cellarOf_11 (by decide) rfl (fun q11 => by exfalso; omega) (fun q11 => ?_)
          refine Go_iload_n (pc' := 15) dX11_cellarOf_14 rfl rfl rfl ?_
          refine Go_aload_n (pc' := 16) dX11_cellarOf_15 rfl rfl rfl ?_
          refine Go_getRs (pc' := 19) dX11_cellarOf_16 rfl kf_RX11_18 (by decide) (by decide) rfl (I.S.b 64 rfl rfl) (I.S.o 64 rfl rfl rfl) (I.S.r 64 1 rfl rfl rfl) ?_
          refine Go_alenZ (n := 6) (pc' := 20) dX11_cellarOf_19 rfl (I.S.b 67 rfl rfl) (I.S.k 67 rfl rfl rfl) (Or.inr (Or.inr ⟨_, rfl⟩)) ?_
          refine Go_icmp_geY (tgt := 32) (pc' := 23) dX11_cellarOf_20 (by decide) rfl (by first | exact ⟨i_lo _, i_hi _⟩ | omega) (by first | exact ⟨i_lo _, i_hi _⟩ | omega) (fun q20 => by exfalso; omega) (fun q20 => ?_)
          refine Go_aload_n (pc' := 24) dX11_cellarOf_23 rfl rfl rfl ?_
          refine Go_getRs (pc' := 27) dX11_cellarOf_24 rfl kf_RX11_18 (by decide) (by decide) rfl (I.S.b 64 rfl rfl) (I.S.o 64 rfl rfl rfl) (I.S.r 64 1 rfl rfl rfl) ?_
          refine Go_iload_n (pc' := 28) dX11_cellarOf_27 rfl rfl rfl ?_
          refine Go_aaloadZ (n := 6) (k := j) (pc' := 29) dX11_cellarOf_28 rfl (I.S.b 67 rfl rfl) (I.S.k 67 rfl rfl rfl) rfl rfl (by omega) (by decide) ho ?_
          refine Go_goto (tgt := 33) dX11_cellarOf_29 (by decide) ?_
          refine Go_areturn (r := some _) dX11_cellarOf_33 rfl ?_
          refine ⟨some _, rfl, ?_⟩
          refine Go_astore (pc' := 7) (lv' := [.ref _, .int _, .int _, .int _, .int _, .ref _]) dX11_swing_5 rfl (Nat.le_of_ble_eq_true rfl) rfl rfl ?_
          refine Go_aload (pc' := 9) dX11_swing_7 rfl rfl ?_
          refine Go_ifnull (pc' := 12) dX11_swing_9 rfl ?_
          refine Go_iload_n (pc' := 13) dX11_swing_12 rfl rfl rfl ?_
          refine Go_iconst (v := iZ 0) (pc' := 14) dX11_swing_13 rfl (by decide) ?_
          refine Go_sipush (v := iZ 199) (pc' := 17) dX11_swing_14 rfl (by decide) ?_
          refine Go_callS_i (pc' := 20) (As := [.int _, .int _, .int _]) (st := []) dX11_swing_17 rfl ok_X11_within km_RX11_94 rfl (Nat.le_of_ble_eq_true rfl) rfl rfl rfl (Nat.le_of_ble_eq_true rfl) (Nat.lt_succ_self _) ?_
          refine s_withinY (by first | exact ⟨i_lo _, i_hi _⟩ | omega) (by first | exact ⟨i_lo _, i_hi _⟩ | omega) (by first | exact ⟨i_lo _, i_hi _⟩ | omega) ?_
          refine ⟨_, rfl, ?_⟩
          refine Go_if_eqb (tgt := 40) (pc' := 23) dX11_swing_20 (by decide) rfl (fun c20 => by exfalso; omega) (fun c20 => ?_)
          refine Go_iload_n (pc' := 24) dX11_swing_23 rfl rfl rfl ?_
          refine Go_iconst (v := iZ 2) (pc' := 25) dX11_swing_24 rfl (by decide) ?_
          refine Go_iaddZ (pc' := 26) dX11_swing_25 rfl ?_
          refine Go_iload_n (pc' := 27) dX11_swing_26 rfl rfl rfl ?_
          refine Go_icmp_gtY (tgt := 40) (pc' := 30) dX11_swing_27 (by decide) rfl (by first | exact ⟨i_lo _, i_hi _⟩ | omega) (by first | exact ⟨i_lo _, i_hi _⟩ | omega) (fun c27 => by exfalso; omega) (fun c27 => ?_)
          refine Go_iload (pc' := 32) dX11_swing_30 rfl rfl ?_
          refine Go_iconst (v := iZ 0) (pc' := 33) dX11_swing_32 rfl (by decide) ?_
          refine Go_iconst (v := iZ 2) (pc' := 34) dX11_swing_33 rfl (by decide) ?_
          refine Go_callS_i (pc' := 37) (As := [.int _, .int _, .int _]) (st := []) dX11_swing_34 rfl ok_X11_within km_RX11_94 rfl (Nat.le_of_ble_eq_true rfl) rfl rfl rfl (Nat.le_of_ble_eq_true rfl) (Nat.lt_succ_self _) ?_
          refine s_withinY (by first | exact ⟨i_lo _, i_hi _⟩ | omega) (by first | exact ⟨i_lo _, i_hi _⟩ | omega) (by first | exact ⟨i_lo _, i_hi _⟩ | omega) ?_
          refine ⟨_, rfl, ?_⟩
          refine Go_if_neb (tgt := 42) (pc' := 40) dX11_swing_37 (by decide) rfl (fun c37 => ?_) (fun c37 => by exfalso; omega)
          refine Go_aload (pc' := 44) dX11_swing_42 rfl rfl ?_
          refine Go_iload_n (pc' := 45) dX11_swing_44 rfl rfl rfl ?_
          refine Go_iload_n (pc' := 46) dX11_swing_45 rfl rfl rfl ?_
          refine Go_callV_i (pc' := 49) (As := [.int _, .int _]) (st := []) dX11_swing_46 rfl ok_X2_isReadable km_RX11_140 CS.o CS.b ⟨_, _, rfl⟩ rfl (Nat.le_of_ble_eq_true rfl) rfl rfl rfl (Nat.le_of_ble_eq_true rfl) (Nat.lt_succ_self _) ?_
          refine s_rb M (by omega) (by omega) ?_
          refine ⟨_, rfl, ?_⟩
          refine Go_if_neb (tgt := 54) (pc' := 52) dX11_swing_49 (by decide) rfl (fun c49 => ?_) (fun c49 => by exact absurd w c49)
          refine Go_aload_n (pc' := 55) dX11_swing_54 rfl rfl rfl ?_
          refine Go_getRs (pc' := 58) dX11_swing_55 rfl kf_RX11_25 (by decide) (by decide) rfl (I.S.b 64 rfl rfl) (I.S.o 64 rfl rfl rfl) (I.S.r 64 3 rfl rfl rfl) ?_
          refine Go_aload (pc' := 60) dX11_swing_58 rfl rfl ?_
          refine Go_iload_n (pc' := 61) dX11_swing_60 rfl rfl rfl ?_
          refine Go_iload_n (pc' := 62) dX11_swing_61 rfl rfl rfl ?_
          refine Go_callV_v (pc' := 65) (As := [.ref _, .int _, .int _]) (st := []) dX11_swing_62 rfl ok_X7_search km_RX11_146 (I.S.o 68 rfl rfl rfl) (I.S.b 68 rfl rfl) ⟨_, _, rfl⟩ rfl (Nat.le_of_ble_eq_true rfl) rfl rfl rfl (Nat.le_of_ble_eq_true rfl) (Nat.lt_succ_self _) ?_
          refine s_search S M (by omega) (by omega) hw (fun u hU => ?_)
          refine ⟨rfl, ?_⟩
          rw [et] at hU
          obtain ⟨U1, U2, U3⟩ := hU
          refine Go_iload (pc' := 67) dX11_swing_65 rfl rfl ?_
          refine Go_if_neY (tgt := 78) (pc' := 70) dX11_swing_67 (by decide) rfl (by first | exact ⟨i_lo _, i_hi _⟩ | omega) (fun c67 => ?_) (fun c67 => ?_)
          · refine Go_iload (pc' := 80) dX11_swing_78 rfl rfl ?_
            refine Go_iconst (v := iZ 1) (pc' := 81) dX11_swing_80 rfl (by decide) ?_
            refine Go_icmp_neY (tgt := 94) (pc' := 84) dX11_swing_81 (by decide) rfl (by first | exact ⟨i_lo _, i_hi _⟩ | omega) (by first | exact ⟨i_lo _, i_hi _⟩ | omega) (fun c81 => ?_) (fun c81 => ?_)
            · refine Go_aload_n (pc' := 95) dX11_swing_94 rfl rfl rfl ?_
              refine Go_getRs (pc' := 98) dX11_swing_95 rfl kf_RX11_25 (by decide) (by decide) rfl (S.b 64 rfl rfl) (S.o 64 rfl rfl rfl) (S.r 64 3 rfl rfl rfl) ?_
              refine Go_getIv (v := (iZ (if t.1 = 0 then -1 else t.2 % 64))) (pc' := 101) dX11_swing_98 rfl kf_RX11_156 (by decide) (by decide) rfl (S.b 68 rfl rfl) (S.o 68 rfl rfl rfl) ((vi_setR h 68 u 2).trans U3) ?_
              refine Go_ireturn (ty := .int) dX11_swing_101 rfl rfl ?_
              refine k _ _ ⟨?_, u, rfl⟩ (((DifS.rf h).setR (i := 68) (by omega)).shp S)
              unfold swgR
              rw [if_neg (show ¬ Ez = 0 by omega), if_neg (show ¬ Ez = 1 by omega)]
            · refine Go_aload_n (pc' := 85) dX11_swing_84 rfl rfl rfl ?_
              refine Go_getRs (pc' := 88) dX11_swing_85 rfl kf_RX11_25 (by decide) (by decide) rfl (S.b 64 rfl rfl) (S.o 64 rfl rfl rfl) (S.r 64 3 rfl rfl rfl) ?_
              refine Go_getIv (v := (iZ (if t.1 = 0 then -1 else t.2 / 64))) (pc' := 91) dX11_swing_88 rfl kf_RX11_153 (by decide) (by decide) rfl (S.b 68 rfl rfl) (S.o 68 rfl rfl rfl) ((vi_setR h 68 u 1).trans U2) ?_
              refine Go_goto (tgt := 101) dX11_swing_91 (by decide) ?_
              refine Go_ireturn (ty := .int) dX11_swing_101 rfl rfl ?_
              refine k _ _ ⟨?_, u, rfl⟩ (((DifS.rf h).setR (i := 68) (by omega)).shp S)
              unfold swgR
              rw [if_neg (show ¬ Ez = 0 by omega), if_pos (show Ez = 1 by omega)]
          · refine Go_aload_n (pc' := 71) dX11_swing_70 rfl rfl rfl ?_
            refine Go_getRs (pc' := 74) dX11_swing_71 rfl kf_RX11_25 (by decide) (by decide) rfl (S.b 64 rfl rfl) (S.o 64 rfl rfl rfl) (S.r 64 3 rfl rfl rfl) ?_
            refine Go_getIv (v := (iZ t.1)) (pc' := 77) dX11_swing_74 rfl kf_RX11_150 (by decide) (by decide) rfl (S.b 68 rfl rfl) (S.o 68 rfl rfl rfl) ((vi_setR h 68 u 0).trans U1) ?_
            refine Go_ireturn (ty := .int) dX11_swing_77 rfl rfl ?_
            refine k _ _ ⟨?_, u, rfl⟩ (((DifS.rf h).setR (i := 68) (by omega)).shp S)
            unfold swgR
            rw [if_pos (show Ez = 0 by omega)]
        · rintro r h1 ⟨rfl, u, rfl⟩ K k
          have D : DifS h (setR h 68 u) := (DifS.rf h).setR (by omega)
          have M1 := M.dif D
          have k := k _ (I.scr D)
          have S1 := D.shp S
          have em : sap (setR h 68 u) o = sap h o := sap_dif hq0.1 D
          have ec0 : vi (setR h 68 u) 99 0 = iZ (nc : Int) := (D.2.2.2 _ _ (by omega)).trans ec0
          have w1 : rb (setR h 68 u) o n Bz Cz := by unfold rb wh nmB ncB clz; rw [em, lmt_dif hq0.1 D]; exact w
          have era := @rb_all (setR h 68 u) o n Bz Cz hg.1.1 hg.1.2.1 hg.1.2.2
          rw [← et, show gsw h o Bz Cz = gsw (setR h 68 u) o Bz Cz by unfold gsw zB rbk; rw [em]] at k
          generalize (setR h 68 u) = h1 at *
          show Go G 60 0 0 M_X12_swing 0 [.ref 99, .int (iZ (j : Int)), .int (iZ Bz), .int (iZ Cz), .int (iZ Ez), un, un, un, un] [] h1 K
          refine Go_aload_n (pc' := 1) dX12_swing_0 rfl rfl rfl ?_
          refine Go_iload_n (pc' := 2) dX12_swing_1 rfl rfl rfl ?_
          refine Go_callV_i (pc' := 5) (As := [.int _]) (st := []) dX12_swing_2 rfl ok_X12_isCellar km_RX12_158 (S1.o 99 rfl rfl rfl) (S1.b 99 rfl rfl) ⟨_, _, rfl⟩ rfl (Nat.le_of_ble_eq_true rfl) rfl rfl rfl (Nat.le_of_ble_eq_true rfl) (Nat.lt_succ_self _) ?_
          refine Go_iload_n (pc' := 1) dX12_isCellar_0 rfl rfl rfl ?_
          refine Go_iconst (v := iZ 0) (pc' := 2) dX12_isCellar_1 rfl (by decide) ?_
          refine Go_aload_n (pc' := 3) dX12_isCellar_2 rfl rfl rfl ?_
          refine Go_getIv (v := (iZ (nc : Int))) (pc' := 6) dX12_isCellar_3 rfl kf_RX12_151 (by decide) (by decide) rfl (S1.b 99 rfl rfl) (S1.o 99 rfl rfl rfl) (ec0) ?_
          refine Go_iconst (v := iZ 1) (pc' := 7) dX12_isCellar_6 rfl (by decide) ?_
          refine Go_isubZ (pc' := 8) dX12_isCellar_7 rfl ?_
          refine Go_callS_i (pc' := 11) (As := [.int _, .int _, .int _]) (st := []) dX12_isCellar_8 rfl ok_X12_isIn km_RX12_147 rfl (Nat.le_of_ble_eq_true rfl) rfl rfl rfl (Nat.le_of_ble_eq_true rfl) (Nat.lt_succ_self _) ?_
          refine s_isInY (by first | exact ⟨i_lo _, i_hi _⟩ | omega) (by first | exact ⟨i_lo _, i_hi _⟩ | omega) (by first | exact ⟨i_lo _, i_hi _⟩ | omega) ?_
          refine ⟨_, rfl, ?_⟩
          refine Go_ireturn (ty := .boolean) dX12_isCellar_11 rfl b2i_nb ?_
          refine ⟨_, rfl, ?_⟩
          refine Go_if_eqb (tgt := 46) (pc' := 8) dX12_swing_5 (by decide) rfl (fun c5 => by exfalso; omega) (fun c5 => ?_)
          refine Go_iload_n (pc' := 9) dX12_swing_8 rfl rfl rfl ?_
          refine Go_iconst (v := iZ 0) (pc' := 10) dX12_swing_9 rfl (by decide) ?_
          refine Go_sipush (v := iZ 200) (pc' := 13) dX12_swing_10 rfl (by decide) ?_
          refine Go_callS_i (pc' := 16) (As := [.int _, .int _, .int _]) (st := []) dX12_swing_13 rfl ok_X12_isIn km_RX12_147 rfl (Nat.le_of_ble_eq_true rfl) rfl rfl rfl (Nat.le_of_ble_eq_true rfl) (Nat.lt_succ_self _) ?_
          refine s_isInY (by first | exact ⟨i_lo _, i_hi _⟩ | omega) (by first | exact ⟨i_lo _, i_hi _⟩ | omega) (by first | exact ⟨i_lo _, i_hi _⟩ | omega) ?_
          refine ⟨_, rfl, ?_⟩
          refine Go_if_eqb (tgt := 46) (pc' := 19) dX12_swing_16 (by decide) rfl (fun c16 => by exfalso; omega) (fun c16 => ?_)
          refine Go_iload_n (pc' := 20) dX12_swing_19 rfl rfl rfl ?_
          refine Go_iload_n (pc' := 21) dX12_swing_20 rfl rfl rfl ?_
          refine Go_iconst (v := iZ 2) (pc' := 22) dX12_swing_21 rfl (by decide) ?_
          refine Go_iaddZ (pc' := 23) dX12_swing_22 rfl ?_
          refine Go_icmp_ltY (tgt := 46) (pc' := 26) dX12_swing_23 (by decide) rfl (by first | exact ⟨i_lo _, i_hi _⟩ | omega) (by first | exact ⟨i_lo _, i_hi _⟩ | omega) (fun c23 => by exfalso; omega) (fun c23 => ?_)
          refine Go_iload_n (pc' := 27) dX12_swing_26 rfl rfl rfl ?_
          refine Go_aload_n (pc' := 28) dX12_swing_27 rfl rfl rfl ?_
          refine Go_getRs (pc' := 31) dX12_swing_28 rfl kf_RX12_31 (by decide) (by decide) rfl (S1.b 99 rfl rfl) (S1.o 99 rfl rfl rfl) (S1.r 99 8 rfl rfl rfl) ?_
          refine Go_iload_n (pc' := 32) dX12_swing_31 rfl rfl rfl ?_
          refine Go_ialoadZ (n := 6) (k := j) (v := (iZ (n : Int))) (pc' := 33) dX12_swing_32 rfl (S1.b 107 rfl rfl) (S1.k 107 rfl rfl rfl) rfl (by omega) (by decide) (M1.e107) ?_
          refine Go_icmp_geY (tgt := 46) (pc' := 36) dX12_swing_33 (by decide) rfl (by first | exact ⟨i_lo _, i_hi _⟩ | omega) (by first | exact ⟨i_lo _, i_hi _⟩ | omega) (fun c33 => by exfalso; omega) (fun c33 => ?_)
          refine Go_iload (pc' := 38) dX12_swing_36 rfl rfl ?_
          refine Go_iconst (v := iZ 0) (pc' := 39) dX12_swing_38 rfl (by decide) ?_
          refine Go_iconst (v := iZ 2) (pc' := 40) dX12_swing_39 rfl (by decide) ?_
          refine Go_callS_i (pc' := 43) (As := [.int _, .int _, .int _]) (st := []) dX12_swing_40 rfl ok_X12_isIn km_RX12_147 rfl (Nat.le_of_ble_eq_true rfl) rfl rfl rfl (Nat.le_of_ble_eq_true rfl) (Nat.lt_succ_self _) ?_
          refine s_isInY (by first | exact ⟨i_lo _, i_hi _⟩ | omega) (by first | exact ⟨i_lo _, i_hi _⟩ | omega) (by first | exact ⟨i_lo _, i_hi _⟩ | omega) ?_
          refine ⟨_, rfl, ?_⟩
          refine Go_if_neb (tgt := 48) (pc' := 46) dX12_swing_43 (by decide) rfl (fun c43 => ?_) (fun c43 => by exfalso; omega)
          refine Go_iload_n (pc' := 49) dX12_swing_48 rfl rfl rfl ?_
          refine Go_iconst (v := iZ 2) (pc' := 50) dX12_swing_49 rfl (by decide) ?_
          refine Go_iaddZ (pc' := 51) dX12_swing_50 rfl ?_
          refine Go_istore (pc' := 53) (lv' := [.ref _, .int _, .int _, .int _, .int _, .int _, un, un, un]) dX12_swing_51 rfl (Nat.le_of_ble_eq_true rfl) rfl rfl ?_
          refine swc_loop S1 M1 (by omega) _ _ (by omega) (by omega) (fun hA x => ?_) (fun hA => absurd (era.1 w1) hA)
          refine Go_iconst (v := iZ 0) (pc' := 78) dX12_swing_77 rfl (by decide) ?_
          refine Go_istore (pc' := 80) (lv' := [.ref _, .int _, .int _, .int _, .int _, .int _, un, un, un]) dX12_swing_78 rfl (Nat.le_of_ble_eq_true rfl) rfl rfl ?_
          refine Go_iconst (v := iZ (-1)) (pc' := 81) dX12_swing_80 rfl (by decide) ?_
          refine Go_istore (pc' := 83) (lv' := [.ref _, .int _, .int _, .int _, .int _, .int _, .int _, un, un]) dX12_swing_81 rfl (Nat.le_of_ble_eq_true rfl) rfl rfl ?_
          refine Go_iconst (v := iZ 0) (pc' := 84) dX12_swing_83 rfl (by decide) ?_
          refine Go_istore (pc' := 86) (lv' := [.ref _, .int _, .int _, .int _, .int _, .int _, .int _, .int _, un]) dX12_swing_84 rfl (Nat.le_of_ble_eq_true rfl) rfl rfl ?_
          exact swm_out S1 M1 (by omega) (by omega) (fun X x1 x2 => of_decide_eq_true (all_iff.1 hA X x1 (by omega))) (by omega) 64 0 0 (-1) _ (by omega) (by omega) (by omega) (by omega) k
      · refine PairI.ro' (fun _ => iZ (-1)) h I (fun K k => ?_) (fun K k => ?_)
        · show Go G 60 0 0 M_X11_swing 0 [.ref 64, .int (iZ (j : Int)), .int (iZ Bz), .int (iZ Cz), .int (iZ Ez), un] [] h K
          refine Go_aload_n (pc' := 1) dX11_swing_0 rfl rfl rfl ?_
          refine Go_iload_n (pc' := 2) dX11_swing_1 rfl rfl rfl ?_
          refine Go_callV_r (pc' := 5) (As := [.int _]) (st := []) dX11_swing_2 rfl ok_X11_cellarOf km_RX11_90 (I.S.o 64 rfl rfl rfl) (I.S.b 64 rfl rfl) ⟨_, _, rfl⟩ rfl (Nat.le_of_ble_eq_true rfl) rfl rfl rfl (Nat.le_of_ble_eq_true rfl) (Nat.lt_succ_self _) ?_
          refine Go_iload_n (pc' := 1) dX11_cellarOf_0 rfl rfl rfl ?_
          refine Go_iconst (v := iZ 0) (pc' := 2) dX11_cellarOf_1 rfl (by decide) ?_
          refine Go_aload_n (pc' := 3) dX11_cellarOf_2 rfl rfl rfl ?_
          refine Go_getIv (v := (iZ (nc : Int))) (pc' := 6) dX11_cellarOf_3 rfl kf_RX11_84 (by decide) (by decide) rfl (I.S.b 64 rfl rfl) (I.S.o 64 rfl rfl rfl) (ec2) ?_
          refine Go_iconst (v := iZ 1) (pc' := 7) dX11_cellarOf_6 rfl (by decide) ?_
          refine Go_isubZ (pc' := 8) dX11_cellarOf_7 rfl ?_
          refine Go_callS_i (pc' := 11) (As := [.int _, .int _, .int _]) (st := []) dX11_cellarOf_8 rfl ok_X11_within km_RX11_94 rfl (Nat.le_of_ble_eq_true rfl) rfl rfl rfl (Nat.le_of_ble_eq_true rfl) (Nat.lt_succ_self _) ?_
          refine s_withinY (by first | exact ⟨i_lo _, i_hi _⟩ | omega) (by first | exact ⟨i_lo _, i_hi _⟩ | omega) (by first | exact ⟨i_lo _, i_hi _⟩ | omega) ?_
          refine ⟨_, rfl, ?_⟩
          refine Go_if_eqb (tgt := 32) (pc' := 14) dX11_cellarOf_11 (by decide) rfl (fun q11 => by exfalso; omega) (fun q11 => ?_)
          refine Go_iload_n (pc' := 15) dX11_cellarOf_14 rfl rfl rfl ?_
          refine Go_aload_n (pc' := 16) dX11_cellarOf_15 rfl rfl rfl ?_
          refine Go_getRs (pc' := 19) dX11_cellarOf_16 rfl kf_RX11_18 (by decide) (by decide) rfl (I.S.b 64 rfl rfl) (I.S.o 64 rfl rfl rfl) (I.S.r 64 1 rfl rfl rfl) ?_
          refine Go_alenZ (n := 6) (pc' := 20) dX11_cellarOf_19 rfl (I.S.b 67 rfl rfl) (I.S.k 67 rfl rfl rfl) (Or.inr (Or.inr ⟨_, rfl⟩)) ?_
          refine Go_icmp_geY (tgt := 32) (pc' := 23) dX11_cellarOf_20 (by decide) rfl (by first | exact ⟨i_lo _, i_hi _⟩ | omega) (by first | exact ⟨i_lo _, i_hi _⟩ | omega) (fun q20 => by exfalso; omega) (fun q20 => ?_)
          refine Go_aload_n (pc' := 24) dX11_cellarOf_23 rfl rfl rfl ?_
          refine Go_getRs (pc' := 27) dX11_cellarOf_24 rfl kf_RX11_18 (by decide) (by decide) rfl (I.S.b 64 rfl rfl) (I.S.o 64 rfl rfl rfl) (I.S.r 64 1 rfl rfl rfl) ?_
          refine Go_iload_n (pc' := 28) dX11_cellarOf_27 rfl rfl rfl ?_
          refine Go_aaloadZ (n := 6) (k := j) (pc' := 29) dX11_cellarOf_28 rfl (I.S.b 67 rfl rfl) (I.S.k 67 rfl rfl rfl) rfl rfl (by omega) (by decide) ho ?_
          refine Go_goto (tgt := 33) dX11_cellarOf_29 (by decide) ?_
          refine Go_areturn (r := some _) dX11_cellarOf_33 rfl ?_
          refine ⟨some _, rfl, ?_⟩
          refine Go_astore (pc' := 7) (lv' := [.ref _, .int _, .int _, .int _, .int _, .ref _]) dX11_swing_5 rfl (Nat.le_of_ble_eq_true rfl) rfl rfl ?_
          refine Go_aload (pc' := 9) dX11_swing_7 rfl rfl ?_
          refine Go_ifnull (pc' := 12) dX11_swing_9 rfl ?_
          refine Go_iload_n (pc' := 13) dX11_swing_12 rfl rfl rfl ?_
          refine Go_iconst (v := iZ 0) (pc' := 14) dX11_swing_13 rfl (by decide) ?_
          refine Go_sipush (v := iZ 199) (pc' := 17) dX11_swing_14 rfl (by decide) ?_
          refine Go_callS_i (pc' := 20) (As := [.int _, .int _, .int _]) (st := []) dX11_swing_17 rfl ok_X11_within km_RX11_94 rfl (Nat.le_of_ble_eq_true rfl) rfl rfl rfl (Nat.le_of_ble_eq_true rfl) (Nat.lt_succ_self _) ?_
          refine s_withinY (by first | exact ⟨i_lo _, i_hi _⟩ | omega) (by first | exact ⟨i_lo _, i_hi _⟩ | omega) (by first | exact ⟨i_lo _, i_hi _⟩ | omega) ?_
          refine ⟨_, rfl, ?_⟩
          refine Go_if_eqb (tgt := 40) (pc' := 23) dX11_swing_20 (by decide) rfl (fun c20 => ?_) (fun c20 => ?_)
          · refine Go_iconst (v := iZ (-1)) (pc' := 41) dX11_swing_40 rfl (by decide) ?_
            refine Go_ireturn (ty := .int) dX11_swing_41 rfl rfl ?_
            exact k
          · refine Go_iload_n (pc' := 24) dX11_swing_23 rfl rfl rfl ?_
            refine Go_iconst (v := iZ 2) (pc' := 25) dX11_swing_24 rfl (by decide) ?_
            refine Go_iaddZ (pc' := 26) dX11_swing_25 rfl ?_
            refine Go_iload_n (pc' := 27) dX11_swing_26 rfl rfl rfl ?_
            refine Go_icmp_gtY (tgt := 40) (pc' := 30) dX11_swing_27 (by decide) rfl (by first | exact ⟨i_lo _, i_hi _⟩ | omega) (by first | exact ⟨i_lo _, i_hi _⟩ | omega) (fun c27 => ?_) (fun c27 => ?_)
            · refine Go_iconst (v := iZ (-1)) (pc' := 41) dX11_swing_40 rfl (by decide) ?_
              refine Go_ireturn (ty := .int) dX11_swing_41 rfl rfl ?_
              exact k
            · refine Go_iload (pc' := 32) dX11_swing_30 rfl rfl ?_
              refine Go_iconst (v := iZ 0) (pc' := 33) dX11_swing_32 rfl (by decide) ?_
              refine Go_iconst (v := iZ 2) (pc' := 34) dX11_swing_33 rfl (by decide) ?_
              refine Go_callS_i (pc' := 37) (As := [.int _, .int _, .int _]) (st := []) dX11_swing_34 rfl ok_X11_within km_RX11_94 rfl (Nat.le_of_ble_eq_true rfl) rfl rfl rfl (Nat.le_of_ble_eq_true rfl) (Nat.lt_succ_self _) ?_
              refine s_withinY (by first | exact ⟨i_lo _, i_hi _⟩ | omega) (by first | exact ⟨i_lo _, i_hi _⟩ | omega) (by first | exact ⟨i_lo _, i_hi _⟩ | omega) ?_
              refine ⟨_, rfl, ?_⟩
              refine Go_if_neb (tgt := 42) (pc' := 40) dX11_swing_37 (by decide) rfl (fun c37 => ?_) (fun c37 => ?_)
              · refine Go_aload (pc' := 44) dX11_swing_42 rfl rfl ?_
                refine Go_iload_n (pc' := 45) dX11_swing_44 rfl rfl rfl ?_
                refine Go_iload_n (pc' := 46) dX11_swing_45 rfl rfl rfl ?_
                refine Go_callV_i (pc' := 49) (As := [.int _, .int _]) (st := []) dX11_swing_46 rfl ok_X2_isReadable km_RX11_140 CS.o CS.b ⟨_, _, rfl⟩ rfl (Nat.le_of_ble_eq_true rfl) rfl rfl rfl (Nat.le_of_ble_eq_true rfl) (Nat.lt_succ_self _) ?_
                refine s_rb M (by omega) (by omega) ?_
                refine ⟨_, rfl, ?_⟩
                refine Go_if_neb (tgt := 54) (pc' := 52) dX11_swing_49 (by decide) rfl (fun c49 => by exact absurd c49 w) (fun c49 => ?_)
                refine Go_iconst (v := iZ (-1)) (pc' := 53) dX11_swing_52 rfl (by decide) ?_
                refine Go_ireturn (ty := .int) dX11_swing_53 rfl rfl ?_
                exact k
              · refine Go_iconst (v := iZ (-1)) (pc' := 41) dX11_swing_40 rfl (by decide) ?_
                refine Go_ireturn (ty := .int) dX11_swing_41 rfl rfl ?_
                exact k
        · show Go G 60 0 0 M_X12_swing 0 [.ref 99, .int (iZ (j : Int)), .int (iZ Bz), .int (iZ Cz), .int (iZ Ez), un, un, un, un] [] h K
          refine Go_aload_n (pc' := 1) dX12_swing_0 rfl rfl rfl ?_
          refine Go_iload_n (pc' := 2) dX12_swing_1 rfl rfl rfl ?_
          refine Go_callV_i (pc' := 5) (As := [.int _]) (st := []) dX12_swing_2 rfl ok_X12_isCellar km_RX12_158 (I.S.o 99 rfl rfl rfl) (I.S.b 99 rfl rfl) ⟨_, _, rfl⟩ rfl (Nat.le_of_ble_eq_true rfl) rfl rfl rfl (Nat.le_of_ble_eq_true rfl) (Nat.lt_succ_self _) ?_
          refine Go_iload_n (pc' := 1) dX12_isCellar_0 rfl rfl rfl ?_
          refine Go_iconst (v := iZ 0) (pc' := 2) dX12_isCellar_1 rfl (by decide) ?_
          refine Go_aload_n (pc' := 3) dX12_isCellar_2 rfl rfl rfl ?_
          refine Go_getIv (v := (iZ (nc : Int))) (pc' := 6) dX12_isCellar_3 rfl kf_RX12_151 (by decide) (by decide) rfl (I.S.b 99 rfl rfl) (I.S.o 99 rfl rfl rfl) (ec0) ?_
          refine Go_iconst (v := iZ 1) (pc' := 7) dX12_isCellar_6 rfl (by decide) ?_
          refine Go_isubZ (pc' := 8) dX12_isCellar_7 rfl ?_
          refine Go_callS_i (pc' := 11) (As := [.int _, .int _, .int _]) (st := []) dX12_isCellar_8 rfl ok_X12_isIn km_RX12_147 rfl (Nat.le_of_ble_eq_true rfl) rfl rfl rfl (Nat.le_of_ble_eq_true rfl) (Nat.lt_succ_self _) ?_
          refine s_isInY (by first | exact ⟨i_lo _, i_hi _⟩ | omega) (by first | exact ⟨i_lo _, i_hi _⟩ | omega) (by first | exact ⟨i_lo _, i_hi _⟩ | omega) ?_
          refine ⟨_, rfl, ?_⟩
          refine Go_ireturn (ty := .boolean) dX12_isCellar_11 rfl b2i_nb ?_
          refine ⟨_, rfl, ?_⟩
          refine Go_if_eqb (tgt := 46) (pc' := 8) dX12_swing_5 (by decide) rfl (fun c5 => by exfalso; omega) (fun c5 => ?_)
          refine Go_iload_n (pc' := 9) dX12_swing_8 rfl rfl rfl ?_
          refine Go_iconst (v := iZ 0) (pc' := 10) dX12_swing_9 rfl (by decide) ?_
          refine Go_sipush (v := iZ 200) (pc' := 13) dX12_swing_10 rfl (by decide) ?_
          refine Go_callS_i (pc' := 16) (As := [.int _, .int _, .int _]) (st := []) dX12_swing_13 rfl ok_X12_isIn km_RX12_147 rfl (Nat.le_of_ble_eq_true rfl) rfl rfl rfl (Nat.le_of_ble_eq_true rfl) (Nat.lt_succ_self _) ?_
          refine s_isInY (by first | exact ⟨i_lo _, i_hi _⟩ | omega) (by first | exact ⟨i_lo _, i_hi _⟩ | omega) (by first | exact ⟨i_lo _, i_hi _⟩ | omega) ?_
          refine ⟨_, rfl, ?_⟩
          refine Go_if_eqb (tgt := 46) (pc' := 19) dX12_swing_16 (by decide) rfl (fun c16 => by exfalso; omega) (fun c16 => ?_)
          refine Go_iload_n (pc' := 20) dX12_swing_19 rfl rfl rfl ?_
          refine Go_iload_n (pc' := 21) dX12_swing_20 rfl rfl rfl ?_
          refine Go_iconst (v := iZ 2) (pc' := 22) dX12_swing_21 rfl (by decide) ?_
          refine Go_iaddZ (pc' := 23) dX12_swing_22 rfl ?_
          refine Go_icmp_ltY (tgt := 46) (pc' := 26) dX12_swing_23 (by decide) rfl (by first | exact ⟨i_lo _, i_hi _⟩ | omega) (by first | exact ⟨i_lo _, i_hi _⟩ | omega) (fun c23 => by exfalso; omega) (fun c23 => ?_)
          refine Go_iload_n (pc' := 27) dX12_swing_26 rfl rfl rfl ?_
          refine Go_aload_n (pc' := 28) dX12_swing_27 rfl rfl rfl ?_
          refine Go_getRs (pc' := 31) dX12_swing_28 rfl kf_RX12_31 (by decide) (by decide) rfl (I.S.b 99 rfl rfl) (I.S.o 99 rfl rfl rfl) (I.S.r 99 8 rfl rfl rfl) ?_
          refine Go_iload_n (pc' := 32) dX12_swing_31 rfl rfl rfl ?_
          refine Go_ialoadZ (n := 6) (k := j) (v := (iZ (n : Int))) (pc' := 33) dX12_swing_32 rfl (I.S.b 107 rfl rfl) (I.S.k 107 rfl rfl rfl) rfl (by omega) (by decide) (M.e107) ?_
          refine Go_icmp_geY (tgt := 46) (pc' := 36) dX12_swing_33 (by decide) rfl (by first | exact ⟨i_lo _, i_hi _⟩ | omega) (by first | exact ⟨i_lo _, i_hi _⟩ | omega) (fun c33 => by exfalso; omega) (fun c33 => ?_)
          refine Go_iload (pc' := 38) dX12_swing_36 rfl rfl ?_
          refine Go_iconst (v := iZ 0) (pc' := 39) dX12_swing_38 rfl (by decide) ?_
          refine Go_iconst (v := iZ 2) (pc' := 40) dX12_swing_39 rfl (by decide) ?_
          refine Go_callS_i (pc' := 43) (As := [.int _, .int _, .int _]) (st := []) dX12_swing_40 rfl ok_X12_isIn km_RX12_147 rfl (Nat.le_of_ble_eq_true rfl) rfl rfl rfl (Nat.le_of_ble_eq_true rfl) (Nat.lt_succ_self _) ?_
          refine s_isInY (by first | exact ⟨i_lo _, i_hi _⟩ | omega) (by first | exact ⟨i_lo _, i_hi _⟩ | omega) (by first | exact ⟨i_lo _, i_hi _⟩ | omega) ?_
          refine ⟨_, rfl, ?_⟩
          refine Go_if_neb (tgt := 48) (pc' := 46) dX12_swing_43 (by decide) rfl (fun c43 => ?_) (fun c43 => by exfalso; omega)
          refine Go_iload_n (pc' := 49) dX12_swing_48 rfl rfl rfl ?_
          refine Go_iconst (v := iZ 2) (pc' := 50) dX12_swing_49 rfl (by decide) ?_
          refine Go_iaddZ (pc' := 51) dX12_swing_50 rfl ?_
          refine Go_istore (pc' := 53) (lv' := [.ref _, .int _, .int _, .int _, .int _, .int _, un, un, un]) dX12_swing_51 rfl (Nat.le_of_ble_eq_true rfl) rfl rfl ?_
          exact swc_loop S M (by omega) _ _ (by omega) (by omega) (fun hA => absurd (era.2 hA) w) (fun hA => k)
    · refine PairI.ro' (fun _ => iZ (-1)) h I (fun K k => ?_) (fun K k => ?_)
      · show Go G 60 0 0 M_X11_swing 0 [.ref 64, .int (iZ (j : Int)), .int (iZ Bz), .int (iZ Cz), .int (iZ Ez), un] [] h K
        refine Go_aload_n (pc' := 1) dX11_swing_0 rfl rfl rfl ?_
        refine Go_iload_n (pc' := 2) dX11_swing_1 rfl rfl rfl ?_
        refine Go_callV_r (pc' := 5) (As := [.int _]) (st := []) dX11_swing_2 rfl ok_X11_cellarOf km_RX11_90 (I.S.o 64 rfl rfl rfl) (I.S.b 64 rfl rfl) ⟨_, _, rfl⟩ rfl (Nat.le_of_ble_eq_true rfl) rfl rfl rfl (Nat.le_of_ble_eq_true rfl) (Nat.lt_succ_self _) ?_
        refine Go_iload_n (pc' := 1) dX11_cellarOf_0 rfl rfl rfl ?_
        refine Go_iconst (v := iZ 0) (pc' := 2) dX11_cellarOf_1 rfl (by decide) ?_
        refine Go_aload_n (pc' := 3) dX11_cellarOf_2 rfl rfl rfl ?_
        refine Go_getIv (v := (iZ (nc : Int))) (pc' := 6) dX11_cellarOf_3 rfl kf_RX11_84 (by decide) (by decide) rfl (I.S.b 64 rfl rfl) (I.S.o 64 rfl rfl rfl) (ec2) ?_
        refine Go_iconst (v := iZ 1) (pc' := 7) dX11_cellarOf_6 rfl (by decide) ?_
        refine Go_isubZ (pc' := 8) dX11_cellarOf_7 rfl ?_
        refine Go_callS_i (pc' := 11) (As := [.int _, .int _, .int _]) (st := []) dX11_cellarOf_8 rfl ok_X11_within km_RX11_94 rfl (Nat.le_of_ble_eq_true rfl) rfl rfl rfl (Nat.le_of_ble_eq_true rfl) (Nat.lt_succ_self _) ?_
        refine s_withinY (by first | exact ⟨i_lo _, i_hi _⟩ | omega) (by first | exact ⟨i_lo _, i_hi _⟩ | omega) (by first | exact ⟨i_lo _, i_hi _⟩ | omega) ?_
        refine ⟨_, rfl, ?_⟩
        refine Go_if_eqb (tgt := 32) (pc' := 14) dX11_cellarOf_11 (by decide) rfl (fun q11 => by exfalso; omega) (fun q11 => ?_)
        refine Go_iload_n (pc' := 15) dX11_cellarOf_14 rfl rfl rfl ?_
        refine Go_aload_n (pc' := 16) dX11_cellarOf_15 rfl rfl rfl ?_
        refine Go_getRs (pc' := 19) dX11_cellarOf_16 rfl kf_RX11_18 (by decide) (by decide) rfl (I.S.b 64 rfl rfl) (I.S.o 64 rfl rfl rfl) (I.S.r 64 1 rfl rfl rfl) ?_
        refine Go_alenZ (n := 6) (pc' := 20) dX11_cellarOf_19 rfl (I.S.b 67 rfl rfl) (I.S.k 67 rfl rfl rfl) (Or.inr (Or.inr ⟨_, rfl⟩)) ?_
        refine Go_icmp_geY (tgt := 32) (pc' := 23) dX11_cellarOf_20 (by decide) rfl (by first | exact ⟨i_lo _, i_hi _⟩ | omega) (by first | exact ⟨i_lo _, i_hi _⟩ | omega) (fun q20 => by exfalso; omega) (fun q20 => ?_)
        refine Go_aload_n (pc' := 24) dX11_cellarOf_23 rfl rfl rfl ?_
        refine Go_getRs (pc' := 27) dX11_cellarOf_24 rfl kf_RX11_18 (by decide) (by decide) rfl (I.S.b 64 rfl rfl) (I.S.o 64 rfl rfl rfl) (I.S.r 64 1 rfl rfl rfl) ?_
        refine Go_iload_n (pc' := 28) dX11_cellarOf_27 rfl rfl rfl ?_
        refine Go_aaloadZ (n := 6) (k := j) (pc' := 29) dX11_cellarOf_28 rfl (I.S.b 67 rfl rfl) (I.S.k 67 rfl rfl rfl) rfl rfl (by omega) (by decide) ho ?_
        refine Go_goto (tgt := 33) dX11_cellarOf_29 (by decide) ?_
        refine Go_areturn (r := some _) dX11_cellarOf_33 rfl ?_
        refine ⟨some _, rfl, ?_⟩
        refine Go_astore (pc' := 7) (lv' := [.ref _, .int _, .int _, .int _, .int _, .ref _]) dX11_swing_5 rfl (Nat.le_of_ble_eq_true rfl) rfl rfl ?_
        refine Go_aload (pc' := 9) dX11_swing_7 rfl rfl ?_
        refine Go_ifnull (pc' := 12) dX11_swing_9 rfl ?_
        refine Go_iload_n (pc' := 13) dX11_swing_12 rfl rfl rfl ?_
        refine Go_iconst (v := iZ 0) (pc' := 14) dX11_swing_13 rfl (by decide) ?_
        refine Go_sipush (v := iZ 199) (pc' := 17) dX11_swing_14 rfl (by decide) ?_
        refine Go_callS_i (pc' := 20) (As := [.int _, .int _, .int _]) (st := []) dX11_swing_17 rfl ok_X11_within km_RX11_94 rfl (Nat.le_of_ble_eq_true rfl) rfl rfl rfl (Nat.le_of_ble_eq_true rfl) (Nat.lt_succ_self _) ?_
        refine s_withinY (by first | exact ⟨i_lo _, i_hi _⟩ | omega) (by first | exact ⟨i_lo _, i_hi _⟩ | omega) (by first | exact ⟨i_lo _, i_hi _⟩ | omega) ?_
        refine ⟨_, rfl, ?_⟩
        refine Go_if_eqb (tgt := 40) (pc' := 23) dX11_swing_20 (by decide) rfl (fun c20 => ?_) (fun c20 => ?_)
        · refine Go_iconst (v := iZ (-1)) (pc' := 41) dX11_swing_40 rfl (by decide) ?_
          refine Go_ireturn (ty := .int) dX11_swing_41 rfl rfl ?_
          exact k
        · refine Go_iload_n (pc' := 24) dX11_swing_23 rfl rfl rfl ?_
          refine Go_iconst (v := iZ 2) (pc' := 25) dX11_swing_24 rfl (by decide) ?_
          refine Go_iaddZ (pc' := 26) dX11_swing_25 rfl ?_
          refine Go_iload_n (pc' := 27) dX11_swing_26 rfl rfl rfl ?_
          refine Go_icmp_gtY (tgt := 40) (pc' := 30) dX11_swing_27 (by decide) rfl (by first | exact ⟨i_lo _, i_hi _⟩ | omega) (by first | exact ⟨i_lo _, i_hi _⟩ | omega) (fun c27 => ?_) (fun c27 => ?_)
          · refine Go_iconst (v := iZ (-1)) (pc' := 41) dX11_swing_40 rfl (by decide) ?_
            refine Go_ireturn (ty := .int) dX11_swing_41 rfl rfl ?_
            exact k
          · refine Go_iload (pc' := 32) dX11_swing_30 rfl rfl ?_
            refine Go_iconst (v := iZ 0) (pc' := 33) dX11_swing_32 rfl (by decide) ?_
            refine Go_iconst (v := iZ 2) (pc' := 34) dX11_swing_33 rfl (by decide) ?_
            refine Go_callS_i (pc' := 37) (As := [.int _, .int _, .int _]) (st := []) dX11_swing_34 rfl ok_X11_within km_RX11_94 rfl (Nat.le_of_ble_eq_true rfl) rfl rfl rfl (Nat.le_of_ble_eq_true rfl) (Nat.lt_succ_self _) ?_
            refine s_withinY (by first | exact ⟨i_lo _, i_hi _⟩ | omega) (by first | exact ⟨i_lo _, i_hi _⟩ | omega) (by first | exact ⟨i_lo _, i_hi _⟩ | omega) ?_
            refine ⟨_, rfl, ?_⟩
            refine Go_if_neb (tgt := 42) (pc' := 40) dX11_swing_37 (by decide) rfl (fun c37 => ?_) (fun c37 => ?_)
            · refine Go_aload (pc' := 44) dX11_swing_42 rfl rfl ?_
              refine Go_iload_n (pc' := 45) dX11_swing_44 rfl rfl rfl ?_
              refine Go_iload_n (pc' := 46) dX11_swing_45 rfl rfl rfl ?_
              refine Go_callV_i (pc' := 49) (As := [.int _, .int _]) (st := []) dX11_swing_46 rfl ok_X2_isReadable km_RX11_140 CS.o CS.b ⟨_, _, rfl⟩ rfl (Nat.le_of_ble_eq_true rfl) rfl rfl rfl (Nat.le_of_ble_eq_true rfl) (Nat.lt_succ_self _) ?_
              refine s_rb M (by omega) (by omega) ?_
              refine ⟨_, rfl, ?_⟩
              refine Go_if_neb (tgt := 54) (pc' := 52) dX11_swing_49 (by decide) rfl (fun c49 => by have z := c49.1.1; exfalso; omega) (fun c49 => ?_)
              refine Go_iconst (v := iZ (-1)) (pc' := 53) dX11_swing_52 rfl (by decide) ?_
              refine Go_ireturn (ty := .int) dX11_swing_53 rfl rfl ?_
              exact k
            · refine Go_iconst (v := iZ (-1)) (pc' := 41) dX11_swing_40 rfl (by decide) ?_
              refine Go_ireturn (ty := .int) dX11_swing_41 rfl rfl ?_
              exact k
      · show Go G 60 0 0 M_X12_swing 0 [.ref 99, .int (iZ (j : Int)), .int (iZ Bz), .int (iZ Cz), .int (iZ Ez), un, un, un, un] [] h K
        refine Go_aload_n (pc' := 1) dX12_swing_0 rfl rfl rfl ?_
        refine Go_iload_n (pc' := 2) dX12_swing_1 rfl rfl rfl ?_
        refine Go_callV_i (pc' := 5) (As := [.int _]) (st := []) dX12_swing_2 rfl ok_X12_isCellar km_RX12_158 (I.S.o 99 rfl rfl rfl) (I.S.b 99 rfl rfl) ⟨_, _, rfl⟩ rfl (Nat.le_of_ble_eq_true rfl) rfl rfl rfl (Nat.le_of_ble_eq_true rfl) (Nat.lt_succ_self _) ?_
        refine Go_iload_n (pc' := 1) dX12_isCellar_0 rfl rfl rfl ?_
        refine Go_iconst (v := iZ 0) (pc' := 2) dX12_isCellar_1 rfl (by decide) ?_
        refine Go_aload_n (pc' := 3) dX12_isCellar_2 rfl rfl rfl ?_
        refine Go_getIv (v := (iZ (nc : Int))) (pc' := 6) dX12_isCellar_3 rfl kf_RX12_151 (by decide) (by decide) rfl (I.S.b 99 rfl rfl) (I.S.o 99 rfl rfl rfl) (ec0) ?_
        refine Go_iconst (v := iZ 1) (pc' := 7) dX12_isCellar_6 rfl (by decide) ?_
        refine Go_isubZ (pc' := 8) dX12_isCellar_7 rfl ?_
        refine Go_callS_i (pc' := 11) (As := [.int _, .int _, .int _]) (st := []) dX12_isCellar_8 rfl ok_X12_isIn km_RX12_147 rfl (Nat.le_of_ble_eq_true rfl) rfl rfl rfl (Nat.le_of_ble_eq_true rfl) (Nat.lt_succ_self _) ?_
        refine s_isInY (by first | exact ⟨i_lo _, i_hi _⟩ | omega) (by first | exact ⟨i_lo _, i_hi _⟩ | omega) (by first | exact ⟨i_lo _, i_hi _⟩ | omega) ?_
        refine ⟨_, rfl, ?_⟩
        refine Go_ireturn (ty := .boolean) dX12_isCellar_11 rfl b2i_nb ?_
        refine ⟨_, rfl, ?_⟩
        refine Go_if_eqb (tgt := 46) (pc' := 8) dX12_swing_5 (by decide) rfl (fun c5 => by exfalso; omega) (fun c5 => ?_)
        refine Go_iload_n (pc' := 9) dX12_swing_8 rfl rfl rfl ?_
        refine Go_iconst (v := iZ 0) (pc' := 10) dX12_swing_9 rfl (by decide) ?_
        refine Go_sipush (v := iZ 200) (pc' := 13) dX12_swing_10 rfl (by decide) ?_
        refine Go_callS_i (pc' := 16) (As := [.int _, .int _, .int _]) (st := []) dX12_swing_13 rfl ok_X12_isIn km_RX12_147 rfl (Nat.le_of_ble_eq_true rfl) rfl rfl rfl (Nat.le_of_ble_eq_true rfl) (Nat.lt_succ_self _) ?_
        refine s_isInY (by first | exact ⟨i_lo _, i_hi _⟩ | omega) (by first | exact ⟨i_lo _, i_hi _⟩ | omega) (by first | exact ⟨i_lo _, i_hi _⟩ | omega) ?_
        refine ⟨_, rfl, ?_⟩
        refine Go_if_eqb (tgt := 46) (pc' := 19) dX12_swing_16 (by decide) rfl (fun c16 => ?_) (fun c16 => ?_)
        · refine Go_iconst (v := iZ (-1)) (pc' := 47) dX12_swing_46 rfl (by decide) ?_
          refine Go_ireturn (ty := .int) dX12_swing_47 rfl rfl ?_
          exact k
        · refine Go_iload_n (pc' := 20) dX12_swing_19 rfl rfl rfl ?_
          refine Go_iload_n (pc' := 21) dX12_swing_20 rfl rfl rfl ?_
          refine Go_iconst (v := iZ 2) (pc' := 22) dX12_swing_21 rfl (by decide) ?_
          refine Go_iaddZ (pc' := 23) dX12_swing_22 rfl ?_
          refine Go_icmp_ltY (tgt := 46) (pc' := 26) dX12_swing_23 (by decide) rfl (by first | exact ⟨i_lo _, i_hi _⟩ | omega) (by first | exact ⟨i_lo _, i_hi _⟩ | omega) (fun c23 => ?_) (fun c23 => ?_)
          · refine Go_iconst (v := iZ (-1)) (pc' := 47) dX12_swing_46 rfl (by decide) ?_
            refine Go_ireturn (ty := .int) dX12_swing_47 rfl rfl ?_
            exact k
          · refine Go_iload_n (pc' := 27) dX12_swing_26 rfl rfl rfl ?_
            refine Go_aload_n (pc' := 28) dX12_swing_27 rfl rfl rfl ?_
            refine Go_getRs (pc' := 31) dX12_swing_28 rfl kf_RX12_31 (by decide) (by decide) rfl (I.S.b 99 rfl rfl) (I.S.o 99 rfl rfl rfl) (I.S.r 99 8 rfl rfl rfl) ?_
            refine Go_iload_n (pc' := 32) dX12_swing_31 rfl rfl rfl ?_
            refine Go_ialoadZ (n := 6) (k := j) (v := (iZ (n : Int))) (pc' := 33) dX12_swing_32 rfl (I.S.b 107 rfl rfl) (I.S.k 107 rfl rfl rfl) rfl (by omega) (by decide) (M.e107) ?_
            refine Go_icmp_geY (tgt := 46) (pc' := 36) dX12_swing_33 (by decide) rfl (by first | exact ⟨i_lo _, i_hi _⟩ | omega) (by first | exact ⟨i_lo _, i_hi _⟩ | omega) (fun c33 => ?_) (fun c33 => ?_)
            · refine Go_iconst (v := iZ (-1)) (pc' := 47) dX12_swing_46 rfl (by decide) ?_
              refine Go_ireturn (ty := .int) dX12_swing_47 rfl rfl ?_
              exact k
            · refine Go_iload (pc' := 38) dX12_swing_36 rfl rfl ?_
              refine Go_iconst (v := iZ 0) (pc' := 39) dX12_swing_38 rfl (by decide) ?_
              refine Go_iconst (v := iZ 2) (pc' := 40) dX12_swing_39 rfl (by decide) ?_
              refine Go_callS_i (pc' := 43) (As := [.int _, .int _, .int _]) (st := []) dX12_swing_40 rfl ok_X12_isIn km_RX12_147 rfl (Nat.le_of_ble_eq_true rfl) rfl rfl rfl (Nat.le_of_ble_eq_true rfl) (Nat.lt_succ_self _) ?_
              refine s_isInY (by first | exact ⟨i_lo _, i_hi _⟩ | omega) (by first | exact ⟨i_lo _, i_hi _⟩ | omega) (by first | exact ⟨i_lo _, i_hi _⟩ | omega) ?_
              refine ⟨_, rfl, ?_⟩
              refine Go_if_neb (tgt := 48) (pc' := 46) dX12_swing_43 (by decide) rfl (fun c43 => by exfalso; omega) (fun c43 => ?_)
              refine Go_iconst (v := iZ (-1)) (pc' := 47) dX12_swing_46 rfl (by decide) ?_
              refine Go_ireturn (ty := .int) dX12_swing_47 rfl rfl ?_
              exact k
  · refine PairI.ro' (fun _ => iZ (-1)) h I (fun K k => ?_) (fun K k => ?_)
    · show Go G 60 0 0 M_X11_swing 0 [.ref 64, .int (iZ Az), .int (iZ Bz), .int (iZ Cz), .int (iZ Ez), un] [] h K
      refine Go_aload_n (pc' := 1) dX11_swing_0 rfl rfl rfl ?_
      refine Go_iload_n (pc' := 2) dX11_swing_1 rfl rfl rfl ?_
      refine Go_callV_r (pc' := 5) (As := [.int _]) (st := []) dX11_swing_2 rfl ok_X11_cellarOf km_RX11_90 (I.S.o 64 rfl rfl rfl) (I.S.b 64 rfl rfl) ⟨_, _, rfl⟩ rfl (Nat.le_of_ble_eq_true rfl) rfl rfl rfl (Nat.le_of_ble_eq_true rfl) (Nat.lt_succ_self _) ?_
      refine Go_iload_n (pc' := 1) dX11_cellarOf_0 rfl rfl rfl ?_
      refine Go_iconst (v := iZ 0) (pc' := 2) dX11_cellarOf_1 rfl (by decide) ?_
      refine Go_aload_n (pc' := 3) dX11_cellarOf_2 rfl rfl rfl ?_
      refine Go_getIv (v := (iZ (nc : Int))) (pc' := 6) dX11_cellarOf_3 rfl kf_RX11_84 (by decide) (by decide) rfl (I.S.b 64 rfl rfl) (I.S.o 64 rfl rfl rfl) (ec2) ?_
      refine Go_iconst (v := iZ 1) (pc' := 7) dX11_cellarOf_6 rfl (by decide) ?_
      refine Go_isubZ (pc' := 8) dX11_cellarOf_7 rfl ?_
      refine Go_callS_i (pc' := 11) (As := [.int _, .int _, .int _]) (st := []) dX11_cellarOf_8 rfl ok_X11_within km_RX11_94 rfl (Nat.le_of_ble_eq_true rfl) rfl rfl rfl (Nat.le_of_ble_eq_true rfl) (Nat.lt_succ_self _) ?_
      refine s_withinY (by first | exact ⟨i_lo _, i_hi _⟩ | omega) (by first | exact ⟨i_lo _, i_hi _⟩ | omega) (by first | exact ⟨i_lo _, i_hi _⟩ | omega) ?_
      refine ⟨_, rfl, ?_⟩
      refine Go_if_eqb (tgt := 32) (pc' := 14) dX11_cellarOf_11 (by decide) rfl (fun q11 => ?_) (fun q11 => by exfalso; omega)
      refine Go_null (pc' := 33) dX11_cellarOf_32 rfl ?_
      refine Go_areturn (r := none) dX11_cellarOf_33 rfl ?_
      refine ⟨none, rfl, ?_⟩
      refine Go_astoreN (pc' := 7) (lv' := [.ref _, .int _, .int _, .int _, .int _, .null]) dX11_swing_5 rfl (Nat.le_of_ble_eq_true rfl) rfl rfl ?_
      refine Go_aloadN (pc' := 9) dX11_swing_7 rfl rfl ?_
      refine Go_ifnullN (tgt := 40) dX11_swing_9 (by decide) ?_
      refine Go_iconst (v := iZ (-1)) (pc' := 41) dX11_swing_40 rfl (by decide) ?_
      refine Go_ireturn (ty := .int) dX11_swing_41 rfl rfl ?_
      exact k
    · show Go G 60 0 0 M_X12_swing 0 [.ref 99, .int (iZ Az), .int (iZ Bz), .int (iZ Cz), .int (iZ Ez), un, un, un, un] [] h K
      refine Go_aload_n (pc' := 1) dX12_swing_0 rfl rfl rfl ?_
      refine Go_iload_n (pc' := 2) dX12_swing_1 rfl rfl rfl ?_
      refine Go_callV_i (pc' := 5) (As := [.int _]) (st := []) dX12_swing_2 rfl ok_X12_isCellar km_RX12_158 (I.S.o 99 rfl rfl rfl) (I.S.b 99 rfl rfl) ⟨_, _, rfl⟩ rfl (Nat.le_of_ble_eq_true rfl) rfl rfl rfl (Nat.le_of_ble_eq_true rfl) (Nat.lt_succ_self _) ?_
      refine Go_iload_n (pc' := 1) dX12_isCellar_0 rfl rfl rfl ?_
      refine Go_iconst (v := iZ 0) (pc' := 2) dX12_isCellar_1 rfl (by decide) ?_
      refine Go_aload_n (pc' := 3) dX12_isCellar_2 rfl rfl rfl ?_
      refine Go_getIv (v := (iZ (nc : Int))) (pc' := 6) dX12_isCellar_3 rfl kf_RX12_151 (by decide) (by decide) rfl (I.S.b 99 rfl rfl) (I.S.o 99 rfl rfl rfl) (ec0) ?_
      refine Go_iconst (v := iZ 1) (pc' := 7) dX12_isCellar_6 rfl (by decide) ?_
      refine Go_isubZ (pc' := 8) dX12_isCellar_7 rfl ?_
      refine Go_callS_i (pc' := 11) (As := [.int _, .int _, .int _]) (st := []) dX12_isCellar_8 rfl ok_X12_isIn km_RX12_147 rfl (Nat.le_of_ble_eq_true rfl) rfl rfl rfl (Nat.le_of_ble_eq_true rfl) (Nat.lt_succ_self _) ?_
      refine s_isInY (by first | exact ⟨i_lo _, i_hi _⟩ | omega) (by first | exact ⟨i_lo _, i_hi _⟩ | omega) (by first | exact ⟨i_lo _, i_hi _⟩ | omega) ?_
      refine ⟨_, rfl, ?_⟩
      refine Go_ireturn (ty := .boolean) dX12_isCellar_11 rfl b2i_nb ?_
      refine ⟨_, rfl, ?_⟩
      refine Go_if_eqb (tgt := 46) (pc' := 8) dX12_swing_5 (by decide) rfl (fun c5 => ?_) (fun c5 => by exfalso; omega)
      refine Go_iconst (v := iZ (-1)) (pc' := 47) dX12_swing_46 rfl (by decide) ?_
      refine Go_ireturn (ty := .int) dX12_swing_47 rfl rfl ?_
      exact k
