/-! pairs: couples, parted -/
theorem rgE {x : Int32} {a b : Int} (h : rg x a b) : ∃ X : Int, (a ≤ X ∧ X ≤ b) ∧ x = iZ X := ⟨x.toInt, h, (iZ_self x).symm⟩
abbrev nearP (o w t v u : Int) : Prop := (((o - w).natAbs : Nat) : Int) ≤ u ∧ (((t - v).natAbs : Nat) : Int) ≤ u
abbrev nearS (o w t v u : Int) : Prop := nearP o w t v u ∨ nearP o v t w u
set_option maxRecDepth 20000 in
set_option maxHeartbeats 1000000 in
theorem s_apart {G : GC} {d mc ms : Nat} {h : HS} {K : Option Value → HS → Prop} {a b : Int} (ha : -1000000000 ≤ a ∧ a ≤ 1000000000) (hb : -1000000000 ≤ b ∧ b ≤ 1000000000) (hk : K (some (.int (iZ (((a - b).natAbs : Nat) : Int)))) h) : Go G d mc ms M_X12_apart 0 [.int (iZ a), .int (iZ b)] [] h K := by
  refine Go_iload_n (pc' := 1) dX12_apart_0 rfl rfl rfl ?_
  refine Go_iload_n (pc' := 2) dX12_apart_1 rfl rfl rfl ?_
  refine Go_icmp_leY (tgt := 11) (pc' := 5) dX12_apart_2 (by decide) rfl (by first | exact ⟨i_lo _, i_hi _⟩ | omega) (by first | exact ⟨i_lo _, i_hi _⟩ | omega) (fun c2 => ?_) (fun c2 => ?_)
  · refine Go_iload_n (pc' := 12) dX12_apart_11 rfl rfl rfl ?_
    refine Go_iload_n (pc' := 13) dX12_apart_12 rfl rfl rfl ?_
    refine Go_isubZ (pc' := 14) dX12_apart_13 rfl ?_
    refine Go_ireturn (ty := .int) dX12_apart_14 rfl rfl ?_
    rw [show (((a - b).natAbs : Nat) : Int) = (b - a) by omega] at hk; exact hk
  · refine Go_iload_n (pc' := 6) dX12_apart_5 rfl rfl rfl ?_
    refine Go_iload_n (pc' := 7) dX12_apart_6 rfl rfl rfl ?_
    refine Go_isubZ (pc' := 8) dX12_apart_7 rfl ?_
    refine Go_goto (tgt := 14) dX12_apart_8 (by decide) ?_
    refine Go_ireturn (ty := .int) dX12_apart_14 rfl rfl ?_
    rw [show (((a - b).natAbs : Nat) : Int) = (a - b) by omega] at hk; exact hk
set_option maxRecDepth 20000 in
set_option maxHeartbeats 1000000 in
theorem s_isNear {G : GC} {d mc ms : Nat} {h : HS} {K : Option Value → HS → Prop} {o w t v u : Int} (ho : -100000000 ≤ o ∧ o ≤ 100000000) (hw : -100000000 ≤ w ∧ w ≤ 100000000) (ht : -100000000 ≤ t ∧ t ≤ 100000000) (hv : -100000000 ≤ v ∧ v ≤ 100000000) (hu : 0 ≤ u ∧ u ≤ 1000) (hk : K (some (.int (b2i (nearP o w t v u)))) h) : Go G (d + 1) mc ms M_X10_isNear 0 [.int (iZ o), .int (iZ w), .int (iZ t), .int (iZ v), .int (iZ u)] [] h K := by
  refine Go_iload_n (pc' := 1) dX10_isNear_0 rfl rfl rfl ?_
  refine Go_iload_n (pc' := 2) dX10_isNear_1 rfl rfl rfl ?_
  refine Go_isubZ (pc' := 3) dX10_isNear_2 rfl ?_
  refine Go_callS_i (pc' := 6) (As := [.int _]) (st := []) dX10_isNear_3 rfl ok_J9_abs_0f7a4 km_RX10_32 rfl (Nat.le_of_ble_eq_true rfl) rfl rfl rfl (Nat.le_of_ble_eq_true rfl) (Nat.lt_succ_self _) ?_
  refine s_absY (by omega) ?_
  refine ⟨_, rfl, ?_⟩
  refine Go_iload (pc' := 8) dX10_isNear_6 rfl rfl ?_
  refine Go_icmp_gtY (tgt := 26) (pc' := 11) dX10_isNear_8 (by decide) rfl (by first | exact ⟨i_lo _, i_hi _⟩ | omega) (by first | exact ⟨i_lo _, i_hi _⟩ | omega) (fun c8 => ?_) (fun c8 => ?_)
  · refine Go_iconst (v := iZ 0) (pc' := 27) dX10_isNear_26 rfl (by decide) ?_
    refine Go_ireturn (ty := .boolean) dX10_isNear_27 rfl rfl ?_
    rw [b2i_f (show ¬ nearP o w t v u by unfold nearP; omega)] at hk; exact hk
  · refine Go_iload_n (pc' := 12) dX10_isNear_11 rfl rfl rfl ?_
    refine Go_iload_n (pc' := 13) dX10_isNear_12 rfl rfl rfl ?_
    refine Go_isubZ (pc' := 14) dX10_isNear_13 rfl ?_
    refine Go_callS_i (pc' := 17) (As := [.int _]) (st := []) dX10_isNear_14 rfl ok_J9_abs_0f7a4 km_RX10_32 rfl (Nat.le_of_ble_eq_true rfl) rfl rfl rfl (Nat.le_of_ble_eq_true rfl) (Nat.lt_succ_self _) ?_
    refine s_absY (by omega) ?_
    refine ⟨_, rfl, ?_⟩
    refine Go_iload (pc' := 19) dX10_isNear_17 rfl rfl ?_
    refine Go_icmp_gtY (tgt := 26) (pc' := 22) dX10_isNear_19 (by decide) rfl (by first | exact ⟨i_lo _, i_hi _⟩ | omega) (by first | exact ⟨i_lo _, i_hi _⟩ | omega) (fun c19 => ?_) (fun c19 => ?_)
    · refine Go_iconst (v := iZ 0) (pc' := 27) dX10_isNear_26 rfl (by decide) ?_
      refine Go_ireturn (ty := .boolean) dX10_isNear_27 rfl rfl ?_
      rw [b2i_f (show ¬ nearP o w t v u by unfold nearP; omega)] at hk; exact hk
    · refine Go_iconst (v := iZ 1) (pc' := 23) dX10_isNear_22 rfl (by decide) ?_
      refine Go_goto (tgt := 27) dX10_isNear_23 (by decide) ?_
      refine Go_ireturn (ty := .boolean) dX10_isNear_27 rfl rfl ?_
      rw [b2i_t (show nearP o w t v u by unfold nearP; omega)] at hk; exact hk
set_option maxRecDepth 20000 in
set_option maxHeartbeats 1000000 in
theorem s_isNearM {G : GC} {d mc ms : Nat} {h : HS} {K : Option Value → HS → Prop} {o D u P S : Int} (Sh : Shp h) (hP : vi h 99 39 = iZ P) (hS : vi h 99 40 = iZ S) (ho : -100000000 ≤ o ∧ o ≤ 100000000) (hw : -100000000 ≤ (S - P) * D ∧ (S - P) * D ≤ 100000000) (hu : 0 ≤ u ∧ u ≤ 1000) (hk : K (some (.int (b2i ((((o - (S - P) * D).natAbs : Nat) : Int) ≤ u)))) h) : Go G (d + 1) mc ms M_X12_isNear 0 [.ref 99, .int (iZ o), .int (iZ D), .int (iZ u)] [] h K := by
  refine Go_iload_n (pc' := 1) dX12_isNear_0 rfl rfl rfl ?_
  refine Go_aload_n (pc' := 2) dX12_isNear_1 rfl rfl rfl ?_
  refine Go_getIv (v := (iZ S)) (pc' := 5) dX12_isNear_2 rfl kf_RX12_89 (by decide) (by decide) rfl (Sh.b 99 rfl rfl) (Sh.o 99 rfl rfl rfl) (hS) ?_
  refine Go_aload_n (pc' := 6) dX12_isNear_5 rfl rfl rfl ?_
  refine Go_getIv (v := (iZ P)) (pc' := 9) dX12_isNear_6 rfl kf_RX12_86 (by decide) (by decide) rfl (Sh.b 99 rfl rfl) (Sh.o 99 rfl rfl rfl) (hP) ?_
  refine Go_isubZ (pc' := 10) dX12_isNear_9 rfl ?_
  refine Go_iload_n (pc' := 11) dX12_isNear_10 rfl rfl rfl ?_
  refine Go_imulZ (pc' := 12) dX12_isNear_11 rfl ?_
  refine Go_callS_i (pc' := 15) (As := [.int _, .int _]) (st := []) dX12_isNear_12 rfl ok_X12_apart km_RX12_388 rfl (Nat.le_of_ble_eq_true rfl) rfl rfl rfl (Nat.le_of_ble_eq_true rfl) (Nat.lt_succ_self _) ?_
  refine s_apart (by omega) (by omega) ?_
  refine ⟨_, rfl, ?_⟩
  refine Go_iload_n (pc' := 16) dX12_isNear_15 rfl rfl rfl ?_
  refine Go_icmp_gtY (tgt := 23) (pc' := 19) dX12_isNear_16 (by decide) rfl (by first | exact ⟨i_lo _, i_hi _⟩ | omega) (by first | exact ⟨i_lo _, i_hi _⟩ | omega) (fun c16 => ?_) (fun c16 => ?_)
  · refine Go_iconst (v := iZ 0) (pc' := 24) dX12_isNear_23 rfl (by decide) ?_
    refine Go_ireturn (ty := .boolean) dX12_isNear_24 rfl rfl ?_
    rw [b2i_f (by omega)] at hk; exact hk
  · refine Go_iconst (v := iZ 1) (pc' := 20) dX12_isNear_19 rfl (by decide) ?_
    refine Go_goto (tgt := 24) dX12_isNear_20 (by decide) ?_
    refine Go_ireturn (ty := .boolean) dX12_isNear_24 rfl rfl ?_
    rw [b2i_t (by omega)] at hk; exact hk

set_option maxRecDepth 20000 in
set_option maxHeartbeats 1000000 in
theorem s_wtc {G : GC} {d mc ms : Nat} {h : HS} {K : Option Value → HS → Prop} {P S Az Bz Cz : Int} (Sh : Shp h) (w1 : 0 ≤ (S - P) * Az ∧ (S - P) * Az ≤ 98 * 55) (w2 : 0 ≤ (S - P) * Bz ∧ (S - P) * Bz ≤ 98 * 55) (c3 : 0 ≤ Cz ∧ Cz ≤ 999) (t0 : 0 ≤ (vi h 82 0).toInt ∧ (vi h 82 0).toInt ≤ 9999999) (t1 : 0 ≤ (vi h 82 1).toInt ∧ (vi h 82 1).toInt ≤ 9999999) (t2 : 0 ≤ (vi h 82 2).toInt ∧ (vi h 82 2).toInt ≤ 9999999) (t3 : 0 ≤ (vi h 82 3).toInt ∧ (vi h 82 3).toInt ≤ 9999999) (hk : K (some (.int (iZ (if nearS ((vi h 82 3).toInt - (vi h 82 0).toInt) ((S - P) * Az) ((vi h 82 2).toInt - (vi h 82 1).toInt) ((S - P) * Bz) Cz then (if nearS ((vi h 82 2).toInt - (vi h 82 0).toInt) ((S - P) * Az) ((vi h 82 3).toInt - (vi h 82 1).toInt) ((S - P) * Bz) Cz then (if nearS ((vi h 82 1).toInt - (vi h 82 0).toInt) ((S - P) * Az) ((vi h 82 3).toInt - (vi h 82 2).toInt) ((S - P) * Bz) Cz then 0 + 1 else 0) + 1 else (if nearS ((vi h 82 1).toInt - (vi h 82 0).toInt) ((S - P) * Az) ((vi h 82 3).toInt - (vi h 82 2).toInt) ((S - P) * Bz) Cz then 0 + 1 else 0)) + 1 else (if nearS ((vi h 82 2).toInt - (vi h 82 0).toInt) ((S - P) * Az) ((vi h 82 3).toInt - (vi h 82 1).toInt) ((S - P) * Bz) Cz then (if nearS ((vi h 82 1).toInt - (vi h 82 0).toInt) ((S - P) * Az) ((vi h 82 3).toInt - (vi h 82 2).toInt) ((S - P) * Bz) Cz then 0 + 1 else 0) + 1 else (if nearS ((vi h 82 1).toInt - (vi h 82 0).toInt) ((S - P) * Az) ((vi h 82 3).toInt - (vi h 82 2).toInt) ((S - P) * Bz) Cz then 0 + 1 else 0)))))) h) : Go G (d + 2) mc ms M_X10_waysToCouple 0 [.ref 81, .int (iZ ((S - P) * Az)), .int (iZ ((S - P) * Bz)), .int (iZ Cz), un, un, un, un, un, un] [] h K := by
  have st4 : ∀ (N : Int) (x6 x7 x8 x9 : Int32), K (some (.int (iZ N))) h → Go G (d + 2) mc ms M_X10_waysToCouple 6 [.ref 81, .int (iZ ((S - P) * Az)), .int (iZ ((S - P) * Bz)), .int (iZ Cz), .int (iZ N), .int (iZ 4), .int x6, .int x7, .int x8, .int x9] [] h K := by
    intro N x6 x7 x8 x9 hk
    refine Go_iload (pc' := 8) dX10_waysToCouple_6 rfl rfl ?_
    refine Go_iconst (v := iZ 3) (pc' := 9) dX10_waysToCouple_8 rfl (by decide) ?_
    refine Go_icmp_gtY (tgt := 106) (pc' := 12) dX10_waysToCouple_9 (by decide) rfl (by first | exact ⟨i_lo _, i_hi _⟩ | omega) (by first | exact ⟨i_lo _, i_hi _⟩ | omega) (fun c9 => ?_) (fun c9 => by exfalso; omega)
    refine Go_iload (pc' := 108) dX10_waysToCouple_106 rfl rfl ?_
    refine Go_ireturn (ty := .int) dX10_waysToCouple_108 rfl rfl ?_
    exact hk
  have st3 : ∀ (N : Int) (x6 x7 x8 x9 : Int32), K (some (.int (iZ (if nearS ((vi h 82 3).toInt - (vi h 82 0).toInt) ((S - P) * Az) ((vi h 82 2).toInt - (vi h 82 1).toInt) ((S - P) * Bz) Cz then N + 1 else N)))) h → Go G (d + 2) mc ms M_X10_waysToCouple 6 [.ref 81, .int (iZ ((S - P) * Az)), .int (iZ ((S - P) * Bz)), .int (iZ Cz), .int (iZ N), .int (iZ 3), .int x6, .int x7, .int x8, .int x9] [] h K := by
    intro N x6 x7 x8 x9 hk
    refine Go_iload (pc' := 8) dX10_waysToCouple_6 rfl rfl ?_
    refine Go_iconst (v := iZ 3) (pc' := 9) dX10_waysToCouple_8 rfl (by decide) ?_
    refine Go_icmp_gtY (tgt := 106) (pc' := 12) dX10_waysToCouple_9 (by decide) rfl (by first | exact ⟨i_lo _, i_hi _⟩ | omega) (by first | exact ⟨i_lo _, i_hi _⟩ | omega) (fun c9 => by exfalso; omega) (fun c9 => ?_)
    refine Go_iload (pc' := 14) dX10_waysToCouple_12 rfl rfl ?_
    refine Go_iconst (v := iZ 1) (pc' := 15) dX10_waysToCouple_14 rfl (by decide) ?_
    refine Go_icmp_neY (tgt := 22) (pc' := 18) dX10_waysToCouple_15 (by decide) rfl (by first | exact ⟨i_lo _, i_hi _⟩ | omega) (by first | exact ⟨i_lo _, i_hi _⟩ | omega) (fun c15 => ?_) (fun c15 => by exfalso; omega)
    refine Go_iconst (v := iZ 1) (pc' := 23) dX10_waysToCouple_22 rfl (by decide) ?_
    refine Go_istore (pc' := 25) (lv' := [.ref _, .int _, .int _, .int _, .int _, .int _, .int _, .int _, .int _, .int _]) dX10_waysToCouple_23 rfl (Nat.le_of_ble_eq_true rfl) rfl rfl ?_
    refine Go_iload (pc' := 27) dX10_waysToCouple_25 rfl rfl ?_
    refine Go_iconst (v := iZ 3) (pc' := 28) dX10_waysToCouple_27 rfl (by decide) ?_
    refine Go_icmp_neY (tgt := 35) (pc' := 31) dX10_waysToCouple_28 (by decide) rfl (by first | exact ⟨i_lo _, i_hi _⟩ | omega) (by first | exact ⟨i_lo _, i_hi _⟩ | omega) (fun c28 => by exfalso; omega) (fun c28 => ?_)
    refine Go_iconst (v := iZ 2) (pc' := 32) dX10_waysToCouple_31 rfl (by decide) ?_
    refine Go_goto (tgt := 36) dX10_waysToCouple_32 (by decide) ?_
    refine Go_istore (pc' := 38) (lv' := [.ref _, .int _, .int _, .int _, .int _, .int _, .int _, .int _, .int _, .int _]) dX10_waysToCouple_36 rfl (Nat.le_of_ble_eq_true rfl) rfl rfl ?_
    refine Go_aload_n (pc' := 39) dX10_waysToCouple_38 rfl rfl rfl ?_
    refine Go_getRs (pc' := 42) dX10_waysToCouple_39 rfl kf_RX10_9 (by decide) (by decide) rfl (Sh.b 81 rfl rfl) (Sh.o 81 rfl rfl rfl) (Sh.r 81 0 rfl rfl rfl) ?_
    refine Go_iload (pc' := 44) dX10_waysToCouple_42 rfl rfl ?_
    refine Go_ialoadZ (n := 8) (k := 3) (v := (iZ (vi h 82 3).toInt)) (pc' := 45) dX10_waysToCouple_44 rfl (Sh.b 82 rfl rfl) (Sh.k 82 rfl rfl rfl) rfl (by decide) (by decide) (vi_eta _ _ _) ?_
    refine Go_aload_n (pc' := 46) dX10_waysToCouple_45 rfl rfl rfl ?_
    refine Go_getRs (pc' := 49) dX10_waysToCouple_46 rfl kf_RX10_9 (by decide) (by decide) rfl (Sh.b 81 rfl rfl) (Sh.o 81 rfl rfl rfl) (Sh.r 81 0 rfl rfl rfl) ?_
    refine Go_iconst (v := iZ 0) (pc' := 50) dX10_waysToCouple_49 rfl (by decide) ?_
    refine Go_ialoadZ (n := 8) (k := 0) (v := (iZ (vi h 82 0).toInt)) (pc' := 51) dX10_waysToCouple_50 rfl (Sh.b 82 rfl rfl) (Sh.k 82 rfl rfl rfl) rfl (by decide) (by decide) (vi_eta _ _ _) ?_
    refine Go_isubZ (pc' := 52) dX10_waysToCouple_51 rfl ?_
    refine Go_istore (pc' := 54) (lv' := [.ref _, .int _, .int _, .int _, .int _, .int _, .int _, .int _, .int _, .int _]) dX10_waysToCouple_52 rfl (Nat.le_of_ble_eq_true rfl) rfl rfl ?_
    refine Go_aload_n (pc' := 55) dX10_waysToCouple_54 rfl rfl rfl ?_
    refine Go_getRs (pc' := 58) dX10_waysToCouple_55 rfl kf_RX10_9 (by decide) (by decide) rfl (Sh.b 81 rfl rfl) (Sh.o 81 rfl rfl rfl) (Sh.r 81 0 rfl rfl rfl) ?_
    refine Go_iload (pc' := 60) dX10_waysToCouple_58 rfl rfl ?_
    refine Go_ialoadZ (n := 8) (k := 2) (v := (iZ (vi h 82 2).toInt)) (pc' := 61) dX10_waysToCouple_60 rfl (Sh.b 82 rfl rfl) (Sh.k 82 rfl rfl rfl) rfl (by decide) (by decide) (vi_eta _ _ _) ?_
    refine Go_aload_n (pc' := 62) dX10_waysToCouple_61 rfl rfl rfl ?_
    refine Go_getRs (pc' := 65) dX10_waysToCouple_62 rfl kf_RX10_9 (by decide) (by decide) rfl (Sh.b 81 rfl rfl) (Sh.o 81 rfl rfl rfl) (Sh.r 81 0 rfl rfl rfl) ?_
    refine Go_iload (pc' := 67) dX10_waysToCouple_65 rfl rfl ?_
    refine Go_ialoadZ (n := 8) (k := 1) (v := (iZ (vi h 82 1).toInt)) (pc' := 68) dX10_waysToCouple_67 rfl (Sh.b 82 rfl rfl) (Sh.k 82 rfl rfl rfl) rfl (by decide) (by decide) (vi_eta _ _ _) ?_
    refine Go_isubZ (pc' := 69) dX10_waysToCouple_68 rfl ?_
    refine Go_istore (pc' := 71) (lv' := [.ref _, .int _, .int _, .int _, .int _, .int _, .int _, .int _, .int _, .int _]) dX10_waysToCouple_69 rfl (Nat.le_of_ble_eq_true rfl) rfl rfl ?_
    refine Go_iload (pc' := 73) dX10_waysToCouple_71 rfl rfl ?_
    refine Go_iload_n (pc' := 74) dX10_waysToCouple_73 rfl rfl rfl ?_
    refine Go_iload (pc' := 76) dX10_waysToCouple_74 rfl rfl ?_
    refine Go_iload_n (pc' := 77) dX10_waysToCouple_76 rfl rfl rfl ?_
    refine Go_iload_n (pc' := 78) dX10_waysToCouple_77 rfl rfl rfl ?_
    refine Go_callS_i (pc' := 81) (As := [.int _, .int _, .int _, .int _, .int _]) (st := []) dX10_waysToCouple_78 rfl ok_X10_isNear km_RX10_28 rfl (Nat.le_of_ble_eq_true rfl) rfl rfl rfl (Nat.le_of_ble_eq_true rfl) (Nat.lt_succ_self _) ?_
    refine s_isNear (by omega) (by omega) (by omega) (by omega) (by omega) ?_
    refine ⟨_, rfl, ?_⟩
    refine Go_if_neb (tgt := 97) (pc' := 84) dX10_waysToCouple_81 (by decide) rfl (fun c81 => ?_) (fun c81 => ?_)
    · refine Go_iincZ (pc' := 100) (lv' := [.ref _, .int _, .int _, .int _, .int _, .int _, .int _, .int _, .int _, .int _]) dX10_waysToCouple_97 rfl rfl (Nat.le_of_ble_eq_true rfl) rfl rfl ?_
      refine Go_iinc (pc' := 103) (v := iZ 4) (lv' := [.ref _, .int _, .int _, .int _, .int _, .int _, .int _, .int _, .int _, .int _]) dX10_waysToCouple_100 rfl rfl (by decide) (Nat.le_of_ble_eq_true rfl) rfl rfl ?_
      refine Go_goto (tgt := 6) dX10_waysToCouple_103 (by decide) ?_
      rw [if_pos (show nearS ((vi h 82 3).toInt - (vi h 82 0).toInt) ((S - P) * Az) ((vi h 82 2).toInt - (vi h 82 1).toInt) ((S - P) * Bz) Cz from by first | exact Or.inl c81 | exact Or.inr c94)] at hk
      exact st4 _ _ _ _ _ hk
    · refine Go_iload (pc' := 86) dX10_waysToCouple_84 rfl rfl ?_
      refine Go_iload_n (pc' := 87) dX10_waysToCouple_86 rfl rfl rfl ?_
      refine Go_iload (pc' := 89) dX10_waysToCouple_87 rfl rfl ?_
      refine Go_iload_n (pc' := 90) dX10_waysToCouple_89 rfl rfl rfl ?_
      refine Go_iload_n (pc' := 91) dX10_waysToCouple_90 rfl rfl rfl ?_
      refine Go_callS_i (pc' := 94) (As := [.int _, .int _, .int _, .int _, .int _]) (st := []) dX10_waysToCouple_91 rfl ok_X10_isNear km_RX10_28 rfl (Nat.le_of_ble_eq_true rfl) rfl rfl rfl (Nat.le_of_ble_eq_true rfl) (Nat.lt_succ_self _) ?_
      refine s_isNear (by omega) (by omega) (by omega) (by omega) (by omega) ?_
      refine ⟨_, rfl, ?_⟩
      refine Go_if_eqb (tgt := 100) (pc' := 97) dX10_waysToCouple_94 (by decide) rfl (fun c94 => ?_) (fun c94 => ?_)
      · refine Go_iinc (pc' := 103) (v := iZ 4) (lv' := [.ref _, .int _, .int _, .int _, .int _, .int _, .int _, .int _, .int _, .int _]) dX10_waysToCouple_100 rfl rfl (by decide) (Nat.le_of_ble_eq_true rfl) rfl rfl ?_
        refine Go_goto (tgt := 6) dX10_waysToCouple_103 (by decide) ?_
        rw [if_neg (show ¬ (nearS ((vi h 82 3).toInt - (vi h 82 0).toInt) ((S - P) * Az) ((vi h 82 2).toInt - (vi h 82 1).toInt) ((S - P) * Bz) Cz) from fun z => z.elim c81 c94)] at hk
        exact st4 _ _ _ _ _ hk
      · refine Go_iincZ (pc' := 100) (lv' := [.ref _, .int _, .int _, .int _, .int _, .int _, .int _, .int _, .int _, .int _]) dX10_waysToCouple_97 rfl rfl (Nat.le_of_ble_eq_true rfl) rfl rfl ?_
        refine Go_iinc (pc' := 103) (v := iZ 4) (lv' := [.ref _, .int _, .int _, .int _, .int _, .int _, .int _, .int _, .int _, .int _]) dX10_waysToCouple_100 rfl rfl (by decide) (Nat.le_of_ble_eq_true rfl) rfl rfl ?_
        refine Go_goto (tgt := 6) dX10_waysToCouple_103 (by decide) ?_
        rw [if_pos (show nearS ((vi h 82 3).toInt - (vi h 82 0).toInt) ((S - P) * Az) ((vi h 82 2).toInt - (vi h 82 1).toInt) ((S - P) * Bz) Cz from by first | exact Or.inl c81 | exact Or.inr c94)] at hk
        exact st4 _ _ _ _ _ hk
  have st2 : ∀ (N : Int) (x6 x7 x8 x9 : Int32), K (some (.int (iZ (if nearS ((vi h 82 3).toInt - (vi h 82 0).toInt) ((S - P) * Az) ((vi h 82 2).toInt - (vi h 82 1).toInt) ((S - P) * Bz) Cz then (if nearS ((vi h 82 2).toInt - (vi h 82 0).toInt) ((S - P) * Az) ((vi h 82 3).toInt - (vi h 82 1).toInt) ((S - P) * Bz) Cz then N + 1 else N) + 1 else (if nearS ((vi h 82 2).toInt - (vi h 82 0).toInt) ((S - P) * Az) ((vi h 82 3).toInt - (vi h 82 1).toInt) ((S - P) * Bz) Cz then N + 1 else N))))) h → Go G (d + 2) mc ms M_X10_waysToCouple 6 [.ref 81, .int (iZ ((S - P) * Az)), .int (iZ ((S - P) * Bz)), .int (iZ Cz), .int (iZ N), .int (iZ 2), .int x6, .int x7, .int x8, .int x9] [] h K := by
    intro N x6 x7 x8 x9 hk
    refine Go_iload (pc' := 8) dX10_waysToCouple_6 rfl rfl ?_
    refine Go_iconst (v := iZ 3) (pc' := 9) dX10_waysToCouple_8 rfl (by decide) ?_
    refine Go_icmp_gtY (tgt := 106) (pc' := 12) dX10_waysToCouple_9 (by decide) rfl (by first | exact ⟨i_lo _, i_hi _⟩ | omega) (by first | exact ⟨i_lo _, i_hi _⟩ | omega) (fun c9 => by exfalso; omega) (fun c9 => ?_)
    refine Go_iload (pc' := 14) dX10_waysToCouple_12 rfl rfl ?_
    refine Go_iconst (v := iZ 1) (pc' := 15) dX10_waysToCouple_14 rfl (by decide) ?_
    refine Go_icmp_neY (tgt := 22) (pc' := 18) dX10_waysToCouple_15 (by decide) rfl (by first | exact ⟨i_lo _, i_hi _⟩ | omega) (by first | exact ⟨i_lo _, i_hi _⟩ | omega) (fun c15 => ?_) (fun c15 => by exfalso; omega)
    refine Go_iconst (v := iZ 1) (pc' := 23) dX10_waysToCouple_22 rfl (by decide) ?_
    refine Go_istore (pc' := 25) (lv' := [.ref _, .int _, .int _, .int _, .int _, .int _, .int _, .int _, .int _, .int _]) dX10_waysToCouple_23 rfl (Nat.le_of_ble_eq_true rfl) rfl rfl ?_
    refine Go_iload (pc' := 27) dX10_waysToCouple_25 rfl rfl ?_
    refine Go_iconst (v := iZ 3) (pc' := 28) dX10_waysToCouple_27 rfl (by decide) ?_
    refine Go_icmp_neY (tgt := 35) (pc' := 31) dX10_waysToCouple_28 (by decide) rfl (by first | exact ⟨i_lo _, i_hi _⟩ | omega) (by first | exact ⟨i_lo _, i_hi _⟩ | omega) (fun c28 => ?_) (fun c28 => by exfalso; omega)
    refine Go_iconst (v := iZ 3) (pc' := 36) dX10_waysToCouple_35 rfl (by decide) ?_
    refine Go_istore (pc' := 38) (lv' := [.ref _, .int _, .int _, .int _, .int _, .int _, .int _, .int _, .int _, .int _]) dX10_waysToCouple_36 rfl (Nat.le_of_ble_eq_true rfl) rfl rfl ?_
    refine Go_aload_n (pc' := 39) dX10_waysToCouple_38 rfl rfl rfl ?_
    refine Go_getRs (pc' := 42) dX10_waysToCouple_39 rfl kf_RX10_9 (by decide) (by decide) rfl (Sh.b 81 rfl rfl) (Sh.o 81 rfl rfl rfl) (Sh.r 81 0 rfl rfl rfl) ?_
    refine Go_iload (pc' := 44) dX10_waysToCouple_42 rfl rfl ?_
    refine Go_ialoadZ (n := 8) (k := 2) (v := (iZ (vi h 82 2).toInt)) (pc' := 45) dX10_waysToCouple_44 rfl (Sh.b 82 rfl rfl) (Sh.k 82 rfl rfl rfl) rfl (by decide) (by decide) (vi_eta _ _ _) ?_
    refine Go_aload_n (pc' := 46) dX10_waysToCouple_45 rfl rfl rfl ?_
    refine Go_getRs (pc' := 49) dX10_waysToCouple_46 rfl kf_RX10_9 (by decide) (by decide) rfl (Sh.b 81 rfl rfl) (Sh.o 81 rfl rfl rfl) (Sh.r 81 0 rfl rfl rfl) ?_
    refine Go_iconst (v := iZ 0) (pc' := 50) dX10_waysToCouple_49 rfl (by decide) ?_
    refine Go_ialoadZ (n := 8) (k := 0) (v := (iZ (vi h 82 0).toInt)) (pc' := 51) dX10_waysToCouple_50 rfl (Sh.b 82 rfl rfl) (Sh.k 82 rfl rfl rfl) rfl (by decide) (by decide) (vi_eta _ _ _) ?_
    refine Go_isubZ (pc' := 52) dX10_waysToCouple_51 rfl ?_
    refine Go_istore (pc' := 54) (lv' := [.ref _, .int _, .int _, .int _, .int _, .int _, .int _, .int _, .int _, .int _]) dX10_waysToCouple_52 rfl (Nat.le_of_ble_eq_true rfl) rfl rfl ?_
    refine Go_aload_n (pc' := 55) dX10_waysToCouple_54 rfl rfl rfl ?_
    refine Go_getRs (pc' := 58) dX10_waysToCouple_55 rfl kf_RX10_9 (by decide) (by decide) rfl (Sh.b 81 rfl rfl) (Sh.o 81 rfl rfl rfl) (Sh.r 81 0 rfl rfl rfl) ?_
    refine Go_iload (pc' := 60) dX10_waysToCouple_58 rfl rfl ?_
    refine Go_ialoadZ (n := 8) (k := 3) (v := (iZ (vi h 82 3).toInt)) (pc' := 61) dX10_waysToCouple_60 rfl (Sh.b 82 rfl rfl) (Sh.k 82 rfl rfl rfl) rfl (by decide) (by decide) (vi_eta _ _ _) ?_
    refine Go_aload_n (pc' := 62) dX10_waysToCouple_61 rfl rfl rfl ?_
    refine Go_getRs (pc' := 65) dX10_waysToCouple_62 rfl kf_RX10_9 (by decide) (by decide) rfl (Sh.b 81 rfl rfl) (Sh.o 81 rfl rfl rfl) (Sh.r 81 0 rfl rfl rfl) ?_
    refine Go_iload (pc' := 67) dX10_waysToCouple_65 rfl rfl ?_
    refine Go_ialoadZ (n := 8) (k := 1) (v := (iZ (vi h 82 1).toInt)) (pc' := 68) dX10_waysToCouple_67 rfl (Sh.b 82 rfl rfl) (Sh.k 82 rfl rfl rfl) rfl (by decide) (by decide) (vi_eta _ _ _) ?_
    refine Go_isubZ (pc' := 69) dX10_waysToCouple_68 rfl ?_
    refine Go_istore (pc' := 71) (lv' := [.ref _, .int _, .int _, .int _, .int _, .int _, .int _, .int _, .int _, .int _]) dX10_waysToCouple_69 rfl (Nat.le_of_ble_eq_true rfl) rfl rfl ?_
    refine Go_iload (pc' := 73) dX10_waysToCouple_71 rfl rfl ?_
    refine Go_iload_n (pc' := 74) dX10_waysToCouple_73 rfl rfl rfl ?_
    refine Go_iload (pc' := 76) dX10_waysToCouple_74 rfl rfl ?_
    refine Go_iload_n (pc' := 77) dX10_waysToCouple_76 rfl rfl rfl ?_
    refine Go_iload_n (pc' := 78) dX10_waysToCouple_77 rfl rfl rfl ?_
    refine Go_callS_i (pc' := 81) (As := [.int _, .int _, .int _, .int _, .int _]) (st := []) dX10_waysToCouple_78 rfl ok_X10_isNear km_RX10_28 rfl (Nat.le_of_ble_eq_true rfl) rfl rfl rfl (Nat.le_of_ble_eq_true rfl) (Nat.lt_succ_self _) ?_
    refine s_isNear (by omega) (by omega) (by omega) (by omega) (by omega) ?_
    refine ⟨_, rfl, ?_⟩
    refine Go_if_neb (tgt := 97) (pc' := 84) dX10_waysToCouple_81 (by decide) rfl (fun c81 => ?_) (fun c81 => ?_)
    · refine Go_iincZ (pc' := 100) (lv' := [.ref _, .int _, .int _, .int _, .int _, .int _, .int _, .int _, .int _, .int _]) dX10_waysToCouple_97 rfl rfl (Nat.le_of_ble_eq_true rfl) rfl rfl ?_
      refine Go_iinc (pc' := 103) (v := iZ 3) (lv' := [.ref _, .int _, .int _, .int _, .int _, .int _, .int _, .int _, .int _, .int _]) dX10_waysToCouple_100 rfl rfl (by decide) (Nat.le_of_ble_eq_true rfl) rfl rfl ?_
      refine Go_goto (tgt := 6) dX10_waysToCouple_103 (by decide) ?_
      rw [if_pos (show nearS ((vi h 82 2).toInt - (vi h 82 0).toInt) ((S - P) * Az) ((vi h 82 3).toInt - (vi h 82 1).toInt) ((S - P) * Bz) Cz from by first | exact Or.inl c81 | exact Or.inr c94)] at hk
      exact st3 _ _ _ _ _ hk
    · refine Go_iload (pc' := 86) dX10_waysToCouple_84 rfl rfl ?_
      refine Go_iload_n (pc' := 87) dX10_waysToCouple_86 rfl rfl rfl ?_
      refine Go_iload (pc' := 89) dX10_waysToCouple_87 rfl rfl ?_
      refine Go_iload_n (pc' := 90) dX10_waysToCouple_89 rfl rfl rfl ?_
      refine Go_iload_n (pc' := 91) dX10_waysToCouple_90 rfl rfl rfl ?_
      refine Go_callS_i (pc' := 94) (As := [.int _, .int _, .int _, .int _, .int _]) (st := []) dX10_waysToCouple_91 rfl ok_X10_isNear km_RX10_28 rfl (Nat.le_of_ble_eq_true rfl) rfl rfl rfl (Nat.le_of_ble_eq_true rfl) (Nat.lt_succ_self _) ?_
      refine s_isNear (by omega) (by omega) (by omega) (by omega) (by omega) ?_
      refine ⟨_, rfl, ?_⟩
      refine Go_if_eqb (tgt := 100) (pc' := 97) dX10_waysToCouple_94 (by decide) rfl (fun c94 => ?_) (fun c94 => ?_)
      · refine Go_iinc (pc' := 103) (v := iZ 3) (lv' := [.ref _, .int _, .int _, .int _, .int _, .int _, .int _, .int _, .int _, .int _]) dX10_waysToCouple_100 rfl rfl (by decide) (Nat.le_of_ble_eq_true rfl) rfl rfl ?_
        refine Go_goto (tgt := 6) dX10_waysToCouple_103 (by decide) ?_
        rw [if_neg (show ¬ (nearS ((vi h 82 2).toInt - (vi h 82 0).toInt) ((S - P) * Az) ((vi h 82 3).toInt - (vi h 82 1).toInt) ((S - P) * Bz) Cz) from fun z => z.elim c81 c94)] at hk
        exact st3 _ _ _ _ _ hk
      · refine Go_iincZ (pc' := 100) (lv' := [.ref _, .int _, .int _, .int _, .int _, .int _, .int _, .int _, .int _, .int _]) dX10_waysToCouple_97 rfl rfl (Nat.le_of_ble_eq_true rfl) rfl rfl ?_
        refine Go_iinc (pc' := 103) (v := iZ 3) (lv' := [.ref _, .int _, .int _, .int _, .int _, .int _, .int _, .int _, .int _, .int _]) dX10_waysToCouple_100 rfl rfl (by decide) (Nat.le_of_ble_eq_true rfl) rfl rfl ?_
        refine Go_goto (tgt := 6) dX10_waysToCouple_103 (by decide) ?_
        rw [if_pos (show nearS ((vi h 82 2).toInt - (vi h 82 0).toInt) ((S - P) * Az) ((vi h 82 3).toInt - (vi h 82 1).toInt) ((S - P) * Bz) Cz from by first | exact Or.inl c81 | exact Or.inr c94)] at hk
        exact st3 _ _ _ _ _ hk
  refine Go_iconst (v := iZ 0) (pc' := 1) dX10_waysToCouple_0 rfl (by decide) ?_
  refine Go_istore (pc' := 3) (lv' := [.ref _, .int _, .int _, .int _, .int _, un, un, un, un, un]) dX10_waysToCouple_1 rfl (Nat.le_of_ble_eq_true rfl) rfl rfl ?_
  refine Go_iconst (v := iZ 1) (pc' := 4) dX10_waysToCouple_3 rfl (by decide) ?_
  refine Go_istore (pc' := 6) (lv' := [.ref _, .int _, .int _, .int _, .int _, .int _, un, un, un, un]) dX10_waysToCouple_4 rfl (Nat.le_of_ble_eq_true rfl) rfl rfl ?_
  refine Go_iload (pc' := 8) dX10_waysToCouple_6 rfl rfl ?_
  refine Go_iconst (v := iZ 3) (pc' := 9) dX10_waysToCouple_8 rfl (by decide) ?_
  refine Go_icmp_gtY (tgt := 106) (pc' := 12) dX10_waysToCouple_9 (by decide) rfl (by first | exact ⟨i_lo _, i_hi _⟩ | omega) (by first | exact ⟨i_lo _, i_hi _⟩ | omega) (fun c9 => by exfalso; omega) (fun c9 => ?_)
  refine Go_iload (pc' := 14) dX10_waysToCouple_12 rfl rfl ?_
  refine Go_iconst (v := iZ 1) (pc' := 15) dX10_waysToCouple_14 rfl (by decide) ?_
  refine Go_icmp_neY (tgt := 22) (pc' := 18) dX10_waysToCouple_15 (by decide) rfl (by first | exact ⟨i_lo _, i_hi _⟩ | omega) (by first | exact ⟨i_lo _, i_hi _⟩ | omega) (fun c15 => by exfalso; omega) (fun c15 => ?_)
  refine Go_iconst (v := iZ 2) (pc' := 19) dX10_waysToCouple_18 rfl (by decide) ?_
  refine Go_goto (tgt := 23) dX10_waysToCouple_19 (by decide) ?_
  refine Go_istore (pc' := 25) (lv' := [.ref _, .int _, .int _, .int _, .int _, .int _, .int _, un, un, un]) dX10_waysToCouple_23 rfl (Nat.le_of_ble_eq_true rfl) rfl rfl ?_
  refine Go_iload (pc' := 27) dX10_waysToCouple_25 rfl rfl ?_
  refine Go_iconst (v := iZ 3) (pc' := 28) dX10_waysToCouple_27 rfl (by decide) ?_
  refine Go_icmp_neY (tgt := 35) (pc' := 31) dX10_waysToCouple_28 (by decide) rfl (by first | exact ⟨i_lo _, i_hi _⟩ | omega) (by first | exact ⟨i_lo _, i_hi _⟩ | omega) (fun c28 => ?_) (fun c28 => by exfalso; omega)
  refine Go_iconst (v := iZ 3) (pc' := 36) dX10_waysToCouple_35 rfl (by decide) ?_
  refine Go_istore (pc' := 38) (lv' := [.ref _, .int _, .int _, .int _, .int _, .int _, .int _, .int _, un, un]) dX10_waysToCouple_36 rfl (Nat.le_of_ble_eq_true rfl) rfl rfl ?_
  refine Go_aload_n (pc' := 39) dX10_waysToCouple_38 rfl rfl rfl ?_
  refine Go_getRs (pc' := 42) dX10_waysToCouple_39 rfl kf_RX10_9 (by decide) (by decide) rfl (Sh.b 81 rfl rfl) (Sh.o 81 rfl rfl rfl) (Sh.r 81 0 rfl rfl rfl) ?_
  refine Go_iload (pc' := 44) dX10_waysToCouple_42 rfl rfl ?_
  refine Go_ialoadZ (n := 8) (k := 1) (v := (iZ (vi h 82 1).toInt)) (pc' := 45) dX10_waysToCouple_44 rfl (Sh.b 82 rfl rfl) (Sh.k 82 rfl rfl rfl) rfl (by decide) (by decide) (vi_eta _ _ _) ?_
  refine Go_aload_n (pc' := 46) dX10_waysToCouple_45 rfl rfl rfl ?_
  refine Go_getRs (pc' := 49) dX10_waysToCouple_46 rfl kf_RX10_9 (by decide) (by decide) rfl (Sh.b 81 rfl rfl) (Sh.o 81 rfl rfl rfl) (Sh.r 81 0 rfl rfl rfl) ?_
  refine Go_iconst (v := iZ 0) (pc' := 50) dX10_waysToCouple_49 rfl (by decide) ?_
  refine Go_ialoadZ (n := 8) (k := 0) (v := (iZ (vi h 82 0).toInt)) (pc' := 51) dX10_waysToCouple_50 rfl (Sh.b 82 rfl rfl) (Sh.k 82 rfl rfl rfl) rfl (by decide) (by decide) (vi_eta _ _ _) ?_
  refine Go_isubZ (pc' := 52) dX10_waysToCouple_51 rfl ?_
  refine Go_istore (pc' := 54) (lv' := [.ref _, .int _, .int _, .int _, .int _, .int _, .int _, .int _, .int _, un]) dX10_waysToCouple_52 rfl (Nat.le_of_ble_eq_true rfl) rfl rfl ?_
  refine Go_aload_n (pc' := 55) dX10_waysToCouple_54 rfl rfl rfl ?_
  refine Go_getRs (pc' := 58) dX10_waysToCouple_55 rfl kf_RX10_9 (by decide) (by decide) rfl (Sh.b 81 rfl rfl) (Sh.o 81 rfl rfl rfl) (Sh.r 81 0 rfl rfl rfl) ?_
  refine Go_iload (pc' := 60) dX10_waysToCouple_58 rfl rfl ?_
  refine Go_ialoadZ (n := 8) (k := 3) (v := (iZ (vi h 82 3).toInt)) (pc' := 61) dX10_waysToCouple_60 rfl (Sh.b 82 rfl rfl) (Sh.k 82 rfl rfl rfl) rfl (by decide) (by decide) (vi_eta _ _ _) ?_
  refine Go_aload_n (pc' := 62) dX10_waysToCouple_61 rfl rfl rfl ?_
  refine Go_getRs (pc' := 65) dX10_waysToCouple_62 rfl kf_RX10_9 (by decide) (by decide) rfl (Sh.b 81 rfl rfl) (Sh.o 81 rfl rfl rfl) (Sh.r 81 0 rfl rfl rfl) ?_
  refine Go_iload (pc' := 67) dX10_waysToCouple_65 rfl rfl ?_
  refine Go_ialoadZ (n := 8) (k := 2) (v := (iZ (vi h 82 2).toInt)) (pc' := 68) dX10_waysToCouple_67 rfl (Sh.b 82 rfl rfl) (Sh.k 82 rfl rfl rfl) rfl (by decide) (by decide) (vi_eta _ _ _) ?_
  refine Go_isubZ (pc' := 69) dX10_waysToCouple_68 rfl ?_
  refine Go_istore (pc' := 71) (lv' := [.ref _, .int _, .int _, .int _, .int _, .int _, .int _, .int _, .int _, .int _]) dX10_waysToCouple_69 rfl (Nat.le_of_ble_eq_true rfl) rfl rfl ?_
  refine Go_iload (pc' := 73) dX10_waysToCouple_71 rfl rfl ?_
  refine Go_iload_n (pc' := 74) dX10_waysToCouple_73 rfl rfl rfl ?_
  refine Go_iload (pc' := 76) dX10_waysToCouple_74 rfl rfl ?_
  refine Go_iload_n (pc' := 77) dX10_waysToCouple_76 rfl rfl rfl ?_
  refine Go_iload_n (pc' := 78) dX10_waysToCouple_77 rfl rfl rfl ?_
  refine Go_callS_i (pc' := 81) (As := [.int _, .int _, .int _, .int _, .int _]) (st := []) dX10_waysToCouple_78 rfl ok_X10_isNear km_RX10_28 rfl (Nat.le_of_ble_eq_true rfl) rfl rfl rfl (Nat.le_of_ble_eq_true rfl) (Nat.lt_succ_self _) ?_
  refine s_isNear (by omega) (by omega) (by omega) (by omega) (by omega) ?_
  refine ⟨_, rfl, ?_⟩
  refine Go_if_neb (tgt := 97) (pc' := 84) dX10_waysToCouple_81 (by decide) rfl (fun c81 => ?_) (fun c81 => ?_)
  · refine Go_iinc (pc' := 100) (v := iZ 1) (lv' := [.ref _, .int _, .int _, .int _, .int _, .int _, .int _, .int _, .int _, .int _]) dX10_waysToCouple_97 rfl rfl (by decide) (Nat.le_of_ble_eq_true rfl) rfl rfl ?_
    refine Go_iinc (pc' := 103) (v := iZ 2) (lv' := [.ref _, .int _, .int _, .int _, .int _, .int _, .int _, .int _, .int _, .int _]) dX10_waysToCouple_100 rfl rfl (by decide) (Nat.le_of_ble_eq_true rfl) rfl rfl ?_
    refine Go_goto (tgt := 6) dX10_waysToCouple_103 (by decide) ?_
    rw [if_pos (show nearS ((vi h 82 1).toInt - (vi h 82 0).toInt) ((S - P) * Az) ((vi h 82 3).toInt - (vi h 82 2).toInt) ((S - P) * Bz) Cz from by first | exact Or.inl c81 | exact Or.inr c94)] at hk
    exact st2 _ _ _ _ _ hk
  · refine Go_iload (pc' := 86) dX10_waysToCouple_84 rfl rfl ?_
    refine Go_iload_n (pc' := 87) dX10_waysToCouple_86 rfl rfl rfl ?_
    refine Go_iload (pc' := 89) dX10_waysToCouple_87 rfl rfl ?_
    refine Go_iload_n (pc' := 90) dX10_waysToCouple_89 rfl rfl rfl ?_
    refine Go_iload_n (pc' := 91) dX10_waysToCouple_90 rfl rfl rfl ?_
    refine Go_callS_i (pc' := 94) (As := [.int _, .int _, .int _, .int _, .int _]) (st := []) dX10_waysToCouple_91 rfl ok_X10_isNear km_RX10_28 rfl (Nat.le_of_ble_eq_true rfl) rfl rfl rfl (Nat.le_of_ble_eq_true rfl) (Nat.lt_succ_self _) ?_
    refine s_isNear (by omega) (by omega) (by omega) (by omega) (by omega) ?_
    refine ⟨_, rfl, ?_⟩
    refine Go_if_eqb (tgt := 100) (pc' := 97) dX10_waysToCouple_94 (by decide) rfl (fun c94 => ?_) (fun c94 => ?_)
    · refine Go_iinc (pc' := 103) (v := iZ 2) (lv' := [.ref _, .int _, .int _, .int _, .int _, .int _, .int _, .int _, .int _, .int _]) dX10_waysToCouple_100 rfl rfl (by decide) (Nat.le_of_ble_eq_true rfl) rfl rfl ?_
      refine Go_goto (tgt := 6) dX10_waysToCouple_103 (by decide) ?_
      rw [if_neg (show ¬ (nearS ((vi h 82 1).toInt - (vi h 82 0).toInt) ((S - P) * Az) ((vi h 82 3).toInt - (vi h 82 2).toInt) ((S - P) * Bz) Cz) from fun z => z.elim c81 c94)] at hk
      exact st2 _ _ _ _ _ hk
    · refine Go_iinc (pc' := 100) (v := iZ 1) (lv' := [.ref _, .int _, .int _, .int _, .int _, .int _, .int _, .int _, .int _, .int _]) dX10_waysToCouple_97 rfl rfl (by decide) (Nat.le_of_ble_eq_true rfl) rfl rfl ?_
      refine Go_iinc (pc' := 103) (v := iZ 2) (lv' := [.ref _, .int _, .int _, .int _, .int _, .int _, .int _, .int _, .int _, .int _]) dX10_waysToCouple_100 rfl rfl (by decide) (Nat.le_of_ble_eq_true rfl) rfl rfl ?_
      refine Go_goto (tgt := 6) dX10_waysToCouple_103 (by decide) ?_
      rw [if_pos (show nearS ((vi h 82 1).toInt - (vi h 82 0).toInt) ((S - P) * Az) ((vi h 82 3).toInt - (vi h 82 2).toInt) ((S - P) * Bz) Cz from by first | exact Or.inl c81 | exact Or.inr c94)] at hk
      exact st2 _ _ _ _ _ hk
set_option maxRecDepth 20000 in
set_option maxHeartbeats 1000000 in
theorem pair34 {G : GC} (a b c : Int32) : PairI G M_X11_couples M_X12_couples [.int a, .int b, .int c] := by
  intro h I
  obtain ⟨Az, hva, rfl⟩ := i_eta a
  obtain ⟨Bz, hvb, rfl⟩ := i_eta b
  obtain ⟨Cz, hvc, rfl⟩ := i_eta c
  obtain ⟨n, hn, en⟩ := of_rgZ (b := 8) I.P.2.1
  have en2 : vi h 99 51 = iZ (n : Int) := I.P.1.symm.trans en
  obtain ⟨P, hP, eP⟩ := rgE I.W.2.2.1
  obtain ⟨S, hS, eS⟩ := rgE I.W.2.2.2.1
  have hPS : P < S := by have z := I.W.2.2.2.2; rwa [eP, eS, iZ_t (by omega), iZ_t (by omega)] at z
  have eP2 : vi h 99 39 = iZ P := I.W.1.symm.trans eP
  have eS2 : vi h 99 40 = iZ S := I.W.2.1.symm.trans eS
  by_cases hc : (0 ≤ Az ∧ Az ≤ 55) ∧ (0 ≤ Bz ∧ Bz ≤ 55) ∧ (0 ≤ Cz ∧ Cz ≤ 999) ∧ n = 4
  · obtain ⟨c1, c2, c3, c4⟩ := hc
    have en4 : (vi h 81 1).toInt = 4 := by rw [en, iZ_t (by omega)]; omega
    have w1 : 0 ≤ (S - P) * Az ∧ (S - P) * Az ≤ 98 * 55 := ⟨Int.mul_nonneg (by omega) (by omega), Int.mul_le_mul (by omega) (by omega) (by omega) (by omega)⟩
    have w2 : 0 ≤ (S - P) * Bz ∧ (S - P) * Bz ≤ 98 * 55 := ⟨Int.mul_nonneg (by omega) (by omega), Int.mul_le_mul (by omega) (by omega) (by omega) (by omega)⟩
    obtain ⟨q0, t0⟩ := I.P.2.2.1 0 (by omega)
    unfold rg at t0
    obtain ⟨q1, t1⟩ := I.P.2.2.1 1 (by omega)
    unfold rg at t1
    obtain ⟨q2, t2⟩ := I.P.2.2.1 2 (by omega)
    unfold rg at t2
    obtain ⟨q3, t3⟩ := I.P.2.2.1 3 (by omega)
    unfold rg at t3
    refine PairI.ro' (fun _ => iZ (if nearS ((vi h 82 3).toInt - (vi h 82 0).toInt) ((S - P) * Az) ((vi h 82 2).toInt - (vi h 82 1).toInt) ((S - P) * Bz) Cz then (if nearS ((vi h 82 2).toInt - (vi h 82 0).toInt) ((S - P) * Az) ((vi h 82 3).toInt - (vi h 82 1).toInt) ((S - P) * Bz) Cz then (if nearS ((vi h 82 1).toInt - (vi h 82 0).toInt) ((S - P) * Az) ((vi h 82 3).toInt - (vi h 82 2).toInt) ((S - P) * Bz) Cz then 0 + 1 else 0) + 1 else (if nearS ((vi h 82 1).toInt - (vi h 82 0).toInt) ((S - P) * Az) ((vi h 82 3).toInt - (vi h 82 2).toInt) ((S - P) * Bz) Cz then 0 + 1 else 0)) + 1 else (if nearS ((vi h 82 2).toInt - (vi h 82 0).toInt) ((S - P) * Az) ((vi h 82 3).toInt - (vi h 82 1).toInt) ((S - P) * Bz) Cz then (if nearS ((vi h 82 1).toInt - (vi h 82 0).toInt) ((S - P) * Az) ((vi h 82 3).toInt - (vi h 82 2).toInt) ((S - P) * Bz) Cz then 0 + 1 else 0) + 1 else (if nearS ((vi h 82 1).toInt - (vi h 82 0).toInt) ((S - P) * Az) ((vi h 82 3).toInt - (vi h 82 2).toInt) ((S - P) * Bz) Cz then 0 + 1 else 0)))) h I (fun K k => ?_) (fun K k => ?_)
    · show Go G 60 0 0 M_X11_couples 0 [.ref 64, .int (iZ Az), .int (iZ Bz), .int (iZ Cz), un] [] h K
      refine Go_iload_n (pc' := 1) dX11_couples_0 rfl rfl rfl ?_
      refine Go_iconst (v := iZ 0) (pc' := 2) dX11_couples_1 rfl (by decide) ?_
      refine Go_bipush (v := iZ 55) (pc' := 4) dX11_couples_2 rfl (by decide) ?_
      refine Go_callS_i (pc' := 7) (As := [.int _, .int _, .int _]) (st := []) dX11_couples_4 rfl ok_X11_within km_RX11_94 rfl (Nat.le_of_ble_eq_true rfl) rfl rfl rfl (Nat.le_of_ble_eq_true rfl) (Nat.lt_succ_self _) ?_
      refine s_withinY (by first | exact ⟨i_lo _, i_hi _⟩ | omega) (by first | exact ⟨i_lo _, i_hi _⟩ | omega) (by first | exact ⟨i_lo _, i_hi _⟩ | omega) ?_
      refine ⟨_, rfl, ?_⟩
      refine Go_if_eqb (tgt := 42) (pc' := 10) dX11_couples_7 (by decide) rfl (fun c7 => by exfalso; omega) (fun c7 => ?_)
      refine Go_iload_n (pc' := 11) dX11_couples_10 rfl rfl rfl ?_
      refine Go_iconst (v := iZ 0) (pc' := 12) dX11_couples_11 rfl (by decide) ?_
      refine Go_bipush (v := iZ 55) (pc' := 14) dX11_couples_12 rfl (by decide) ?_
      refine Go_callS_i (pc' := 17) (As := [.int _, .int _, .int _]) (st := []) dX11_couples_14 rfl ok_X11_within km_RX11_94 rfl (Nat.le_of_ble_eq_true rfl) rfl rfl rfl (Nat.le_of_ble_eq_true rfl) (Nat.lt_succ_self _) ?_
      refine s_withinY (by first | exact ⟨i_lo _, i_hi _⟩ | omega) (by first | exact ⟨i_lo _, i_hi _⟩ | omega) (by first | exact ⟨i_lo _, i_hi _⟩ | omega) ?_
      refine ⟨_, rfl, ?_⟩
      refine Go_if_eqb (tgt := 42) (pc' := 20) dX11_couples_17 (by decide) rfl (fun c17 => by exfalso; omega) (fun c17 => ?_)
      refine Go_iload_n (pc' := 21) dX11_couples_20 rfl rfl rfl ?_
      refine Go_iconst (v := iZ 0) (pc' := 22) dX11_couples_21 rfl (by decide) ?_
      refine Go_sipush (v := iZ 999) (pc' := 25) dX11_couples_22 rfl (by decide) ?_
      refine Go_callS_i (pc' := 28) (As := [.int _, .int _, .int _]) (st := []) dX11_couples_25 rfl ok_X11_within km_RX11_94 rfl (Nat.le_of_ble_eq_true rfl) rfl rfl rfl (Nat.le_of_ble_eq_true rfl) (Nat.lt_succ_self _) ?_
      refine s_withinY (by first | exact ⟨i_lo _, i_hi _⟩ | omega) (by first | exact ⟨i_lo _, i_hi _⟩ | omega) (by first | exact ⟨i_lo _, i_hi _⟩ | omega) ?_
      refine ⟨_, rfl, ?_⟩
      refine Go_if_eqb (tgt := 42) (pc' := 31) dX11_couples_28 (by decide) rfl (fun c28 => by exfalso; omega) (fun c28 => ?_)
      refine Go_aload_n (pc' := 32) dX11_couples_31 rfl rfl rfl ?_
      refine Go_getRs (pc' := 35) dX11_couples_32 rfl kf_RX11_59 (by decide) (by decide) rfl (I.S.b 64 rfl rfl) (I.S.o 64 rfl rfl rfl) (I.S.r 64 10 rfl rfl rfl) ?_
      refine Go_getIv (v := (iZ (n : Int))) (pc' := 38) dX11_couples_35 rfl kf_RX11_312 (by decide) (by decide) rfl (I.S.b 81 rfl rfl) (I.S.o 81 rfl rfl rfl) (en) ?_
      refine Go_iconst (v := iZ 4) (pc' := 39) dX11_couples_38 rfl (by decide) ?_
      refine Go_icmp_eqY (tgt := 44) (pc' := 42) dX11_couples_39 (by decide) rfl (by first | exact ⟨i_lo _, i_hi _⟩ | omega) (by first | exact ⟨i_lo _, i_hi _⟩ | omega) (fun c39 => ?_) (fun c39 => by exfalso; omega)
      refine Go_aload_n (pc' := 45) dX11_couples_44 rfl rfl rfl ?_
      refine Go_getIv (v := (iZ S)) (pc' := 48) dX11_couples_45 rfl kf_RX11_53 (by decide) (by decide) rfl (I.S.b 64 rfl rfl) (I.S.o 64 rfl rfl rfl) (eS) ?_
      refine Go_aload_n (pc' := 49) dX11_couples_48 rfl rfl rfl ?_
      refine Go_getIv (v := (iZ P)) (pc' := 52) dX11_couples_49 rfl kf_RX11_49 (by decide) (by decide) rfl (I.S.b 64 rfl rfl) (I.S.o 64 rfl rfl rfl) (eP) ?_
      refine Go_isubZ (pc' := 53) dX11_couples_52 rfl ?_
      refine Go_istore (pc' := 55) (lv' := [.ref _, .int _, .int _, .int _, .int _]) dX11_couples_53 rfl (Nat.le_of_ble_eq_true rfl) rfl rfl ?_
      refine Go_aload_n (pc' := 56) dX11_couples_55 rfl rfl rfl ?_
      refine Go_getRs (pc' := 59) dX11_couples_56 rfl kf_RX11_59 (by decide) (by decide) rfl (I.S.b 64 rfl rfl) (I.S.o 64 rfl rfl rfl) (I.S.r 64 10 rfl rfl rfl) ?_
      refine Go_iload (pc' := 61) dX11_couples_59 rfl rfl ?_
      refine Go_iload_n (pc' := 62) dX11_couples_61 rfl rfl rfl ?_
      refine Go_imulZ (pc' := 63) dX11_couples_62 rfl ?_
      refine Go_iload (pc' := 65) dX11_couples_63 rfl rfl ?_
      refine Go_iload_n (pc' := 66) dX11_couples_65 rfl rfl rfl ?_
      refine Go_imulZ (pc' := 67) dX11_couples_66 rfl ?_
      refine Go_iload_n (pc' := 68) dX11_couples_67 rfl rfl rfl ?_
      refine Go_callV_i (pc' := 71) (As := [.int _, .int _, .int _]) (st := []) dX11_couples_68 rfl ok_X10_waysToCouple km_RX11_321 (I.S.o 81 rfl rfl rfl) (I.S.b 81 rfl rfl) ⟨_, _, rfl⟩ rfl (Nat.le_of_ble_eq_true rfl) rfl rfl rfl (Nat.le_of_ble_eq_true rfl) (Nat.lt_succ_self _) ?_
      refine s_wtc I.S w1 w2 c3 t0 t1 t2 t3 ?_
      refine ⟨_, rfl, ?_⟩
      refine Go_ireturn (ty := .int) dX11_couples_71 rfl rfl ?_
      exact k
    · have hk := k
      have st4 : ∀ (N : Int) (x6 x7 x8 x9 : Int32), K (some (.int (iZ N))) h → Go G 60 0 0 M_X12_couples 47 [.ref 99, .int (iZ Az), .int (iZ Bz), .int (iZ Cz), .int (iZ N), .int (iZ 4), .int x6, .int x7, .int x8, .int x9] [] h K := by
        intro N x6 x7 x8 x9 hk
        refine Go_iload (pc' := 49) dX12_couples_47 rfl rfl ?_
        refine Go_iconst (v := iZ 4) (pc' := 50) dX12_couples_49 rfl (by decide) ?_
        refine Go_icmp_geY (tgt := 169) (pc' := 53) dX12_couples_50 (by decide) rfl (by first | exact ⟨i_lo _, i_hi _⟩ | omega) (by first | exact ⟨i_lo _, i_hi _⟩ | omega) (fun c50 => ?_) (fun c50 => by exfalso; omega)
        refine Go_iload (pc' := 171) dX12_couples_169 rfl rfl ?_
        refine Go_ireturn (ty := .int) dX12_couples_171 rfl rfl ?_
        exact hk
      have st3 : ∀ (N : Int) (x6 x7 x8 x9 : Int32), K (some (.int (iZ (if nearS ((vi h 82 3).toInt - (vi h 82 0).toInt) ((S - P) * Az) ((vi h 82 2).toInt - (vi h 82 1).toInt) ((S - P) * Bz) Cz then N + 1 else N)))) h → Go G 60 0 0 M_X12_couples 47 [.ref 99, .int (iZ Az), .int (iZ Bz), .int (iZ Cz), .int (iZ N), .int (iZ 3), .int x6, .int x7, .int x8, .int x9] [] h K := by
        intro N x6 x7 x8 x9 hk
        refine Go_iload (pc' := 49) dX12_couples_47 rfl rfl ?_
        refine Go_iconst (v := iZ 4) (pc' := 50) dX12_couples_49 rfl (by decide) ?_
        refine Go_icmp_geY (tgt := 169) (pc' := 53) dX12_couples_50 (by decide) rfl (by first | exact ⟨i_lo _, i_hi _⟩ | omega) (by first | exact ⟨i_lo _, i_hi _⟩ | omega) (fun c50 => by exfalso; omega) (fun c50 => ?_)
        refine Go_iload (pc' := 55) dX12_couples_53 rfl rfl ?_
        refine Go_iconst (v := iZ 1) (pc' := 56) dX12_couples_55 rfl (by decide) ?_
        refine Go_icmp_neY (tgt := 63) (pc' := 59) dX12_couples_56 (by decide) rfl (by first | exact ⟨i_lo _, i_hi _⟩ | omega) (by first | exact ⟨i_lo _, i_hi _⟩ | omega) (fun c56 => ?_) (fun c56 => by exfalso; omega)
        refine Go_iconst (v := iZ 1) (pc' := 64) dX12_couples_63 rfl (by decide) ?_
        refine Go_istore (pc' := 66) (lv' := [.ref _, .int _, .int _, .int _, .int _, .int _, .int _, .int _, .int _, .int _]) dX12_couples_64 rfl (Nat.le_of_ble_eq_true rfl) rfl rfl ?_
        refine Go_bipush (v := iZ 6) (pc' := 68) dX12_couples_66 rfl (by decide) ?_
        refine Go_iload (pc' := 70) dX12_couples_68 rfl rfl ?_
        refine Go_isub (pc' := 71) dX12_couples_70 rfl ?_
        rw [show (iZ 6 - iZ 3 : Int32) = iZ 3 from by decide]
        refine Go_iload (pc' := 73) dX12_couples_71 rfl rfl ?_
        refine Go_isub (pc' := 74) dX12_couples_73 rfl ?_
        rw [show (iZ 3 - iZ 1 : Int32) = iZ 2 from by decide]
        refine Go_istore (pc' := 76) (lv' := [.ref _, .int _, .int _, .int _, .int _, .int _, .int _, .int _, .int _, .int _]) dX12_couples_74 rfl (Nat.le_of_ble_eq_true rfl) rfl rfl ?_
        refine Go_aload_n (pc' := 77) dX12_couples_76 rfl rfl rfl ?_
        refine Go_getRs (pc' := 80) dX12_couples_77 rfl kf_RX12_120 (by decide) (by decide) rfl (I.S.b 99 rfl rfl) (I.S.o 99 rfl rfl rfl) (I.S.r 99 50 rfl rfl rfl) ?_
        refine Go_iload (pc' := 82) dX12_couples_80 rfl rfl ?_
        refine Go_ialoadZ (n := 8) (k := 3) (v := (iZ (vi h 82 3).toInt)) (pc' := 83) dX12_couples_82 rfl (I.S.b 133 rfl rfl) (I.S.k 133 rfl rfl rfl) rfl (by decide) (by decide) (q3.symm.trans (vi_eta _ _ _)) ?_
        refine Go_aload_n (pc' := 84) dX12_couples_83 rfl rfl rfl ?_
        refine Go_getRs (pc' := 87) dX12_couples_84 rfl kf_RX12_120 (by decide) (by decide) rfl (I.S.b 99 rfl rfl) (I.S.o 99 rfl rfl rfl) (I.S.r 99 50 rfl rfl rfl) ?_
        refine Go_iconst (v := iZ 0) (pc' := 88) dX12_couples_87 rfl (by decide) ?_
        refine Go_ialoadZ (n := 8) (k := 0) (v := (iZ (vi h 82 0).toInt)) (pc' := 89) dX12_couples_88 rfl (I.S.b 133 rfl rfl) (I.S.k 133 rfl rfl rfl) rfl (by decide) (by decide) (q0.symm.trans (vi_eta _ _ _)) ?_
        refine Go_isubZ (pc' := 90) dX12_couples_89 rfl ?_
        refine Go_istore (pc' := 92) (lv' := [.ref _, .int _, .int _, .int _, .int _, .int _, .int _, .int _, .int _, .int _]) dX12_couples_90 rfl (Nat.le_of_ble_eq_true rfl) rfl rfl ?_
        refine Go_aload_n (pc' := 93) dX12_couples_92 rfl rfl rfl ?_
        refine Go_getRs (pc' := 96) dX12_couples_93 rfl kf_RX12_120 (by decide) (by decide) rfl (I.S.b 99 rfl rfl) (I.S.o 99 rfl rfl rfl) (I.S.r 99 50 rfl rfl rfl) ?_
        refine Go_iload (pc' := 98) dX12_couples_96 rfl rfl ?_
        refine Go_ialoadZ (n := 8) (k := 2) (v := (iZ (vi h 82 2).toInt)) (pc' := 99) dX12_couples_98 rfl (I.S.b 133 rfl rfl) (I.S.k 133 rfl rfl rfl) rfl (by decide) (by decide) (q2.symm.trans (vi_eta _ _ _)) ?_
        refine Go_aload_n (pc' := 100) dX12_couples_99 rfl rfl rfl ?_
        refine Go_getRs (pc' := 103) dX12_couples_100 rfl kf_RX12_120 (by decide) (by decide) rfl (I.S.b 99 rfl rfl) (I.S.o 99 rfl rfl rfl) (I.S.r 99 50 rfl rfl rfl) ?_
        refine Go_iload (pc' := 105) dX12_couples_103 rfl rfl ?_
        refine Go_ialoadZ (n := 8) (k := 1) (v := (iZ (vi h 82 1).toInt)) (pc' := 106) dX12_couples_105 rfl (I.S.b 133 rfl rfl) (I.S.k 133 rfl rfl rfl) rfl (by decide) (by decide) (q1.symm.trans (vi_eta _ _ _)) ?_
        refine Go_isubZ (pc' := 107) dX12_couples_106 rfl ?_
        refine Go_istore (pc' := 109) (lv' := [.ref _, .int _, .int _, .int _, .int _, .int _, .int _, .int _, .int _, .int _]) dX12_couples_107 rfl (Nat.le_of_ble_eq_true rfl) rfl rfl ?_
        refine Go_iload (pc' := 111) dX12_couples_109 rfl rfl ?_
        refine Go_aload_n (pc' := 112) dX12_couples_111 rfl rfl rfl ?_
        refine Go_iload (pc' := 114) dX12_couples_112 rfl rfl ?_
        refine Go_iload_n (pc' := 115) dX12_couples_114 rfl rfl rfl ?_
        refine Go_iload_n (pc' := 116) dX12_couples_115 rfl rfl rfl ?_
        refine Go_callV_i (pc' := 119) (As := [.int _, .int _, .int _]) (st := [.int _]) dX12_couples_116 rfl ok_X12_isNear km_RX12_391 (I.S.o 99 rfl rfl rfl) (I.S.b 99 rfl rfl) ⟨_, _, rfl⟩ rfl (Nat.le_of_ble_eq_true rfl) rfl rfl rfl (Nat.le_of_ble_eq_true rfl) (Nat.lt_succ_self _) ?_
        refine s_isNearM I.S eP2 eS2 (by omega) (by omega) (by omega) ?_
        refine ⟨_, rfl, ?_⟩
        refine Go_if_eqb (tgt := 133) (pc' := 122) dX12_couples_119 (by decide) rfl (fun c119 => ?_) (fun c119 => ?_)
        · refine Go_aload_n (pc' := 134) dX12_couples_133 rfl rfl rfl ?_
          refine Go_iload (pc' := 136) dX12_couples_134 rfl rfl ?_
          refine Go_iload_n (pc' := 137) dX12_couples_136 rfl rfl rfl ?_
          refine Go_iload_n (pc' := 138) dX12_couples_137 rfl rfl rfl ?_
          refine Go_callV_i (pc' := 141) (As := [.int _, .int _, .int _]) (st := [.int _]) dX12_couples_138 rfl ok_X12_isNear km_RX12_391 (I.S.o 99 rfl rfl rfl) (I.S.b 99 rfl rfl) ⟨_, _, rfl⟩ rfl (Nat.le_of_ble_eq_true rfl) rfl rfl rfl (Nat.le_of_ble_eq_true rfl) (Nat.lt_succ_self _) ?_
          refine s_isNearM I.S eP2 eS2 (by omega) (by omega) (by omega) ?_
          refine ⟨_, rfl, ?_⟩
          refine Go_if_eqb (tgt := 159) (pc' := 144) dX12_couples_141 (by decide) rfl (fun c141 => ?_) (fun c141 => ?_)
          · refine Go_iconst (v := iZ 0) (pc' := 160) dX12_couples_159 rfl (by decide) ?_
            refine Go_iaddZ (pc' := 161) dX12_couples_160 rfl ?_
            refine Go_istore (pc' := 163) (lv' := [.ref _, .int _, .int _, .int _, .int _, .int _, .int _, .int _, .int _, .int _]) dX12_couples_161 rfl (Nat.le_of_ble_eq_true rfl) rfl rfl ?_
            refine Go_iinc (pc' := 166) (v := iZ 4) (lv' := [.ref _, .int _, .int _, .int _, .int _, .int _, .int _, .int _, .int _, .int _]) dX12_couples_163 rfl rfl (by decide) (Nat.le_of_ble_eq_true rfl) rfl rfl ?_
            refine Go_goto (tgt := 47) dX12_couples_166 (by decide) ?_
            rw [if_neg (show ¬ (nearS ((vi h 82 3).toInt - (vi h 82 0).toInt) ((S - P) * Az) ((vi h 82 2).toInt - (vi h 82 1).toInt) ((S - P) * Bz) Cz) from fun z => z.elim (fun z => c119 z.1) (fun z => c141 z.1))] at hk
            rw [Int.add_zero]
            exact st4 _ _ _ _ _ hk
          · refine Go_aload_n (pc' := 145) dX12_couples_144 rfl rfl rfl ?_
            refine Go_iload (pc' := 147) dX12_couples_145 rfl rfl ?_
            refine Go_iload_n (pc' := 148) dX12_couples_147 rfl rfl rfl ?_
            refine Go_iload_n (pc' := 149) dX12_couples_148 rfl rfl rfl ?_
            refine Go_callV_i (pc' := 152) (As := [.int _, .int _, .int _]) (st := [.int _]) dX12_couples_149 rfl ok_X12_isNear km_RX12_391 (I.S.o 99 rfl rfl rfl) (I.S.b 99 rfl rfl) ⟨_, _, rfl⟩ rfl (Nat.le_of_ble_eq_true rfl) rfl rfl rfl (Nat.le_of_ble_eq_true rfl) (Nat.lt_succ_self _) ?_
            refine s_isNearM I.S eP2 eS2 (by omega) (by omega) (by omega) ?_
            refine ⟨_, rfl, ?_⟩
            refine Go_if_eqb (tgt := 159) (pc' := 155) dX12_couples_152 (by decide) rfl (fun c152 => ?_) (fun c152 => ?_)
            · refine Go_iconst (v := iZ 0) (pc' := 160) dX12_couples_159 rfl (by decide) ?_
              refine Go_iaddZ (pc' := 161) dX12_couples_160 rfl ?_
              refine Go_istore (pc' := 163) (lv' := [.ref _, .int _, .int _, .int _, .int _, .int _, .int _, .int _, .int _, .int _]) dX12_couples_161 rfl (Nat.le_of_ble_eq_true rfl) rfl rfl ?_
              refine Go_iinc (pc' := 166) (v := iZ 4) (lv' := [.ref _, .int _, .int _, .int _, .int _, .int _, .int _, .int _, .int _, .int _]) dX12_couples_163 rfl rfl (by decide) (Nat.le_of_ble_eq_true rfl) rfl rfl ?_
              refine Go_goto (tgt := 47) dX12_couples_166 (by decide) ?_
              rw [if_neg (show ¬ (nearS ((vi h 82 3).toInt - (vi h 82 0).toInt) ((S - P) * Az) ((vi h 82 2).toInt - (vi h 82 1).toInt) ((S - P) * Bz) Cz) from fun z => z.elim (fun z => c119 z.1) (fun z => c152 z.2))] at hk
              rw [Int.add_zero]
              exact st4 _ _ _ _ _ hk
            · refine Go_iconst (v := iZ 1) (pc' := 156) dX12_couples_155 rfl (by decide) ?_
              refine Go_goto (tgt := 160) dX12_couples_156 (by decide) ?_
              refine Go_iaddZ (pc' := 161) dX12_couples_160 rfl ?_
              refine Go_istore (pc' := 163) (lv' := [.ref _, .int _, .int _, .int _, .int _, .int _, .int _, .int _, .int _, .int _]) dX12_couples_161 rfl (Nat.le_of_ble_eq_true rfl) rfl rfl ?_
              refine Go_iinc (pc' := 166) (v := iZ 4) (lv' := [.ref _, .int _, .int _, .int _, .int _, .int _, .int _, .int _, .int _, .int _]) dX12_couples_163 rfl rfl (by decide) (Nat.le_of_ble_eq_true rfl) rfl rfl ?_
              refine Go_goto (tgt := 47) dX12_couples_166 (by decide) ?_
              rw [if_pos (show nearS ((vi h 82 3).toInt - (vi h 82 0).toInt) ((S - P) * Az) ((vi h 82 2).toInt - (vi h 82 1).toInt) ((S - P) * Bz) Cz from by first | exact Or.inl ⟨c119, c130⟩ | exact Or.inr ⟨c141, c152⟩)] at hk
              exact st4 _ _ _ _ _ hk
        · refine Go_aload_n (pc' := 123) dX12_couples_122 rfl rfl rfl ?_
          refine Go_iload (pc' := 125) dX12_couples_123 rfl rfl ?_
          refine Go_iload_n (pc' := 126) dX12_couples_125 rfl rfl rfl ?_
          refine Go_iload_n (pc' := 127) dX12_couples_126 rfl rfl rfl ?_
          refine Go_callV_i (pc' := 130) (As := [.int _, .int _, .int _]) (st := [.int _]) dX12_couples_127 rfl ok_X12_isNear km_RX12_391 (I.S.o 99 rfl rfl rfl) (I.S.b 99 rfl rfl) ⟨_, _, rfl⟩ rfl (Nat.le_of_ble_eq_true rfl) rfl rfl rfl (Nat.le_of_ble_eq_true rfl) (Nat.lt_succ_self _) ?_
          refine s_isNearM I.S eP2 eS2 (by omega) (by omega) (by omega) ?_
          refine ⟨_, rfl, ?_⟩
          refine Go_if_neb (tgt := 155) (pc' := 133) dX12_couples_130 (by decide) rfl (fun c130 => ?_) (fun c130 => ?_)
          · refine Go_iconst (v := iZ 1) (pc' := 156) dX12_couples_155 rfl (by decide) ?_
            refine Go_goto (tgt := 160) dX12_couples_156 (by decide) ?_
            refine Go_iaddZ (pc' := 161) dX12_couples_160 rfl ?_
            refine Go_istore (pc' := 163) (lv' := [.ref _, .int _, .int _, .int _, .int _, .int _, .int _, .int _, .int _, .int _]) dX12_couples_161 rfl (Nat.le_of_ble_eq_true rfl) rfl rfl ?_
            refine Go_iinc (pc' := 166) (v := iZ 4) (lv' := [.ref _, .int _, .int _, .int _, .int _, .int _, .int _, .int _, .int _, .int _]) dX12_couples_163 rfl rfl (by decide) (Nat.le_of_ble_eq_true rfl) rfl rfl ?_
            refine Go_goto (tgt := 47) dX12_couples_166 (by decide) ?_
            rw [if_pos (show nearS ((vi h 82 3).toInt - (vi h 82 0).toInt) ((S - P) * Az) ((vi h 82 2).toInt - (vi h 82 1).toInt) ((S - P) * Bz) Cz from by first | exact Or.inl ⟨c119, c130⟩ | exact Or.inr ⟨c141, c152⟩)] at hk
            exact st4 _ _ _ _ _ hk
          · refine Go_aload_n (pc' := 134) dX12_couples_133 rfl rfl rfl ?_
            refine Go_iload (pc' := 136) dX12_couples_134 rfl rfl ?_
            refine Go_iload_n (pc' := 137) dX12_couples_136 rfl rfl rfl ?_
            refine Go_iload_n (pc' := 138) dX12_couples_137 rfl rfl rfl ?_
            refine Go_callV_i (pc' := 141) (As := [.int _, .int _, .int _]) (st := [.int _]) dX12_couples_138 rfl ok_X12_isNear km_RX12_391 (I.S.o 99 rfl rfl rfl) (I.S.b 99 rfl rfl) ⟨_, _, rfl⟩ rfl (Nat.le_of_ble_eq_true rfl) rfl rfl rfl (Nat.le_of_ble_eq_true rfl) (Nat.lt_succ_self _) ?_
            refine s_isNearM I.S eP2 eS2 (by omega) (by omega) (by omega) ?_
            refine ⟨_, rfl, ?_⟩
            refine Go_if_eqb (tgt := 159) (pc' := 144) dX12_couples_141 (by decide) rfl (fun c141 => ?_) (fun c141 => ?_)
            · refine Go_iconst (v := iZ 0) (pc' := 160) dX12_couples_159 rfl (by decide) ?_
              refine Go_iaddZ (pc' := 161) dX12_couples_160 rfl ?_
              refine Go_istore (pc' := 163) (lv' := [.ref _, .int _, .int _, .int _, .int _, .int _, .int _, .int _, .int _, .int _]) dX12_couples_161 rfl (Nat.le_of_ble_eq_true rfl) rfl rfl ?_
              refine Go_iinc (pc' := 166) (v := iZ 4) (lv' := [.ref _, .int _, .int _, .int _, .int _, .int _, .int _, .int _, .int _, .int _]) dX12_couples_163 rfl rfl (by decide) (Nat.le_of_ble_eq_true rfl) rfl rfl ?_
              refine Go_goto (tgt := 47) dX12_couples_166 (by decide) ?_
              rw [if_neg (show ¬ (nearS ((vi h 82 3).toInt - (vi h 82 0).toInt) ((S - P) * Az) ((vi h 82 2).toInt - (vi h 82 1).toInt) ((S - P) * Bz) Cz) from fun z => z.elim (fun z => c130 z.2) (fun z => c141 z.1))] at hk
              rw [Int.add_zero]
              exact st4 _ _ _ _ _ hk
            · refine Go_aload_n (pc' := 145) dX12_couples_144 rfl rfl rfl ?_
              refine Go_iload (pc' := 147) dX12_couples_145 rfl rfl ?_
              refine Go_iload_n (pc' := 148) dX12_couples_147 rfl rfl rfl ?_
              refine Go_iload_n (pc' := 149) dX12_couples_148 rfl rfl rfl ?_
              refine Go_callV_i (pc' := 152) (As := [.int _, .int _, .int _]) (st := [.int _]) dX12_couples_149 rfl ok_X12_isNear km_RX12_391 (I.S.o 99 rfl rfl rfl) (I.S.b 99 rfl rfl) ⟨_, _, rfl⟩ rfl (Nat.le_of_ble_eq_true rfl) rfl rfl rfl (Nat.le_of_ble_eq_true rfl) (Nat.lt_succ_self _) ?_
              refine s_isNearM I.S eP2 eS2 (by omega) (by omega) (by omega) ?_
              refine ⟨_, rfl, ?_⟩
              refine Go_if_eqb (tgt := 159) (pc' := 155) dX12_couples_152 (by decide) rfl (fun c152 => ?_) (fun c152 => ?_)
              · refine Go_iconst (v := iZ 0) (pc' := 160) dX12_couples_159 rfl (by decide) ?_
                refine Go_iaddZ (pc' := 161) dX12_couples_160 rfl ?_
                refine Go_istore (pc' := 163) (lv' := [.ref _, .int _, .int _, .int _, .int _, .int _, .int _, .int _, .int _, .int _]) dX12_couples_161 rfl (Nat.le_of_ble_eq_true rfl) rfl rfl ?_
                refine Go_iinc (pc' := 166) (v := iZ 4) (lv' := [.ref _, .int _, .int _, .int _, .int _, .int _, .int _, .int _, .int _, .int _]) dX12_couples_163 rfl rfl (by decide) (Nat.le_of_ble_eq_true rfl) rfl rfl ?_
                refine Go_goto (tgt := 47) dX12_couples_166 (by decide) ?_
                rw [if_neg (show ¬ (nearS ((vi h 82 3).toInt - (vi h 82 0).toInt) ((S - P) * Az) ((vi h 82 2).toInt - (vi h 82 1).toInt) ((S - P) * Bz) Cz) from fun z => z.elim (fun z => c130 z.2) (fun z => c152 z.2))] at hk
                rw [Int.add_zero]
                exact st4 _ _ _ _ _ hk
              · refine Go_iconst (v := iZ 1) (pc' := 156) dX12_couples_155 rfl (by decide) ?_
                refine Go_goto (tgt := 160) dX12_couples_156 (by decide) ?_
                refine Go_iaddZ (pc' := 161) dX12_couples_160 rfl ?_
                refine Go_istore (pc' := 163) (lv' := [.ref _, .int _, .int _, .int _, .int _, .int _, .int _, .int _, .int _, .int _]) dX12_couples_161 rfl (Nat.le_of_ble_eq_true rfl) rfl rfl ?_
                refine Go_iinc (pc' := 166) (v := iZ 4) (lv' := [.ref _, .int _, .int _, .int _, .int _, .int _, .int _, .int _, .int _, .int _]) dX12_couples_163 rfl rfl (by decide) (Nat.le_of_ble_eq_true rfl) rfl rfl ?_
                refine Go_goto (tgt := 47) dX12_couples_166 (by decide) ?_
                rw [if_pos (show nearS ((vi h 82 3).toInt - (vi h 82 0).toInt) ((S - P) * Az) ((vi h 82 2).toInt - (vi h 82 1).toInt) ((S - P) * Bz) Cz from by first | exact Or.inl ⟨c119, c130⟩ | exact Or.inr ⟨c141, c152⟩)] at hk
                exact st4 _ _ _ _ _ hk
      have st2 : ∀ (N : Int) (x6 x7 x8 x9 : Int32), K (some (.int (iZ (if nearS ((vi h 82 3).toInt - (vi h 82 0).toInt) ((S - P) * Az) ((vi h 82 2).toInt - (vi h 82 1).toInt) ((S - P) * Bz) Cz then (if nearS ((vi h 82 2).toInt - (vi h 82 0).toInt) ((S - P) * Az) ((vi h 82 3).toInt - (vi h 82 1).toInt) ((S - P) * Bz) Cz then N + 1 else N) + 1 else (if nearS ((vi h 82 2).toInt - (vi h 82 0).toInt) ((S - P) * Az) ((vi h 82 3).toInt - (vi h 82 1).toInt) ((S - P) * Bz) Cz then N + 1 else N))))) h → Go G 60 0 0 M_X12_couples 47 [.ref 99, .int (iZ Az), .int (iZ Bz), .int (iZ Cz), .int (iZ N), .int (iZ 2), .int x6, .int x7, .int x8, .int x9] [] h K := by
        intro N x6 x7 x8 x9 hk
        refine Go_iload (pc' := 49) dX12_couples_47 rfl rfl ?_
        refine Go_iconst (v := iZ 4) (pc' := 50) dX12_couples_49 rfl (by decide) ?_
        refine Go_icmp_geY (tgt := 169) (pc' := 53) dX12_couples_50 (by decide) rfl (by first | exact ⟨i_lo _, i_hi _⟩ | omega) (by first | exact ⟨i_lo _, i_hi _⟩ | omega) (fun c50 => by exfalso; omega) (fun c50 => ?_)
        refine Go_iload (pc' := 55) dX12_couples_53 rfl rfl ?_
        refine Go_iconst (v := iZ 1) (pc' := 56) dX12_couples_55 rfl (by decide) ?_
        refine Go_icmp_neY (tgt := 63) (pc' := 59) dX12_couples_56 (by decide) rfl (by first | exact ⟨i_lo _, i_hi _⟩ | omega) (by first | exact ⟨i_lo _, i_hi _⟩ | omega) (fun c56 => ?_) (fun c56 => by exfalso; omega)
        refine Go_iconst (v := iZ 1) (pc' := 64) dX12_couples_63 rfl (by decide) ?_
        refine Go_istore (pc' := 66) (lv' := [.ref _, .int _, .int _, .int _, .int _, .int _, .int _, .int _, .int _, .int _]) dX12_couples_64 rfl (Nat.le_of_ble_eq_true rfl) rfl rfl ?_
        refine Go_bipush (v := iZ 6) (pc' := 68) dX12_couples_66 rfl (by decide) ?_
        refine Go_iload (pc' := 70) dX12_couples_68 rfl rfl ?_
        refine Go_isub (pc' := 71) dX12_couples_70 rfl ?_
        rw [show (iZ 6 - iZ 2 : Int32) = iZ 4 from by decide]
        refine Go_iload (pc' := 73) dX12_couples_71 rfl rfl ?_
        refine Go_isub (pc' := 74) dX12_couples_73 rfl ?_
        rw [show (iZ 4 - iZ 1 : Int32) = iZ 3 from by decide]
        refine Go_istore (pc' := 76) (lv' := [.ref _, .int _, .int _, .int _, .int _, .int _, .int _, .int _, .int _, .int _]) dX12_couples_74 rfl (Nat.le_of_ble_eq_true rfl) rfl rfl ?_
        refine Go_aload_n (pc' := 77) dX12_couples_76 rfl rfl rfl ?_
        refine Go_getRs (pc' := 80) dX12_couples_77 rfl kf_RX12_120 (by decide) (by decide) rfl (I.S.b 99 rfl rfl) (I.S.o 99 rfl rfl rfl) (I.S.r 99 50 rfl rfl rfl) ?_
        refine Go_iload (pc' := 82) dX12_couples_80 rfl rfl ?_
        refine Go_ialoadZ (n := 8) (k := 2) (v := (iZ (vi h 82 2).toInt)) (pc' := 83) dX12_couples_82 rfl (I.S.b 133 rfl rfl) (I.S.k 133 rfl rfl rfl) rfl (by decide) (by decide) (q2.symm.trans (vi_eta _ _ _)) ?_
        refine Go_aload_n (pc' := 84) dX12_couples_83 rfl rfl rfl ?_
        refine Go_getRs (pc' := 87) dX12_couples_84 rfl kf_RX12_120 (by decide) (by decide) rfl (I.S.b 99 rfl rfl) (I.S.o 99 rfl rfl rfl) (I.S.r 99 50 rfl rfl rfl) ?_
        refine Go_iconst (v := iZ 0) (pc' := 88) dX12_couples_87 rfl (by decide) ?_
        refine Go_ialoadZ (n := 8) (k := 0) (v := (iZ (vi h 82 0).toInt)) (pc' := 89) dX12_couples_88 rfl (I.S.b 133 rfl rfl) (I.S.k 133 rfl rfl rfl) rfl (by decide) (by decide) (q0.symm.trans (vi_eta _ _ _)) ?_
        refine Go_isubZ (pc' := 90) dX12_couples_89 rfl ?_
        refine Go_istore (pc' := 92) (lv' := [.ref _, .int _, .int _, .int _, .int _, .int _, .int _, .int _, .int _, .int _]) dX12_couples_90 rfl (Nat.le_of_ble_eq_true rfl) rfl rfl ?_
        refine Go_aload_n (pc' := 93) dX12_couples_92 rfl rfl rfl ?_
        refine Go_getRs (pc' := 96) dX12_couples_93 rfl kf_RX12_120 (by decide) (by decide) rfl (I.S.b 99 rfl rfl) (I.S.o 99 rfl rfl rfl) (I.S.r 99 50 rfl rfl rfl) ?_
        refine Go_iload (pc' := 98) dX12_couples_96 rfl rfl ?_
        refine Go_ialoadZ (n := 8) (k := 3) (v := (iZ (vi h 82 3).toInt)) (pc' := 99) dX12_couples_98 rfl (I.S.b 133 rfl rfl) (I.S.k 133 rfl rfl rfl) rfl (by decide) (by decide) (q3.symm.trans (vi_eta _ _ _)) ?_
        refine Go_aload_n (pc' := 100) dX12_couples_99 rfl rfl rfl ?_
        refine Go_getRs (pc' := 103) dX12_couples_100 rfl kf_RX12_120 (by decide) (by decide) rfl (I.S.b 99 rfl rfl) (I.S.o 99 rfl rfl rfl) (I.S.r 99 50 rfl rfl rfl) ?_
        refine Go_iload (pc' := 105) dX12_couples_103 rfl rfl ?_
        refine Go_ialoadZ (n := 8) (k := 1) (v := (iZ (vi h 82 1).toInt)) (pc' := 106) dX12_couples_105 rfl (I.S.b 133 rfl rfl) (I.S.k 133 rfl rfl rfl) rfl (by decide) (by decide) (q1.symm.trans (vi_eta _ _ _)) ?_
        refine Go_isubZ (pc' := 107) dX12_couples_106 rfl ?_
        refine Go_istore (pc' := 109) (lv' := [.ref _, .int _, .int _, .int _, .int _, .int _, .int _, .int _, .int _, .int _]) dX12_couples_107 rfl (Nat.le_of_ble_eq_true rfl) rfl rfl ?_
        refine Go_iload (pc' := 111) dX12_couples_109 rfl rfl ?_
        refine Go_aload_n (pc' := 112) dX12_couples_111 rfl rfl rfl ?_
        refine Go_iload (pc' := 114) dX12_couples_112 rfl rfl ?_
        refine Go_iload_n (pc' := 115) dX12_couples_114 rfl rfl rfl ?_
        refine Go_iload_n (pc' := 116) dX12_couples_115 rfl rfl rfl ?_
        refine Go_callV_i (pc' := 119) (As := [.int _, .int _, .int _]) (st := [.int _]) dX12_couples_116 rfl ok_X12_isNear km_RX12_391 (I.S.o 99 rfl rfl rfl) (I.S.b 99 rfl rfl) ⟨_, _, rfl⟩ rfl (Nat.le_of_ble_eq_true rfl) rfl rfl rfl (Nat.le_of_ble_eq_true rfl) (Nat.lt_succ_self _) ?_
        refine s_isNearM I.S eP2 eS2 (by omega) (by omega) (by omega) ?_
        refine ⟨_, rfl, ?_⟩
        refine Go_if_eqb (tgt := 133) (pc' := 122) dX12_couples_119 (by decide) rfl (fun c119 => ?_) (fun c119 => ?_)
        · refine Go_aload_n (pc' := 134) dX12_couples_133 rfl rfl rfl ?_
          refine Go_iload (pc' := 136) dX12_couples_134 rfl rfl ?_
          refine Go_iload_n (pc' := 137) dX12_couples_136 rfl rfl rfl ?_
          refine Go_iload_n (pc' := 138) dX12_couples_137 rfl rfl rfl ?_
          refine Go_callV_i (pc' := 141) (As := [.int _, .int _, .int _]) (st := [.int _]) dX12_couples_138 rfl ok_X12_isNear km_RX12_391 (I.S.o 99 rfl rfl rfl) (I.S.b 99 rfl rfl) ⟨_, _, rfl⟩ rfl (Nat.le_of_ble_eq_true rfl) rfl rfl rfl (Nat.le_of_ble_eq_true rfl) (Nat.lt_succ_self _) ?_
          refine s_isNearM I.S eP2 eS2 (by omega) (by omega) (by omega) ?_
          refine ⟨_, rfl, ?_⟩
          refine Go_if_eqb (tgt := 159) (pc' := 144) dX12_couples_141 (by decide) rfl (fun c141 => ?_) (fun c141 => ?_)
          · refine Go_iconst (v := iZ 0) (pc' := 160) dX12_couples_159 rfl (by decide) ?_
            refine Go_iaddZ (pc' := 161) dX12_couples_160 rfl ?_
            refine Go_istore (pc' := 163) (lv' := [.ref _, .int _, .int _, .int _, .int _, .int _, .int _, .int _, .int _, .int _]) dX12_couples_161 rfl (Nat.le_of_ble_eq_true rfl) rfl rfl ?_
            refine Go_iinc (pc' := 166) (v := iZ 3) (lv' := [.ref _, .int _, .int _, .int _, .int _, .int _, .int _, .int _, .int _, .int _]) dX12_couples_163 rfl rfl (by decide) (Nat.le_of_ble_eq_true rfl) rfl rfl ?_
            refine Go_goto (tgt := 47) dX12_couples_166 (by decide) ?_
            rw [if_neg (show ¬ (nearS ((vi h 82 2).toInt - (vi h 82 0).toInt) ((S - P) * Az) ((vi h 82 3).toInt - (vi h 82 1).toInt) ((S - P) * Bz) Cz) from fun z => z.elim (fun z => c119 z.1) (fun z => c141 z.1))] at hk
            rw [Int.add_zero]
            exact st3 _ _ _ _ _ hk
          · refine Go_aload_n (pc' := 145) dX12_couples_144 rfl rfl rfl ?_
            refine Go_iload (pc' := 147) dX12_couples_145 rfl rfl ?_
            refine Go_iload_n (pc' := 148) dX12_couples_147 rfl rfl rfl ?_
            refine Go_iload_n (pc' := 149) dX12_couples_148 rfl rfl rfl ?_
            refine Go_callV_i (pc' := 152) (As := [.int _, .int _, .int _]) (st := [.int _]) dX12_couples_149 rfl ok_X12_isNear km_RX12_391 (I.S.o 99 rfl rfl rfl) (I.S.b 99 rfl rfl) ⟨_, _, rfl⟩ rfl (Nat.le_of_ble_eq_true rfl) rfl rfl rfl (Nat.le_of_ble_eq_true rfl) (Nat.lt_succ_self _) ?_
            refine s_isNearM I.S eP2 eS2 (by omega) (by omega) (by omega) ?_
            refine ⟨_, rfl, ?_⟩
            refine Go_if_eqb (tgt := 159) (pc' := 155) dX12_couples_152 (by decide) rfl (fun c152 => ?_) (fun c152 => ?_)
            · refine Go_iconst (v := iZ 0) (pc' := 160) dX12_couples_159 rfl (by decide) ?_
              refine Go_iaddZ (pc' := 161) dX12_couples_160 rfl ?_
              refine Go_istore (pc' := 163) (lv' := [.ref _, .int _, .int _, .int _, .int _, .int _, .int _, .int _, .int _, .int _]) dX12_couples_161 rfl (Nat.le_of_ble_eq_true rfl) rfl rfl ?_
              refine Go_iinc (pc' := 166) (v := iZ 3) (lv' := [.ref _, .int _, .int _, .int _, .int _, .int _, .int _, .int _, .int _, .int _]) dX12_couples_163 rfl rfl (by decide) (Nat.le_of_ble_eq_true rfl) rfl rfl ?_
              refine Go_goto (tgt := 47) dX12_couples_166 (by decide) ?_
              rw [if_neg (show ¬ (nearS ((vi h 82 2).toInt - (vi h 82 0).toInt) ((S - P) * Az) ((vi h 82 3).toInt - (vi h 82 1).toInt) ((S - P) * Bz) Cz) from fun z => z.elim (fun z => c119 z.1) (fun z => c152 z.2))] at hk
              rw [Int.add_zero]
              exact st3 _ _ _ _ _ hk
            · refine Go_iconst (v := iZ 1) (pc' := 156) dX12_couples_155 rfl (by decide) ?_
              refine Go_goto (tgt := 160) dX12_couples_156 (by decide) ?_
              refine Go_iaddZ (pc' := 161) dX12_couples_160 rfl ?_
              refine Go_istore (pc' := 163) (lv' := [.ref _, .int _, .int _, .int _, .int _, .int _, .int _, .int _, .int _, .int _]) dX12_couples_161 rfl (Nat.le_of_ble_eq_true rfl) rfl rfl ?_
              refine Go_iinc (pc' := 166) (v := iZ 3) (lv' := [.ref _, .int _, .int _, .int _, .int _, .int _, .int _, .int _, .int _, .int _]) dX12_couples_163 rfl rfl (by decide) (Nat.le_of_ble_eq_true rfl) rfl rfl ?_
              refine Go_goto (tgt := 47) dX12_couples_166 (by decide) ?_
              rw [if_pos (show nearS ((vi h 82 2).toInt - (vi h 82 0).toInt) ((S - P) * Az) ((vi h 82 3).toInt - (vi h 82 1).toInt) ((S - P) * Bz) Cz from by first | exact Or.inl ⟨c119, c130⟩ | exact Or.inr ⟨c141, c152⟩)] at hk
              exact st3 _ _ _ _ _ hk
        · refine Go_aload_n (pc' := 123) dX12_couples_122 rfl rfl rfl ?_
          refine Go_iload (pc' := 125) dX12_couples_123 rfl rfl ?_
          refine Go_iload_n (pc' := 126) dX12_couples_125 rfl rfl rfl ?_
          refine Go_iload_n (pc' := 127) dX12_couples_126 rfl rfl rfl ?_
          refine Go_callV_i (pc' := 130) (As := [.int _, .int _, .int _]) (st := [.int _]) dX12_couples_127 rfl ok_X12_isNear km_RX12_391 (I.S.o 99 rfl rfl rfl) (I.S.b 99 rfl rfl) ⟨_, _, rfl⟩ rfl (Nat.le_of_ble_eq_true rfl) rfl rfl rfl (Nat.le_of_ble_eq_true rfl) (Nat.lt_succ_self _) ?_
          refine s_isNearM I.S eP2 eS2 (by omega) (by omega) (by omega) ?_
          refine ⟨_, rfl, ?_⟩
          refine Go_if_neb (tgt := 155) (pc' := 133) dX12_couples_130 (by decide) rfl (fun c130 => ?_) (fun c130 => ?_)
          · refine Go_iconst (v := iZ 1) (pc' := 156) dX12_couples_155 rfl (by decide) ?_
            refine Go_goto (tgt := 160) dX12_couples_156 (by decide) ?_
            refine Go_iaddZ (pc' := 161) dX12_couples_160 rfl ?_
            refine Go_istore (pc' := 163) (lv' := [.ref _, .int _, .int _, .int _, .int _, .int _, .int _, .int _, .int _, .int _]) dX12_couples_161 rfl (Nat.le_of_ble_eq_true rfl) rfl rfl ?_
            refine Go_iinc (pc' := 166) (v := iZ 3) (lv' := [.ref _, .int _, .int _, .int _, .int _, .int _, .int _, .int _, .int _, .int _]) dX12_couples_163 rfl rfl (by decide) (Nat.le_of_ble_eq_true rfl) rfl rfl ?_
            refine Go_goto (tgt := 47) dX12_couples_166 (by decide) ?_
            rw [if_pos (show nearS ((vi h 82 2).toInt - (vi h 82 0).toInt) ((S - P) * Az) ((vi h 82 3).toInt - (vi h 82 1).toInt) ((S - P) * Bz) Cz from by first | exact Or.inl ⟨c119, c130⟩ | exact Or.inr ⟨c141, c152⟩)] at hk
            exact st3 _ _ _ _ _ hk
          · refine Go_aload_n (pc' := 134) dX12_couples_133 rfl rfl rfl ?_
            refine Go_iload (pc' := 136) dX12_couples_134 rfl rfl ?_
            refine Go_iload_n (pc' := 137) dX12_couples_136 rfl rfl rfl ?_
            refine Go_iload_n (pc' := 138) dX12_couples_137 rfl rfl rfl ?_
            refine Go_callV_i (pc' := 141) (As := [.int _, .int _, .int _]) (st := [.int _]) dX12_couples_138 rfl ok_X12_isNear km_RX12_391 (I.S.o 99 rfl rfl rfl) (I.S.b 99 rfl rfl) ⟨_, _, rfl⟩ rfl (Nat.le_of_ble_eq_true rfl) rfl rfl rfl (Nat.le_of_ble_eq_true rfl) (Nat.lt_succ_self _) ?_
            refine s_isNearM I.S eP2 eS2 (by omega) (by omega) (by omega) ?_
            refine ⟨_, rfl, ?_⟩
            refine Go_if_eqb (tgt := 159) (pc' := 144) dX12_couples_141 (by decide) rfl (fun c141 => ?_) (fun c141 => ?_)
            · refine Go_iconst (v := iZ 0) (pc' := 160) dX12_couples_159 rfl (by decide) ?_
              refine Go_iaddZ (pc' := 161) dX12_couples_160 rfl ?_
              refine Go_istore (pc' := 163) (lv' := [.ref _, .int _, .int _, .int _, .int _, .int _, .int _, .int _, .int _, .int _]) dX12_couples_161 rfl (Nat.le_of_ble_eq_true rfl) rfl rfl ?_
              refine Go_iinc (pc' := 166) (v := iZ 3) (lv' := [.ref _, .int _, .int _, .int _, .int _, .int _, .int _, .int _, .int _, .int _]) dX12_couples_163 rfl rfl (by decide) (Nat.le_of_ble_eq_true rfl) rfl rfl ?_
              refine Go_goto (tgt := 47) dX12_couples_166 (by decide) ?_
              rw [if_neg (show ¬ (nearS ((vi h 82 2).toInt - (vi h 82 0).toInt) ((S - P) * Az) ((vi h 82 3).toInt - (vi h 82 1).toInt) ((S - P) * Bz) Cz) from fun z => z.elim (fun z => c130 z.2) (fun z => c141 z.1))] at hk
              rw [Int.add_zero]
              exact st3 _ _ _ _ _ hk
            · refine Go_aload_n (pc' := 145) dX12_couples_144 rfl rfl rfl ?_
              refine Go_iload (pc' := 147) dX12_couples_145 rfl rfl ?_
              refine Go_iload_n (pc' := 148) dX12_couples_147 rfl rfl rfl ?_
              refine Go_iload_n (pc' := 149) dX12_couples_148 rfl rfl rfl ?_
              refine Go_callV_i (pc' := 152) (As := [.int _, .int _, .int _]) (st := [.int _]) dX12_couples_149 rfl ok_X12_isNear km_RX12_391 (I.S.o 99 rfl rfl rfl) (I.S.b 99 rfl rfl) ⟨_, _, rfl⟩ rfl (Nat.le_of_ble_eq_true rfl) rfl rfl rfl (Nat.le_of_ble_eq_true rfl) (Nat.lt_succ_self _) ?_
              refine s_isNearM I.S eP2 eS2 (by omega) (by omega) (by omega) ?_
              refine ⟨_, rfl, ?_⟩
              refine Go_if_eqb (tgt := 159) (pc' := 155) dX12_couples_152 (by decide) rfl (fun c152 => ?_) (fun c152 => ?_)
              · refine Go_iconst (v := iZ 0) (pc' := 160) dX12_couples_159 rfl (by decide) ?_
                refine Go_iaddZ (pc' := 161) dX12_couples_160 rfl ?_
                refine Go_istore (pc' := 163) (lv' := [.ref _, .int _, .int _, .int _, .int _, .int _, .int _, .int _, .int _, .int _]) dX12_couples_161 rfl (Nat.le_of_ble_eq_true rfl) rfl rfl ?_
                refine Go_iinc (pc' := 166) (v := iZ 3) (lv' := [.ref _, .int _, .int _, .int _, .int _, .int _, .int _, .int _, .int _, .int _]) dX12_couples_163 rfl rfl (by decide) (Nat.le_of_ble_eq_true rfl) rfl rfl ?_
                refine Go_goto (tgt := 47) dX12_couples_166 (by decide) ?_
                rw [if_neg (show ¬ (nearS ((vi h 82 2).toInt - (vi h 82 0).toInt) ((S - P) * Az) ((vi h 82 3).toInt - (vi h 82 1).toInt) ((S - P) * Bz) Cz) from fun z => z.elim (fun z => c130 z.2) (fun z => c152 z.2))] at hk
                rw [Int.add_zero]
                exact st3 _ _ _ _ _ hk
              · refine Go_iconst (v := iZ 1) (pc' := 156) dX12_couples_155 rfl (by decide) ?_
                refine Go_goto (tgt := 160) dX12_couples_156 (by decide) ?_
                refine Go_iaddZ (pc' := 161) dX12_couples_160 rfl ?_
                refine Go_istore (pc' := 163) (lv' := [.ref _, .int _, .int _, .int _, .int _, .int _, .int _, .int _, .int _, .int _]) dX12_couples_161 rfl (Nat.le_of_ble_eq_true rfl) rfl rfl ?_
                refine Go_iinc (pc' := 166) (v := iZ 3) (lv' := [.ref _, .int _, .int _, .int _, .int _, .int _, .int _, .int _, .int _, .int _]) dX12_couples_163 rfl rfl (by decide) (Nat.le_of_ble_eq_true rfl) rfl rfl ?_
                refine Go_goto (tgt := 47) dX12_couples_166 (by decide) ?_
                rw [if_pos (show nearS ((vi h 82 2).toInt - (vi h 82 0).toInt) ((S - P) * Az) ((vi h 82 3).toInt - (vi h 82 1).toInt) ((S - P) * Bz) Cz from by first | exact Or.inl ⟨c119, c130⟩ | exact Or.inr ⟨c141, c152⟩)] at hk
                exact st3 _ _ _ _ _ hk
      show Go G 60 0 0 M_X12_couples 0 [.ref 99, .int (iZ Az), .int (iZ Bz), .int (iZ Cz), un, un, un, un, un, un] [] h K
      refine Go_aload_n (pc' := 1) dX12_couples_0 rfl rfl rfl ?_
      refine Go_getIv (v := (iZ (n : Int))) (pc' := 4) dX12_couples_1 rfl kf_RX12_382 (by decide) (by decide) rfl (I.S.b 99 rfl rfl) (I.S.o 99 rfl rfl rfl) (en2) ?_
      refine Go_iconst (v := iZ 4) (pc' := 5) dX12_couples_4 rfl (by decide) ?_
      refine Go_icmp_neY (tgt := 39) (pc' := 8) dX12_couples_5 (by decide) rfl (by first | exact ⟨i_lo _, i_hi _⟩ | omega) (by first | exact ⟨i_lo _, i_hi _⟩ | omega) (fun c5 => by exfalso; omega) (fun c5 => ?_)
      refine Go_iload_n (pc' := 9) dX12_couples_8 rfl rfl rfl ?_
      refine Go_iconst (v := iZ 0) (pc' := 10) dX12_couples_9 rfl (by decide) ?_
      refine Go_bipush (v := iZ 55) (pc' := 12) dX12_couples_10 rfl (by decide) ?_
      refine Go_callS_i (pc' := 15) (As := [.int _, .int _, .int _]) (st := []) dX12_couples_12 rfl ok_X12_isIn km_RX12_147 rfl (Nat.le_of_ble_eq_true rfl) rfl rfl rfl (Nat.le_of_ble_eq_true rfl) (Nat.lt_succ_self _) ?_
      refine s_isInY (by first | exact ⟨i_lo _, i_hi _⟩ | omega) (by first | exact ⟨i_lo _, i_hi _⟩ | omega) (by first | exact ⟨i_lo _, i_hi _⟩ | omega) ?_
      refine ⟨_, rfl, ?_⟩
      refine Go_if_eqb (tgt := 39) (pc' := 18) dX12_couples_15 (by decide) rfl (fun c15 => by exfalso; omega) (fun c15 => ?_)
      refine Go_iload_n (pc' := 19) dX12_couples_18 rfl rfl rfl ?_
      refine Go_iconst (v := iZ 0) (pc' := 20) dX12_couples_19 rfl (by decide) ?_
      refine Go_bipush (v := iZ 55) (pc' := 22) dX12_couples_20 rfl (by decide) ?_
      refine Go_callS_i (pc' := 25) (As := [.int _, .int _, .int _]) (st := []) dX12_couples_22 rfl ok_X12_isIn km_RX12_147 rfl (Nat.le_of_ble_eq_true rfl) rfl rfl rfl (Nat.le_of_ble_eq_true rfl) (Nat.lt_succ_self _) ?_
      refine s_isInY (by first | exact ⟨i_lo _, i_hi _⟩ | omega) (by first | exact ⟨i_lo _, i_hi _⟩ | omega) (by first | exact ⟨i_lo _, i_hi _⟩ | omega) ?_
      refine ⟨_, rfl, ?_⟩
      refine Go_if_eqb (tgt := 39) (pc' := 28) dX12_couples_25 (by decide) rfl (fun c25 => by exfalso; omega) (fun c25 => ?_)
      refine Go_iload_n (pc' := 29) dX12_couples_28 rfl rfl rfl ?_
      refine Go_iconst (v := iZ 0) (pc' := 30) dX12_couples_29 rfl (by decide) ?_
      refine Go_sipush (v := iZ 999) (pc' := 33) dX12_couples_30 rfl (by decide) ?_
      refine Go_callS_i (pc' := 36) (As := [.int _, .int _, .int _]) (st := []) dX12_couples_33 rfl ok_X12_isIn km_RX12_147 rfl (Nat.le_of_ble_eq_true rfl) rfl rfl rfl (Nat.le_of_ble_eq_true rfl) (Nat.lt_succ_self _) ?_
      refine s_isInY (by first | exact ⟨i_lo _, i_hi _⟩ | omega) (by first | exact ⟨i_lo _, i_hi _⟩ | omega) (by first | exact ⟨i_lo _, i_hi _⟩ | omega) ?_
      refine ⟨_, rfl, ?_⟩
      refine Go_if_neb (tgt := 41) (pc' := 39) dX12_couples_36 (by decide) rfl (fun c36 => ?_) (fun c36 => by exfalso; omega)
      refine Go_iconst (v := iZ 0) (pc' := 42) dX12_couples_41 rfl (by decide) ?_
      refine Go_istore (pc' := 44) (lv' := [.ref _, .int _, .int _, .int _, .int _, un, un, un, un, un]) dX12_couples_42 rfl (Nat.le_of_ble_eq_true rfl) rfl rfl ?_
      refine Go_iconst (v := iZ 1) (pc' := 45) dX12_couples_44 rfl (by decide) ?_
      refine Go_istore (pc' := 47) (lv' := [.ref _, .int _, .int _, .int _, .int _, .int _, un, un, un, un]) dX12_couples_45 rfl (Nat.le_of_ble_eq_true rfl) rfl rfl ?_
      refine Go_iload (pc' := 49) dX12_couples_47 rfl rfl ?_
      refine Go_iconst (v := iZ 4) (pc' := 50) dX12_couples_49 rfl (by decide) ?_
      refine Go_icmp_geY (tgt := 169) (pc' := 53) dX12_couples_50 (by decide) rfl (by first | exact ⟨i_lo _, i_hi _⟩ | omega) (by first | exact ⟨i_lo _, i_hi _⟩ | omega) (fun c50 => by exfalso; omega) (fun c50 => ?_)
      refine Go_iload (pc' := 55) dX12_couples_53 rfl rfl ?_
      refine Go_iconst (v := iZ 1) (pc' := 56) dX12_couples_55 rfl (by decide) ?_
      refine Go_icmp_neY (tgt := 63) (pc' := 59) dX12_couples_56 (by decide) rfl (by first | exact ⟨i_lo _, i_hi _⟩ | omega) (by first | exact ⟨i_lo _, i_hi _⟩ | omega) (fun c56 => by exfalso; omega) (fun c56 => ?_)
      refine Go_iconst (v := iZ 2) (pc' := 60) dX12_couples_59 rfl (by decide) ?_
      refine Go_goto (tgt := 64) dX12_couples_60 (by decide) ?_
      refine Go_istore (pc' := 66) (lv' := [.ref _, .int _, .int _, .int _, .int _, .int _, .int _, un, un, un]) dX12_couples_64 rfl (Nat.le_of_ble_eq_true rfl) rfl rfl ?_
      refine Go_bipush (v := iZ 6) (pc' := 68) dX12_couples_66 rfl (by decide) ?_
      refine Go_iload (pc' := 70) dX12_couples_68 rfl rfl ?_
      refine Go_isub (pc' := 71) dX12_couples_70 rfl ?_
      rw [show (iZ 6 - iZ 1 : Int32) = iZ 5 from by decide]
      refine Go_iload (pc' := 73) dX12_couples_71 rfl rfl ?_
      refine Go_isub (pc' := 74) dX12_couples_73 rfl ?_
      rw [show (iZ 5 - iZ 2 : Int32) = iZ 3 from by decide]
      refine Go_istore (pc' := 76) (lv' := [.ref _, .int _, .int _, .int _, .int _, .int _, .int _, .int _, un, un]) dX12_couples_74 rfl (Nat.le_of_ble_eq_true rfl) rfl rfl ?_
      refine Go_aload_n (pc' := 77) dX12_couples_76 rfl rfl rfl ?_
      refine Go_getRs (pc' := 80) dX12_couples_77 rfl kf_RX12_120 (by decide) (by decide) rfl (I.S.b 99 rfl rfl) (I.S.o 99 rfl rfl rfl) (I.S.r 99 50 rfl rfl rfl) ?_
      refine Go_iload (pc' := 82) dX12_couples_80 rfl rfl ?_
      refine Go_ialoadZ (n := 8) (k := 1) (v := (iZ (vi h 82 1).toInt)) (pc' := 83) dX12_couples_82 rfl (I.S.b 133 rfl rfl) (I.S.k 133 rfl rfl rfl) rfl (by decide) (by decide) (q1.symm.trans (vi_eta _ _ _)) ?_
      refine Go_aload_n (pc' := 84) dX12_couples_83 rfl rfl rfl ?_
      refine Go_getRs (pc' := 87) dX12_couples_84 rfl kf_RX12_120 (by decide) (by decide) rfl (I.S.b 99 rfl rfl) (I.S.o 99 rfl rfl rfl) (I.S.r 99 50 rfl rfl rfl) ?_
      refine Go_iconst (v := iZ 0) (pc' := 88) dX12_couples_87 rfl (by decide) ?_
      refine Go_ialoadZ (n := 8) (k := 0) (v := (iZ (vi h 82 0).toInt)) (pc' := 89) dX12_couples_88 rfl (I.S.b 133 rfl rfl) (I.S.k 133 rfl rfl rfl) rfl (by decide) (by decide) (q0.symm.trans (vi_eta _ _ _)) ?_
      refine Go_isubZ (pc' := 90) dX12_couples_89 rfl ?_
      refine Go_istore (pc' := 92) (lv' := [.ref _, .int _, .int _, .int _, .int _, .int _, .int _, .int _, .int _, un]) dX12_couples_90 rfl (Nat.le_of_ble_eq_true rfl) rfl rfl ?_
      refine Go_aload_n (pc' := 93) dX12_couples_92 rfl rfl rfl ?_
      refine Go_getRs (pc' := 96) dX12_couples_93 rfl kf_RX12_120 (by decide) (by decide) rfl (I.S.b 99 rfl rfl) (I.S.o 99 rfl rfl rfl) (I.S.r 99 50 rfl rfl rfl) ?_
      refine Go_iload (pc' := 98) dX12_couples_96 rfl rfl ?_
      refine Go_ialoadZ (n := 8) (k := 3) (v := (iZ (vi h 82 3).toInt)) (pc' := 99) dX12_couples_98 rfl (I.S.b 133 rfl rfl) (I.S.k 133 rfl rfl rfl) rfl (by decide) (by decide) (q3.symm.trans (vi_eta _ _ _)) ?_
      refine Go_aload_n (pc' := 100) dX12_couples_99 rfl rfl rfl ?_
      refine Go_getRs (pc' := 103) dX12_couples_100 rfl kf_RX12_120 (by decide) (by decide) rfl (I.S.b 99 rfl rfl) (I.S.o 99 rfl rfl rfl) (I.S.r 99 50 rfl rfl rfl) ?_
      refine Go_iload (pc' := 105) dX12_couples_103 rfl rfl ?_
      refine Go_ialoadZ (n := 8) (k := 2) (v := (iZ (vi h 82 2).toInt)) (pc' := 106) dX12_couples_105 rfl (I.S.b 133 rfl rfl) (I.S.k 133 rfl rfl rfl) rfl (by decide) (by decide) (q2.symm.trans (vi_eta _ _ _)) ?_
      refine Go_isubZ (pc' := 107) dX12_couples_106 rfl ?_
      refine Go_istore (pc' := 109) (lv' := [.ref _, .int _, .int _, .int _, .int _, .int _, .int _, .int _, .int _, .int _]) dX12_couples_107 rfl (Nat.le_of_ble_eq_true rfl) rfl rfl ?_
      refine Go_iload (pc' := 111) dX12_couples_109 rfl rfl ?_
      refine Go_aload_n (pc' := 112) dX12_couples_111 rfl rfl rfl ?_
      refine Go_iload (pc' := 114) dX12_couples_112 rfl rfl ?_
      refine Go_iload_n (pc' := 115) dX12_couples_114 rfl rfl rfl ?_
      refine Go_iload_n (pc' := 116) dX12_couples_115 rfl rfl rfl ?_
      refine Go_callV_i (pc' := 119) (As := [.int _, .int _, .int _]) (st := [.int _]) dX12_couples_116 rfl ok_X12_isNear km_RX12_391 (I.S.o 99 rfl rfl rfl) (I.S.b 99 rfl rfl) ⟨_, _, rfl⟩ rfl (Nat.le_of_ble_eq_true rfl) rfl rfl rfl (Nat.le_of_ble_eq_true rfl) (Nat.lt_succ_self _) ?_
      refine s_isNearM I.S eP2 eS2 (by omega) (by omega) (by omega) ?_
      refine ⟨_, rfl, ?_⟩
      refine Go_if_eqb (tgt := 133) (pc' := 122) dX12_couples_119 (by decide) rfl (fun c119 => ?_) (fun c119 => ?_)
      · refine Go_aload_n (pc' := 134) dX12_couples_133 rfl rfl rfl ?_
        refine Go_iload (pc' := 136) dX12_couples_134 rfl rfl ?_
        refine Go_iload_n (pc' := 137) dX12_couples_136 rfl rfl rfl ?_
        refine Go_iload_n (pc' := 138) dX12_couples_137 rfl rfl rfl ?_
        refine Go_callV_i (pc' := 141) (As := [.int _, .int _, .int _]) (st := [.int _]) dX12_couples_138 rfl ok_X12_isNear km_RX12_391 (I.S.o 99 rfl rfl rfl) (I.S.b 99 rfl rfl) ⟨_, _, rfl⟩ rfl (Nat.le_of_ble_eq_true rfl) rfl rfl rfl (Nat.le_of_ble_eq_true rfl) (Nat.lt_succ_self _) ?_
        refine s_isNearM I.S eP2 eS2 (by omega) (by omega) (by omega) ?_
        refine ⟨_, rfl, ?_⟩
        refine Go_if_eqb (tgt := 159) (pc' := 144) dX12_couples_141 (by decide) rfl (fun c141 => ?_) (fun c141 => ?_)
        · refine Go_iconst (v := iZ 0) (pc' := 160) dX12_couples_159 rfl (by decide) ?_
          refine Go_iadd (pc' := 161) dX12_couples_160 rfl ?_
          rw [show (iZ 0 + iZ 0 : Int32) = iZ 0 from by decide]
          refine Go_istore (pc' := 163) (lv' := [.ref _, .int _, .int _, .int _, .int _, .int _, .int _, .int _, .int _, .int _]) dX12_couples_161 rfl (Nat.le_of_ble_eq_true rfl) rfl rfl ?_
          refine Go_iinc (pc' := 166) (v := iZ 2) (lv' := [.ref _, .int _, .int _, .int _, .int _, .int _, .int _, .int _, .int _, .int _]) dX12_couples_163 rfl rfl (by decide) (Nat.le_of_ble_eq_true rfl) rfl rfl ?_
          refine Go_goto (tgt := 47) dX12_couples_166 (by decide) ?_
          rw [if_neg (show ¬ (nearS ((vi h 82 1).toInt - (vi h 82 0).toInt) ((S - P) * Az) ((vi h 82 3).toInt - (vi h 82 2).toInt) ((S - P) * Bz) Cz) from fun z => z.elim (fun z => c119 z.1) (fun z => c141 z.1))] at hk
          exact st2 _ _ _ _ _ hk
        · refine Go_aload_n (pc' := 145) dX12_couples_144 rfl rfl rfl ?_
          refine Go_iload (pc' := 147) dX12_couples_145 rfl rfl ?_
          refine Go_iload_n (pc' := 148) dX12_couples_147 rfl rfl rfl ?_
          refine Go_iload_n (pc' := 149) dX12_couples_148 rfl rfl rfl ?_
          refine Go_callV_i (pc' := 152) (As := [.int _, .int _, .int _]) (st := [.int _]) dX12_couples_149 rfl ok_X12_isNear km_RX12_391 (I.S.o 99 rfl rfl rfl) (I.S.b 99 rfl rfl) ⟨_, _, rfl⟩ rfl (Nat.le_of_ble_eq_true rfl) rfl rfl rfl (Nat.le_of_ble_eq_true rfl) (Nat.lt_succ_self _) ?_
          refine s_isNearM I.S eP2 eS2 (by omega) (by omega) (by omega) ?_
          refine ⟨_, rfl, ?_⟩
          refine Go_if_eqb (tgt := 159) (pc' := 155) dX12_couples_152 (by decide) rfl (fun c152 => ?_) (fun c152 => ?_)
          · refine Go_iconst (v := iZ 0) (pc' := 160) dX12_couples_159 rfl (by decide) ?_
            refine Go_iadd (pc' := 161) dX12_couples_160 rfl ?_
            rw [show (iZ 0 + iZ 0 : Int32) = iZ 0 from by decide]
            refine Go_istore (pc' := 163) (lv' := [.ref _, .int _, .int _, .int _, .int _, .int _, .int _, .int _, .int _, .int _]) dX12_couples_161 rfl (Nat.le_of_ble_eq_true rfl) rfl rfl ?_
            refine Go_iinc (pc' := 166) (v := iZ 2) (lv' := [.ref _, .int _, .int _, .int _, .int _, .int _, .int _, .int _, .int _, .int _]) dX12_couples_163 rfl rfl (by decide) (Nat.le_of_ble_eq_true rfl) rfl rfl ?_
            refine Go_goto (tgt := 47) dX12_couples_166 (by decide) ?_
            rw [if_neg (show ¬ (nearS ((vi h 82 1).toInt - (vi h 82 0).toInt) ((S - P) * Az) ((vi h 82 3).toInt - (vi h 82 2).toInt) ((S - P) * Bz) Cz) from fun z => z.elim (fun z => c119 z.1) (fun z => c152 z.2))] at hk
            exact st2 _ _ _ _ _ hk
          · refine Go_iconst (v := iZ 1) (pc' := 156) dX12_couples_155 rfl (by decide) ?_
            refine Go_goto (tgt := 160) dX12_couples_156 (by decide) ?_
            refine Go_iadd (pc' := 161) dX12_couples_160 rfl ?_
            rw [show (iZ 0 + iZ 1 : Int32) = iZ 1 from by decide]
            refine Go_istore (pc' := 163) (lv' := [.ref _, .int _, .int _, .int _, .int _, .int _, .int _, .int _, .int _, .int _]) dX12_couples_161 rfl (Nat.le_of_ble_eq_true rfl) rfl rfl ?_
            refine Go_iinc (pc' := 166) (v := iZ 2) (lv' := [.ref _, .int _, .int _, .int _, .int _, .int _, .int _, .int _, .int _, .int _]) dX12_couples_163 rfl rfl (by decide) (Nat.le_of_ble_eq_true rfl) rfl rfl ?_
            refine Go_goto (tgt := 47) dX12_couples_166 (by decide) ?_
            rw [if_pos (show nearS ((vi h 82 1).toInt - (vi h 82 0).toInt) ((S - P) * Az) ((vi h 82 3).toInt - (vi h 82 2).toInt) ((S - P) * Bz) Cz from by first | exact Or.inl ⟨c119, c130⟩ | exact Or.inr ⟨c141, c152⟩)] at hk
            exact st2 _ _ _ _ _ hk
      · refine Go_aload_n (pc' := 123) dX12_couples_122 rfl rfl rfl ?_
        refine Go_iload (pc' := 125) dX12_couples_123 rfl rfl ?_
        refine Go_iload_n (pc' := 126) dX12_couples_125 rfl rfl rfl ?_
        refine Go_iload_n (pc' := 127) dX12_couples_126 rfl rfl rfl ?_
        refine Go_callV_i (pc' := 130) (As := [.int _, .int _, .int _]) (st := [.int _]) dX12_couples_127 rfl ok_X12_isNear km_RX12_391 (I.S.o 99 rfl rfl rfl) (I.S.b 99 rfl rfl) ⟨_, _, rfl⟩ rfl (Nat.le_of_ble_eq_true rfl) rfl rfl rfl (Nat.le_of_ble_eq_true rfl) (Nat.lt_succ_self _) ?_
        refine s_isNearM I.S eP2 eS2 (by omega) (by omega) (by omega) ?_
        refine ⟨_, rfl, ?_⟩
        refine Go_if_neb (tgt := 155) (pc' := 133) dX12_couples_130 (by decide) rfl (fun c130 => ?_) (fun c130 => ?_)
        · refine Go_iconst (v := iZ 1) (pc' := 156) dX12_couples_155 rfl (by decide) ?_
          refine Go_goto (tgt := 160) dX12_couples_156 (by decide) ?_
          refine Go_iadd (pc' := 161) dX12_couples_160 rfl ?_
          rw [show (iZ 0 + iZ 1 : Int32) = iZ 1 from by decide]
          refine Go_istore (pc' := 163) (lv' := [.ref _, .int _, .int _, .int _, .int _, .int _, .int _, .int _, .int _, .int _]) dX12_couples_161 rfl (Nat.le_of_ble_eq_true rfl) rfl rfl ?_
          refine Go_iinc (pc' := 166) (v := iZ 2) (lv' := [.ref _, .int _, .int _, .int _, .int _, .int _, .int _, .int _, .int _, .int _]) dX12_couples_163 rfl rfl (by decide) (Nat.le_of_ble_eq_true rfl) rfl rfl ?_
          refine Go_goto (tgt := 47) dX12_couples_166 (by decide) ?_
          rw [if_pos (show nearS ((vi h 82 1).toInt - (vi h 82 0).toInt) ((S - P) * Az) ((vi h 82 3).toInt - (vi h 82 2).toInt) ((S - P) * Bz) Cz from by first | exact Or.inl ⟨c119, c130⟩ | exact Or.inr ⟨c141, c152⟩)] at hk
          exact st2 _ _ _ _ _ hk
        · refine Go_aload_n (pc' := 134) dX12_couples_133 rfl rfl rfl ?_
          refine Go_iload (pc' := 136) dX12_couples_134 rfl rfl ?_
          refine Go_iload_n (pc' := 137) dX12_couples_136 rfl rfl rfl ?_
          refine Go_iload_n (pc' := 138) dX12_couples_137 rfl rfl rfl ?_
          refine Go_callV_i (pc' := 141) (As := [.int _, .int _, .int _]) (st := [.int _]) dX12_couples_138 rfl ok_X12_isNear km_RX12_391 (I.S.o 99 rfl rfl rfl) (I.S.b 99 rfl rfl) ⟨_, _, rfl⟩ rfl (Nat.le_of_ble_eq_true rfl) rfl rfl rfl (Nat.le_of_ble_eq_true rfl) (Nat.lt_succ_self _) ?_
          refine s_isNearM I.S eP2 eS2 (by omega) (by omega) (by omega) ?_
          refine ⟨_, rfl, ?_⟩
          refine Go_if_eqb (tgt := 159) (pc' := 144) dX12_couples_141 (by decide) rfl (fun c141 => ?_) (fun c141 => ?_)
          · refine Go_iconst (v := iZ 0) (pc' := 160) dX12_couples_159 rfl (by decide) ?_
            refine Go_iadd (pc' := 161) dX12_couples_160 rfl ?_
            rw [show (iZ 0 + iZ 0 : Int32) = iZ 0 from by decide]
            refine Go_istore (pc' := 163) (lv' := [.ref _, .int _, .int _, .int _, .int _, .int _, .int _, .int _, .int _, .int _]) dX12_couples_161 rfl (Nat.le_of_ble_eq_true rfl) rfl rfl ?_
            refine Go_iinc (pc' := 166) (v := iZ 2) (lv' := [.ref _, .int _, .int _, .int _, .int _, .int _, .int _, .int _, .int _, .int _]) dX12_couples_163 rfl rfl (by decide) (Nat.le_of_ble_eq_true rfl) rfl rfl ?_
            refine Go_goto (tgt := 47) dX12_couples_166 (by decide) ?_
            rw [if_neg (show ¬ (nearS ((vi h 82 1).toInt - (vi h 82 0).toInt) ((S - P) * Az) ((vi h 82 3).toInt - (vi h 82 2).toInt) ((S - P) * Bz) Cz) from fun z => z.elim (fun z => c130 z.2) (fun z => c141 z.1))] at hk
            exact st2 _ _ _ _ _ hk
          · refine Go_aload_n (pc' := 145) dX12_couples_144 rfl rfl rfl ?_
            refine Go_iload (pc' := 147) dX12_couples_145 rfl rfl ?_
            refine Go_iload_n (pc' := 148) dX12_couples_147 rfl rfl rfl ?_
            refine Go_iload_n (pc' := 149) dX12_couples_148 rfl rfl rfl ?_
            refine Go_callV_i (pc' := 152) (As := [.int _, .int _, .int _]) (st := [.int _]) dX12_couples_149 rfl ok_X12_isNear km_RX12_391 (I.S.o 99 rfl rfl rfl) (I.S.b 99 rfl rfl) ⟨_, _, rfl⟩ rfl (Nat.le_of_ble_eq_true rfl) rfl rfl rfl (Nat.le_of_ble_eq_true rfl) (Nat.lt_succ_self _) ?_
            refine s_isNearM I.S eP2 eS2 (by omega) (by omega) (by omega) ?_
            refine ⟨_, rfl, ?_⟩
            refine Go_if_eqb (tgt := 159) (pc' := 155) dX12_couples_152 (by decide) rfl (fun c152 => ?_) (fun c152 => ?_)
            · refine Go_iconst (v := iZ 0) (pc' := 160) dX12_couples_159 rfl (by decide) ?_
              refine Go_iadd (pc' := 161) dX12_couples_160 rfl ?_
              rw [show (iZ 0 + iZ 0 : Int32) = iZ 0 from by decide]
              refine Go_istore (pc' := 163) (lv' := [.ref _, .int _, .int _, .int _, .int _, .int _, .int _, .int _, .int _, .int _]) dX12_couples_161 rfl (Nat.le_of_ble_eq_true rfl) rfl rfl ?_
              refine Go_iinc (pc' := 166) (v := iZ 2) (lv' := [.ref _, .int _, .int _, .int _, .int _, .int _, .int _, .int _, .int _, .int _]) dX12_couples_163 rfl rfl (by decide) (Nat.le_of_ble_eq_true rfl) rfl rfl ?_
              refine Go_goto (tgt := 47) dX12_couples_166 (by decide) ?_
              rw [if_neg (show ¬ (nearS ((vi h 82 1).toInt - (vi h 82 0).toInt) ((S - P) * Az) ((vi h 82 3).toInt - (vi h 82 2).toInt) ((S - P) * Bz) Cz) from fun z => z.elim (fun z => c130 z.2) (fun z => c152 z.2))] at hk
              exact st2 _ _ _ _ _ hk
            · refine Go_iconst (v := iZ 1) (pc' := 156) dX12_couples_155 rfl (by decide) ?_
              refine Go_goto (tgt := 160) dX12_couples_156 (by decide) ?_
              refine Go_iadd (pc' := 161) dX12_couples_160 rfl ?_
              rw [show (iZ 0 + iZ 1 : Int32) = iZ 1 from by decide]
              refine Go_istore (pc' := 163) (lv' := [.ref _, .int _, .int _, .int _, .int _, .int _, .int _, .int _, .int _, .int _]) dX12_couples_161 rfl (Nat.le_of_ble_eq_true rfl) rfl rfl ?_
              refine Go_iinc (pc' := 166) (v := iZ 2) (lv' := [.ref _, .int _, .int _, .int _, .int _, .int _, .int _, .int _, .int _, .int _]) dX12_couples_163 rfl rfl (by decide) (Nat.le_of_ble_eq_true rfl) rfl rfl ?_
              refine Go_goto (tgt := 47) dX12_couples_166 (by decide) ?_
              rw [if_pos (show nearS ((vi h 82 1).toInt - (vi h 82 0).toInt) ((S - P) * Az) ((vi h 82 3).toInt - (vi h 82 2).toInt) ((S - P) * Bz) Cz from by first | exact Or.inl ⟨c119, c130⟩ | exact Or.inr ⟨c141, c152⟩)] at hk
              exact st2 _ _ _ _ _ hk
  · refine PairI.ro' (fun _ => iZ (-1)) h I (fun K k => ?_) (fun K k => ?_)
    · show Go G 60 0 0 M_X11_couples 0 [.ref 64, .int (iZ Az), .int (iZ Bz), .int (iZ Cz), un] [] h K
      refine Go_iload_n (pc' := 1) dX11_couples_0 rfl rfl rfl ?_
      refine Go_iconst (v := iZ 0) (pc' := 2) dX11_couples_1 rfl (by decide) ?_
      refine Go_bipush (v := iZ 55) (pc' := 4) dX11_couples_2 rfl (by decide) ?_
      refine Go_callS_i (pc' := 7) (As := [.int _, .int _, .int _]) (st := []) dX11_couples_4 rfl ok_X11_within km_RX11_94 rfl (Nat.le_of_ble_eq_true rfl) rfl rfl rfl (Nat.le_of_ble_eq_true rfl) (Nat.lt_succ_self _) ?_
      refine s_withinY (by first | exact ⟨i_lo _, i_hi _⟩ | omega) (by first | exact ⟨i_lo _, i_hi _⟩ | omega) (by first | exact ⟨i_lo _, i_hi _⟩ | omega) ?_
      refine ⟨_, rfl, ?_⟩
      refine Go_if_eqb (tgt := 42) (pc' := 10) dX11_couples_7 (by decide) rfl (fun c7 => ?_) (fun c7 => ?_)
      · refine Go_iconst (v := iZ (-1)) (pc' := 43) dX11_couples_42 rfl (by decide) ?_
        refine Go_ireturn (ty := .int) dX11_couples_43 rfl rfl ?_
        exact k
      · refine Go_iload_n (pc' := 11) dX11_couples_10 rfl rfl rfl ?_
        refine Go_iconst (v := iZ 0) (pc' := 12) dX11_couples_11 rfl (by decide) ?_
        refine Go_bipush (v := iZ 55) (pc' := 14) dX11_couples_12 rfl (by decide) ?_
        refine Go_callS_i (pc' := 17) (As := [.int _, .int _, .int _]) (st := []) dX11_couples_14 rfl ok_X11_within km_RX11_94 rfl (Nat.le_of_ble_eq_true rfl) rfl rfl rfl (Nat.le_of_ble_eq_true rfl) (Nat.lt_succ_self _) ?_
        refine s_withinY (by first | exact ⟨i_lo _, i_hi _⟩ | omega) (by first | exact ⟨i_lo _, i_hi _⟩ | omega) (by first | exact ⟨i_lo _, i_hi _⟩ | omega) ?_
        refine ⟨_, rfl, ?_⟩
        refine Go_if_eqb (tgt := 42) (pc' := 20) dX11_couples_17 (by decide) rfl (fun c17 => ?_) (fun c17 => ?_)
        · refine Go_iconst (v := iZ (-1)) (pc' := 43) dX11_couples_42 rfl (by decide) ?_
          refine Go_ireturn (ty := .int) dX11_couples_43 rfl rfl ?_
          exact k
        · refine Go_iload_n (pc' := 21) dX11_couples_20 rfl rfl rfl ?_
          refine Go_iconst (v := iZ 0) (pc' := 22) dX11_couples_21 rfl (by decide) ?_
          refine Go_sipush (v := iZ 999) (pc' := 25) dX11_couples_22 rfl (by decide) ?_
          refine Go_callS_i (pc' := 28) (As := [.int _, .int _, .int _]) (st := []) dX11_couples_25 rfl ok_X11_within km_RX11_94 rfl (Nat.le_of_ble_eq_true rfl) rfl rfl rfl (Nat.le_of_ble_eq_true rfl) (Nat.lt_succ_self _) ?_
          refine s_withinY (by first | exact ⟨i_lo _, i_hi _⟩ | omega) (by first | exact ⟨i_lo _, i_hi _⟩ | omega) (by first | exact ⟨i_lo _, i_hi _⟩ | omega) ?_
          refine ⟨_, rfl, ?_⟩
          refine Go_if_eqb (tgt := 42) (pc' := 31) dX11_couples_28 (by decide) rfl (fun c28 => ?_) (fun c28 => ?_)
          · refine Go_iconst (v := iZ (-1)) (pc' := 43) dX11_couples_42 rfl (by decide) ?_
            refine Go_ireturn (ty := .int) dX11_couples_43 rfl rfl ?_
            exact k
          · refine Go_aload_n (pc' := 32) dX11_couples_31 rfl rfl rfl ?_
            refine Go_getRs (pc' := 35) dX11_couples_32 rfl kf_RX11_59 (by decide) (by decide) rfl (I.S.b 64 rfl rfl) (I.S.o 64 rfl rfl rfl) (I.S.r 64 10 rfl rfl rfl) ?_
            refine Go_getIv (v := (iZ (n : Int))) (pc' := 38) dX11_couples_35 rfl kf_RX11_312 (by decide) (by decide) rfl (I.S.b 81 rfl rfl) (I.S.o 81 rfl rfl rfl) (en) ?_
            refine Go_iconst (v := iZ 4) (pc' := 39) dX11_couples_38 rfl (by decide) ?_
            refine Go_icmp_eqY (tgt := 44) (pc' := 42) dX11_couples_39 (by decide) rfl (by first | exact ⟨i_lo _, i_hi _⟩ | omega) (by first | exact ⟨i_lo _, i_hi _⟩ | omega) (fun c39 => ?_) (fun c39 => ?_)
            · exfalso; omega
            · refine Go_iconst (v := iZ (-1)) (pc' := 43) dX11_couples_42 rfl (by decide) ?_
              refine Go_ireturn (ty := .int) dX11_couples_43 rfl rfl ?_
              exact k
    · show Go G 60 0 0 M_X12_couples 0 [.ref 99, .int (iZ Az), .int (iZ Bz), .int (iZ Cz), un, un, un, un, un, un] [] h K
      refine Go_aload_n (pc' := 1) dX12_couples_0 rfl rfl rfl ?_
      refine Go_getIv (v := (iZ (n : Int))) (pc' := 4) dX12_couples_1 rfl kf_RX12_382 (by decide) (by decide) rfl (I.S.b 99 rfl rfl) (I.S.o 99 rfl rfl rfl) (en2) ?_
      refine Go_iconst (v := iZ 4) (pc' := 5) dX12_couples_4 rfl (by decide) ?_
      refine Go_icmp_neY (tgt := 39) (pc' := 8) dX12_couples_5 (by decide) rfl (by first | exact ⟨i_lo _, i_hi _⟩ | omega) (by first | exact ⟨i_lo _, i_hi _⟩ | omega) (fun c5 => ?_) (fun c5 => ?_)
      · refine Go_iconst (v := iZ (-1)) (pc' := 40) dX12_couples_39 rfl (by decide) ?_
        refine Go_ireturn (ty := .int) dX12_couples_40 rfl rfl ?_
        exact k
      · refine Go_iload_n (pc' := 9) dX12_couples_8 rfl rfl rfl ?_
        refine Go_iconst (v := iZ 0) (pc' := 10) dX12_couples_9 rfl (by decide) ?_
        refine Go_bipush (v := iZ 55) (pc' := 12) dX12_couples_10 rfl (by decide) ?_
        refine Go_callS_i (pc' := 15) (As := [.int _, .int _, .int _]) (st := []) dX12_couples_12 rfl ok_X12_isIn km_RX12_147 rfl (Nat.le_of_ble_eq_true rfl) rfl rfl rfl (Nat.le_of_ble_eq_true rfl) (Nat.lt_succ_self _) ?_
        refine s_isInY (by first | exact ⟨i_lo _, i_hi _⟩ | omega) (by first | exact ⟨i_lo _, i_hi _⟩ | omega) (by first | exact ⟨i_lo _, i_hi _⟩ | omega) ?_
        refine ⟨_, rfl, ?_⟩
        refine Go_if_eqb (tgt := 39) (pc' := 18) dX12_couples_15 (by decide) rfl (fun c15 => ?_) (fun c15 => ?_)
        · refine Go_iconst (v := iZ (-1)) (pc' := 40) dX12_couples_39 rfl (by decide) ?_
          refine Go_ireturn (ty := .int) dX12_couples_40 rfl rfl ?_
          exact k
        · refine Go_iload_n (pc' := 19) dX12_couples_18 rfl rfl rfl ?_
          refine Go_iconst (v := iZ 0) (pc' := 20) dX12_couples_19 rfl (by decide) ?_
          refine Go_bipush (v := iZ 55) (pc' := 22) dX12_couples_20 rfl (by decide) ?_
          refine Go_callS_i (pc' := 25) (As := [.int _, .int _, .int _]) (st := []) dX12_couples_22 rfl ok_X12_isIn km_RX12_147 rfl (Nat.le_of_ble_eq_true rfl) rfl rfl rfl (Nat.le_of_ble_eq_true rfl) (Nat.lt_succ_self _) ?_
          refine s_isInY (by first | exact ⟨i_lo _, i_hi _⟩ | omega) (by first | exact ⟨i_lo _, i_hi _⟩ | omega) (by first | exact ⟨i_lo _, i_hi _⟩ | omega) ?_
          refine ⟨_, rfl, ?_⟩
          refine Go_if_eqb (tgt := 39) (pc' := 28) dX12_couples_25 (by decide) rfl (fun c25 => ?_) (fun c25 => ?_)
          · refine Go_iconst (v := iZ (-1)) (pc' := 40) dX12_couples_39 rfl (by decide) ?_
            refine Go_ireturn (ty := .int) dX12_couples_40 rfl rfl ?_
            exact k
          · refine Go_iload_n (pc' := 29) dX12_couples_28 rfl rfl rfl ?_
            refine Go_iconst (v := iZ 0) (pc' := 30) dX12_couples_29 rfl (by decide) ?_
            refine Go_sipush (v := iZ 999) (pc' := 33) dX12_couples_30 rfl (by decide) ?_
            refine Go_callS_i (pc' := 36) (As := [.int _, .int _, .int _]) (st := []) dX12_couples_33 rfl ok_X12_isIn km_RX12_147 rfl (Nat.le_of_ble_eq_true rfl) rfl rfl rfl (Nat.le_of_ble_eq_true rfl) (Nat.lt_succ_self _) ?_
            refine s_isInY (by first | exact ⟨i_lo _, i_hi _⟩ | omega) (by first | exact ⟨i_lo _, i_hi _⟩ | omega) (by first | exact ⟨i_lo _, i_hi _⟩ | omega) ?_
            refine ⟨_, rfl, ?_⟩
            refine Go_if_neb (tgt := 41) (pc' := 39) dX12_couples_36 (by decide) rfl (fun c36 => ?_) (fun c36 => ?_)
            · exfalso; omega
            · refine Go_iconst (v := iZ (-1)) (pc' := 40) dX12_couples_39 rfl (by decide) ?_
              refine Go_ireturn (ty := .int) dX12_couples_40 rfl rfl ?_
              exact k
