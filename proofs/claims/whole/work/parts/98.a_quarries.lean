/-! pair: quarries -/
def nrB (h : HS) (c r : Int) (i : Nat) : Bool := decide (dz (c % 40 - (vi h 85 i).toInt) (c / 40 - (vi h 86 i).toInt) ≤ r)
def wkB (h : HS) (i : Nat) : Bool := decide (8 ≤ (vi h 84 i).toInt % 24 ∧ (vi h 84 i).toInt % 24 ≤ 17 ∧ ¬ (vi h 84 i).toInt / 24 % 7 = 6)
def qz (h : HS) (c r n : Int) : Nat → Nat → Int → Bool
  | 0, _, a => decide (n ≤ a)
  | m + 1, i, a => if nrB h c r i = true then (if wkB h i = true then qz h c r n m (i + 1) (a + 1) else false) else qz h c r n m (i + 1) a
theorem qz_f {h : HS} {c r n : Int} {m i : Nat} {a : Int} (h1 : ¬ nrB h c r i = true) : qz h c r n (m + 1) i a = qz h c r n m (i + 1) a := by show (if _ then _ else _) = _; rw [if_neg h1]
theorem qz_t {h : HS} {c r n : Int} {m i : Nat} {a : Int} (h1 : nrB h c r i = true) (h2 : wkB h i = true) : qz h c r n (m + 1) i a = qz h c r n m (i + 1) (a + 1) := by show (if _ then (if _ then _ else _) else _) = _; rw [if_pos h1, if_pos h2]
theorem qz_n {h : HS} {c r n : Int} {m i : Nat} {a : Int} (h1 : nrB h c r i = true) (h2 : ¬ wkB h i = true) : qz h c r n (m + 1) i a = false := by show (if _ then (if _ then _ else _) else _) = _; rw [if_pos h1, if_neg h2]
set_option maxRecDepth 20000 in
set_option maxHeartbeats 1000000 in
theorem s_work {G : GC} {d mc ms : Nat} {h : HS} {K : Option Value → HS → Prop} {e i : Nat} (S : Shp h) (he : e ≤ 100) (Ct : Cat h 84 85 86 87 0 e) (hi : i < e) (hk : K (some (.int (b2i (wkB h i = true)))) h) : Go G d mc ms M_X1_isAtWork 0 [.ref 83, .int (iZ (i : Int)), un, un] [] h K := by
  obtain ⟨g1, -⟩ := Ct i hi
  refine Go_aload_n (pc' := 1) dX1_isAtWork_0 rfl rfl rfl ?_
  refine Go_getRs (pc' := 4) dX1_isAtWork_1 rfl kf_RX1_9 (by decide) (by decide) rfl (S.b 83 rfl rfl) (S.o 83 rfl rfl rfl) (S.r 83 0 rfl rfl rfl) ?_
  refine Go_iload_n (pc' := 5) dX1_isAtWork_4 rfl rfl rfl ?_
  refine Go_ialoadZ (n := 100) (k := i) (v := (iZ (vi h 84 i).toInt)) (pc' := 6) dX1_isAtWork_5 rfl (S.b 84 rfl rfl) (S.k 84 rfl rfl rfl) rfl (by omega) (by decide) (vi_eta _ _ _) ?_
  refine Go_bipush (v := iZ 24) (pc' := 8) dX1_isAtWork_6 rfl (by decide) ?_
  refine Go_iremP (pc' := 9) dX1_isAtWork_8 rfl (by omega) (by omega) ?_
  refine Go_istore_n (pc' := 10) (lv' := [.ref _, .int _, .int _, un]) dX1_isAtWork_9 rfl rfl (Nat.le_of_ble_eq_true rfl) rfl rfl ?_
  refine Go_aload_n (pc' := 11) dX1_isAtWork_10 rfl rfl rfl ?_
  refine Go_getRs (pc' := 14) dX1_isAtWork_11 rfl kf_RX1_9 (by decide) (by decide) rfl (S.b 83 rfl rfl) (S.o 83 rfl rfl rfl) (S.r 83 0 rfl rfl rfl) ?_
  refine Go_iload_n (pc' := 15) dX1_isAtWork_14 rfl rfl rfl ?_
  refine Go_ialoadZ (n := 100) (k := i) (v := (iZ (vi h 84 i).toInt)) (pc' := 16) dX1_isAtWork_15 rfl (S.b 84 rfl rfl) (S.k 84 rfl rfl rfl) rfl (by omega) (by decide) (vi_eta _ _ _) ?_
  refine Go_bipush (v := iZ 24) (pc' := 18) dX1_isAtWork_16 rfl (by decide) ?_
  refine Go_idivP (pc' := 19) dX1_isAtWork_18 rfl (by omega) (by omega) ?_
  refine Go_istore_n (pc' := 20) (lv' := [.ref _, .int _, .int _, .int _]) dX1_isAtWork_19 rfl rfl (Nat.le_of_ble_eq_true rfl) rfl rfl ?_
  refine Go_iload_n (pc' := 21) dX1_isAtWork_20 rfl rfl rfl ?_
  refine Go_bipush (v := iZ 8) (pc' := 23) dX1_isAtWork_21 rfl (by decide) ?_
  refine Go_icmp_ltY (tgt := 45) (pc' := 26) dX1_isAtWork_23 (by decide) rfl (by first | exact ⟨i_lo _, i_hi _⟩ | omega) (by first | exact ⟨i_lo _, i_hi _⟩ | omega) (fun c23 => ?_) (fun c23 => ?_)
  · refine Go_iconst (v := iZ 0) (pc' := 46) dX1_isAtWork_45 rfl (by decide) ?_
    refine Go_ireturn (ty := .boolean) dX1_isAtWork_46 rfl rfl ?_
    rw [b2i_f (show ¬ wkB h i = true from fun z => by have z := of_decide_eq_true z; omega)] at hk; exact hk
  · refine Go_iload_n (pc' := 27) dX1_isAtWork_26 rfl rfl rfl ?_
    refine Go_bipush (v := iZ 17) (pc' := 29) dX1_isAtWork_27 rfl (by decide) ?_
    refine Go_icmp_gtY (tgt := 45) (pc' := 32) dX1_isAtWork_29 (by decide) rfl (by first | exact ⟨i_lo _, i_hi _⟩ | omega) (by first | exact ⟨i_lo _, i_hi _⟩ | omega) (fun c29 => ?_) (fun c29 => ?_)
    · refine Go_iconst (v := iZ 0) (pc' := 46) dX1_isAtWork_45 rfl (by decide) ?_
      refine Go_ireturn (ty := .boolean) dX1_isAtWork_46 rfl rfl ?_
      rw [b2i_f (show ¬ wkB h i = true from fun z => by have z := of_decide_eq_true z; omega)] at hk; exact hk
    · refine Go_iload_n (pc' := 33) dX1_isAtWork_32 rfl rfl rfl ?_
      refine Go_bipush (v := iZ 7) (pc' := 35) dX1_isAtWork_33 rfl (by decide) ?_
      refine Go_iremP (pc' := 36) dX1_isAtWork_35 rfl (by omega) (by omega) ?_
      refine Go_bipush (v := iZ 6) (pc' := 38) dX1_isAtWork_36 rfl (by decide) ?_
      refine Go_icmp_eqY (tgt := 45) (pc' := 41) dX1_isAtWork_38 (by decide) rfl (by first | exact ⟨i_lo _, i_hi _⟩ | omega) (by first | exact ⟨i_lo _, i_hi _⟩ | omega) (fun c38 => ?_) (fun c38 => ?_)
      · refine Go_iconst (v := iZ 0) (pc' := 46) dX1_isAtWork_45 rfl (by decide) ?_
        refine Go_ireturn (ty := .boolean) dX1_isAtWork_46 rfl rfl ?_
        rw [b2i_f (show ¬ wkB h i = true from fun z => by have z := of_decide_eq_true z; omega)] at hk; exact hk
      · refine Go_iconst (v := iZ 1) (pc' := 42) dX1_isAtWork_41 rfl (by decide) ?_
        refine Go_goto (tgt := 46) dX1_isAtWork_42 (by decide) ?_
        refine Go_ireturn (ty := .boolean) dX1_isAtWork_46 rfl rfl ?_
        rw [b2i_t (show wkB h i = true from decide_eq_true ⟨by omega, by omega, by omega⟩)] at hk; exact hk
set_option maxRecDepth 20000 in
set_option maxHeartbeats 1000000 in
theorem iq_loopC {G : GC} {d mc ms : Nat} {h : HS} {K : Option Value → HS → Prop} {e : Nat} {c r n : Int} (S : Shp h) (R : RD h) (he : e ≤ 100) (ee : vi h 83 5 = iZ (e : Int)) (Ct : Cat h 84 85 86 87 0 e) (hc : 0 ≤ c ∧ c < 1600) (hr : 0 ≤ r ∧ r ≤ 55) (hn : 1 ≤ n ∧ n ≤ 100) : ∀ (m i : Nat) (a : Int), i + m = e → 0 ≤ a ∧ a ≤ i → K (some (.int (b2i (qz h c r n m i a = true)))) h → Go G (d + 2) mc ms M_X11_isQuarry 18 [.ref 64, .int (iZ c), .int (iZ r), .int (iZ n), .int (iZ (c % 40)), .int (iZ (c / 40)), .int (iZ a), .int (iZ (i : Int))] [] h K := by
  intro m
  induction m with
  | zero =>
    intro i a hi ha hk
    refine Go_iload (pc' := 20) dX11_isQuarry_18 rfl rfl ?_
    refine Go_aload_n (pc' := 21) dX11_isQuarry_20 rfl rfl rfl ?_
    refine Go_getRs (pc' := 24) dX11_isQuarry_21 rfl kf_RX11_66 (by decide) (by decide) rfl (S.b 64 rfl rfl) (S.o 64 rfl rfl rfl) (S.r 64 11 rfl rfl rfl) ?_
    refine Go_getIv (v := (iZ (e : Int))) (pc' := 27) dX11_isQuarry_24 rfl kf_RX11_330 (by decide) (by decide) rfl (S.b 83 rfl rfl) (S.o 83 rfl rfl rfl) (ee) ?_
    refine Go_icmp_geY (tgt := 88) (pc' := 30) dX11_isQuarry_27 (by decide) rfl (by first | exact ⟨i_lo _, i_hi _⟩ | omega) (by first | exact ⟨i_lo _, i_hi _⟩ | omega) (fun c27 => ?_) (fun c27 => by exfalso; omega)
    refine Go_iload (pc' := 90) dX11_isQuarry_88 rfl rfl ?_
    refine Go_iload_n (pc' := 91) dX11_isQuarry_90 rfl rfl rfl ?_
    refine Go_icmp_ltY (tgt := 98) (pc' := 94) dX11_isQuarry_91 (by decide) rfl (by first | exact ⟨i_lo _, i_hi _⟩ | omega) (by first | exact ⟨i_lo _, i_hi _⟩ | omega) (fun c91 => ?_) (fun c91 => ?_)
    · refine Go_iconst (v := iZ 0) (pc' := 99) dX11_isQuarry_98 rfl (by decide) ?_
      refine Go_ireturn (ty := .boolean) dX11_isQuarry_99 rfl rfl ?_
      rw [b2i_f (show ¬ qz h c r n 0 i a = true from fun z => by have z := of_decide_eq_true z; omega)] at hk; exact hk
    · refine Go_iconst (v := iZ 1) (pc' := 95) dX11_isQuarry_94 rfl (by decide) ?_
      refine Go_goto (tgt := 99) dX11_isQuarry_95 (by decide) ?_
      refine Go_ireturn (ty := .boolean) dX11_isQuarry_99 rfl rfl ?_
      rw [b2i_t (show qz h c r n 0 i a = true from decide_eq_true (by omega))] at hk; exact hk
  | succ m ih =>
    intro i a hi ha hk
    obtain ⟨g1, g2, g3, g4, g5, g6, g7⟩ := Ct i (by omega)
    rw [Nat.zero_add] at g5 g6
    have zz := (dz_r (X := c % 40 - (vi h 85 i).toInt) (Y := c / 40 - (vi h 86 i).toInt) (by omega) (by omega)).1
    refine Go_iload (pc' := 20) dX11_isQuarry_18 rfl rfl ?_
    refine Go_aload_n (pc' := 21) dX11_isQuarry_20 rfl rfl rfl ?_
    refine Go_getRs (pc' := 24) dX11_isQuarry_21 rfl kf_RX11_66 (by decide) (by decide) rfl (S.b 64 rfl rfl) (S.o 64 rfl rfl rfl) (S.r 64 11 rfl rfl rfl) ?_
    refine Go_getIv (v := (iZ (e : Int))) (pc' := 27) dX11_isQuarry_24 rfl kf_RX11_330 (by decide) (by decide) rfl (S.b 83 rfl rfl) (S.o 83 rfl rfl rfl) (ee) ?_
    refine Go_icmp_geY (tgt := 88) (pc' := 30) dX11_isQuarry_27 (by decide) rfl (by first | exact ⟨i_lo _, i_hi _⟩ | omega) (by first | exact ⟨i_lo _, i_hi _⟩ | omega) (fun c27 => by exfalso; omega) (fun c27 => ?_)
    refine Go_aload_n (pc' := 31) dX11_isQuarry_30 rfl rfl rfl ?_
    refine Go_getRs (pc' := 34) dX11_isQuarry_31 rfl kf_RX11_10 (by decide) (by decide) rfl (S.b 64 rfl rfl) (S.o 64 rfl rfl rfl) (S.r 64 0 rfl rfl rfl) ?_
    refine Go_iload (pc' := 36) dX11_isQuarry_34 rfl rfl ?_
    refine Go_iload (pc' := 38) dX11_isQuarry_36 rfl rfl ?_
    refine Go_aload_n (pc' := 39) dX11_isQuarry_38 rfl rfl rfl ?_
    refine Go_getRs (pc' := 42) dX11_isQuarry_39 rfl kf_RX11_66 (by decide) (by decide) rfl (S.b 64 rfl rfl) (S.o 64 rfl rfl rfl) (S.r 64 11 rfl rfl rfl) ?_
    refine Go_getRs (pc' := 45) dX11_isQuarry_42 rfl kf_RX11_398 (by decide) (by decide) rfl (S.b 83 rfl rfl) (S.o 83 rfl rfl rfl) (S.r 83 1 rfl rfl rfl) ?_
    refine Go_iload (pc' := 47) dX11_isQuarry_45 rfl rfl ?_
    refine Go_ialoadZ (n := 100) (k := i) (v := (iZ (vi h 85 i).toInt)) (pc' := 48) dX11_isQuarry_47 rfl (S.b 85 rfl rfl) (S.k 85 rfl rfl rfl) rfl (by omega) (by decide) (vi_eta _ _ _) ?_
    refine Go_aload_n (pc' := 49) dX11_isQuarry_48 rfl rfl rfl ?_
    refine Go_getRs (pc' := 52) dX11_isQuarry_49 rfl kf_RX11_66 (by decide) (by decide) rfl (S.b 64 rfl rfl) (S.o 64 rfl rfl rfl) (S.r 64 11 rfl rfl rfl) ?_
    refine Go_getRs (pc' := 55) dX11_isQuarry_52 rfl kf_RX11_401 (by decide) (by decide) rfl (S.b 83 rfl rfl) (S.o 83 rfl rfl rfl) (S.r 83 2 rfl rfl rfl) ?_
    refine Go_iload (pc' := 57) dX11_isQuarry_55 rfl rfl ?_
    refine Go_ialoadZ (n := 100) (k := i) (v := (iZ (vi h 86 i).toInt)) (pc' := 58) dX11_isQuarry_57 rfl (S.b 86 rfl rfl) (S.k 86 rfl rfl rfl) rfl (by omega) (by decide) (vi_eta _ _ _) ?_
    refine Go_callV_i (pc' := 61) (As := [.int _, .int _, .int _, .int _]) (st := []) dX11_isQuarry_58 rfl ok_X3_distance km_RX11_357 (S.o 65 rfl rfl rfl) (S.b 65 rfl rfl) ⟨_, _, rfl⟩ rfl (Nat.le_of_ble_eq_true rfl) rfl rfl rfl (Nat.le_of_ble_eq_true rfl) (Nat.lt_succ_self _) ?_
    refine s_dist S R (by omega) (by omega) (by omega) (by omega) ?_
    refine ⟨_, rfl, ?_⟩
    refine Go_iload_n (pc' := 62) dX11_isQuarry_61 rfl rfl rfl ?_
    refine Go_icmp_gtY (tgt := 82) (pc' := 65) dX11_isQuarry_62 (by decide) rfl (by first | exact ⟨i_lo _, i_hi _⟩ | omega) (by first | exact ⟨i_lo _, i_hi _⟩ | omega) (fun c62 => ?_) (fun c62 => ?_)
    · refine Go_iincZ (pc' := 85) (lv' := [.ref _, .int _, .int _, .int _, .int _, .int _, .int _, .int _]) dX11_isQuarry_82 rfl rfl (Nat.le_of_ble_eq_true rfl) rfl rfl ?_
      refine Go_goto (tgt := 18) dX11_isQuarry_85 (by decide) ?_
      rw [qz_f (show ¬ nrB h c r i = true from fun z => by have z := of_decide_eq_true z; omega)] at hk
      exact ih (i + 1) a (by omega) (by omega) hk
    · refine Go_aload_n (pc' := 66) dX11_isQuarry_65 rfl rfl rfl ?_
      refine Go_getRs (pc' := 69) dX11_isQuarry_66 rfl kf_RX11_66 (by decide) (by decide) rfl (S.b 64 rfl rfl) (S.o 64 rfl rfl rfl) (S.r 64 11 rfl rfl rfl) ?_
      refine Go_iload (pc' := 71) dX11_isQuarry_69 rfl rfl ?_
      refine Go_callV_i (pc' := 74) (As := [.int _]) (st := []) dX11_isQuarry_71 rfl ok_X1_isAtWork km_RX11_404 (S.o 83 rfl rfl rfl) (S.b 83 rfl rfl) ⟨_, _, rfl⟩ rfl (Nat.le_of_ble_eq_true rfl) rfl rfl rfl (Nat.le_of_ble_eq_true rfl) (Nat.lt_succ_self _) ?_
      refine s_work S he Ct (by omega) ?_
      refine ⟨_, rfl, ?_⟩
      refine Go_if_neb (tgt := 79) (pc' := 77) dX11_isQuarry_74 (by decide) rfl (fun c74 => ?_) (fun c74 => ?_)
      · refine Go_iincZ (pc' := 82) (lv' := [.ref _, .int _, .int _, .int _, .int _, .int _, .int _, .int _]) dX11_isQuarry_79 rfl rfl (Nat.le_of_ble_eq_true rfl) rfl rfl ?_
        refine Go_iincZ (pc' := 85) (lv' := [.ref _, .int _, .int _, .int _, .int _, .int _, .int _, .int _]) dX11_isQuarry_82 rfl rfl (Nat.le_of_ble_eq_true rfl) rfl rfl ?_
        refine Go_goto (tgt := 18) dX11_isQuarry_85 (by decide) ?_
        rw [qz_t (show nrB h c r i = true from decide_eq_true (by omega)) (c74)] at hk
        exact ih (i + 1) (a + 1) (by omega) (by omega) hk
      · refine Go_iconst (v := iZ 0) (pc' := 78) dX11_isQuarry_77 rfl (by decide) ?_
        refine Go_ireturn (ty := .boolean) dX11_isQuarry_78 rfl rfl ?_
        rw [qz_n (show nrB h c r i = true from decide_eq_true (by omega)) (c74), b2i_f (by decide)] at hk; exact hk
set_option maxRecDepth 20000 in
set_option maxHeartbeats 1000000 in
theorem s_iqC {G : GC} {d mc ms : Nat} {h : HS} {K : Option Value → HS → Prop} {e : Nat} {c r n : Int} (S : Shp h) (R : RD h) (he : e ≤ 100) (ee : vi h 83 5 = iZ (e : Int)) (Ct : Cat h 84 85 86 87 0 e) (hc : 0 ≤ c ∧ c < 1600) (hr : 0 ≤ r ∧ r ≤ 55) (hn : 1 ≤ n ∧ n ≤ 100) (hk : K (some (.int (b2i (qz h c r n e 0 0 = true)))) h) : Go G (d + 2) mc ms M_X11_isQuarry 0 [.ref 64, .int (iZ c), .int (iZ r), .int (iZ n), un, un, un, un] [] h K := by
  refine Go_iload_n (pc' := 1) dX11_isQuarry_0 rfl rfl rfl ?_
  refine Go_bipush (v := iZ 40) (pc' := 3) dX11_isQuarry_1 rfl (by decide) ?_
  refine Go_iremP (pc' := 4) dX11_isQuarry_3 rfl (by omega) (by omega) ?_
  refine Go_istore (pc' := 6) (lv' := [.ref _, .int _, .int _, .int _, .int _, un, un, un]) dX11_isQuarry_4 rfl (Nat.le_of_ble_eq_true rfl) rfl rfl ?_
  refine Go_iload_n (pc' := 7) dX11_isQuarry_6 rfl rfl rfl ?_
  refine Go_bipush (v := iZ 40) (pc' := 9) dX11_isQuarry_7 rfl (by decide) ?_
  refine Go_idivP (pc' := 10) dX11_isQuarry_9 rfl (by omega) (by omega) ?_
  refine Go_istore (pc' := 12) (lv' := [.ref _, .int _, .int _, .int _, .int _, .int _, un, un]) dX11_isQuarry_10 rfl (Nat.le_of_ble_eq_true rfl) rfl rfl ?_
  refine Go_iconst (v := iZ 0) (pc' := 13) dX11_isQuarry_12 rfl (by decide) ?_
  refine Go_istore (pc' := 15) (lv' := [.ref _, .int _, .int _, .int _, .int _, .int _, .int _, un]) dX11_isQuarry_13 rfl (Nat.le_of_ble_eq_true rfl) rfl rfl ?_
  refine Go_iconst (v := iZ 0) (pc' := 16) dX11_isQuarry_15 rfl (by decide) ?_
  refine Go_istore (pc' := 18) (lv' := [.ref _, .int _, .int _, .int _, .int _, .int _, .int _, .int _]) dX11_isQuarry_16 rfl (Nat.le_of_ble_eq_true rfl) rfl rfl ?_
  exact iq_loopC S R he ee Ct hc hr hn e 0 0 (Nat.zero_add e) (by omega) hk
set_option maxRecDepth 20000 in
set_option maxHeartbeats 1000000 in
theorem iq_loopM {G : GC} {d mc ms : Nat} {h : HS} {K : Option Value → HS → Prop} {e : Nat} {c r n : Int} (S : Shp h) (R : RD h) (he : e ≤ 100) (ee : vi h 83 5 = iZ (e : Int)) (Ct : Cat h 84 85 86 87 0 e) (hc : 0 ≤ c ∧ c < 1600) (hr : 0 ≤ r ∧ r ≤ 55) (hn : 1 ≤ n ∧ n ≤ 100) (ee2 : vi h 134 0 = iZ (e : Int)) : ∀ (m i : Nat) (a : Int), i + m = e → 0 ≤ a ∧ a ≤ i → K (some (.int (b2i (qz h c r n m i a = true)))) h → Go G (d + 2) mc ms M_X12_isQuarry 6 [.ref 99, .int (iZ c), .int (iZ r), .int (iZ n), .int (iZ a), .int (iZ (i : Int))] [] h K := by
  intro m
  induction m with
  | zero =>
    intro i a hi ha hk
    refine Go_iload (pc' := 8) dX12_isQuarry_6 rfl rfl ?_
    refine Go_aload_n (pc' := 9) dX12_isQuarry_8 rfl rfl rfl ?_
    refine Go_getRs (pc' := 12) dX12_isQuarry_9 rfl kf_RX12_123 (by decide) (by decide) rfl (S.b 99 rfl rfl) (S.o 99 rfl rfl rfl) (S.r 99 52 rfl rfl rfl) ?_
    refine Go_iconst (v := iZ 0) (pc' := 13) dX12_isQuarry_12 rfl (by decide) ?_
    refine Go_ialoadZ (n := 2) (k := 0) (v := (iZ (e : Int))) (pc' := 14) dX12_isQuarry_13 rfl (S.b 134 rfl rfl) (S.k 134 rfl rfl rfl) rfl (by decide) (by decide) (ee2) ?_
    refine Go_icmp_geY (tgt := 84) (pc' := 17) dX12_isQuarry_14 (by decide) rfl (by first | exact ⟨i_lo _, i_hi _⟩ | omega) (by first | exact ⟨i_lo _, i_hi _⟩ | omega) (fun c14 => ?_) (fun c14 => by exfalso; omega)
    refine Go_iload (pc' := 86) dX12_isQuarry_84 rfl rfl ?_
    refine Go_iload_n (pc' := 87) dX12_isQuarry_86 rfl rfl rfl ?_
    refine Go_icmp_ltY (tgt := 94) (pc' := 90) dX12_isQuarry_87 (by decide) rfl (by first | exact ⟨i_lo _, i_hi _⟩ | omega) (by first | exact ⟨i_lo _, i_hi _⟩ | omega) (fun c87 => ?_) (fun c87 => ?_)
    · refine Go_iconst (v := iZ 0) (pc' := 95) dX12_isQuarry_94 rfl (by decide) ?_
      refine Go_ireturn (ty := .boolean) dX12_isQuarry_95 rfl rfl ?_
      rw [b2i_f (show ¬ qz h c r n 0 i a = true from fun z => by have z := of_decide_eq_true z; omega)] at hk; exact hk
    · refine Go_iconst (v := iZ 1) (pc' := 91) dX12_isQuarry_90 rfl (by decide) ?_
      refine Go_goto (tgt := 95) dX12_isQuarry_91 (by decide) ?_
      refine Go_ireturn (ty := .boolean) dX12_isQuarry_95 rfl rfl ?_
      rw [b2i_t (show qz h c r n 0 i a = true from decide_eq_true (by omega))] at hk; exact hk
  | succ m ih =>
    intro i a hi ha hk
    obtain ⟨g1, g2, g3, g4, g5, g6, g7⟩ := Ct i (by omega)
    rw [Nat.zero_add] at g5 g6
    have zz := (dz_r (X := c % 40 - (vi h 85 i).toInt) (Y := c / 40 - (vi h 86 i).toInt) (by omega) (by omega)).1
    refine Go_iload (pc' := 8) dX12_isQuarry_6 rfl rfl ?_
    refine Go_aload_n (pc' := 9) dX12_isQuarry_8 rfl rfl rfl ?_
    refine Go_getRs (pc' := 12) dX12_isQuarry_9 rfl kf_RX12_123 (by decide) (by decide) rfl (S.b 99 rfl rfl) (S.o 99 rfl rfl rfl) (S.r 99 52 rfl rfl rfl) ?_
    refine Go_iconst (v := iZ 0) (pc' := 13) dX12_isQuarry_12 rfl (by decide) ?_
    refine Go_ialoadZ (n := 2) (k := 0) (v := (iZ (e : Int))) (pc' := 14) dX12_isQuarry_13 rfl (S.b 134 rfl rfl) (S.k 134 rfl rfl rfl) rfl (by decide) (by decide) (ee2) ?_
    refine Go_icmp_geY (tgt := 84) (pc' := 17) dX12_isQuarry_14 (by decide) rfl (by first | exact ⟨i_lo _, i_hi _⟩ | omega) (by first | exact ⟨i_lo _, i_hi _⟩ | omega) (fun c14 => by exfalso; omega) (fun c14 => ?_)
    refine Go_aload_n (pc' := 18) dX12_isQuarry_17 rfl rfl rfl ?_
    refine Go_getRs (pc' := 21) dX12_isQuarry_18 rfl kf_RX12_129 (by decide) (by decide) rfl (S.b 99 rfl rfl) (S.o 99 rfl rfl rfl) (S.r 99 54 rfl rfl rfl) ?_
    refine Go_iload (pc' := 23) dX12_isQuarry_21 rfl rfl ?_
    refine Go_ialoadZ (n := 200) (k := i) (v := (iZ (40 * (vi h 86 i).toInt + (vi h 85 i).toInt))) (pc' := 24) dX12_isQuarry_23 rfl (S.b 136 rfl rfl) (S.k 136 rfl rfl rfl) rfl (by omega) (by decide) (g6) ?_
    refine Go_iload_n (pc' := 25) dX12_isQuarry_24 rfl rfl rfl ?_
    refine Go_callS_i (pc' := 28) (As := [.int _, .int _]) (st := []) dX12_isQuarry_25 rfl ok_X12_distance km_RX12_350 rfl (Nat.le_of_ble_eq_true rfl) rfl rfl rfl (Nat.le_of_ble_eq_true rfl) (Nat.lt_succ_self _) ?_
    refine s_distX (x := (vi h 85 i).toInt) (y := (vi h 86 i).toInt) (u := c % 40) (v := c / 40) (by omega) (by omega) (by omega) (by omega) (by omega) (by omega) ?_
    refine ⟨_, rfl, ?_⟩
    rw [dz_comm]
    refine Go_iload_n (pc' := 29) dX12_isQuarry_28 rfl rfl rfl ?_
    refine Go_icmp_leY (tgt := 35) (pc' := 32) dX12_isQuarry_29 (by decide) rfl (by first | exact ⟨i_lo _, i_hi _⟩ | omega) (by first | exact ⟨i_lo _, i_hi _⟩ | omega) (fun c29 => ?_) (fun c29 => ?_)
    · refine Go_aload_n (pc' := 36) dX12_isQuarry_35 rfl rfl rfl ?_
      refine Go_getRs (pc' := 39) dX12_isQuarry_36 rfl kf_RX12_126 (by decide) (by decide) rfl (S.b 99 rfl rfl) (S.o 99 rfl rfl rfl) (S.r 99 53 rfl rfl rfl) ?_
      refine Go_iload (pc' := 41) dX12_isQuarry_39 rfl rfl ?_
      refine Go_ialoadZ (n := 200) (k := i) (v := (iZ (vi h 84 i).toInt)) (pc' := 42) dX12_isQuarry_41 rfl (S.b 135 rfl rfl) (S.k 135 rfl rfl rfl) rfl (by omega) (by decide) (g5) ?_
      refine Go_bipush (v := iZ 24) (pc' := 44) dX12_isQuarry_42 rfl (by decide) ?_
      refine Go_iremP (pc' := 45) dX12_isQuarry_44 rfl (by omega) (by omega) ?_
      refine Go_bipush (v := iZ 8) (pc' := 47) dX12_isQuarry_45 rfl (by decide) ?_
      refine Go_bipush (v := iZ 17) (pc' := 49) dX12_isQuarry_47 rfl (by decide) ?_
      refine Go_callS_i (pc' := 52) (As := [.int _, .int _, .int _]) (st := []) dX12_isQuarry_49 rfl ok_X12_isIn km_RX12_147 rfl (Nat.le_of_ble_eq_true rfl) rfl rfl rfl (Nat.le_of_ble_eq_true rfl) (Nat.lt_succ_self _) ?_
      refine s_isInY (by first | exact ⟨i_lo _, i_hi _⟩ | omega) (by first | exact ⟨i_lo _, i_hi _⟩ | omega) (by first | exact ⟨i_lo _, i_hi _⟩ | omega) ?_
      refine ⟨_, rfl, ?_⟩
      refine Go_if_eqb (tgt := 73) (pc' := 55) dX12_isQuarry_52 (by decide) rfl (fun c52 => ?_) (fun c52 => ?_)
      · refine Go_iconst (v := iZ 0) (pc' := 74) dX12_isQuarry_73 rfl (by decide) ?_
        refine Go_ireturn (ty := .boolean) dX12_isQuarry_74 rfl rfl ?_
        rw [qz_n (show nrB h c r i = true from decide_eq_true (by omega)) (show ¬ wkB h i = true from fun z => by have z := of_decide_eq_true z; omega), b2i_f (by decide)] at hk; exact hk
      · refine Go_aload_n (pc' := 56) dX12_isQuarry_55 rfl rfl rfl ?_
        refine Go_getRs (pc' := 59) dX12_isQuarry_56 rfl kf_RX12_126 (by decide) (by decide) rfl (S.b 99 rfl rfl) (S.o 99 rfl rfl rfl) (S.r 99 53 rfl rfl rfl) ?_
        refine Go_iload (pc' := 61) dX12_isQuarry_59 rfl rfl ?_
        refine Go_ialoadZ (n := 200) (k := i) (v := (iZ (vi h 84 i).toInt)) (pc' := 62) dX12_isQuarry_61 rfl (S.b 135 rfl rfl) (S.k 135 rfl rfl rfl) rfl (by omega) (by decide) (g5) ?_
        refine Go_bipush (v := iZ 24) (pc' := 64) dX12_isQuarry_62 rfl (by decide) ?_
        refine Go_idivP (pc' := 65) dX12_isQuarry_64 rfl (by omega) (by omega) ?_
        refine Go_bipush (v := iZ 7) (pc' := 67) dX12_isQuarry_65 rfl (by decide) ?_
        refine Go_iremP (pc' := 68) dX12_isQuarry_67 rfl (by omega) (by omega) ?_
        refine Go_bipush (v := iZ 6) (pc' := 70) dX12_isQuarry_68 rfl (by decide) ?_
        refine Go_icmp_neY (tgt := 75) (pc' := 73) dX12_isQuarry_70 (by decide) rfl (by first | exact ⟨i_lo _, i_hi _⟩ | omega) (by first | exact ⟨i_lo _, i_hi _⟩ | omega) (fun c70 => ?_) (fun c70 => ?_)
        · refine Go_iincZ (pc' := 78) (lv' := [.ref _, .int _, .int _, .int _, .int _, .int _]) dX12_isQuarry_75 rfl rfl (Nat.le_of_ble_eq_true rfl) rfl rfl ?_
          refine Go_iincZ (pc' := 81) (lv' := [.ref _, .int _, .int _, .int _, .int _, .int _]) dX12_isQuarry_78 rfl rfl (Nat.le_of_ble_eq_true rfl) rfl rfl ?_
          refine Go_goto (tgt := 6) dX12_isQuarry_81 (by decide) ?_
          rw [qz_t (show nrB h c r i = true from decide_eq_true (by omega)) (show wkB h i = true from decide_eq_true ⟨by omega, by omega, by omega⟩)] at hk
          exact ih (i + 1) (a + 1) (by omega) (by omega) hk
        · refine Go_iconst (v := iZ 0) (pc' := 74) dX12_isQuarry_73 rfl (by decide) ?_
          refine Go_ireturn (ty := .boolean) dX12_isQuarry_74 rfl rfl ?_
          rw [qz_n (show nrB h c r i = true from decide_eq_true (by omega)) (show ¬ wkB h i = true from fun z => by have z := of_decide_eq_true z; omega), b2i_f (by decide)] at hk; exact hk
    · refine Go_goto (tgt := 78) dX12_isQuarry_32 (by decide) ?_
      refine Go_iincZ (pc' := 81) (lv' := [.ref _, .int _, .int _, .int _, .int _, .int _]) dX12_isQuarry_78 rfl rfl (Nat.le_of_ble_eq_true rfl) rfl rfl ?_
      refine Go_goto (tgt := 6) dX12_isQuarry_81 (by decide) ?_
      rw [qz_f (show ¬ nrB h c r i = true from fun z => by have z := of_decide_eq_true z; omega)] at hk
      exact ih (i + 1) a (by omega) (by omega) hk
set_option maxRecDepth 20000 in
set_option maxHeartbeats 1000000 in
theorem s_iqM {G : GC} {d mc ms : Nat} {h : HS} {K : Option Value → HS → Prop} {e : Nat} {c r n : Int} (S : Shp h) (R : RD h) (he : e ≤ 100) (ee : vi h 83 5 = iZ (e : Int)) (Ct : Cat h 84 85 86 87 0 e) (hc : 0 ≤ c ∧ c < 1600) (hr : 0 ≤ r ∧ r ≤ 55) (hn : 1 ≤ n ∧ n ≤ 100) (ee2 : vi h 134 0 = iZ (e : Int)) (hk : K (some (.int (b2i (qz h c r n e 0 0 = true)))) h) : Go G (d + 2) mc ms M_X12_isQuarry 0 [.ref 99, .int (iZ c), .int (iZ r), .int (iZ n), un, un] [] h K := by
  refine Go_iconst (v := iZ 0) (pc' := 1) dX12_isQuarry_0 rfl (by decide) ?_
  refine Go_istore (pc' := 3) (lv' := [.ref _, .int _, .int _, .int _, .int _, un]) dX12_isQuarry_1 rfl (Nat.le_of_ble_eq_true rfl) rfl rfl ?_
  refine Go_iconst (v := iZ 0) (pc' := 4) dX12_isQuarry_3 rfl (by decide) ?_
  refine Go_istore (pc' := 6) (lv' := [.ref _, .int _, .int _, .int _, .int _, .int _]) dX12_isQuarry_4 rfl (Nat.le_of_ble_eq_true rfl) rfl rfl ?_
  exact iq_loopM S R he ee Ct hc hr hn ee2 e 0 0 (Nat.zero_add e) (by omega) hk
def cq (q : Nat → Bool) : Nat → Nat → Int → Int
  | 0, _, a => a
  | m + 1, i, a => cq q m (i + 1) (if q i = true then a + 1 else a)
theorem cq_t {q : Nat → Bool} {m i : Nat} {a : Int} (h : q i = true) : cq q (m + 1) i a = cq q m (i + 1) (a + 1) := by show cq q m (i + 1) (if _ then _ else _) = _; rw [if_pos h]
theorem cq_f {q : Nat → Bool} {m i : Nat} {a : Int} (h : ¬ q i = true) : cq q (m + 1) i a = cq q m (i + 1) a := by show cq q m (i + 1) (if _ then _ else _) = _; rw [if_neg h]
def fq (q : Nat → Bool) : Nat → Nat → Int → Int
  | 0, _, f => f
  | m + 1, i, f => if q i = true then (i : Int) else fq q m (i + 1) f
theorem fq_t {q : Nat → Bool} {m i : Nat} {a : Int} (h : q i = true) : fq q (m + 1) i a = (i : Int) := by show (if _ then _ else _) = _; rw [if_pos h]
theorem fq_f {q : Nat → Bool} {m i : Nat} {a : Int} (h : ¬ q i = true) : fq q (m + 1) i a = fq q m (i + 1) a := by show (if _ then _ else _) = _; rw [if_neg h]
set_option maxRecDepth 20000 in
set_option maxHeartbeats 1000000 in
theorem qr_loop0 {G : GC} {d mc ms : Nat} {h : HS} {K : Option Value → HS → Prop} {e : Nat} {r n : Int} (S : Shp h) (R : RD h) (he : e ≤ 100) (ee : vi h 83 5 = iZ (e : Int)) (Ct : Cat h 84 85 86 87 0 e) (hr : 0 ≤ r ∧ r ≤ 55) (hn : 1 ≤ n ∧ n ≤ 100) : ∀ (m i : Nat) (a : Int), i + m = 1600 → 0 ≤ a ∧ a ≤ i → K (some (.int (iZ (cq (fun i => qz h (i : Int) r n e 0 0) m i a)))) h → Go G (d + 3) mc ms M_X11_quarries 37 [.ref 64, .int (iZ r), .int (iZ n), .int (iZ 0), .int (iZ a), .int (iZ (i : Int))] [] h K := by
  intro m
  induction m with
  | zero =>
    intro i a hi ha hk
    refine Go_iload (pc' := 39) dX11_quarries_37 rfl rfl ?_
    refine Go_sipush (v := iZ 1600) (pc' := 42) dX11_quarries_39 rfl (by decide) ?_
    refine Go_icmp_geY (tgt := 73) (pc' := 45) dX11_quarries_42 (by decide) rfl (by first | exact ⟨i_lo _, i_hi _⟩ | omega) (by first | exact ⟨i_lo _, i_hi _⟩ | omega) (fun c42 => ?_) (fun c42 => by exfalso; omega)
    refine Go_iload_n (pc' := 74) dX11_quarries_73 rfl rfl rfl ?_
    refine Go_iconst (v := iZ 1) (pc' := 75) dX11_quarries_74 rfl (by decide) ?_
    refine Go_icmp_neY (tgt := 82) (pc' := 78) dX11_quarries_75 (by decide) rfl (by first | exact ⟨i_lo _, i_hi _⟩ | omega) (by first | exact ⟨i_lo _, i_hi _⟩ | omega) (fun c75 => ?_) (fun c75 => by exfalso; omega)
    refine Go_iload (pc' := 84) dX11_quarries_82 rfl rfl ?_
    refine Go_ireturn (ty := .int) dX11_quarries_84 rfl rfl ?_
    exact hk
  | succ m ih =>
    intro i a hi ha hk
    refine Go_iload (pc' := 39) dX11_quarries_37 rfl rfl ?_
    refine Go_sipush (v := iZ 1600) (pc' := 42) dX11_quarries_39 rfl (by decide) ?_
    refine Go_icmp_geY (tgt := 73) (pc' := 45) dX11_quarries_42 (by decide) rfl (by first | exact ⟨i_lo _, i_hi _⟩ | omega) (by first | exact ⟨i_lo _, i_hi _⟩ | omega) (fun c42 => by exfalso; omega) (fun c42 => ?_)
    refine Go_aload_n (pc' := 46) dX11_quarries_45 rfl rfl rfl ?_
    refine Go_iload (pc' := 48) dX11_quarries_46 rfl rfl ?_
    refine Go_iload_n (pc' := 49) dX11_quarries_48 rfl rfl rfl ?_
    refine Go_iload_n (pc' := 50) dX11_quarries_49 rfl rfl rfl ?_
    refine Go_callV_i (pc' := 53) (As := [.int _, .int _, .int _]) (st := []) dX11_quarries_50 rfl ok_X11_isQuarry km_RX11_337 (S.o 64 rfl rfl rfl) (S.b 64 rfl rfl) ⟨_, _, rfl⟩ rfl (Nat.le_of_ble_eq_true rfl) rfl rfl rfl (Nat.le_of_ble_eq_true rfl) (Nat.lt_succ_self _) ?_
    refine s_iqC (c := (i : Int)) S R he ee Ct (by omega) hr hn ?_
    refine ⟨_, rfl, ?_⟩
    refine Go_if_eqb (tgt := 67) (pc' := 56) dX11_quarries_53 (by decide) rfl (fun c53 => ?_) (fun c53 => ?_)
    · refine Go_iincZ (pc' := 70) (lv' := [.ref _, .int _, .int _, .int _, .int _, .int _]) dX11_quarries_67 rfl rfl (Nat.le_of_ble_eq_true rfl) rfl rfl ?_
      refine Go_goto (tgt := 37) dX11_quarries_70 (by decide) ?_
      rw [cq_f c53] at hk
      exact ih (i + 1) _ (by omega) (by omega) hk
    · refine Go_iload_n (pc' := 57) dX11_quarries_56 rfl rfl rfl ?_
      refine Go_iconst (v := iZ 1) (pc' := 58) dX11_quarries_57 rfl (by decide) ?_
      refine Go_icmp_neY (tgt := 64) (pc' := 61) dX11_quarries_58 (by decide) rfl (by first | exact ⟨i_lo _, i_hi _⟩ | omega) (by first | exact ⟨i_lo _, i_hi _⟩ | omega) (fun c58 => ?_) (fun c58 => by exfalso; omega)
      refine Go_iincZ (pc' := 67) (lv' := [.ref _, .int _, .int _, .int _, .int _, .int _]) dX11_quarries_64 rfl rfl (Nat.le_of_ble_eq_true rfl) rfl rfl ?_
      refine Go_iincZ (pc' := 70) (lv' := [.ref _, .int _, .int _, .int _, .int _, .int _]) dX11_quarries_67 rfl rfl (Nat.le_of_ble_eq_true rfl) rfl rfl ?_
      refine Go_goto (tgt := 37) dX11_quarries_70 (by decide) ?_
      rw [cq_t c53] at hk
      exact ih (i + 1) _ (by omega) (by omega) hk
set_option maxRecDepth 20000 in
set_option maxHeartbeats 1000000 in
theorem qrM_loop0 {G : GC} {d mc ms : Nat} {h : HS} {K : Option Value → HS → Prop} {e : Nat} {r n : Int} (S : Shp h) (R : RD h) (he : e ≤ 100) (ee : vi h 83 5 = iZ (e : Int)) (Ct : Cat h 84 85 86 87 0 e) (hr : 0 ≤ r ∧ r ≤ 55) (hn : 1 ≤ n ∧ n ≤ 100) (ee2 : vi h 134 0 = iZ (e : Int)) : ∀ (m i : Nat) (a f : Int), i + m = 1600 → 0 ≤ a ∧ a ≤ i → K (some (.int (iZ (cq (fun i => qz h (i : Int) r n e 0 0) m i a)))) h → Go G (d + 3) mc ms M_X12_quarries 40 [.ref 99, .int (iZ r), .int (iZ n), .int (iZ 0), .int (iZ a), .int (iZ f), .int (iZ (i : Int))] [] h K := by
  intro m
  induction m with
  | zero =>
    intro i a f hi ha hk
    refine Go_iload (pc' := 42) dX12_quarries_40 rfl rfl ?_
    refine Go_sipush (v := iZ 1600) (pc' := 45) dX12_quarries_42 rfl (by decide) ?_
    refine Go_icmp_geY (tgt := 85) (pc' := 48) dX12_quarries_45 (by decide) rfl (by first | exact ⟨i_lo _, i_hi _⟩ | omega) (by first | exact ⟨i_lo _, i_hi _⟩ | omega) (fun c45 => ?_) (fun c45 => by exfalso; omega)
    refine Go_iload_n (pc' := 86) dX12_quarries_85 rfl rfl rfl ?_
    refine Go_if_neY (tgt := 94) (pc' := 89) dX12_quarries_86 (by decide) rfl (by first | exact ⟨i_lo _, i_hi _⟩ | omega) (fun c86 => by exfalso; omega) (fun c86 => ?_)
    refine Go_iload (pc' := 91) dX12_quarries_89 rfl rfl ?_
    refine Go_goto (tgt := 96) dX12_quarries_91 (by decide) ?_
    refine Go_ireturn (ty := .int) dX12_quarries_96 rfl rfl ?_
    exact hk
  | succ m ih =>
    intro i a f hi ha hk
    refine Go_iload (pc' := 42) dX12_quarries_40 rfl rfl ?_
    refine Go_sipush (v := iZ 1600) (pc' := 45) dX12_quarries_42 rfl (by decide) ?_
    refine Go_icmp_geY (tgt := 85) (pc' := 48) dX12_quarries_45 (by decide) rfl (by first | exact ⟨i_lo _, i_hi _⟩ | omega) (by first | exact ⟨i_lo _, i_hi _⟩ | omega) (fun c45 => by exfalso; omega) (fun c45 => ?_)
    refine Go_aload_n (pc' := 49) dX12_quarries_48 rfl rfl rfl ?_
    refine Go_iload (pc' := 51) dX12_quarries_49 rfl rfl ?_
    refine Go_iload_n (pc' := 52) dX12_quarries_51 rfl rfl rfl ?_
    refine Go_iload_n (pc' := 53) dX12_quarries_52 rfl rfl rfl ?_
    refine Go_callV_i (pc' := 56) (As := [.int _, .int _, .int _]) (st := []) dX12_quarries_53 rfl ok_X12_isQuarry km_RX12_397 (S.o 99 rfl rfl rfl) (S.b 99 rfl rfl) ⟨_, _, rfl⟩ rfl (Nat.le_of_ble_eq_true rfl) rfl rfl rfl (Nat.le_of_ble_eq_true rfl) (Nat.lt_succ_self _) ?_
    refine s_iqM (c := (i : Int)) S R he ee Ct (by omega) hr hn ee2 ?_
    refine ⟨_, rfl, ?_⟩
    refine Go_if_neb (tgt := 62) (pc' := 59) dX12_quarries_56 (by decide) rfl (fun c56 => ?_) (fun c56 => ?_)
    · refine Go_iload (pc' := 64) dX12_quarries_62 rfl rfl ?_
      refine Go_if_neY (tgt := 72) (pc' := 67) dX12_quarries_64 (by decide) rfl (by first | exact ⟨i_lo _, i_hi _⟩ | omega) (fun c64 => ?_) (fun c64 => ?_)
      · refine Go_iload (pc' := 74) dX12_quarries_72 rfl rfl ?_
        refine Go_istore (pc' := 76) (lv' := [.ref _, .int _, .int _, .int _, .int _, .int _, .int _]) dX12_quarries_74 rfl (Nat.le_of_ble_eq_true rfl) rfl rfl ?_
        refine Go_iincZ (pc' := 79) (lv' := [.ref _, .int _, .int _, .int _, .int _, .int _, .int _]) dX12_quarries_76 rfl rfl (Nat.le_of_ble_eq_true rfl) rfl rfl ?_
        refine Go_iincZ (pc' := 82) (lv' := [.ref _, .int _, .int _, .int _, .int _, .int _, .int _]) dX12_quarries_79 rfl rfl (Nat.le_of_ble_eq_true rfl) rfl rfl ?_
        refine Go_goto (tgt := 40) dX12_quarries_82 (by decide) ?_
        rw [cq_t c56] at hk
        exact ih (i + 1) _ _ (by omega) (by omega) hk
      · refine Go_iload (pc' := 69) dX12_quarries_67 rfl rfl ?_
        refine Go_goto (tgt := 74) dX12_quarries_69 (by decide) ?_
        refine Go_istore (pc' := 76) (lv' := [.ref _, .int _, .int _, .int _, .int _, .int _, .int _]) dX12_quarries_74 rfl (Nat.le_of_ble_eq_true rfl) rfl rfl ?_
        refine Go_iincZ (pc' := 79) (lv' := [.ref _, .int _, .int _, .int _, .int _, .int _, .int _]) dX12_quarries_76 rfl rfl (Nat.le_of_ble_eq_true rfl) rfl rfl ?_
        refine Go_iincZ (pc' := 82) (lv' := [.ref _, .int _, .int _, .int _, .int _, .int _, .int _]) dX12_quarries_79 rfl rfl (Nat.le_of_ble_eq_true rfl) rfl rfl ?_
        refine Go_goto (tgt := 40) dX12_quarries_82 (by decide) ?_
        rw [cq_t c56] at hk
        exact ih (i + 1) _ _ (by omega) (by omega) hk
    · refine Go_goto (tgt := 79) dX12_quarries_59 (by decide) ?_
      refine Go_iincZ (pc' := 82) (lv' := [.ref _, .int _, .int _, .int _, .int _, .int _, .int _]) dX12_quarries_79 rfl rfl (Nat.le_of_ble_eq_true rfl) rfl rfl ?_
      refine Go_goto (tgt := 40) dX12_quarries_82 (by decide) ?_
      rw [cq_f c56] at hk
      exact ih (i + 1) _ _ (by omega) (by omega) hk
set_option maxRecDepth 20000 in
set_option maxHeartbeats 1000000 in
theorem qr_loop1 {G : GC} {d mc ms : Nat} {h : HS} {K : Option Value → HS → Prop} {e : Nat} {r n : Int} (S : Shp h) (R : RD h) (he : e ≤ 100) (ee : vi h 83 5 = iZ (e : Int)) (Ct : Cat h 84 85 86 87 0 e) (hr : 0 ≤ r ∧ r ≤ 55) (hn : 1 ≤ n ∧ n ≤ 100) : ∀ (m i : Nat) (a : Int), i + m = 1600 → 0 ≤ a ∧ a ≤ i → K (some (.int (iZ (fq (fun i => qz h (i : Int) r n e 0 0) m i (-1))))) h → Go G (d + 3) mc ms M_X11_quarries 37 [.ref 64, .int (iZ r), .int (iZ n), .int (iZ 1), .int (iZ a), .int (iZ (i : Int))] [] h K := by
  intro m
  induction m with
  | zero =>
    intro i a hi ha hk
    refine Go_iload (pc' := 39) dX11_quarries_37 rfl rfl ?_
    refine Go_sipush (v := iZ 1600) (pc' := 42) dX11_quarries_39 rfl (by decide) ?_
    refine Go_icmp_geY (tgt := 73) (pc' := 45) dX11_quarries_42 (by decide) rfl (by first | exact ⟨i_lo _, i_hi _⟩ | omega) (by first | exact ⟨i_lo _, i_hi _⟩ | omega) (fun c42 => ?_) (fun c42 => by exfalso; omega)
    refine Go_iload_n (pc' := 74) dX11_quarries_73 rfl rfl rfl ?_
    refine Go_iconst (v := iZ 1) (pc' := 75) dX11_quarries_74 rfl (by decide) ?_
    refine Go_icmp_neY (tgt := 82) (pc' := 78) dX11_quarries_75 (by decide) rfl (by first | exact ⟨i_lo _, i_hi _⟩ | omega) (by first | exact ⟨i_lo _, i_hi _⟩ | omega) (fun c75 => by exfalso; omega) (fun c75 => ?_)
    refine Go_iconst (v := iZ (-1)) (pc' := 79) dX11_quarries_78 rfl (by decide) ?_
    refine Go_goto (tgt := 84) dX11_quarries_79 (by decide) ?_
    refine Go_ireturn (ty := .int) dX11_quarries_84 rfl rfl ?_
    exact hk
  | succ m ih =>
    intro i a hi ha hk
    refine Go_iload (pc' := 39) dX11_quarries_37 rfl rfl ?_
    refine Go_sipush (v := iZ 1600) (pc' := 42) dX11_quarries_39 rfl (by decide) ?_
    refine Go_icmp_geY (tgt := 73) (pc' := 45) dX11_quarries_42 (by decide) rfl (by first | exact ⟨i_lo _, i_hi _⟩ | omega) (by first | exact ⟨i_lo _, i_hi _⟩ | omega) (fun c42 => by exfalso; omega) (fun c42 => ?_)
    refine Go_aload_n (pc' := 46) dX11_quarries_45 rfl rfl rfl ?_
    refine Go_iload (pc' := 48) dX11_quarries_46 rfl rfl ?_
    refine Go_iload_n (pc' := 49) dX11_quarries_48 rfl rfl rfl ?_
    refine Go_iload_n (pc' := 50) dX11_quarries_49 rfl rfl rfl ?_
    refine Go_callV_i (pc' := 53) (As := [.int _, .int _, .int _]) (st := []) dX11_quarries_50 rfl ok_X11_isQuarry km_RX11_337 (S.o 64 rfl rfl rfl) (S.b 64 rfl rfl) ⟨_, _, rfl⟩ rfl (Nat.le_of_ble_eq_true rfl) rfl rfl rfl (Nat.le_of_ble_eq_true rfl) (Nat.lt_succ_self _) ?_
    refine s_iqC (c := (i : Int)) S R he ee Ct (by omega) hr hn ?_
    refine ⟨_, rfl, ?_⟩
    refine Go_if_eqb (tgt := 67) (pc' := 56) dX11_quarries_53 (by decide) rfl (fun c53 => ?_) (fun c53 => ?_)
    · refine Go_iincZ (pc' := 70) (lv' := [.ref _, .int _, .int _, .int _, .int _, .int _]) dX11_quarries_67 rfl rfl (Nat.le_of_ble_eq_true rfl) rfl rfl ?_
      refine Go_goto (tgt := 37) dX11_quarries_70 (by decide) ?_
      rw [fq_f c53] at hk
      exact ih (i + 1) _ (by omega) (by omega) hk
    · refine Go_iload_n (pc' := 57) dX11_quarries_56 rfl rfl rfl ?_
      refine Go_iconst (v := iZ 1) (pc' := 58) dX11_quarries_57 rfl (by decide) ?_
      refine Go_icmp_neY (tgt := 64) (pc' := 61) dX11_quarries_58 (by decide) rfl (by first | exact ⟨i_lo _, i_hi _⟩ | omega) (by first | exact ⟨i_lo _, i_hi _⟩ | omega) (fun c58 => by exfalso; omega) (fun c58 => ?_)
      refine Go_iload (pc' := 63) dX11_quarries_61 rfl rfl ?_
      refine Go_ireturn (ty := .int) dX11_quarries_63 rfl rfl ?_
      rw [fq_t c53] at hk; exact hk
set_option maxRecDepth 20000 in
set_option maxHeartbeats 1000000 in
theorem qrM_loop1 {G : GC} {d mc ms : Nat} {h : HS} {K : Option Value → HS → Prop} {e : Nat} {r n : Int} (S : Shp h) (R : RD h) (he : e ≤ 100) (ee : vi h 83 5 = iZ (e : Int)) (Ct : Cat h 84 85 86 87 0 e) (hr : 0 ≤ r ∧ r ≤ 55) (hn : 1 ≤ n ∧ n ≤ 100) (ee2 : vi h 134 0 = iZ (e : Int)) : ∀ (m i : Nat) (a f : Int), i + m = 1600 → 0 ≤ a ∧ a ≤ i → K (some (.int (iZ (if a = 0 then fq (fun i => qz h (i : Int) r n e 0 0) m i f else f)))) h → Go G (d + 3) mc ms M_X12_quarries 40 [.ref 99, .int (iZ r), .int (iZ n), .int (iZ 1), .int (iZ a), .int (iZ f), .int (iZ (i : Int))] [] h K := by
  intro m
  induction m with
  | zero =>
    intro i a f hi ha hk
    refine Go_iload (pc' := 42) dX12_quarries_40 rfl rfl ?_
    refine Go_sipush (v := iZ 1600) (pc' := 45) dX12_quarries_42 rfl (by decide) ?_
    refine Go_icmp_geY (tgt := 85) (pc' := 48) dX12_quarries_45 (by decide) rfl (by first | exact ⟨i_lo _, i_hi _⟩ | omega) (by first | exact ⟨i_lo _, i_hi _⟩ | omega) (fun c45 => ?_) (fun c45 => by exfalso; omega)
    refine Go_iload_n (pc' := 86) dX12_quarries_85 rfl rfl rfl ?_
    refine Go_if_neY (tgt := 94) (pc' := 89) dX12_quarries_86 (by decide) rfl (by first | exact ⟨i_lo _, i_hi _⟩ | omega) (fun c86 => ?_) (fun c86 => by exfalso; omega)
    refine Go_iload (pc' := 96) dX12_quarries_94 rfl rfl ?_
    refine Go_ireturn (ty := .int) dX12_quarries_96 rfl rfl ?_
    split at hk <;> exact hk
  | succ m ih =>
    intro i a f hi ha hk
    refine Go_iload (pc' := 42) dX12_quarries_40 rfl rfl ?_
    refine Go_sipush (v := iZ 1600) (pc' := 45) dX12_quarries_42 rfl (by decide) ?_
    refine Go_icmp_geY (tgt := 85) (pc' := 48) dX12_quarries_45 (by decide) rfl (by first | exact ⟨i_lo _, i_hi _⟩ | omega) (by first | exact ⟨i_lo _, i_hi _⟩ | omega) (fun c45 => by exfalso; omega) (fun c45 => ?_)
    refine Go_aload_n (pc' := 49) dX12_quarries_48 rfl rfl rfl ?_
    refine Go_iload (pc' := 51) dX12_quarries_49 rfl rfl ?_
    refine Go_iload_n (pc' := 52) dX12_quarries_51 rfl rfl rfl ?_
    refine Go_iload_n (pc' := 53) dX12_quarries_52 rfl rfl rfl ?_
    refine Go_callV_i (pc' := 56) (As := [.int _, .int _, .int _]) (st := []) dX12_quarries_53 rfl ok_X12_isQuarry km_RX12_397 (S.o 99 rfl rfl rfl) (S.b 99 rfl rfl) ⟨_, _, rfl⟩ rfl (Nat.le_of_ble_eq_true rfl) rfl rfl rfl (Nat.le_of_ble_eq_true rfl) (Nat.lt_succ_self _) ?_
    refine s_iqM (c := (i : Int)) S R he ee Ct (by omega) hr hn ee2 ?_
    refine ⟨_, rfl, ?_⟩
    refine Go_if_neb (tgt := 62) (pc' := 59) dX12_quarries_56 (by decide) rfl (fun c56 => ?_) (fun c56 => ?_)
    · refine Go_iload (pc' := 64) dX12_quarries_62 rfl rfl ?_
      refine Go_if_neY (tgt := 72) (pc' := 67) dX12_quarries_64 (by decide) rfl (by first | exact ⟨i_lo _, i_hi _⟩ | omega) (fun c64 => ?_) (fun c64 => ?_)
      · refine Go_iload (pc' := 74) dX12_quarries_72 rfl rfl ?_
        refine Go_istore (pc' := 76) (lv' := [.ref _, .int _, .int _, .int _, .int _, .int _, .int _]) dX12_quarries_74 rfl (Nat.le_of_ble_eq_true rfl) rfl rfl ?_
        refine Go_iincZ (pc' := 79) (lv' := [.ref _, .int _, .int _, .int _, .int _, .int _, .int _]) dX12_quarries_76 rfl rfl (Nat.le_of_ble_eq_true rfl) rfl rfl ?_
        refine Go_iincZ (pc' := 82) (lv' := [.ref _, .int _, .int _, .int _, .int _, .int _, .int _]) dX12_quarries_79 rfl rfl (Nat.le_of_ble_eq_true rfl) rfl rfl ?_
        refine Go_goto (tgt := 40) dX12_quarries_82 (by decide) ?_
        rw [if_neg (by omega)] at hk
        refine ih (i + 1) _ _ (by omega) (by omega) ?_
        rw [if_neg (by omega)]; exact hk
      · refine Go_iload (pc' := 69) dX12_quarries_67 rfl rfl ?_
        refine Go_goto (tgt := 74) dX12_quarries_69 (by decide) ?_
        refine Go_istore (pc' := 76) (lv' := [.ref _, .int _, .int _, .int _, .int _, .int _, .int _]) dX12_quarries_74 rfl (Nat.le_of_ble_eq_true rfl) rfl rfl ?_
        refine Go_iincZ (pc' := 79) (lv' := [.ref _, .int _, .int _, .int _, .int _, .int _, .int _]) dX12_quarries_76 rfl rfl (Nat.le_of_ble_eq_true rfl) rfl rfl ?_
        refine Go_iincZ (pc' := 82) (lv' := [.ref _, .int _, .int _, .int _, .int _, .int _, .int _]) dX12_quarries_79 rfl rfl (Nat.le_of_ble_eq_true rfl) rfl rfl ?_
        refine Go_goto (tgt := 40) dX12_quarries_82 (by decide) ?_
        rw [if_pos (by omega), fq_t c56] at hk
        refine ih (i + 1) _ _ (by omega) (by omega) ?_
        rw [if_neg (by omega)]; exact hk
    · refine Go_goto (tgt := 79) dX12_quarries_59 (by decide) ?_
      refine Go_iincZ (pc' := 82) (lv' := [.ref _, .int _, .int _, .int _, .int _, .int _, .int _]) dX12_quarries_79 rfl rfl (Nat.le_of_ble_eq_true rfl) rfl rfl ?_
      refine Go_goto (tgt := 40) dX12_quarries_82 (by decide) ?_
      rw [fq_f c56] at hk
      exact ih (i + 1) _ _ (by omega) (by omega) hk
set_option maxRecDepth 20000 in
set_option maxHeartbeats 1000000 in
theorem pair37 {G : GC} (a b c : Int32) : PairI G M_X11_quarries M_X12_quarries [.int a, .int b, .int c] := by
  intro h I
  obtain ⟨Az, hva, rfl⟩ := i_eta a
  obtain ⟨Bz, hvb, rfl⟩ := i_eta b
  obtain ⟨Cz, hvc, rfl⟩ := i_eta c
  obtain ⟨e, he, ee⟩ := of_rgZ (b := 100) I.E.1.2
  have ee2 : vi h 134 0 = iZ (e : Int) := I.E.1.1.symm.trans ee
  have Ct := I.E.cat0 ee he
  by_cases hc : (0 ≤ Az ∧ Az ≤ 55) ∧ (1 ≤ Bz ∧ Bz ≤ 100) ∧ (Cz = 0 ∨ Cz = 1)
  · obtain ⟨hr, hn, hz⟩ := hc
    rcases hz with rfl | rfl
    · refine PairI.ro' (fun _ => iZ (cq (fun i => qz h (i : Int) Az Bz e 0 0) 1600 0 0)) h I (fun K k => ?_) (fun K k => ?_)
      · show Go G 60 0 0 M_X11_quarries 0 [.ref 64, .int (iZ Az), .int (iZ Bz), .int (iZ 0), un, un] [] h K
        refine Go_iload_n (pc' := 1) dX11_quarries_0 rfl rfl rfl ?_
        refine Go_iconst (v := iZ 0) (pc' := 2) dX11_quarries_1 rfl (by decide) ?_
        refine Go_bipush (v := iZ 55) (pc' := 4) dX11_quarries_2 rfl (by decide) ?_
        refine Go_callS_i (pc' := 7) (As := [.int _, .int _, .int _]) (st := []) dX11_quarries_4 rfl ok_X11_within km_RX11_94 rfl (Nat.le_of_ble_eq_true rfl) rfl rfl rfl (Nat.le_of_ble_eq_true rfl) (Nat.lt_succ_self _) ?_
        refine s_withinY (by first | exact ⟨i_lo _, i_hi _⟩ | omega) (by first | exact ⟨i_lo _, i_hi _⟩ | omega) (by first | exact ⟨i_lo _, i_hi _⟩ | omega) ?_
        refine ⟨_, rfl, ?_⟩
        refine Go_if_eqb (tgt := 29) (pc' := 10) dX11_quarries_7 (by decide) rfl (fun c7 => by exfalso; omega) (fun c7 => ?_)
        refine Go_iload_n (pc' := 11) dX11_quarries_10 rfl rfl rfl ?_
        refine Go_iconst (v := iZ 1) (pc' := 12) dX11_quarries_11 rfl (by decide) ?_
        refine Go_bipush (v := iZ 100) (pc' := 14) dX11_quarries_12 rfl (by decide) ?_
        refine Go_callS_i (pc' := 17) (As := [.int _, .int _, .int _]) (st := []) dX11_quarries_14 rfl ok_X11_within km_RX11_94 rfl (Nat.le_of_ble_eq_true rfl) rfl rfl rfl (Nat.le_of_ble_eq_true rfl) (Nat.lt_succ_self _) ?_
        refine s_withinY (by first | exact ⟨i_lo _, i_hi _⟩ | omega) (by first | exact ⟨i_lo _, i_hi _⟩ | omega) (by first | exact ⟨i_lo _, i_hi _⟩ | omega) ?_
        refine ⟨_, rfl, ?_⟩
        refine Go_if_eqb (tgt := 29) (pc' := 20) dX11_quarries_17 (by decide) rfl (fun c17 => by exfalso; omega) (fun c17 => ?_)
        refine Go_iload_n (pc' := 21) dX11_quarries_20 rfl rfl rfl ?_
        refine Go_iconst (v := iZ 0) (pc' := 22) dX11_quarries_21 rfl (by decide) ?_
        refine Go_iconst (v := iZ 1) (pc' := 23) dX11_quarries_22 rfl (by decide) ?_
        refine Go_callS_i (pc' := 26) (As := [.int _, .int _, .int _]) (st := []) dX11_quarries_23 rfl ok_X11_within km_RX11_94 rfl (Nat.le_of_ble_eq_true rfl) rfl rfl rfl (Nat.le_of_ble_eq_true rfl) (Nat.lt_succ_self _) ?_
        refine s_withinY (by first | exact ⟨i_lo _, i_hi _⟩ | omega) (by first | exact ⟨i_lo _, i_hi _⟩ | omega) (by first | exact ⟨i_lo _, i_hi _⟩ | omega) ?_
        refine ⟨_, rfl, ?_⟩
        refine Go_if_neb (tgt := 31) (pc' := 29) dX11_quarries_26 (by decide) rfl (fun c26 => ?_) (fun c26 => by exfalso; omega)
        refine Go_iconst (v := iZ 0) (pc' := 32) dX11_quarries_31 rfl (by decide) ?_
        refine Go_istore (pc' := 34) (lv' := [.ref _, .int _, .int _, .int _, .int _, un]) dX11_quarries_32 rfl (Nat.le_of_ble_eq_true rfl) rfl rfl ?_
        refine Go_iconst (v := iZ 0) (pc' := 35) dX11_quarries_34 rfl (by decide) ?_
        refine Go_istore (pc' := 37) (lv' := [.ref _, .int _, .int _, .int _, .int _, .int _]) dX11_quarries_35 rfl (Nat.le_of_ble_eq_true rfl) rfl rfl ?_
        exact qr_loop0 I.S I.D he ee Ct hr hn 1600 0 0 rfl (by omega) k
      · show Go G 60 0 0 M_X12_quarries 0 [.ref 99, .int (iZ Az), .int (iZ Bz), .int (iZ 0), un, un, un] [] h K
        refine Go_iload_n (pc' := 1) dX12_quarries_0 rfl rfl rfl ?_
        refine Go_iconst (v := iZ 0) (pc' := 2) dX12_quarries_1 rfl (by decide) ?_
        refine Go_bipush (v := iZ 55) (pc' := 4) dX12_quarries_2 rfl (by decide) ?_
        refine Go_callS_i (pc' := 7) (As := [.int _, .int _, .int _]) (st := []) dX12_quarries_4 rfl ok_X12_isIn km_RX12_147 rfl (Nat.le_of_ble_eq_true rfl) rfl rfl rfl (Nat.le_of_ble_eq_true rfl) (Nat.lt_succ_self _) ?_
        refine s_isInY (by first | exact ⟨i_lo _, i_hi _⟩ | omega) (by first | exact ⟨i_lo _, i_hi _⟩ | omega) (by first | exact ⟨i_lo _, i_hi _⟩ | omega) ?_
        refine ⟨_, rfl, ?_⟩
        refine Go_if_eqb (tgt := 29) (pc' := 10) dX12_quarries_7 (by decide) rfl (fun c7 => by exfalso; omega) (fun c7 => ?_)
        refine Go_iload_n (pc' := 11) dX12_quarries_10 rfl rfl rfl ?_
        refine Go_iconst (v := iZ 1) (pc' := 12) dX12_quarries_11 rfl (by decide) ?_
        refine Go_bipush (v := iZ 100) (pc' := 14) dX12_quarries_12 rfl (by decide) ?_
        refine Go_callS_i (pc' := 17) (As := [.int _, .int _, .int _]) (st := []) dX12_quarries_14 rfl ok_X12_isIn km_RX12_147 rfl (Nat.le_of_ble_eq_true rfl) rfl rfl rfl (Nat.le_of_ble_eq_true rfl) (Nat.lt_succ_self _) ?_
        refine s_isInY (by first | exact ⟨i_lo _, i_hi _⟩ | omega) (by first | exact ⟨i_lo _, i_hi _⟩ | omega) (by first | exact ⟨i_lo _, i_hi _⟩ | omega) ?_
        refine ⟨_, rfl, ?_⟩
        refine Go_if_eqb (tgt := 29) (pc' := 20) dX12_quarries_17 (by decide) rfl (fun c17 => by exfalso; omega) (fun c17 => ?_)
        refine Go_iload_n (pc' := 21) dX12_quarries_20 rfl rfl rfl ?_
        refine Go_iconst (v := iZ 0) (pc' := 22) dX12_quarries_21 rfl (by decide) ?_
        refine Go_iconst (v := iZ 1) (pc' := 23) dX12_quarries_22 rfl (by decide) ?_
        refine Go_callS_i (pc' := 26) (As := [.int _, .int _, .int _]) (st := []) dX12_quarries_23 rfl ok_X12_isIn km_RX12_147 rfl (Nat.le_of_ble_eq_true rfl) rfl rfl rfl (Nat.le_of_ble_eq_true rfl) (Nat.lt_succ_self _) ?_
        refine s_isInY (by first | exact ⟨i_lo _, i_hi _⟩ | omega) (by first | exact ⟨i_lo _, i_hi _⟩ | omega) (by first | exact ⟨i_lo _, i_hi _⟩ | omega) ?_
        refine ⟨_, rfl, ?_⟩
        refine Go_if_neb (tgt := 31) (pc' := 29) dX12_quarries_26 (by decide) rfl (fun c26 => ?_) (fun c26 => by exfalso; omega)
        refine Go_iconst (v := iZ 0) (pc' := 32) dX12_quarries_31 rfl (by decide) ?_
        refine Go_istore (pc' := 34) (lv' := [.ref _, .int _, .int _, .int _, .int _, un, un]) dX12_quarries_32 rfl (Nat.le_of_ble_eq_true rfl) rfl rfl ?_
        refine Go_iconst (v := iZ (-1)) (pc' := 35) dX12_quarries_34 rfl (by decide) ?_
        refine Go_istore (pc' := 37) (lv' := [.ref _, .int _, .int _, .int _, .int _, .int _, un]) dX12_quarries_35 rfl (Nat.le_of_ble_eq_true rfl) rfl rfl ?_
        refine Go_iconst (v := iZ 0) (pc' := 38) dX12_quarries_37 rfl (by decide) ?_
        refine Go_istore (pc' := 40) (lv' := [.ref _, .int _, .int _, .int _, .int _, .int _, .int _]) dX12_quarries_38 rfl (Nat.le_of_ble_eq_true rfl) rfl rfl ?_
        exact qrM_loop0 I.S I.D he ee Ct hr hn ee2 1600 0 0 (-1) rfl (by omega) (by exact k)
    · refine PairI.ro' (fun _ => iZ (fq (fun i => qz h (i : Int) Az Bz e 0 0) 1600 0 (-1))) h I (fun K k => ?_) (fun K k => ?_)
      · show Go G 60 0 0 M_X11_quarries 0 [.ref 64, .int (iZ Az), .int (iZ Bz), .int (iZ 1), un, un] [] h K
        refine Go_iload_n (pc' := 1) dX11_quarries_0 rfl rfl rfl ?_
        refine Go_iconst (v := iZ 0) (pc' := 2) dX11_quarries_1 rfl (by decide) ?_
        refine Go_bipush (v := iZ 55) (pc' := 4) dX11_quarries_2 rfl (by decide) ?_
        refine Go_callS_i (pc' := 7) (As := [.int _, .int _, .int _]) (st := []) dX11_quarries_4 rfl ok_X11_within km_RX11_94 rfl (Nat.le_of_ble_eq_true rfl) rfl rfl rfl (Nat.le_of_ble_eq_true rfl) (Nat.lt_succ_self _) ?_
        refine s_withinY (by first | exact ⟨i_lo _, i_hi _⟩ | omega) (by first | exact ⟨i_lo _, i_hi _⟩ | omega) (by first | exact ⟨i_lo _, i_hi _⟩ | omega) ?_
        refine ⟨_, rfl, ?_⟩
        refine Go_if_eqb (tgt := 29) (pc' := 10) dX11_quarries_7 (by decide) rfl (fun c7 => by exfalso; omega) (fun c7 => ?_)
        refine Go_iload_n (pc' := 11) dX11_quarries_10 rfl rfl rfl ?_
        refine Go_iconst (v := iZ 1) (pc' := 12) dX11_quarries_11 rfl (by decide) ?_
        refine Go_bipush (v := iZ 100) (pc' := 14) dX11_quarries_12 rfl (by decide) ?_
        refine Go_callS_i (pc' := 17) (As := [.int _, .int _, .int _]) (st := []) dX11_quarries_14 rfl ok_X11_within km_RX11_94 rfl (Nat.le_of_ble_eq_true rfl) rfl rfl rfl (Nat.le_of_ble_eq_true rfl) (Nat.lt_succ_self _) ?_
        refine s_withinY (by first | exact ⟨i_lo _, i_hi _⟩ | omega) (by first | exact ⟨i_lo _, i_hi _⟩ | omega) (by first | exact ⟨i_lo _, i_hi _⟩ | omega) ?_
        refine ⟨_, rfl, ?_⟩
        refine Go_if_eqb (tgt := 29) (pc' := 20) dX11_quarries_17 (by decide) rfl (fun c17 => by exfalso; omega) (fun c17 => ?_)
        refine Go_iload_n (pc' := 21) dX11_quarries_20 rfl rfl rfl ?_
        refine Go_iconst (v := iZ 0) (pc' := 22) dX11_quarries_21 rfl (by decide) ?_
        refine Go_iconst (v := iZ 1) (pc' := 23) dX11_quarries_22 rfl (by decide) ?_
        refine Go_callS_i (pc' := 26) (As := [.int _, .int _, .int _]) (st := []) dX11_quarries_23 rfl ok_X11_within km_RX11_94 rfl (Nat.le_of_ble_eq_true rfl) rfl rfl rfl (Nat.le_of_ble_eq_true rfl) (Nat.lt_succ_self _) ?_
        refine s_withinY (by first | exact ⟨i_lo _, i_hi _⟩ | omega) (by first | exact ⟨i_lo _, i_hi _⟩ | omega) (by first | exact ⟨i_lo _, i_hi _⟩ | omega) ?_
        refine ⟨_, rfl, ?_⟩
        refine Go_if_neb (tgt := 31) (pc' := 29) dX11_quarries_26 (by decide) rfl (fun c26 => ?_) (fun c26 => by exfalso; omega)
        refine Go_iconst (v := iZ 0) (pc' := 32) dX11_quarries_31 rfl (by decide) ?_
        refine Go_istore (pc' := 34) (lv' := [.ref _, .int _, .int _, .int _, .int _, un]) dX11_quarries_32 rfl (Nat.le_of_ble_eq_true rfl) rfl rfl ?_
        refine Go_iconst (v := iZ 0) (pc' := 35) dX11_quarries_34 rfl (by decide) ?_
        refine Go_istore (pc' := 37) (lv' := [.ref _, .int _, .int _, .int _, .int _, .int _]) dX11_quarries_35 rfl (Nat.le_of_ble_eq_true rfl) rfl rfl ?_
        exact qr_loop1 I.S I.D he ee Ct hr hn 1600 0 0 rfl (by omega) k
      · show Go G 60 0 0 M_X12_quarries 0 [.ref 99, .int (iZ Az), .int (iZ Bz), .int (iZ 1), un, un, un] [] h K
        refine Go_iload_n (pc' := 1) dX12_quarries_0 rfl rfl rfl ?_
        refine Go_iconst (v := iZ 0) (pc' := 2) dX12_quarries_1 rfl (by decide) ?_
        refine Go_bipush (v := iZ 55) (pc' := 4) dX12_quarries_2 rfl (by decide) ?_
        refine Go_callS_i (pc' := 7) (As := [.int _, .int _, .int _]) (st := []) dX12_quarries_4 rfl ok_X12_isIn km_RX12_147 rfl (Nat.le_of_ble_eq_true rfl) rfl rfl rfl (Nat.le_of_ble_eq_true rfl) (Nat.lt_succ_self _) ?_
        refine s_isInY (by first | exact ⟨i_lo _, i_hi _⟩ | omega) (by first | exact ⟨i_lo _, i_hi _⟩ | omega) (by first | exact ⟨i_lo _, i_hi _⟩ | omega) ?_
        refine ⟨_, rfl, ?_⟩
        refine Go_if_eqb (tgt := 29) (pc' := 10) dX12_quarries_7 (by decide) rfl (fun c7 => by exfalso; omega) (fun c7 => ?_)
        refine Go_iload_n (pc' := 11) dX12_quarries_10 rfl rfl rfl ?_
        refine Go_iconst (v := iZ 1) (pc' := 12) dX12_quarries_11 rfl (by decide) ?_
        refine Go_bipush (v := iZ 100) (pc' := 14) dX12_quarries_12 rfl (by decide) ?_
        refine Go_callS_i (pc' := 17) (As := [.int _, .int _, .int _]) (st := []) dX12_quarries_14 rfl ok_X12_isIn km_RX12_147 rfl (Nat.le_of_ble_eq_true rfl) rfl rfl rfl (Nat.le_of_ble_eq_true rfl) (Nat.lt_succ_self _) ?_
        refine s_isInY (by first | exact ⟨i_lo _, i_hi _⟩ | omega) (by first | exact ⟨i_lo _, i_hi _⟩ | omega) (by first | exact ⟨i_lo _, i_hi _⟩ | omega) ?_
        refine ⟨_, rfl, ?_⟩
        refine Go_if_eqb (tgt := 29) (pc' := 20) dX12_quarries_17 (by decide) rfl (fun c17 => by exfalso; omega) (fun c17 => ?_)
        refine Go_iload_n (pc' := 21) dX12_quarries_20 rfl rfl rfl ?_
        refine Go_iconst (v := iZ 0) (pc' := 22) dX12_quarries_21 rfl (by decide) ?_
        refine Go_iconst (v := iZ 1) (pc' := 23) dX12_quarries_22 rfl (by decide) ?_
        refine Go_callS_i (pc' := 26) (As := [.int _, .int _, .int _]) (st := []) dX12_quarries_23 rfl ok_X12_isIn km_RX12_147 rfl (Nat.le_of_ble_eq_true rfl) rfl rfl rfl (Nat.le_of_ble_eq_true rfl) (Nat.lt_succ_self _) ?_
        refine s_isInY (by first | exact ⟨i_lo _, i_hi _⟩ | omega) (by first | exact ⟨i_lo _, i_hi _⟩ | omega) (by first | exact ⟨i_lo _, i_hi _⟩ | omega) ?_
        refine ⟨_, rfl, ?_⟩
        refine Go_if_neb (tgt := 31) (pc' := 29) dX12_quarries_26 (by decide) rfl (fun c26 => ?_) (fun c26 => by exfalso; omega)
        refine Go_iconst (v := iZ 0) (pc' := 32) dX12_quarries_31 rfl (by decide) ?_
        refine Go_istore (pc' := 34) (lv' := [.ref _, .int _, .int _, .int _, .int _, un, un]) dX12_quarries_32 rfl (Nat.le_of_ble_eq_true rfl) rfl rfl ?_
        refine Go_iconst (v := iZ (-1)) (pc' := 35) dX12_quarries_34 rfl (by decide) ?_
        refine Go_istore (pc' := 37) (lv' := [.ref _, .int _, .int _, .int _, .int _, .int _, un]) dX12_quarries_35 rfl (Nat.le_of_ble_eq_true rfl) rfl rfl ?_
        refine Go_iconst (v := iZ 0) (pc' := 38) dX12_quarries_37 rfl (by decide) ?_
        refine Go_istore (pc' := 40) (lv' := [.ref _, .int _, .int _, .int _, .int _, .int _, .int _]) dX12_quarries_38 rfl (Nat.le_of_ble_eq_true rfl) rfl rfl ?_
        exact qrM_loop1 I.S I.D he ee Ct hr hn ee2 1600 0 0 (-1) rfl (by omega) (by rw [if_pos rfl]; exact k)
  · refine PairI.ro' (fun _ => iZ (-1)) h I (fun K k => ?_) (fun K k => ?_)
    · show Go G 60 0 0 M_X11_quarries 0 [.ref 64, .int (iZ Az), .int (iZ Bz), .int (iZ Cz), un, un] [] h K
      refine Go_iload_n (pc' := 1) dX11_quarries_0 rfl rfl rfl ?_
      refine Go_iconst (v := iZ 0) (pc' := 2) dX11_quarries_1 rfl (by decide) ?_
      refine Go_bipush (v := iZ 55) (pc' := 4) dX11_quarries_2 rfl (by decide) ?_
      refine Go_callS_i (pc' := 7) (As := [.int _, .int _, .int _]) (st := []) dX11_quarries_4 rfl ok_X11_within km_RX11_94 rfl (Nat.le_of_ble_eq_true rfl) rfl rfl rfl (Nat.le_of_ble_eq_true rfl) (Nat.lt_succ_self _) ?_
      refine s_withinY (by first | exact ⟨i_lo _, i_hi _⟩ | omega) (by first | exact ⟨i_lo _, i_hi _⟩ | omega) (by first | exact ⟨i_lo _, i_hi _⟩ | omega) ?_
      refine ⟨_, rfl, ?_⟩
      refine Go_if_eqb (tgt := 29) (pc' := 10) dX11_quarries_7 (by decide) rfl (fun c7 => ?_) (fun c7 => ?_)
      · refine Go_iconst (v := iZ (-1)) (pc' := 30) dX11_quarries_29 rfl (by decide) ?_
        refine Go_ireturn (ty := .int) dX11_quarries_30 rfl rfl ?_
        exact k
      · refine Go_iload_n (pc' := 11) dX11_quarries_10 rfl rfl rfl ?_
        refine Go_iconst (v := iZ 1) (pc' := 12) dX11_quarries_11 rfl (by decide) ?_
        refine Go_bipush (v := iZ 100) (pc' := 14) dX11_quarries_12 rfl (by decide) ?_
        refine Go_callS_i (pc' := 17) (As := [.int _, .int _, .int _]) (st := []) dX11_quarries_14 rfl ok_X11_within km_RX11_94 rfl (Nat.le_of_ble_eq_true rfl) rfl rfl rfl (Nat.le_of_ble_eq_true rfl) (Nat.lt_succ_self _) ?_
        refine s_withinY (by first | exact ⟨i_lo _, i_hi _⟩ | omega) (by first | exact ⟨i_lo _, i_hi _⟩ | omega) (by first | exact ⟨i_lo _, i_hi _⟩ | omega) ?_
        refine ⟨_, rfl, ?_⟩
        refine Go_if_eqb (tgt := 29) (pc' := 20) dX11_quarries_17 (by decide) rfl (fun c17 => ?_) (fun c17 => ?_)
        · refine Go_iconst (v := iZ (-1)) (pc' := 30) dX11_quarries_29 rfl (by decide) ?_
          refine Go_ireturn (ty := .int) dX11_quarries_30 rfl rfl ?_
          exact k
        · refine Go_iload_n (pc' := 21) dX11_quarries_20 rfl rfl rfl ?_
          refine Go_iconst (v := iZ 0) (pc' := 22) dX11_quarries_21 rfl (by decide) ?_
          refine Go_iconst (v := iZ 1) (pc' := 23) dX11_quarries_22 rfl (by decide) ?_
          refine Go_callS_i (pc' := 26) (As := [.int _, .int _, .int _]) (st := []) dX11_quarries_23 rfl ok_X11_within km_RX11_94 rfl (Nat.le_of_ble_eq_true rfl) rfl rfl rfl (Nat.le_of_ble_eq_true rfl) (Nat.lt_succ_self _) ?_
          refine s_withinY (by first | exact ⟨i_lo _, i_hi _⟩ | omega) (by first | exact ⟨i_lo _, i_hi _⟩ | omega) (by first | exact ⟨i_lo _, i_hi _⟩ | omega) ?_
          refine ⟨_, rfl, ?_⟩
          refine Go_if_neb (tgt := 31) (pc' := 29) dX11_quarries_26 (by decide) rfl (fun c26 => ?_) (fun c26 => ?_)
          · exfalso; omega
          · refine Go_iconst (v := iZ (-1)) (pc' := 30) dX11_quarries_29 rfl (by decide) ?_
            refine Go_ireturn (ty := .int) dX11_quarries_30 rfl rfl ?_
            exact k
    · show Go G 60 0 0 M_X12_quarries 0 [.ref 99, .int (iZ Az), .int (iZ Bz), .int (iZ Cz), un, un, un] [] h K
      refine Go_iload_n (pc' := 1) dX12_quarries_0 rfl rfl rfl ?_
      refine Go_iconst (v := iZ 0) (pc' := 2) dX12_quarries_1 rfl (by decide) ?_
      refine Go_bipush (v := iZ 55) (pc' := 4) dX12_quarries_2 rfl (by decide) ?_
      refine Go_callS_i (pc' := 7) (As := [.int _, .int _, .int _]) (st := []) dX12_quarries_4 rfl ok_X12_isIn km_RX12_147 rfl (Nat.le_of_ble_eq_true rfl) rfl rfl rfl (Nat.le_of_ble_eq_true rfl) (Nat.lt_succ_self _) ?_
      refine s_isInY (by first | exact ⟨i_lo _, i_hi _⟩ | omega) (by first | exact ⟨i_lo _, i_hi _⟩ | omega) (by first | exact ⟨i_lo _, i_hi _⟩ | omega) ?_
      refine ⟨_, rfl, ?_⟩
      refine Go_if_eqb (tgt := 29) (pc' := 10) dX12_quarries_7 (by decide) rfl (fun c7 => ?_) (fun c7 => ?_)
      · refine Go_iconst (v := iZ (-1)) (pc' := 30) dX12_quarries_29 rfl (by decide) ?_
        refine Go_ireturn (ty := .int) dX12_quarries_30 rfl rfl ?_
        exact k
      · refine Go_iload_n (pc' := 11) dX12_quarries_10 rfl rfl rfl ?_
        refine Go_iconst (v := iZ 1) (pc' := 12) dX12_quarries_11 rfl (by decide) ?_
        refine Go_bipush (v := iZ 100) (pc' := 14) dX12_quarries_12 rfl (by decide) ?_
        refine Go_callS_i (pc' := 17) (As := [.int _, .int _, .int _]) (st := []) dX12_quarries_14 rfl ok_X12_isIn km_RX12_147 rfl (Nat.le_of_ble_eq_true rfl) rfl rfl rfl (Nat.le_of_ble_eq_true rfl) (Nat.lt_succ_self _) ?_
        refine s_isInY (by first | exact ⟨i_lo _, i_hi _⟩ | omega) (by first | exact ⟨i_lo _, i_hi _⟩ | omega) (by first | exact ⟨i_lo _, i_hi _⟩ | omega) ?_
        refine ⟨_, rfl, ?_⟩
        refine Go_if_eqb (tgt := 29) (pc' := 20) dX12_quarries_17 (by decide) rfl (fun c17 => ?_) (fun c17 => ?_)
        · refine Go_iconst (v := iZ (-1)) (pc' := 30) dX12_quarries_29 rfl (by decide) ?_
          refine Go_ireturn (ty := .int) dX12_quarries_30 rfl rfl ?_
          exact k
        · refine Go_iload_n (pc' := 21) dX12_quarries_20 rfl rfl rfl ?_
          refine Go_iconst (v := iZ 0) (pc' := 22) dX12_quarries_21 rfl (by decide) ?_
          refine Go_iconst (v := iZ 1) (pc' := 23) dX12_quarries_22 rfl (by decide) ?_
          refine Go_callS_i (pc' := 26) (As := [.int _, .int _, .int _]) (st := []) dX12_quarries_23 rfl ok_X12_isIn km_RX12_147 rfl (Nat.le_of_ble_eq_true rfl) rfl rfl rfl (Nat.le_of_ble_eq_true rfl) (Nat.lt_succ_self _) ?_
          refine s_isInY (by first | exact ⟨i_lo _, i_hi _⟩ | omega) (by first | exact ⟨i_lo _, i_hi _⟩ | omega) (by first | exact ⟨i_lo _, i_hi _⟩ | omega) ?_
          refine ⟨_, rfl, ?_⟩
          refine Go_if_neb (tgt := 31) (pc' := 29) dX12_quarries_26 (by decide) rfl (fun c26 => ?_) (fun c26 => ?_)
          · exfalso; omega
          · refine Go_iconst (v := iZ (-1)) (pc' := 30) dX12_quarries_29 rfl (by decide) ?_
            refine Go_ireturn (ty := .int) dX12_quarries_30 rfl rfl ?_
            exact k
