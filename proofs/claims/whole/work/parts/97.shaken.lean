/-! pairs: shaken, quarries -/
theorem dz_comm (a b c e : Int) : dz (a - b) (c - e) = dz (b - a) (e - c) := by
  unfold dz; rw [show (a - b).natAbs = (b - a).natAbs by omega, show (c - e).natAbs = (e - c).natAbs by omega]
theorem s_distX {G : GC} {d mc ms : Nat} {h : HS} {K : Option Value → HS → Prop} {a b x y u v : Int} (ea : a = 40 * y + x) (eb : b = 40 * v + u) (hx : 0 ≤ x ∧ x ≤ 39) (hy : 0 ≤ y ∧ y ≤ 39) (hu : 0 ≤ u ∧ u ≤ 39) (hv : 0 ≤ v ∧ v ≤ 39) (hk : K (some (.int (iZ (dz (x - u) (y - v))))) h) : Go G d mc ms M_X12_distance 0 [.int (iZ a), .int (iZ b), un, un, un] [] h K := by
  refine s_distM (by omega) (by omega) ?_
  rw [show a % 40 = x by omega, show b % 40 = u by omega, show a / 40 = y by omega, show b / 40 = v by omega]; exact hk
theorem s_fadesX {G : GC} {d mc ms : Nat} {h : HS} {K : Option Value → HS → Prop} {a b x y u v : Int} (ea : a = 40 * y + x) (eb : b = 40 * v + u) (hx : 0 ≤ x ∧ x ≤ 39) (hy : 0 ≤ y ∧ y ≤ 39) (hu : 0 ≤ u ∧ u ≤ 39) (hv : 0 ≤ v ∧ v ≤ 39) (hk : K (some (.int (iZ (fz (dz (x - u) (y - v)))))) h) : Go G (d + 1) mc ms M_X12_fades 0 [.int (iZ a), .int (iZ b)] [] h K := by
  refine s_fades (by omega) (by omega) ?_
  rw [show a % 40 = x by omega, show b % 40 = u by omega, show a / 40 = y by omega, show b / 40 = v by omega]; exact hk
/-- what the catalogue says of its first n entries -/
def Cat (h : HS) (a1 a2 a3 a4 b n : Nat) : Prop := ∀ i, i < n → (0 ≤ (vi h a1 i).toInt ∧ (vi h a1 i).toInt ≤ 239999) ∧ (0 ≤ (vi h a2 i).toInt ∧ (vi h a2 i).toInt ≤ 39) ∧ (0 ≤ (vi h a3 i).toInt ∧ (vi h a3 i).toInt ≤ 39) ∧ (0 ≤ (vi h a4 i).toInt ∧ (vi h a4 i).toInt ≤ 999) ∧ vi h 135 (b + i) = iZ (vi h a1 i).toInt ∧ vi h 136 (b + i) = iZ (40 * (vi h a3 i).toInt + (vi h a2 i).toInt) ∧ vi h 137 (b + i) = iZ (vi h a4 i).toInt
theorem CatR.cat {h : HS} {c b k n : Nat} (R : CatR h c b k) (en : vi h c 5 = iZ (n : Int)) (hn : n ≤ 100) : Cat h (c + 1) (c + 2) (c + 3) (c + 4) b n := by
  intro i hi
  obtain ⟨a1, a2, a3, a4, a5, a6, a7⟩ := R.2 i (by rw [en, iZ_t (by omega)]; omega)
  exact ⟨a2, a3, a4, a7, by rw [← a1, iZ_self], iZ_of a5, by rw [← a6, iZ_self]⟩
theorem RE.cat0 {h : HS} {n : Nat} (R : RE h) (en : vi h 83 5 = iZ (n : Int)) (hn : n ≤ 100) : Cat h 84 85 86 87 0 n := R.c0.cat en hn
theorem RE.cat1 {h : HS} {n : Nat} (R : RE h) (en : vi h 89 5 = iZ (n : Int)) (hn : n ≤ 100) : Cat h 90 91 92 93 100 n := R.c1.cat en hn
/-- what is foretold of the i-th that was felt -/
def ftv (h : HS) (i : Nat) : Int := max 0 ((vi h 87 (vi h 97 i).toInt.toNat).toInt - fz (dz ((vi h 96 i).toInt % 40 - (vi h 85 (vi h 97 i).toInt.toNat).toInt) ((vi h 96 i).toInt / 40 - (vi h 86 (vi h 97 i).toInt.toNat).toInt)))
def Flt (h : HS) (n e : Nat) : Prop := ∀ i, i < n → (0 ≤ (vi h 96 i).toInt ∧ (vi h 96 i).toInt ≤ 1599) ∧ (0 ≤ (vi h 97 i).toInt ∧ (vi h 97 i).toInt < e) ∧ (0 ≤ (vi h 98 i).toInt ∧ (vi h 98 i).toInt ≤ 999) ∧ vi h 138 i = iZ (vi h 96 i).toInt ∧ vi h 139 i = iZ (vi h 97 i).toInt ∧ vi h 140 i = iZ (vi h 98 i).toInt
theorem RF.flt {h : HS} {n e : Nat} (R : RF h) (en : vi h 95 3 = iZ (n : Int)) (hn : n ≤ 100) (ee : vi h 83 5 = iZ (e : Int)) (he : e ≤ 100) : Flt h n e := by
  intro i hi
  obtain ⟨a1, a2, a3, a4, a5, a6⟩ := R.2.2 i (by rw [en, iZ_t (by omega)]; omega)
  rw [ee, iZ_t (by omega)] at a4
  exact ⟨a2, a4, a6, by rw [← a1, iZ_self], by rw [← a3, iZ_self], by rw [← a5, iZ_self]⟩
def acc (f : Nat → Int) : Nat → Nat → Int → Int
  | 0, _, a => a
  | m + 1, i, a => acc f m (i + 1) (a + f i)
set_option maxRecDepth 20000 in
set_option maxHeartbeats 1000000 in
theorem s_ft {G : GC} {d mc ms : Nat} {h : HS} {K : Option Value → HS → Prop} {n e : Nat} (S : Shp h) (R : RD h) (hn : n ≤ 100) (he : e ≤ 100) (en : vi h 95 3 = iZ (n : Int)) (ee : vi h 83 5 = iZ (e : Int)) (F : Flt h n e) (Ct : Cat h 84 85 86 87 0 e) {i : Nat} (hi : i < n) (hk : K (some (.int (iZ (ftv h i)))) h) : Go G (d + 2) mc ms M_X11_foretold 0 [.ref 64, .int (iZ (i : Int)), un, un, un] [] h K := by
  obtain ⟨f1, f2, f3, f4, f5, f6⟩ := F i hi
  obtain ⟨g1, g2, g3, g4, g5, g6, g7⟩ := Ct (vi h 97 i).toInt.toNat (by omega)
  rw [Nat.zero_add] at g5 g6 g7
  have zz := (dz_r (X := (vi h 96 i).toInt % 40 - (vi h 85 (vi h 97 i).toInt.toNat).toInt) (Y := (vi h 96 i).toInt / 40 - (vi h 86 (vi h 97 i).toInt.toNat).toInt) (by omega) (by omega)).1
  have zf := fz_r (x := dz ((vi h 96 i).toInt % 40 - (vi h 85 (vi h 97 i).toInt.toNat).toInt) ((vi h 96 i).toInt / 40 - (vi h 86 (vi h 97 i).toInt.toNat).toInt)) (by omega)
  refine Go_iload_n (pc' := 1) dX11_foretold_0 rfl rfl rfl ?_
  refine Go_iconst (v := iZ 0) (pc' := 2) dX11_foretold_1 rfl (by decide) ?_
  refine Go_aload_n (pc' := 3) dX11_foretold_2 rfl rfl rfl ?_
  refine Go_getRs (pc' := 6) dX11_foretold_3 rfl kf_RX11_76 (by decide) (by decide) rfl (S.b 64 rfl rfl) (S.o 64 rfl rfl rfl) (S.r 64 13 rfl rfl rfl) ?_
  refine Go_getIv (v := (iZ (n : Int))) (pc' := 9) dX11_foretold_6 rfl kf_RX11_342 (by decide) (by decide) rfl (S.b 95 rfl rfl) (S.o 95 rfl rfl rfl) (en) ?_
  refine Go_iconst (v := iZ 1) (pc' := 10) dX11_foretold_9 rfl (by decide) ?_
  refine Go_isubZ (pc' := 11) dX11_foretold_10 rfl ?_
  refine Go_callS_i (pc' := 14) (As := [.int _, .int _, .int _]) (st := []) dX11_foretold_11 rfl ok_X11_within km_RX11_94 rfl (Nat.le_of_ble_eq_true rfl) rfl rfl rfl (Nat.le_of_ble_eq_true rfl) (Nat.lt_succ_self _) ?_
  refine s_withinY (by first | exact ⟨i_lo _, i_hi _⟩ | omega) (by first | exact ⟨i_lo _, i_hi _⟩ | omega) (by first | exact ⟨i_lo _, i_hi _⟩ | omega) ?_
  refine ⟨_, rfl, ?_⟩
  refine Go_if_neb (tgt := 19) (pc' := 17) dX11_foretold_14 (by decide) rfl (fun c14 => ?_) (fun c14 => by exfalso; omega)
  refine Go_aload_n (pc' := 20) dX11_foretold_19 rfl rfl rfl ?_
  refine Go_getRs (pc' := 23) dX11_foretold_20 rfl kf_RX11_76 (by decide) (by decide) rfl (S.b 64 rfl rfl) (S.o 64 rfl rfl rfl) (S.r 64 13 rfl rfl rfl) ?_
  refine Go_getRs (pc' := 26) dX11_foretold_23 rfl kf_RX11_407 (by decide) (by decide) rfl (S.b 95 rfl rfl) (S.o 95 rfl rfl rfl) (S.r 95 0 rfl rfl rfl) ?_
  refine Go_iload_n (pc' := 27) dX11_foretold_26 rfl rfl rfl ?_
  refine Go_ialoadZ (n := 100) (k := i) (v := (iZ (vi h 96 i).toInt)) (pc' := 28) dX11_foretold_27 rfl (S.b 96 rfl rfl) (S.k 96 rfl rfl rfl) rfl (by omega) (by decide) (vi_eta _ _ _) ?_
  refine Go_istore_n (pc' := 29) (lv' := [.ref _, .int _, .int _, un, un]) dX11_foretold_28 rfl rfl (Nat.le_of_ble_eq_true rfl) rfl rfl ?_
  refine Go_aload_n (pc' := 30) dX11_foretold_29 rfl rfl rfl ?_
  refine Go_getRs (pc' := 33) dX11_foretold_30 rfl kf_RX11_76 (by decide) (by decide) rfl (S.b 64 rfl rfl) (S.o 64 rfl rfl rfl) (S.r 64 13 rfl rfl rfl) ?_
  refine Go_getRs (pc' := 36) dX11_foretold_33 rfl kf_RX11_410 (by decide) (by decide) rfl (S.b 95 rfl rfl) (S.o 95 rfl rfl rfl) (S.r 95 1 rfl rfl rfl) ?_
  refine Go_iload_n (pc' := 37) dX11_foretold_36 rfl rfl rfl ?_
  refine Go_ialoadZ (n := 100) (k := i) (v := (iZ (vi h 97 i).toInt)) (pc' := 38) dX11_foretold_37 rfl (S.b 97 rfl rfl) (S.k 97 rfl rfl rfl) rfl (by omega) (by decide) (vi_eta _ _ _) ?_
  refine Go_istore_n (pc' := 39) (lv' := [.ref _, .int _, .int _, .int _, un]) dX11_foretold_38 rfl rfl (Nat.le_of_ble_eq_true rfl) rfl rfl ?_
  refine Go_iload_n (pc' := 40) dX11_foretold_39 rfl rfl rfl ?_
  refine Go_iconst (v := iZ 0) (pc' := 41) dX11_foretold_40 rfl (by decide) ?_
  refine Go_aload_n (pc' := 42) dX11_foretold_41 rfl rfl rfl ?_
  refine Go_getRs (pc' := 45) dX11_foretold_42 rfl kf_RX11_66 (by decide) (by decide) rfl (S.b 64 rfl rfl) (S.o 64 rfl rfl rfl) (S.r 64 11 rfl rfl rfl) ?_
  refine Go_getIv (v := (iZ (e : Int))) (pc' := 48) dX11_foretold_45 rfl kf_RX11_330 (by decide) (by decide) rfl (S.b 83 rfl rfl) (S.o 83 rfl rfl rfl) (ee) ?_
  refine Go_iconst (v := iZ 1) (pc' := 49) dX11_foretold_48 rfl (by decide) ?_
  refine Go_isubZ (pc' := 50) dX11_foretold_49 rfl ?_
  refine Go_callS_i (pc' := 53) (As := [.int _, .int _, .int _]) (st := []) dX11_foretold_50 rfl ok_X11_within km_RX11_94 rfl (Nat.le_of_ble_eq_true rfl) rfl rfl rfl (Nat.le_of_ble_eq_true rfl) (Nat.lt_succ_self _) ?_
  refine s_withinY (by first | exact ⟨i_lo _, i_hi _⟩ | omega) (by first | exact ⟨i_lo _, i_hi _⟩ | omega) (by first | exact ⟨i_lo _, i_hi _⟩ | omega) ?_
  refine ⟨_, rfl, ?_⟩
  refine Go_if_neb (tgt := 58) (pc' := 56) dX11_foretold_53 (by decide) rfl (fun c53 => ?_) (fun c53 => by exfalso; omega)
  refine Go_aload_n (pc' := 59) dX11_foretold_58 rfl rfl rfl ?_
  refine Go_getRs (pc' := 62) dX11_foretold_59 rfl kf_RX11_10 (by decide) (by decide) rfl (S.b 64 rfl rfl) (S.o 64 rfl rfl rfl) (S.r 64 0 rfl rfl rfl) ?_
  refine Go_iload_n (pc' := 63) dX11_foretold_62 rfl rfl rfl ?_
  refine Go_bipush (v := iZ 40) (pc' := 65) dX11_foretold_63 rfl (by decide) ?_
  refine Go_iremP (pc' := 66) dX11_foretold_65 rfl (by omega) (by omega) ?_
  refine Go_iload_n (pc' := 67) dX11_foretold_66 rfl rfl rfl ?_
  refine Go_bipush (v := iZ 40) (pc' := 69) dX11_foretold_67 rfl (by decide) ?_
  refine Go_idivP (pc' := 70) dX11_foretold_69 rfl (by omega) (by omega) ?_
  refine Go_aload_n (pc' := 71) dX11_foretold_70 rfl rfl rfl ?_
  refine Go_getRs (pc' := 74) dX11_foretold_71 rfl kf_RX11_66 (by decide) (by decide) rfl (S.b 64 rfl rfl) (S.o 64 rfl rfl rfl) (S.r 64 11 rfl rfl rfl) ?_
  refine Go_getRs (pc' := 77) dX11_foretold_74 rfl kf_RX11_398 (by decide) (by decide) rfl (S.b 83 rfl rfl) (S.o 83 rfl rfl rfl) (S.r 83 1 rfl rfl rfl) ?_
  refine Go_iload_n (pc' := 78) dX11_foretold_77 rfl rfl rfl ?_
  refine Go_ialoadZ (n := 100) (k := (vi h 97 i).toInt.toNat) (v := (iZ (vi h 85 (vi h 97 i).toInt.toNat).toInt)) (pc' := 79) dX11_foretold_78 rfl (S.b 85 rfl rfl) (S.k 85 rfl rfl rfl) (by omega) (by omega) (by decide) (vi_eta _ _ _) ?_
  refine Go_aload_n (pc' := 80) dX11_foretold_79 rfl rfl rfl ?_
  refine Go_getRs (pc' := 83) dX11_foretold_80 rfl kf_RX11_66 (by decide) (by decide) rfl (S.b 64 rfl rfl) (S.o 64 rfl rfl rfl) (S.r 64 11 rfl rfl rfl) ?_
  refine Go_getRs (pc' := 86) dX11_foretold_83 rfl kf_RX11_401 (by decide) (by decide) rfl (S.b 83 rfl rfl) (S.o 83 rfl rfl rfl) (S.r 83 2 rfl rfl rfl) ?_
  refine Go_iload_n (pc' := 87) dX11_foretold_86 rfl rfl rfl ?_
  refine Go_ialoadZ (n := 100) (k := (vi h 97 i).toInt.toNat) (v := (iZ (vi h 86 (vi h 97 i).toInt.toNat).toInt)) (pc' := 88) dX11_foretold_87 rfl (S.b 86 rfl rfl) (S.k 86 rfl rfl rfl) (by omega) (by omega) (by decide) (vi_eta _ _ _) ?_
  refine Go_callV_i (pc' := 91) (As := [.int _, .int _, .int _, .int _]) (st := []) dX11_foretold_88 rfl ok_X3_distance km_RX11_357 (S.o 65 rfl rfl rfl) (S.b 65 rfl rfl) ⟨_, _, rfl⟩ rfl (Nat.le_of_ble_eq_true rfl) rfl rfl rfl (Nat.le_of_ble_eq_true rfl) (Nat.lt_succ_self _) ?_
  refine s_dist S R (by omega) (by omega) (by omega) (by omega) ?_
  refine ⟨_, rfl, ?_⟩
  refine Go_istore (pc' := 93) (lv' := [.ref _, .int _, .int _, .int _, .int _]) dX11_foretold_91 rfl (Nat.le_of_ble_eq_true rfl) rfl rfl ?_
  refine Go_iconst (v := iZ 0) (pc' := 94) dX11_foretold_93 rfl (by decide) ?_
  refine Go_aload_n (pc' := 95) dX11_foretold_94 rfl rfl rfl ?_
  refine Go_getRs (pc' := 98) dX11_foretold_95 rfl kf_RX11_66 (by decide) (by decide) rfl (S.b 64 rfl rfl) (S.o 64 rfl rfl rfl) (S.r 64 11 rfl rfl rfl) ?_
  refine Go_getRs (pc' := 101) dX11_foretold_98 rfl kf_RX11_395 (by decide) (by decide) rfl (S.b 83 rfl rfl) (S.o 83 rfl rfl rfl) (S.r 83 3 rfl rfl rfl) ?_
  refine Go_iload_n (pc' := 102) dX11_foretold_101 rfl rfl rfl ?_
  refine Go_ialoadZ (n := 100) (k := (vi h 97 i).toInt.toNat) (v := (iZ (vi h 87 (vi h 97 i).toInt.toNat).toInt)) (pc' := 103) dX11_foretold_102 rfl (S.b 87 rfl rfl) (S.k 87 rfl rfl rfl) (by omega) (by omega) (by decide) (vi_eta _ _ _) ?_
  refine Go_iload (pc' := 105) dX11_foretold_103 rfl rfl ?_
  refine Go_callS_i (pc' := 108) (As := [.int _]) (st := [.int _, .int _]) dX11_foretold_105 rfl ok_X11_fading km_RX11_381 rfl (Nat.le_of_ble_eq_true rfl) rfl rfl rfl (Nat.le_of_ble_eq_true rfl) (Nat.lt_succ_self _) ?_
  refine s_fading (by omega) ?_
  refine ⟨_, rfl, ?_⟩
  refine Go_isubZ (pc' := 109) dX11_foretold_108 rfl ?_
  refine Go_callS_i (pc' := 112) (As := [.int _, .int _]) (st := []) dX11_foretold_109 rfl ok_J9_max_7cf53 km_RX11_364 rfl (Nat.le_of_ble_eq_true rfl) rfl rfl rfl (Nat.le_of_ble_eq_true rfl) (Nat.lt_succ_self _) ?_
  refine s_maxY (by first | exact ⟨i_lo _, i_hi _⟩ | omega) (by first | exact ⟨i_lo _, i_hi _⟩ | omega) ?_
  refine ⟨_, rfl, ?_⟩
  refine Go_ireturn (ty := .int) dX11_foretold_112 rfl rfl ?_
  exact hk
set_option maxRecDepth 20000 in
set_option maxHeartbeats 1000000 in
theorem s_ftM {G : GC} {d mc ms : Nat} {h : HS} {K : Option Value → HS → Prop} {n e : Nat} (S : Shp h) (R : RD h) (hn : n ≤ 100) (he : e ≤ 100) (en : vi h 95 3 = iZ (n : Int)) (ee : vi h 83 5 = iZ (e : Int)) (F : Flt h n e) (Ct : Cat h 84 85 86 87 0 e) {i : Nat} (hi : i < n) (hk : K (some (.int (iZ (ftv h i)))) h) : Go G (d + 2) mc ms M_X12_foretold 0 [.ref 99, .int (iZ (i : Int)), un] [] h K := by
  obtain ⟨f1, f2, f3, f4, f5, f6⟩ := F i hi
  obtain ⟨g1, g2, g3, g4, g5, g6, g7⟩ := Ct (vi h 97 i).toInt.toNat (by omega)
  rw [Nat.zero_add] at g5 g6 g7
  have zz := (dz_r (X := (vi h 96 i).toInt % 40 - (vi h 85 (vi h 97 i).toInt.toNat).toInt) (Y := (vi h 96 i).toInt / 40 - (vi h 86 (vi h 97 i).toInt.toNat).toInt) (by omega) (by omega)).1
  have zf := fz_r (x := dz ((vi h 96 i).toInt % 40 - (vi h 85 (vi h 97 i).toInt.toNat).toInt) ((vi h 96 i).toInt / 40 - (vi h 86 (vi h 97 i).toInt.toNat).toInt)) (by omega)
  refine Go_aload_n (pc' := 1) dX12_foretold_0 rfl rfl rfl ?_
  refine Go_getRs (pc' := 4) dX12_foretold_1 rfl kf_RX12_132 (by decide) (by decide) rfl (S.b 99 rfl rfl) (S.o 99 rfl rfl rfl) (S.r 99 55 rfl rfl rfl) ?_
  refine Go_aload_n (pc' := 5) dX12_foretold_4 rfl rfl rfl ?_
  refine Go_getRs (pc' := 8) dX12_foretold_5 rfl kf_RX12_138 (by decide) (by decide) rfl (S.b 99 rfl rfl) (S.o 99 rfl rfl rfl) (S.r 99 57 rfl rfl rfl) ?_
  refine Go_iload_n (pc' := 9) dX12_foretold_8 rfl rfl rfl ?_
  refine Go_ialoadZ (n := 100) (k := i) (v := (iZ (vi h 97 i).toInt)) (pc' := 10) dX12_foretold_9 rfl (S.b 139 rfl rfl) (S.k 139 rfl rfl rfl) rfl (by omega) (by decide) (f5) ?_
  refine Go_ialoadZ (n := 200) (k := (vi h 97 i).toInt.toNat) (v := (iZ (vi h 87 (vi h 97 i).toInt.toNat).toInt)) (pc' := 11) dX12_foretold_10 rfl (S.b 137 rfl rfl) (S.k 137 rfl rfl rfl) (by omega) (by omega) (by decide) (g7) ?_
  refine Go_aload_n (pc' := 12) dX12_foretold_11 rfl rfl rfl ?_
  refine Go_getRs (pc' := 15) dX12_foretold_12 rfl kf_RX12_135 (by decide) (by decide) rfl (S.b 99 rfl rfl) (S.o 99 rfl rfl rfl) (S.r 99 56 rfl rfl rfl) ?_
  refine Go_iload_n (pc' := 16) dX12_foretold_15 rfl rfl rfl ?_
  refine Go_ialoadZ (n := 100) (k := i) (v := (iZ (vi h 96 i).toInt)) (pc' := 17) dX12_foretold_16 rfl (S.b 138 rfl rfl) (S.k 138 rfl rfl rfl) rfl (by omega) (by decide) (f4) ?_
  refine Go_aload_n (pc' := 18) dX12_foretold_17 rfl rfl rfl ?_
  refine Go_getRs (pc' := 21) dX12_foretold_18 rfl kf_RX12_129 (by decide) (by decide) rfl (S.b 99 rfl rfl) (S.o 99 rfl rfl rfl) (S.r 99 54 rfl rfl rfl) ?_
  refine Go_aload_n (pc' := 22) dX12_foretold_21 rfl rfl rfl ?_
  refine Go_getRs (pc' := 25) dX12_foretold_22 rfl kf_RX12_138 (by decide) (by decide) rfl (S.b 99 rfl rfl) (S.o 99 rfl rfl rfl) (S.r 99 57 rfl rfl rfl) ?_
  refine Go_iload_n (pc' := 26) dX12_foretold_25 rfl rfl rfl ?_
  refine Go_ialoadZ (n := 100) (k := i) (v := (iZ (vi h 97 i).toInt)) (pc' := 27) dX12_foretold_26 rfl (S.b 139 rfl rfl) (S.k 139 rfl rfl rfl) rfl (by omega) (by decide) (f5) ?_
  refine Go_ialoadZ (n := 200) (k := (vi h 97 i).toInt.toNat) (v := (iZ (40 * (vi h 86 (vi h 97 i).toInt.toNat).toInt + (vi h 85 (vi h 97 i).toInt.toNat).toInt))) (pc' := 28) dX12_foretold_27 rfl (S.b 136 rfl rfl) (S.k 136 rfl rfl rfl) (by omega) (by omega) (by decide) (g6) ?_
  refine Go_callS_i (pc' := 31) (As := [.int _, .int _]) (st := [.int _]) dX12_foretold_28 rfl ok_X12_fades km_RX12_367 rfl (Nat.le_of_ble_eq_true rfl) rfl rfl rfl (Nat.le_of_ble_eq_true rfl) (Nat.lt_succ_self _) ?_
  refine s_fadesX (x := (vi h 96 i).toInt % 40) (y := (vi h 96 i).toInt / 40) (u := (vi h 85 (vi h 97 i).toInt.toNat).toInt) (v := (vi h 86 (vi h 97 i).toInt.toNat).toInt) (by omega) (by omega) (by omega) (by omega) (by omega) (by omega) ?_
  refine ⟨_, rfl, ?_⟩
  refine Go_isubZ (pc' := 32) dX12_foretold_31 rfl ?_
  refine Go_istore_n (pc' := 33) (lv' := [.ref _, .int _, .int _]) dX12_foretold_32 rfl rfl (Nat.le_of_ble_eq_true rfl) rfl rfl ?_
  refine Go_iload_n (pc' := 34) dX12_foretold_33 rfl rfl rfl ?_
  refine Go_if_geY (tgt := 41) (pc' := 37) dX12_foretold_34 (by decide) rfl (by first | exact ⟨i_lo _, i_hi _⟩ | omega) (fun c34 => ?_) (fun c34 => ?_)
  · refine Go_iload_n (pc' := 42) dX12_foretold_41 rfl rfl rfl ?_
    refine Go_ireturn (ty := .int) dX12_foretold_42 rfl rfl ?_
    rw [show ftv h i = ((vi h 87 (vi h 97 i).toInt.toNat).toInt - (fz (dz ((vi h 96 i).toInt % 40 - (vi h 85 (vi h 97 i).toInt.toNat).toInt) ((vi h 96 i).toInt / 40 - (vi h 86 (vi h 97 i).toInt.toNat).toInt)))) from by unfold ftv; omega] at hk; exact hk
  · refine Go_iconst (v := iZ 0) (pc' := 38) dX12_foretold_37 rfl (by decide) ?_
    refine Go_goto (tgt := 42) dX12_foretold_38 (by decide) ?_
    refine Go_ireturn (ty := .int) dX12_foretold_42 rfl rfl ?_
    rw [show ftv h i = 0 from by unfold ftv; omega] at hk; exact hk
theorem ftv_r {h : HS} {n e i : Nat} (he : e ≤ 100) (F : Flt h n e) (Ct : Cat h 84 85 86 87 0 e) (hi : i < n) : 0 ≤ ftv h i ∧ ftv h i ≤ 999 := by
  obtain ⟨f1, f2, f3, f4, f5, f6⟩ := F i hi
  obtain ⟨g1, g2, g3, g4, g5, g6, g7⟩ := Ct (vi h 97 i).toInt.toNat (by omega)
  rw [Nat.zero_add] at g5 g6 g7
  have zz := (dz_r (X := (vi h 96 i).toInt % 40 - (vi h 85 (vi h 97 i).toInt.toNat).toInt) (Y := (vi h 96 i).toInt / 40 - (vi h 86 (vi h 97 i).toInt.toNat).toInt) (by omega) (by omega)).1
  have zf := fz_r (x := dz ((vi h 96 i).toInt % 40 - (vi h 85 (vi h 97 i).toInt.toNat).toInt) ((vi h 96 i).toInt / 40 - (vi h 86 (vi h 97 i).toInt.toNat).toInt)) (by omega)
  unfold ftv; omega
set_option maxRecDepth 20000 in
set_option maxHeartbeats 1000000 in
theorem str_loop1 {G : GC} {d mc ms : Nat} {h : HS} {K : Option Value → HS → Prop} {n e : Nat} (S : Shp h) (R : RD h) (hn : n ≤ 100) (he : e ≤ 100) (en : vi h 95 3 = iZ (n : Int)) (ee : vi h 83 5 = iZ (e : Int)) (F : Flt h n e) (Ct : Cat h 84 85 86 87 0 e) : ∀ (m i : Nat) (a : Int) (v4 : Value), i + m = n → K (some (.int (iZ (acc (fun i => (((ftv h i - (vi h 98 i).toInt).natAbs : Nat) : Int)) m i a)))) h → Go G (d + 3) mc ms M_X11_strayed 4 [.ref 64, .int (iZ 1), .int (iZ a), .int (iZ (i : Int)), v4] [] h K := by
  intro m
  induction m with
  | zero =>
    intro i a v4 hi hk
    refine Go_iload_n (pc' := 5) dX11_strayed_4 rfl rfl rfl ?_
    refine Go_aload_n (pc' := 6) dX11_strayed_5 rfl rfl rfl ?_
    refine Go_getRs (pc' := 9) dX11_strayed_6 rfl kf_RX11_76 (by decide) (by decide) rfl (S.b 64 rfl rfl) (S.o 64 rfl rfl rfl) (S.r 64 13 rfl rfl rfl) ?_
    refine Go_getIv (v := (iZ (n : Int))) (pc' := 12) dX11_strayed_9 rfl kf_RX11_342 (by decide) (by decide) rfl (S.b 95 rfl rfl) (S.o 95 rfl rfl rfl) (en) ?_
    refine Go_icmp_geY (tgt := 55) (pc' := 15) dX11_strayed_12 (by decide) rfl (by first | exact ⟨i_lo _, i_hi _⟩ | omega) (by first | exact ⟨i_lo _, i_hi _⟩ | omega) (fun c12 => ?_) (fun c12 => by exfalso; omega)
    refine Go_iload_n (pc' := 56) dX11_strayed_55 rfl rfl rfl ?_
    refine Go_ireturn (ty := .int) dX11_strayed_56 rfl rfl ?_
    exact hk
  | succ m ih =>
    intro i a v4 hi hk
    have fr := ftv_r he F Ct (i := i) (by omega)
    obtain ⟨f1, f2, f3, f4, f5, f6⟩ := F i (by omega)
    refine Go_iload_n (pc' := 5) dX11_strayed_4 rfl rfl rfl ?_
    refine Go_aload_n (pc' := 6) dX11_strayed_5 rfl rfl rfl ?_
    refine Go_getRs (pc' := 9) dX11_strayed_6 rfl kf_RX11_76 (by decide) (by decide) rfl (S.b 64 rfl rfl) (S.o 64 rfl rfl rfl) (S.r 64 13 rfl rfl rfl) ?_
    refine Go_getIv (v := (iZ (n : Int))) (pc' := 12) dX11_strayed_9 rfl kf_RX11_342 (by decide) (by decide) rfl (S.b 95 rfl rfl) (S.o 95 rfl rfl rfl) (en) ?_
    refine Go_icmp_geY (tgt := 55) (pc' := 15) dX11_strayed_12 (by decide) rfl (by first | exact ⟨i_lo _, i_hi _⟩ | omega) (by first | exact ⟨i_lo _, i_hi _⟩ | omega) (fun c12 => by exfalso; omega) (fun c12 => ?_)
    refine Go_aload_n (pc' := 16) dX11_strayed_15 rfl rfl rfl ?_
    refine Go_iload_n (pc' := 17) dX11_strayed_16 rfl rfl rfl ?_
    refine Go_callV_i (pc' := 20) (As := [.int _]) (st := []) dX11_strayed_17 rfl ok_X11_foretold km_RX11_349 (S.o 64 rfl rfl rfl) (S.b 64 rfl rfl) ⟨_, _, rfl⟩ rfl (Nat.le_of_ble_eq_true rfl) rfl rfl rfl (Nat.le_of_ble_eq_true rfl) (Nat.lt_succ_self _) ?_
    refine s_ft S R hn he en ee F Ct (i := i) (by omega) ?_
    refine ⟨_, rfl, ?_⟩
    refine Go_aload_n (pc' := 21) dX11_strayed_20 rfl rfl rfl ?_
    refine Go_getRs (pc' := 24) dX11_strayed_21 rfl kf_RX11_76 (by decide) (by decide) rfl (S.b 64 rfl rfl) (S.o 64 rfl rfl rfl) (S.r 64 13 rfl rfl rfl) ?_
    refine Go_getRs (pc' := 27) dX11_strayed_24 rfl kf_RX11_413 (by decide) (by decide) rfl (S.b 95 rfl rfl) (S.o 95 rfl rfl rfl) (S.r 95 2 rfl rfl rfl) ?_
    refine Go_iload_n (pc' := 28) dX11_strayed_27 rfl rfl rfl ?_
    refine Go_ialoadZ (n := 100) (k := i) (v := (iZ (vi h 98 i).toInt)) (pc' := 29) dX11_strayed_28 rfl (S.b 98 rfl rfl) (S.k 98 rfl rfl rfl) rfl (by omega) (by decide) (vi_eta _ _ _) ?_
    refine Go_isubZ (pc' := 30) dX11_strayed_29 rfl ?_
    refine Go_istore (pc' := 32) (lv' := [.ref _, .int _, .int _, .int _, .int _]) dX11_strayed_30 rfl (Nat.le_of_ble_eq_true rfl) rfl rfl ?_
    refine Go_iload_n (pc' := 33) dX11_strayed_32 rfl rfl rfl ?_
    refine Go_iload_n (pc' := 34) dX11_strayed_33 rfl rfl rfl ?_
    refine Go_if_eqY (tgt := 45) (pc' := 37) dX11_strayed_34 (by decide) rfl (by first | exact ⟨i_lo _, i_hi _⟩ | omega) (fun c34 => by exfalso; omega) (fun c34 => ?_)
    refine Go_iload (pc' := 39) dX11_strayed_37 rfl rfl ?_
    refine Go_callS_i (pc' := 42) (As := [.int _]) (st := [.int _]) dX11_strayed_39 rfl ok_J9_abs_0f7a4 km_RX11_392 rfl (Nat.le_of_ble_eq_true rfl) rfl rfl rfl (Nat.le_of_ble_eq_true rfl) (Nat.lt_succ_self _) ?_
    refine s_absY (by omega) ?_
    refine ⟨_, rfl, ?_⟩
    refine Go_goto (tgt := 47) dX11_strayed_42 (by decide) ?_
    refine Go_iaddZ (pc' := 48) dX11_strayed_47 rfl ?_
    refine Go_istore_n (pc' := 49) (lv' := [.ref _, .int _, .int _, .int _, .int _]) dX11_strayed_48 rfl rfl (Nat.le_of_ble_eq_true rfl) rfl rfl ?_
    refine Go_iincZ (pc' := 52) (lv' := [.ref _, .int _, .int _, .int _, .int _]) dX11_strayed_49 rfl rfl (Nat.le_of_ble_eq_true rfl) rfl rfl ?_
    refine Go_goto (tgt := 4) dX11_strayed_52 (by decide) ?_
    exact ih (i + 1) _ _ (by omega) hk
set_option maxRecDepth 20000 in
set_option maxHeartbeats 1000000 in
theorem strM_loop1 {G : GC} {d mc ms : Nat} {h : HS} {K : Option Value → HS → Prop} {n e : Nat} (S : Shp h) (R : RD h) (hn : n ≤ 100) (he : e ≤ 100) (en : vi h 95 3 = iZ (n : Int)) (ee : vi h 83 5 = iZ (e : Int)) (F : Flt h n e) (Ct : Cat h 84 85 86 87 0 e) (en2 : vi h 99 59 = iZ (n : Int)) : ∀ (m i : Nat) (a : Int), i + m = n → K (some (.int (iZ (acc (fun i => (((ftv h i - (vi h 98 i).toInt).natAbs : Nat) : Int)) m i a)))) h → Go G (d + 3) mc ms M_X12_shaken 41 [.ref 99, .int (iZ 0), .int (iZ a), .int (iZ (i : Int))] [] h K := by
  intro m
  induction m with
  | zero =>
    intro i a hi hk
    refine Go_iload_n (pc' := 42) dX12_shaken_41 rfl rfl rfl ?_
    refine Go_aload_n (pc' := 43) dX12_shaken_42 rfl rfl rfl ?_
    refine Go_getIv (v := (iZ (n : Int))) (pc' := 46) dX12_shaken_43 rfl kf_RX12_400 (by decide) (by decide) rfl (S.b 99 rfl rfl) (S.o 99 rfl rfl rfl) (en2) ?_
    refine Go_icmp_geY (tgt := 92) (pc' := 49) dX12_shaken_46 (by decide) rfl (by first | exact ⟨i_lo _, i_hi _⟩ | omega) (by first | exact ⟨i_lo _, i_hi _⟩ | omega) (fun c46 => ?_) (fun c46 => by exfalso; omega)
    refine Go_iload_n (pc' := 93) dX12_shaken_92 rfl rfl rfl ?_
    refine Go_ireturn (ty := .int) dX12_shaken_93 rfl rfl ?_
    exact hk
  | succ m ih =>
    intro i a hi hk
    have fr := ftv_r he F Ct (i := i) (by omega)
    obtain ⟨f1, f2, f3, f4, f5, f6⟩ := F i (by omega)
    refine Go_iload_n (pc' := 42) dX12_shaken_41 rfl rfl rfl ?_
    refine Go_aload_n (pc' := 43) dX12_shaken_42 rfl rfl rfl ?_
    refine Go_getIv (v := (iZ (n : Int))) (pc' := 46) dX12_shaken_43 rfl kf_RX12_400 (by decide) (by decide) rfl (S.b 99 rfl rfl) (S.o 99 rfl rfl rfl) (en2) ?_
    refine Go_icmp_geY (tgt := 92) (pc' := 49) dX12_shaken_46 (by decide) rfl (by first | exact ⟨i_lo _, i_hi _⟩ | omega) (by first | exact ⟨i_lo _, i_hi _⟩ | omega) (fun c46 => by exfalso; omega) (fun c46 => ?_)
    refine Go_iload_n (pc' := 50) dX12_shaken_49 rfl rfl rfl ?_
    refine Go_iload_n (pc' := 51) dX12_shaken_50 rfl rfl rfl ?_
    refine Go_if_neY (tgt := 72) (pc' := 54) dX12_shaken_51 (by decide) rfl (by first | exact ⟨i_lo _, i_hi _⟩ | omega) (fun c51 => by exfalso; omega) (fun c51 => ?_)
    refine Go_aload_n (pc' := 55) dX12_shaken_54 rfl rfl rfl ?_
    refine Go_iload_n (pc' := 56) dX12_shaken_55 rfl rfl rfl ?_
    refine Go_callV_i (pc' := 59) (As := [.int _]) (st := [.int _]) dX12_shaken_56 rfl ok_X12_foretold km_RX12_403 (S.o 99 rfl rfl rfl) (S.b 99 rfl rfl) ⟨_, _, rfl⟩ rfl (Nat.le_of_ble_eq_true rfl) rfl rfl rfl (Nat.le_of_ble_eq_true rfl) (Nat.lt_succ_self _) ?_
    refine s_ftM S R hn he en ee F Ct (i := i) (by omega) ?_
    refine ⟨_, rfl, ?_⟩
    refine Go_aload_n (pc' := 60) dX12_shaken_59 rfl rfl rfl ?_
    refine Go_getRs (pc' := 63) dX12_shaken_60 rfl kf_RX12_141 (by decide) (by decide) rfl (S.b 99 rfl rfl) (S.o 99 rfl rfl rfl) (S.r 99 58 rfl rfl rfl) ?_
    refine Go_iload_n (pc' := 64) dX12_shaken_63 rfl rfl rfl ?_
    refine Go_ialoadZ (n := 100) (k := i) (v := (iZ (vi h 98 i).toInt)) (pc' := 65) dX12_shaken_64 rfl (S.b 140 rfl rfl) (S.k 140 rfl rfl rfl) rfl (by omega) (by decide) (f6) ?_
    refine Go_isubZ (pc' := 66) dX12_shaken_65 rfl ?_
    refine Go_callS_i (pc' := 69) (As := [.int _]) (st := [.int _]) dX12_shaken_66 rfl ok_X12_far km_RX12_192 rfl (Nat.le_of_ble_eq_true rfl) rfl rfl rfl (Nat.le_of_ble_eq_true rfl) (Nat.lt_succ_self _) ?_
    refine s_farY (by omega) ?_
    refine ⟨_, rfl, ?_⟩
    refine Go_goto (tgt := 84) dX12_shaken_69 (by decide) ?_
    refine Go_iaddZ (pc' := 85) dX12_shaken_84 rfl ?_
    refine Go_istore_n (pc' := 86) (lv' := [.ref _, .int _, .int _, .int _]) dX12_shaken_85 rfl rfl (Nat.le_of_ble_eq_true rfl) rfl rfl ?_
    refine Go_iincZ (pc' := 89) (lv' := [.ref _, .int _, .int _, .int _]) dX12_shaken_86 rfl rfl (Nat.le_of_ble_eq_true rfl) rfl rfl ?_
    refine Go_goto (tgt := 41) dX12_shaken_89 (by decide) ?_
    exact ih (i + 1) _ (by omega) hk
set_option maxRecDepth 20000 in
set_option maxHeartbeats 1000000 in
theorem str_loop0 {G : GC} {d mc ms : Nat} {h : HS} {K : Option Value → HS → Prop} {n e : Nat} (S : Shp h) (R : RD h) (hn : n ≤ 100) (he : e ≤ 100) (en : vi h 95 3 = iZ (n : Int)) (ee : vi h 83 5 = iZ (e : Int)) (F : Flt h n e) (Ct : Cat h 84 85 86 87 0 e) : ∀ (m i : Nat) (a : Int) (v4 : Value), i + m = n → K (some (.int (iZ (acc (fun i => ftv h i - (vi h 98 i).toInt) m i a)))) h → Go G (d + 3) mc ms M_X11_strayed 4 [.ref 64, .int (iZ 0), .int (iZ a), .int (iZ (i : Int)), v4] [] h K := by
  intro m
  induction m with
  | zero =>
    intro i a v4 hi hk
    refine Go_iload_n (pc' := 5) dX11_strayed_4 rfl rfl rfl ?_
    refine Go_aload_n (pc' := 6) dX11_strayed_5 rfl rfl rfl ?_
    refine Go_getRs (pc' := 9) dX11_strayed_6 rfl kf_RX11_76 (by decide) (by decide) rfl (S.b 64 rfl rfl) (S.o 64 rfl rfl rfl) (S.r 64 13 rfl rfl rfl) ?_
    refine Go_getIv (v := (iZ (n : Int))) (pc' := 12) dX11_strayed_9 rfl kf_RX11_342 (by decide) (by decide) rfl (S.b 95 rfl rfl) (S.o 95 rfl rfl rfl) (en) ?_
    refine Go_icmp_geY (tgt := 55) (pc' := 15) dX11_strayed_12 (by decide) rfl (by first | exact ⟨i_lo _, i_hi _⟩ | omega) (by first | exact ⟨i_lo _, i_hi _⟩ | omega) (fun c12 => ?_) (fun c12 => by exfalso; omega)
    refine Go_iload_n (pc' := 56) dX11_strayed_55 rfl rfl rfl ?_
    refine Go_ireturn (ty := .int) dX11_strayed_56 rfl rfl ?_
    exact hk
  | succ m ih =>
    intro i a v4 hi hk
    have fr := ftv_r he F Ct (i := i) (by omega)
    obtain ⟨f1, f2, f3, f4, f5, f6⟩ := F i (by omega)
    refine Go_iload_n (pc' := 5) dX11_strayed_4 rfl rfl rfl ?_
    refine Go_aload_n (pc' := 6) dX11_strayed_5 rfl rfl rfl ?_
    refine Go_getRs (pc' := 9) dX11_strayed_6 rfl kf_RX11_76 (by decide) (by decide) rfl (S.b 64 rfl rfl) (S.o 64 rfl rfl rfl) (S.r 64 13 rfl rfl rfl) ?_
    refine Go_getIv (v := (iZ (n : Int))) (pc' := 12) dX11_strayed_9 rfl kf_RX11_342 (by decide) (by decide) rfl (S.b 95 rfl rfl) (S.o 95 rfl rfl rfl) (en) ?_
    refine Go_icmp_geY (tgt := 55) (pc' := 15) dX11_strayed_12 (by decide) rfl (by first | exact ⟨i_lo _, i_hi _⟩ | omega) (by first | exact ⟨i_lo _, i_hi _⟩ | omega) (fun c12 => by exfalso; omega) (fun c12 => ?_)
    refine Go_aload_n (pc' := 16) dX11_strayed_15 rfl rfl rfl ?_
    refine Go_iload_n (pc' := 17) dX11_strayed_16 rfl rfl rfl ?_
    refine Go_callV_i (pc' := 20) (As := [.int _]) (st := []) dX11_strayed_17 rfl ok_X11_foretold km_RX11_349 (S.o 64 rfl rfl rfl) (S.b 64 rfl rfl) ⟨_, _, rfl⟩ rfl (Nat.le_of_ble_eq_true rfl) rfl rfl rfl (Nat.le_of_ble_eq_true rfl) (Nat.lt_succ_self _) ?_
    refine s_ft S R hn he en ee F Ct (i := i) (by omega) ?_
    refine ⟨_, rfl, ?_⟩
    refine Go_aload_n (pc' := 21) dX11_strayed_20 rfl rfl rfl ?_
    refine Go_getRs (pc' := 24) dX11_strayed_21 rfl kf_RX11_76 (by decide) (by decide) rfl (S.b 64 rfl rfl) (S.o 64 rfl rfl rfl) (S.r 64 13 rfl rfl rfl) ?_
    refine Go_getRs (pc' := 27) dX11_strayed_24 rfl kf_RX11_413 (by decide) (by decide) rfl (S.b 95 rfl rfl) (S.o 95 rfl rfl rfl) (S.r 95 2 rfl rfl rfl) ?_
    refine Go_iload_n (pc' := 28) dX11_strayed_27 rfl rfl rfl ?_
    refine Go_ialoadZ (n := 100) (k := i) (v := (iZ (vi h 98 i).toInt)) (pc' := 29) dX11_strayed_28 rfl (S.b 98 rfl rfl) (S.k 98 rfl rfl rfl) rfl (by omega) (by decide) (vi_eta _ _ _) ?_
    refine Go_isubZ (pc' := 30) dX11_strayed_29 rfl ?_
    refine Go_istore (pc' := 32) (lv' := [.ref _, .int _, .int _, .int _, .int _]) dX11_strayed_30 rfl (Nat.le_of_ble_eq_true rfl) rfl rfl ?_
    refine Go_iload_n (pc' := 33) dX11_strayed_32 rfl rfl rfl ?_
    refine Go_iload_n (pc' := 34) dX11_strayed_33 rfl rfl rfl ?_
    refine Go_if_eqY (tgt := 45) (pc' := 37) dX11_strayed_34 (by decide) rfl (by first | exact ⟨i_lo _, i_hi _⟩ | omega) (fun c34 => ?_) (fun c34 => by exfalso; omega)
    refine Go_iload (pc' := 47) dX11_strayed_45 rfl rfl ?_
    refine Go_iaddZ (pc' := 48) dX11_strayed_47 rfl ?_
    refine Go_istore_n (pc' := 49) (lv' := [.ref _, .int _, .int _, .int _, .int _]) dX11_strayed_48 rfl rfl (Nat.le_of_ble_eq_true rfl) rfl rfl ?_
    refine Go_iincZ (pc' := 52) (lv' := [.ref _, .int _, .int _, .int _, .int _]) dX11_strayed_49 rfl rfl (Nat.le_of_ble_eq_true rfl) rfl rfl ?_
    refine Go_goto (tgt := 4) dX11_strayed_52 (by decide) ?_
    exact ih (i + 1) _ _ (by omega) hk
set_option maxRecDepth 20000 in
set_option maxHeartbeats 1000000 in
theorem strM_loop0 {G : GC} {d mc ms : Nat} {h : HS} {K : Option Value → HS → Prop} {n e : Nat} (S : Shp h) (R : RD h) (hn : n ≤ 100) (he : e ≤ 100) (en : vi h 95 3 = iZ (n : Int)) (ee : vi h 83 5 = iZ (e : Int)) (F : Flt h n e) (Ct : Cat h 84 85 86 87 0 e) (en2 : vi h 99 59 = iZ (n : Int)) : ∀ (m i : Nat) (a : Int), i + m = n → K (some (.int (iZ (acc (fun i => ftv h i - (vi h 98 i).toInt) m i a)))) h → Go G (d + 3) mc ms M_X12_shaken 41 [.ref 99, .int (iZ 1), .int (iZ a), .int (iZ (i : Int))] [] h K := by
  intro m
  induction m with
  | zero =>
    intro i a hi hk
    refine Go_iload_n (pc' := 42) dX12_shaken_41 rfl rfl rfl ?_
    refine Go_aload_n (pc' := 43) dX12_shaken_42 rfl rfl rfl ?_
    refine Go_getIv (v := (iZ (n : Int))) (pc' := 46) dX12_shaken_43 rfl kf_RX12_400 (by decide) (by decide) rfl (S.b 99 rfl rfl) (S.o 99 rfl rfl rfl) (en2) ?_
    refine Go_icmp_geY (tgt := 92) (pc' := 49) dX12_shaken_46 (by decide) rfl (by first | exact ⟨i_lo _, i_hi _⟩ | omega) (by first | exact ⟨i_lo _, i_hi _⟩ | omega) (fun c46 => ?_) (fun c46 => by exfalso; omega)
    refine Go_iload_n (pc' := 93) dX12_shaken_92 rfl rfl rfl ?_
    refine Go_ireturn (ty := .int) dX12_shaken_93 rfl rfl ?_
    exact hk
  | succ m ih =>
    intro i a hi hk
    have fr := ftv_r he F Ct (i := i) (by omega)
    obtain ⟨f1, f2, f3, f4, f5, f6⟩ := F i (by omega)
    refine Go_iload_n (pc' := 42) dX12_shaken_41 rfl rfl rfl ?_
    refine Go_aload_n (pc' := 43) dX12_shaken_42 rfl rfl rfl ?_
    refine Go_getIv (v := (iZ (n : Int))) (pc' := 46) dX12_shaken_43 rfl kf_RX12_400 (by decide) (by decide) rfl (S.b 99 rfl rfl) (S.o 99 rfl rfl rfl) (en2) ?_
    refine Go_icmp_geY (tgt := 92) (pc' := 49) dX12_shaken_46 (by decide) rfl (by first | exact ⟨i_lo _, i_hi _⟩ | omega) (by first | exact ⟨i_lo _, i_hi _⟩ | omega) (fun c46 => by exfalso; omega) (fun c46 => ?_)
    refine Go_iload_n (pc' := 50) dX12_shaken_49 rfl rfl rfl ?_
    refine Go_iload_n (pc' := 51) dX12_shaken_50 rfl rfl rfl ?_
    refine Go_if_neY (tgt := 72) (pc' := 54) dX12_shaken_51 (by decide) rfl (by first | exact ⟨i_lo _, i_hi _⟩ | omega) (fun c51 => ?_) (fun c51 => by exfalso; omega)
    refine Go_aload_n (pc' := 73) dX12_shaken_72 rfl rfl rfl ?_
    refine Go_iload_n (pc' := 74) dX12_shaken_73 rfl rfl rfl ?_
    refine Go_callV_i (pc' := 77) (As := [.int _]) (st := [.int _]) dX12_shaken_74 rfl ok_X12_foretold km_RX12_403 (S.o 99 rfl rfl rfl) (S.b 99 rfl rfl) ⟨_, _, rfl⟩ rfl (Nat.le_of_ble_eq_true rfl) rfl rfl rfl (Nat.le_of_ble_eq_true rfl) (Nat.lt_succ_self _) ?_
    refine s_ftM S R hn he en ee F Ct (i := i) (by omega) ?_
    refine ⟨_, rfl, ?_⟩
    refine Go_aload_n (pc' := 78) dX12_shaken_77 rfl rfl rfl ?_
    refine Go_getRs (pc' := 81) dX12_shaken_78 rfl kf_RX12_141 (by decide) (by decide) rfl (S.b 99 rfl rfl) (S.o 99 rfl rfl rfl) (S.r 99 58 rfl rfl rfl) ?_
    refine Go_iload_n (pc' := 82) dX12_shaken_81 rfl rfl rfl ?_
    refine Go_ialoadZ (n := 100) (k := i) (v := (iZ (vi h 98 i).toInt)) (pc' := 83) dX12_shaken_82 rfl (S.b 140 rfl rfl) (S.k 140 rfl rfl rfl) rfl (by omega) (by decide) (f6) ?_
    refine Go_isubZ (pc' := 84) dX12_shaken_83 rfl ?_
    refine Go_iaddZ (pc' := 85) dX12_shaken_84 rfl ?_
    refine Go_istore_n (pc' := 86) (lv' := [.ref _, .int _, .int _, .int _]) dX12_shaken_85 rfl rfl (Nat.le_of_ble_eq_true rfl) rfl rfl ?_
    refine Go_iincZ (pc' := 89) (lv' := [.ref _, .int _, .int _, .int _]) dX12_shaken_86 rfl rfl (Nat.le_of_ble_eq_true rfl) rfl rfl ?_
    refine Go_goto (tgt := 41) dX12_shaken_89 (by decide) ?_
    exact ih (i + 1) _ (by omega) hk
set_option maxRecDepth 20000 in
set_option maxHeartbeats 1000000 in
theorem pair39 {G : GC} (a : Int32) : PairI G M_X11_shaken M_X12_shaken [.int a] := by
  intro h I
  obtain ⟨Az, hva, rfl⟩ := i_eta a
  obtain ⟨n, hn, en⟩ := of_rgZ (b := 100) I.F.2.1
  have en2 : vi h 99 59 = iZ (n : Int) := I.F.1.symm.trans en
  obtain ⟨e, he, ee⟩ := of_rgZ (b := 100) I.E.1.2
  have F := I.F.flt en hn ee he
  have Ct := I.E.cat0 ee he
  by_cases a01 : Az = 0 ∨ Az = 1
  · rcases a01 with rfl | rfl
    · refine PairI.ro' (fun _ => iZ (acc (fun i => (((ftv h i - (vi h 98 i).toInt).natAbs : Nat) : Int)) n 0 0)) h I (fun K k => ?_) (fun K k => ?_)
      · show Go G 60 0 0 M_X11_shaken 0 [.ref 64, .int (iZ 0)] [] h K
        refine Go_iload_n (pc' := 1) dX11_shaken_0 rfl rfl rfl ?_
        refine Go_if_eqY (tgt := 9) (pc' := 4) dX11_shaken_1 (by decide) rfl (by first | exact ⟨i_lo _, i_hi _⟩ | omega) (fun c1 => ?_) (fun c1 => by exfalso; omega)
        refine Go_aload_n (pc' := 10) dX11_shaken_9 rfl rfl rfl ?_
        refine Go_iload_n (pc' := 11) dX11_shaken_10 rfl rfl rfl ?_
        refine Go_if_neY (tgt := 18) (pc' := 14) dX11_shaken_11 (by decide) rfl (by first | exact ⟨i_lo _, i_hi _⟩ | omega) (fun c11 => by exfalso; omega) (fun c11 => ?_)
        refine Go_iconst (v := iZ 1) (pc' := 15) dX11_shaken_14 rfl (by decide) ?_
        refine Go_goto (tgt := 19) dX11_shaken_15 (by decide) ?_
        refine Go_callV_i (pc' := 22) (As := [.int _]) (st := []) dX11_shaken_19 rfl ok_X11_strayed km_RX11_345 (I.S.o 64 rfl rfl rfl) (I.S.b 64 rfl rfl) ⟨_, _, rfl⟩ rfl (Nat.le_of_ble_eq_true rfl) rfl rfl rfl (Nat.le_of_ble_eq_true rfl) (Nat.lt_succ_self _) ?_
        refine Go_iconst (v := iZ 0) (pc' := 1) dX11_strayed_0 rfl (by decide) ?_
        refine Go_istore_n (pc' := 2) (lv' := [.ref _, .int _, .int _, un, un]) dX11_strayed_1 rfl rfl (Nat.le_of_ble_eq_true rfl) rfl rfl ?_
        refine Go_iconst (v := iZ 0) (pc' := 3) dX11_strayed_2 rfl (by decide) ?_
        refine Go_istore_n (pc' := 4) (lv' := [.ref _, .int _, .int _, .int _, un]) dX11_strayed_3 rfl rfl (Nat.le_of_ble_eq_true rfl) rfl rfl ?_
        refine str_loop1 I.S I.D hn he en ee F Ct n 0 0 _ (Nat.zero_add n) ⟨_, rfl, ?_⟩
        refine Go_ireturn (ty := .int) dX11_shaken_22 rfl rfl ?_
        exact k
      · show Go G 60 0 0 M_X12_shaken 0 [.ref 99, .int (iZ 0), un, un] [] h K
        refine Go_iload_n (pc' := 1) dX12_shaken_0 rfl rfl rfl ?_
        refine Go_bipush (v := iZ 10) (pc' := 3) dX12_shaken_1 rfl (by decide) ?_
        refine Go_bipush (v := iZ 9) (pc' := 5) dX12_shaken_3 rfl (by decide) ?_
        refine Go_aload_n (pc' := 6) dX12_shaken_5 rfl rfl rfl ?_
        refine Go_getIv (v := (iZ (n : Int))) (pc' := 9) dX12_shaken_6 rfl kf_RX12_400 (by decide) (by decide) rfl (I.S.b 99 rfl rfl) (I.S.o 99 rfl rfl rfl) (en2) ?_
        refine Go_iaddZ (pc' := 10) dX12_shaken_9 rfl ?_
        refine Go_callS_i (pc' := 13) (As := [.int _, .int _, .int _]) (st := []) dX12_shaken_10 rfl ok_X12_isIn km_RX12_147 rfl (Nat.le_of_ble_eq_true rfl) rfl rfl rfl (Nat.le_of_ble_eq_true rfl) (Nat.lt_succ_self _) ?_
        refine s_isInY (by first | exact ⟨i_lo _, i_hi _⟩ | omega) (by first | exact ⟨i_lo _, i_hi _⟩ | omega) (by first | exact ⟨i_lo _, i_hi _⟩ | omega) ?_
        refine ⟨_, rfl, ?_⟩
        refine Go_if_eqb (tgt := 25) (pc' := 16) dX12_shaken_13 (by decide) rfl (fun c13 => ?_) (fun c13 => by exfalso; omega)
        refine Go_iload_n (pc' := 26) dX12_shaken_25 rfl rfl rfl ?_
        refine Go_iconst (v := iZ 0) (pc' := 27) dX12_shaken_26 rfl (by decide) ?_
        refine Go_iconst (v := iZ 1) (pc' := 28) dX12_shaken_27 rfl (by decide) ?_
        refine Go_callS_i (pc' := 31) (As := [.int _, .int _, .int _]) (st := []) dX12_shaken_28 rfl ok_X12_isIn km_RX12_147 rfl (Nat.le_of_ble_eq_true rfl) rfl rfl rfl (Nat.le_of_ble_eq_true rfl) (Nat.lt_succ_self _) ?_
        refine s_isInY (by first | exact ⟨i_lo _, i_hi _⟩ | omega) (by first | exact ⟨i_lo _, i_hi _⟩ | omega) (by first | exact ⟨i_lo _, i_hi _⟩ | omega) ?_
        refine ⟨_, rfl, ?_⟩
        refine Go_if_neb (tgt := 37) (pc' := 34) dX12_shaken_31 (by decide) rfl (fun c31 => ?_) (fun c31 => by exfalso; omega)
        refine Go_iconst (v := iZ 0) (pc' := 38) dX12_shaken_37 rfl (by decide) ?_
        refine Go_istore_n (pc' := 39) (lv' := [.ref _, .int _, .int _, un]) dX12_shaken_38 rfl rfl (Nat.le_of_ble_eq_true rfl) rfl rfl ?_
        refine Go_iconst (v := iZ 0) (pc' := 40) dX12_shaken_39 rfl (by decide) ?_
        refine Go_istore_n (pc' := 41) (lv' := [.ref _, .int _, .int _, .int _]) dX12_shaken_40 rfl rfl (Nat.le_of_ble_eq_true rfl) rfl rfl ?_
        exact strM_loop1 I.S I.D hn he en ee F Ct en2 n 0 0 (Nat.zero_add n) k
    · refine PairI.ro' (fun _ => iZ (acc (fun i => ftv h i - (vi h 98 i).toInt) n 0 0)) h I (fun K k => ?_) (fun K k => ?_)
      · show Go G 60 0 0 M_X11_shaken 0 [.ref 64, .int (iZ 1)] [] h K
        refine Go_iload_n (pc' := 1) dX11_shaken_0 rfl rfl rfl ?_
        refine Go_if_eqY (tgt := 9) (pc' := 4) dX11_shaken_1 (by decide) rfl (by first | exact ⟨i_lo _, i_hi _⟩ | omega) (fun c1 => by exfalso; omega) (fun c1 => ?_)
        refine Go_iload_n (pc' := 5) dX11_shaken_4 rfl rfl rfl ?_
        refine Go_iconst (v := iZ 1) (pc' := 6) dX11_shaken_5 rfl (by decide) ?_
        refine Go_icmp_neY (tgt := 23) (pc' := 9) dX11_shaken_6 (by decide) rfl (by first | exact ⟨i_lo _, i_hi _⟩ | omega) (by first | exact ⟨i_lo _, i_hi _⟩ | omega) (fun c6 => by exfalso; omega) (fun c6 => ?_)
        refine Go_aload_n (pc' := 10) dX11_shaken_9 rfl rfl rfl ?_
        refine Go_iload_n (pc' := 11) dX11_shaken_10 rfl rfl rfl ?_
        refine Go_if_neY (tgt := 18) (pc' := 14) dX11_shaken_11 (by decide) rfl (by first | exact ⟨i_lo _, i_hi _⟩ | omega) (fun c11 => ?_) (fun c11 => by exfalso; omega)
        refine Go_iconst (v := iZ 0) (pc' := 19) dX11_shaken_18 rfl (by decide) ?_
        refine Go_callV_i (pc' := 22) (As := [.int _]) (st := []) dX11_shaken_19 rfl ok_X11_strayed km_RX11_345 (I.S.o 64 rfl rfl rfl) (I.S.b 64 rfl rfl) ⟨_, _, rfl⟩ rfl (Nat.le_of_ble_eq_true rfl) rfl rfl rfl (Nat.le_of_ble_eq_true rfl) (Nat.lt_succ_self _) ?_
        refine Go_iconst (v := iZ 0) (pc' := 1) dX11_strayed_0 rfl (by decide) ?_
        refine Go_istore_n (pc' := 2) (lv' := [.ref _, .int _, .int _, un, un]) dX11_strayed_1 rfl rfl (Nat.le_of_ble_eq_true rfl) rfl rfl ?_
        refine Go_iconst (v := iZ 0) (pc' := 3) dX11_strayed_2 rfl (by decide) ?_
        refine Go_istore_n (pc' := 4) (lv' := [.ref _, .int _, .int _, .int _, un]) dX11_strayed_3 rfl rfl (Nat.le_of_ble_eq_true rfl) rfl rfl ?_
        refine str_loop0 I.S I.D hn he en ee F Ct n 0 0 _ (Nat.zero_add n) ⟨_, rfl, ?_⟩
        refine Go_ireturn (ty := .int) dX11_shaken_22 rfl rfl ?_
        exact k
      · show Go G 60 0 0 M_X12_shaken 0 [.ref 99, .int (iZ 1), un, un] [] h K
        refine Go_iload_n (pc' := 1) dX12_shaken_0 rfl rfl rfl ?_
        refine Go_bipush (v := iZ 10) (pc' := 3) dX12_shaken_1 rfl (by decide) ?_
        refine Go_bipush (v := iZ 9) (pc' := 5) dX12_shaken_3 rfl (by decide) ?_
        refine Go_aload_n (pc' := 6) dX12_shaken_5 rfl rfl rfl ?_
        refine Go_getIv (v := (iZ (n : Int))) (pc' := 9) dX12_shaken_6 rfl kf_RX12_400 (by decide) (by decide) rfl (I.S.b 99 rfl rfl) (I.S.o 99 rfl rfl rfl) (en2) ?_
        refine Go_iaddZ (pc' := 10) dX12_shaken_9 rfl ?_
        refine Go_callS_i (pc' := 13) (As := [.int _, .int _, .int _]) (st := []) dX12_shaken_10 rfl ok_X12_isIn km_RX12_147 rfl (Nat.le_of_ble_eq_true rfl) rfl rfl rfl (Nat.le_of_ble_eq_true rfl) (Nat.lt_succ_self _) ?_
        refine s_isInY (by first | exact ⟨i_lo _, i_hi _⟩ | omega) (by first | exact ⟨i_lo _, i_hi _⟩ | omega) (by first | exact ⟨i_lo _, i_hi _⟩ | omega) ?_
        refine ⟨_, rfl, ?_⟩
        refine Go_if_eqb (tgt := 25) (pc' := 16) dX12_shaken_13 (by decide) rfl (fun c13 => ?_) (fun c13 => by exfalso; omega)
        refine Go_iload_n (pc' := 26) dX12_shaken_25 rfl rfl rfl ?_
        refine Go_iconst (v := iZ 0) (pc' := 27) dX12_shaken_26 rfl (by decide) ?_
        refine Go_iconst (v := iZ 1) (pc' := 28) dX12_shaken_27 rfl (by decide) ?_
        refine Go_callS_i (pc' := 31) (As := [.int _, .int _, .int _]) (st := []) dX12_shaken_28 rfl ok_X12_isIn km_RX12_147 rfl (Nat.le_of_ble_eq_true rfl) rfl rfl rfl (Nat.le_of_ble_eq_true rfl) (Nat.lt_succ_self _) ?_
        refine s_isInY (by first | exact ⟨i_lo _, i_hi _⟩ | omega) (by first | exact ⟨i_lo _, i_hi _⟩ | omega) (by first | exact ⟨i_lo _, i_hi _⟩ | omega) ?_
        refine ⟨_, rfl, ?_⟩
        refine Go_if_neb (tgt := 37) (pc' := 34) dX12_shaken_31 (by decide) rfl (fun c31 => ?_) (fun c31 => by exfalso; omega)
        refine Go_iconst (v := iZ 0) (pc' := 38) dX12_shaken_37 rfl (by decide) ?_
        refine Go_istore_n (pc' := 39) (lv' := [.ref _, .int _, .int _, un]) dX12_shaken_38 rfl rfl (Nat.le_of_ble_eq_true rfl) rfl rfl ?_
        refine Go_iconst (v := iZ 0) (pc' := 40) dX12_shaken_39 rfl (by decide) ?_
        refine Go_istore_n (pc' := 41) (lv' := [.ref _, .int _, .int _, .int _]) dX12_shaken_40 rfl rfl (Nat.le_of_ble_eq_true rfl) rfl rfl ?_
        exact strM_loop0 I.S I.D hn he en ee F Ct en2 n 0 0 (Nat.zero_add n) k
  · by_cases hr : 10 ≤ Az ∧ Az ≤ 9 + (n : Int)
    · obtain ⟨i, rfl⟩ : ∃ i : Nat, Az = (i : Int) + 10 := ⟨(Az - 10).toNat, by omega⟩
      refine PairI.ro' (fun _ => iZ (ftv h i)) h I (fun K k => ?_) (fun K k => ?_)
      · show Go G 60 0 0 M_X11_shaken 0 [.ref 64, .int (iZ ((i : Int) + 10))] [] h K
        refine Go_iload_n (pc' := 1) dX11_shaken_0 rfl rfl rfl ?_
        refine Go_if_eqY (tgt := 9) (pc' := 4) dX11_shaken_1 (by decide) rfl (by first | exact ⟨i_lo _, i_hi _⟩ | omega) (fun c1 => by exfalso; omega) (fun c1 => ?_)
        refine Go_iload_n (pc' := 5) dX11_shaken_4 rfl rfl rfl ?_
        refine Go_iconst (v := iZ 1) (pc' := 6) dX11_shaken_5 rfl (by decide) ?_
        refine Go_icmp_neY (tgt := 23) (pc' := 9) dX11_shaken_6 (by decide) rfl (by first | exact ⟨i_lo _, i_hi _⟩ | omega) (by first | exact ⟨i_lo _, i_hi _⟩ | omega) (fun c6 => ?_) (fun c6 => by exfalso; omega)
        refine Go_iload_n (pc' := 24) dX11_shaken_23 rfl rfl rfl ?_
        refine Go_bipush (v := iZ 10) (pc' := 26) dX11_shaken_24 rfl (by decide) ?_
        refine Go_bipush (v := iZ 9) (pc' := 28) dX11_shaken_26 rfl (by decide) ?_
        refine Go_aload_n (pc' := 29) dX11_shaken_28 rfl rfl rfl ?_
        refine Go_getRs (pc' := 32) dX11_shaken_29 rfl kf_RX11_76 (by decide) (by decide) rfl (I.S.b 64 rfl rfl) (I.S.o 64 rfl rfl rfl) (I.S.r 64 13 rfl rfl rfl) ?_
        refine Go_getIv (v := (iZ (n : Int))) (pc' := 35) dX11_shaken_32 rfl kf_RX11_342 (by decide) (by decide) rfl (I.S.b 95 rfl rfl) (I.S.o 95 rfl rfl rfl) (en) ?_
        refine Go_iaddZ (pc' := 36) dX11_shaken_35 rfl ?_
        refine Go_callS_i (pc' := 39) (As := [.int _, .int _, .int _]) (st := []) dX11_shaken_36 rfl ok_X11_within km_RX11_94 rfl (Nat.le_of_ble_eq_true rfl) rfl rfl rfl (Nat.le_of_ble_eq_true rfl) (Nat.lt_succ_self _) ?_
        refine s_withinY (by first | exact ⟨i_lo _, i_hi _⟩ | omega) (by first | exact ⟨i_lo _, i_hi _⟩ | omega) (by first | exact ⟨i_lo _, i_hi _⟩ | omega) ?_
        refine ⟨_, rfl, ?_⟩
        refine Go_if_neb (tgt := 45) (pc' := 42) dX11_shaken_39 (by decide) rfl (fun c39 => ?_) (fun c39 => by exfalso; omega)
        refine Go_aload_n (pc' := 46) dX11_shaken_45 rfl rfl rfl ?_
        refine Go_iload_n (pc' := 47) dX11_shaken_46 rfl rfl rfl ?_
        refine Go_bipush (v := iZ 10) (pc' := 49) dX11_shaken_47 rfl (by decide) ?_
        refine Go_isubZ (pc' := 50) dX11_shaken_49 rfl ?_
        refine Go_callV_i (pc' := 53) (As := [.int _]) (st := []) dX11_shaken_50 rfl ok_X11_foretold km_RX11_349 (I.S.o 64 rfl rfl rfl) (I.S.b 64 rfl rfl) ⟨_, _, rfl⟩ rfl (Nat.le_of_ble_eq_true rfl) rfl rfl rfl (Nat.le_of_ble_eq_true rfl) (Nat.lt_succ_self _) ?_
        refine (congrArg (fun z => Go G 59 0 0 M_X11_foretold 0 [.ref 64, .int (iZ z), un, un, un] [] h _) (show ((i : Int) + 10 - 10) = (i : Int) by omega)).mpr (s_ft I.S I.D hn he en ee F Ct (by omega) ?_)
        refine ⟨_, rfl, ?_⟩
        refine Go_ireturn (ty := .int) dX11_shaken_53 rfl rfl ?_
        exact k
      · show Go G 60 0 0 M_X12_shaken 0 [.ref 99, .int (iZ ((i : Int) + 10)), un, un] [] h K
        refine Go_iload_n (pc' := 1) dX12_shaken_0 rfl rfl rfl ?_
        refine Go_bipush (v := iZ 10) (pc' := 3) dX12_shaken_1 rfl (by decide) ?_
        refine Go_bipush (v := iZ 9) (pc' := 5) dX12_shaken_3 rfl (by decide) ?_
        refine Go_aload_n (pc' := 6) dX12_shaken_5 rfl rfl rfl ?_
        refine Go_getIv (v := (iZ (n : Int))) (pc' := 9) dX12_shaken_6 rfl kf_RX12_400 (by decide) (by decide) rfl (I.S.b 99 rfl rfl) (I.S.o 99 rfl rfl rfl) (en2) ?_
        refine Go_iaddZ (pc' := 10) dX12_shaken_9 rfl ?_
        refine Go_callS_i (pc' := 13) (As := [.int _, .int _, .int _]) (st := []) dX12_shaken_10 rfl ok_X12_isIn km_RX12_147 rfl (Nat.le_of_ble_eq_true rfl) rfl rfl rfl (Nat.le_of_ble_eq_true rfl) (Nat.lt_succ_self _) ?_
        refine s_isInY (by first | exact ⟨i_lo _, i_hi _⟩ | omega) (by first | exact ⟨i_lo _, i_hi _⟩ | omega) (by first | exact ⟨i_lo _, i_hi _⟩ | omega) ?_
        refine ⟨_, rfl, ?_⟩
        refine Go_if_eqb (tgt := 25) (pc' := 16) dX12_shaken_13 (by decide) rfl (fun c13 => by exfalso; omega) (fun c13 => ?_)
        refine Go_aload_n (pc' := 17) dX12_shaken_16 rfl rfl rfl ?_
        refine Go_iload_n (pc' := 18) dX12_shaken_17 rfl rfl rfl ?_
        refine Go_bipush (v := iZ 10) (pc' := 20) dX12_shaken_18 rfl (by decide) ?_
        refine Go_isubZ (pc' := 21) dX12_shaken_20 rfl ?_
        refine Go_callV_i (pc' := 24) (As := [.int _]) (st := []) dX12_shaken_21 rfl ok_X12_foretold km_RX12_403 (I.S.o 99 rfl rfl rfl) (I.S.b 99 rfl rfl) ⟨_, _, rfl⟩ rfl (Nat.le_of_ble_eq_true rfl) rfl rfl rfl (Nat.le_of_ble_eq_true rfl) (Nat.lt_succ_self _) ?_
        refine (congrArg (fun z => Go G 59 0 0 M_X12_foretold 0 [.ref 99, .int (iZ z), un] [] h _) (show ((i : Int) + 10 - 10) = (i : Int) by omega)).mpr (s_ftM I.S I.D hn he en ee F Ct (by omega) ?_)
        refine ⟨_, rfl, ?_⟩
        refine Go_ireturn (ty := .int) dX12_shaken_24 rfl rfl ?_
        exact k
    · refine PairI.ro' (fun _ => iZ (-1000000000)) h I (fun K k => ?_) (fun K k => ?_)
      · show Go G 60 0 0 M_X11_shaken 0 [.ref 64, .int (iZ Az)] [] h K
        refine Go_iload_n (pc' := 1) dX11_shaken_0 rfl rfl rfl ?_
        refine Go_if_eqY (tgt := 9) (pc' := 4) dX11_shaken_1 (by decide) rfl (by first | exact ⟨i_lo _, i_hi _⟩ | omega) (fun c1 => by exfalso; omega) (fun c1 => ?_)
        refine Go_iload_n (pc' := 5) dX11_shaken_4 rfl rfl rfl ?_
        refine Go_iconst (v := iZ 1) (pc' := 6) dX11_shaken_5 rfl (by decide) ?_
        refine Go_icmp_neY (tgt := 23) (pc' := 9) dX11_shaken_6 (by decide) rfl (by first | exact ⟨i_lo _, i_hi _⟩ | omega) (by first | exact ⟨i_lo _, i_hi _⟩ | omega) (fun c6 => ?_) (fun c6 => by exfalso; omega)
        refine Go_iload_n (pc' := 24) dX11_shaken_23 rfl rfl rfl ?_
        refine Go_bipush (v := iZ 10) (pc' := 26) dX11_shaken_24 rfl (by decide) ?_
        refine Go_bipush (v := iZ 9) (pc' := 28) dX11_shaken_26 rfl (by decide) ?_
        refine Go_aload_n (pc' := 29) dX11_shaken_28 rfl rfl rfl ?_
        refine Go_getRs (pc' := 32) dX11_shaken_29 rfl kf_RX11_76 (by decide) (by decide) rfl (I.S.b 64 rfl rfl) (I.S.o 64 rfl rfl rfl) (I.S.r 64 13 rfl rfl rfl) ?_
        refine Go_getIv (v := (iZ (n : Int))) (pc' := 35) dX11_shaken_32 rfl kf_RX11_342 (by decide) (by decide) rfl (I.S.b 95 rfl rfl) (I.S.o 95 rfl rfl rfl) (en) ?_
        refine Go_iaddZ (pc' := 36) dX11_shaken_35 rfl ?_
        refine Go_callS_i (pc' := 39) (As := [.int _, .int _, .int _]) (st := []) dX11_shaken_36 rfl ok_X11_within km_RX11_94 rfl (Nat.le_of_ble_eq_true rfl) rfl rfl rfl (Nat.le_of_ble_eq_true rfl) (Nat.lt_succ_self _) ?_
        refine s_withinY (by first | exact ⟨i_lo _, i_hi _⟩ | omega) (by first | exact ⟨i_lo _, i_hi _⟩ | omega) (by first | exact ⟨i_lo _, i_hi _⟩ | omega) ?_
        refine ⟨_, rfl, ?_⟩
        refine Go_if_neb (tgt := 45) (pc' := 42) dX11_shaken_39 (by decide) rfl (fun c39 => by exfalso; omega) (fun c39 => ?_)
        refine Go_ldcZ (X := (-1000000000)) (pc' := 44) dX11_shaken_42 rfl kn_RX11_110 (by decide) ?_
        refine Go_ireturn (ty := .int) dX11_shaken_44 rfl rfl ?_
        exact k
      · show Go G 60 0 0 M_X12_shaken 0 [.ref 99, .int (iZ Az), un, un] [] h K
        refine Go_iload_n (pc' := 1) dX12_shaken_0 rfl rfl rfl ?_
        refine Go_bipush (v := iZ 10) (pc' := 3) dX12_shaken_1 rfl (by decide) ?_
        refine Go_bipush (v := iZ 9) (pc' := 5) dX12_shaken_3 rfl (by decide) ?_
        refine Go_aload_n (pc' := 6) dX12_shaken_5 rfl rfl rfl ?_
        refine Go_getIv (v := (iZ (n : Int))) (pc' := 9) dX12_shaken_6 rfl kf_RX12_400 (by decide) (by decide) rfl (I.S.b 99 rfl rfl) (I.S.o 99 rfl rfl rfl) (en2) ?_
        refine Go_iaddZ (pc' := 10) dX12_shaken_9 rfl ?_
        refine Go_callS_i (pc' := 13) (As := [.int _, .int _, .int _]) (st := []) dX12_shaken_10 rfl ok_X12_isIn km_RX12_147 rfl (Nat.le_of_ble_eq_true rfl) rfl rfl rfl (Nat.le_of_ble_eq_true rfl) (Nat.lt_succ_self _) ?_
        refine s_isInY (by first | exact ⟨i_lo _, i_hi _⟩ | omega) (by first | exact ⟨i_lo _, i_hi _⟩ | omega) (by first | exact ⟨i_lo _, i_hi _⟩ | omega) ?_
        refine ⟨_, rfl, ?_⟩
        refine Go_if_eqb (tgt := 25) (pc' := 16) dX12_shaken_13 (by decide) rfl (fun c13 => ?_) (fun c13 => by exfalso; omega)
        refine Go_iload_n (pc' := 26) dX12_shaken_25 rfl rfl rfl ?_
        refine Go_iconst (v := iZ 0) (pc' := 27) dX12_shaken_26 rfl (by decide) ?_
        refine Go_iconst (v := iZ 1) (pc' := 28) dX12_shaken_27 rfl (by decide) ?_
        refine Go_callS_i (pc' := 31) (As := [.int _, .int _, .int _]) (st := []) dX12_shaken_28 rfl ok_X12_isIn km_RX12_147 rfl (Nat.le_of_ble_eq_true rfl) rfl rfl rfl (Nat.le_of_ble_eq_true rfl) (Nat.lt_succ_self _) ?_
        refine s_isInY (by first | exact ⟨i_lo _, i_hi _⟩ | omega) (by first | exact ⟨i_lo _, i_hi _⟩ | omega) (by first | exact ⟨i_lo _, i_hi _⟩ | omega) ?_
        refine ⟨_, rfl, ?_⟩
        refine Go_if_neb (tgt := 37) (pc' := 34) dX12_shaken_31 (by decide) rfl (fun c31 => by exfalso; omega) (fun c31 => ?_)
        refine Go_ldcZ (X := (-1000000000)) (pc' := 36) dX12_shaken_34 rfl kn_RX12_162 (by decide) ?_
        refine Go_ireturn (ty := .int) dX12_shaken_36 rfl rfl ?_
        exact k
