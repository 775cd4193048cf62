/-! what fits -/
def bitv (s : Int32) (c : Nat) : Int32 := (s >>> (iZ (c : Int) &&& 31)) &&& iZ 1
def fl (f : Nat → Option (Int × Int)) : Nat → Nat → Int → Int → Bool
  | 0, _, L, H => decide (L ≤ H)
  | m + 1, c, L, H => match f c with
    | none => fl f m (c + 1) L H
    | some ab => fl f m (c + 1) (max L ab.1) (min H ab.2)
theorem fl_n {f : Nat → Option (Int × Int)} {m c : Nat} {L H : Int} (h : f c = none) : fl f (m + 1) c L H = fl f m (c + 1) L H := by show (match f c with | none => _ | some ab => _) = _; rw [h]
theorem fl_s {f : Nat → Option (Int × Int)} {m c : Nat} {L H a b : Int} (h : f c = some (a, b)) : fl f (m + 1) c L H = fl f m (c + 1) (max L a) (min H b) := by show (match f c with | none => _ | some ab => _) = _; rw [h]
theorem fl_gt {f : Nat → Option (Int × Int)} : ∀ {m c : Nat} {L H : Int}, H < L → fl f m c L H = false
  | 0, c, L, H, h => decide_eq_false (by omega)
  | m + 1, c, L, H, h => by
    cases e : f c with
    | none => rw [fl_n e]; exact fl_gt h
    | some ab => obtain ⟨a, b⟩ := ab; rw [fl_s e]; exact fl_gt (by omega)
theorem fl_eq {f : Nat → Option (Int × Int)} : ∀ {m c : Nat} {L H L' H' : Int}, (∀ c' a b, c' < c + m → f c' = some (a, b) → (-9999999 ≤ a ∧ a ≤ 9999999) ∧ (-9999999 ≤ b ∧ b ≤ 9999999)) → ((L = L' ∧ H = H') ∨ (L ≤ -9999999 ∧ L' ≤ -9999999 ∧ 9999999 ≤ H ∧ 9999999 ≤ H')) → fl f m c L H = fl f m c L' H'
  | 0, c, L, H, L', H', _, h => by
    show decide (L ≤ H) = decide (L' ≤ H')
    rcases h with ⟨rfl, rfl⟩ | h
    · rfl
    · rw [decide_eq_true (show L ≤ H by omega), decide_eq_true (show L' ≤ H' by omega)]
  | m + 1, c, L, H, L', H', hb, h => by
    cases e : f c with
    | none => rw [fl_n e, fl_n e]; exact fl_eq (fun c' a b q => hb c' a b (by omega)) h
    | some ab =>
      obtain ⟨a, b⟩ := ab
      rw [fl_s e, fl_s e]
      have z := hb c a b (by omega) e
      refine fl_eq (fun c' a b q => hb c' a b (by omega)) (Or.inl ?_)
      rcases h with ⟨rfl, rfl⟩ | h
      · exact ⟨rfl, rfl⟩
      · omega
/-- the times that reading (q, c) leaves to a quake at x, y -/
def ffr2 (h : HS) (P S : Int) (q c : Nat) (D : Int) : Int × Int := if vi h 125 (6 * q + c) = iZ 0 then ((vi h 126 (6 * q + c)).toInt - P * D, (vi h 127 (6 * q + c)).toInt - P * D) else (max ((vi h 126 (6 * q + c)).toInt - P * D) ((vi h 128 (6 * q + c)).toInt - S * D), min ((vi h 127 (6 * q + c)).toInt - P * D) ((vi h 129 (6 * q + c)).toInt - S * D))
def cX (h : HS) (c : Nat) : Int := (vi h 100 c).toInt % 40
def cY (h : HS) (c : Nat) : Int := (vi h 100 c).toInt / 40
def ff (h : HS) (P S : Int) (q : Nat) (s : Int32) (x y : Int) (c : Nat) : Option (Int × Int) := if bitv s c = 0 ∨ vi h 124 (6 * q + c) = iZ 0 then none else some (ffr2 h P S q c (dz (x - cX h c) (y - cY h c)))
theorem ff_n {h : HS} {P S : Int} {q : Nat} {s : Int32} {x y : Int} {c : Nat} (e : bitv s c = 0 ∨ vi h 124 (6 * q + c) = iZ 0) : ff h P S q s x y c = none := if_pos e
theorem i01 : ¬ iZ 1 = iZ 0 := by decide
theorem ff_1 {h : HS} {P S : Int} {q : Nat} {s : Int32} {x y D : Int} {c : Nat} (e : ¬ bitv s c = 0) (e1 : vi h 124 (6 * q + c) = iZ 1) (eD : dz (x - cX h c) (y - cY h c) = D) (e2 : vi h 125 (6 * q + c) = iZ 0) : ff h P S q s x y c = some ((vi h 126 (6 * q + c)).toInt - P * D, (vi h 127 (6 * q + c)).toInt - P * D) := by
  unfold ff ffr2; rw [if_neg (fun z => z.elim e (fun z => i01 (e1.symm.trans z))), eD, if_pos e2]
theorem ff_2 {h : HS} {P S : Int} {q : Nat} {s : Int32} {x y D : Int} {c : Nat} (e : ¬ bitv s c = 0) (e1 : vi h 124 (6 * q + c) = iZ 1) (eD : dz (x - cX h c) (y - cY h c) = D) (e2 : vi h 125 (6 * q + c) = iZ 1) : ff h P S q s x y c = some (max ((vi h 126 (6 * q + c)).toInt - P * D) ((vi h 128 (6 * q + c)).toInt - S * D), min ((vi h 127 (6 * q + c)).toInt - P * D) ((vi h 129 (6 * q + c)).toInt - S * D)) := by
  unfold ff ffr2; rw [if_neg (fun z => z.elim e (fun z => i01 (e1.symm.trans z))), eD, if_neg (fun z => i01 (e2.symm.trans z))]
theorem cel_ex {h : HS} (I : Inv h) {nc c : Nat} (hn : nc ≤ 6) (en : vi h 64 2 = iZ (nc : Int)) (hc : c < nc) : ∃ o, ri h 67 c = some o ∧ CelS h o ∧ CelV h o c := I.C.2.1 c (by rw [en, iZ_t (by omega)]; omega)
theorem CelA.xy {h : HS} {o c : Nat} (A : CelA h o c) : (0 ≤ cX h c ∧ cX h c ≤ 39) ∧ (0 ≤ cY h c ∧ cY h c ≤ 39) ∧ vi h o 0 = iZ (cX h c) ∧ vi h o 1 = iZ (cY h c) ∧ vi h 100 c = iZ (40 * cY h c + cX h c) := by
  obtain ⟨⟨a1, a2⟩, ⟨b1, b2⟩, e⟩ := A
  have x1 : cX h c = (vi h o 0).toInt := by unfold cX; omega
  have y1 : cY h c = (vi h o 1).toInt := by unfold cY; omega
  exact ⟨by omega, by omega, by rw [x1, iZ_self], by rw [y1, iZ_self], iZ_of (by omega)⟩
theorem mul_r {P D : Int} (hP : 1 ≤ P ∧ P ≤ 99) (hD : 0 ≤ D ∧ D ≤ 55) : 0 ≤ P * D ∧ P * D ≤ 5445 := ⟨Int.mul_nonneg (by omega) (by omega), Int.le_trans (Int.mul_le_mul hP.2 hD.2 hD.1 (by omega)) (by decide)⟩
set_option maxRecDepth 20000 in
set_option maxHeartbeats 1000000 in
theorem ft_loop {G : GC} {d mc ms : Nat} {h : HS} {K : Option Value → HS → Prop} {q u nq nc : Nat} {P S x y : Int} {s : Int32} (I : Inv h) (hnc : nc ≤ 6) (ec2 : vi h 64 2 = iZ (nc : Int)) (hq : q < nq) (hnq : nq ≤ 16) (hu : ri h 80 q = some u) (QS : QkS h u) (RR : ∀ c, c < 6 → RdR h u q c) (eP : vi h 64 8 = iZ P) (eS : vi h 64 9 = iZ S) (hP : 1 ≤ P ∧ P ≤ 99) (hS : 1 ≤ S ∧ S ≤ 99) (hx : 0 ≤ x ∧ x ≤ 39) (hy : 0 ≤ y ∧ y ≤ 39) : ∀ (m c : Nat) (L H : Int) (v8 v9 v10 : Value), c + m = nc → (-2147483648 ≤ L ∧ L ≤ 9999999) → (-10000 ≤ H ∧ H ≤ 2147483647) → K (some (.int (b2i (fl (ff h P S q s x y) m c L H = true)))) h → Go G (d + 2) mc ms M_X11_isFitting 13 [.ref 64, .ref u, .int s, .int (iZ x), .int (iZ y), .int (iZ L), .int (iZ H), .int (iZ (c : Int)), v8, v9, v10] [] h K := by
  have hu0 := QS.1
  intro m
  induction m with
  | zero =>
    intro c L H v8 v9 v10 hm hL hH hk
    refine Go_iload (pc' := 15) dX11_isFitting_13 rfl rfl ?_
    refine Go_aload_n (pc' := 16) dX11_isFitting_15 rfl rfl rfl ?_
    refine Go_getIv (v := (iZ (nc : Int))) (pc' := 19) dX11_isFitting_16 rfl kf_RX11_84 (by decide) (by decide) rfl (I.S.b 64 rfl rfl) (I.S.o 64 rfl rfl rfl) (ec2) ?_
    refine Go_icmp_geY (tgt := 151) (pc' := 22) dX11_isFitting_19 (by decide) rfl (by first | exact ⟨i_lo _, i_hi _⟩ | omega) (by first | exact ⟨i_lo _, i_hi _⟩ | omega) (fun c19 => ?_) (fun c19 => by exfalso; omega)
    refine Go_iload (pc' := 153) dX11_isFitting_151 rfl rfl ?_
    refine Go_iload (pc' := 155) dX11_isFitting_153 rfl rfl ?_
    refine Go_icmp_gtY (tgt := 162) (pc' := 158) dX11_isFitting_155 (by decide) rfl (by first | exact ⟨i_lo _, i_hi _⟩ | omega) (by first | exact ⟨i_lo _, i_hi _⟩ | omega) (fun c155 => ?_) (fun c155 => ?_)
    · refine Go_iconst (v := iZ 0) (pc' := 163) dX11_isFitting_162 rfl (by decide) ?_
      refine Go_ireturn (ty := .boolean) dX11_isFitting_163 rfl rfl ?_
      rw [b2i_f (show ¬ fl (ff h P S q s x y) 0 c L H = true from fun z => by have z := of_decide_eq_true z; omega)] at hk; exact hk
    · refine Go_iconst (v := iZ 1) (pc' := 159) dX11_isFitting_158 rfl (by decide) ?_
      refine Go_goto (tgt := 163) dX11_isFitting_159 (by decide) ?_
      refine Go_ireturn (ty := .boolean) dX11_isFitting_163 rfl rfl ?_
      rw [b2i_t (show fl (ff h P S q s x y) 0 c L H = true from decide_eq_true (by omega))] at hk; exact hk
  | succ m ih =>
    intro c L H v8 v9 v10 hm hL hH hk
    obtain ⟨o, ho, CS, CV⟩ := cel_ex I hnc ec2 (c := c) (by omega)
    obtain ⟨xr, yr, ex, ey, exy⟩ := CV.1.xy
    obtain ⟨D, hD, eD⟩ : ∃ D, (0 ≤ D ∧ D ≤ 55) ∧ dz (x - cX h c) (y - cY h c) = D := ⟨_, (dz_r (by omega) (by omega)).1, rfl⟩
    have w1 := mul_r hP hD
    have w2 := mul_r hS hD
    by_cases hLH : H < L
    · refine Go_iload (pc' := 15) dX11_isFitting_13 rfl rfl ?_
      refine Go_aload_n (pc' := 16) dX11_isFitting_15 rfl rfl rfl ?_
      refine Go_getIv (v := (iZ (nc : Int))) (pc' := 19) dX11_isFitting_16 rfl kf_RX11_84 (by decide) (by decide) rfl (I.S.b 64 rfl rfl) (I.S.o 64 rfl rfl rfl) (ec2) ?_
      refine Go_icmp_geY (tgt := 151) (pc' := 22) dX11_isFitting_19 (by decide) rfl (by first | exact ⟨i_lo _, i_hi _⟩ | omega) (by first | exact ⟨i_lo _, i_hi _⟩ | omega) (fun c19 => by exfalso; omega) (fun c19 => ?_)
      refine Go_iload (pc' := 24) dX11_isFitting_22 rfl rfl ?_
      refine Go_iload (pc' := 26) dX11_isFitting_24 rfl rfl ?_
      refine Go_icmp_gtY (tgt := 151) (pc' := 29) dX11_isFitting_26 (by decide) rfl (by first | exact ⟨i_lo _, i_hi _⟩ | omega) (by first | exact ⟨i_lo _, i_hi _⟩ | omega) (fun c26 => ?_) (fun c26 => by exfalso; omega)
      refine Go_iload (pc' := 153) dX11_isFitting_151 rfl rfl ?_
      refine Go_iload (pc' := 155) dX11_isFitting_153 rfl rfl ?_
      refine Go_icmp_gtY (tgt := 162) (pc' := 158) dX11_isFitting_155 (by decide) rfl (by first | exact ⟨i_lo _, i_hi _⟩ | omega) (by first | exact ⟨i_lo _, i_hi _⟩ | omega) (fun c155 => ?_) (fun c155 => ?_)
      · refine Go_iconst (v := iZ 0) (pc' := 163) dX11_isFitting_162 rfl (by decide) ?_
        refine Go_ireturn (ty := .boolean) dX11_isFitting_163 rfl rfl ?_
        rw [b2i_f (by rw [fl_gt (by omega)]; decide)] at hk; exact hk
      · refine Go_iconst (v := iZ 1) (pc' := 159) dX11_isFitting_158 rfl (by decide) ?_
        refine Go_goto (tgt := 163) dX11_isFitting_159 (by decide) ?_
        refine Go_ireturn (ty := .boolean) dX11_isFitting_163 rfl rfl ?_
        exfalso; omega
    · rcases RR c (by omega) with ⟨hw, h0⟩ | ⟨w, hw, h0, RS, RV, -⟩
      · refine Go_iload (pc' := 15) dX11_isFitting_13 rfl rfl ?_
        refine Go_aload_n (pc' := 16) dX11_isFitting_15 rfl rfl rfl ?_
        refine Go_getIv (v := (iZ (nc : Int))) (pc' := 19) dX11_isFitting_16 rfl kf_RX11_84 (by decide) (by decide) rfl (I.S.b 64 rfl rfl) (I.S.o 64 rfl rfl rfl) (ec2) ?_
        refine Go_icmp_geY (tgt := 151) (pc' := 22) dX11_isFitting_19 (by decide) rfl (by first | exact ⟨i_lo _, i_hi _⟩ | omega) (by first | exact ⟨i_lo _, i_hi _⟩ | omega) (fun c19 => by exfalso; omega) (fun c19 => ?_)
        refine Go_iload (pc' := 24) dX11_isFitting_22 rfl rfl ?_
        refine Go_iload (pc' := 26) dX11_isFitting_24 rfl rfl ?_
        refine Go_icmp_gtY (tgt := 151) (pc' := 29) dX11_isFitting_26 (by decide) rfl (by first | exact ⟨i_lo _, i_hi _⟩ | omega) (by first | exact ⟨i_lo _, i_hi _⟩ | omega) (fun c26 => by exfalso; omega) (fun c26 => ?_)
        refine Go_iload_n (pc' := 30) dX11_isFitting_29 rfl rfl rfl ?_
        refine Go_iload (pc' := 32) dX11_isFitting_30 rfl rfl ?_
        refine Go_ishr (pc' := 33) dX11_isFitting_32 rfl ?_
        refine Go_iconst (v := iZ 1) (pc' := 34) dX11_isFitting_33 rfl (by decide) ?_
        refine Go_iand (pc' := 35) dX11_isFitting_34 rfl ?_
        refine Go_if_ne (tgt := 42) (pc' := 38) dX11_isFitting_35 (by decide) rfl (fun c35 => ?_) (fun c35 => ?_)
        · refine Go_aload_n (pc' := 43) dX11_isFitting_42 rfl rfl rfl ?_
          refine Go_iload (pc' := 45) dX11_isFitting_43 rfl rfl ?_
          refine Go_callV_r (pc' := 48) (As := [.int _]) (st := []) dX11_isFitting_45 rfl ok_X5_reading km_RX11_271 QS.o QS.b ⟨_, _, rfl⟩ rfl (Nat.le_of_ble_eq_true rfl) rfl rfl rfl (Nat.le_of_ble_eq_true rfl) (Nat.lt_succ_self _) ?_
          refine Go_iload_n (pc' := 1) dX5_reading_0 rfl rfl rfl ?_
          refine Go_if_ltY (tgt := 22) (pc' := 4) dX5_reading_1 (by decide) rfl (by first | exact ⟨i_lo _, i_hi _⟩ | omega) (fun r1 => by exfalso; omega) (fun r1 => ?_)
          refine Go_iload_n (pc' := 5) dX5_reading_4 rfl rfl rfl ?_
          refine Go_aload_n (pc' := 6) dX5_reading_5 rfl rfl rfl ?_
          refine Go_getRs (pc' := 9) dX5_reading_6 rfl kf_RX5_11 (by decide) (by decide) rfl QS.b QS.o QS.r0 ?_
          refine Go_alenZ (n := 6) (pc' := 10) dX5_reading_9 rfl QS.b1 QS.k1 (Or.inr (Or.inr ⟨_, rfl⟩)) ?_
          refine Go_icmp_geY (tgt := 22) (pc' := 13) dX5_reading_10 (by decide) rfl (by first | exact ⟨i_lo _, i_hi _⟩ | omega) (by first | exact ⟨i_lo _, i_hi _⟩ | omega) (fun r10 => by exfalso; omega) (fun r10 => ?_)
          refine Go_aload_n (pc' := 14) dX5_reading_13 rfl rfl rfl ?_
          refine Go_getRs (pc' := 17) dX5_reading_14 rfl kf_RX5_11 (by decide) (by decide) rfl QS.b QS.o QS.r0 ?_
          refine Go_iload_n (pc' := 18) dX5_reading_17 rfl rfl rfl ?_
          refine Go_aaloadNZ (n := 6) (k := c) (pc' := 19) dX5_reading_18 rfl QS.b1 QS.k1 rfl rfl (by omega) (by decide) hw ?_
          refine Go_goto (tgt := 23) dX5_reading_19 (by decide) ?_
          refine Go_areturn (r := none) dX5_reading_23 rfl ?_
          refine ⟨none, rfl, ?_⟩
          refine Go_astoreN (pc' := 50) (lv' := [.ref _, .ref _, .int _, .int _, .int _, .int _, .int _, .int _, .null, _, _]) dX11_isFitting_48 rfl (Nat.le_of_ble_eq_true rfl) rfl rfl ?_
          refine Go_aload_n (pc' := 51) dX11_isFitting_50 rfl rfl rfl ?_
          refine Go_iload (pc' := 53) dX11_isFitting_51 rfl rfl ?_
          refine Go_callV_r (pc' := 56) (As := [.int _]) (st := []) dX11_isFitting_53 rfl ok_X11_cellarOf km_RX11_90 (I.S.o 64 rfl rfl rfl) (I.S.b 64 rfl rfl) ⟨_, _, rfl⟩ rfl (Nat.le_of_ble_eq_true rfl) rfl rfl rfl (Nat.le_of_ble_eq_true rfl) (Nat.lt_succ_self _) ?_
          refine Go_iload_n (pc' := 1) dX11_cellarOf_0 rfl rfl rfl ?_
          refine Go_iconst (v := iZ 0) (pc' := 2) dX11_cellarOf_1 rfl (by decide) ?_
          refine Go_aload_n (pc' := 3) dX11_cellarOf_2 rfl rfl rfl ?_
          refine Go_getIv (v := (iZ (nc : Int))) (pc' := 6) dX11_cellarOf_3 rfl kf_RX11_84 (by decide) (by decide) rfl (I.S.b 64 rfl rfl) (I.S.o 64 rfl rfl rfl) (ec2) ?_
          refine Go_iconst (v := iZ 1) (pc' := 7) dX11_cellarOf_6 rfl (by decide) ?_
          refine Go_isubZ (pc' := 8) dX11_cellarOf_7 rfl ?_
          refine Go_callS_i (pc' := 11) (As := [.int _, .int _, .int _]) (st := []) dX11_cellarOf_8 rfl ok_X11_within km_RX11_94 rfl (Nat.le_of_ble_eq_true rfl) rfl rfl rfl (Nat.le_of_ble_eq_true rfl) (Nat.lt_succ_self _) ?_
          refine s_withinY (by first | exact ⟨i_lo _, i_hi _⟩ | omega) (by first | exact ⟨i_lo _, i_hi _⟩ | omega) (by first | exact ⟨i_lo _, i_hi _⟩ | omega) ?_
          refine ⟨_, rfl, ?_⟩
          refine Go_if_eqb (tgt := 32) (pc' := 14) dX11_cellarOf_11 (by decide) rfl (fun q11 => by exfalso; omega) (fun q11 => ?_)
          refine Go_iload_n (pc' := 15) dX11_cellarOf_14 rfl rfl rfl ?_
          refine Go_aload_n (pc' := 16) dX11_cellarOf_15 rfl rfl rfl ?_
          refine Go_getRs (pc' := 19) dX11_cellarOf_16 rfl kf_RX11_18 (by decide) (by decide) rfl (I.S.b 64 rfl rfl) (I.S.o 64 rfl rfl rfl) (I.S.r 64 1 rfl rfl rfl) ?_
          refine Go_alenZ (n := 6) (pc' := 20) dX11_cellarOf_19 rfl (I.S.b 67 rfl rfl) (I.S.k 67 rfl rfl rfl) (Or.inr (Or.inr ⟨_, rfl⟩)) ?_
          refine Go_icmp_geY (tgt := 32) (pc' := 23) dX11_cellarOf_20 (by decide) rfl (by first | exact ⟨i_lo _, i_hi _⟩ | omega) (by first | exact ⟨i_lo _, i_hi _⟩ | omega) (fun q20 => by exfalso; omega) (fun q20 => ?_)
          refine Go_aload_n (pc' := 24) dX11_cellarOf_23 rfl rfl rfl ?_
          refine Go_getRs (pc' := 27) dX11_cellarOf_24 rfl kf_RX11_18 (by decide) (by decide) rfl (I.S.b 64 rfl rfl) (I.S.o 64 rfl rfl rfl) (I.S.r 64 1 rfl rfl rfl) ?_
          refine Go_iload_n (pc' := 28) dX11_cellarOf_27 rfl rfl rfl ?_
          refine Go_aaloadZ (n := 6) (k := c) (pc' := 29) dX11_cellarOf_28 rfl (I.S.b 67 rfl rfl) (I.S.k 67 rfl rfl rfl) rfl rfl (by omega) (by decide) ho ?_
          refine Go_goto (tgt := 33) dX11_cellarOf_29 (by decide) ?_
          refine Go_areturn (r := some _) dX11_cellarOf_33 rfl ?_
          refine ⟨some _, rfl, ?_⟩
          refine Go_astore (pc' := 58) (lv' := [.ref _, .ref _, .int _, .int _, .int _, .int _, .int _, .int _, .null, .ref _, _]) dX11_isFitting_56 rfl (Nat.le_of_ble_eq_true rfl) rfl rfl ?_
          refine Go_aloadN (pc' := 60) dX11_isFitting_58 rfl rfl ?_
          refine Go_ifnullN (tgt := 145) dX11_isFitting_60 (by decide) ?_
          refine Go_iincZ (pc' := 148) (lv' := [.ref _, .ref _, .int _, .int _, .int _, .int _, .int _, .int _, .null, .ref _, _]) dX11_isFitting_145 rfl rfl (Nat.le_of_ble_eq_true rfl) rfl rfl ?_
          refine Go_goto (tgt := 13) dX11_isFitting_148 (by decide) ?_
          rw [fl_n (ff_n (Or.inr h0))] at hk
          exact ih (c + 1) L H _ _ _ (by omega) hL hH hk
        · refine Go_null (pc' := 39) dX11_isFitting_38 rfl ?_
          refine Go_goto (tgt := 48) dX11_isFitting_39 (by decide) ?_
          refine Go_astoreN (pc' := 50) (lv' := [.ref _, .ref _, .int _, .int _, .int _, .int _, .int _, .int _, .null, _, _]) dX11_isFitting_48 rfl (Nat.le_of_ble_eq_true rfl) rfl rfl ?_
          refine Go_aload_n (pc' := 51) dX11_isFitting_50 rfl rfl rfl ?_
          refine Go_iload (pc' := 53) dX11_isFitting_51 rfl rfl ?_
          refine Go_callV_r (pc' := 56) (As := [.int _]) (st := []) dX11_isFitting_53 rfl ok_X11_cellarOf km_RX11_90 (I.S.o 64 rfl rfl rfl) (I.S.b 64 rfl rfl) ⟨_, _, rfl⟩ rfl (Nat.le_of_ble_eq_true rfl) rfl rfl rfl (Nat.le_of_ble_eq_true rfl) (Nat.lt_succ_self _) ?_
          refine Go_iload_n (pc' := 1) dX11_cellarOf_0 rfl rfl rfl ?_
          refine Go_iconst (v := iZ 0) (pc' := 2) dX11_cellarOf_1 rfl (by decide) ?_
          refine Go_aload_n (pc' := 3) dX11_cellarOf_2 rfl rfl rfl ?_
          refine Go_getIv (v := (iZ (nc : Int))) (pc' := 6) dX11_cellarOf_3 rfl kf_RX11_84 (by decide) (by decide) rfl (I.S.b 64 rfl rfl) (I.S.o 64 rfl rfl rfl) (ec2) ?_
          refine Go_iconst (v := iZ 1) (pc' := 7) dX11_cellarOf_6 rfl (by decide) ?_
          refine Go_isubZ (pc' := 8) dX11_cellarOf_7 rfl ?_
          refine Go_callS_i (pc' := 11) (As := [.int _, .int _, .int _]) (st := []) dX11_cellarOf_8 rfl ok_X11_within km_RX11_94 rfl (Nat.le_of_ble_eq_true rfl) rfl rfl rfl (Nat.le_of_ble_eq_true rfl) (Nat.lt_succ_self _) ?_
          refine s_withinY (by first | exact ⟨i_lo _, i_hi _⟩ | omega) (by first | exact ⟨i_lo _, i_hi _⟩ | omega) (by first | exact ⟨i_lo _, i_hi _⟩ | omega) ?_
          refine ⟨_, rfl, ?_⟩
          refine Go_if_eqb (tgt := 32) (pc' := 14) dX11_cellarOf_11 (by decide) rfl (fun q11 => by exfalso; omega) (fun q11 => ?_)
          refine Go_iload_n (pc' := 15) dX11_cellarOf_14 rfl rfl rfl ?_
          refine Go_aload_n (pc' := 16) dX11_cellarOf_15 rfl rfl rfl ?_
          refine Go_getRs (pc' := 19) dX11_cellarOf_16 rfl kf_RX11_18 (by decide) (by decide) rfl (I.S.b 64 rfl rfl) (I.S.o 64 rfl rfl rfl) (I.S.r 64 1 rfl rfl rfl) ?_
          refine Go_alenZ (n := 6) (pc' := 20) dX11_cellarOf_19 rfl (I.S.b 67 rfl rfl) (I.S.k 67 rfl rfl rfl) (Or.inr (Or.inr ⟨_, rfl⟩)) ?_
          refine Go_icmp_geY (tgt := 32) (pc' := 23) dX11_cellarOf_20 (by decide) rfl (by first | exact ⟨i_lo _, i_hi _⟩ | omega) (by first | exact ⟨i_lo _, i_hi _⟩ | omega) (fun q20 => by exfalso; omega) (fun q20 => ?_)
          refine Go_aload_n (pc' := 24) dX11_cellarOf_23 rfl rfl rfl ?_
          refine Go_getRs (pc' := 27) dX11_cellarOf_24 rfl kf_RX11_18 (by decide) (by decide) rfl (I.S.b 64 rfl rfl) (I.S.o 64 rfl rfl rfl) (I.S.r 64 1 rfl rfl rfl) ?_
          refine Go_iload_n (pc' := 28) dX11_cellarOf_27 rfl rfl rfl ?_
          refine Go_aaloadZ (n := 6) (k := c) (pc' := 29) dX11_cellarOf_28 rfl (I.S.b 67 rfl rfl) (I.S.k 67 rfl rfl rfl) rfl rfl (by omega) (by decide) ho ?_
          refine Go_goto (tgt := 33) dX11_cellarOf_29 (by decide) ?_
          refine Go_areturn (r := some _) dX11_cellarOf_33 rfl ?_
          refine ⟨some _, rfl, ?_⟩
          refine Go_astore (pc' := 58) (lv' := [.ref _, .ref _, .int _, .int _, .int _, .int _, .int _, .int _, .null, .ref _, _]) dX11_isFitting_56 rfl (Nat.le_of_ble_eq_true rfl) rfl rfl ?_
          refine Go_aloadN (pc' := 60) dX11_isFitting_58 rfl rfl ?_
          refine Go_ifnullN (tgt := 145) dX11_isFitting_60 (by decide) ?_
          refine Go_iincZ (pc' := 148) (lv' := [.ref _, .ref _, .int _, .int _, .int _, .int _, .int _, .int _, .null, .ref _, _]) dX11_isFitting_145 rfl rfl (Nat.le_of_ble_eq_true rfl) rfl rfl ?_
          refine Go_goto (tgt := 13) dX11_isFitting_148 (by decide) ?_
          rw [fl_n (ff_n (Or.inl c35))] at hk
          exact ih (c + 1) L H _ _ _ (by omega) hL hH hk
      · have hw0 := RS.1
        have f1 := RV.1.2; have f2 := RV.2.1.2
        rw [RV.1.1] at f1; rw [RV.2.1.1] at f2
        unfold rg at f1 f2
        rcases RV.2.2.1 with ⟨s1, h5⟩ | ⟨s1, s2, h5, g1, g2⟩
        · refine Go_iload (pc' := 15) dX11_isFitting_13 rfl rfl ?_
          refine Go_aload_n (pc' := 16) dX11_isFitting_15 rfl rfl rfl ?_
          refine Go_getIv (v := (iZ (nc : Int))) (pc' := 19) dX11_isFitting_16 rfl kf_RX11_84 (by decide) (by decide) rfl (I.S.b 64 rfl rfl) (I.S.o 64 rfl rfl rfl) (ec2) ?_
          refine Go_icmp_geY (tgt := 151) (pc' := 22) dX11_isFitting_19 (by decide) rfl (by first | exact ⟨i_lo _, i_hi _⟩ | omega) (by first | exact ⟨i_lo _, i_hi _⟩ | omega) (fun c19 => by exfalso; omega) (fun c19 => ?_)
          refine Go_iload (pc' := 24) dX11_isFitting_22 rfl rfl ?_
          refine Go_iload (pc' := 26) dX11_isFitting_24 rfl rfl ?_
          refine Go_icmp_gtY (tgt := 151) (pc' := 29) dX11_isFitting_26 (by decide) rfl (by first | exact ⟨i_lo _, i_hi _⟩ | omega) (by first | exact ⟨i_lo _, i_hi _⟩ | omega) (fun c26 => by exfalso; omega) (fun c26 => ?_)
          refine Go_iload_n (pc' := 30) dX11_isFitting_29 rfl rfl rfl ?_
          refine Go_iload (pc' := 32) dX11_isFitting_30 rfl rfl ?_
          refine Go_ishr (pc' := 33) dX11_isFitting_32 rfl ?_
          refine Go_iconst (v := iZ 1) (pc' := 34) dX11_isFitting_33 rfl (by decide) ?_
          refine Go_iand (pc' := 35) dX11_isFitting_34 rfl ?_
          refine Go_if_ne (tgt := 42) (pc' := 38) dX11_isFitting_35 (by decide) rfl (fun c35 => ?_) (fun c35 => ?_)
          · refine Go_aload_n (pc' := 43) dX11_isFitting_42 rfl rfl rfl ?_
            refine Go_iload (pc' := 45) dX11_isFitting_43 rfl rfl ?_
            refine Go_callV_r (pc' := 48) (As := [.int _]) (st := []) dX11_isFitting_45 rfl ok_X5_reading km_RX11_271 QS.o QS.b ⟨_, _, rfl⟩ rfl (Nat.le_of_ble_eq_true rfl) rfl rfl rfl (Nat.le_of_ble_eq_true rfl) (Nat.lt_succ_self _) ?_
            refine Go_iload_n (pc' := 1) dX5_reading_0 rfl rfl rfl ?_
            refine Go_if_ltY (tgt := 22) (pc' := 4) dX5_reading_1 (by decide) rfl (by first | exact ⟨i_lo _, i_hi _⟩ | omega) (fun r1 => by exfalso; omega) (fun r1 => ?_)
            refine Go_iload_n (pc' := 5) dX5_reading_4 rfl rfl rfl ?_
            refine Go_aload_n (pc' := 6) dX5_reading_5 rfl rfl rfl ?_
            refine Go_getRs (pc' := 9) dX5_reading_6 rfl kf_RX5_11 (by decide) (by decide) rfl QS.b QS.o QS.r0 ?_
            refine Go_alenZ (n := 6) (pc' := 10) dX5_reading_9 rfl QS.b1 QS.k1 (Or.inr (Or.inr ⟨_, rfl⟩)) ?_
            refine Go_icmp_geY (tgt := 22) (pc' := 13) dX5_reading_10 (by decide) rfl (by first | exact ⟨i_lo _, i_hi _⟩ | omega) (by first | exact ⟨i_lo _, i_hi _⟩ | omega) (fun r10 => by exfalso; omega) (fun r10 => ?_)
            refine Go_aload_n (pc' := 14) dX5_reading_13 rfl rfl rfl ?_
            refine Go_getRs (pc' := 17) dX5_reading_14 rfl kf_RX5_11 (by decide) (by decide) rfl QS.b QS.o QS.r0 ?_
            refine Go_iload_n (pc' := 18) dX5_reading_17 rfl rfl rfl ?_
            refine Go_aaloadZ (n := 6) (k := c) (pc' := 19) dX5_reading_18 rfl QS.b1 QS.k1 rfl rfl (by omega) (by decide) hw ?_
            refine Go_goto (tgt := 23) dX5_reading_19 (by decide) ?_
            refine Go_areturn (r := some _) dX5_reading_23 rfl ?_
            refine ⟨some _, rfl, ?_⟩
            refine Go_astore (pc' := 50) (lv' := [.ref _, .ref _, .int _, .int _, .int _, .int _, .int _, .int _, .ref _, _, _]) dX11_isFitting_48 rfl (Nat.le_of_ble_eq_true rfl) rfl rfl ?_
            refine Go_aload_n (pc' := 51) dX11_isFitting_50 rfl rfl rfl ?_
            refine Go_iload (pc' := 53) dX11_isFitting_51 rfl rfl ?_
            refine Go_callV_r (pc' := 56) (As := [.int _]) (st := []) dX11_isFitting_53 rfl ok_X11_cellarOf km_RX11_90 (I.S.o 64 rfl rfl rfl) (I.S.b 64 rfl rfl) ⟨_, _, rfl⟩ rfl (Nat.le_of_ble_eq_true rfl) rfl rfl rfl (Nat.le_of_ble_eq_true rfl) (Nat.lt_succ_self _) ?_
            refine Go_iload_n (pc' := 1) dX11_cellarOf_0 rfl rfl rfl ?_
            refine Go_iconst (v := iZ 0) (pc' := 2) dX11_cellarOf_1 rfl (by decide) ?_
            refine Go_aload_n (pc' := 3) dX11_cellarOf_2 rfl rfl rfl ?_
            refine Go_getIv (v := (iZ (nc : Int))) (pc' := 6) dX11_cellarOf_3 rfl kf_RX11_84 (by decide) (by decide) rfl (I.S.b 64 rfl rfl) (I.S.o 64 rfl rfl rfl) (ec2) ?_
            refine Go_iconst (v := iZ 1) (pc' := 7) dX11_cellarOf_6 rfl (by decide) ?_
            refine Go_isubZ (pc' := 8) dX11_cellarOf_7 rfl ?_
            refine Go_callS_i (pc' := 11) (As := [.int _, .int _, .int _]) (st := []) dX11_cellarOf_8 rfl ok_X11_within km_RX11_94 rfl (Nat.le_of_ble_eq_true rfl) rfl rfl rfl (Nat.le_of_ble_eq_true rfl) (Nat.lt_succ_self _) ?_
            refine s_withinY (by first | exact ⟨i_lo _, i_hi _⟩ | omega) (by first | exact ⟨i_lo _, i_hi _⟩ | omega) (by first | exact ⟨i_lo _, i_hi _⟩ | omega) ?_
            refine ⟨_, rfl, ?_⟩
            refine Go_if_eqb (tgt := 32) (pc' := 14) dX11_cellarOf_11 (by decide) rfl (fun q11 => by exfalso; omega) (fun q11 => ?_)
            refine Go_iload_n (pc' := 15) dX11_cellarOf_14 rfl rfl rfl ?_
            refine Go_aload_n (pc' := 16) dX11_cellarOf_15 rfl rfl rfl ?_
            refine Go_getRs (pc' := 19) dX11_cellarOf_16 rfl kf_RX11_18 (by decide) (by decide) rfl (I.S.b 64 rfl rfl) (I.S.o 64 rfl rfl rfl) (I.S.r 64 1 rfl rfl rfl) ?_
            refine Go_alenZ (n := 6) (pc' := 20) dX11_cellarOf_19 rfl (I.S.b 67 rfl rfl) (I.S.k 67 rfl rfl rfl) (Or.inr (Or.inr ⟨_, rfl⟩)) ?_
            refine Go_icmp_geY (tgt := 32) (pc' := 23) dX11_cellarOf_20 (by decide) rfl (by first | exact ⟨i_lo _, i_hi _⟩ | omega) (by first | exact ⟨i_lo _, i_hi _⟩ | omega) (fun q20 => by exfalso; omega) (fun q20 => ?_)
            refine Go_aload_n (pc' := 24) dX11_cellarOf_23 rfl rfl rfl ?_
            refine Go_getRs (pc' := 27) dX11_cellarOf_24 rfl kf_RX11_18 (by decide) (by decide) rfl (I.S.b 64 rfl rfl) (I.S.o 64 rfl rfl rfl) (I.S.r 64 1 rfl rfl rfl) ?_
            refine Go_iload_n (pc' := 28) dX11_cellarOf_27 rfl rfl rfl ?_
            refine Go_aaloadZ (n := 6) (k := c) (pc' := 29) dX11_cellarOf_28 rfl (I.S.b 67 rfl rfl) (I.S.k 67 rfl rfl rfl) rfl rfl (by omega) (by decide) ho ?_
            refine Go_goto (tgt := 33) dX11_cellarOf_29 (by decide) ?_
            refine Go_areturn (r := some _) dX11_cellarOf_33 rfl ?_
            refine ⟨some _, rfl, ?_⟩
            refine Go_astore (pc' := 58) (lv' := [.ref _, .ref _, .int _, .int _, .int _, .int _, .int _, .int _, .ref _, .ref _, _]) dX11_isFitting_56 rfl (Nat.le_of_ble_eq_true rfl) rfl rfl ?_
            refine Go_aload (pc' := 60) dX11_isFitting_58 rfl rfl ?_
            refine Go_ifnull (pc' := 63) dX11_isFitting_60 rfl ?_
            refine Go_aload (pc' := 65) dX11_isFitting_63 rfl rfl ?_
            refine Go_ifnonnull (tgt := 71) dX11_isFitting_65 (by decide) ?_
            refine Go_aload_n (pc' := 72) dX11_isFitting_71 rfl rfl rfl ?_
            refine Go_getRs (pc' := 75) dX11_isFitting_72 rfl kf_RX11_10 (by decide) (by decide) rfl (I.S.b 64 rfl rfl) (I.S.o 64 rfl rfl rfl) (I.S.r 64 0 rfl rfl rfl) ?_
            refine Go_iload_n (pc' := 76) dX11_isFitting_75 rfl rfl rfl ?_
            refine Go_iload (pc' := 78) dX11_isFitting_76 rfl rfl ?_
            refine Go_aload (pc' := 80) dX11_isFitting_78 rfl rfl ?_
            refine Go_getIv (v := (iZ (cX h c))) (pc' := 83) dX11_isFitting_80 rfl kf_RX11_275 (by decide) (by decide) rfl CS.b CS.o (ex) ?_
            refine Go_aload (pc' := 85) dX11_isFitting_83 rfl rfl ?_
            refine Go_getIv (v := (iZ (cY h c))) (pc' := 88) dX11_isFitting_85 rfl kf_RX11_278 (by decide) (by decide) rfl CS.b CS.o (ey) ?_
            refine Go_callV_i (pc' := 91) (As := [.int _, .int _, .int _, .int _]) (st := []) dX11_isFitting_88 rfl ok_X3_distance km_RX11_357 (I.S.o 65 rfl rfl rfl) (I.S.b 65 rfl rfl) ⟨_, _, rfl⟩ rfl (Nat.le_of_ble_eq_true rfl) rfl rfl rfl (Nat.le_of_ble_eq_true rfl) (Nat.lt_succ_self _) ?_
            refine s_dist I.S I.D (by omega) (by omega) (by omega) (by omega) ?_
            refine ⟨_, rfl, ?_⟩
            rw [eD]
            refine Go_istore (pc' := 93) (lv' := [.ref _, .ref _, .int _, .int _, .int _, .int _, .int _, .int _, .ref _, .ref _, .int _]) dX11_isFitting_91 rfl (Nat.le_of_ble_eq_true rfl) rfl rfl ?_
            refine Go_iload (pc' := 95) dX11_isFitting_93 rfl rfl ?_
            refine Go_aload (pc' := 97) dX11_isFitting_95 rfl rfl ?_
            refine Go_aload_n (pc' := 98) dX11_isFitting_97 rfl rfl rfl ?_
            refine Go_getIv (v := (iZ P)) (pc' := 101) dX11_isFitting_98 rfl kf_RX11_49 (by decide) (by decide) rfl (I.S.b 64 rfl rfl) (I.S.o 64 rfl rfl rfl) (eP) ?_
            refine Go_iload (pc' := 103) dX11_isFitting_101 rfl rfl ?_
            refine Go_imulZ (pc' := 104) dX11_isFitting_103 rfl ?_
            refine Go_aload_n (pc' := 105) dX11_isFitting_104 rfl rfl rfl ?_
            refine Go_getIv (v := (iZ S)) (pc' := 108) dX11_isFitting_105 rfl kf_RX11_53 (by decide) (by decide) rfl (I.S.b 64 rfl rfl) (I.S.o 64 rfl rfl rfl) (eS) ?_
            refine Go_iload (pc' := 110) dX11_isFitting_108 rfl rfl ?_
            refine Go_imulZ (pc' := 111) dX11_isFitting_110 rfl ?_
            refine Go_callV_i (pc' := 114) (As := [.int _, .int _]) (st := [.int _]) dX11_isFitting_111 rfl ok_X6_earliest km_RX11_361 RS.o RS.b ⟨_, _, rfl⟩ rfl (Nat.le_of_ble_eq_true rfl) rfl rfl rfl (Nat.le_of_ble_eq_true rfl) (Nat.lt_succ_self _) ?_
            refine Go_aload_n (pc' := 1) dX6_earliest_0 rfl rfl rfl ?_
            refine Go_getIv (v := (iZ (-1))) (pc' := 4) dX6_earliest_1 rfl kf_RX6_9 (by decide) (by decide) rfl RS.b RS.o (s1.trans (by decide)) ?_
            refine Go_iconst (v := iZ (-1)) (pc' := 5) dX6_earliest_4 rfl (by decide) ?_
            refine Go_icmp_neY (tgt := 17) (pc' := 8) dX6_earliest_5 (by decide) rfl (by first | exact ⟨i_lo _, i_hi _⟩ | omega) (by first | exact ⟨i_lo _, i_hi _⟩ | omega) (fun e5 => by exfalso; omega) (fun e5 => ?_)
            refine Go_aload_n (pc' := 9) dX6_earliest_8 rfl rfl rfl ?_
            refine Go_getIv (v := (iZ (vi h 126 (6 * q + c)).toInt)) (pc' := 12) dX6_earliest_9 rfl kf_RX6_15 (by decide) (by decide) rfl RS.b RS.o (RV.1.1.trans (vi_eta _ _ _)) ?_
            refine Go_iload_n (pc' := 13) dX6_earliest_12 rfl rfl rfl ?_
            refine Go_isubZ (pc' := 14) dX6_earliest_13 rfl ?_
            refine Go_goto (tgt := 32) dX6_earliest_14 (by decide) ?_
            refine Go_ireturn (ty := .int) dX6_earliest_32 rfl rfl ?_
            refine ⟨_, rfl, ?_⟩
            refine Go_callS_i (pc' := 117) (As := [.int _, .int _]) (st := []) dX11_isFitting_114 rfl ok_J9_max_7cf53 km_RX11_364 rfl (Nat.le_of_ble_eq_true rfl) rfl rfl rfl (Nat.le_of_ble_eq_true rfl) (Nat.lt_succ_self _) ?_
            refine s_maxY (by first | exact ⟨i_lo _, i_hi _⟩ | omega) (by first | exact ⟨i_lo _, i_hi _⟩ | omega) ?_
            refine ⟨_, rfl, ?_⟩
            refine Go_istore (pc' := 119) (lv' := [.ref _, .ref _, .int _, .int _, .int _, .int _, .int _, .int _, .ref _, .ref _, .int _]) dX11_isFitting_117 rfl (Nat.le_of_ble_eq_true rfl) rfl rfl ?_
            refine Go_iload (pc' := 121) dX11_isFitting_119 rfl rfl ?_
            refine Go_aload (pc' := 123) dX11_isFitting_121 rfl rfl ?_
            refine Go_aload_n (pc' := 124) dX11_isFitting_123 rfl rfl rfl ?_
            refine Go_getIv (v := (iZ P)) (pc' := 127) dX11_isFitting_124 rfl kf_RX11_49 (by decide) (by decide) rfl (I.S.b 64 rfl rfl) (I.S.o 64 rfl rfl rfl) (eP) ?_
            refine Go_iload (pc' := 129) dX11_isFitting_127 rfl rfl ?_
            refine Go_imulZ (pc' := 130) dX11_isFitting_129 rfl ?_
            refine Go_aload_n (pc' := 131) dX11_isFitting_130 rfl rfl rfl ?_
            refine Go_getIv (v := (iZ S)) (pc' := 134) dX11_isFitting_131 rfl kf_RX11_53 (by decide) (by decide) rfl (I.S.b 64 rfl rfl) (I.S.o 64 rfl rfl rfl) (eS) ?_
            refine Go_iload (pc' := 136) dX11_isFitting_134 rfl rfl ?_
            refine Go_imulZ (pc' := 137) dX11_isFitting_136 rfl ?_
            refine Go_callV_i (pc' := 140) (As := [.int _, .int _]) (st := [.int _]) dX11_isFitting_137 rfl ok_X6_latest km_RX11_367 RS.o RS.b ⟨_, _, rfl⟩ rfl (Nat.le_of_ble_eq_true rfl) rfl rfl rfl (Nat.le_of_ble_eq_true rfl) (Nat.lt_succ_self _) ?_
            refine Go_aload_n (pc' := 1) dX6_latest_0 rfl rfl rfl ?_
            refine Go_getIv (v := (iZ (-1))) (pc' := 4) dX6_latest_1 rfl kf_RX6_9 (by decide) (by decide) rfl RS.b RS.o (s1.trans (by decide)) ?_
            refine Go_iconst (v := iZ (-1)) (pc' := 5) dX6_latest_4 rfl (by decide) ?_
            refine Go_icmp_neY (tgt := 17) (pc' := 8) dX6_latest_5 (by decide) rfl (by first | exact ⟨i_lo _, i_hi _⟩ | omega) (by first | exact ⟨i_lo _, i_hi _⟩ | omega) (fun l5 => by exfalso; omega) (fun l5 => ?_)
            refine Go_aload_n (pc' := 9) dX6_latest_8 rfl rfl rfl ?_
            refine Go_getIv (v := (iZ (vi h 127 (6 * q + c)).toInt)) (pc' := 12) dX6_latest_9 rfl kf_RX6_24 (by decide) (by decide) rfl RS.b RS.o (RV.2.1.1.trans (vi_eta _ _ _)) ?_
            refine Go_iload_n (pc' := 13) dX6_latest_12 rfl rfl rfl ?_
            refine Go_isubZ (pc' := 14) dX6_latest_13 rfl ?_
            refine Go_goto (tgt := 32) dX6_latest_14 (by decide) ?_
            refine Go_ireturn (ty := .int) dX6_latest_32 rfl rfl ?_
            refine ⟨_, rfl, ?_⟩
            refine Go_callS_i (pc' := 143) (As := [.int _, .int _]) (st := []) dX11_isFitting_140 rfl ok_J9_min_7cf53 km_RX11_370 rfl (Nat.le_of_ble_eq_true rfl) rfl rfl rfl (Nat.le_of_ble_eq_true rfl) (Nat.lt_succ_self _) ?_
            refine s_minY (by first | exact ⟨i_lo _, i_hi _⟩ | omega) (by first | exact ⟨i_lo _, i_hi _⟩ | omega) ?_
            refine ⟨_, rfl, ?_⟩
            refine Go_istore (pc' := 145) (lv' := [.ref _, .ref _, .int _, .int _, .int _, .int _, .int _, .int _, .ref _, .ref _, .int _]) dX11_isFitting_143 rfl (Nat.le_of_ble_eq_true rfl) rfl rfl ?_
            refine Go_iincZ (pc' := 148) (lv' := [.ref _, .ref _, .int _, .int _, .int _, .int _, .int _, .int _, .ref _, .ref _, .int _]) dX11_isFitting_145 rfl rfl (Nat.le_of_ble_eq_true rfl) rfl rfl ?_
            refine Go_goto (tgt := 13) dX11_isFitting_148 (by decide) ?_
            rw [fl_s (ff_1 c35 h0 eD h5)] at hk
            exact ih (c + 1) _ _ _ _ _ (by omega) (by omega) (by omega) hk
          · refine Go_null (pc' := 39) dX11_isFitting_38 rfl ?_
            refine Go_goto (tgt := 48) dX11_isFitting_39 (by decide) ?_
            refine Go_astoreN (pc' := 50) (lv' := [.ref _, .ref _, .int _, .int _, .int _, .int _, .int _, .int _, .null, _, _]) dX11_isFitting_48 rfl (Nat.le_of_ble_eq_true rfl) rfl rfl ?_
            refine Go_aload_n (pc' := 51) dX11_isFitting_50 rfl rfl rfl ?_
            refine Go_iload (pc' := 53) dX11_isFitting_51 rfl rfl ?_
            refine Go_callV_r (pc' := 56) (As := [.int _]) (st := []) dX11_isFitting_53 rfl ok_X11_cellarOf km_RX11_90 (I.S.o 64 rfl rfl rfl) (I.S.b 64 rfl rfl) ⟨_, _, rfl⟩ rfl (Nat.le_of_ble_eq_true rfl) rfl rfl rfl (Nat.le_of_ble_eq_true rfl) (Nat.lt_succ_self _) ?_
            refine Go_iload_n (pc' := 1) dX11_cellarOf_0 rfl rfl rfl ?_
            refine Go_iconst (v := iZ 0) (pc' := 2) dX11_cellarOf_1 rfl (by decide) ?_
            refine Go_aload_n (pc' := 3) dX11_cellarOf_2 rfl rfl rfl ?_
            refine Go_getIv (v := (iZ (nc : Int))) (pc' := 6) dX11_cellarOf_3 rfl kf_RX11_84 (by decide) (by decide) rfl (I.S.b 64 rfl rfl) (I.S.o 64 rfl rfl rfl) (ec2) ?_
            refine Go_iconst (v := iZ 1) (pc' := 7) dX11_cellarOf_6 rfl (by decide) ?_
            refine Go_isubZ (pc' := 8) dX11_cellarOf_7 rfl ?_
            refine Go_callS_i (pc' := 11) (As := [.int _, .int _, .int _]) (st := []) dX11_cellarOf_8 rfl ok_X11_within km_RX11_94 rfl (Nat.le_of_ble_eq_true rfl) rfl rfl rfl (Nat.le_of_ble_eq_true rfl) (Nat.lt_succ_self _) ?_
            refine s_withinY (by first | exact ⟨i_lo _, i_hi _⟩ | omega) (by first | exact ⟨i_lo _, i_hi _⟩ | omega) (by first | exact ⟨i_lo _, i_hi _⟩ | omega) ?_
            refine ⟨_, rfl, ?_⟩
            refine Go_if_eqb (tgt := 32) (pc' := 14) dX11_cellarOf_11 (by decide) rfl (fun q11 => by exfalso; omega) (fun q11 => ?_)
            refine Go_iload_n (pc' := 15) dX11_cellarOf_14 rfl rfl rfl ?_
            refine Go_aload_n (pc' := 16) dX11_cellarOf_15 rfl rfl rfl ?_
            refine Go_getRs (pc' := 19) dX11_cellarOf_16 rfl kf_RX11_18 (by decide) (by decide) rfl (I.S.b 64 rfl rfl) (I.S.o 64 rfl rfl rfl) (I.S.r 64 1 rfl rfl rfl) ?_
            refine Go_alenZ (n := 6) (pc' := 20) dX11_cellarOf_19 rfl (I.S.b 67 rfl rfl) (I.S.k 67 rfl rfl rfl) (Or.inr (Or.inr ⟨_, rfl⟩)) ?_
            refine Go_icmp_geY (tgt := 32) (pc' := 23) dX11_cellarOf_20 (by decide) rfl (by first | exact ⟨i_lo _, i_hi _⟩ | omega) (by first | exact ⟨i_lo _, i_hi _⟩ | omega) (fun q20 => by exfalso; omega) (fun q20 => ?_)
            refine Go_aload_n (pc' := 24) dX11_cellarOf_23 rfl rfl rfl ?_
            refine Go_getRs (pc' := 27) dX11_cellarOf_24 rfl kf_RX11_18 (by decide) (by decide) rfl (I.S.b 64 rfl rfl) (I.S.o 64 rfl rfl rfl) (I.S.r 64 1 rfl rfl rfl) ?_
            refine Go_iload_n (pc' := 28) dX11_cellarOf_27 rfl rfl rfl ?_
            refine Go_aaloadZ (n := 6) (k := c) (pc' := 29) dX11_cellarOf_28 rfl (I.S.b 67 rfl rfl) (I.S.k 67 rfl rfl rfl) rfl rfl (by omega) (by decide) ho ?_
            refine Go_goto (tgt := 33) dX11_cellarOf_29 (by decide) ?_
            refine Go_areturn (r := some _) dX11_cellarOf_33 rfl ?_
            refine ⟨some _, rfl, ?_⟩
            refine Go_astore (pc' := 58) (lv' := [.ref _, .ref _, .int _, .int _, .int _, .int _, .int _, .int _, .null, .ref _, _]) dX11_isFitting_56 rfl (Nat.le_of_ble_eq_true rfl) rfl rfl ?_
            refine Go_aloadN (pc' := 60) dX11_isFitting_58 rfl rfl ?_
            refine Go_ifnullN (tgt := 145) dX11_isFitting_60 (by decide) ?_
            refine Go_iincZ (pc' := 148) (lv' := [.ref _, .ref _, .int _, .int _, .int _, .int _, .int _, .int _, .null, .ref _, _]) dX11_isFitting_145 rfl rfl (Nat.le_of_ble_eq_true rfl) rfl rfl ?_
            refine Go_goto (tgt := 13) dX11_isFitting_148 (by decide) ?_
            rw [fl_n (ff_n (Or.inl c35))] at hk
            exact ih (c + 1) L H _ _ _ (by omega) hL hH hk
        · rw [s1] at g1; rw [s2] at g2
          unfold rg at g1 g2
          refine Go_iload (pc' := 15) dX11_isFitting_13 rfl rfl ?_
          refine Go_aload_n (pc' := 16) dX11_isFitting_15 rfl rfl rfl ?_
          refine Go_getIv (v := (iZ (nc : Int))) (pc' := 19) dX11_isFitting_16 rfl kf_RX11_84 (by decide) (by decide) rfl (I.S.b 64 rfl rfl) (I.S.o 64 rfl rfl rfl) (ec2) ?_
          refine Go_icmp_geY (tgt := 151) (pc' := 22) dX11_isFitting_19 (by decide) rfl (by first | exact ⟨i_lo _, i_hi _⟩ | omega) (by first | exact ⟨i_lo _, i_hi _⟩ | omega) (fun c19 => by exfalso; omega) (fun c19 => ?_)
          refine Go_iload (pc' := 24) dX11_isFitting_22 rfl rfl ?_
          refine Go_iload (pc' := 26) dX11_isFitting_24 rfl rfl ?_
          refine Go_icmp_gtY (tgt := 151) (pc' := 29) dX11_isFitting_26 (by decide) rfl (by first | exact ⟨i_lo _, i_hi _⟩ | omega) (by first | exact ⟨i_lo _, i_hi _⟩ | omega) (fun c26 => by exfalso; omega) (fun c26 => ?_)
          refine Go_iload_n (pc' := 30) dX11_isFitting_29 rfl rfl rfl ?_
          refine Go_iload (pc' := 32) dX11_isFitting_30 rfl rfl ?_
          refine Go_ishr (pc' := 33) dX11_isFitting_32 rfl ?_
          refine Go_iconst (v := iZ 1) (pc' := 34) dX11_isFitting_33 rfl (by decide) ?_
          refine Go_iand (pc' := 35) dX11_isFitting_34 rfl ?_
          refine Go_if_ne (tgt := 42) (pc' := 38) dX11_isFitting_35 (by decide) rfl (fun c35 => ?_) (fun c35 => ?_)
          · refine Go_aload_n (pc' := 43) dX11_isFitting_42 rfl rfl rfl ?_
            refine Go_iload (pc' := 45) dX11_isFitting_43 rfl rfl ?_
            refine Go_callV_r (pc' := 48) (As := [.int _]) (st := []) dX11_isFitting_45 rfl ok_X5_reading km_RX11_271 QS.o QS.b ⟨_, _, rfl⟩ rfl (Nat.le_of_ble_eq_true rfl) rfl rfl rfl (Nat.le_of_ble_eq_true rfl) (Nat.lt_succ_self _) ?_
            refine Go_iload_n (pc' := 1) dX5_reading_0 rfl rfl rfl ?_
            refine Go_if_ltY (tgt := 22) (pc' := 4) dX5_reading_1 (by decide) rfl (by first | exact ⟨i_lo _, i_hi _⟩ | omega) (fun r1 => by exfalso; omega) (fun r1 => ?_)
            refine Go_iload_n (pc' := 5) dX5_reading_4 rfl rfl rfl ?_
            refine Go_aload_n (pc' := 6) dX5_reading_5 rfl rfl rfl ?_
            refine Go_getRs (pc' := 9) dX5_reading_6 rfl kf_RX5_11 (by decide) (by decide) rfl QS.b QS.o QS.r0 ?_
            refine Go_alenZ (n := 6) (pc' := 10) dX5_reading_9 rfl QS.b1 QS.k1 (Or.inr (Or.inr ⟨_, rfl⟩)) ?_
            refine Go_icmp_geY (tgt := 22) (pc' := 13) dX5_reading_10 (by decide) rfl (by first | exact ⟨i_lo _, i_hi _⟩ | omega) (by first | exact ⟨i_lo _, i_hi _⟩ | omega) (fun r10 => by exfalso; omega) (fun r10 => ?_)
            refine Go_aload_n (pc' := 14) dX5_reading_13 rfl rfl rfl ?_
            refine Go_getRs (pc' := 17) dX5_reading_14 rfl kf_RX5_11 (by decide) (by decide) rfl QS.b QS.o QS.r0 ?_
            refine Go_iload_n (pc' := 18) dX5_reading_17 rfl rfl rfl ?_
            refine Go_aaloadZ (n := 6) (k := c) (pc' := 19) dX5_reading_18 rfl QS.b1 QS.k1 rfl rfl (by omega) (by decide) hw ?_
            refine Go_goto (tgt := 23) dX5_reading_19 (by decide) ?_
            refine Go_areturn (r := some _) dX5_reading_23 rfl ?_
            refine ⟨some _, rfl, ?_⟩
            refine Go_astore (pc' := 50) (lv' := [.ref _, .ref _, .int _, .int _, .int _, .int _, .int _, .int _, .ref _, _, _]) dX11_isFitting_48 rfl (Nat.le_of_ble_eq_true rfl) rfl rfl ?_
            refine Go_aload_n (pc' := 51) dX11_isFitting_50 rfl rfl rfl ?_
            refine Go_iload (pc' := 53) dX11_isFitting_51 rfl rfl ?_
            refine Go_callV_r (pc' := 56) (As := [.int _]) (st := []) dX11_isFitting_53 rfl ok_X11_cellarOf km_RX11_90 (I.S.o 64 rfl rfl rfl) (I.S.b 64 rfl rfl) ⟨_, _, rfl⟩ rfl (Nat.le_of_ble_eq_true rfl) rfl rfl rfl (Nat.le_of_ble_eq_true rfl) (Nat.lt_succ_self _) ?_
            refine Go_iload_n (pc' := 1) dX11_cellarOf_0 rfl rfl rfl ?_
            refine Go_iconst (v := iZ 0) (pc' := 2) dX11_cellarOf_1 rfl (by decide) ?_
            refine Go_aload_n (pc' := 3) dX11_cellarOf_2 rfl rfl rfl ?_
            refine Go_getIv (v := (iZ (nc : Int))) (pc' := 6) dX11_cellarOf_3 rfl kf_RX11_84 (by decide) (by decide) rfl (I.S.b 64 rfl rfl) (I.S.o 64 rfl rfl rfl) (ec2) ?_
            refine Go_iconst (v := iZ 1) (pc' := 7) dX11_cellarOf_6 rfl (by decide) ?_
            refine Go_isubZ (pc' := 8) dX11_cellarOf_7 rfl ?_
            refine Go_callS_i (pc' := 11) (As := [.int _, .int _, .int _]) (st := []) dX11_cellarOf_8 rfl ok_X11_within km_RX11_94 rfl (Nat.le_of_ble_eq_true rfl) rfl rfl rfl (Nat.le_of_ble_eq_true rfl) (Nat.lt_succ_self _) ?_
            refine s_withinY (by first | exact ⟨i_lo _, i_hi _⟩ | omega) (by first | exact ⟨i_lo _, i_hi _⟩ | omega) (by first | exact ⟨i_lo _, i_hi _⟩ | omega) ?_
            refine ⟨_, rfl, ?_⟩
            refine Go_if_eqb (tgt := 32) (pc' := 14) dX11_cellarOf_11 (by decide) rfl (fun q11 => by exfalso; omega) (fun q11 => ?_)
            refine Go_iload_n (pc' := 15) dX11_cellarOf_14 rfl rfl rfl ?_
            refine Go_aload_n (pc' := 16) dX11_cellarOf_15 rfl rfl rfl ?_
            refine Go_getRs (pc' := 19) dX11_cellarOf_16 rfl kf_RX11_18 (by decide) (by decide) rfl (I.S.b 64 rfl rfl) (I.S.o 64 rfl rfl rfl) (I.S.r 64 1 rfl rfl rfl) ?_
            refine Go_alenZ (n := 6) (pc' := 20) dX11_cellarOf_19 rfl (I.S.b 67 rfl rfl) (I.S.k 67 rfl rfl rfl) (Or.inr (Or.inr ⟨_, rfl⟩)) ?_
            refine Go_icmp_geY (tgt := 32) (pc' := 23) dX11_cellarOf_20 (by decide) rfl (by first | exact ⟨i_lo _, i_hi _⟩ | omega) (by first | exact ⟨i_lo _, i_hi _⟩ | omega) (fun q20 => by exfalso; omega) (fun q20 => ?_)
            refine Go_aload_n (pc' := 24) dX11_cellarOf_23 rfl rfl rfl ?_
            refine Go_getRs (pc' := 27) dX11_cellarOf_24 rfl kf_RX11_18 (by decide) (by decide) rfl (I.S.b 64 rfl rfl) (I.S.o 64 rfl rfl rfl) (I.S.r 64 1 rfl rfl rfl) ?_
            refine Go_iload_n (pc' := 28) dX11_cellarOf_27 rfl rfl rfl ?_
            refine Go_aaloadZ (n := 6) (k := c) (pc' := 29) dX11_cellarOf_28 rfl (I.S.b 67 rfl rfl) (I.S.k 67 rfl rfl rfl) rfl rfl (by omega) (by decide) ho ?_
            refine Go_goto (tgt := 33) dX11_cellarOf_29 (by decide) ?_
            refine Go_areturn (r := some _) dX11_cellarOf_33 rfl ?_
            refine ⟨some _, rfl, ?_⟩
            refine Go_astore (pc' := 58) (lv' := [.ref _, .ref _, .int _, .int _, .int _, .int _, .int _, .int _, .ref _, .ref _, _]) dX11_isFitting_56 rfl (Nat.le_of_ble_eq_true rfl) rfl rfl ?_
            refine Go_aload (pc' := 60) dX11_isFitting_58 rfl rfl ?_
            refine Go_ifnull (pc' := 63) dX11_isFitting_60 rfl ?_
            refine Go_aload (pc' := 65) dX11_isFitting_63 rfl rfl ?_
            refine Go_ifnonnull (tgt := 71) dX11_isFitting_65 (by decide) ?_
            refine Go_aload_n (pc' := 72) dX11_isFitting_71 rfl rfl rfl ?_
            refine Go_getRs (pc' := 75) dX11_isFitting_72 rfl kf_RX11_10 (by decide) (by decide) rfl (I.S.b 64 rfl rfl) (I.S.o 64 rfl rfl rfl) (I.S.r 64 0 rfl rfl rfl) ?_
            refine Go_iload_n (pc' := 76) dX11_isFitting_75 rfl rfl rfl ?_
            refine Go_iload (pc' := 78) dX11_isFitting_76 rfl rfl ?_
            refine Go_aload (pc' := 80) dX11_isFitting_78 rfl rfl ?_
            refine Go_getIv (v := (iZ (cX h c))) (pc' := 83) dX11_isFitting_80 rfl kf_RX11_275 (by decide) (by decide) rfl CS.b CS.o (ex) ?_
            refine Go_aload (pc' := 85) dX11_isFitting_83 rfl rfl ?_
            refine Go_getIv (v := (iZ (cY h c))) (pc' := 88) dX11_isFitting_85 rfl kf_RX11_278 (by decide) (by decide) rfl CS.b CS.o (ey) ?_
            refine Go_callV_i (pc' := 91) (As := [.int _, .int _, .int _, .int _]) (st := []) dX11_isFitting_88 rfl ok_X3_distance km_RX11_357 (I.S.o 65 rfl rfl rfl) (I.S.b 65 rfl rfl) ⟨_, _, rfl⟩ rfl (Nat.le_of_ble_eq_true rfl) rfl rfl rfl (Nat.le_of_ble_eq_true rfl) (Nat.lt_succ_self _) ?_
            refine s_dist I.S I.D (by omega) (by omega) (by omega) (by omega) ?_
            refine ⟨_, rfl, ?_⟩
            rw [eD]
            refine Go_istore (pc' := 93) (lv' := [.ref _, .ref _, .int _, .int _, .int _, .int _, .int _, .int _, .ref _, .ref _, .int _]) dX11_isFitting_91 rfl (Nat.le_of_ble_eq_true rfl) rfl rfl ?_
            refine Go_iload (pc' := 95) dX11_isFitting_93 rfl rfl ?_
            refine Go_aload (pc' := 97) dX11_isFitting_95 rfl rfl ?_
            refine Go_aload_n (pc' := 98) dX11_isFitting_97 rfl rfl rfl ?_
            refine Go_getIv (v := (iZ P)) (pc' := 101) dX11_isFitting_98 rfl kf_RX11_49 (by decide) (by decide) rfl (I.S.b 64 rfl rfl) (I.S.o 64 rfl rfl rfl) (eP) ?_
            refine Go_iload (pc' := 103) dX11_isFitting_101 rfl rfl ?_
            refine Go_imulZ (pc' := 104) dX11_isFitting_103 rfl ?_
            refine Go_aload_n (pc' := 105) dX11_isFitting_104 rfl rfl rfl ?_
            refine Go_getIv (v := (iZ S)) (pc' := 108) dX11_isFitting_105 rfl kf_RX11_53 (by decide) (by decide) rfl (I.S.b 64 rfl rfl) (I.S.o 64 rfl rfl rfl) (eS) ?_
            refine Go_iload (pc' := 110) dX11_isFitting_108 rfl rfl ?_
            refine Go_imulZ (pc' := 111) dX11_isFitting_110 rfl ?_
            refine Go_callV_i (pc' := 114) (As := [.int _, .int _]) (st := [.int _]) dX11_isFitting_111 rfl ok_X6_earliest km_RX11_361 RS.o RS.b ⟨_, _, rfl⟩ rfl (Nat.le_of_ble_eq_true rfl) rfl rfl rfl (Nat.le_of_ble_eq_true rfl) (Nat.lt_succ_self _) ?_
            refine Go_aload_n (pc' := 1) dX6_earliest_0 rfl rfl rfl ?_
            refine Go_getIv (v := (iZ (vi h 128 (6 * q + c)).toInt)) (pc' := 4) dX6_earliest_1 rfl kf_RX6_9 (by decide) (by decide) rfl RS.b RS.o (s1.trans (vi_eta _ _ _)) ?_
            refine Go_iconst (v := iZ (-1)) (pc' := 5) dX6_earliest_4 rfl (by decide) ?_
            refine Go_icmp_neY (tgt := 17) (pc' := 8) dX6_earliest_5 (by decide) rfl (by first | exact ⟨i_lo _, i_hi _⟩ | omega) (by first | exact ⟨i_lo _, i_hi _⟩ | omega) (fun e5 => ?_) (fun e5 => by exfalso; omega)
            refine Go_aload_n (pc' := 18) dX6_earliest_17 rfl rfl rfl ?_
            refine Go_getIv (v := (iZ (vi h 126 (6 * q + c)).toInt)) (pc' := 21) dX6_earliest_18 rfl kf_RX6_15 (by decide) (by decide) rfl RS.b RS.o (RV.1.1.trans (vi_eta _ _ _)) ?_
            refine Go_iload_n (pc' := 22) dX6_earliest_21 rfl rfl rfl ?_
            refine Go_isubZ (pc' := 23) dX6_earliest_22 rfl ?_
            refine Go_aload_n (pc' := 24) dX6_earliest_23 rfl rfl rfl ?_
            refine Go_getIv (v := (iZ (vi h 128 (6 * q + c)).toInt)) (pc' := 27) dX6_earliest_24 rfl kf_RX6_9 (by decide) (by decide) rfl RS.b RS.o (s1.trans (vi_eta _ _ _)) ?_
            refine Go_iload_n (pc' := 28) dX6_earliest_27 rfl rfl rfl ?_
            refine Go_isubZ (pc' := 29) dX6_earliest_28 rfl ?_
            refine Go_callS_i (pc' := 32) (As := [.int _, .int _]) (st := []) dX6_earliest_29 rfl ok_J9_max_7cf53 km_RX6_18 rfl (Nat.le_of_ble_eq_true rfl) rfl rfl rfl (Nat.le_of_ble_eq_true rfl) (Nat.lt_succ_self _) ?_
            refine s_maxY (by first | exact ⟨i_lo _, i_hi _⟩ | omega) (by first | exact ⟨i_lo _, i_hi _⟩ | omega) ?_
            refine ⟨_, rfl, ?_⟩
            refine Go_ireturn (ty := .int) dX6_earliest_32 rfl rfl ?_
            refine ⟨_, rfl, ?_⟩
            refine Go_callS_i (pc' := 117) (As := [.int _, .int _]) (st := []) dX11_isFitting_114 rfl ok_J9_max_7cf53 km_RX11_364 rfl (Nat.le_of_ble_eq_true rfl) rfl rfl rfl (Nat.le_of_ble_eq_true rfl) (Nat.lt_succ_self _) ?_
            refine s_maxY (by first | exact ⟨i_lo _, i_hi _⟩ | omega) (by first | exact ⟨i_lo _, i_hi _⟩ | omega) ?_
            refine ⟨_, rfl, ?_⟩
            refine Go_istore (pc' := 119) (lv' := [.ref _, .ref _, .int _, .int _, .int _, .int _, .int _, .int _, .ref _, .ref _, .int _]) dX11_isFitting_117 rfl (Nat.le_of_ble_eq_true rfl) rfl rfl ?_
            refine Go_iload (pc' := 121) dX11_isFitting_119 rfl rfl ?_
            refine Go_aload (pc' := 123) dX11_isFitting_121 rfl rfl ?_
            refine Go_aload_n (pc' := 124) dX11_isFitting_123 rfl rfl rfl ?_
            refine Go_getIv (v := (iZ P)) (pc' := 127) dX11_isFitting_124 rfl kf_RX11_49 (by decide) (by decide) rfl (I.S.b 64 rfl rfl) (I.S.o 64 rfl rfl rfl) (eP) ?_
            refine Go_iload (pc' := 129) dX11_isFitting_127 rfl rfl ?_
            refine Go_imulZ (pc' := 130) dX11_isFitting_129 rfl ?_
            refine Go_aload_n (pc' := 131) dX11_isFitting_130 rfl rfl rfl ?_
            refine Go_getIv (v := (iZ S)) (pc' := 134) dX11_isFitting_131 rfl kf_RX11_53 (by decide) (by decide) rfl (I.S.b 64 rfl rfl) (I.S.o 64 rfl rfl rfl) (eS) ?_
            refine Go_iload (pc' := 136) dX11_isFitting_134 rfl rfl ?_
            refine Go_imulZ (pc' := 137) dX11_isFitting_136 rfl ?_
            refine Go_callV_i (pc' := 140) (As := [.int _, .int _]) (st := [.int _]) dX11_isFitting_137 rfl ok_X6_latest km_RX11_367 RS.o RS.b ⟨_, _, rfl⟩ rfl (Nat.le_of_ble_eq_true rfl) rfl rfl rfl (Nat.le_of_ble_eq_true rfl) (Nat.lt_succ_self _) ?_
            refine Go_aload_n (pc' := 1) dX6_latest_0 rfl rfl rfl ?_
            refine Go_getIv (v := (iZ (vi h 128 (6 * q + c)).toInt)) (pc' := 4) dX6_latest_1 rfl kf_RX6_9 (by decide) (by decide) rfl RS.b RS.o (s1.trans (vi_eta _ _ _)) ?_
            refine Go_iconst (v := iZ (-1)) (pc' := 5) dX6_latest_4 rfl (by decide) ?_
            refine Go_icmp_neY (tgt := 17) (pc' := 8) dX6_latest_5 (by decide) rfl (by first | exact ⟨i_lo _, i_hi _⟩ | omega) (by first | exact ⟨i_lo _, i_hi _⟩ | omega) (fun l5 => ?_) (fun l5 => by exfalso; omega)
            refine Go_aload_n (pc' := 18) dX6_latest_17 rfl rfl rfl ?_
            refine Go_getIv (v := (iZ (vi h 127 (6 * q + c)).toInt)) (pc' := 21) dX6_latest_18 rfl kf_RX6_24 (by decide) (by decide) rfl RS.b RS.o (RV.2.1.1.trans (vi_eta _ _ _)) ?_
            refine Go_iload_n (pc' := 22) dX6_latest_21 rfl rfl rfl ?_
            refine Go_isubZ (pc' := 23) dX6_latest_22 rfl ?_
            refine Go_aload_n (pc' := 24) dX6_latest_23 rfl rfl rfl ?_
            refine Go_getIv (v := (iZ (vi h 129 (6 * q + c)).toInt)) (pc' := 27) dX6_latest_24 rfl kf_RX6_27 (by decide) (by decide) rfl RS.b RS.o (s2.trans (vi_eta _ _ _)) ?_
            refine Go_iload_n (pc' := 28) dX6_latest_27 rfl rfl rfl ?_
            refine Go_isubZ (pc' := 29) dX6_latest_28 rfl ?_
            refine Go_callS_i (pc' := 32) (As := [.int _, .int _]) (st := []) dX6_latest_29 rfl ok_J9_min_7cf53 km_RX6_30 rfl (Nat.le_of_ble_eq_true rfl) rfl rfl rfl (Nat.le_of_ble_eq_true rfl) (Nat.lt_succ_self _) ?_
            refine s_minY (by first | exact ⟨i_lo _, i_hi _⟩ | omega) (by first | exact ⟨i_lo _, i_hi _⟩ | omega) ?_
            refine ⟨_, rfl, ?_⟩
            refine Go_ireturn (ty := .int) dX6_latest_32 rfl rfl ?_
            refine ⟨_, rfl, ?_⟩
            refine Go_callS_i (pc' := 143) (As := [.int _, .int _]) (st := []) dX11_isFitting_140 rfl ok_J9_min_7cf53 km_RX11_370 rfl (Nat.le_of_ble_eq_true rfl) rfl rfl rfl (Nat.le_of_ble_eq_true rfl) (Nat.lt_succ_self _) ?_
            refine s_minY (by first | exact ⟨i_lo _, i_hi _⟩ | omega) (by first | exact ⟨i_lo _, i_hi _⟩ | omega) ?_
            refine ⟨_, rfl, ?_⟩
            refine Go_istore (pc' := 145) (lv' := [.ref _, .ref _, .int _, .int _, .int _, .int _, .int _, .int _, .ref _, .ref _, .int _]) dX11_isFitting_143 rfl (Nat.le_of_ble_eq_true rfl) rfl rfl ?_
            refine Go_iincZ (pc' := 148) (lv' := [.ref _, .ref _, .int _, .int _, .int _, .int _, .int _, .int _, .ref _, .ref _, .int _]) dX11_isFitting_145 rfl rfl (Nat.le_of_ble_eq_true rfl) rfl rfl ?_
            refine Go_goto (tgt := 13) dX11_isFitting_148 (by decide) ?_
            rw [fl_s (ff_2 c35 h0 eD h5)] at hk
            exact ih (c + 1) _ _ _ _ _ (by omega) (by omega) (by omega) hk
          · refine Go_null (pc' := 39) dX11_isFitting_38 rfl ?_
            refine Go_goto (tgt := 48) dX11_isFitting_39 (by decide) ?_
            refine Go_astoreN (pc' := 50) (lv' := [.ref _, .ref _, .int _, .int _, .int _, .int _, .int _, .int _, .null, _, _]) dX11_isFitting_48 rfl (Nat.le_of_ble_eq_true rfl) rfl rfl ?_
            refine Go_aload_n (pc' := 51) dX11_isFitting_50 rfl rfl rfl ?_
            refine Go_iload (pc' := 53) dX11_isFitting_51 rfl rfl ?_
            refine Go_callV_r (pc' := 56) (As := [.int _]) (st := []) dX11_isFitting_53 rfl ok_X11_cellarOf km_RX11_90 (I.S.o 64 rfl rfl rfl) (I.S.b 64 rfl rfl) ⟨_, _, rfl⟩ rfl (Nat.le_of_ble_eq_true rfl) rfl rfl rfl (Nat.le_of_ble_eq_true rfl) (Nat.lt_succ_self _) ?_
            refine Go_iload_n (pc' := 1) dX11_cellarOf_0 rfl rfl rfl ?_
            refine Go_iconst (v := iZ 0) (pc' := 2) dX11_cellarOf_1 rfl (by decide) ?_
            refine Go_aload_n (pc' := 3) dX11_cellarOf_2 rfl rfl rfl ?_
            refine Go_getIv (v := (iZ (nc : Int))) (pc' := 6) dX11_cellarOf_3 rfl kf_RX11_84 (by decide) (by decide) rfl (I.S.b 64 rfl rfl) (I.S.o 64 rfl rfl rfl) (ec2) ?_
            refine Go_iconst (v := iZ 1) (pc' := 7) dX11_cellarOf_6 rfl (by decide) ?_
            refine Go_isubZ (pc' := 8) dX11_cellarOf_7 rfl ?_
            refine Go_callS_i (pc' := 11) (As := [.int _, .int _, .int _]) (st := []) dX11_cellarOf_8 rfl ok_X11_within km_RX11_94 rfl (Nat.le_of_ble_eq_true rfl) rfl rfl rfl (Nat.le_of_ble_eq_true rfl) (Nat.lt_succ_self _) ?_
            refine s_withinY (by first | exact ⟨i_lo _, i_hi _⟩ | omega) (by first | exact ⟨i_lo _, i_hi _⟩ | omega) (by first | exact ⟨i_lo _, i_hi _⟩ | omega) ?_
            refine ⟨_, rfl, ?_⟩
            refine Go_if_eqb (tgt := 32) (pc' := 14) dX11_cellarOf_11 (by decide) rfl (fun q11 => by exfalso; omega) (fun q11 => ?_)
            refine Go_iload_n (pc' := 15) dX11_cellarOf_14 rfl rfl rfl ?_
            refine Go_aload_n (pc' := 16) dX11_cellarOf_15 rfl rfl rfl ?_
            refine Go_getRs (pc' := 19) dX11_cellarOf_16 rfl kf_RX11_18 (by decide) (by decide) rfl (I.S.b 64 rfl rfl) (I.S.o 64 rfl rfl rfl) (I.S.r 64 1 rfl rfl rfl) ?_
            refine Go_alenZ (n := 6) (pc' := 20) dX11_cellarOf_19 rfl (I.S.b 67 rfl rfl) (I.S.k 67 rfl rfl rfl) (Or.inr (Or.inr ⟨_, rfl⟩)) ?_
            refine Go_icmp_geY (tgt := 32) (pc' := 23) dX11_cellarOf_20 (by decide) rfl (by first | exact ⟨i_lo _, i_hi _⟩ | omega) (by first | exact ⟨i_lo _, i_hi _⟩ | omega) (fun q20 => by exfalso; omega) (fun q20 => ?_)
            refine Go_aload_n (pc' := 24) dX11_cellarOf_23 rfl rfl rfl ?_
            refine Go_getRs (pc' := 27) dX11_cellarOf_24 rfl kf_RX11_18 (by decide) (by decide) rfl (I.S.b 64 rfl rfl) (I.S.o 64 rfl rfl rfl) (I.S.r 64 1 rfl rfl rfl) ?_
            refine Go_iload_n (pc' := 28) dX11_cellarOf_27 rfl rfl rfl ?_
            refine Go_aaloadZ (n := 6) (k := c) (pc' := 29) dX11_cellarOf_28 rfl (I.S.b 67 rfl rfl) (I.S.k 67 rfl rfl rfl) rfl rfl (by omega) (by decide) ho ?_
            refine Go_goto (tgt := 33) dX11_cellarOf_29 (by decide) ?_
            refine Go_areturn (r := some _) dX11_cellarOf_33 rfl ?_
            refine ⟨some _, rfl, ?_⟩
            refine Go_astore (pc' := 58) (lv' := [.ref _, .ref _, .int _, .int _, .int _, .int _, .int _, .int _, .null, .ref _, _]) dX11_isFitting_56 rfl (Nat.le_of_ble_eq_true rfl) rfl rfl ?_
            refine Go_aloadN (pc' := 60) dX11_isFitting_58 rfl rfl ?_
            refine Go_ifnullN (tgt := 145) dX11_isFitting_60 (by decide) ?_
            refine Go_iincZ (pc' := 148) (lv' := [.ref _, .ref _, .int _, .int _, .int _, .int _, .int _, .int _, .null, .ref _, _]) dX11_isFitting_145 rfl rfl (Nat.le_of_ble_eq_true rfl) rfl rfl ?_
            refine Go_goto (tgt := 13) dX11_isFitting_148 (by decide) ?_
            rw [fl_n (ff_n (Or.inl c35))] at hk
            exact ih (c + 1) L H _ _ _ (by omega) hL hH hk
set_option maxRecDepth 20000 in
set_option maxHeartbeats 1000000 in
theorem s_fit {G : GC} {d mc ms : Nat} {h : HS} {K : Option Value → HS → Prop} {q u nq nc : Nat} {P S x y : Int} {s : Int32} (I : Inv h) (hnc : nc ≤ 6) (ec2 : vi h 64 2 = iZ (nc : Int)) (hq : q < nq) (hnq : nq ≤ 16) (hu : ri h 80 q = some u) (QS : QkS h u) (RR : ∀ c, c < 6 → RdR h u q c) (eP : vi h 64 8 = iZ P) (eS : vi h 64 9 = iZ S) (hP : 1 ≤ P ∧ P ≤ 99) (hS : 1 ≤ S ∧ S ≤ 99) (hx : 0 ≤ x ∧ x ≤ 39) (hy : 0 ≤ y ∧ y ≤ 39) (hk : K (some (.int (b2i (fl (ff h P S q s x y) nc 0 (-2147483648) 2147483647 = true)))) h) : Go G (d + 2) mc ms M_X11_isFitting 0 [.ref 64, .ref u, .int s, .int (iZ x), .int (iZ y), un, un, un, un, un, un] [] h K := by
  refine Go_ldcwZ (X := (-2147483648)) (pc' := 3) dX11_isFitting_0 rfl kn_RX11_355 (by decide) ?_
  refine Go_istore (pc' := 5) (lv' := [.ref _, .ref _, .int _, .int _, .int _, .int _, un, un, un, un, un]) dX11_isFitting_3 rfl (Nat.le_of_ble_eq_true rfl) rfl rfl ?_
  refine Go_ldcwZ (X := 2147483647) (pc' := 8) dX11_isFitting_5 rfl kn_RX11_356 (by decide) ?_
  refine Go_istore (pc' := 10) (lv' := [.ref _, .ref _, .int _, .int _, .int _, .int _, .int _, un, un, un, un]) dX11_isFitting_8 rfl (Nat.le_of_ble_eq_true rfl) rfl rfl ?_
  refine Go_iconst (v := iZ 0) (pc' := 11) dX11_isFitting_10 rfl (by decide) ?_
  refine Go_istore (pc' := 13) (lv' := [.ref _, .ref _, .int _, .int _, .int _, .int _, .int _, .int _, un, un, un]) dX11_isFitting_11 rfl (Nat.le_of_ble_eq_true rfl) rfl rfl ?_
  exact ft_loop I hnc ec2 hq hnq hu QS RR eP eS hP hS hx hy nc 0 _ _ _ _ _ (Nat.zero_add nc) (by omega) (by omega) hk
set_option maxRecDepth 20000 in
set_option maxHeartbeats 1000000 in
theorem ftM_loop {G : GC} {d mc ms : Nat} {h : HS} {K : Option Value → HS → Prop} {q u nq nc : Nat} {P S x y z : Int} {s : Int32} (I : Inv h) (hnc : nc ≤ 6) (ec2 : vi h 64 2 = iZ (nc : Int)) (ec0 : vi h 99 0 = iZ (nc : Int)) (hq : q < nq) (hnq : nq ≤ 16) (RR : ∀ c, c < 6 → RdR h u q c) (eP : vi h 99 39 = iZ P) (eS : vi h 99 40 = iZ S) (hP : 1 ≤ P ∧ P ≤ 99) (hS : 1 ≤ S ∧ S ≤ 99) (hx : 0 ≤ x ∧ x ≤ 39) (hy : 0 ≤ y ∧ y ≤ 39) (ez : z = 40 * y + x) : ∀ (m c : Nat) (L H : Int) (v7 v8 : Value), c + m = nc → (-9999999 ≤ L ∧ L ≤ 9999999) → (-10000 ≤ H ∧ H ≤ 9999999) → K (some (.int (b2i (fl (ff h P S q s x y) m c L H = true)))) h → Go G (d + 1) mc ms M_X12_isFit 13 [.ref 99, .int (iZ (q : Int)), .int s, .int (iZ z), .int (iZ L), .int (iZ H), .int (iZ (c : Int)), v7, v8] [] h K := by
  intro m
  induction m with
  | zero =>
    intro c L H v7 v8 hm hL hH hk
    refine Go_iload (pc' := 15) dX12_isFit_13 rfl rfl ?_
    refine Go_aload_n (pc' := 16) dX12_isFit_15 rfl rfl rfl ?_
    refine Go_getIv (v := (iZ (nc : Int))) (pc' := 19) dX12_isFit_16 rfl kf_RX12_151 (by decide) (by decide) rfl (I.S.b 99 rfl rfl) (I.S.o 99 rfl rfl rfl) (ec0) ?_
    refine Go_icmp_geY (tgt := 253) (pc' := 22) dX12_isFit_19 (by decide) rfl (by first | exact ⟨i_lo _, i_hi _⟩ | omega) (by first | exact ⟨i_lo _, i_hi _⟩ | omega) (fun c19 => ?_) (fun c19 => by exfalso; omega)
    refine Go_iload (pc' := 255) dX12_isFit_253 rfl rfl ?_
    refine Go_iload (pc' := 257) dX12_isFit_255 rfl rfl ?_
    refine Go_icmp_gtY (tgt := 264) (pc' := 260) dX12_isFit_257 (by decide) rfl (by first | exact ⟨i_lo _, i_hi _⟩ | omega) (by first | exact ⟨i_lo _, i_hi _⟩ | omega) (fun c257 => ?_) (fun c257 => ?_)
    · refine Go_iconst (v := iZ 0) (pc' := 265) dX12_isFit_264 rfl (by decide) ?_
      refine Go_ireturn (ty := .boolean) dX12_isFit_265 rfl rfl ?_
      rw [b2i_f (show ¬ fl (ff h P S q s x y) 0 c L H = true from fun z => by have z := of_decide_eq_true z; omega)] at hk; exact hk
    · refine Go_iconst (v := iZ 1) (pc' := 261) dX12_isFit_260 rfl (by decide) ?_
      refine Go_goto (tgt := 265) dX12_isFit_261 (by decide) ?_
      refine Go_ireturn (ty := .boolean) dX12_isFit_265 rfl rfl ?_
      rw [b2i_t (show fl (ff h P S q s x y) 0 c L H = true from decide_eq_true (by omega))] at hk; exact hk
  | succ m ih =>
    intro c L H v7 v8 hm hL hH hk
    obtain ⟨o, ho, CS, CV⟩ := cel_ex I hnc ec2 (c := c) (by omega)
    obtain ⟨xr, yr, ex, ey, exy⟩ := CV.1.xy
    obtain ⟨D, hD, eD⟩ : ∃ D, (0 ≤ D ∧ D ≤ 55) ∧ dz (x - cX h c) (y - cY h c) = D := ⟨_, (dz_r (by omega) (by omega)).1, rfl⟩
    have w1 := mul_r hP hD
    have w2 := mul_r hS hD
    rcases RR c (by omega) with ⟨hw, h0⟩ | ⟨w, hw, h0, RS, RV, -⟩
    · refine Go_iload (pc' := 15) dX12_isFit_13 rfl rfl ?_
      refine Go_aload_n (pc' := 16) dX12_isFit_15 rfl rfl rfl ?_
      refine Go_getIv (v := (iZ (nc : Int))) (pc' := 19) dX12_isFit_16 rfl kf_RX12_151 (by decide) (by decide) rfl (I.S.b 99 rfl rfl) (I.S.o 99 rfl rfl rfl) (ec0) ?_
      refine Go_icmp_geY (tgt := 253) (pc' := 22) dX12_isFit_19 (by decide) rfl (by first | exact ⟨i_lo _, i_hi _⟩ | omega) (by first | exact ⟨i_lo _, i_hi _⟩ | omega) (fun c19 => by exfalso; omega) (fun c19 => ?_)
      refine Go_bipush (v := iZ 6) (pc' := 24) dX12_isFit_22 rfl (by decide) ?_
      refine Go_iload_n (pc' := 25) dX12_isFit_24 rfl rfl rfl ?_
      refine Go_imulZ (pc' := 26) dX12_isFit_25 rfl ?_
      refine Go_iload (pc' := 28) dX12_isFit_26 rfl rfl ?_
      refine Go_iaddZ (pc' := 29) dX12_isFit_28 rfl ?_
      refine Go_istore (pc' := 31) (lv' := [.ref _, .int _, .int _, .int _, .int _, .int _, .int _, .int _, _]) dX12_isFit_29 rfl (Nat.le_of_ble_eq_true rfl) rfl rfl ?_
      refine Go_iload_n (pc' := 32) dX12_isFit_31 rfl rfl rfl ?_
      refine Go_iload (pc' := 34) dX12_isFit_32 rfl rfl ?_
      refine Go_ishr (pc' := 35) dX12_isFit_34 rfl ?_
      refine Go_iconst (v := iZ 1) (pc' := 36) dX12_isFit_35 rfl (by decide) ?_
      refine Go_iand (pc' := 37) dX12_isFit_36 rfl ?_
      refine Go_if_eq (tgt := 247) (pc' := 40) dX12_isFit_37 (by decide) rfl (fun c37 => ?_) (fun c37 => ?_)
      · refine Go_iincZ (pc' := 250) (lv' := [.ref _, .int _, .int _, .int _, .int _, .int _, .int _, .int _, _]) dX12_isFit_247 rfl rfl (Nat.le_of_ble_eq_true rfl) rfl rfl ?_
        refine Go_goto (tgt := 13) dX12_isFit_250 (by decide) ?_
        rw [fl_n (ff_n (Or.inl c37))] at hk
        exact ih (c + 1) L H _ _ (by omega) hL hH hk
      · refine Go_aload_n (pc' := 41) dX12_isFit_40 rfl rfl rfl ?_
        refine Go_getRs (pc' := 44) dX12_isFit_41 rfl kf_RX12_92 (by decide) (by decide) rfl (I.S.b 99 rfl rfl) (I.S.o 99 rfl rfl rfl) (I.S.r 99 41 rfl rfl rfl) ?_
        refine Go_iload (pc' := 46) dX12_isFit_44 rfl rfl ?_
        refine Go_baloadZ (n := 96) (k := (6 * q + c)) (v := (iZ 0)) (pc' := 47) dX12_isFit_46 rfl (I.S.b 124 rfl rfl) (I.S.k 124 rfl rfl rfl) (by omega) (by omega) (by decide) (h0) ?_
        refine Go_if_neY (tgt := 53) (pc' := 50) dX12_isFit_47 (by decide) rfl (by first | exact ⟨i_lo _, i_hi _⟩ | omega) (fun c47 => by exfalso; omega) (fun c47 => ?_)
        refine Go_goto (tgt := 247) dX12_isFit_50 (by decide) ?_
        refine Go_iincZ (pc' := 250) (lv' := [.ref _, .int _, .int _, .int _, .int _, .int _, .int _, .int _, _]) dX12_isFit_247 rfl rfl (Nat.le_of_ble_eq_true rfl) rfl rfl ?_
        refine Go_goto (tgt := 13) dX12_isFit_250 (by decide) ?_
        rw [fl_n (ff_n (Or.inr h0))] at hk
        exact ih (c + 1) L H _ _ (by omega) hL hH hk
    · have f1 := RV.1.2; have f2 := RV.2.1.2
      rw [RV.1.1] at f1; rw [RV.2.1.1] at f2
      unfold rg at f1 f2
      rcases RV.2.2.1 with ⟨s1, h5⟩ | ⟨s1, s2, h5, g1, g2⟩
      · refine Go_iload (pc' := 15) dX12_isFit_13 rfl rfl ?_
        refine Go_aload_n (pc' := 16) dX12_isFit_15 rfl rfl rfl ?_
        refine Go_getIv (v := (iZ (nc : Int))) (pc' := 19) dX12_isFit_16 rfl kf_RX12_151 (by decide) (by decide) rfl (I.S.b 99 rfl rfl) (I.S.o 99 rfl rfl rfl) (ec0) ?_
        refine Go_icmp_geY (tgt := 253) (pc' := 22) dX12_isFit_19 (by decide) rfl (by first | exact ⟨i_lo _, i_hi _⟩ | omega) (by first | exact ⟨i_lo _, i_hi _⟩ | omega) (fun c19 => by exfalso; omega) (fun c19 => ?_)
        refine Go_bipush (v := iZ 6) (pc' := 24) dX12_isFit_22 rfl (by decide) ?_
        refine Go_iload_n (pc' := 25) dX12_isFit_24 rfl rfl rfl ?_
        refine Go_imulZ (pc' := 26) dX12_isFit_25 rfl ?_
        refine Go_iload (pc' := 28) dX12_isFit_26 rfl rfl ?_
        refine Go_iaddZ (pc' := 29) dX12_isFit_28 rfl ?_
        refine Go_istore (pc' := 31) (lv' := [.ref _, .int _, .int _, .int _, .int _, .int _, .int _, .int _, _]) dX12_isFit_29 rfl (Nat.le_of_ble_eq_true rfl) rfl rfl ?_
        refine Go_iload_n (pc' := 32) dX12_isFit_31 rfl rfl rfl ?_
        refine Go_iload (pc' := 34) dX12_isFit_32 rfl rfl ?_
        refine Go_ishr (pc' := 35) dX12_isFit_34 rfl ?_
        refine Go_iconst (v := iZ 1) (pc' := 36) dX12_isFit_35 rfl (by decide) ?_
        refine Go_iand (pc' := 37) dX12_isFit_36 rfl ?_
        refine Go_if_eq (tgt := 247) (pc' := 40) dX12_isFit_37 (by decide) rfl (fun c37 => ?_) (fun c37 => ?_)
        · refine Go_iincZ (pc' := 250) (lv' := [.ref _, .int _, .int _, .int _, .int _, .int _, .int _, .int _, _]) dX12_isFit_247 rfl rfl (Nat.le_of_ble_eq_true rfl) rfl rfl ?_
          refine Go_goto (tgt := 13) dX12_isFit_250 (by decide) ?_
          rw [fl_n (ff_n (Or.inl c37))] at hk
          exact ih (c + 1) L H _ _ (by omega) hL hH hk
        · refine Go_aload_n (pc' := 41) dX12_isFit_40 rfl rfl rfl ?_
          refine Go_getRs (pc' := 44) dX12_isFit_41 rfl kf_RX12_92 (by decide) (by decide) rfl (I.S.b 99 rfl rfl) (I.S.o 99 rfl rfl rfl) (I.S.r 99 41 rfl rfl rfl) ?_
          refine Go_iload (pc' := 46) dX12_isFit_44 rfl rfl ?_
          refine Go_baloadZ (n := 96) (k := (6 * q + c)) (v := (iZ 1)) (pc' := 47) dX12_isFit_46 rfl (I.S.b 124 rfl rfl) (I.S.k 124 rfl rfl rfl) (by omega) (by omega) (by decide) (h0) ?_
          refine Go_if_neY (tgt := 53) (pc' := 50) dX12_isFit_47 (by decide) rfl (by first | exact ⟨i_lo _, i_hi _⟩ | omega) (fun c47 => ?_) (fun c47 => by exfalso; omega)
          refine Go_iload_n (pc' := 54) dX12_isFit_53 rfl rfl rfl ?_
          refine Go_aload_n (pc' := 55) dX12_isFit_54 rfl rfl rfl ?_
          refine Go_getRs (pc' := 58) dX12_isFit_55 rfl kf_RX12_7 (by decide) (by decide) rfl (I.S.b 99 rfl rfl) (I.S.o 99 rfl rfl rfl) (I.S.r 99 1 rfl rfl rfl) ?_
          refine Go_iload (pc' := 60) dX12_isFit_58 rfl rfl ?_
          refine Go_ialoadZ (n := 6) (k := c) (v := (iZ (40 * cY h c + cX h c))) (pc' := 61) dX12_isFit_60 rfl (I.S.b 100 rfl rfl) (I.S.k 100 rfl rfl rfl) rfl (by omega) (by decide) (exy) ?_
          refine Go_callS_i (pc' := 64) (As := [.int _, .int _]) (st := []) dX12_isFit_61 rfl ok_X12_distance km_RX12_350 rfl (Nat.le_of_ble_eq_true rfl) rfl rfl rfl (Nat.le_of_ble_eq_true rfl) (Nat.lt_succ_self _) ?_
          refine s_distX (x := x) (y := y) (u := cX h c) (v := cY h c) ez rfl (by omega) (by omega) (by omega) (by omega) ?_
          refine ⟨_, rfl, ?_⟩
          rw [eD]
          refine Go_istore (pc' := 66) (lv' := [.ref _, .int _, .int _, .int _, .int _, .int _, .int _, .int _, .int _]) dX12_isFit_64 rfl (Nat.le_of_ble_eq_true rfl) rfl rfl ?_
          refine Go_aload_n (pc' := 67) dX12_isFit_66 rfl rfl rfl ?_
          refine Go_getRs (pc' := 70) dX12_isFit_67 rfl kf_RX12_99 (by decide) (by decide) rfl (I.S.b 99 rfl rfl) (I.S.o 99 rfl rfl rfl) (I.S.r 99 43 rfl rfl rfl) ?_
          refine Go_iload (pc' := 72) dX12_isFit_70 rfl rfl ?_
          refine Go_ialoadZ (n := 96) (k := (6 * q + c)) (v := (iZ (vi h 126 (6 * q + c)).toInt)) (pc' := 73) dX12_isFit_72 rfl (I.S.b 126 rfl rfl) (I.S.k 126 rfl rfl rfl) (by omega) (by omega) (by decide) (vi_eta _ _ _) ?_
          refine Go_aload_n (pc' := 74) dX12_isFit_73 rfl rfl rfl ?_
          refine Go_getIv (v := (iZ P)) (pc' := 77) dX12_isFit_74 rfl kf_RX12_86 (by decide) (by decide) rfl (I.S.b 99 rfl rfl) (I.S.o 99 rfl rfl rfl) (eP) ?_
          refine Go_iload (pc' := 79) dX12_isFit_77 rfl rfl ?_
          refine Go_imulZ (pc' := 80) dX12_isFit_79 rfl ?_
          refine Go_isubZ (pc' := 81) dX12_isFit_80 rfl ?_
          refine Go_iload (pc' := 83) dX12_isFit_81 rfl rfl ?_
          refine Go_icmp_leY (tgt := 104) (pc' := 86) dX12_isFit_83 (by decide) rfl (by first | exact ⟨i_lo _, i_hi _⟩ | omega) (by first | exact ⟨i_lo _, i_hi _⟩ | omega) (fun c83 => ?_) (fun c83 => ?_)
          · refine Go_iload (pc' := 106) dX12_isFit_104 rfl rfl ?_
            refine Go_istore (pc' := 108) (lv' := [.ref _, .int _, .int _, .int _, .int _, .int _, .int _, .int _, .int _]) dX12_isFit_106 rfl (Nat.le_of_ble_eq_true rfl) rfl rfl ?_
            refine Go_aload_n (pc' := 109) dX12_isFit_108 rfl rfl rfl ?_
            refine Go_getRs (pc' := 112) dX12_isFit_109 rfl kf_RX12_102 (by decide) (by decide) rfl (I.S.b 99 rfl rfl) (I.S.o 99 rfl rfl rfl) (I.S.r 99 44 rfl rfl rfl) ?_
            refine Go_iload (pc' := 114) dX12_isFit_112 rfl rfl ?_
            refine Go_ialoadZ (n := 96) (k := (6 * q + c)) (v := (iZ (vi h 127 (6 * q + c)).toInt)) (pc' := 115) dX12_isFit_114 rfl (I.S.b 127 rfl rfl) (I.S.k 127 rfl rfl rfl) (by omega) (by omega) (by decide) (vi_eta _ _ _) ?_
            refine Go_aload_n (pc' := 116) dX12_isFit_115 rfl rfl rfl ?_
            refine Go_getIv (v := (iZ P)) (pc' := 119) dX12_isFit_116 rfl kf_RX12_86 (by decide) (by decide) rfl (I.S.b 99 rfl rfl) (I.S.o 99 rfl rfl rfl) (eP) ?_
            refine Go_iload (pc' := 121) dX12_isFit_119 rfl rfl ?_
            refine Go_imulZ (pc' := 122) dX12_isFit_121 rfl ?_
            refine Go_isubZ (pc' := 123) dX12_isFit_122 rfl ?_
            refine Go_iload (pc' := 125) dX12_isFit_123 rfl rfl ?_
            refine Go_icmp_geY (tgt := 146) (pc' := 128) dX12_isFit_125 (by decide) rfl (by first | exact ⟨i_lo _, i_hi _⟩ | omega) (by first | exact ⟨i_lo _, i_hi _⟩ | omega) (fun c125 => ?_) (fun c125 => ?_)
            · refine Go_iload (pc' := 148) dX12_isFit_146 rfl rfl ?_
              refine Go_istore (pc' := 150) (lv' := [.ref _, .int _, .int _, .int _, .int _, .int _, .int _, .int _, .int _]) dX12_isFit_148 rfl (Nat.le_of_ble_eq_true rfl) rfl rfl ?_
              refine Go_aload_n (pc' := 151) dX12_isFit_150 rfl rfl rfl ?_
              refine Go_getRs (pc' := 154) dX12_isFit_151 rfl kf_RX12_96 (by decide) (by decide) rfl (I.S.b 99 rfl rfl) (I.S.o 99 rfl rfl rfl) (I.S.r 99 42 rfl rfl rfl) ?_
              refine Go_iload (pc' := 156) dX12_isFit_154 rfl rfl ?_
              refine Go_baloadZ (n := 96) (k := (6 * q + c)) (v := (iZ 0)) (pc' := 157) dX12_isFit_156 rfl (I.S.b 125 rfl rfl) (I.S.k 125 rfl rfl rfl) (by omega) (by omega) (by decide) (h5) ?_
              refine Go_if_neY (tgt := 163) (pc' := 160) dX12_isFit_157 (by decide) rfl (by first | exact ⟨i_lo _, i_hi _⟩ | omega) (fun c157 => by exfalso; omega) (fun c157 => ?_)
              refine Go_goto (tgt := 247) dX12_isFit_160 (by decide) ?_
              refine Go_iincZ (pc' := 250) (lv' := [.ref _, .int _, .int _, .int _, .int _, .int _, .int _, .int _, .int _]) dX12_isFit_247 rfl rfl (Nat.le_of_ble_eq_true rfl) rfl rfl ?_
              refine Go_goto (tgt := 13) dX12_isFit_250 (by decide) ?_
              rw [fl_s (ff_1 c37 h0 eD h5), show max L ((vi h 126 (6 * q + c)).toInt - P * D) = L by omega, show min H ((vi h 127 (6 * q + c)).toInt - P * D) = H by omega] at hk
              exact ih (c + 1) _ _ _ _ (by omega) (by omega) (by omega) hk
            · refine Go_aload_n (pc' := 129) dX12_isFit_128 rfl rfl rfl ?_
              refine Go_getRs (pc' := 132) dX12_isFit_129 rfl kf_RX12_102 (by decide) (by decide) rfl (I.S.b 99 rfl rfl) (I.S.o 99 rfl rfl rfl) (I.S.r 99 44 rfl rfl rfl) ?_
              refine Go_iload (pc' := 134) dX12_isFit_132 rfl rfl ?_
              refine Go_ialoadZ (n := 96) (k := (6 * q + c)) (v := (iZ (vi h 127 (6 * q + c)).toInt)) (pc' := 135) dX12_isFit_134 rfl (I.S.b 127 rfl rfl) (I.S.k 127 rfl rfl rfl) (by omega) (by omega) (by decide) (vi_eta _ _ _) ?_
              refine Go_aload_n (pc' := 136) dX12_isFit_135 rfl rfl rfl ?_
              refine Go_getIv (v := (iZ P)) (pc' := 139) dX12_isFit_136 rfl kf_RX12_86 (by decide) (by decide) rfl (I.S.b 99 rfl rfl) (I.S.o 99 rfl rfl rfl) (eP) ?_
              refine Go_iload (pc' := 141) dX12_isFit_139 rfl rfl ?_
              refine Go_imulZ (pc' := 142) dX12_isFit_141 rfl ?_
              refine Go_isubZ (pc' := 143) dX12_isFit_142 rfl ?_
              refine Go_goto (tgt := 148) dX12_isFit_143 (by decide) ?_
              refine Go_istore (pc' := 150) (lv' := [.ref _, .int _, .int _, .int _, .int _, .int _, .int _, .int _, .int _]) dX12_isFit_148 rfl (Nat.le_of_ble_eq_true rfl) rfl rfl ?_
              refine Go_aload_n (pc' := 151) dX12_isFit_150 rfl rfl rfl ?_
              refine Go_getRs (pc' := 154) dX12_isFit_151 rfl kf_RX12_96 (by decide) (by decide) rfl (I.S.b 99 rfl rfl) (I.S.o 99 rfl rfl rfl) (I.S.r 99 42 rfl rfl rfl) ?_
              refine Go_iload (pc' := 156) dX12_isFit_154 rfl rfl ?_
              refine Go_baloadZ (n := 96) (k := (6 * q + c)) (v := (iZ 0)) (pc' := 157) dX12_isFit_156 rfl (I.S.b 125 rfl rfl) (I.S.k 125 rfl rfl rfl) (by omega) (by omega) (by decide) (h5) ?_
              refine Go_if_neY (tgt := 163) (pc' := 160) dX12_isFit_157 (by decide) rfl (by first | exact ⟨i_lo _, i_hi _⟩ | omega) (fun c157 => by exfalso; omega) (fun c157 => ?_)
              refine Go_goto (tgt := 247) dX12_isFit_160 (by decide) ?_
              refine Go_iincZ (pc' := 250) (lv' := [.ref _, .int _, .int _, .int _, .int _, .int _, .int _, .int _, .int _]) dX12_isFit_247 rfl rfl (Nat.le_of_ble_eq_true rfl) rfl rfl ?_
              refine Go_goto (tgt := 13) dX12_isFit_250 (by decide) ?_
              rw [fl_s (ff_1 c37 h0 eD h5), show max L ((vi h 126 (6 * q + c)).toInt - P * D) = L by omega, show min H ((vi h 127 (6 * q + c)).toInt - P * D) = ((vi h 127 (6 * q + c)).toInt - (P * D)) by omega] at hk
              exact ih (c + 1) _ _ _ _ (by omega) (by omega) (by omega) hk
          · refine Go_aload_n (pc' := 87) dX12_isFit_86 rfl rfl rfl ?_
            refine Go_getRs (pc' := 90) dX12_isFit_87 rfl kf_RX12_99 (by decide) (by decide) rfl (I.S.b 99 rfl rfl) (I.S.o 99 rfl rfl rfl) (I.S.r 99 43 rfl rfl rfl) ?_
            refine Go_iload (pc' := 92) dX12_isFit_90 rfl rfl ?_
            refine Go_ialoadZ (n := 96) (k := (6 * q + c)) (v := (iZ (vi h 126 (6 * q + c)).toInt)) (pc' := 93) dX12_isFit_92 rfl (I.S.b 126 rfl rfl) (I.S.k 126 rfl rfl rfl) (by omega) (by omega) (by decide) (vi_eta _ _ _) ?_
            refine Go_aload_n (pc' := 94) dX12_isFit_93 rfl rfl rfl ?_
            refine Go_getIv (v := (iZ P)) (pc' := 97) dX12_isFit_94 rfl kf_RX12_86 (by decide) (by decide) rfl (I.S.b 99 rfl rfl) (I.S.o 99 rfl rfl rfl) (eP) ?_
            refine Go_iload (pc' := 99) dX12_isFit_97 rfl rfl ?_
            refine Go_imulZ (pc' := 100) dX12_isFit_99 rfl ?_
            refine Go_isubZ (pc' := 101) dX12_isFit_100 rfl ?_
            refine Go_goto (tgt := 106) dX12_isFit_101 (by decide) ?_
            refine Go_istore (pc' := 108) (lv' := [.ref _, .int _, .int _, .int _, .int _, .int _, .int _, .int _, .int _]) dX12_isFit_106 rfl (Nat.le_of_ble_eq_true rfl) rfl rfl ?_
            refine Go_aload_n (pc' := 109) dX12_isFit_108 rfl rfl rfl ?_
            refine Go_getRs (pc' := 112) dX12_isFit_109 rfl kf_RX12_102 (by decide) (by decide) rfl (I.S.b 99 rfl rfl) (I.S.o 99 rfl rfl rfl) (I.S.r 99 44 rfl rfl rfl) ?_
            refine Go_iload (pc' := 114) dX12_isFit_112 rfl rfl ?_
            refine Go_ialoadZ (n := 96) (k := (6 * q + c)) (v := (iZ (vi h 127 (6 * q + c)).toInt)) (pc' := 115) dX12_isFit_114 rfl (I.S.b 127 rfl rfl) (I.S.k 127 rfl rfl rfl) (by omega) (by omega) (by decide) (vi_eta _ _ _) ?_
            refine Go_aload_n (pc' := 116) dX12_isFit_115 rfl rfl rfl ?_
            refine Go_getIv (v := (iZ P)) (pc' := 119) dX12_isFit_116 rfl kf_RX12_86 (by decide) (by decide) rfl (I.S.b 99 rfl rfl) (I.S.o 99 rfl rfl rfl) (eP) ?_
            refine Go_iload (pc' := 121) dX12_isFit_119 rfl rfl ?_
            refine Go_imulZ (pc' := 122) dX12_isFit_121 rfl ?_
            refine Go_isubZ (pc' := 123) dX12_isFit_122 rfl ?_
            refine Go_iload (pc' := 125) dX12_isFit_123 rfl rfl ?_
            refine Go_icmp_geY (tgt := 146) (pc' := 128) dX12_isFit_125 (by decide) rfl (by first | exact ⟨i_lo _, i_hi _⟩ | omega) (by first | exact ⟨i_lo _, i_hi _⟩ | omega) (fun c125 => ?_) (fun c125 => ?_)
            · refine Go_iload (pc' := 148) dX12_isFit_146 rfl rfl ?_
              refine Go_istore (pc' := 150) (lv' := [.ref _, .int _, .int _, .int _, .int _, .int _, .int _, .int _, .int _]) dX12_isFit_148 rfl (Nat.le_of_ble_eq_true rfl) rfl rfl ?_
              refine Go_aload_n (pc' := 151) dX12_isFit_150 rfl rfl rfl ?_
              refine Go_getRs (pc' := 154) dX12_isFit_151 rfl kf_RX12_96 (by decide) (by decide) rfl (I.S.b 99 rfl rfl) (I.S.o 99 rfl rfl rfl) (I.S.r 99 42 rfl rfl rfl) ?_
              refine Go_iload (pc' := 156) dX12_isFit_154 rfl rfl ?_
              refine Go_baloadZ (n := 96) (k := (6 * q + c)) (v := (iZ 0)) (pc' := 157) dX12_isFit_156 rfl (I.S.b 125 rfl rfl) (I.S.k 125 rfl rfl rfl) (by omega) (by omega) (by decide) (h5) ?_
              refine Go_if_neY (tgt := 163) (pc' := 160) dX12_isFit_157 (by decide) rfl (by first | exact ⟨i_lo _, i_hi _⟩ | omega) (fun c157 => by exfalso; omega) (fun c157 => ?_)
              refine Go_goto (tgt := 247) dX12_isFit_160 (by decide) ?_
              refine Go_iincZ (pc' := 250) (lv' := [.ref _, .int _, .int _, .int _, .int _, .int _, .int _, .int _, .int _]) dX12_isFit_247 rfl rfl (Nat.le_of_ble_eq_true rfl) rfl rfl ?_
              refine Go_goto (tgt := 13) dX12_isFit_250 (by decide) ?_
              rw [fl_s (ff_1 c37 h0 eD h5), show max L ((vi h 126 (6 * q + c)).toInt - P * D) = ((vi h 126 (6 * q + c)).toInt - (P * D)) by omega, show min H ((vi h 127 (6 * q + c)).toInt - P * D) = H by omega] at hk
              exact ih (c + 1) _ _ _ _ (by omega) (by omega) (by omega) hk
            · refine Go_aload_n (pc' := 129) dX12_isFit_128 rfl rfl rfl ?_
              refine Go_getRs (pc' := 132) dX12_isFit_129 rfl kf_RX12_102 (by decide) (by decide) rfl (I.S.b 99 rfl rfl) (I.S.o 99 rfl rfl rfl) (I.S.r 99 44 rfl rfl rfl) ?_
              refine Go_iload (pc' := 134) dX12_isFit_132 rfl rfl ?_
              refine Go_ialoadZ (n := 96) (k := (6 * q + c)) (v := (iZ (vi h 127 (6 * q + c)).toInt)) (pc' := 135) dX12_isFit_134 rfl (I.S.b 127 rfl rfl) (I.S.k 127 rfl rfl rfl) (by omega) (by omega) (by decide) (vi_eta _ _ _) ?_
              refine Go_aload_n (pc' := 136) dX12_isFit_135 rfl rfl rfl ?_
              refine Go_getIv (v := (iZ P)) (pc' := 139) dX12_isFit_136 rfl kf_RX12_86 (by decide) (by decide) rfl (I.S.b 99 rfl rfl) (I.S.o 99 rfl rfl rfl) (eP) ?_
              refine Go_iload (pc' := 141) dX12_isFit_139 rfl rfl ?_
              refine Go_imulZ (pc' := 142) dX12_isFit_141 rfl ?_
              refine Go_isubZ (pc' := 143) dX12_isFit_142 rfl ?_
              refine Go_goto (tgt := 148) dX12_isFit_143 (by decide) ?_
              refine Go_istore (pc' := 150) (lv' := [.ref _, .int _, .int _, .int _, .int _, .int _, .int _, .int _, .int _]) dX12_isFit_148 rfl (Nat.le_of_ble_eq_true rfl) rfl rfl ?_
              refine Go_aload_n (pc' := 151) dX12_isFit_150 rfl rfl rfl ?_
              refine Go_getRs (pc' := 154) dX12_isFit_151 rfl kf_RX12_96 (by decide) (by decide) rfl (I.S.b 99 rfl rfl) (I.S.o 99 rfl rfl rfl) (I.S.r 99 42 rfl rfl rfl) ?_
              refine Go_iload (pc' := 156) dX12_isFit_154 rfl rfl ?_
              refine Go_baloadZ (n := 96) (k := (6 * q + c)) (v := (iZ 0)) (pc' := 157) dX12_isFit_156 rfl (I.S.b 125 rfl rfl) (I.S.k 125 rfl rfl rfl) (by omega) (by omega) (by decide) (h5) ?_
              refine Go_if_neY (tgt := 163) (pc' := 160) dX12_isFit_157 (by decide) rfl (by first | exact ⟨i_lo _, i_hi _⟩ | omega) (fun c157 => by exfalso; omega) (fun c157 => ?_)
              refine Go_goto (tgt := 247) dX12_isFit_160 (by decide) ?_
              refine Go_iincZ (pc' := 250) (lv' := [.ref _, .int _, .int _, .int _, .int _, .int _, .int _, .int _, .int _]) dX12_isFit_247 rfl rfl (Nat.le_of_ble_eq_true rfl) rfl rfl ?_
              refine Go_goto (tgt := 13) dX12_isFit_250 (by decide) ?_
              rw [fl_s (ff_1 c37 h0 eD h5), show max L ((vi h 126 (6 * q + c)).toInt - P * D) = ((vi h 126 (6 * q + c)).toInt - (P * D)) by omega, show min H ((vi h 127 (6 * q + c)).toInt - P * D) = ((vi h 127 (6 * q + c)).toInt - (P * D)) by omega] at hk
              exact ih (c + 1) _ _ _ _ (by omega) (by omega) (by omega) hk
      · rw [s1] at g1; rw [s2] at g2
        unfold rg at g1 g2
        refine Go_iload (pc' := 15) dX12_isFit_13 rfl rfl ?_
        refine Go_aload_n (pc' := 16) dX12_isFit_15 rfl rfl rfl ?_
        refine Go_getIv (v := (iZ (nc : Int))) (pc' := 19) dX12_isFit_16 rfl kf_RX12_151 (by decide) (by decide) rfl (I.S.b 99 rfl rfl) (I.S.o 99 rfl rfl rfl) (ec0) ?_
        refine Go_icmp_geY (tgt := 253) (pc' := 22) dX12_isFit_19 (by decide) rfl (by first | exact ⟨i_lo _, i_hi _⟩ | omega) (by first | exact ⟨i_lo _, i_hi _⟩ | omega) (fun c19 => by exfalso; omega) (fun c19 => ?_)
        refine Go_bipush (v := iZ 6) (pc' := 24) dX12_isFit_22 rfl (by decide) ?_
        refine Go_iload_n (pc' := 25) dX12_isFit_24 rfl rfl rfl ?_
        refine Go_imulZ (pc' := 26) dX12_isFit_25 rfl ?_
        refine Go_iload (pc' := 28) dX12_isFit_26 rfl rfl ?_
        refine Go_iaddZ (pc' := 29) dX12_isFit_28 rfl ?_
        refine Go_istore (pc' := 31) (lv' := [.ref _, .int _, .int _, .int _, .int _, .int _, .int _, .int _, _]) dX12_isFit_29 rfl (Nat.le_of_ble_eq_true rfl) rfl rfl ?_
        refine Go_iload_n (pc' := 32) dX12_isFit_31 rfl rfl rfl ?_
        refine Go_iload (pc' := 34) dX12_isFit_32 rfl rfl ?_
        refine Go_ishr (pc' := 35) dX12_isFit_34 rfl ?_
        refine Go_iconst (v := iZ 1) (pc' := 36) dX12_isFit_35 rfl (by decide) ?_
        refine Go_iand (pc' := 37) dX12_isFit_36 rfl ?_
        refine Go_if_eq (tgt := 247) (pc' := 40) dX12_isFit_37 (by decide) rfl (fun c37 => ?_) (fun c37 => ?_)
        · refine Go_iincZ (pc' := 250) (lv' := [.ref _, .int _, .int _, .int _, .int _, .int _, .int _, .int _, _]) dX12_isFit_247 rfl rfl (Nat.le_of_ble_eq_true rfl) rfl rfl ?_
          refine Go_goto (tgt := 13) dX12_isFit_250 (by decide) ?_
          rw [fl_n (ff_n (Or.inl c37))] at hk
          exact ih (c + 1) L H _ _ (by omega) hL hH hk
        · refine Go_aload_n (pc' := 41) dX12_isFit_40 rfl rfl rfl ?_
          refine Go_getRs (pc' := 44) dX12_isFit_41 rfl kf_RX12_92 (by decide) (by decide) rfl (I.S.b 99 rfl rfl) (I.S.o 99 rfl rfl rfl) (I.S.r 99 41 rfl rfl rfl) ?_
          refine Go_iload (pc' := 46) dX12_isFit_44 rfl rfl ?_
          refine Go_baloadZ (n := 96) (k := (6 * q + c)) (v := (iZ 1)) (pc' := 47) dX12_isFit_46 rfl (I.S.b 124 rfl rfl) (I.S.k 124 rfl rfl rfl) (by omega) (by omega) (by decide) (h0) ?_
          refine Go_if_neY (tgt := 53) (pc' := 50) dX12_isFit_47 (by decide) rfl (by first | exact ⟨i_lo _, i_hi _⟩ | omega) (fun c47 => ?_) (fun c47 => by exfalso; omega)
          refine Go_iload_n (pc' := 54) dX12_isFit_53 rfl rfl rfl ?_
          refine Go_aload_n (pc' := 55) dX12_isFit_54 rfl rfl rfl ?_
          refine Go_getRs (pc' := 58) dX12_isFit_55 rfl kf_RX12_7 (by decide) (by decide) rfl (I.S.b 99 rfl rfl) (I.S.o 99 rfl rfl rfl) (I.S.r 99 1 rfl rfl rfl) ?_
          refine Go_iload (pc' := 60) dX12_isFit_58 rfl rfl ?_
          refine Go_ialoadZ (n := 6) (k := c) (v := (iZ (40 * cY h c + cX h c))) (pc' := 61) dX12_isFit_60 rfl (I.S.b 100 rfl rfl) (I.S.k 100 rfl rfl rfl) rfl (by omega) (by decide) (exy) ?_
          refine Go_callS_i (pc' := 64) (As := [.int _, .int _]) (st := []) dX12_isFit_61 rfl ok_X12_distance km_RX12_350 rfl (Nat.le_of_ble_eq_true rfl) rfl rfl rfl (Nat.le_of_ble_eq_true rfl) (Nat.lt_succ_self _) ?_
          refine s_distX (x := x) (y := y) (u := cX h c) (v := cY h c) ez rfl (by omega) (by omega) (by omega) (by omega) ?_
          refine ⟨_, rfl, ?_⟩
          rw [eD]
          refine Go_istore (pc' := 66) (lv' := [.ref _, .int _, .int _, .int _, .int _, .int _, .int _, .int _, .int _]) dX12_isFit_64 rfl (Nat.le_of_ble_eq_true rfl) rfl rfl ?_
          refine Go_aload_n (pc' := 67) dX12_isFit_66 rfl rfl rfl ?_
          refine Go_getRs (pc' := 70) dX12_isFit_67 rfl kf_RX12_99 (by decide) (by decide) rfl (I.S.b 99 rfl rfl) (I.S.o 99 rfl rfl rfl) (I.S.r 99 43 rfl rfl rfl) ?_
          refine Go_iload (pc' := 72) dX12_isFit_70 rfl rfl ?_
          refine Go_ialoadZ (n := 96) (k := (6 * q + c)) (v := (iZ (vi h 126 (6 * q + c)).toInt)) (pc' := 73) dX12_isFit_72 rfl (I.S.b 126 rfl rfl) (I.S.k 126 rfl rfl rfl) (by omega) (by omega) (by decide) (vi_eta _ _ _) ?_
          refine Go_aload_n (pc' := 74) dX12_isFit_73 rfl rfl rfl ?_
          refine Go_getIv (v := (iZ P)) (pc' := 77) dX12_isFit_74 rfl kf_RX12_86 (by decide) (by decide) rfl (I.S.b 99 rfl rfl) (I.S.o 99 rfl rfl rfl) (eP) ?_
          refine Go_iload (pc' := 79) dX12_isFit_77 rfl rfl ?_
          refine Go_imulZ (pc' := 80) dX12_isFit_79 rfl ?_
          refine Go_isubZ (pc' := 81) dX12_isFit_80 rfl ?_
          refine Go_iload (pc' := 83) dX12_isFit_81 rfl rfl ?_
          refine Go_icmp_leY (tgt := 104) (pc' := 86) dX12_isFit_83 (by decide) rfl (by first | exact ⟨i_lo _, i_hi _⟩ | omega) (by first | exact ⟨i_lo _, i_hi _⟩ | omega) (fun c83 => ?_) (fun c83 => ?_)
          · refine Go_iload (pc' := 106) dX12_isFit_104 rfl rfl ?_
            refine Go_istore (pc' := 108) (lv' := [.ref _, .int _, .int _, .int _, .int _, .int _, .int _, .int _, .int _]) dX12_isFit_106 rfl (Nat.le_of_ble_eq_true rfl) rfl rfl ?_
            refine Go_aload_n (pc' := 109) dX12_isFit_108 rfl rfl rfl ?_
            refine Go_getRs (pc' := 112) dX12_isFit_109 rfl kf_RX12_102 (by decide) (by decide) rfl (I.S.b 99 rfl rfl) (I.S.o 99 rfl rfl rfl) (I.S.r 99 44 rfl rfl rfl) ?_
            refine Go_iload (pc' := 114) dX12_isFit_112 rfl rfl ?_
            refine Go_ialoadZ (n := 96) (k := (6 * q + c)) (v := (iZ (vi h 127 (6 * q + c)).toInt)) (pc' := 115) dX12_isFit_114 rfl (I.S.b 127 rfl rfl) (I.S.k 127 rfl rfl rfl) (by omega) (by omega) (by decide) (vi_eta _ _ _) ?_
            refine Go_aload_n (pc' := 116) dX12_isFit_115 rfl rfl rfl ?_
            refine Go_getIv (v := (iZ P)) (pc' := 119) dX12_isFit_116 rfl kf_RX12_86 (by decide) (by decide) rfl (I.S.b 99 rfl rfl) (I.S.o 99 rfl rfl rfl) (eP) ?_
            refine Go_iload (pc' := 121) dX12_isFit_119 rfl rfl ?_
            refine Go_imulZ (pc' := 122) dX12_isFit_121 rfl ?_
            refine Go_isubZ (pc' := 123) dX12_isFit_122 rfl ?_
            refine Go_iload (pc' := 125) dX12_isFit_123 rfl rfl ?_
            refine Go_icmp_geY (tgt := 146) (pc' := 128) dX12_isFit_125 (by decide) rfl (by first | exact ⟨i_lo _, i_hi _⟩ | omega) (by first | exact ⟨i_lo _, i_hi _⟩ | omega) (fun c125 => ?_) (fun c125 => ?_)
            · refine Go_iload (pc' := 148) dX12_isFit_146 rfl rfl ?_
              refine Go_istore (pc' := 150) (lv' := [.ref _, .int _, .int _, .int _, .int _, .int _, .int _, .int _, .int _]) dX12_isFit_148 rfl (Nat.le_of_ble_eq_true rfl) rfl rfl ?_
              refine Go_aload_n (pc' := 151) dX12_isFit_150 rfl rfl rfl ?_
              refine Go_getRs (pc' := 154) dX12_isFit_151 rfl kf_RX12_96 (by decide) (by decide) rfl (I.S.b 99 rfl rfl) (I.S.o 99 rfl rfl rfl) (I.S.r 99 42 rfl rfl rfl) ?_
              refine Go_iload (pc' := 156) dX12_isFit_154 rfl rfl ?_
              refine Go_baloadZ (n := 96) (k := (6 * q + c)) (v := (iZ 1)) (pc' := 157) dX12_isFit_156 rfl (I.S.b 125 rfl rfl) (I.S.k 125 rfl rfl rfl) (by omega) (by omega) (by decide) (h5) ?_
              refine Go_if_neY (tgt := 163) (pc' := 160) dX12_isFit_157 (by decide) rfl (by first | exact ⟨i_lo _, i_hi _⟩ | omega) (fun c157 => ?_) (fun c157 => by exfalso; omega)
              refine Go_aload_n (pc' := 164) dX12_isFit_163 rfl rfl rfl ?_
              refine Go_getRs (pc' := 167) dX12_isFit_164 rfl kf_RX12_105 (by decide) (by decide) rfl (I.S.b 99 rfl rfl) (I.S.o 99 rfl rfl rfl) (I.S.r 99 45 rfl rfl rfl) ?_
              refine Go_iload (pc' := 169) dX12_isFit_167 rfl rfl ?_
              refine Go_ialoadZ (n := 96) (k := (6 * q + c)) (v := (iZ (vi h 128 (6 * q + c)).toInt)) (pc' := 170) dX12_isFit_169 rfl (I.S.b 128 rfl rfl) (I.S.k 128 rfl rfl rfl) (by omega) (by omega) (by decide) (vi_eta _ _ _) ?_
              refine Go_aload_n (pc' := 171) dX12_isFit_170 rfl rfl rfl ?_
              refine Go_getIv (v := (iZ S)) (pc' := 174) dX12_isFit_171 rfl kf_RX12_89 (by decide) (by decide) rfl (I.S.b 99 rfl rfl) (I.S.o 99 rfl rfl rfl) (eS) ?_
              refine Go_iload (pc' := 176) dX12_isFit_174 rfl rfl ?_
              refine Go_imulZ (pc' := 177) dX12_isFit_176 rfl ?_
              refine Go_isubZ (pc' := 178) dX12_isFit_177 rfl ?_
              refine Go_iload (pc' := 180) dX12_isFit_178 rfl rfl ?_
              refine Go_icmp_leY (tgt := 201) (pc' := 183) dX12_isFit_180 (by decide) rfl (by first | exact ⟨i_lo _, i_hi _⟩ | omega) (by first | exact ⟨i_lo _, i_hi _⟩ | omega) (fun c180 => ?_) (fun c180 => ?_)
              · refine Go_iload (pc' := 203) dX12_isFit_201 rfl rfl ?_
                refine Go_istore (pc' := 205) (lv' := [.ref _, .int _, .int _, .int _, .int _, .int _, .int _, .int _, .int _]) dX12_isFit_203 rfl (Nat.le_of_ble_eq_true rfl) rfl rfl ?_
                refine Go_aload_n (pc' := 206) dX12_isFit_205 rfl rfl rfl ?_
                refine Go_getRs (pc' := 209) dX12_isFit_206 rfl kf_RX12_108 (by decide) (by decide) rfl (I.S.b 99 rfl rfl) (I.S.o 99 rfl rfl rfl) (I.S.r 99 46 rfl rfl rfl) ?_
                refine Go_iload (pc' := 211) dX12_isFit_209 rfl rfl ?_
                refine Go_ialoadZ (n := 96) (k := (6 * q + c)) (v := (iZ (vi h 129 (6 * q + c)).toInt)) (pc' := 212) dX12_isFit_211 rfl (I.S.b 129 rfl rfl) (I.S.k 129 rfl rfl rfl) (by omega) (by omega) (by decide) (vi_eta _ _ _) ?_
                refine Go_aload_n (pc' := 213) dX12_isFit_212 rfl rfl rfl ?_
                refine Go_getIv (v := (iZ S)) (pc' := 216) dX12_isFit_213 rfl kf_RX12_89 (by decide) (by decide) rfl (I.S.b 99 rfl rfl) (I.S.o 99 rfl rfl rfl) (eS) ?_
                refine Go_iload (pc' := 218) dX12_isFit_216 rfl rfl ?_
                refine Go_imulZ (pc' := 219) dX12_isFit_218 rfl ?_
                refine Go_isubZ (pc' := 220) dX12_isFit_219 rfl ?_
                refine Go_iload (pc' := 222) dX12_isFit_220 rfl rfl ?_
                refine Go_icmp_geY (tgt := 243) (pc' := 225) dX12_isFit_222 (by decide) rfl (by first | exact ⟨i_lo _, i_hi _⟩ | omega) (by first | exact ⟨i_lo _, i_hi _⟩ | omega) (fun c222 => ?_) (fun c222 => ?_)
                · refine Go_iload (pc' := 245) dX12_isFit_243 rfl rfl ?_
                  refine Go_istore (pc' := 247) (lv' := [.ref _, .int _, .int _, .int _, .int _, .int _, .int _, .int _, .int _]) dX12_isFit_245 rfl (Nat.le_of_ble_eq_true rfl) rfl rfl ?_
                  refine Go_iincZ (pc' := 250) (lv' := [.ref _, .int _, .int _, .int _, .int _, .int _, .int _, .int _, .int _]) dX12_isFit_247 rfl rfl (Nat.le_of_ble_eq_true rfl) rfl rfl ?_
                  refine Go_goto (tgt := 13) dX12_isFit_250 (by decide) ?_
                  rw [fl_s (ff_2 c37 h0 eD h5), show max L (max ((vi h 126 (6 * q + c)).toInt - P * D) ((vi h 128 (6 * q + c)).toInt - S * D)) = L by omega, show min H (min ((vi h 127 (6 * q + c)).toInt - P * D) ((vi h 129 (6 * q + c)).toInt - S * D)) = H by omega] at hk
                  exact ih (c + 1) _ _ _ _ (by omega) (by omega) (by omega) hk
                · refine Go_aload_n (pc' := 226) dX12_isFit_225 rfl rfl rfl ?_
                  refine Go_getRs (pc' := 229) dX12_isFit_226 rfl kf_RX12_108 (by decide) (by decide) rfl (I.S.b 99 rfl rfl) (I.S.o 99 rfl rfl rfl) (I.S.r 99 46 rfl rfl rfl) ?_
                  refine Go_iload (pc' := 231) dX12_isFit_229 rfl rfl ?_
                  refine Go_ialoadZ (n := 96) (k := (6 * q + c)) (v := (iZ (vi h 129 (6 * q + c)).toInt)) (pc' := 232) dX12_isFit_231 rfl (I.S.b 129 rfl rfl) (I.S.k 129 rfl rfl rfl) (by omega) (by omega) (by decide) (vi_eta _ _ _) ?_
                  refine Go_aload_n (pc' := 233) dX12_isFit_232 rfl rfl rfl ?_
                  refine Go_getIv (v := (iZ S)) (pc' := 236) dX12_isFit_233 rfl kf_RX12_89 (by decide) (by decide) rfl (I.S.b 99 rfl rfl) (I.S.o 99 rfl rfl rfl) (eS) ?_
                  refine Go_iload (pc' := 238) dX12_isFit_236 rfl rfl ?_
                  refine Go_imulZ (pc' := 239) dX12_isFit_238 rfl ?_
                  refine Go_isubZ (pc' := 240) dX12_isFit_239 rfl ?_
                  refine Go_goto (tgt := 245) dX12_isFit_240 (by decide) ?_
                  refine Go_istore (pc' := 247) (lv' := [.ref _, .int _, .int _, .int _, .int _, .int _, .int _, .int _, .int _]) dX12_isFit_245 rfl (Nat.le_of_ble_eq_true rfl) rfl rfl ?_
                  refine Go_iincZ (pc' := 250) (lv' := [.ref _, .int _, .int _, .int _, .int _, .int _, .int _, .int _, .int _]) dX12_isFit_247 rfl rfl (Nat.le_of_ble_eq_true rfl) rfl rfl ?_
                  refine Go_goto (tgt := 13) dX12_isFit_250 (by decide) ?_
                  rw [fl_s (ff_2 c37 h0 eD h5), show max L (max ((vi h 126 (6 * q + c)).toInt - P * D) ((vi h 128 (6 * q + c)).toInt - S * D)) = L by omega, show min H (min ((vi h 127 (6 * q + c)).toInt - P * D) ((vi h 129 (6 * q + c)).toInt - S * D)) = ((vi h 129 (6 * q + c)).toInt - (S * D)) by omega] at hk
                  exact ih (c + 1) _ _ _ _ (by omega) (by omega) (by omega) hk
              · refine Go_aload_n (pc' := 184) dX12_isFit_183 rfl rfl rfl ?_
                refine Go_getRs (pc' := 187) dX12_isFit_184 rfl kf_RX12_105 (by decide) (by decide) rfl (I.S.b 99 rfl rfl) (I.S.o 99 rfl rfl rfl) (I.S.r 99 45 rfl rfl rfl) ?_
                refine Go_iload (pc' := 189) dX12_isFit_187 rfl rfl ?_
                refine Go_ialoadZ (n := 96) (k := (6 * q + c)) (v := (iZ (vi h 128 (6 * q + c)).toInt)) (pc' := 190) dX12_isFit_189 rfl (I.S.b 128 rfl rfl) (I.S.k 128 rfl rfl rfl) (by omega) (by omega) (by decide) (vi_eta _ _ _) ?_
                refine Go_aload_n (pc' := 191) dX12_isFit_190 rfl rfl rfl ?_
                refine Go_getIv (v := (iZ S)) (pc' := 194) dX12_isFit_191 rfl kf_RX12_89 (by decide) (by decide) rfl (I.S.b 99 rfl rfl) (I.S.o 99 rfl rfl rfl) (eS) ?_
                refine Go_iload (pc' := 196) dX12_isFit_194 rfl rfl ?_
                refine Go_imulZ (pc' := 197) dX12_isFit_196 rfl ?_
                refine Go_isubZ (pc' := 198) dX12_isFit_197 rfl ?_
                refine Go_goto (tgt := 203) dX12_isFit_198 (by decide) ?_
                refine Go_istore (pc' := 205) (lv' := [.ref _, .int _, .int _, .int _, .int _, .int _, .int _, .int _, .int _]) dX12_isFit_203 rfl (Nat.le_of_ble_eq_true rfl) rfl rfl ?_
                refine Go_aload_n (pc' := 206) dX12_isFit_205 rfl rfl rfl ?_
                refine Go_getRs (pc' := 209) dX12_isFit_206 rfl kf_RX12_108 (by decide) (by decide) rfl (I.S.b 99 rfl rfl) (I.S.o 99 rfl rfl rfl) (I.S.r 99 46 rfl rfl rfl) ?_
                refine Go_iload (pc' := 211) dX12_isFit_209 rfl rfl ?_
                refine Go_ialoadZ (n := 96) (k := (6 * q + c)) (v := (iZ (vi h 129 (6 * q + c)).toInt)) (pc' := 212) dX12_isFit_211 rfl (I.S.b 129 rfl rfl) (I.S.k 129 rfl rfl rfl) (by omega) (by omega) (by decide) (vi_eta _ _ _) ?_
                refine Go_aload_n (pc' := 213) dX12_isFit_212 rfl rfl rfl ?_
                refine Go_getIv (v := (iZ S)) (pc' := 216) dX12_isFit_213 rfl kf_RX12_89 (by decide) (by decide) rfl (I.S.b 99 rfl rfl) (I.S.o 99 rfl rfl rfl) (eS) ?_
                refine Go_iload (pc' := 218) dX12_isFit_216 rfl rfl ?_
                refine Go_imulZ (pc' := 219) dX12_isFit_218 rfl ?_
                refine Go_isubZ (pc' := 220) dX12_isFit_219 rfl ?_
                refine Go_iload (pc' := 222) dX12_isFit_220 rfl rfl ?_
                refine Go_icmp_geY (tgt := 243) (pc' := 225) dX12_isFit_222 (by decide) rfl (by first | exact ⟨i_lo _, i_hi _⟩ | omega) (by first | exact ⟨i_lo _, i_hi _⟩ | omega) (fun c222 => ?_) (fun c222 => ?_)
                · refine Go_iload (pc' := 245) dX12_isFit_243 rfl rfl ?_
                  refine Go_istore (pc' := 247) (lv' := [.ref _, .int _, .int _, .int _, .int _, .int _, .int _, .int _, .int _]) dX12_isFit_245 rfl (Nat.le_of_ble_eq_true rfl) rfl rfl ?_
                  refine Go_iincZ (pc' := 250) (lv' := [.ref _, .int _, .int _, .int _, .int _, .int _, .int _, .int _, .int _]) dX12_isFit_247 rfl rfl (Nat.le_of_ble_eq_true rfl) rfl rfl ?_
                  refine Go_goto (tgt := 13) dX12_isFit_250 (by decide) ?_
                  rw [fl_s (ff_2 c37 h0 eD h5), show max L (max ((vi h 126 (6 * q + c)).toInt - P * D) ((vi h 128 (6 * q + c)).toInt - S * D)) = ((vi h 128 (6 * q + c)).toInt - (S * D)) by omega, show min H (min ((vi h 127 (6 * q + c)).toInt - P * D) ((vi h 129 (6 * q + c)).toInt - S * D)) = H by omega] at hk
                  exact ih (c + 1) _ _ _ _ (by omega) (by omega) (by omega) hk
                · refine Go_aload_n (pc' := 226) dX12_isFit_225 rfl rfl rfl ?_
                  refine Go_getRs (pc' := 229) dX12_isFit_226 rfl kf_RX12_108 (by decide) (by decide) rfl (I.S.b 99 rfl rfl) (I.S.o 99 rfl rfl rfl) (I.S.r 99 46 rfl rfl rfl) ?_
                  refine Go_iload (pc' := 231) dX12_isFit_229 rfl rfl ?_
                  refine Go_ialoadZ (n := 96) (k := (6 * q + c)) (v := (iZ (vi h 129 (6 * q + c)).toInt)) (pc' := 232) dX12_isFit_231 rfl (I.S.b 129 rfl rfl) (I.S.k 129 rfl rfl rfl) (by omega) (by omega) (by decide) (vi_eta _ _ _) ?_
                  refine Go_aload_n (pc' := 233) dX12_isFit_232 rfl rfl rfl ?_
                  refine Go_getIv (v := (iZ S)) (pc' := 236) dX12_isFit_233 rfl kf_RX12_89 (by decide) (by decide) rfl (I.S.b 99 rfl rfl) (I.S.o 99 rfl rfl rfl) (eS) ?_
                  refine Go_iload (pc' := 238) dX12_isFit_236 rfl rfl ?_
                  refine Go_imulZ (pc' := 239) dX12_isFit_238 rfl ?_
                  refine Go_isubZ (pc' := 240) dX12_isFit_239 rfl ?_
                  refine Go_goto (tgt := 245) dX12_isFit_240 (by decide) ?_
                  refine Go_istore (pc' := 247) (lv' := [.ref _, .int _, .int _, .int _, .int _, .int _, .int _, .int _, .int _]) dX12_isFit_245 rfl (Nat.le_of_ble_eq_true rfl) rfl rfl ?_
                  refine Go_iincZ (pc' := 250) (lv' := [.ref _, .int _, .int _, .int _, .int _, .int _, .int _, .int _, .int _]) dX12_isFit_247 rfl rfl (Nat.le_of_ble_eq_true rfl) rfl rfl ?_
                  refine Go_goto (tgt := 13) dX12_isFit_250 (by decide) ?_
                  rw [fl_s (ff_2 c37 h0 eD h5), show max L (max ((vi h 126 (6 * q + c)).toInt - P * D) ((vi h 128 (6 * q + c)).toInt - S * D)) = ((vi h 128 (6 * q + c)).toInt - (S * D)) by omega, show min H (min ((vi h 127 (6 * q + c)).toInt - P * D) ((vi h 129 (6 * q + c)).toInt - S * D)) = ((vi h 129 (6 * q + c)).toInt - (S * D)) by omega] at hk
                  exact ih (c + 1) _ _ _ _ (by omega) (by omega) (by omega) hk
            · refine Go_aload_n (pc' := 129) dX12_isFit_128 rfl rfl rfl ?_
              refine Go_getRs (pc' := 132) dX12_isFit_129 rfl kf_RX12_102 (by decide) (by decide) rfl (I.S.b 99 rfl rfl) (I.S.o 99 rfl rfl rfl) (I.S.r 99 44 rfl rfl rfl) ?_
              refine Go_iload (pc' := 134) dX12_isFit_132 rfl rfl ?_
              refine Go_ialoadZ (n := 96) (k := (6 * q + c)) (v := (iZ (vi h 127 (6 * q + c)).toInt)) (pc' := 135) dX12_isFit_134 rfl (I.S.b 127 rfl rfl) (I.S.k 127 rfl rfl rfl) (by omega) (by omega) (by decide) (vi_eta _ _ _) ?_
              refine Go_aload_n (pc' := 136) dX12_isFit_135 rfl rfl rfl ?_
              refine Go_getIv (v := (iZ P)) (pc' := 139) dX12_isFit_136 rfl kf_RX12_86 (by decide) (by decide) rfl (I.S.b 99 rfl rfl) (I.S.o 99 rfl rfl rfl) (eP) ?_
              refine Go_iload (pc' := 141) dX12_isFit_139 rfl rfl ?_
              refine Go_imulZ (pc' := 142) dX12_isFit_141 rfl ?_
              refine Go_isubZ (pc' := 143) dX12_isFit_142 rfl ?_
              refine Go_goto (tgt := 148) dX12_isFit_143 (by decide) ?_
              refine Go_istore (pc' := 150) (lv' := [.ref _, .int _, .int _, .int _, .int _, .int _, .int _, .int _, .int _]) dX12_isFit_148 rfl (Nat.le_of_ble_eq_true rfl) rfl rfl ?_
              refine Go_aload_n (pc' := 151) dX12_isFit_150 rfl rfl rfl ?_
              refine Go_getRs (pc' := 154) dX12_isFit_151 rfl kf_RX12_96 (by decide) (by decide) rfl (I.S.b 99 rfl rfl) (I.S.o 99 rfl rfl rfl) (I.S.r 99 42 rfl rfl rfl) ?_
              refine Go_iload (pc' := 156) dX12_isFit_154 rfl rfl ?_
              refine Go_baloadZ (n := 96) (k := (6 * q + c)) (v := (iZ 1)) (pc' := 157) dX12_isFit_156 rfl (I.S.b 125 rfl rfl) (I.S.k 125 rfl rfl rfl) (by omega) (by omega) (by decide) (h5) ?_
              refine Go_if_neY (tgt := 163) (pc' := 160) dX12_isFit_157 (by decide) rfl (by first | exact ⟨i_lo _, i_hi _⟩ | omega) (fun c157 => ?_) (fun c157 => by exfalso; omega)
              refine Go_aload_n (pc' := 164) dX12_isFit_163 rfl rfl rfl ?_
              refine Go_getRs (pc' := 167) dX12_isFit_164 rfl kf_RX12_105 (by decide) (by decide) rfl (I.S.b 99 rfl rfl) (I.S.o 99 rfl rfl rfl) (I.S.r 99 45 rfl rfl rfl) ?_
              refine Go_iload (pc' := 169) dX12_isFit_167 rfl rfl ?_
              refine Go_ialoadZ (n := 96) (k := (6 * q + c)) (v := (iZ (vi h 128 (6 * q + c)).toInt)) (pc' := 170) dX12_isFit_169 rfl (I.S.b 128 rfl rfl) (I.S.k 128 rfl rfl rfl) (by omega) (by omega) (by decide) (vi_eta _ _ _) ?_
              refine Go_aload_n (pc' := 171) dX12_isFit_170 rfl rfl rfl ?_
              refine Go_getIv (v := (iZ S)) (pc' := 174) dX12_isFit_171 rfl kf_RX12_89 (by decide) (by decide) rfl (I.S.b 99 rfl rfl) (I.S.o 99 rfl rfl rfl) (eS) ?_
              refine Go_iload (pc' := 176) dX12_isFit_174 rfl rfl ?_
              refine Go_imulZ (pc' := 177) dX12_isFit_176 rfl ?_
              refine Go_isubZ (pc' := 178) dX12_isFit_177 rfl ?_
              refine Go_iload (pc' := 180) dX12_isFit_178 rfl rfl ?_
              refine Go_icmp_leY (tgt := 201) (pc' := 183) dX12_isFit_180 (by decide) rfl (by first | exact ⟨i_lo _, i_hi _⟩ | omega) (by first | exact ⟨i_lo _, i_hi _⟩ | omega) (fun c180 => ?_) (fun c180 => ?_)
              · refine Go_iload (pc' := 203) dX12_isFit_201 rfl rfl ?_
                refine Go_istore (pc' := 205) (lv' := [.ref _, .int _, .int _, .int _, .int _, .int _, .int _, .int _, .int _]) dX12_isFit_203 rfl (Nat.le_of_ble_eq_true rfl) rfl rfl ?_
                refine Go_aload_n (pc' := 206) dX12_isFit_205 rfl rfl rfl ?_
                refine Go_getRs (pc' := 209) dX12_isFit_206 rfl kf_RX12_108 (by decide) (by decide) rfl (I.S.b 99 rfl rfl) (I.S.o 99 rfl rfl rfl) (I.S.r 99 46 rfl rfl rfl) ?_
                refine Go_iload (pc' := 211) dX12_isFit_209 rfl rfl ?_
                refine Go_ialoadZ (n := 96) (k := (6 * q + c)) (v := (iZ (vi h 129 (6 * q + c)).toInt)) (pc' := 212) dX12_isFit_211 rfl (I.S.b 129 rfl rfl) (I.S.k 129 rfl rfl rfl) (by omega) (by omega) (by decide) (vi_eta _ _ _) ?_
                refine Go_aload_n (pc' := 213) dX12_isFit_212 rfl rfl rfl ?_
                refine Go_getIv (v := (iZ S)) (pc' := 216) dX12_isFit_213 rfl kf_RX12_89 (by decide) (by decide) rfl (I.S.b 99 rfl rfl) (I.S.o 99 rfl rfl rfl) (eS) ?_
                refine Go_iload (pc' := 218) dX12_isFit_216 rfl rfl ?_
                refine Go_imulZ (pc' := 219) dX12_isFit_218 rfl ?_
                refine Go_isubZ (pc' := 220) dX12_isFit_219 rfl ?_
                refine Go_iload (pc' := 222) dX12_isFit_220 rfl rfl ?_
                refine Go_icmp_geY (tgt := 243) (pc' := 225) dX12_isFit_222 (by decide) rfl (by first | exact ⟨i_lo _, i_hi _⟩ | omega) (by first | exact ⟨i_lo _, i_hi _⟩ | omega) (fun c222 => ?_) (fun c222 => ?_)
                · refine Go_iload (pc' := 245) dX12_isFit_243 rfl rfl ?_
                  refine Go_istore (pc' := 247) (lv' := [.ref _, .int _, .int _, .int _, .int _, .int _, .int _, .int _, .int _]) dX12_isFit_245 rfl (Nat.le_of_ble_eq_true rfl) rfl rfl ?_
                  refine Go_iincZ (pc' := 250) (lv' := [.ref _, .int _, .int _, .int _, .int _, .int _, .int _, .int _, .int _]) dX12_isFit_247 rfl rfl (Nat.le_of_ble_eq_true rfl) rfl rfl ?_
                  refine Go_goto (tgt := 13) dX12_isFit_250 (by decide) ?_
                  rw [fl_s (ff_2 c37 h0 eD h5), show max L (max ((vi h 126 (6 * q + c)).toInt - P * D) ((vi h 128 (6 * q + c)).toInt - S * D)) = L by omega, show min H (min ((vi h 127 (6 * q + c)).toInt - P * D) ((vi h 129 (6 * q + c)).toInt - S * D)) = ((vi h 127 (6 * q + c)).toInt - (P * D)) by omega] at hk
                  exact ih (c + 1) _ _ _ _ (by omega) (by omega) (by omega) hk
                · refine Go_aload_n (pc' := 226) dX12_isFit_225 rfl rfl rfl ?_
                  refine Go_getRs (pc' := 229) dX12_isFit_226 rfl kf_RX12_108 (by decide) (by decide) rfl (I.S.b 99 rfl rfl) (I.S.o 99 rfl rfl rfl) (I.S.r 99 46 rfl rfl rfl) ?_
                  refine Go_iload (pc' := 231) dX12_isFit_229 rfl rfl ?_
                  refine Go_ialoadZ (n := 96) (k := (6 * q + c)) (v := (iZ (vi h 129 (6 * q + c)).toInt)) (pc' := 232) dX12_isFit_231 rfl (I.S.b 129 rfl rfl) (I.S.k 129 rfl rfl rfl) (by omega) (by omega) (by decide) (vi_eta _ _ _) ?_
                  refine Go_aload_n (pc' := 233) dX12_isFit_232 rfl rfl rfl ?_
                  refine Go_getIv (v := (iZ S)) (pc' := 236) dX12_isFit_233 rfl kf_RX12_89 (by decide) (by decide) rfl (I.S.b 99 rfl rfl) (I.S.o 99 rfl rfl rfl) (eS) ?_
                  refine Go_iload (pc' := 238) dX12_isFit_236 rfl rfl ?_
                  refine Go_imulZ (pc' := 239) dX12_isFit_238 rfl ?_
                  refine Go_isubZ (pc' := 240) dX12_isFit_239 rfl ?_
                  refine Go_goto (tgt := 245) dX12_isFit_240 (by decide) ?_
                  refine Go_istore (pc' := 247) (lv' := [.ref _, .int _, .int _, .int _, .int _, .int _, .int _, .int _, .int _]) dX12_isFit_245 rfl (Nat.le_of_ble_eq_true rfl) rfl rfl ?_
                  refine Go_iincZ (pc' := 250) (lv' := [.ref _, .int _, .int _, .int _, .int _, .int _, .int _, .int _, .int _]) dX12_isFit_247 rfl rfl (Nat.le_of_ble_eq_true rfl) rfl rfl ?_
                  refine Go_goto (tgt := 13) dX12_isFit_250 (by decide) ?_
                  rw [fl_s (ff_2 c37 h0 eD h5), show max L (max ((vi h 126 (6 * q + c)).toInt - P * D) ((vi h 128 (6 * q + c)).toInt - S * D)) = L by omega, show min H (min ((vi h 127 (6 * q + c)).toInt - P * D) ((vi h 129 (6 * q + c)).toInt - S * D)) = ((vi h 129 (6 * q + c)).toInt - (S * D)) by omega] at hk
                  exact ih (c + 1) _ _ _ _ (by omega) (by omega) (by omega) hk
              · refine Go_aload_n (pc' := 184) dX12_isFit_183 rfl rfl rfl ?_
                refine Go_getRs (pc' := 187) dX12_isFit_184 rfl kf_RX12_105 (by decide) (by decide) rfl (I.S.b 99 rfl rfl) (I.S.o 99 rfl rfl rfl) (I.S.r 99 45 rfl rfl rfl) ?_
                refine Go_iload (pc' := 189) dX12_isFit_187 rfl rfl ?_
                refine Go_ialoadZ (n := 96) (k := (6 * q + c)) (v := (iZ (vi h 128 (6 * q + c)).toInt)) (pc' := 190) dX12_isFit_189 rfl (I.S.b 128 rfl rfl) (I.S.k 128 rfl rfl rfl) (by omega) (by omega) (by decide) (vi_eta _ _ _) ?_
                refine Go_aload_n (pc' := 191) dX12_isFit_190 rfl rfl rfl ?_
                refine Go_getIv (v := (iZ S)) (pc' := 194) dX12_isFit_191 rfl kf_RX12_89 (by decide) (by decide) rfl (I.S.b 99 rfl rfl) (I.S.o 99 rfl rfl rfl) (eS) ?_
                refine Go_iload (pc' := 196) dX12_isFit_194 rfl rfl ?_
                refine Go_imulZ (pc' := 197) dX12_isFit_196 rfl ?_
                refine Go_isubZ (pc' := 198) dX12_isFit_197 rfl ?_
                refine Go_goto (tgt := 203) dX12_isFit_198 (by decide) ?_
                refine Go_istore (pc' := 205) (lv' := [.ref _, .int _, .int _, .int _, .int _, .int _, .int _, .int _, .int _]) dX12_isFit_203 rfl (Nat.le_of_ble_eq_true rfl) rfl rfl ?_
                refine Go_aload_n (pc' := 206) dX12_isFit_205 rfl rfl rfl ?_
                refine Go_getRs (pc' := 209) dX12_isFit_206 rfl kf_RX12_108 (by decide) (by decide) rfl (I.S.b 99 rfl rfl) (I.S.o 99 rfl rfl rfl) (I.S.r 99 46 rfl rfl rfl) ?_
                refine Go_iload (pc' := 211) dX12_isFit_209 rfl rfl ?_
                refine Go_ialoadZ (n := 96) (k := (6 * q + c)) (v := (iZ (vi h 129 (6 * q + c)).toInt)) (pc' := 212) dX12_isFit_211 rfl (I.S.b 129 rfl rfl) (I.S.k 129 rfl rfl rfl) (by omega) (by omega) (by decide) (vi_eta _ _ _) ?_
                refine Go_aload_n (pc' := 213) dX12_isFit_212 rfl rfl rfl ?_
                refine Go_getIv (v := (iZ S)) (pc' := 216) dX12_isFit_213 rfl kf_RX12_89 (by decide) (by decide) rfl (I.S.b 99 rfl rfl) (I.S.o 99 rfl rfl rfl) (eS) ?_
                refine Go_iload (pc' := 218) dX12_isFit_216 rfl rfl ?_
                refine Go_imulZ (pc' := 219) dX12_isFit_218 rfl ?_
                refine Go_isubZ (pc' := 220) dX12_isFit_219 rfl ?_
                refine Go_iload (pc' := 222) dX12_isFit_220 rfl rfl ?_
                refine Go_icmp_geY (tgt := 243) (pc' := 225) dX12_isFit_222 (by decide) rfl (by first | exact ⟨i_lo _, i_hi _⟩ | omega) (by first | exact ⟨i_lo _, i_hi _⟩ | omega) (fun c222 => ?_) (fun c222 => ?_)
                · refine Go_iload (pc' := 245) dX12_isFit_243 rfl rfl ?_
                  refine Go_istore (pc' := 247) (lv' := [.ref _, .int _, .int _, .int _, .int _, .int _, .int _, .int _, .int _]) dX12_isFit_245 rfl (Nat.le_of_ble_eq_true rfl) rfl rfl ?_
                  refine Go_iincZ (pc' := 250) (lv' := [.ref _, .int _, .int _, .int _, .int _, .int _, .int _, .int _, .int _]) dX12_isFit_247 rfl rfl (Nat.le_of_ble_eq_true rfl) rfl rfl ?_
                  refine Go_goto (tgt := 13) dX12_isFit_250 (by decide) ?_
                  rw [fl_s (ff_2 c37 h0 eD h5), show max L (max ((vi h 126 (6 * q + c)).toInt - P * D) ((vi h 128 (6 * q + c)).toInt - S * D)) = ((vi h 128 (6 * q + c)).toInt - (S * D)) by omega, show min H (min ((vi h 127 (6 * q + c)).toInt - P * D) ((vi h 129 (6 * q + c)).toInt - S * D)) = ((vi h 127 (6 * q + c)).toInt - (P * D)) by omega] at hk
                  exact ih (c + 1) _ _ _ _ (by omega) (by omega) (by omega) hk
                · refine Go_aload_n (pc' := 226) dX12_isFit_225 rfl rfl rfl ?_
                  refine Go_getRs (pc' := 229) dX12_isFit_226 rfl kf_RX12_108 (by decide) (by decide) rfl (I.S.b 99 rfl rfl) (I.S.o 99 rfl rfl rfl) (I.S.r 99 46 rfl rfl rfl) ?_
                  refine Go_iload (pc' := 231) dX12_isFit_229 rfl rfl ?_
                  refine Go_ialoadZ (n := 96) (k := (6 * q + c)) (v := (iZ (vi h 129 (6 * q + c)).toInt)) (pc' := 232) dX12_isFit_231 rfl (I.S.b 129 rfl rfl) (I.S.k 129 rfl rfl rfl) (by omega) (by omega) (by decide) (vi_eta _ _ _) ?_
                  refine Go_aload_n (pc' := 233) dX12_isFit_232 rfl rfl rfl ?_
                  refine Go_getIv (v := (iZ S)) (pc' := 236) dX12_isFit_233 rfl kf_RX12_89 (by decide) (by decide) rfl (I.S.b 99 rfl rfl) (I.S.o 99 rfl rfl rfl) (eS) ?_
                  refine Go_iload (pc' := 238) dX12_isFit_236 rfl rfl ?_
                  refine Go_imulZ (pc' := 239) dX12_isFit_238 rfl ?_
                  refine Go_isubZ (pc' := 240) dX12_isFit_239 rfl ?_
                  refine Go_goto (tgt := 245) dX12_isFit_240 (by decide) ?_
                  refine Go_istore (pc' := 247) (lv' := [.ref _, .int _, .int _, .int _, .int _, .int _, .int _, .int _, .int _]) dX12_isFit_245 rfl (Nat.le_of_ble_eq_true rfl) rfl rfl ?_
                  refine Go_iincZ (pc' := 250) (lv' := [.ref _, .int _, .int _, .int _, .int _, .int _, .int _, .int _, .int _]) dX12_isFit_247 rfl rfl (Nat.le_of_ble_eq_true rfl) rfl rfl ?_
                  refine Go_goto (tgt := 13) dX12_isFit_250 (by decide) ?_
                  rw [fl_s (ff_2 c37 h0 eD h5), show max L (max ((vi h 126 (6 * q + c)).toInt - P * D) ((vi h 128 (6 * q + c)).toInt - S * D)) = ((vi h 128 (6 * q + c)).toInt - (S * D)) by omega, show min H (min ((vi h 127 (6 * q + c)).toInt - P * D) ((vi h 129 (6 * q + c)).toInt - S * D)) = ((vi h 129 (6 * q + c)).toInt - (S * D)) by omega] at hk
                  exact ih (c + 1) _ _ _ _ (by omega) (by omega) (by omega) hk
          · refine Go_aload_n (pc' := 87) dX12_isFit_86 rfl rfl rfl ?_
            refine Go_getRs (pc' := 90) dX12_isFit_87 rfl kf_RX12_99 (by decide) (by decide) rfl (I.S.b 99 rfl rfl) (I.S.o 99 rfl rfl rfl) (I.S.r 99 43 rfl rfl rfl) ?_
            refine Go_iload (pc' := 92) dX12_isFit_90 rfl rfl ?_
            refine Go_ialoadZ (n := 96) (k := (6 * q + c)) (v := (iZ (vi h 126 (6 * q + c)).toInt)) (pc' := 93) dX12_isFit_92 rfl (I.S.b 126 rfl rfl) (I.S.k 126 rfl rfl rfl) (by omega) (by omega) (by decide) (vi_eta _ _ _) ?_
            refine Go_aload_n (pc' := 94) dX12_isFit_93 rfl rfl rfl ?_
            refine Go_getIv (v := (iZ P)) (pc' := 97) dX12_isFit_94 rfl kf_RX12_86 (by decide) (by decide) rfl (I.S.b 99 rfl rfl) (I.S.o 99 rfl rfl rfl) (eP) ?_
            refine Go_iload (pc' := 99) dX12_isFit_97 rfl rfl ?_
            refine Go_imulZ (pc' := 100) dX12_isFit_99 rfl ?_
            refine Go_isubZ (pc' := 101) dX12_isFit_100 rfl ?_
            refine Go_goto (tgt := 106) dX12_isFit_101 (by decide) ?_
            refine Go_istore (pc' := 108) (lv' := [.ref _, .int _, .int _, .int _, .int _, .int _, .int _, .int _, .int _]) dX12_isFit_106 rfl (Nat.le_of_ble_eq_true rfl) rfl rfl ?_
            refine Go_aload_n (pc' := 109) dX12_isFit_108 rfl rfl rfl ?_
            refine Go_getRs (pc' := 112) dX12_isFit_109 rfl kf_RX12_102 (by decide) (by decide) rfl (I.S.b 99 rfl rfl) (I.S.o 99 rfl rfl rfl) (I.S.r 99 44 rfl rfl rfl) ?_
            refine Go_iload (pc' := 114) dX12_isFit_112 rfl rfl ?_
            refine Go_ialoadZ (n := 96) (k := (6 * q + c)) (v := (iZ (vi h 127 (6 * q + c)).toInt)) (pc' := 115) dX12_isFit_114 rfl (I.S.b 127 rfl rfl) (I.S.k 127 rfl rfl rfl) (by omega) (by omega) (by decide) (vi_eta _ _ _) ?_
            refine Go_aload_n (pc' := 116) dX12_isFit_115 rfl rfl rfl ?_
            refine Go_getIv (v := (iZ P)) (pc' := 119) dX12_isFit_116 rfl kf_RX12_86 (by decide) (by decide) rfl (I.S.b 99 rfl rfl) (I.S.o 99 rfl rfl rfl) (eP) ?_
            refine Go_iload (pc' := 121) dX12_isFit_119 rfl rfl ?_
            refine Go_imulZ (pc' := 122) dX12_isFit_121 rfl ?_
            refine Go_isubZ (pc' := 123) dX12_isFit_122 rfl ?_
            refine Go_iload (pc' := 125) dX12_isFit_123 rfl rfl ?_
            refine Go_icmp_geY (tgt := 146) (pc' := 128) dX12_isFit_125 (by decide) rfl (by first | exact ⟨i_lo _, i_hi _⟩ | omega) (by first | exact ⟨i_lo _, i_hi _⟩ | omega) (fun c125 => ?_) (fun c125 => ?_)
            · refine Go_iload (pc' := 148) dX12_isFit_146 rfl rfl ?_
              refine Go_istore (pc' := 150) (lv' := [.ref _, .int _, .int _, .int _, .int _, .int _, .int _, .int _, .int _]) dX12_isFit_148 rfl (Nat.le_of_ble_eq_true rfl) rfl rfl ?_
              refine Go_aload_n (pc' := 151) dX12_isFit_150 rfl rfl rfl ?_
              refine Go_getRs (pc' := 154) dX12_isFit_151 rfl kf_RX12_96 (by decide) (by decide) rfl (I.S.b 99 rfl rfl) (I.S.o 99 rfl rfl rfl) (I.S.r 99 42 rfl rfl rfl) ?_
              refine Go_iload (pc' := 156) dX12_isFit_154 rfl rfl ?_
              refine Go_baloadZ (n := 96) (k := (6 * q + c)) (v := (iZ 1)) (pc' := 157) dX12_isFit_156 rfl (I.S.b 125 rfl rfl) (I.S.k 125 rfl rfl rfl) (by omega) (by omega) (by decide) (h5) ?_
              refine Go_if_neY (tgt := 163) (pc' := 160) dX12_isFit_157 (by decide) rfl (by first | exact ⟨i_lo _, i_hi _⟩ | omega) (fun c157 => ?_) (fun c157 => by exfalso; omega)
              refine Go_aload_n (pc' := 164) dX12_isFit_163 rfl rfl rfl ?_
              refine Go_getRs (pc' := 167) dX12_isFit_164 rfl kf_RX12_105 (by decide) (by decide) rfl (I.S.b 99 rfl rfl) (I.S.o 99 rfl rfl rfl) (I.S.r 99 45 rfl rfl rfl) ?_
              refine Go_iload (pc' := 169) dX12_isFit_167 rfl rfl ?_
              refine Go_ialoadZ (n := 96) (k := (6 * q + c)) (v := (iZ (vi h 128 (6 * q + c)).toInt)) (pc' := 170) dX12_isFit_169 rfl (I.S.b 128 rfl rfl) (I.S.k 128 rfl rfl rfl) (by omega) (by omega) (by decide) (vi_eta _ _ _) ?_
              refine Go_aload_n (pc' := 171) dX12_isFit_170 rfl rfl rfl ?_
              refine Go_getIv (v := (iZ S)) (pc' := 174) dX12_isFit_171 rfl kf_RX12_89 (by decide) (by decide) rfl (I.S.b 99 rfl rfl) (I.S.o 99 rfl rfl rfl) (eS) ?_
              refine Go_iload (pc' := 176) dX12_isFit_174 rfl rfl ?_
              refine Go_imulZ (pc' := 177) dX12_isFit_176 rfl ?_
              refine Go_isubZ (pc' := 178) dX12_isFit_177 rfl ?_
              refine Go_iload (pc' := 180) dX12_isFit_178 rfl rfl ?_
              refine Go_icmp_leY (tgt := 201) (pc' := 183) dX12_isFit_180 (by decide) rfl (by first | exact ⟨i_lo _, i_hi _⟩ | omega) (by first | exact ⟨i_lo _, i_hi _⟩ | omega) (fun c180 => ?_) (fun c180 => ?_)
              · refine Go_iload (pc' := 203) dX12_isFit_201 rfl rfl ?_
                refine Go_istore (pc' := 205) (lv' := [.ref _, .int _, .int _, .int _, .int _, .int _, .int _, .int _, .int _]) dX12_isFit_203 rfl (Nat.le_of_ble_eq_true rfl) rfl rfl ?_
                refine Go_aload_n (pc' := 206) dX12_isFit_205 rfl rfl rfl ?_
                refine Go_getRs (pc' := 209) dX12_isFit_206 rfl kf_RX12_108 (by decide) (by decide) rfl (I.S.b 99 rfl rfl) (I.S.o 99 rfl rfl rfl) (I.S.r 99 46 rfl rfl rfl) ?_
                refine Go_iload (pc' := 211) dX12_isFit_209 rfl rfl ?_
                refine Go_ialoadZ (n := 96) (k := (6 * q + c)) (v := (iZ (vi h 129 (6 * q + c)).toInt)) (pc' := 212) dX12_isFit_211 rfl (I.S.b 129 rfl rfl) (I.S.k 129 rfl rfl rfl) (by omega) (by omega) (by decide) (vi_eta _ _ _) ?_
                refine Go_aload_n (pc' := 213) dX12_isFit_212 rfl rfl rfl ?_
                refine Go_getIv (v := (iZ S)) (pc' := 216) dX12_isFit_213 rfl kf_RX12_89 (by decide) (by decide) rfl (I.S.b 99 rfl rfl) (I.S.o 99 rfl rfl rfl) (eS) ?_
                refine Go_iload (pc' := 218) dX12_isFit_216 rfl rfl ?_
                refine Go_imulZ (pc' := 219) dX12_isFit_218 rfl ?_
                refine Go_isubZ (pc' := 220) dX12_isFit_219 rfl ?_
                refine Go_iload (pc' := 222) dX12_isFit_220 rfl rfl ?_
                refine Go_icmp_geY (tgt := 243) (pc' := 225) dX12_isFit_222 (by decide) rfl (by first | exact ⟨i_lo _, i_hi _⟩ | omega) (by first | exact ⟨i_lo _, i_hi _⟩ | omega) (fun c222 => ?_) (fun c222 => ?_)
                · refine Go_iload (pc' := 245) dX12_isFit_243 rfl rfl ?_
                  refine Go_istore (pc' := 247) (lv' := [.ref _, .int _, .int _, .int _, .int _, .int _, .int _, .int _, .int _]) dX12_isFit_245 rfl (Nat.le_of_ble_eq_true rfl) rfl rfl ?_
                  refine Go_iincZ (pc' := 250) (lv' := [.ref _, .int _, .int _, .int _, .int _, .int _, .int _, .int _, .int _]) dX12_isFit_247 rfl rfl (Nat.le_of_ble_eq_true rfl) rfl rfl ?_
                  refine Go_goto (tgt := 13) dX12_isFit_250 (by decide) ?_
                  rw [fl_s (ff_2 c37 h0 eD h5), show max L (max ((vi h 126 (6 * q + c)).toInt - P * D) ((vi h 128 (6 * q + c)).toInt - S * D)) = ((vi h 126 (6 * q + c)).toInt - (P * D)) by omega, show min H (min ((vi h 127 (6 * q + c)).toInt - P * D) ((vi h 129 (6 * q + c)).toInt - S * D)) = H by omega] at hk
                  exact ih (c + 1) _ _ _ _ (by omega) (by omega) (by omega) hk
                · refine Go_aload_n (pc' := 226) dX12_isFit_225 rfl rfl rfl ?_
                  refine Go_getRs (pc' := 229) dX12_isFit_226 rfl kf_RX12_108 (by decide) (by decide) rfl (I.S.b 99 rfl rfl) (I.S.o 99 rfl rfl rfl) (I.S.r 99 46 rfl rfl rfl) ?_
                  refine Go_iload (pc' := 231) dX12_isFit_229 rfl rfl ?_
                  refine Go_ialoadZ (n := 96) (k := (6 * q + c)) (v := (iZ (vi h 129 (6 * q + c)).toInt)) (pc' := 232) dX12_isFit_231 rfl (I.S.b 129 rfl rfl) (I.S.k 129 rfl rfl rfl) (by omega) (by omega) (by decide) (vi_eta _ _ _) ?_
                  refine Go_aload_n (pc' := 233) dX12_isFit_232 rfl rfl rfl ?_
                  refine Go_getIv (v := (iZ S)) (pc' := 236) dX12_isFit_233 rfl kf_RX12_89 (by decide) (by decide) rfl (I.S.b 99 rfl rfl) (I.S.o 99 rfl rfl rfl) (eS) ?_
                  refine Go_iload (pc' := 238) dX12_isFit_236 rfl rfl ?_
                  refine Go_imulZ (pc' := 239) dX12_isFit_238 rfl ?_
                  refine Go_isubZ (pc' := 240) dX12_isFit_239 rfl ?_
                  refine Go_goto (tgt := 245) dX12_isFit_240 (by decide) ?_
                  refine Go_istore (pc' := 247) (lv' := [.ref _, .int _, .int _, .int _, .int _, .int _, .int _, .int _, .int _]) dX12_isFit_245 rfl (Nat.le_of_ble_eq_true rfl) rfl rfl ?_
                  refine Go_iincZ (pc' := 250) (lv' := [.ref _, .int _, .int _, .int _, .int _, .int _, .int _, .int _, .int _]) dX12_isFit_247 rfl rfl (Nat.le_of_ble_eq_true rfl) rfl rfl ?_
                  refine Go_goto (tgt := 13) dX12_isFit_250 (by decide) ?_
                  rw [fl_s (ff_2 c37 h0 eD h5), show max L (max ((vi h 126 (6 * q + c)).toInt - P * D) ((vi h 128 (6 * q + c)).toInt - S * D)) = ((vi h 126 (6 * q + c)).toInt - (P * D)) by omega, show min H (min ((vi h 127 (6 * q + c)).toInt - P * D) ((vi h 129 (6 * q + c)).toInt - S * D)) = ((vi h 129 (6 * q + c)).toInt - (S * D)) by omega] at hk
                  exact ih (c + 1) _ _ _ _ (by omega) (by omega) (by omega) hk
              · refine Go_aload_n (pc' := 184) dX12_isFit_183 rfl rfl rfl ?_
                refine Go_getRs (pc' := 187) dX12_isFit_184 rfl kf_RX12_105 (by decide) (by decide) rfl (I.S.b 99 rfl rfl) (I.S.o 99 rfl rfl rfl) (I.S.r 99 45 rfl rfl rfl) ?_
                refine Go_iload (pc' := 189) dX12_isFit_187 rfl rfl ?_
                refine Go_ialoadZ (n := 96) (k := (6 * q + c)) (v := (iZ (vi h 128 (6 * q + c)).toInt)) (pc' := 190) dX12_isFit_189 rfl (I.S.b 128 rfl rfl) (I.S.k 128 rfl rfl rfl) (by omega) (by omega) (by decide) (vi_eta _ _ _) ?_
                refine Go_aload_n (pc' := 191) dX12_isFit_190 rfl rfl rfl ?_
                refine Go_getIv (v := (iZ S)) (pc' := 194) dX12_isFit_191 rfl kf_RX12_89 (by decide) (by decide) rfl (I.S.b 99 rfl rfl) (I.S.o 99 rfl rfl rfl) (eS) ?_
                refine Go_iload (pc' := 196) dX12_isFit_194 rfl rfl ?_
                refine Go_imulZ (pc' := 197) dX12_isFit_196 rfl ?_
                refine Go_isubZ (pc' := 198) dX12_isFit_197 rfl ?_
                refine Go_goto (tgt := 203) dX12_isFit_198 (by decide) ?_
                refine Go_istore (pc' := 205) (lv' := [.ref _, .int _, .int _, .int _, .int _, .int _, .int _, .int _, .int _]) dX12_isFit_203 rfl (Nat.le_of_ble_eq_true rfl) rfl rfl ?_
                refine Go_aload_n (pc' := 206) dX12_isFit_205 rfl rfl rfl ?_
                refine Go_getRs (pc' := 209) dX12_isFit_206 rfl kf_RX12_108 (by decide) (by decide) rfl (I.S.b 99 rfl rfl) (I.S.o 99 rfl rfl rfl) (I.S.r 99 46 rfl rfl rfl) ?_
                refine Go_iload (pc' := 211) dX12_isFit_209 rfl rfl ?_
                refine Go_ialoadZ (n := 96) (k := (6 * q + c)) (v := (iZ (vi h 129 (6 * q + c)).toInt)) (pc' := 212) dX12_isFit_211 rfl (I.S.b 129 rfl rfl) (I.S.k 129 rfl rfl rfl) (by omega) (by omega) (by decide) (vi_eta _ _ _) ?_
                refine Go_aload_n (pc' := 213) dX12_isFit_212 rfl rfl rfl ?_
                refine Go_getIv (v := (iZ S)) (pc' := 216) dX12_isFit_213 rfl kf_RX12_89 (by decide) (by decide) rfl (I.S.b 99 rfl rfl) (I.S.o 99 rfl rfl rfl) (eS) ?_
                refine Go_iload (pc' := 218) dX12_isFit_216 rfl rfl ?_
                refine Go_imulZ (pc' := 219) dX12_isFit_218 rfl ?_
                refine Go_isubZ (pc' := 220) dX12_isFit_219 rfl ?_
                refine Go_iload (pc' := 222) dX12_isFit_220 rfl rfl ?_
                refine Go_icmp_geY (tgt := 243) (pc' := 225) dX12_isFit_222 (by decide) rfl (by first | exact ⟨i_lo _, i_hi _⟩ | omega) (by first | exact ⟨i_lo _, i_hi _⟩ | omega) (fun c222 => ?_) (fun c222 => ?_)
                · refine Go_iload (pc' := 245) dX12_isFit_243 rfl rfl ?_
                  refine Go_istore (pc' := 247) (lv' := [.ref _, .int _, .int _, .int _, .int _, .int _, .int _, .int _, .int _]) dX12_isFit_245 rfl (Nat.le_of_ble_eq_true rfl) rfl rfl ?_
                  refine Go_iincZ (pc' := 250) (lv' := [.ref _, .int _, .int _, .int _, .int _, .int _, .int _, .int _, .int _]) dX12_isFit_247 rfl rfl (Nat.le_of_ble_eq_true rfl) rfl rfl ?_
                  refine Go_goto (tgt := 13) dX12_isFit_250 (by decide) ?_
                  rw [fl_s (ff_2 c37 h0 eD h5), show max L (max ((vi h 126 (6 * q + c)).toInt - P * D) ((vi h 128 (6 * q + c)).toInt - S * D)) = ((vi h 128 (6 * q + c)).toInt - (S * D)) by omega, show min H (min ((vi h 127 (6 * q + c)).toInt - P * D) ((vi h 129 (6 * q + c)).toInt - S * D)) = H by omega] at hk
                  exact ih (c + 1) _ _ _ _ (by omega) (by omega) (by omega) hk
                · refine Go_aload_n (pc' := 226) dX12_isFit_225 rfl rfl rfl ?_
                  refine Go_getRs (pc' := 229) dX12_isFit_226 rfl kf_RX12_108 (by decide) (by decide) rfl (I.S.b 99 rfl rfl) (I.S.o 99 rfl rfl rfl) (I.S.r 99 46 rfl rfl rfl) ?_
                  refine Go_iload (pc' := 231) dX12_isFit_229 rfl rfl ?_
                  refine Go_ialoadZ (n := 96) (k := (6 * q + c)) (v := (iZ (vi h 129 (6 * q + c)).toInt)) (pc' := 232) dX12_isFit_231 rfl (I.S.b 129 rfl rfl) (I.S.k 129 rfl rfl rfl) (by omega) (by omega) (by decide) (vi_eta _ _ _) ?_
                  refine Go_aload_n (pc' := 233) dX12_isFit_232 rfl rfl rfl ?_
                  refine Go_getIv (v := (iZ S)) (pc' := 236) dX12_isFit_233 rfl kf_RX12_89 (by decide) (by decide) rfl (I.S.b 99 rfl rfl) (I.S.o 99 rfl rfl rfl) (eS) ?_
                  refine Go_iload (pc' := 238) dX12_isFit_236 rfl rfl ?_
                  refine Go_imulZ (pc' := 239) dX12_isFit_238 rfl ?_
                  refine Go_isubZ (pc' := 240) dX12_isFit_239 rfl ?_
                  refine Go_goto (tgt := 245) dX12_isFit_240 (by decide) ?_
                  refine Go_istore (pc' := 247) (lv' := [.ref _, .int _, .int _, .int _, .int _, .int _, .int _, .int _, .int _]) dX12_isFit_245 rfl (Nat.le_of_ble_eq_true rfl) rfl rfl ?_
                  refine Go_iincZ (pc' := 250) (lv' := [.ref _, .int _, .int _, .int _, .int _, .int _, .int _, .int _, .int _]) dX12_isFit_247 rfl rfl (Nat.le_of_ble_eq_true rfl) rfl rfl ?_
                  refine Go_goto (tgt := 13) dX12_isFit_250 (by decide) ?_
                  rw [fl_s (ff_2 c37 h0 eD h5), show max L (max ((vi h 126 (6 * q + c)).toInt - P * D) ((vi h 128 (6 * q + c)).toInt - S * D)) = ((vi h 128 (6 * q + c)).toInt - (S * D)) by omega, show min H (min ((vi h 127 (6 * q + c)).toInt - P * D) ((vi h 129 (6 * q + c)).toInt - S * D)) = ((vi h 129 (6 * q + c)).toInt - (S * D)) by omega] at hk
                  exact ih (c + 1) _ _ _ _ (by omega) (by omega) (by omega) hk
            · refine Go_aload_n (pc' := 129) dX12_isFit_128 rfl rfl rfl ?_
              refine Go_getRs (pc' := 132) dX12_isFit_129 rfl kf_RX12_102 (by decide) (by decide) rfl (I.S.b 99 rfl rfl) (I.S.o 99 rfl rfl rfl) (I.S.r 99 44 rfl rfl rfl) ?_
              refine Go_iload (pc' := 134) dX12_isFit_132 rfl rfl ?_
              refine Go_ialoadZ (n := 96) (k := (6 * q + c)) (v := (iZ (vi h 127 (6 * q + c)).toInt)) (pc' := 135) dX12_isFit_134 rfl (I.S.b 127 rfl rfl) (I.S.k 127 rfl rfl rfl) (by omega) (by omega) (by decide) (vi_eta _ _ _) ?_
              refine Go_aload_n (pc' := 136) dX12_isFit_135 rfl rfl rfl ?_
              refine Go_getIv (v := (iZ P)) (pc' := 139) dX12_isFit_136 rfl kf_RX12_86 (by decide) (by decide) rfl (I.S.b 99 rfl rfl) (I.S.o 99 rfl rfl rfl) (eP) ?_
              refine Go_iload (pc' := 141) dX12_isFit_139 rfl rfl ?_
              refine Go_imulZ (pc' := 142) dX12_isFit_141 rfl ?_
              refine Go_isubZ (pc' := 143) dX12_isFit_142 rfl ?_
              refine Go_goto (tgt := 148) dX12_isFit_143 (by decide) ?_
              refine Go_istore (pc' := 150) (lv' := [.ref _, .int _, .int _, .int _, .int _, .int _, .int _, .int _, .int _]) dX12_isFit_148 rfl (Nat.le_of_ble_eq_true rfl) rfl rfl ?_
              refine Go_aload_n (pc' := 151) dX12_isFit_150 rfl rfl rfl ?_
              refine Go_getRs (pc' := 154) dX12_isFit_151 rfl kf_RX12_96 (by decide) (by decide) rfl (I.S.b 99 rfl rfl) (I.S.o 99 rfl rfl rfl) (I.S.r 99 42 rfl rfl rfl) ?_
              refine Go_iload (pc' := 156) dX12_isFit_154 rfl rfl ?_
              refine Go_baloadZ (n := 96) (k := (6 * q + c)) (v := (iZ 1)) (pc' := 157) dX12_isFit_156 rfl (I.S.b 125 rfl rfl) (I.S.k 125 rfl rfl rfl) (by omega) (by omega) (by decide) (h5) ?_
              refine Go_if_neY (tgt := 163) (pc' := 160) dX12_isFit_157 (by decide) rfl (by first | exact ⟨i_lo _, i_hi _⟩ | omega) (fun c157 => ?_) (fun c157 => by exfalso; omega)
              refine Go_aload_n (pc' := 164) dX12_isFit_163 rfl rfl rfl ?_
              refine Go_getRs (pc' := 167) dX12_isFit_164 rfl kf_RX12_105 (by decide) (by decide) rfl (I.S.b 99 rfl rfl) (I.S.o 99 rfl rfl rfl) (I.S.r 99 45 rfl rfl rfl) ?_
              refine Go_iload (pc' := 169) dX12_isFit_167 rfl rfl ?_
              refine Go_ialoadZ (n := 96) (k := (6 * q + c)) (v := (iZ (vi h 128 (6 * q + c)).toInt)) (pc' := 170) dX12_isFit_169 rfl (I.S.b 128 rfl rfl) (I.S.k 128 rfl rfl rfl) (by omega) (by omega) (by decide) (vi_eta _ _ _) ?_
              refine Go_aload_n (pc' := 171) dX12_isFit_170 rfl rfl rfl ?_
              refine Go_getIv (v := (iZ S)) (pc' := 174) dX12_isFit_171 rfl kf_RX12_89 (by decide) (by decide) rfl (I.S.b 99 rfl rfl) (I.S.o 99 rfl rfl rfl) (eS) ?_
              refine Go_iload (pc' := 176) dX12_isFit_174 rfl rfl ?_
              refine Go_imulZ (pc' := 177) dX12_isFit_176 rfl ?_
              refine Go_isubZ (pc' := 178) dX12_isFit_177 rfl ?_
              refine Go_iload (pc' := 180) dX12_isFit_178 rfl rfl ?_
              refine Go_icmp_leY (tgt := 201) (pc' := 183) dX12_isFit_180 (by decide) rfl (by first | exact ⟨i_lo _, i_hi _⟩ | omega) (by first | exact ⟨i_lo _, i_hi _⟩ | omega) (fun c180 => ?_) (fun c180 => ?_)
              · refine Go_iload (pc' := 203) dX12_isFit_201 rfl rfl ?_
                refine Go_istore (pc' := 205) (lv' := [.ref _, .int _, .int _, .int _, .int _, .int _, .int _, .int _, .int _]) dX12_isFit_203 rfl (Nat.le_of_ble_eq_true rfl) rfl rfl ?_
                refine Go_aload_n (pc' := 206) dX12_isFit_205 rfl rfl rfl ?_
                refine Go_getRs (pc' := 209) dX12_isFit_206 rfl kf_RX12_108 (by decide) (by decide) rfl (I.S.b 99 rfl rfl) (I.S.o 99 rfl rfl rfl) (I.S.r 99 46 rfl rfl rfl) ?_
                refine Go_iload (pc' := 211) dX12_isFit_209 rfl rfl ?_
                refine Go_ialoadZ (n := 96) (k := (6 * q + c)) (v := (iZ (vi h 129 (6 * q + c)).toInt)) (pc' := 212) dX12_isFit_211 rfl (I.S.b 129 rfl rfl) (I.S.k 129 rfl rfl rfl) (by omega) (by omega) (by decide) (vi_eta _ _ _) ?_
                refine Go_aload_n (pc' := 213) dX12_isFit_212 rfl rfl rfl ?_
                refine Go_getIv (v := (iZ S)) (pc' := 216) dX12_isFit_213 rfl kf_RX12_89 (by decide) (by decide) rfl (I.S.b 99 rfl rfl) (I.S.o 99 rfl rfl rfl) (eS) ?_
                refine Go_iload (pc' := 218) dX12_isFit_216 rfl rfl ?_
                refine Go_imulZ (pc' := 219) dX12_isFit_218 rfl ?_
                refine Go_isubZ (pc' := 220) dX12_isFit_219 rfl ?_
                refine Go_iload (pc' := 222) dX12_isFit_220 rfl rfl ?_
                refine Go_icmp_geY (tgt := 243) (pc' := 225) dX12_isFit_222 (by decide) rfl (by first | exact ⟨i_lo _, i_hi _⟩ | omega) (by first | exact ⟨i_lo _, i_hi _⟩ | omega) (fun c222 => ?_) (fun c222 => ?_)
                · refine Go_iload (pc' := 245) dX12_isFit_243 rfl rfl ?_
                  refine Go_istore (pc' := 247) (lv' := [.ref _, .int _, .int _, .int _, .int _, .int _, .int _, .int _, .int _]) dX12_isFit_245 rfl (Nat.le_of_ble_eq_true rfl) rfl rfl ?_
                  refine Go_iincZ (pc' := 250) (lv' := [.ref _, .int _, .int _, .int _, .int _, .int _, .int _, .int _, .int _]) dX12_isFit_247 rfl rfl (Nat.le_of_ble_eq_true rfl) rfl rfl ?_
                  refine Go_goto (tgt := 13) dX12_isFit_250 (by decide) ?_
                  rw [fl_s (ff_2 c37 h0 eD h5), show max L (max ((vi h 126 (6 * q + c)).toInt - P * D) ((vi h 128 (6 * q + c)).toInt - S * D)) = ((vi h 126 (6 * q + c)).toInt - (P * D)) by omega, show min H (min ((vi h 127 (6 * q + c)).toInt - P * D) ((vi h 129 (6 * q + c)).toInt - S * D)) = ((vi h 127 (6 * q + c)).toInt - (P * D)) by omega] at hk
                  exact ih (c + 1) _ _ _ _ (by omega) (by omega) (by omega) hk
                · refine Go_aload_n (pc' := 226) dX12_isFit_225 rfl rfl rfl ?_
                  refine Go_getRs (pc' := 229) dX12_isFit_226 rfl kf_RX12_108 (by decide) (by decide) rfl (I.S.b 99 rfl rfl) (I.S.o 99 rfl rfl rfl) (I.S.r 99 46 rfl rfl rfl) ?_
                  refine Go_iload (pc' := 231) dX12_isFit_229 rfl rfl ?_
                  refine Go_ialoadZ (n := 96) (k := (6 * q + c)) (v := (iZ (vi h 129 (6 * q + c)).toInt)) (pc' := 232) dX12_isFit_231 rfl (I.S.b 129 rfl rfl) (I.S.k 129 rfl rfl rfl) (by omega) (by omega) (by decide) (vi_eta _ _ _) ?_
                  refine Go_aload_n (pc' := 233) dX12_isFit_232 rfl rfl rfl ?_
                  refine Go_getIv (v := (iZ S)) (pc' := 236) dX12_isFit_233 rfl kf_RX12_89 (by decide) (by decide) rfl (I.S.b 99 rfl rfl) (I.S.o 99 rfl rfl rfl) (eS) ?_
                  refine Go_iload (pc' := 238) dX12_isFit_236 rfl rfl ?_
                  refine Go_imulZ (pc' := 239) dX12_isFit_238 rfl ?_
                  refine Go_isubZ (pc' := 240) dX12_isFit_239 rfl ?_
                  refine Go_goto (tgt := 245) dX12_isFit_240 (by decide) ?_
                  refine Go_istore (pc' := 247) (lv' := [.ref _, .int _, .int _, .int _, .int _, .int _, .int _, .int _, .int _]) dX12_isFit_245 rfl (Nat.le_of_ble_eq_true rfl) rfl rfl ?_
                  refine Go_iincZ (pc' := 250) (lv' := [.ref _, .int _, .int _, .int _, .int _, .int _, .int _, .int _, .int _]) dX12_isFit_247 rfl rfl (Nat.le_of_ble_eq_true rfl) rfl rfl ?_
                  refine Go_goto (tgt := 13) dX12_isFit_250 (by decide) ?_
                  rw [fl_s (ff_2 c37 h0 eD h5), show max L (max ((vi h 126 (6 * q + c)).toInt - P * D) ((vi h 128 (6 * q + c)).toInt - S * D)) = ((vi h 126 (6 * q + c)).toInt - (P * D)) by omega, show min H (min ((vi h 127 (6 * q + c)).toInt - P * D) ((vi h 129 (6 * q + c)).toInt - S * D)) = ((vi h 129 (6 * q + c)).toInt - (S * D)) by omega] at hk
                  exact ih (c + 1) _ _ _ _ (by omega) (by omega) (by omega) hk
              · refine Go_aload_n (pc' := 184) dX12_isFit_183 rfl rfl rfl ?_
                refine Go_getRs (pc' := 187) dX12_isFit_184 rfl kf_RX12_105 (by decide) (by decide) rfl (I.S.b 99 rfl rfl) (I.S.o 99 rfl rfl rfl) (I.S.r 99 45 rfl rfl rfl) ?_
                refine Go_iload (pc' := 189) dX12_isFit_187 rfl rfl ?_
                refine Go_ialoadZ (n := 96) (k := (6 * q + c)) (v := (iZ (vi h 128 (6 * q + c)).toInt)) (pc' := 190) dX12_isFit_189 rfl (I.S.b 128 rfl rfl) (I.S.k 128 rfl rfl rfl) (by omega) (by omega) (by decide) (vi_eta _ _ _) ?_
                refine Go_aload_n (pc' := 191) dX12_isFit_190 rfl rfl rfl ?_
                refine Go_getIv (v := (iZ S)) (pc' := 194) dX12_isFit_191 rfl kf_RX12_89 (by decide) (by decide) rfl (I.S.b 99 rfl rfl) (I.S.o 99 rfl rfl rfl) (eS) ?_
                refine Go_iload (pc' := 196) dX12_isFit_194 rfl rfl ?_
                refine Go_imulZ (pc' := 197) dX12_isFit_196 rfl ?_
                refine Go_isubZ (pc' := 198) dX12_isFit_197 rfl ?_
                refine Go_goto (tgt := 203) dX12_isFit_198 (by decide) ?_
                refine Go_istore (pc' := 205) (lv' := [.ref _, .int _, .int _, .int _, .int _, .int _, .int _, .int _, .int _]) dX12_isFit_203 rfl (Nat.le_of_ble_eq_true rfl) rfl rfl ?_
                refine Go_aload_n (pc' := 206) dX12_isFit_205 rfl rfl rfl ?_
                refine Go_getRs (pc' := 209) dX12_isFit_206 rfl kf_RX12_108 (by decide) (by decide) rfl (I.S.b 99 rfl rfl) (I.S.o 99 rfl rfl rfl) (I.S.r 99 46 rfl rfl rfl) ?_
                refine Go_iload (pc' := 211) dX12_isFit_209 rfl rfl ?_
                refine Go_ialoadZ (n := 96) (k := (6 * q + c)) (v := (iZ (vi h 129 (6 * q + c)).toInt)) (pc' := 212) dX12_isFit_211 rfl (I.S.b 129 rfl rfl) (I.S.k 129 rfl rfl rfl) (by omega) (by omega) (by decide) (vi_eta _ _ _) ?_
                refine Go_aload_n (pc' := 213) dX12_isFit_212 rfl rfl rfl ?_
                refine Go_getIv (v := (iZ S)) (pc' := 216) dX12_isFit_213 rfl kf_RX12_89 (by decide) (by decide) rfl (I.S.b 99 rfl rfl) (I.S.o 99 rfl rfl rfl) (eS) ?_
                refine Go_iload (pc' := 218) dX12_isFit_216 rfl rfl ?_
                refine Go_imulZ (pc' := 219) dX12_isFit_218 rfl ?_
                refine Go_isubZ (pc' := 220) dX12_isFit_219 rfl ?_
                refine Go_iload (pc' := 222) dX12_isFit_220 rfl rfl ?_
                refine Go_icmp_geY (tgt := 243) (pc' := 225) dX12_isFit_222 (by decide) rfl (by first | exact ⟨i_lo _, i_hi _⟩ | omega) (by first | exact ⟨i_lo _, i_hi _⟩ | omega) (fun c222 => ?_) (fun c222 => ?_)
                · refine Go_iload (pc' := 245) dX12_isFit_243 rfl rfl ?_
                  refine Go_istore (pc' := 247) (lv' := [.ref _, .int _, .int _, .int _, .int _, .int _, .int _, .int _, .int _]) dX12_isFit_245 rfl (Nat.le_of_ble_eq_true rfl) rfl rfl ?_
                  refine Go_iincZ (pc' := 250) (lv' := [.ref _, .int _, .int _, .int _, .int _, .int _, .int _, .int _, .int _]) dX12_isFit_247 rfl rfl (Nat.le_of_ble_eq_true rfl) rfl rfl ?_
                  refine Go_goto (tgt := 13) dX12_isFit_250 (by decide) ?_
                  rw [fl_s (ff_2 c37 h0 eD h5), show max L (max ((vi h 126 (6 * q + c)).toInt - P * D) ((vi h 128 (6 * q + c)).toInt - S * D)) = ((vi h 128 (6 * q + c)).toInt - (S * D)) by omega, show min H (min ((vi h 127 (6 * q + c)).toInt - P * D) ((vi h 129 (6 * q + c)).toInt - S * D)) = ((vi h 127 (6 * q + c)).toInt - (P * D)) by omega] at hk
                  exact ih (c + 1) _ _ _ _ (by omega) (by omega) (by omega) hk
                · refine Go_aload_n (pc' := 226) dX12_isFit_225 rfl rfl rfl ?_
                  refine Go_getRs (pc' := 229) dX12_isFit_226 rfl kf_RX12_108 (by decide) (by decide) rfl (I.S.b 99 rfl rfl) (I.S.o 99 rfl rfl rfl) (I.S.r 99 46 rfl rfl rfl) ?_
                  refine Go_iload (pc' := 231) dX12_isFit_229 rfl rfl ?_
                  refine Go_ialoadZ (n := 96) (k := (6 * q + c)) (v := (iZ (vi h 129 (6 * q + c)).toInt)) (pc' := 232) dX12_isFit_231 rfl (I.S.b 129 rfl rfl) (I.S.k 129 rfl rfl rfl) (by omega) (by omega) (by decide) (vi_eta _ _ _) ?_
                  refine Go_aload_n (pc' := 233) dX12_isFit_232 rfl rfl rfl ?_
                  refine Go_getIv (v := (iZ S)) (pc' := 236) dX12_isFit_233 rfl kf_RX12_89 (by decide) (by decide) rfl (I.S.b 99 rfl rfl) (I.S.o 99 rfl rfl rfl) (eS) ?_
                  refine Go_iload (pc' := 238) dX12_isFit_236 rfl rfl ?_
                  refine Go_imulZ (pc' := 239) dX12_isFit_238 rfl ?_
                  refine Go_isubZ (pc' := 240) dX12_isFit_239 rfl ?_
                  refine Go_goto (tgt := 245) dX12_isFit_240 (by decide) ?_
                  refine Go_istore (pc' := 247) (lv' := [.ref _, .int _, .int _, .int _, .int _, .int _, .int _, .int _, .int _]) dX12_isFit_245 rfl (Nat.le_of_ble_eq_true rfl) rfl rfl ?_
                  refine Go_iincZ (pc' := 250) (lv' := [.ref _, .int _, .int _, .int _, .int _, .int _, .int _, .int _, .int _]) dX12_isFit_247 rfl rfl (Nat.le_of_ble_eq_true rfl) rfl rfl ?_
                  refine Go_goto (tgt := 13) dX12_isFit_250 (by decide) ?_
                  rw [fl_s (ff_2 c37 h0 eD h5), show max L (max ((vi h 126 (6 * q + c)).toInt - P * D) ((vi h 128 (6 * q + c)).toInt - S * D)) = ((vi h 128 (6 * q + c)).toInt - (S * D)) by omega, show min H (min ((vi h 127 (6 * q + c)).toInt - P * D) ((vi h 129 (6 * q + c)).toInt - S * D)) = ((vi h 129 (6 * q + c)).toInt - (S * D)) by omega] at hk
                  exact ih (c + 1) _ _ _ _ (by omega) (by omega) (by omega) hk
set_option maxRecDepth 20000 in
set_option maxHeartbeats 1000000 in
theorem s_fitM {G : GC} {d mc ms : Nat} {h : HS} {K : Option Value → HS → Prop} {q u nq nc : Nat} {P S x y z : Int} {s : Int32} (I : Inv h) (hnc : nc ≤ 6) (ec2 : vi h 64 2 = iZ (nc : Int)) (ec0 : vi h 99 0 = iZ (nc : Int)) (hq : q < nq) (hnq : nq ≤ 16) (RR : ∀ c, c < 6 → RdR h u q c) (eP : vi h 99 39 = iZ P) (eS : vi h 99 40 = iZ S) (hP : 1 ≤ P ∧ P ≤ 99) (hS : 1 ≤ S ∧ S ≤ 99) (hx : 0 ≤ x ∧ x ≤ 39) (hy : 0 ≤ y ∧ y ≤ 39) (ez : z = 40 * y + x) (hk : K (some (.int (b2i (fl (ff h P S q s x y) nc 0 (-2147483648) 2147483647 = true)))) h) : Go G (d + 1) mc ms M_X12_isFit 0 [.ref 99, .int (iZ (q : Int)), .int s, .int (iZ z), un, un, un, un, un] [] h K := by
  rw [fl_eq (L' := (-9999999)) (H' := 9999999) ?_ (Or.inr (by omega))] at hk
  · refine Go_ldcwZ (X := (-9999999)) (pc' := 3) dX12_isFit_0 rfl kn_RX12_349 (by decide) ?_
    refine Go_istore (pc' := 5) (lv' := [.ref _, .int _, .int _, .int _, .int _, un, un, un, un]) dX12_isFit_3 rfl (Nat.le_of_ble_eq_true rfl) rfl rfl ?_
    refine Go_ldcwZ (X := 9999999) (pc' := 8) dX12_isFit_5 rfl kn_RX12_339 (by decide) ?_
    refine Go_istore (pc' := 10) (lv' := [.ref _, .int _, .int _, .int _, .int _, .int _, un, un, un]) dX12_isFit_8 rfl (Nat.le_of_ble_eq_true rfl) rfl rfl ?_
    refine Go_iconst (v := iZ 0) (pc' := 11) dX12_isFit_10 rfl (by decide) ?_
    refine Go_istore (pc' := 13) (lv' := [.ref _, .int _, .int _, .int _, .int _, .int _, .int _, un, un]) dX12_isFit_11 rfl (Nat.le_of_ble_eq_true rfl) rfl rfl ?_
    exact ftM_loop I hnc ec2 ec0 hq hnq RR eP eS hP hS hx hy ez nc 0 _ _ _ _ (Nat.zero_add nc) (by omega) (by omega) hk
  · intro c a b hc e
    have hc : c < nc := by omega
    obtain ⟨o, ho, CS, CV⟩ := cel_ex I hnc ec2 (c := c) (by omega)
    obtain ⟨xr, yr, ex, ey, exy⟩ := CV.1.xy
    obtain ⟨D, hD, eD⟩ : ∃ D, (0 ≤ D ∧ D ≤ 55) ∧ dz (x - cX h c) (y - cY h c) = D := ⟨_, (dz_r (by omega) (by omega)).1, rfl⟩
    have w1 := mul_r hP hD
    have w2 := mul_r hS hD
    by_cases hb : bitv s c = 0
    · rw [ff_n (Or.inl hb)] at e; cases e
    · rcases RR c (by omega) with ⟨hw, h0⟩ | ⟨w, hw, h0, RS, RV, -⟩
      · rw [ff_n (Or.inr h0)] at e; cases e
      · have f1 := RV.1.2; have f2 := RV.2.1.2
        rw [RV.1.1] at f1; rw [RV.2.1.1] at f2
        unfold rg at f1 f2
        rcases RV.2.2.1 with ⟨s1, h5⟩ | ⟨s1, s2, h5, g1, g2⟩
        · rw [ff_1 hb h0 eD h5] at e; cases e; omega
        · rw [s1] at g1; rw [s2] at g2
          unfold rg at g1 g2
          rw [ff_2 hb h0 eD h5] at e; cases e; omega
