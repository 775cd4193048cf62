/-! pairs: own, slides -/
theorem mz_r {h : HS} {q nc : Nat} {x y but : Int} (hb : ∀ c, c < nc → tlB h q c = true → 0 ≤ bz h q c x y ∧ bz h q c x y ≤ 772) (hh : ∀ c, c < nc → -50 ≤ (vi h 114 c).toInt ∧ (vi h 114 c).toInt ≤ 50) : ∀ (m c : Nat) (s n : Int), c + m ≤ nc → 0 ≤ n → (-50 * n ≤ s ∧ s ≤ 1000 * n) → (mz h q x y but m c s n = -1000000000 ∨ (-50 ≤ mz h q x y but m c s n ∧ mz h q x y but m c s n ≤ 1000))
  | 0, c, s, n, hm, hn, hs => by
    show ((if n = 0 then (-1000000000 : Int) else s / n) = -1000000000 ∨ _)
    by_cases z : n = 0
    · exact Or.inl (if_pos z)
    · refine Or.inr ?_
      show (-50 ≤ (if n = 0 then (-1000000000 : Int) else s / n) ∧ (if n = 0 then (-1000000000 : Int) else s / n) ≤ 1000)
      rw [if_neg z]
      exact ⟨Int.le_ediv_of_mul_le (by omega) (by omega), Int.ediv_le_of_le_mul (by omega) (by omega)⟩
  | m + 1, c, s, n, hm, hn, hs => by
    by_cases z : ¬ (c : Int) = but ∧ tlB h q c = true
    · rw [mz_t z.1 z.2]
      have := hb c (by omega) z.2; have := hh c (by omega)
      exact mz_r hb hh m (c + 1) _ _ (by omega) (by omega) (by omega)
    · rw [mz_f (by by_cases y : (c : Int) = but; exact Or.inl y; exact Or.inr (fun w => z ⟨y, w⟩))]
      exact mz_r hb hh m (c + 1) _ _ (by omega) hn hs
def pX (h : HS) (q : Nat) : Int := (vi h 132 q).toInt % 40
def pY (h : HS) (q : Nat) : Int := (vi h 132 q).toInt / 40
def lk (h : HS) (c nc q : Nat) : Int := if vi h 132 q = iZ (-1) ∨ ¬ tlB h q c = true ∨ mz h q (pX h q) (pY h q) (c : Int) nc 0 0 0 = -1000000000 then -1000000000 else mz h q (pX h q) (pY h q) (c : Int) nc 0 0 0 - bz h q c (pX h q) (pY h q)
theorem lk_u {h : HS} {c nc q : Nat} (e : vi h 132 q = iZ (-1) ∨ ¬ tlB h q c = true ∨ mz h q (pX h q) (pY h q) (c : Int) nc 0 0 0 = -1000000000) : lk h c nc q = -1000000000 := if_pos e
theorem lk_v {h : HS} {c nc q : Nat} (e : ¬ vi h 132 q = iZ (-1)) (e1 : tlB h q c = true) (e2 : ¬ mz h q (pX h q) (pY h q) (c : Int) nc 0 0 0 = -1000000000) : lk h c nc q = mz h q (pX h q) (pY h q) (c : Int) nc 0 0 0 - bz h q c (pX h q) (pY h q) := if_neg (fun z => z.elim e (fun z => z.elim (fun z => z e1) e2))
def ow (f : Nat → Int) : Nat → Nat → Int → Int → Int
  | 0, _, s, n => if n = 0 then -1000000000 else s / n
  | m + 1, q, s, n => if f q = -1000000000 then ow f m (q + 1) s n else ow f m (q + 1) (s + f q) (n + 1)
theorem ow_u {f : Nat → Int} {m q : Nat} {s n : Int} (e : f q = -1000000000) : ow f (m + 1) q s n = ow f m (q + 1) s n := by show (if _ then _ else _) = _; rw [if_pos e]
theorem ow_v {f : Nat → Int} {m q : Nat} {s n : Int} (e : ¬ f q = -1000000000) : ow f (m + 1) q s n = ow f m (q + 1) (s + f q) (n + 1) := by show (if _ then _ else _) = _; rw [if_neg e]
/-- what is known of a quake that has a place -/
theorem own_facts {h : HS} (I : Inv h) {q u nc c : Nat} (hnc : nc ≤ 6) (ec2 : vi h 64 2 = iZ (nc : Int)) (RR : ∀ c, c < 6 → RdR h u q c) (P : rg (vi h u 1) 0 39 ∧ rg (vi h u 2) 0 39 ∧ (vi h 132 q).toInt = 40 * (vi h u 2).toInt + (vi h u 1).toInt) :
    ((0 ≤ pX h q ∧ pX h q ≤ 39) ∧ (0 ≤ pY h q ∧ pY h q ≤ 39)) ∧ (vi h u 1 = iZ (pX h q) ∧ vi h u 2 = iZ (pY h q)) ∧ ¬ vi h 132 q = iZ (-1) ∧ ((vi h 132 q).toInt = 40 * pY h q + pX h q) ∧ (∀ c, c < nc → tlB h q c = true → 0 ≤ bz h q c (pX h q) (pY h q) ∧ bz h q c (pX h q) (pY h q) ≤ 772) ∧ ∀ but : Int, (mz h q (pX h q) (pY h q) but nc 0 0 0 = -1000000000 ∨ (-50 ≤ mz h q (pX h q) (pY h q) but nc 0 0 0 ∧ mz h q (pX h q) (pY h q) but nc 0 0 0 ≤ 1000)) := by
  obtain ⟨⟨p1, p2⟩, ⟨p3, p4⟩, p5⟩ := P
  have x1 : pX h q = (vi h u 1).toInt := by unfold pX; omega
  have y1 : pY h q = (vi h u 2).toInt := by unfold pY; omega
  have hb : ∀ c, c < nc → tlB h q c = true → 0 ≤ bz h q c (pX h q) (pY h q) ∧ bz h q c (pX h q) (pY h q) ≤ 772 := by
    intro c hc ht
    obtain ⟨o, ho, CS, CV⟩ := cel_ex I hnc ec2 (c := c) (by omega)
    obtain ⟨xr, yr, -⟩ := CV.1.xy
    rcases RR c (by omega) with ⟨hw, h0⟩ | ⟨w, hw, h0, RS, RV, -⟩
    · exact absurd ht (tl_n h0)
    · have pk := RV.2.2.2.2.2
      rw [RV.2.2.2.2.1] at pk
      exact bz_r pk.2 (by omega) (by omega) xr yr
  refine ⟨⟨by omega, by omega⟩, ⟨by rw [x1, iZ_self], by rw [y1, iZ_self]⟩, fun e => ?_, by omega, hb, fun but => ?_⟩
  · rw [e, iZ_t (by omega)] at p5; omega
  · refine mz_r hb (fun c hc => ?_) nc 0 0 0 (by omega) (by omega) (by omega)
    obtain ⟨o, ho, CS, CV⟩ := cel_ex I hnc ec2 (c := c) (by omega)
    have hbt := CV.2.2.2.2.2.2.2
    rw [CV.2.2.2.2.2.2.1] at hbt
    exact hbt
set_option maxRecDepth 20000 in
set_option maxHeartbeats 1000000 in
theorem s_lack {G : GC} {d mc ms : Nat} {h : HS} {K : Option Value → HS → Prop} {q u nq nc c : Nat} (I : Inv h) (hnc : nc ≤ 6) (ec2 : vi h 64 2 = iZ (nc : Int)) (ec0 : vi h 99 0 = iZ (nc : Int)) (hq : q < nq) (hnq : nq ≤ 16) (QS : QkS h u) (PV : PlV h u q) (RR : ∀ c, c < 6 → RdR h u q c) (hc : c < nc) (hk : K (some (.int (iZ (lk h c nc q)))) h) : Go G (d + 4) mc ms M_X11_lackOf 0 [.ref 64, .ref u, .int (iZ (c : Int)), un, un] [] h K := by
  have hu0 := QS.1
  rcases PV with ⟨p1, p2⟩ | P
  · rw [lk_u (Or.inl (p2.trans (by decide)))] at hk
    refine Go_aload_n (pc' := 1) dX11_lackOf_0 rfl rfl rfl ?_
    refine Go_ifnull (pc' := 4) dX11_lackOf_1 rfl ?_
    refine Go_aload_n (pc' := 5) dX11_lackOf_4 rfl rfl rfl ?_
    refine Go_getIv (v := (iZ (-1))) (pc' := 8) dX11_lackOf_5 rfl kf_RX11_300 (by decide) (by decide) rfl QS.b QS.o (p1.trans (by decide)) ?_
    refine Go_iconst (v := iZ (-1)) (pc' := 9) dX11_lackOf_8 rfl (by decide) ?_
    refine Go_icmp_neY (tgt := 15) (pc' := 12) dX11_lackOf_9 (by decide) rfl (by first | exact ⟨i_lo _, i_hi _⟩ | omega) (by first | exact ⟨i_lo _, i_hi _⟩ | omega) (fun c9 => by exfalso; omega) (fun c9 => ?_)
    refine Go_ldcZ (X := (-1000000000)) (pc' := 14) dX11_lackOf_12 rfl kn_RX11_110 (by decide) ?_
    refine Go_ireturn (ty := .int) dX11_lackOf_14 rfl rfl ?_
    exact hk
  · obtain ⟨pr, pu, pn, pz, pb, pm⟩ := own_facts (c := c) I hnc ec2 RR P
    have pm := pm (c : Int)
    by_cases ht : tlB h q c = true
    · have hbz := pb c hc ht
      refine Go_aload_n (pc' := 1) dX11_lackOf_0 rfl rfl rfl ?_
      refine Go_ifnull (pc' := 4) dX11_lackOf_1 rfl ?_
      refine Go_aload_n (pc' := 5) dX11_lackOf_4 rfl rfl rfl ?_
      refine Go_getIv (v := (iZ (pX h q))) (pc' := 8) dX11_lackOf_5 rfl kf_RX11_300 (by decide) (by decide) rfl QS.b QS.o (pu.1) ?_
      refine Go_iconst (v := iZ (-1)) (pc' := 9) dX11_lackOf_8 rfl (by decide) ?_
      refine Go_icmp_neY (tgt := 15) (pc' := 12) dX11_lackOf_9 (by decide) rfl (by first | exact ⟨i_lo _, i_hi _⟩ | omega) (by first | exact ⟨i_lo _, i_hi _⟩ | omega) (fun c9 => ?_) (fun c9 => by exfalso; omega)
      refine Go_aload_n (pc' := 16) dX11_lackOf_15 rfl rfl rfl ?_
      refine Go_aload_n (pc' := 17) dX11_lackOf_16 rfl rfl rfl ?_
      refine Go_aload_n (pc' := 18) dX11_lackOf_17 rfl rfl rfl ?_
      refine Go_getIv (v := (iZ (pX h q))) (pc' := 21) dX11_lackOf_18 rfl kf_RX11_300 (by decide) (by decide) rfl QS.b QS.o (pu.1) ?_
      refine Go_aload_n (pc' := 22) dX11_lackOf_21 rfl rfl rfl ?_
      refine Go_getIv (v := (iZ (pY h q))) (pc' := 25) dX11_lackOf_22 rfl kf_RX11_303 (by decide) (by decide) rfl QS.b QS.o (pu.2) ?_
      refine Go_iload_n (pc' := 26) dX11_lackOf_25 rfl rfl rfl ?_
      refine Go_callV_i (pc' := 29) (As := [.ref _, .int _, .int _, .int _]) (st := []) dX11_lackOf_26 rfl ok_X11_bareSize km_RX11_297 (I.S.o 64 rfl rfl rfl) (I.S.b 64 rfl rfl) ⟨_, _, rfl⟩ rfl (Nat.le_of_ble_eq_true rfl) rfl rfl rfl (Nat.le_of_ble_eq_true rfl) (Nat.lt_succ_self _) ?_
      refine s_bareT I hnc ec2 ec0 hq hnq QS RR pr.1 pr.2 hc ht ?_
      refine ⟨_, rfl, ?_⟩
      refine Go_istore_n (pc' := 30) (lv' := [.ref _, .ref _, .int _, .int _, un]) dX11_lackOf_29 rfl rfl (Nat.le_of_ble_eq_true rfl) rfl rfl ?_
      refine Go_aload_n (pc' := 31) dX11_lackOf_30 rfl rfl rfl ?_
      refine Go_aload_n (pc' := 32) dX11_lackOf_31 rfl rfl rfl ?_
      refine Go_aload_n (pc' := 33) dX11_lackOf_32 rfl rfl rfl ?_
      refine Go_getIv (v := (iZ (pX h q))) (pc' := 36) dX11_lackOf_33 rfl kf_RX11_300 (by decide) (by decide) rfl QS.b QS.o (pu.1) ?_
      refine Go_aload_n (pc' := 37) dX11_lackOf_36 rfl rfl rfl ?_
      refine Go_getIv (v := (iZ (pY h q))) (pc' := 40) dX11_lackOf_37 rfl kf_RX11_303 (by decide) (by decide) rfl QS.b QS.o (pu.2) ?_
      refine Go_iload_n (pc' := 41) dX11_lackOf_40 rfl rfl rfl ?_
      refine Go_callV_i (pc' := 44) (As := [.ref _, .int _, .int _, .int _]) (st := []) dX11_lackOf_41 rfl ok_X11_meanSize km_RX11_293 (I.S.o 64 rfl rfl rfl) (I.S.b 64 rfl rfl) ⟨_, _, rfl⟩ rfl (Nat.le_of_ble_eq_true rfl) rfl rfl rfl (Nat.le_of_ble_eq_true rfl) (Nat.lt_succ_self _) ?_
      refine s_mz I hnc ec2 ec0 hq hnq QS RR pr.1 pr.2 (by omega) ?_
      refine ⟨_, rfl, ?_⟩
      refine Go_istore (pc' := 46) (lv' := [.ref _, .ref _, .int _, .int _, .int _]) dX11_lackOf_44 rfl (Nat.le_of_ble_eq_true rfl) rfl rfl ?_
      refine Go_iload_n (pc' := 47) dX11_lackOf_46 rfl rfl rfl ?_
      refine Go_ldcZ (X := (-1000000000)) (pc' := 49) dX11_lackOf_47 rfl kn_RX11_110 (by decide) ?_
      refine Go_icmp_eqY (tgt := 59) (pc' := 52) dX11_lackOf_49 (by decide) rfl (by first | exact ⟨i_lo _, i_hi _⟩ | omega) (by first | exact ⟨i_lo _, i_hi _⟩ | omega) (fun c49 => by exfalso; omega) (fun c49 => ?_)
      refine Go_iload (pc' := 54) dX11_lackOf_52 rfl rfl ?_
      refine Go_ldcZ (X := (-1000000000)) (pc' := 56) dX11_lackOf_54 rfl kn_RX11_110 (by decide) ?_
      refine Go_icmp_neY (tgt := 64) (pc' := 59) dX11_lackOf_56 (by decide) rfl (by first | exact ⟨i_lo _, i_hi _⟩ | omega) (by first | exact ⟨i_lo _, i_hi _⟩ | omega) (fun c56 => ?_) (fun c56 => ?_)
      · refine Go_iload (pc' := 66) dX11_lackOf_64 rfl rfl ?_
        refine Go_iload_n (pc' := 67) dX11_lackOf_66 rfl rfl rfl ?_
        refine Go_isubZ (pc' := 68) dX11_lackOf_67 rfl ?_
        refine Go_ireturn (ty := .int) dX11_lackOf_68 rfl rfl ?_
        rw [lk_v pn ht c56] at hk; exact hk
      · refine Go_ldcZ (X := (-1000000000)) (pc' := 61) dX11_lackOf_59 rfl kn_RX11_110 (by decide) ?_
        refine Go_goto (tgt := 68) dX11_lackOf_61 (by decide) ?_
        refine Go_ireturn (ty := .int) dX11_lackOf_68 rfl rfl ?_
        rw [lk_u (Or.inr (Or.inr (by omega)))] at hk; exact hk
    · rw [lk_u (Or.inr (Or.inl ht))] at hk
      refine Go_aload_n (pc' := 1) dX11_lackOf_0 rfl rfl rfl ?_
      refine Go_ifnull (pc' := 4) dX11_lackOf_1 rfl ?_
      refine Go_aload_n (pc' := 5) dX11_lackOf_4 rfl rfl rfl ?_
      refine Go_getIv (v := (iZ (pX h q))) (pc' := 8) dX11_lackOf_5 rfl kf_RX11_300 (by decide) (by decide) rfl QS.b QS.o (pu.1) ?_
      refine Go_iconst (v := iZ (-1)) (pc' := 9) dX11_lackOf_8 rfl (by decide) ?_
      refine Go_icmp_neY (tgt := 15) (pc' := 12) dX11_lackOf_9 (by decide) rfl (by first | exact ⟨i_lo _, i_hi _⟩ | omega) (by first | exact ⟨i_lo _, i_hi _⟩ | omega) (fun c9 => ?_) (fun c9 => by exfalso; omega)
      refine Go_aload_n (pc' := 16) dX11_lackOf_15 rfl rfl rfl ?_
      refine Go_aload_n (pc' := 17) dX11_lackOf_16 rfl rfl rfl ?_
      refine Go_aload_n (pc' := 18) dX11_lackOf_17 rfl rfl rfl ?_
      refine Go_getIv (v := (iZ (pX h q))) (pc' := 21) dX11_lackOf_18 rfl kf_RX11_300 (by decide) (by decide) rfl QS.b QS.o (pu.1) ?_
      refine Go_aload_n (pc' := 22) dX11_lackOf_21 rfl rfl rfl ?_
      refine Go_getIv (v := (iZ (pY h q))) (pc' := 25) dX11_lackOf_22 rfl kf_RX11_303 (by decide) (by decide) rfl QS.b QS.o (pu.2) ?_
      refine Go_iload_n (pc' := 26) dX11_lackOf_25 rfl rfl rfl ?_
      refine Go_callV_i (pc' := 29) (As := [.ref _, .int _, .int _, .int _]) (st := []) dX11_lackOf_26 rfl ok_X11_bareSize km_RX11_297 (I.S.o 64 rfl rfl rfl) (I.S.b 64 rfl rfl) ⟨_, _, rfl⟩ rfl (Nat.le_of_ble_eq_true rfl) rfl rfl rfl (Nat.le_of_ble_eq_true rfl) (Nat.lt_succ_self _) ?_
      refine s_bareF I hnc ec2 ec0 hq hnq QS RR pr.1 pr.2 hc ht ?_
      refine ⟨_, rfl, ?_⟩
      refine Go_istore_n (pc' := 30) (lv' := [.ref _, .ref _, .int _, .int _, un]) dX11_lackOf_29 rfl rfl (Nat.le_of_ble_eq_true rfl) rfl rfl ?_
      refine Go_aload_n (pc' := 31) dX11_lackOf_30 rfl rfl rfl ?_
      refine Go_aload_n (pc' := 32) dX11_lackOf_31 rfl rfl rfl ?_
      refine Go_aload_n (pc' := 33) dX11_lackOf_32 rfl rfl rfl ?_
      refine Go_getIv (v := (iZ (pX h q))) (pc' := 36) dX11_lackOf_33 rfl kf_RX11_300 (by decide) (by decide) rfl QS.b QS.o (pu.1) ?_
      refine Go_aload_n (pc' := 37) dX11_lackOf_36 rfl rfl rfl ?_
      refine Go_getIv (v := (iZ (pY h q))) (pc' := 40) dX11_lackOf_37 rfl kf_RX11_303 (by decide) (by decide) rfl QS.b QS.o (pu.2) ?_
      refine Go_iload_n (pc' := 41) dX11_lackOf_40 rfl rfl rfl ?_
      refine Go_callV_i (pc' := 44) (As := [.ref _, .int _, .int _, .int _]) (st := []) dX11_lackOf_41 rfl ok_X11_meanSize km_RX11_293 (I.S.o 64 rfl rfl rfl) (I.S.b 64 rfl rfl) ⟨_, _, rfl⟩ rfl (Nat.le_of_ble_eq_true rfl) rfl rfl rfl (Nat.le_of_ble_eq_true rfl) (Nat.lt_succ_self _) ?_
      refine s_mz I hnc ec2 ec0 hq hnq QS RR pr.1 pr.2 (by omega) ?_
      refine ⟨_, rfl, ?_⟩
      refine Go_istore (pc' := 46) (lv' := [.ref _, .ref _, .int _, .int _, .int _]) dX11_lackOf_44 rfl (Nat.le_of_ble_eq_true rfl) rfl rfl ?_
      refine Go_iload_n (pc' := 47) dX11_lackOf_46 rfl rfl rfl ?_
      refine Go_ldcZ (X := (-1000000000)) (pc' := 49) dX11_lackOf_47 rfl kn_RX11_110 (by decide) ?_
      refine Go_icmp_eqY (tgt := 59) (pc' := 52) dX11_lackOf_49 (by decide) rfl (by first | exact ⟨i_lo _, i_hi _⟩ | omega) (by first | exact ⟨i_lo _, i_hi _⟩ | omega) (fun c49 => ?_) (fun c49 => by exfalso; omega)
      refine Go_ldcZ (X := (-1000000000)) (pc' := 61) dX11_lackOf_59 rfl kn_RX11_110 (by decide) ?_
      refine Go_goto (tgt := 68) dX11_lackOf_61 (by decide) ?_
      refine Go_ireturn (ty := .int) dX11_lackOf_68 rfl rfl ?_
      exact hk
set_option maxRecDepth 20000 in
set_option maxHeartbeats 1000000 in
theorem ow_loop {G : GC} {d mc ms : Nat} {h : HS} {K : Option Value → HS → Prop} {nq nc c : Nat} (I : Inv h) (hnc : nc ≤ 6) (ec2 : vi h 64 2 = iZ (nc : Int)) (ec0 : vi h 99 0 = iZ (nc : Int)) (hnq : nq ≤ 16) (eq7 : vi h 64 7 = iZ (nq : Int)) (eq38 : vi h 99 38 = iZ (nq : Int)) (hc : c < nc) : ∀ (m q : Nat) (s n : Int) (v5 : Value), q + m = nq → (-1000 * (q : Int) ≤ s ∧ s ≤ 1000 * (q : Int)) → (0 ≤ n ∧ n ≤ q) → K (some (.int (iZ (ow (lk h c nc) m q s n)))) h → Go G (d + 5) mc ms M_X11_own 18 [.ref 64, .int (iZ (c : Int)), .int (iZ s), .int (iZ n), .int (iZ (q : Int)), v5] [] h K := by
  intro m
  induction m with
  | zero =>
    intro q s n v5 hm hs hn hk
    refine Go_iload (pc' := 20) dX11_own_18 rfl rfl ?_
    refine Go_aload_n (pc' := 21) dX11_own_20 rfl rfl rfl ?_
    refine Go_getIv (v := (iZ (nq : Int))) (pc' := 24) dX11_own_21 rfl kf_RX11_226 (by decide) (by decide) rfl (I.S.b 64 rfl rfl) (I.S.o 64 rfl rfl rfl) (eq7) ?_
    refine Go_icmp_geY (tgt := 61) (pc' := 27) dX11_own_24 (by decide) rfl (by first | exact ⟨i_lo _, i_hi _⟩ | omega) (by first | exact ⟨i_lo _, i_hi _⟩ | omega) (fun c24 => ?_) (fun c24 => by exfalso; omega)
    refine Go_iload_n (pc' := 62) dX11_own_61 rfl rfl rfl ?_
    refine Go_iload_n (pc' := 63) dX11_own_62 rfl rfl rfl ?_
    refine Go_callS_i (pc' := 66) (As := [.int _, .int _]) (st := []) dX11_own_63 rfl ok_X11_mean km_RX11_309 rfl (Nat.le_of_ble_eq_true rfl) rfl rfl rfl (Nat.le_of_ble_eq_true rfl) (Nat.lt_succ_self _) ?_
    refine s_mean (by omega) (by omega) ?_
    refine ⟨_, rfl, ?_⟩
    refine Go_ireturn (ty := .int) dX11_own_66 rfl rfl ?_
    exact hk
  | succ m ih =>
    intro q s n v5 hm hs hn hk
    obtain ⟨u, hu, QS, PV, RR⟩ := I.Q.2.1 q (by rw [eq7, iZ_t (by omega)]; omega)
    have hu0 := QS.1
    have lr : lk h c nc q = -1000000000 ∨ (-1000 ≤ lk h c nc q ∧ lk h c nc q ≤ 1000) := by
      rcases PV with ⟨p1, p2⟩ | P
      · exact Or.inl (lk_u (Or.inl (p2.trans (by decide))))
      · obtain ⟨pr, pu, pn, pz, pb, pm⟩ := own_facts (c := c) I hnc ec2 RR P
        have pm := pm (c : Int)
        by_cases ht : tlB h q c = true
        · by_cases e2 : mz h q (pX h q) (pY h q) (c : Int) nc 0 0 0 = -1000000000
          · exact Or.inl (lk_u (Or.inr (Or.inr e2)))
          · have hbz := pb c hc ht
            rw [lk_v pn ht e2]; exact Or.inr (by omega)
        · exact Or.inl (lk_u (Or.inr (Or.inl ht)))
    refine Go_iload (pc' := 20) dX11_own_18 rfl rfl ?_
    refine Go_aload_n (pc' := 21) dX11_own_20 rfl rfl rfl ?_
    refine Go_getIv (v := (iZ (nq : Int))) (pc' := 24) dX11_own_21 rfl kf_RX11_226 (by decide) (by decide) rfl (I.S.b 64 rfl rfl) (I.S.o 64 rfl rfl rfl) (eq7) ?_
    refine Go_icmp_geY (tgt := 61) (pc' := 27) dX11_own_24 (by decide) rfl (by first | exact ⟨i_lo _, i_hi _⟩ | omega) (by first | exact ⟨i_lo _, i_hi _⟩ | omega) (fun c24 => by exfalso; omega) (fun c24 => ?_)
    refine Go_aload_n (pc' := 28) dX11_own_27 rfl rfl rfl ?_
    refine Go_aload_n (pc' := 29) dX11_own_28 rfl rfl rfl ?_
    refine Go_iload (pc' := 31) dX11_own_29 rfl rfl ?_
    refine Go_callV_r (pc' := 34) (As := [.int _]) (st := [.ref _]) dX11_own_31 rfl ok_X11_quakeOf km_RX11_230 (I.S.o 64 rfl rfl rfl) (I.S.b 64 rfl rfl) ⟨_, _, rfl⟩ rfl (Nat.le_of_ble_eq_true rfl) rfl rfl rfl (Nat.le_of_ble_eq_true rfl) (Nat.lt_succ_self _) ?_
    refine Go_iload_n (pc' := 1) dX11_quakeOf_0 rfl rfl rfl ?_
    refine Go_iconst (v := iZ 0) (pc' := 2) dX11_quakeOf_1 rfl (by decide) ?_
    refine Go_aload_n (pc' := 3) dX11_quakeOf_2 rfl rfl rfl ?_
    refine Go_getIv (v := (iZ (nq : Int))) (pc' := 6) dX11_quakeOf_3 rfl kf_RX11_226 (by decide) (by decide) rfl (I.S.b 64 rfl rfl) (I.S.o 64 rfl rfl rfl) (eq7) ?_
    refine Go_iconst (v := iZ 1) (pc' := 7) dX11_quakeOf_6 rfl (by decide) ?_
    refine Go_isubZ (pc' := 8) dX11_quakeOf_7 rfl ?_
    refine Go_callS_i (pc' := 11) (As := [.int _, .int _, .int _]) (st := []) dX11_quakeOf_8 rfl ok_X11_within km_RX11_94 rfl (Nat.le_of_ble_eq_true rfl) rfl rfl rfl (Nat.le_of_ble_eq_true rfl) (Nat.lt_succ_self _) ?_
    refine s_withinY (by first | exact ⟨i_lo _, i_hi _⟩ | omega) (by first | exact ⟨i_lo _, i_hi _⟩ | omega) (by first | exact ⟨i_lo _, i_hi _⟩ | omega) ?_
    refine ⟨_, rfl, ?_⟩
    refine Go_if_eqb (tgt := 32) (pc' := 14) dX11_quakeOf_11 (by decide) rfl (fun q11 => by exfalso; omega) (fun q11 => ?_)
    refine Go_iload_n (pc' := 15) dX11_quakeOf_14 rfl rfl rfl ?_
    refine Go_aload_n (pc' := 16) dX11_quakeOf_15 rfl rfl rfl ?_
    refine Go_getRs (pc' := 19) dX11_quakeOf_16 rfl kf_RX11_45 (by decide) (by decide) rfl (I.S.b 64 rfl rfl) (I.S.o 64 rfl rfl rfl) (I.S.r 64 6 rfl rfl rfl) ?_
    refine Go_alenZ (n := 16) (pc' := 20) dX11_quakeOf_19 rfl (I.S.b 80 rfl rfl) (I.S.k 80 rfl rfl rfl) (Or.inr (Or.inr ⟨_, rfl⟩)) ?_
    refine Go_icmp_geY (tgt := 32) (pc' := 23) dX11_quakeOf_20 (by decide) rfl (by first | exact ⟨i_lo _, i_hi _⟩ | omega) (by first | exact ⟨i_lo _, i_hi _⟩ | omega) (fun q20 => by exfalso; omega) (fun q20 => ?_)
    refine Go_aload_n (pc' := 24) dX11_quakeOf_23 rfl rfl rfl ?_
    refine Go_getRs (pc' := 27) dX11_quakeOf_24 rfl kf_RX11_45 (by decide) (by decide) rfl (I.S.b 64 rfl rfl) (I.S.o 64 rfl rfl rfl) (I.S.r 64 6 rfl rfl rfl) ?_
    refine Go_iload_n (pc' := 28) dX11_quakeOf_27 rfl rfl rfl ?_
    refine Go_aaloadZ (n := 16) (k := q) (pc' := 29) dX11_quakeOf_28 rfl (I.S.b 80 rfl rfl) (I.S.k 80 rfl rfl rfl) rfl rfl (by omega) (by decide) hu ?_
    refine Go_goto (tgt := 33) dX11_quakeOf_29 (by decide) ?_
    refine Go_areturn (r := some _) dX11_quakeOf_33 rfl ?_
    refine ⟨some _, rfl, ?_⟩
    refine Go_iload_n (pc' := 35) dX11_own_34 rfl rfl rfl ?_
    refine Go_callV_i (pc' := 38) (As := [.ref _, .int _]) (st := []) dX11_own_35 rfl ok_X11_lackOf km_RX11_306 (I.S.o 64 rfl rfl rfl) (I.S.b 64 rfl rfl) ⟨_, _, rfl⟩ rfl (Nat.le_of_ble_eq_true rfl) rfl rfl rfl (Nat.le_of_ble_eq_true rfl) (Nat.lt_succ_self _) ?_
    refine s_lack I hnc ec2 ec0 (by omega) hnq QS PV RR hc ?_
    refine ⟨_, rfl, ?_⟩
    refine Go_istore (pc' := 40) (lv' := [.ref _, .int _, .int _, .int _, .int _, .int _]) dX11_own_38 rfl (Nat.le_of_ble_eq_true rfl) rfl rfl ?_
    refine Go_iload (pc' := 42) dX11_own_40 rfl rfl ?_
    refine Go_ldcZ (X := (-1000000000)) (pc' := 44) dX11_own_42 rfl kn_RX11_110 (by decide) ?_
    refine Go_icmp_eqY (tgt := 55) (pc' := 47) dX11_own_44 (by decide) rfl (by first | exact ⟨i_lo _, i_hi _⟩ | omega) (by first | exact ⟨i_lo _, i_hi _⟩ | omega) (fun c44 => ?_) (fun c44 => ?_)
    · refine Go_iincZ (pc' := 58) (lv' := [.ref _, .int _, .int _, .int _, .int _, .int _]) dX11_own_55 rfl rfl (Nat.le_of_ble_eq_true rfl) rfl rfl ?_
      refine Go_goto (tgt := 18) dX11_own_58 (by decide) ?_
      rw [ow_u (by omega)] at hk
      exact ih (q + 1) _ _ _ (by omega) (by omega) (by omega) hk
    · refine Go_iload_n (pc' := 48) dX11_own_47 rfl rfl rfl ?_
      refine Go_iload (pc' := 50) dX11_own_48 rfl rfl ?_
      refine Go_iaddZ (pc' := 51) dX11_own_50 rfl ?_
      refine Go_istore_n (pc' := 52) (lv' := [.ref _, .int _, .int _, .int _, .int _, .int _]) dX11_own_51 rfl rfl (Nat.le_of_ble_eq_true rfl) rfl rfl ?_
      refine Go_iincZ (pc' := 55) (lv' := [.ref _, .int _, .int _, .int _, .int _, .int _]) dX11_own_52 rfl rfl (Nat.le_of_ble_eq_true rfl) rfl rfl ?_
      refine Go_iincZ (pc' := 58) (lv' := [.ref _, .int _, .int _, .int _, .int _, .int _]) dX11_own_55 rfl rfl (Nat.le_of_ble_eq_true rfl) rfl rfl ?_
      refine Go_goto (tgt := 18) dX11_own_58 (by decide) ?_
      rw [ow_v (by omega)] at hk
      exact ih (q + 1) _ _ _ (by omega) (by omega) (by omega) hk
set_option maxRecDepth 20000 in
set_option maxHeartbeats 1000000 in
theorem owM_loop {G : GC} {d mc ms : Nat} {h : HS} {K : Option Value → HS → Prop} {nq nc c : Nat} (I : Inv h) (hnc : nc ≤ 6) (ec2 : vi h 64 2 = iZ (nc : Int)) (ec0 : vi h 99 0 = iZ (nc : Int)) (hnq : nq ≤ 16) (eq7 : vi h 64 7 = iZ (nq : Int)) (eq38 : vi h 99 38 = iZ (nq : Int)) (hc : c < nc) : ∀ (m q : Nat) (s n : Int) (v5 : Value), q + m = nq → (-1000 * (q : Int) ≤ s ∧ s ≤ 1000 * (q : Int)) → (0 ≤ n ∧ n ≤ q) → K (some (.int (iZ (ow (lk h c nc) m q s n)))) h → Go G (d + 4) mc ms M_X12_own 18 [.ref 99, .int (iZ (c : Int)), .int (iZ n), .int (iZ s), .int (iZ (q : Int)), v5] [] h K := by
  intro m
  induction m with
  | zero =>
    intro q s n v5 hm hs hn hk
    refine Go_iload (pc' := 20) dX12_own_18 rfl rfl ?_
    refine Go_aload_n (pc' := 21) dX12_own_20 rfl rfl rfl ?_
    refine Go_getIv (v := (iZ (nq : Int))) (pc' := 24) dX12_own_21 rfl kf_RX12_336 (by decide) (by decide) rfl (I.S.b 99 rfl rfl) (I.S.o 99 rfl rfl rfl) (eq38) ?_
    refine Go_icmp_geY (tgt := 106) (pc' := 27) dX12_own_24 (by decide) rfl (by first | exact ⟨i_lo _, i_hi _⟩ | omega) (by first | exact ⟨i_lo _, i_hi _⟩ | omega) (fun c24 => ?_) (fun c24 => by exfalso; omega)
    refine Go_iload_n (pc' := 107) dX12_own_106 rfl rfl rfl ?_
    refine Go_if_neY (tgt := 115) (pc' := 110) dX12_own_107 (by decide) rfl (by first | exact ⟨i_lo _, i_hi _⟩ | omega) (fun c107 => ?_) (fun c107 => ?_)
    · refine Go_iload_n (pc' := 116) dX12_own_115 rfl rfl rfl ?_
      refine Go_iload_n (pc' := 117) dX12_own_116 rfl rfl rfl ?_
      refine Go_callS_i (pc' := 120) (As := [.int _, .int _]) (st := []) dX12_own_117 rfl ok_X12_down km_RX12_376 rfl (Nat.le_of_ble_eq_true rfl) rfl rfl rfl (Nat.le_of_ble_eq_true rfl) (Nat.lt_succ_self _) ?_
      refine s_down (by omega) (by omega) ?_
      refine ⟨_, rfl, ?_⟩
      refine Go_ireturn (ty := .int) dX12_own_120 rfl rfl ?_
      have hk : K (some (.int (iZ (if n = 0 then -1000000000 else s / n)))) h := hk
      rw [if_neg c107] at hk; exact hk
    · refine Go_ldcZ (X := (-1000000000)) (pc' := 112) dX12_own_110 rfl kn_RX12_162 (by decide) ?_
      refine Go_goto (tgt := 120) dX12_own_112 (by decide) ?_
      refine Go_ireturn (ty := .int) dX12_own_120 rfl rfl ?_
      have hk : K (some (.int (iZ (if n = 0 then -1000000000 else s / n)))) h := hk
      rw [if_pos c107] at hk; exact hk
  | succ m ih =>
    intro q s n v5 hm hs hn hk
    obtain ⟨u, hu, QS, PV, RR⟩ := I.Q.2.1 q (by rw [eq7, iZ_t (by omega)]; omega)
    have hu0 := QS.1
    rcases PV with ⟨p1, p2⟩ | P
    · refine Go_iload (pc' := 20) dX12_own_18 rfl rfl ?_
      refine Go_aload_n (pc' := 21) dX12_own_20 rfl rfl rfl ?_
      refine Go_getIv (v := (iZ (nq : Int))) (pc' := 24) dX12_own_21 rfl kf_RX12_336 (by decide) (by decide) rfl (I.S.b 99 rfl rfl) (I.S.o 99 rfl rfl rfl) (eq38) ?_
      refine Go_icmp_geY (tgt := 106) (pc' := 27) dX12_own_24 (by decide) rfl (by first | exact ⟨i_lo _, i_hi _⟩ | omega) (by first | exact ⟨i_lo _, i_hi _⟩ | omega) (fun c24 => by exfalso; omega) (fun c24 => ?_)
      refine Go_aload_n (pc' := 28) dX12_own_27 rfl rfl rfl ?_
      refine Go_getRs (pc' := 31) dX12_own_28 rfl kf_RX12_117 (by decide) (by decide) rfl (I.S.b 99 rfl rfl) (I.S.o 99 rfl rfl rfl) (I.S.r 99 49 rfl rfl rfl) ?_
      refine Go_iload (pc' := 33) dX12_own_31 rfl rfl ?_
      refine Go_ialoadZ (n := 16) (k := q) (v := (iZ (-1))) (pc' := 34) dX12_own_33 rfl (I.S.b 132 rfl rfl) (I.S.k 132 rfl rfl rfl) rfl (by omega) (by decide) (p2.trans (by decide)) ?_
      refine Go_iconst (v := iZ (-1)) (pc' := 35) dX12_own_34 rfl (by decide) ?_
      refine Go_icmp_eqY (tgt := 100) (pc' := 38) dX12_own_35 (by decide) rfl (by first | exact ⟨i_lo _, i_hi _⟩ | omega) (by first | exact ⟨i_lo _, i_hi _⟩ | omega) (fun c35 => ?_) (fun c35 => by exfalso; omega)
      refine Go_iincZ (pc' := 103) (lv' := [.ref _, .int _, .int _, .int _, .int _, _]) dX12_own_100 rfl rfl (Nat.le_of_ble_eq_true rfl) rfl rfl ?_
      refine Go_goto (tgt := 18) dX12_own_103 (by decide) ?_
      rw [ow_u (lk_u (Or.inl (p2.trans (by decide))))] at hk
      exact ih (q + 1) _ _ _ (by omega) (by omega) (by omega) hk
    · obtain ⟨pr, pu, pn, pz, pb, pm⟩ := own_facts (c := c) I hnc ec2 RR P
      have pm := pm (c : Int)
      refine Go_iload (pc' := 20) dX12_own_18 rfl rfl ?_
      refine Go_aload_n (pc' := 21) dX12_own_20 rfl rfl rfl ?_
      refine Go_getIv (v := (iZ (nq : Int))) (pc' := 24) dX12_own_21 rfl kf_RX12_336 (by decide) (by decide) rfl (I.S.b 99 rfl rfl) (I.S.o 99 rfl rfl rfl) (eq38) ?_
      refine Go_icmp_geY (tgt := 106) (pc' := 27) dX12_own_24 (by decide) rfl (by first | exact ⟨i_lo _, i_hi _⟩ | omega) (by first | exact ⟨i_lo _, i_hi _⟩ | omega) (fun c24 => by exfalso; omega) (fun c24 => ?_)
      refine Go_aload_n (pc' := 28) dX12_own_27 rfl rfl rfl ?_
      refine Go_getRs (pc' := 31) dX12_own_28 rfl kf_RX12_117 (by decide) (by decide) rfl (I.S.b 99 rfl rfl) (I.S.o 99 rfl rfl rfl) (I.S.r 99 49 rfl rfl rfl) ?_
      refine Go_iload (pc' := 33) dX12_own_31 rfl rfl ?_
      refine Go_ialoadZ (n := 16) (k := q) (v := (iZ (vi h 132 q).toInt)) (pc' := 34) dX12_own_33 rfl (I.S.b 132 rfl rfl) (I.S.k 132 rfl rfl rfl) rfl (by omega) (by decide) (vi_eta _ _ _) ?_
      refine Go_iconst (v := iZ (-1)) (pc' := 35) dX12_own_34 rfl (by decide) ?_
      refine Go_icmp_eqY (tgt := 100) (pc' := 38) dX12_own_35 (by decide) rfl (by first | exact ⟨i_lo _, i_hi _⟩ | omega) (by first | exact ⟨i_lo _, i_hi _⟩ | omega) (fun c35 => by exfalso; omega) (fun c35 => ?_)
      refine Go_aload_n (pc' := 39) dX12_own_38 rfl rfl rfl ?_
      refine Go_iload (pc' := 41) dX12_own_39 rfl rfl ?_
      refine Go_iload_n (pc' := 42) dX12_own_41 rfl rfl rfl ?_
      refine Go_callV_i (pc' := 45) (As := [.int _, .int _]) (st := []) dX12_own_42 rfl ok_X12_tells km_RX12_370 (I.S.o 99 rfl rfl rfl) (I.S.b 99 rfl rfl) ⟨_, _, rfl⟩ rfl (Nat.le_of_ble_eq_true rfl) rfl rfl rfl (Nat.le_of_ble_eq_true rfl) (Nat.lt_succ_self _) ?_
      refine s_tells I hnc (by omega) hnq RR (by omega) ?_
      refine ⟨_, rfl, ?_⟩
      refine Go_if_neb (tgt := 51) (pc' := 48) dX12_own_45 (by decide) rfl (fun c45 => ?_) (fun c45 => ?_)
      · refine Go_aload_n (pc' := 52) dX12_own_51 rfl rfl rfl ?_
        refine Go_iload (pc' := 54) dX12_own_52 rfl rfl ?_
        refine Go_aload_n (pc' := 55) dX12_own_54 rfl rfl rfl ?_
        refine Go_getRs (pc' := 58) dX12_own_55 rfl kf_RX12_117 (by decide) (by decide) rfl (I.S.b 99 rfl rfl) (I.S.o 99 rfl rfl rfl) (I.S.r 99 49 rfl rfl rfl) ?_
        refine Go_iload (pc' := 60) dX12_own_58 rfl rfl ?_
        refine Go_ialoadZ (n := 16) (k := q) (v := (iZ (vi h 132 q).toInt)) (pc' := 61) dX12_own_60 rfl (I.S.b 132 rfl rfl) (I.S.k 132 rfl rfl rfl) rfl (by omega) (by decide) (vi_eta _ _ _) ?_
        refine Go_iload_n (pc' := 62) dX12_own_61 rfl rfl rfl ?_
        refine Go_callV_i (pc' := 65) (As := [.int _, .int _, .int _]) (st := []) dX12_own_62 rfl ok_X12_sizeBut km_RX12_379 (I.S.o 99 rfl rfl rfl) (I.S.b 99 rfl rfl) ⟨_, _, rfl⟩ rfl (Nat.le_of_ble_eq_true rfl) rfl rfl rfl (Nat.le_of_ble_eq_true rfl) (Nat.lt_succ_self _) ?_
        refine s_mzM (x := pX h q) (y := pY h q) I hnc ec2 ec0 (by omega) hnq QS RR pr.1 pr.2 (by omega) pz ?_
        refine ⟨_, rfl, ?_⟩
        refine Go_istore (pc' := 67) (lv' := [.ref _, .int _, .int _, .int _, .int _, .int _]) dX12_own_65 rfl (Nat.le_of_ble_eq_true rfl) rfl rfl ?_
        refine Go_iload (pc' := 69) dX12_own_67 rfl rfl ?_
        refine Go_ldcZ (X := (-1000000000)) (pc' := 71) dX12_own_69 rfl kn_RX12_162 (by decide) ?_
        refine Go_icmp_neY (tgt := 77) (pc' := 74) dX12_own_71 (by decide) rfl (by first | exact ⟨i_lo _, i_hi _⟩ | omega) (by first | exact ⟨i_lo _, i_hi _⟩ | omega) (fun c71 => ?_) (fun c71 => ?_)
        · refine Go_iincZ (pc' := 80) (lv' := [.ref _, .int _, .int _, .int _, .int _, .int _]) dX12_own_77 rfl rfl (Nat.le_of_ble_eq_true rfl) rfl rfl ?_
          refine Go_iload_n (pc' := 81) dX12_own_80 rfl rfl rfl ?_
          refine Go_iload (pc' := 83) dX12_own_81 rfl rfl ?_
          refine Go_aload_n (pc' := 84) dX12_own_83 rfl rfl rfl ?_
          refine Go_iload (pc' := 86) dX12_own_84 rfl rfl ?_
          refine Go_aload_n (pc' := 87) dX12_own_86 rfl rfl rfl ?_
          refine Go_getRs (pc' := 90) dX12_own_87 rfl kf_RX12_117 (by decide) (by decide) rfl (I.S.b 99 rfl rfl) (I.S.o 99 rfl rfl rfl) (I.S.r 99 49 rfl rfl rfl) ?_
          refine Go_iload (pc' := 92) dX12_own_90 rfl rfl ?_
          refine Go_ialoadZ (n := 16) (k := q) (v := (iZ (vi h 132 q).toInt)) (pc' := 93) dX12_own_92 rfl (I.S.b 132 rfl rfl) (I.S.k 132 rfl rfl rfl) rfl (by omega) (by decide) (vi_eta _ _ _) ?_
          refine Go_iload_n (pc' := 94) dX12_own_93 rfl rfl rfl ?_
          refine Go_callV_i (pc' := 97) (As := [.int _, .int _, .int _]) (st := [.int _, .int _]) dX12_own_94 rfl ok_X12_bare km_RX12_373 (I.S.o 99 rfl rfl rfl) (I.S.b 99 rfl rfl) ⟨_, _, rfl⟩ rfl (Nat.le_of_ble_eq_true rfl) rfl rfl rfl (Nat.le_of_ble_eq_true rfl) (Nat.lt_succ_self _) ?_
          refine s_bareM (x := pX h q) (y := pY h q) I hnc ec2 ec0 (by omega) hnq QS RR pr.1 pr.2 pz hc c45 ?_
          refine ⟨_, rfl, ?_⟩
          refine Go_isubZ (pc' := 98) dX12_own_97 rfl ?_
          refine Go_iaddZ (pc' := 99) dX12_own_98 rfl ?_
          refine Go_istore_n (pc' := 100) (lv' := [.ref _, .int _, .int _, .int _, .int _, .int _]) dX12_own_99 rfl rfl (Nat.le_of_ble_eq_true rfl) rfl rfl ?_
          refine Go_iincZ (pc' := 103) (lv' := [.ref _, .int _, .int _, .int _, .int _, .int _]) dX12_own_100 rfl rfl (Nat.le_of_ble_eq_true rfl) rfl rfl ?_
          refine Go_goto (tgt := 18) dX12_own_103 (by decide) ?_
          rw [ow_v (by rw [lk_v pn c45 c71]; have hbz := pb c hc c45; omega), lk_v pn c45 c71] at hk
          have hbz := pb c hc c45
          exact ih (q + 1) _ _ _ (by omega) (by omega) (by omega) hk
        · refine Go_goto (tgt := 100) dX12_own_74 (by decide) ?_
          refine Go_iincZ (pc' := 103) (lv' := [.ref _, .int _, .int _, .int _, .int _, .int _]) dX12_own_100 rfl rfl (Nat.le_of_ble_eq_true rfl) rfl rfl ?_
          refine Go_goto (tgt := 18) dX12_own_103 (by decide) ?_
          rw [ow_u (lk_u (Or.inr (Or.inr c71)))] at hk
          exact ih (q + 1) _ _ _ (by omega) (by omega) (by omega) hk
      · refine Go_goto (tgt := 100) dX12_own_48 (by decide) ?_
        refine Go_iincZ (pc' := 103) (lv' := [.ref _, .int _, .int _, .int _, .int _, _]) dX12_own_100 rfl rfl (Nat.le_of_ble_eq_true rfl) rfl rfl ?_
        refine Go_goto (tgt := 18) dX12_own_103 (by decide) ?_
        rw [ow_u (lk_u (Or.inr (Or.inl c45)))] at hk
        exact ih (q + 1) _ _ _ (by omega) (by omega) (by omega) hk
set_option maxRecDepth 20000 in
set_option maxHeartbeats 1000000 in
theorem pair31 {G : GC} (a : Int32) : PairI G M_X11_own M_X12_own [.int a] := by
  intro h I
  obtain ⟨Az, hva, rfl⟩ := i_eta a
  obtain ⟨nq, hnq, eq7⟩ := of_rgZ (b := 16) I.Q.1.2
  have eq38 : vi h 99 38 = iZ (nq : Int) := I.Q.1.1.trans eq7
  obtain ⟨nc, hnc, ec2⟩ := of_rgZ (b := 6) I.C.1.2
  have ec0 : vi h 99 0 = iZ (nc : Int) := I.C.1.1.trans ec2
  by_cases hcc : 0 ≤ Az ∧ Az < nc
  · obtain ⟨c, rfl⟩ : ∃ c : Nat, Az = (c : Int) := ⟨Az.toNat, by omega⟩
    obtain ⟨o, ho, CS, CV⟩ := cel_ex I hnc ec2 (c := c) (by omega)
    refine PairI.ro' (fun _ => iZ (ow (lk h c nc) nq 0 0 0)) h I (fun K k => ?_) (fun K k => ?_)
    · show Go G 60 0 0 M_X11_own 0 [.ref 64, .int (iZ (c : Int)), un, un, un, un] [] h K
      refine Go_aload_n (pc' := 1) dX11_own_0 rfl rfl rfl ?_
      refine Go_iload_n (pc' := 2) dX11_own_1 rfl rfl rfl ?_
      refine Go_callV_r (pc' := 5) (As := [.int _]) (st := []) dX11_own_2 rfl ok_X11_cellarOf km_RX11_90 (I.S.o 64 rfl rfl rfl) (I.S.b 64 rfl rfl) ⟨_, _, rfl⟩ rfl (Nat.le_of_ble_eq_true rfl) rfl rfl rfl (Nat.le_of_ble_eq_true rfl) (Nat.lt_succ_self _) ?_
      refine Go_iload_n (pc' := 1) dX11_cellarOf_0 rfl rfl rfl ?_
      refine Go_iconst (v := iZ 0) (pc' := 2) dX11_cellarOf_1 rfl (by decide) ?_
      refine Go_aload_n (pc' := 3) dX11_cellarOf_2 rfl rfl rfl ?_
      refine Go_getIv (v := (iZ (nc : Int))) (pc' := 6) dX11_cellarOf_3 rfl kf_RX11_84 (by decide) (by decide) rfl (I.S.b 64 rfl rfl) (I.S.o 64 rfl rfl rfl) (ec2) ?_
      refine Go_iconst (v := iZ 1) (pc' := 7) dX11_cellarOf_6 rfl (by decide) ?_
      refine Go_isubZ (pc' := 8) dX11_cellarOf_7 rfl ?_
      refine Go_callS_i (pc' := 11) (As := [.int _, .int _, .int _]) (st := []) dX11_cellarOf_8 rfl ok_X11_within km_RX11_94 rfl (Nat.le_of_ble_eq_true rfl) rfl rfl rfl (Nat.le_of_ble_eq_true rfl) (Nat.lt_succ_self _) ?_
      refine s_withinY (by first | exact ⟨i_lo _, i_hi _⟩ | omega) (by first | exact ⟨i_lo _, i_hi _⟩ | omega) (by first | exact ⟨i_lo _, i_hi _⟩ | omega) ?_
      refine ⟨_, rfl, ?_⟩
      refine Go_if_eqb (tgt := 32) (pc' := 14) dX11_cellarOf_11 (by decide) rfl (fun q11 => by exfalso; omega) (fun q11 => ?_)
      refine Go_iload_n (pc' := 15) dX11_cellarOf_14 rfl rfl rfl ?_
      refine Go_aload_n (pc' := 16) dX11_cellarOf_15 rfl rfl rfl ?_
      refine Go_getRs (pc' := 19) dX11_cellarOf_16 rfl kf_RX11_18 (by decide) (by decide) rfl (I.S.b 64 rfl rfl) (I.S.o 64 rfl rfl rfl) (I.S.r 64 1 rfl rfl rfl) ?_
      refine Go_alenZ (n := 6) (pc' := 20) dX11_cellarOf_19 rfl (I.S.b 67 rfl rfl) (I.S.k 67 rfl rfl rfl) (Or.inr (Or.inr ⟨_, rfl⟩)) ?_
      refine Go_icmp_geY (tgt := 32) (pc' := 23) dX11_cellarOf_20 (by decide) rfl (by first | exact ⟨i_lo _, i_hi _⟩ | omega) (by first | exact ⟨i_lo _, i_hi _⟩ | omega) (fun q20 => by exfalso; omega) (fun q20 => ?_)
      refine Go_aload_n (pc' := 24) dX11_cellarOf_23 rfl rfl rfl ?_
      refine Go_getRs (pc' := 27) dX11_cellarOf_24 rfl kf_RX11_18 (by decide) (by decide) rfl (I.S.b 64 rfl rfl) (I.S.o 64 rfl rfl rfl) (I.S.r 64 1 rfl rfl rfl) ?_
      refine Go_iload_n (pc' := 28) dX11_cellarOf_27 rfl rfl rfl ?_
      refine Go_aaloadZ (n := 6) (k := c) (pc' := 29) dX11_cellarOf_28 rfl (I.S.b 67 rfl rfl) (I.S.k 67 rfl rfl rfl) rfl rfl (by omega) (by decide) ho ?_
      refine Go_goto (tgt := 33) dX11_cellarOf_29 (by decide) ?_
      refine Go_areturn (r := some _) dX11_cellarOf_33 rfl ?_
      refine ⟨some _, rfl, ?_⟩
      refine Go_ifnonnull (tgt := 11) dX11_own_5 (by decide) ?_
      refine Go_iconst (v := iZ 0) (pc' := 12) dX11_own_11 rfl (by decide) ?_
      refine Go_istore_n (pc' := 13) (lv' := [.ref _, .int _, .int _, un, un, un]) dX11_own_12 rfl rfl (Nat.le_of_ble_eq_true rfl) rfl rfl ?_
      refine Go_iconst (v := iZ 0) (pc' := 14) dX11_own_13 rfl (by decide) ?_
      refine Go_istore_n (pc' := 15) (lv' := [.ref _, .int _, .int _, .int _, un, un]) dX11_own_14 rfl rfl (Nat.le_of_ble_eq_true rfl) rfl rfl ?_
      refine Go_iconst (v := iZ 0) (pc' := 16) dX11_own_15 rfl (by decide) ?_
      refine Go_istore (pc' := 18) (lv' := [.ref _, .int _, .int _, .int _, .int _, un]) dX11_own_16 rfl (Nat.le_of_ble_eq_true rfl) rfl rfl ?_
      exact ow_loop I hnc ec2 ec0 hnq eq7 eq38 (by omega) nq 0 0 0 _ (Nat.zero_add nq) (by omega) (by omega) k
    · show Go G 60 0 0 M_X12_own 0 [.ref 99, .int (iZ (c : Int)), un, un, un, un] [] h K
      refine Go_aload_n (pc' := 1) dX12_own_0 rfl rfl rfl ?_
      refine Go_iload_n (pc' := 2) dX12_own_1 rfl rfl rfl ?_
      refine Go_callV_i (pc' := 5) (As := [.int _]) (st := []) dX12_own_2 rfl ok_X12_isCellar km_RX12_158 (I.S.o 99 rfl rfl rfl) (I.S.b 99 rfl rfl) ⟨_, _, rfl⟩ rfl (Nat.le_of_ble_eq_true rfl) rfl rfl rfl (Nat.le_of_ble_eq_true rfl) (Nat.lt_succ_self _) ?_
      refine Go_iload_n (pc' := 1) dX12_isCellar_0 rfl rfl rfl ?_
      refine Go_iconst (v := iZ 0) (pc' := 2) dX12_isCellar_1 rfl (by decide) ?_
      refine Go_aload_n (pc' := 3) dX12_isCellar_2 rfl rfl rfl ?_
      refine Go_getIv (v := (iZ (nc : Int))) (pc' := 6) dX12_isCellar_3 rfl kf_RX12_151 (by decide) (by decide) rfl (I.S.b 99 rfl rfl) (I.S.o 99 rfl rfl rfl) (ec0) ?_
      refine Go_iconst (v := iZ 1) (pc' := 7) dX12_isCellar_6 rfl (by decide) ?_
      refine Go_isubZ (pc' := 8) dX12_isCellar_7 rfl ?_
      refine Go_callS_i (pc' := 11) (As := [.int _, .int _, .int _]) (st := []) dX12_isCellar_8 rfl ok_X12_isIn km_RX12_147 rfl (Nat.le_of_ble_eq_true rfl) rfl rfl rfl (Nat.le_of_ble_eq_true rfl) (Nat.lt_succ_self _) ?_
      refine s_isInY (by first | exact ⟨i_lo _, i_hi _⟩ | omega) (by first | exact ⟨i_lo _, i_hi _⟩ | omega) (by first | exact ⟨i_lo _, i_hi _⟩ | omega) ?_
      refine ⟨_, rfl, ?_⟩
      refine Go_ireturn (ty := .boolean) dX12_isCellar_11 rfl b2i_nb ?_
      refine ⟨_, rfl, ?_⟩
      refine Go_if_neb (tgt := 11) (pc' := 8) dX12_own_5 (by decide) rfl (fun c5 => ?_) (fun c5 => by exfalso; omega)
      refine Go_iconst (v := iZ 0) (pc' := 12) dX12_own_11 rfl (by decide) ?_
      refine Go_istore_n (pc' := 13) (lv' := [.ref _, .int _, .int _, un, un, un]) dX12_own_12 rfl rfl (Nat.le_of_ble_eq_true rfl) rfl rfl ?_
      refine Go_iconst (v := iZ 0) (pc' := 14) dX12_own_13 rfl (by decide) ?_
      refine Go_istore_n (pc' := 15) (lv' := [.ref _, .int _, .int _, .int _, un, un]) dX12_own_14 rfl rfl (Nat.le_of_ble_eq_true rfl) rfl rfl ?_
      refine Go_iconst (v := iZ 0) (pc' := 16) dX12_own_15 rfl (by decide) ?_
      refine Go_istore (pc' := 18) (lv' := [.ref _, .int _, .int _, .int _, .int _, un]) dX12_own_16 rfl (Nat.le_of_ble_eq_true rfl) rfl rfl ?_
      exact owM_loop I hnc ec2 ec0 hnq eq7 eq38 (by omega) nq 0 0 0 _ (Nat.zero_add nq) (by omega) (by omega) k
  · refine PairI.ro' (fun _ => iZ (-1000000000)) h I (fun K k => ?_) (fun K k => ?_)
    · show Go G 60 0 0 M_X11_own 0 [.ref 64, .int (iZ Az), un, un, un, un] [] h K
      refine Go_aload_n (pc' := 1) dX11_own_0 rfl rfl rfl ?_
      refine Go_iload_n (pc' := 2) dX11_own_1 rfl rfl rfl ?_
      refine Go_callV_r (pc' := 5) (As := [.int _]) (st := []) dX11_own_2 rfl ok_X11_cellarOf km_RX11_90 (I.S.o 64 rfl rfl rfl) (I.S.b 64 rfl rfl) ⟨_, _, rfl⟩ rfl (Nat.le_of_ble_eq_true rfl) rfl rfl rfl (Nat.le_of_ble_eq_true rfl) (Nat.lt_succ_self _) ?_
      refine Go_iload_n (pc' := 1) dX11_cellarOf_0 rfl rfl rfl ?_
      refine Go_iconst (v := iZ 0) (pc' := 2) dX11_cellarOf_1 rfl (by decide) ?_
      refine Go_aload_n (pc' := 3) dX11_cellarOf_2 rfl rfl rfl ?_
      refine Go_getIv (v := (iZ (nc : Int))) (pc' := 6) dX11_cellarOf_3 rfl kf_RX11_84 (by decide) (by decide) rfl (I.S.b 64 rfl rfl) (I.S.o 64 rfl rfl rfl) (ec2) ?_
      refine Go_iconst (v := iZ 1) (pc' := 7) dX11_cellarOf_6 rfl (by decide) ?_
      refine Go_isubZ (pc' := 8) dX11_cellarOf_7 rfl ?_
      refine Go_callS_i (pc' := 11) (As := [.int _, .int _, .int _]) (st := []) dX11_cellarOf_8 rfl ok_X11_within km_RX11_94 rfl (Nat.le_of_ble_eq_true rfl) rfl rfl rfl (Nat.le_of_ble_eq_true rfl) (Nat.lt_succ_self _) ?_
      refine s_withinY (by first | exact ⟨i_lo _, i_hi _⟩ | omega) (by first | exact ⟨i_lo _, i_hi _⟩ | omega) (by first | exact ⟨i_lo _, i_hi _⟩ | omega) ?_
      refine ⟨_, rfl, ?_⟩
      refine Go_if_eqb (tgt := 32) (pc' := 14) dX11_cellarOf_11 (by decide) rfl (fun q11 => ?_) (fun q11 => by exfalso; omega)
      refine Go_null (pc' := 33) dX11_cellarOf_32 rfl ?_
      refine Go_areturn (r := none) dX11_cellarOf_33 rfl ?_
      refine ⟨none, rfl, ?_⟩
      refine Go_ifnonnullN (pc' := 8) dX11_own_5 rfl ?_
      refine Go_ldcZ (X := (-1000000000)) (pc' := 10) dX11_own_8 rfl kn_RX11_110 (by decide) ?_
      refine Go_ireturn (ty := .int) dX11_own_10 rfl rfl ?_
      exact k
    · show Go G 60 0 0 M_X12_own 0 [.ref 99, .int (iZ Az), un, un, un, un] [] h K
      refine Go_aload_n (pc' := 1) dX12_own_0 rfl rfl rfl ?_
      refine Go_iload_n (pc' := 2) dX12_own_1 rfl rfl rfl ?_
      refine Go_callV_i (pc' := 5) (As := [.int _]) (st := []) dX12_own_2 rfl ok_X12_isCellar km_RX12_158 (I.S.o 99 rfl rfl rfl) (I.S.b 99 rfl rfl) ⟨_, _, rfl⟩ rfl (Nat.le_of_ble_eq_true rfl) rfl rfl rfl (Nat.le_of_ble_eq_true rfl) (Nat.lt_succ_self _) ?_
      refine Go_iload_n (pc' := 1) dX12_isCellar_0 rfl rfl rfl ?_
      refine Go_iconst (v := iZ 0) (pc' := 2) dX12_isCellar_1 rfl (by decide) ?_
      refine Go_aload_n (pc' := 3) dX12_isCellar_2 rfl rfl rfl ?_
      refine Go_getIv (v := (iZ (nc : Int))) (pc' := 6) dX12_isCellar_3 rfl kf_RX12_151 (by decide) (by decide) rfl (I.S.b 99 rfl rfl) (I.S.o 99 rfl rfl rfl) (ec0) ?_
      refine Go_iconst (v := iZ 1) (pc' := 7) dX12_isCellar_6 rfl (by decide) ?_
      refine Go_isubZ (pc' := 8) dX12_isCellar_7 rfl ?_
      refine Go_callS_i (pc' := 11) (As := [.int _, .int _, .int _]) (st := []) dX12_isCellar_8 rfl ok_X12_isIn km_RX12_147 rfl (Nat.le_of_ble_eq_true rfl) rfl rfl rfl (Nat.le_of_ble_eq_true rfl) (Nat.lt_succ_self _) ?_
      refine s_isInY (by first | exact ⟨i_lo _, i_hi _⟩ | omega) (by first | exact ⟨i_lo _, i_hi _⟩ | omega) (by first | exact ⟨i_lo _, i_hi _⟩ | omega) ?_
      refine ⟨_, rfl, ?_⟩
      refine Go_ireturn (ty := .boolean) dX12_isCellar_11 rfl b2i_nb ?_
      refine ⟨_, rfl, ?_⟩
      refine Go_if_neb (tgt := 11) (pc' := 8) dX12_own_5 (by decide) rfl (fun c5 => by exfalso; omega) (fun c5 => ?_)
      refine Go_ldcZ (X := (-1000000000)) (pc' := 10) dX12_own_8 rfl kn_RX12_162 (by decide) ?_
      refine Go_ireturn (ty := .int) dX12_own_10 rfl rfl ?_
      exact k
