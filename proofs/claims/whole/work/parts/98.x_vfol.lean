/-! the class takes a token: brackets, ends of lines -/
theorem zrk_wt {c : Int} (h : 1 ≤ zrk c) : zwt c ∧ c ≠ 140 := by
  unfold zrk at h
  by_cases h1 : c = 4
  · omega
  · by_cases h2 : c = 5
    · omega
    · by_cases h3 : c = 6
      · omega
      · rw [if_neg h1, if_neg h2, if_neg h3] at h
        by_cases h4 : c = 160 ∨ c = 161 ∨ c = 162
        · omega
        · by_cases h5 : c = 143 ∨ c = 145
          · omega
          · by_cases h6 : c = 142 ∨ c = 147
            · omega
            · rw [if_neg h4, if_neg h5, if_neg h6] at h; omega
theorem zrk_0 {t : Int} (h : zwt t) (h1 : ¬ 1 ≤ zrk t) : t = 140 := by
  rcases h with rfl | rfl | rfl | rfl | rfl | rfl | rfl | rfl | rfl | rfl | rfl
  all_goals first | rfl | exact absurd (by decide) h1
theorem zrel_br {r : Int} (hr : 1 ≤ r) : ∀ (W : List Int) (o : List Int32), (∀ t ∈ W, zwt t) → zbr (zrel r W o).1 = zbr W ∧ (∀ t ∈ (zrel r W o).1, zwt t) ∧ ((zrel r W o).1 = [] ∨ ∃ t W', (zrel r W o).1 = t :: W' ∧ ¬ r ≤ zrk t)
  | [], o, h => ⟨rfl, h, Or.inl rfl⟩
  | t :: W, o, h => by
    by_cases e : r ≤ zrk t
    · rw [zrel_t e]
      have ih := zrel_br hr W (zadd o (iZ (10000 + t))) (fun x hx => h x (List.mem_cons_of_mem _ hx))
      refine ⟨ih.1.trans ?_, ih.2⟩
      show _ = zbr W + (if t = 140 then 1 else 0)
      rw [if_neg (zrk_wt (by omega)).2, Int.add_zero]
    · rw [zrel_f e]
      exact ⟨rfl, h, Or.inr ⟨t, W, rfl, e⟩⟩
theorem WaiE.popB {H : HS} {W : List Int} {a b c : Int32} (E : WaiE H (140 :: W)) (ha : a = iZ (W.length : Int)) (hb : b = iZ (zop W)) (hc : c = iZ (zbr W)) : WaiE (wI (wI (wI H 71 10 a) 71 11 b) 71 12 c) W := by
  obtain ⟨a1, a2, a3, a4, a5, a6⟩ := E
  rw [List.length_cons] at a2
  refine ⟨by rw [vi_skip (by decide), vi_skip (by decide), vi_same]; exact ha, by omega, fun k hk => ?_, by rw [vi_skip (by decide), vi_same]; exact hb, by rw [vi_same]; exact hc, fun x hx => a6 x (List.mem_cons_of_mem _ hx)⟩
  rw [vi_skip (by omega), vi_skip (by omega), vi_skip (by omega), a3 k (by rw [List.length_cons]; omega), List.length_cons, show W.length + 1 - 1 - k = (W.length - 1 - k) + 1 by omega, List.getD_cons_succ]
def zclose (s : St6) : Int × St6 := (0, (6, s.2.1, s.2.2.1, (zrel 1 s.2.2.2.1 s.2.2.2.2.1).1.tail, (zrel 1 s.2.2.2.1 s.2.2.2.2.1).2, s.2.2.2.2.2))
def zline (s : St6) : Int × St6 := (0, (0, s.2.1, s.2.2.1, (zrel 1 s.2.2.2.1 s.2.2.2.2.1).1, zadd (zrel 1 s.2.2.2.1 s.2.2.2.2.1).2 (iZ (20000 + s.2.1)), s.2.2.2.2.2 + 1))

set_option maxRecDepth 20000 in
set_option maxHeartbeats 1000000 in
theorem s_close {G : GC} {d mc ms : Nat} {H : HS} {K : Option Value → HS → Prop} {q : Nat} {s : St6} {c v pl : Int} (S : Shp H) (QP : QPr H q) (hq : q = 74 ∨ q = 77) (hr : ri H 71 16 = some q) (R : RS6 H q s) (e3 : vi H 71 3 = iZ c) (hc : -2147483648 ≤ c ∧ c < 2147483648) (e4 : vi H 71 4 = iZ pl) (e5 : c = 20 → vi H 71 5 = iZ v) (hb : 0 < zbr s.2.2.2.1) (hk : ∀ H', TKp H H' q (zclose s) pl → K none H') : Go G (d + 2) mc ms M_X9_closeBracket 0 [.ref 71] [] H K := by
  obtain ⟨z1, z2, z3⟩ := zrel_br (r := 1) (by omega) s.2.2.2.1 s.2.2.2.2.1 R.2.2.2.1.2.2.2.2.2
  refine Go_aload_n (pc' := 1) dX9_closeBracket_0 rfl rfl rfl ?_
  refine Go_iconst (v := iZ 1) (pc' := 2) dX9_closeBracket_1 rfl (by decide) ?_
  refine Go_callV_v (pc' := 5) (As := [.int _]) (st := []) dX9_closeBracket_2 rfl ok_X9_release km_RX9_123 (S.o 71 rfl rfl rfl) (S.b 71 rfl rfl) ⟨_, _, rfl⟩ rfl (Nat.le_of_ble_eq_true rfl) rfl rfl rfl (Nat.le_of_ble_eq_true rfl) (Nat.lt_succ_self _) ?_
  refine s_rel (r := 1) S QP hq hr R.2.2.2.2.1 R.2.2.2.1 (by omega) (fun H1 D1 O1 WE1 => ?_)
  refine ⟨rfl, ?_⟩
  have S1 := D1.shp S
  obtain ⟨W1, ew⟩ : ∃ W1, (zrel 1 s.2.2.2.1 s.2.2.2.2.1).1 = 140 :: W1 := by
    rcases z3 with z | ⟨t, W1, z, zt⟩
    · rw [z] at z1; have : zbr ([] : List Int) = 0 := rfl; omega
    · exact ⟨W1, by rw [z, zrk_0 (z2 t (by rw [z]; exact List.mem_cons_self)) zt]⟩
  rw [ew] at WE1
  have wl := WE1.2.1
  rw [List.length_cons] at wl
  have zo := zop_r W1
  have zb := zbr_r W1
  have eo : zop (140 :: W1) = zop W1 + 1 := rfl
  have eb : zbr (140 :: W1) = zbr W1 + 1 := rfl
  have el : ((140 :: W1 : List Int).length : Int) = (W1.length : Int) + 1 := rfl
  refine Go_aload_n (pc' := 6) dX9_closeBracket_5 rfl rfl rfl ?_
  refine Go_getIv (v := (iZ ((140 :: W1 : List Int).length : Int))) (pc' := 9) dX9_closeBracket_6 rfl kf_RX9_59 (by decide) (by decide) rfl (S1.b 71 rfl rfl) (S1.o 71 rfl rfl rfl) ((WE1.1)) ?_
  refine Go_if_leY (tgt := 42) (pc' := 12) dX9_closeBracket_9 (by decide) rfl (by first | exact ⟨i_lo _, i_hi _⟩ | omega) (fun c9 => by exfalso; omega) (fun c9 => ?_)
  refine Go_aload_n (pc' := 13) dX9_closeBracket_12 rfl rfl rfl ?_
  refine Go_dup (pc' := 14) dX9_closeBracket_13 rfl rfl ?_
  refine Go_getIv (v := (iZ ((140 :: W1 : List Int).length : Int))) (pc' := 17) dX9_closeBracket_14 rfl kf_RX9_59 (by decide) (by decide) rfl (S1.b 71 rfl rfl) (S1.o 71 rfl rfl rfl) ((WE1.1)) ?_
  refine Go_iconst (v := iZ 1) (pc' := 18) dX9_closeBracket_17 rfl (by decide) ?_
  refine Go_isubZ (pc' := 19) dX9_closeBracket_18 rfl ?_
  refine Go_putI (pc' := 22) dX9_closeBracket_19 rfl kf_RX9_59 (by decide) (by decide) rfl (S1.b 71 rfl rfl) (S1.o 71 rfl rfl rfl) (Or.inl rfl) rfl rfl ?_
  refine Go_aload_n (pc' := 23) dX9_closeBracket_22 rfl rfl rfl ?_
  refine Go_dup (pc' := 24) dX9_closeBracket_23 rfl rfl ?_
  refine Go_getIv (v := (iZ (zop (140 :: W1)))) (pc' := 27) dX9_closeBracket_24 rfl kf_RX9_62 (by decide) (by decide) rfl (S1.b 71 rfl rfl) (S1.o 71 rfl rfl rfl) ((vi_skip (Or.inr (by decide))).trans (WE1.2.2.2.1)) ?_
  refine Go_iconst (v := iZ 1) (pc' := 28) dX9_closeBracket_27 rfl (by decide) ?_
  refine Go_isubZ (pc' := 29) dX9_closeBracket_28 rfl ?_
  refine Go_putI (pc' := 32) dX9_closeBracket_29 rfl kf_RX9_62 (by decide) (by decide) rfl (S1.b 71 rfl rfl) (S1.o 71 rfl rfl rfl) (Or.inl rfl) rfl rfl ?_
  refine Go_aload_n (pc' := 33) dX9_closeBracket_32 rfl rfl rfl ?_
  refine Go_dup (pc' := 34) dX9_closeBracket_33 rfl rfl ?_
  refine Go_getIv (v := (iZ (zbr (140 :: W1)))) (pc' := 37) dX9_closeBracket_34 rfl kf_RX9_65 (by decide) (by decide) rfl (S1.b 71 rfl rfl) (S1.o 71 rfl rfl rfl) ((vi_skip (Or.inr (by decide))).trans ((vi_skip (Or.inr (by decide))).trans (WE1.2.2.2.2.1))) ?_
  refine Go_iconst (v := iZ 1) (pc' := 38) dX9_closeBracket_37 rfl (by decide) ?_
  refine Go_isubZ (pc' := 39) dX9_closeBracket_38 rfl ?_
  refine Go_putI (pc' := 42) dX9_closeBracket_39 rfl kf_RX9_65 (by decide) (by decide) rfl (S1.b 71 rfl rfl) (S1.o 71 rfl rfl rfl) (Or.inl rfl) rfl rfl ?_
  refine Go_aload_n (pc' := 43) dX9_closeBracket_42 rfl rfl rfl ?_
  refine Go_bipush (v := iZ 6) (pc' := 45) dX9_closeBracket_43 rfl (by decide) ?_
  refine Go_putI (pc' := 48) dX9_closeBracket_45 rfl kf_RX9_47 (by decide) (by decide) rfl (S1.b 71 rfl rfl) (S1.o 71 rfl rfl rfl) (Or.inl rfl) rfl rfl ?_
  refine Go_return dX9_closeBracket_48 rfl ?_
  have T := TKp.joint (nx := 6) (pl := pl) (W := W1) R hq D1 O1 (DX.wI (DX.wI (DX.wI (DX.rf Ph H1) (by unfold Ph; omega)) (by unfold Ph; omega)) (by unfold Ph; omega)) (WE1.popB (a := (iZ (((140 :: W1 : List Int).length : Int) - 1))) (b := (iZ ((zop (140 :: W1)) - 1))) (c := (iZ ((zbr (140 :: W1)) - 1))) (congrArg iZ (by omega)) (congrArg iZ (by omega)) (congrArg iZ (by omega)))
  refine hk _ ?_
  unfold zclose
  rw [ew]
  exact T
