/-! the class reads rules: what its automaton does with a token -/
/-- how strongly an operator binds -/
def zrk (c : Int) : Int := if c = 4 then 1 else if c = 5 then 2 else if c = 6 then 3 else if c = 160 ∨ c = 161 ∨ c = 162 then 4 else if c = 143 ∨ c = 145 then 5 else if c = 142 ∨ c = 147 then 6 else 0
abbrev zwt (c : Int) : Prop := c = 4 ∨ c = 5 ∨ c = 6 ∨ c = 140 ∨ c = 142 ∨ c = 143 ∨ c = 145 ∨ c = 147 ∨ c = 160 ∨ c = 161 ∨ c = 162
theorem zrk_r (c : Int) : 0 ≤ zrk c ∧ zrk c ≤ 6 := by
  unfold zrk
  (repeat' split) <;> omega
def zpsh (W : List Int) (c : Int) : List Int := if W.length < 40 then c :: W else W
def zadd (o : List Int32) (v : Int32) : List Int32 := if o.length < 600 then o ++ [v] else o
def zrel (r : Int) : List Int → List Int32 → List Int × List Int32
  | [], o => ([], o)
  | t :: W, o => if r ≤ zrk t then zrel r W (zadd o (iZ (10000 + t))) else (t :: W, o)
theorem zrel_t {r t : Int} {W : List Int} {o : List Int32} (h : r ≤ zrk t) : zrel r (t :: W) o = zrel r W (zadd o (iZ (10000 + t))) := by show (if _ then _ else _) = _; rw [if_pos h]
theorem zrel_f {r t : Int} {W : List Int} {o : List Int32} (h : ¬ r ≤ zrk t) : zrel r (t :: W) o = (t :: W, o) := by show (if _ then _ else _) = _; rw [if_neg h]
def zop : List Int → Int
  | [] => 0
  | t :: W => zop W + (if t = 6 ∨ t = 140 then 1 else 0)
def zbr : List Int → Int
  | [] => 0
  | t :: W => zbr W + (if t = 140 then 1 else 0)
theorem zop_r : ∀ W : List Int, 0 ≤ zop W ∧ zop W ≤ W.length
  | [] => ⟨Int.le_refl _, Int.le_refl _⟩
  | t :: W => by
    have := zop_r W
    show 0 ≤ zop W + _ ∧ zop W + _ ≤ ((W.length + 1 : Nat) : Int)
    split <;> omega
theorem zbr_r : ∀ W : List Int, 0 ≤ zbr W ∧ zbr W ≤ W.length
  | [] => ⟨Int.le_refl _, Int.le_refl _⟩
  | t :: W => by
    have := zbr_r W
    show 0 ≤ zbr W + _ ∧ zbr W + _ ≤ ((W.length + 1 : Nat) : Int)
    split <;> omega
/-- the draft's codes; what waits -/
def OutE (H : HS) (q : Nat) (o : List Int32) : Prop := vi H q 1 = iZ (o.length : Int) ∧ o.length ≤ 600 ∧ ∀ i, i < o.length → vi H (q + 1) i = o.getD i 0
def WaiE (H : HS) (W : List Int) : Prop := vi H 71 10 = iZ (W.length : Int) ∧ W.length ≤ 40 ∧ (∀ k, k < W.length → vi H 73 k = iZ (W.getD (W.length - 1 - k) 0)) ∧ vi H 71 11 = iZ (zop W) ∧ vi H 71 12 = iZ (zbr W) ∧ ∀ t ∈ W, zwt t
abbrev Pa (q i k : Nat) : Prop := (i = q ∧ k = 1) ∨ i = q + 1
abbrev Pr (q i k : Nat) : Prop := (i = q ∧ k = 1) ∨ i = q + 1 ∨ (i = 71 ∧ (k = 10 ∨ k = 11))
abbrev Ph (i k : Nat) : Prop := i = 73 ∨ (i = 71 ∧ (k = 10 ∨ k = 11 ∨ k = 12))
theorem OutE.dx {P : Nat → Nat → Prop} {H H' : HS} {q : Nat} {o : List Int32} (E : OutE H q o) (D : DX P H H') (h1 : ¬ P q 1) (h2 : ∀ i, ¬ P (q + 1) i) : OutE H' q o :=
  ⟨(D.2.2.2 _ _ h1).trans E.1, E.2.1, fun i hi => (D.2.2.2 _ _ (h2 i)).trans (E.2.2 i hi)⟩
theorem WaiE.dx {P : Nat → Nat → Prop} {H H' : HS} {W : List Int} (E : WaiE H W) (D : DX P H H') (h1 : ∀ k, ¬ P 73 k) (h2 : ¬ P 71 10) (h3 : ¬ P 71 11) (h4 : ¬ P 71 12) : WaiE H' W :=
  ⟨(D.2.2.2 _ _ h2).trans E.1, E.2.1, fun k hk => (D.2.2.2 _ _ (h1 k)).trans (E.2.2.1 k hk), (D.2.2.2 _ _ h3).trans E.2.2.2.1, (D.2.2.2 _ _ h4).trans E.2.2.2.2.1, E.2.2.2.2.2⟩
theorem OutE.put {H : HS} {q : Nat} {o : List Int32} {v : Int32} (E : OutE H q o) (h : o.length < 600) : OutE (wI (wI H (q + 1) o.length v) q 1 (iZ ((o.length : Int) + 1))) q (o ++ [v]) := by
  refine ⟨by rw [vi_same, List.length_append]; rfl, by rw [List.length_append]; show o.length + 1 ≤ 600; omega, fun i hi => ?_⟩
  rw [List.length_append] at hi
  have hi : i < o.length + 1 := hi
  rw [vi_skip (by omega)]
  by_cases c : i = o.length
  · subst c
    rw [vi_same, List.getD_eq_getElem?_getD, List.getElem?_append_right (Nat.le_refl _), Nat.sub_self]; rfl
  · rw [vi_skip (by omega), E.2.2 i (by omega), List.getD_eq_getElem?_getD, List.getD_eq_getElem?_getD, List.getElem?_append_left (by omega)]

set_option maxRecDepth 20000 in
set_option maxHeartbeats 1000000 in
theorem s_rank {G : GC} {d mc ms : Nat} {H : HS} {K : Option Value → HS → Prop} {c : Int} (hc : -2147483648 ≤ c ∧ c < 2147483648) (hk : K (some (.int (iZ (zrk c)))) H) : Go G d mc ms M_X9_rankOf 0 [.int (iZ c)] [] H K := by
  rcases (show c = 4 ∨ c = 5 ∨ c = 6 ∨ c = 142 ∨ c = 143 ∨ c = 145 ∨ c = 147 ∨ c = 160 ∨ c = 161 ∨ c = 162 ∨ (c ≠ 4 ∧ c ≠ 5 ∧ c ≠ 6 ∧ c ≠ 142 ∧ c ≠ 143 ∧ c ≠ 145 ∧ c ≠ 147 ∧ c ≠ 160 ∧ c ≠ 161 ∧ c ≠ 162) by omega) with rfl | rfl | rfl | rfl | rfl | rfl | rfl | rfl | rfl | rfl | hn
  · refine Go_iload_n (pc' := 1) dX9_rankOf_0 rfl rfl rfl ?_
    refine Go_lookup (off := 91) (tgt := 92) dX9_rankOf_1 (by decide) (by decide) (by decide) ?_
    refine Go_iconst (v := iZ 1) (pc' := 93) dX9_rankOf_92 rfl (by decide) ?_
    refine Go_ireturn (ty := .int) dX9_rankOf_93 rfl rfl ?_
    exact hk
  · refine Go_iload_n (pc' := 1) dX9_rankOf_0 rfl rfl rfl ?_
    refine Go_lookup (off := 93) (tgt := 94) dX9_rankOf_1 (by decide) (by decide) (by decide) ?_
    refine Go_iconst (v := iZ 2) (pc' := 95) dX9_rankOf_94 rfl (by decide) ?_
    refine Go_ireturn (ty := .int) dX9_rankOf_95 rfl rfl ?_
    exact hk
  · refine Go_iload_n (pc' := 1) dX9_rankOf_0 rfl rfl rfl ?_
    refine Go_lookup (off := 95) (tgt := 96) dX9_rankOf_1 (by decide) (by decide) (by decide) ?_
    refine Go_iconst (v := iZ 3) (pc' := 97) dX9_rankOf_96 rfl (by decide) ?_
    refine Go_ireturn (ty := .int) dX9_rankOf_97 rfl rfl ?_
    exact hk
  · refine Go_iload_n (pc' := 1) dX9_rankOf_0 rfl rfl rfl ?_
    refine Go_lookup (off := 101) (tgt := 102) dX9_rankOf_1 (by decide) (by decide) (by decide) ?_
    refine Go_bipush (v := iZ 6) (pc' := 104) dX9_rankOf_102 rfl (by decide) ?_
    refine Go_ireturn (ty := .int) dX9_rankOf_104 rfl rfl ?_
    exact hk
  · refine Go_iload_n (pc' := 1) dX9_rankOf_0 rfl rfl rfl ?_
    refine Go_lookup (off := 99) (tgt := 100) dX9_rankOf_1 (by decide) (by decide) (by decide) ?_
    refine Go_iconst (v := iZ 5) (pc' := 101) dX9_rankOf_100 rfl (by decide) ?_
    refine Go_ireturn (ty := .int) dX9_rankOf_101 rfl rfl ?_
    exact hk
  · refine Go_iload_n (pc' := 1) dX9_rankOf_0 rfl rfl rfl ?_
    refine Go_lookup (off := 99) (tgt := 100) dX9_rankOf_1 (by decide) (by decide) (by decide) ?_
    refine Go_iconst (v := iZ 5) (pc' := 101) dX9_rankOf_100 rfl (by decide) ?_
    refine Go_ireturn (ty := .int) dX9_rankOf_101 rfl rfl ?_
    exact hk
  · refine Go_iload_n (pc' := 1) dX9_rankOf_0 rfl rfl rfl ?_
    refine Go_lookup (off := 101) (tgt := 102) dX9_rankOf_1 (by decide) (by decide) (by decide) ?_
    refine Go_bipush (v := iZ 6) (pc' := 104) dX9_rankOf_102 rfl (by decide) ?_
    refine Go_ireturn (ty := .int) dX9_rankOf_104 rfl rfl ?_
    exact hk
  · refine Go_iload_n (pc' := 1) dX9_rankOf_0 rfl rfl rfl ?_
    refine Go_lookup (off := 97) (tgt := 98) dX9_rankOf_1 (by decide) (by decide) (by decide) ?_
    refine Go_iconst (v := iZ 4) (pc' := 99) dX9_rankOf_98 rfl (by decide) ?_
    refine Go_ireturn (ty := .int) dX9_rankOf_99 rfl rfl ?_
    exact hk
  · refine Go_iload_n (pc' := 1) dX9_rankOf_0 rfl rfl rfl ?_
    refine Go_lookup (off := 97) (tgt := 98) dX9_rankOf_1 (by decide) (by decide) (by decide) ?_
    refine Go_iconst (v := iZ 4) (pc' := 99) dX9_rankOf_98 rfl (by decide) ?_
    refine Go_ireturn (ty := .int) dX9_rankOf_99 rfl rfl ?_
    exact hk
  · refine Go_iload_n (pc' := 1) dX9_rankOf_0 rfl rfl rfl ?_
    refine Go_lookup (off := 97) (tgt := 98) dX9_rankOf_1 (by decide) (by decide) (by decide) ?_
    refine Go_iconst (v := iZ 4) (pc' := 99) dX9_rankOf_98 rfl (by decide) ?_
    refine Go_ireturn (ty := .int) dX9_rankOf_99 rfl rfl ?_
    exact hk
  · have e0 : zrk c = 0 := by unfold zrk; rw [if_neg (by omega), if_neg (by omega), if_neg (by omega), if_neg (by omega), if_neg (by omega), if_neg (by omega)]
    rw [e0] at hk
    refine Go_iload_n (pc' := 1) dX9_rankOf_0 rfl rfl rfl ?_
    refine Go_lookup (off := 104) (tgt := 105) dX9_rankOf_1 (by decide) ?_ (by decide) ?_
    · rw [iZ_t hc]
      obtain ⟨n1, n2, n3, n4, n5, n6, n7, n8, n9, n10⟩ := hn
      simp [Op.lookupswitch.offset, Ne.symm n1, Ne.symm n2, Ne.symm n3, Ne.symm n4, Ne.symm n5, Ne.symm n6, Ne.symm n7, Ne.symm n8, Ne.symm n9, Ne.symm n10]
    · refine Go_iconst (v := iZ 0) (pc' := 106) dX9_rankOf_105 rfl (by decide) ?_
      refine Go_ireturn (ty := .int) dX9_rankOf_106 rfl rfl ?_
      exact hk
set_option maxRecDepth 20000 in
set_option maxHeartbeats 1000000 in
theorem s_add {G : GC} {d mc ms : Nat} {H : HS} {K : Option Value → HS → Prop} {q : Nat} {o : List Int32} {v : Int32} (QP : QPr H q) (OE : OutE H q o) (hk : ∀ H', DX (Pa q) H H' → OutE H' q (zadd o v) → K none H') : Go G d mc ms M_X8_add 0 [.ref q, .int v] [] H K := by
  obtain ⟨e1, hl, eo⟩ := id OE
  refine Go_aload_n (pc' := 1) dX8_add_0 rfl rfl rfl ?_
  refine Go_getIv (v := (iZ (o.length : Int))) (pc' := 4) dX8_add_1 rfl kf_RX8_18 (by decide) (by decide) rfl QP.1 QP.2.1 (e1) ?_
  refine Go_aload_n (pc' := 5) dX8_add_4 rfl rfl rfl ?_
  refine Go_getRs (pc' := 8) dX8_add_5 rfl kf_RX8_9 (by decide) (by decide) rfl QP.1 QP.2.1 QP.2.2.1 ?_
  refine Go_alenZ (n := 600) (pc' := 9) dX8_add_8 rfl QP.2.2.2.2.1 QP.2.2.2.2.2.1 (Or.inl rfl) ?_
  refine Go_icmp_geY (tgt := 32) (pc' := 12) dX8_add_9 (by decide) rfl (by first | exact ⟨i_lo _, i_hi _⟩ | omega) (by first | exact ⟨i_lo _, i_hi _⟩ | omega) (fun c9 => ?_) (fun c9 => ?_)
  · refine Go_return dX8_add_32 rfl ?_
    have e : zadd o v = o := if_neg (by omega)
    exact hk _ (DX.rf _ _) (by rw [e]; exact OE)
  · refine Go_aload_n (pc' := 13) dX8_add_12 rfl rfl rfl ?_
    refine Go_getRs (pc' := 16) dX8_add_13 rfl kf_RX8_9 (by decide) (by decide) rfl QP.1 QP.2.1 QP.2.2.1 ?_
    refine Go_aload_n (pc' := 17) dX8_add_16 rfl rfl rfl ?_
    refine Go_getIv (v := (iZ (o.length : Int))) (pc' := 20) dX8_add_17 rfl kf_RX8_18 (by decide) (by decide) rfl QP.1 QP.2.1 (e1) ?_
    refine Go_iload_n (pc' := 21) dX8_add_20 rfl rfl rfl ?_
    refine Go_iastoreZ (n := 600) (k := o.length) (pc' := 22) dX8_add_21 rfl QP.2.2.2.2.1 QP.2.2.2.2.2.1 rfl (by omega) (by decide) ?_
    refine Go_aload_n (pc' := 23) dX8_add_22 rfl rfl rfl ?_
    refine Go_dup (pc' := 24) dX8_add_23 rfl rfl ?_
    refine Go_getIv (v := (iZ (o.length : Int))) (pc' := 27) dX8_add_24 rfl kf_RX8_18 (by decide) (by decide) rfl QP.1 QP.2.1 ((vi_skip (Or.inl (by omega))).trans (e1)) ?_
    refine Go_iconst (v := iZ 1) (pc' := 28) dX8_add_27 rfl (by decide) ?_
    refine Go_iaddZ (pc' := 29) dX8_add_28 rfl ?_
    refine Go_putI (pc' := 32) dX8_add_29 rfl kf_RX8_18 (by decide) (by decide) rfl QP.1 QP.2.1 (Or.inl rfl) rfl rfl ?_
    refine Go_return dX8_add_32 rfl ?_
    have e : zadd o v = o ++ [v] := if_pos (by omega)
    exact hk _ (((DX.rf _ _).wI (by unfold Pa; omega)).wI (by unfold Pa; omega)) (by rw [e]; exact OE.put (by omega))
theorem DX.qp {P : Nat → Nat → Prop} {H H' : HS} {q : Nat} (D : DX P H H') (QP : QPr H q) : QPr H' q := by
  unfold QPr at QP ⊢
  rw [D.1, D.2.1, D.2.1, D.2.1, D.2.2.1, D.2.2.1]; exact QP
theorem WaiE.pop {H : HS} {t : Int} {W : List Int} {v : Int32} (E : WaiE H (t :: W)) (h11 : v = iZ (zop W)) (hb : t ≠ 140) : WaiE (wI (wI H 71 11 v) 71 10 (iZ (W.length : Int))) W := by
  obtain ⟨a1, a2, a3, a4, a5, a6⟩ := E
  rw [List.length_cons] at a2
  refine ⟨vi_same, by omega, fun k hk => ?_, by rw [vi_skip (by decide), vi_same]; exact h11, ?_, fun x hx => a6 x (List.mem_cons_of_mem _ hx)⟩
  · rw [vi_skip (by omega), vi_skip (by omega), a3 k (by rw [List.length_cons]; omega), List.length_cons, show W.length + 1 - 1 - k = (W.length - 1 - k) + 1 by omega, List.getD_cons_succ]
  · rw [vi_skip (by decide), vi_skip (by decide), a5]
    show iZ (zbr W + (if t = 140 then 1 else 0)) = _
    rw [if_neg hb, Int.add_zero]
set_option maxRecDepth 20000 in
set_option maxHeartbeats 2000000 in
theorem rl_loop {G : GC} {d mc ms : Nat} {K : Option Value → HS → Prop} {q : Nat} {r : Int} (hq : q = 74 ∨ q = 77) (hr1 : 1 ≤ r ∧ r ≤ 6) : ∀ (W : List Int) (o : List Int32) (H : HS) (x : Int), x = (W.length : Int) - 1 → Shp H → QPr H q → ri H 71 16 = some q → OutE H q o → WaiE H W → (∀ H', DX (Pr q) H H' → OutE H' q (zrel r W o).2 → WaiE H' (zrel r W o).1 → K none H') → Go G (d + 1) mc ms M_X9_release 7 [.ref 71, .int (iZ r), .int (iZ x)] [] H K := by
  intro W
  induction W with
  | nil =>
    intro o H x hx S QP hr OE WE hk
    have hx : x = -1 := by rw [hx]; rfl
    refine Go_iload_n (pc' := 8) dX9_release_7 rfl rfl rfl ?_
    refine Go_if_ltY (tgt := 77) (pc' := 11) dX9_release_8 (by decide) rfl (by first | exact ⟨i_lo _, i_hi _⟩ | omega) (fun c8 => ?_) (fun c8 => by exfalso; omega)
    refine Go_return dX9_release_77 rfl ?_
    exact hk H (DX.rf _ _) OE WE
  | cons t W ih =>
    intro o H x hx S QP hr OE WE hk
    rw [List.length_cons] at hx
    obtain ⟨a1, a2, a3, a4, a5, a6⟩ := id WE
    rw [List.length_cons] at a2
    have at_ : vi H 73 W.length = iZ t := by
      have := a3 W.length (by simp)
      rw [this, List.length_cons, show W.length + 1 - 1 - W.length = 0 by omega]; rfl
    have tw := a6 t List.mem_cons_self
    have rr := zrk_r t
    have zr := zop_r W
    refine Go_iload_n (pc' := 8) dX9_release_7 rfl rfl rfl ?_
    refine Go_if_ltY (tgt := 77) (pc' := 11) dX9_release_8 (by decide) rfl (by first | exact ⟨i_lo _, i_hi _⟩ | omega) (fun c8 => by exfalso; omega) (fun c8 => ?_)
    refine Go_aload_n (pc' := 12) dX9_release_11 rfl rfl rfl ?_
    refine Go_getRs (pc' := 15) dX9_release_12 rfl kf_RX9_15 (by decide) (by decide) rfl (S.b 71 rfl rfl) (S.o 71 rfl rfl rfl) (S.r 71 9 rfl rfl rfl) ?_
    refine Go_iload_n (pc' := 16) dX9_release_15 rfl rfl rfl ?_
    refine Go_ialoadZ (n := 40) (k := W.length) (v := (iZ t)) (pc' := 17) dX9_release_16 rfl (S.b 73 rfl rfl) (S.k 73 rfl rfl rfl) (by omega) (by omega) (by decide) (at_) ?_
    refine Go_callS_i (pc' := 20) (As := [.int _]) (st := []) dX9_release_17 rfl ok_X9_rankOf km_RX9_112 rfl (Nat.le_of_ble_eq_true rfl) rfl rfl rfl (Nat.le_of_ble_eq_true rfl) (Nat.lt_succ_self _) ?_
    refine s_rank (by omega) ?_
    refine ⟨_, rfl, ?_⟩
    refine Go_iload_n (pc' := 21) dX9_release_20 rfl rfl rfl ?_
    refine Go_icmp_ltY (tgt := 77) (pc' := 24) dX9_release_21 (by decide) rfl (by first | exact ⟨i_lo _, i_hi _⟩ | omega) (by first | exact ⟨i_lo _, i_hi _⟩ | omega) (fun c21 => ?_) (fun c21 => ?_)
    · refine Go_return dX9_release_77 rfl ?_
      rw [zrel_f (by omega)] at hk
      exact hk H (DX.rf _ _) OE WE
    · refine Go_aload_n (pc' := 25) dX9_release_24 rfl rfl rfl ?_
      refine Go_getRs (pc' := 28) dX9_release_25 rfl kf_RX9_29 (by decide) (by decide) rfl (S.b 71 rfl rfl) (S.o 71 rfl rfl rfl) hr ?_
      refine Go_sipush (v := iZ 10000) (pc' := 31) dX9_release_28 rfl (by decide) ?_
      refine Go_aload_n (pc' := 32) dX9_release_31 rfl rfl rfl ?_
      refine Go_getRs (pc' := 35) dX9_release_32 rfl kf_RX9_15 (by decide) (by decide) rfl (S.b 71 rfl rfl) (S.o 71 rfl rfl rfl) (S.r 71 9 rfl rfl rfl) ?_
      refine Go_iload_n (pc' := 36) dX9_release_35 rfl rfl rfl ?_
      refine Go_ialoadZ (n := 40) (k := W.length) (v := (iZ t)) (pc' := 37) dX9_release_36 rfl (S.b 73 rfl rfl) (S.k 73 rfl rfl rfl) (by omega) (by omega) (by decide) (at_) ?_
      refine Go_iaddZ (pc' := 38) dX9_release_37 rfl ?_
      refine Go_callV_v (pc' := 41) (As := [.int _]) (st := []) dX9_release_38 rfl ok_X8_add km_RX9_109 QP.2.1 QP.1 ⟨_, _, rfl⟩ rfl (Nat.le_of_ble_eq_true rfl) rfl rfl rfl (Nat.le_of_ble_eq_true rfl) (Nat.lt_succ_self _) ?_
      refine s_add QP OE (fun H1 D1 OE1 => ?_)
      refine ⟨rfl, ?_⟩
      rw [zrel_t (by omega)] at hk
      have S1 := D1.shp S
      have QP1 := D1.qp QP
      have hr1_ := (D1.2.2.1 71 16).trans hr
      have hb : t ≠ 140 := fun z => by rw [z] at c21; exact absurd c21 (by rw [show zrk 140 = 0 from rfl]; omega)
      refine Go_aload_n (pc' := 42) dX9_release_41 rfl rfl rfl ?_
      refine Go_dup (pc' := 43) dX9_release_42 rfl rfl ?_
      refine Go_getIv (v := (iZ (zop (t :: W)))) (pc' := 46) dX9_release_43 rfl kf_RX9_62 (by decide) (by decide) rfl (S1.b 71 rfl rfl) (S1.o 71 rfl rfl rfl) (((D1.2.2.2 _ _ (by unfold Pa; omega)).trans a4)) ?_
      refine Go_aload_n (pc' := 47) dX9_release_46 rfl rfl rfl ?_
      refine Go_getRs (pc' := 50) dX9_release_47 rfl kf_RX9_15 (by decide) (by decide) rfl (S1.b 71 rfl rfl) (S1.o 71 rfl rfl rfl) (S1.r 71 9 rfl rfl rfl) ?_
      refine Go_iload_n (pc' := 51) dX9_release_50 rfl rfl rfl ?_
      refine Go_ialoadZ (n := 40) (k := W.length) (v := (iZ t)) (pc' := 52) dX9_release_51 rfl (S1.b 73 rfl rfl) (S1.k 73 rfl rfl rfl) (by omega) (by omega) (by decide) (((D1.2.2.2 _ _ (by unfold Pa; omega)).trans at_)) ?_
      refine Go_bipush (v := iZ 6) (pc' := 54) dX9_release_52 rfl (by decide) ?_
      refine Go_icmp_neY (tgt := 61) (pc' := 57) dX9_release_54 (by decide) rfl (by first | exact ⟨i_lo _, i_hi _⟩ | omega) (by first | exact ⟨i_lo _, i_hi _⟩ | omega) (fun c54 => ?_) (fun c54 => ?_)
      · refine Go_iconst (v := iZ 0) (pc' := 62) dX9_release_61 rfl (by decide) ?_
        refine Go_isubZ (pc' := 63) dX9_release_62 rfl ?_
        refine Go_putI (pc' := 66) dX9_release_63 rfl kf_RX9_62 (by decide) (by decide) rfl (S1.b 71 rfl rfl) (S1.o 71 rfl rfl rfl) (Or.inl rfl) rfl rfl ?_
        refine Go_aload_n (pc' := 67) dX9_release_66 rfl rfl rfl ?_
        refine Go_iload_n (pc' := 68) dX9_release_67 rfl rfl rfl ?_
        refine Go_putI (pc' := 71) dX9_release_68 rfl kf_RX9_59 (by decide) (by decide) rfl (S1.b 71 rfl rfl) (S1.o 71 rfl rfl rfl) (Or.inl rfl) rfl rfl ?_
        refine Go_iincZ (pc' := 74) (lv' := [.ref _, .int _, .int _]) dX9_release_71 rfl rfl (Nat.le_of_ble_eq_true rfl) rfl rfl ?_
        refine Go_goto (tgt := 7) dX9_release_74 (by decide) ?_
        have ez : zop (t :: W) = zop W + 0 := by show zop W + (if _ then 1 else 0) = _; rw [if_neg (by omega)]
        rw [show x = (W.length : Int) by omega]
        refine ih _ _ _ (by omega) (D1.shp S) ((DX.wI (DX.wI (DX.rf (Pr q) H1) (by unfold Pr; omega)) (by unfold Pr; omega)).qp (D1.qp QP)) ((D1.2.2.1 _ _).trans hr) (OE1.dx (DX.wI (DX.wI (DX.rf (fun i k => i = 71 ∧ (k = 10 ∨ k = 11)) H1) (by omega)) (by omega)) (by omega) (fun i => by omega)) ((WE.dx D1 (fun k => by unfold Pa; omega) (by unfold Pa; omega) (by unfold Pa; omega) (by unfold Pa; omega)).pop (congrArg iZ (by omega)) hb) (fun H2 D2 O2 W2 => hk H2 (DX.tr (DX.tr (D1.mono (fun i k z => by unfold Pa at z; unfold Pr; omega)) (DX.wI (DX.wI (DX.rf (Pr q) H1) (by unfold Pr; omega)) (by unfold Pr; omega))) D2) O2 W2)
      · refine Go_iconst (v := iZ 1) (pc' := 58) dX9_release_57 rfl (by decide) ?_
        refine Go_goto (tgt := 62) dX9_release_58 (by decide) ?_
        refine Go_isubZ (pc' := 63) dX9_release_62 rfl ?_
        refine Go_putI (pc' := 66) dX9_release_63 rfl kf_RX9_62 (by decide) (by decide) rfl (S1.b 71 rfl rfl) (S1.o 71 rfl rfl rfl) (Or.inl rfl) rfl rfl ?_
        refine Go_aload_n (pc' := 67) dX9_release_66 rfl rfl rfl ?_
        refine Go_iload_n (pc' := 68) dX9_release_67 rfl rfl rfl ?_
        refine Go_putI (pc' := 71) dX9_release_68 rfl kf_RX9_59 (by decide) (by decide) rfl (S1.b 71 rfl rfl) (S1.o 71 rfl rfl rfl) (Or.inl rfl) rfl rfl ?_
        refine Go_iincZ (pc' := 74) (lv' := [.ref _, .int _, .int _]) dX9_release_71 rfl rfl (Nat.le_of_ble_eq_true rfl) rfl rfl ?_
        refine Go_goto (tgt := 7) dX9_release_74 (by decide) ?_
        have ez : zop (t :: W) = zop W + 1 := by show zop W + (if _ then 1 else 0) = _; rw [if_pos (by omega)]
        rw [show x = (W.length : Int) by omega]
        refine ih _ _ _ (by omega) (D1.shp S) ((DX.wI (DX.wI (DX.rf (Pr q) H1) (by unfold Pr; omega)) (by unfold Pr; omega)).qp (D1.qp QP)) ((D1.2.2.1 _ _).trans hr) (OE1.dx (DX.wI (DX.wI (DX.rf (fun i k => i = 71 ∧ (k = 10 ∨ k = 11)) H1) (by omega)) (by omega)) (by omega) (fun i => by omega)) ((WE.dx D1 (fun k => by unfold Pa; omega) (by unfold Pa; omega) (by unfold Pa; omega) (by unfold Pa; omega)).pop (congrArg iZ (by omega)) hb) (fun H2 D2 O2 W2 => hk H2 (DX.tr (DX.tr (D1.mono (fun i k z => by unfold Pa at z; unfold Pr; omega)) (DX.wI (DX.wI (DX.rf (Pr q) H1) (by unfold Pr; omega)) (by unfold Pr; omega))) D2) O2 W2)
set_option maxRecDepth 20000 in
set_option maxHeartbeats 1000000 in
theorem s_rel {G : GC} {d mc ms : Nat} {H : HS} {K : Option Value → HS → Prop} {r : Int} {q : Nat} {o : List Int32} {W : List Int} (S : Shp H) (QP : QPr H q) (hq : q = 74 ∨ q = 77) (hr : ri H 71 16 = some q) (OE : OutE H q o) (WE : WaiE H W) (hr1 : 1 ≤ r ∧ r ≤ 6) (hk : ∀ H', DX (Pr q) H H' → OutE H' q (zrel r W o).2 → WaiE H' (zrel r W o).1 → K none H') : Go G (d + 1) mc ms M_X9_release 0 [.ref 71, .int (iZ r), un] [] H K := by
  have a2 := WE.2.1
  refine Go_aload_n (pc' := 1) dX9_release_0 rfl rfl rfl ?_
  refine Go_getIv (v := (iZ (W.length : Int))) (pc' := 4) dX9_release_1 rfl kf_RX9_59 (by decide) (by decide) rfl (S.b 71 rfl rfl) (S.o 71 rfl rfl rfl) (WE.1) ?_
  refine Go_iconst (v := iZ 1) (pc' := 5) dX9_release_4 rfl (by decide) ?_
  refine Go_isubZ (pc' := 6) dX9_release_5 rfl ?_
  refine Go_istore_n (pc' := 7) (lv' := [.ref _, .int _, .int _]) dX9_release_6 rfl rfl (Nat.le_of_ble_eq_true rfl) rfl rfl ?_
  exact rl_loop hq hr1 W o H _ (by omega) S QP hr OE WE hk
theorem WaiE.psh {H : HS} {c : Int} {W : List Int} {a b : Int32} (E : WaiE H W) (hl : W.length < 40) (hc : zwt c) (ha : a = iZ (zop (c :: W))) (hb : b = iZ (zbr (c :: W))) : WaiE (wI (wI (wI (wI H 73 W.length (iZ c)) 71 10 (iZ ((W.length : Int) + 1))) 71 11 a) 71 12 b) (c :: W) := by
  obtain ⟨a1, a2, a3, a4, a5, a6⟩ := E
  refine ⟨by rw [vi_skip (by decide), vi_skip (by decide), vi_same]; rfl, by rw [List.length_cons]; omega, fun k hk => ?_, by rw [vi_skip (by decide), vi_same]; exact ha, by rw [vi_same]; exact hb, fun x hx => ?_⟩
  · rw [List.length_cons] at hk
    rw [vi_skip (by omega), vi_skip (by omega), vi_skip (by omega)]
    by_cases e : k = W.length
    · subst e
      rw [vi_same, List.length_cons, show W.length + 1 - 1 - W.length = 0 by omega]; rfl
    · rw [vi_skip (by omega), a3 k (by omega), List.length_cons, show W.length + 1 - 1 - k = (W.length - 1 - k) + 1 by omega, List.getD_cons_succ]
  · rcases List.mem_cons.1 hx with rfl | hx
    · exact hc
    · exact a6 x hx
set_option maxRecDepth 20000 in
set_option maxHeartbeats 1000000 in
theorem s_hold {G : GC} {d mc ms : Nat} {H : HS} {K : Option Value → HS → Prop} {c : Int} {W : List Int} (S : Shp H) (WE : WaiE H W) (hc : zwt c) (hk : ∀ H', DX Ph H H' → WaiE H' (zpsh W c) → K none H') : Go G d mc ms M_X9_holdBack 0 [.ref 71, .int (iZ c)] [] H K := by
  have a2 := WE.2.1
  have zr := zop_r W
  have zb := zbr_r W
  refine Go_aload_n (pc' := 1) dX9_holdBack_0 rfl rfl rfl ?_
  refine Go_getIv (v := (iZ (W.length : Int))) (pc' := 4) dX9_holdBack_1 rfl kf_RX9_59 (by decide) (by decide) rfl (S.b 71 rfl rfl) (S.o 71 rfl rfl rfl) (WE.1) ?_
  refine Go_aload_n (pc' := 5) dX9_holdBack_4 rfl rfl rfl ?_
  refine Go_getRs (pc' := 8) dX9_holdBack_5 rfl kf_RX9_15 (by decide) (by decide) rfl (S.b 71 rfl rfl) (S.o 71 rfl rfl rfl) (S.r 71 9 rfl rfl rfl) ?_
  refine Go_alenZ (n := 40) (pc' := 9) dX9_holdBack_8 rfl (S.b 73 rfl rfl) (S.k 73 rfl rfl rfl) (Or.inl rfl) ?_
  refine Go_icmp_geY (tgt := 80) (pc' := 12) dX9_holdBack_9 (by decide) rfl (by first | exact ⟨i_lo _, i_hi _⟩ | omega) (by first | exact ⟨i_lo _, i_hi _⟩ | omega) (fun c9 => ?_) (fun c9 => ?_)
  · refine Go_return dX9_holdBack_80 rfl ?_
    have e : zpsh W c = W := if_neg (by omega)
    exact hk _ (DX.rf _ _) (by rw [e]; exact WE)
  · refine Go_aload_n (pc' := 13) dX9_holdBack_12 rfl rfl rfl ?_
    refine Go_getRs (pc' := 16) dX9_holdBack_13 rfl kf_RX9_15 (by decide) (by decide) rfl (S.b 71 rfl rfl) (S.o 71 rfl rfl rfl) (S.r 71 9 rfl rfl rfl) ?_
    refine Go_aload_n (pc' := 17) dX9_holdBack_16 rfl rfl rfl ?_
    refine Go_getIv (v := (iZ (W.length : Int))) (pc' := 20) dX9_holdBack_17 rfl kf_RX9_59 (by decide) (by decide) rfl (S.b 71 rfl rfl) (S.o 71 rfl rfl rfl) (WE.1) ?_
    refine Go_iload_n (pc' := 21) dX9_holdBack_20 rfl rfl rfl ?_
    refine Go_iastoreZ (n := 40) (k := W.length) (pc' := 22) dX9_holdBack_21 rfl (S.b 73 rfl rfl) (S.k 73 rfl rfl rfl) rfl (by omega) (by decide) ?_
    refine Go_aload_n (pc' := 23) dX9_holdBack_22 rfl rfl rfl ?_
    refine Go_dup (pc' := 24) dX9_holdBack_23 rfl rfl ?_
    refine Go_getIv (v := (iZ (W.length : Int))) (pc' := 27) dX9_holdBack_24 rfl kf_RX9_59 (by decide) (by decide) rfl (S.b 71 rfl rfl) (S.o 71 rfl rfl rfl) ((vi_skip (Or.inl (by decide))).trans (WE.1)) ?_
    refine Go_iconst (v := iZ 1) (pc' := 28) dX9_holdBack_27 rfl (by decide) ?_
    refine Go_iaddZ (pc' := 29) dX9_holdBack_28 rfl ?_
    refine Go_putI (pc' := 32) dX9_holdBack_29 rfl kf_RX9_59 (by decide) (by decide) rfl (S.b 71 rfl rfl) (S.o 71 rfl rfl rfl) (Or.inl rfl) rfl rfl ?_
    refine Go_aload_n (pc' := 33) dX9_holdBack_32 rfl rfl rfl ?_
    refine Go_dup (pc' := 34) dX9_holdBack_33 rfl rfl ?_
    refine Go_getIv (v := (iZ (zop W))) (pc' := 37) dX9_holdBack_34 rfl kf_RX9_62 (by decide) (by decide) rfl (S.b 71 rfl rfl) (S.o 71 rfl rfl rfl) ((vi_skip (Or.inr (by decide))).trans ((vi_skip (Or.inl (by decide))).trans (WE.2.2.2.1))) ?_
    refine Go_iload_n (pc' := 38) dX9_holdBack_37 rfl rfl rfl ?_
    refine Go_bipush (v := iZ 6) (pc' := 40) dX9_holdBack_38 rfl (by decide) ?_
    refine Go_icmp_eqY (tgt := 50) (pc' := 43) dX9_holdBack_40 (by decide) rfl (by first | exact ⟨i_lo _, i_hi _⟩ | omega) (by first | exact ⟨i_lo _, i_hi _⟩ | omega) (fun c40 => ?_) (fun c40 => ?_)
    · refine Go_iconst (v := iZ 1) (pc' := 51) dX9_holdBack_50 rfl (by decide) ?_
      refine Go_goto (tgt := 55) dX9_holdBack_51 (by decide) ?_
      refine Go_iaddZ (pc' := 56) dX9_holdBack_55 rfl ?_
      refine Go_putI (pc' := 59) dX9_holdBack_56 rfl kf_RX9_62 (by decide) (by decide) rfl (S.b 71 rfl rfl) (S.o 71 rfl rfl rfl) (Or.inl rfl) rfl rfl ?_
      refine Go_aload_n (pc' := 60) dX9_holdBack_59 rfl rfl rfl ?_
      refine Go_dup (pc' := 61) dX9_holdBack_60 rfl rfl ?_
      refine Go_getIv (v := (iZ (zbr W))) (pc' := 64) dX9_holdBack_61 rfl kf_RX9_65 (by decide) (by decide) rfl (S.b 71 rfl rfl) (S.o 71 rfl rfl rfl) ((vi_skip (Or.inr (by decide))).trans ((vi_skip (Or.inr (by decide))).trans ((vi_skip (Or.inl (by decide))).trans (WE.2.2.2.2.1)))) ?_
      refine Go_iload_n (pc' := 65) dX9_holdBack_64 rfl rfl rfl ?_
      refine Go_sipush (v := iZ 140) (pc' := 68) dX9_holdBack_65 rfl (by decide) ?_
      refine Go_icmp_neY (tgt := 75) (pc' := 71) dX9_holdBack_68 (by decide) rfl (by first | exact ⟨i_lo _, i_hi _⟩ | omega) (by first | exact ⟨i_lo _, i_hi _⟩ | omega) (fun c68 => ?_) (fun c68 => ?_)
      · refine Go_iconst (v := iZ 0) (pc' := 76) dX9_holdBack_75 rfl (by decide) ?_
        refine Go_iaddZ (pc' := 77) dX9_holdBack_76 rfl ?_
        refine Go_putI (pc' := 80) dX9_holdBack_77 rfl kf_RX9_65 (by decide) (by decide) rfl (S.b 71 rfl rfl) (S.o 71 rfl rfl rfl) (Or.inl rfl) rfl rfl ?_
        refine Go_return dX9_holdBack_80 rfl ?_
        have e : zpsh W c = c :: W := if_pos (by omega)
        refine hk _ (((((DX.rf _ _).wI (by unfold Ph; omega)).wI (by unfold Ph; omega)).wI (by unfold Ph; omega)).wI (by unfold Ph; omega)) ?_
        rw [e]
        refine WE.psh (by omega) hc (congrArg iZ ?_) (congrArg iZ ?_)
        · show _ = zop W + (if _ then 1 else 0); split <;> omega
        · show _ = zbr W + (if _ then 1 else 0); split <;> omega
      · refine Go_iconst (v := iZ 1) (pc' := 72) dX9_holdBack_71 rfl (by decide) ?_
        refine Go_goto (tgt := 76) dX9_holdBack_72 (by decide) ?_
        refine Go_iaddZ (pc' := 77) dX9_holdBack_76 rfl ?_
        refine Go_putI (pc' := 80) dX9_holdBack_77 rfl kf_RX9_65 (by decide) (by decide) rfl (S.b 71 rfl rfl) (S.o 71 rfl rfl rfl) (Or.inl rfl) rfl rfl ?_
        refine Go_return dX9_holdBack_80 rfl ?_
        have e : zpsh W c = c :: W := if_pos (by omega)
        refine hk _ (((((DX.rf _ _).wI (by unfold Ph; omega)).wI (by unfold Ph; omega)).wI (by unfold Ph; omega)).wI (by unfold Ph; omega)) ?_
        rw [e]
        refine WE.psh (by omega) hc (congrArg iZ ?_) (congrArg iZ ?_)
        · show _ = zop W + (if _ then 1 else 0); split <;> omega
        · show _ = zbr W + (if _ then 1 else 0); split <;> omega
    · refine Go_iload_n (pc' := 44) dX9_holdBack_43 rfl rfl rfl ?_
      refine Go_sipush (v := iZ 140) (pc' := 47) dX9_holdBack_44 rfl (by decide) ?_
      refine Go_icmp_neY (tgt := 54) (pc' := 50) dX9_holdBack_47 (by decide) rfl (by first | exact ⟨i_lo _, i_hi _⟩ | omega) (by first | exact ⟨i_lo _, i_hi _⟩ | omega) (fun c47 => ?_) (fun c47 => ?_)
      · refine Go_iconst (v := iZ 0) (pc' := 55) dX9_holdBack_54 rfl (by decide) ?_
        refine Go_iaddZ (pc' := 56) dX9_holdBack_55 rfl ?_
        refine Go_putI (pc' := 59) dX9_holdBack_56 rfl kf_RX9_62 (by decide) (by decide) rfl (S.b 71 rfl rfl) (S.o 71 rfl rfl rfl) (Or.inl rfl) rfl rfl ?_
        refine Go_aload_n (pc' := 60) dX9_holdBack_59 rfl rfl rfl ?_
        refine Go_dup (pc' := 61) dX9_holdBack_60 rfl rfl ?_
        refine Go_getIv (v := (iZ (zbr W))) (pc' := 64) dX9_holdBack_61 rfl kf_RX9_65 (by decide) (by decide) rfl (S.b 71 rfl rfl) (S.o 71 rfl rfl rfl) ((vi_skip (Or.inr (by decide))).trans ((vi_skip (Or.inr (by decide))).trans ((vi_skip (Or.inl (by decide))).trans (WE.2.2.2.2.1)))) ?_
        refine Go_iload_n (pc' := 65) dX9_holdBack_64 rfl rfl rfl ?_
        refine Go_sipush (v := iZ 140) (pc' := 68) dX9_holdBack_65 rfl (by decide) ?_
        refine Go_icmp_neY (tgt := 75) (pc' := 71) dX9_holdBack_68 (by decide) rfl (by first | exact ⟨i_lo _, i_hi _⟩ | omega) (by first | exact ⟨i_lo _, i_hi _⟩ | omega) (fun c68 => ?_) (fun c68 => ?_)
        · refine Go_iconst (v := iZ 0) (pc' := 76) dX9_holdBack_75 rfl (by decide) ?_
          refine Go_iaddZ (pc' := 77) dX9_holdBack_76 rfl ?_
          refine Go_putI (pc' := 80) dX9_holdBack_77 rfl kf_RX9_65 (by decide) (by decide) rfl (S.b 71 rfl rfl) (S.o 71 rfl rfl rfl) (Or.inl rfl) rfl rfl ?_
          refine Go_return dX9_holdBack_80 rfl ?_
          have e : zpsh W c = c :: W := if_pos (by omega)
          refine hk _ (((((DX.rf _ _).wI (by unfold Ph; omega)).wI (by unfold Ph; omega)).wI (by unfold Ph; omega)).wI (by unfold Ph; omega)) ?_
          rw [e]
          refine WE.psh (by omega) hc (congrArg iZ ?_) (congrArg iZ ?_)
          · show _ = zop W + (if _ then 1 else 0); split <;> omega
          · show _ = zbr W + (if _ then 1 else 0); split <;> omega
        · refine Go_iconst (v := iZ 1) (pc' := 72) dX9_holdBack_71 rfl (by decide) ?_
          refine Go_goto (tgt := 76) dX9_holdBack_72 (by decide) ?_
          refine Go_iaddZ (pc' := 77) dX9_holdBack_76 rfl ?_
          refine Go_putI (pc' := 80) dX9_holdBack_77 rfl kf_RX9_65 (by decide) (by decide) rfl (S.b 71 rfl rfl) (S.o 71 rfl rfl rfl) (Or.inl rfl) rfl rfl ?_
          refine Go_return dX9_holdBack_80 rfl ?_
          have e : zpsh W c = c :: W := if_pos (by omega)
          refine hk _ (((((DX.rf _ _).wI (by unfold Ph; omega)).wI (by unfold Ph; omega)).wI (by unfold Ph; omega)).wI (by unfold Ph; omega)) ?_
          rw [e]
          refine WE.psh (by omega) hc (congrArg iZ ?_) (congrArg iZ ?_)
          · show _ = zop W + (if _ then 1 else 0); split <;> omega
          · show _ = zbr W + (if _ then 1 else 0); split <;> omega
      · refine Go_iconst (v := iZ 1) (pc' := 51) dX9_holdBack_50 rfl (by decide) ?_
        refine Go_goto (tgt := 55) dX9_holdBack_51 (by decide) ?_
        refine Go_iaddZ (pc' := 56) dX9_holdBack_55 rfl ?_
        refine Go_putI (pc' := 59) dX9_holdBack_56 rfl kf_RX9_62 (by decide) (by decide) rfl (S.b 71 rfl rfl) (S.o 71 rfl rfl rfl) (Or.inl rfl) rfl rfl ?_
        refine Go_aload_n (pc' := 60) dX9_holdBack_59 rfl rfl rfl ?_
        refine Go_dup (pc' := 61) dX9_holdBack_60 rfl rfl ?_
        refine Go_getIv (v := (iZ (zbr W))) (pc' := 64) dX9_holdBack_61 rfl kf_RX9_65 (by decide) (by decide) rfl (S.b 71 rfl rfl) (S.o 71 rfl rfl rfl) ((vi_skip (Or.inr (by decide))).trans ((vi_skip (Or.inr (by decide))).trans ((vi_skip (Or.inl (by decide))).trans (WE.2.2.2.2.1)))) ?_
        refine Go_iload_n (pc' := 65) dX9_holdBack_64 rfl rfl rfl ?_
        refine Go_sipush (v := iZ 140) (pc' := 68) dX9_holdBack_65 rfl (by decide) ?_
        refine Go_icmp_neY (tgt := 75) (pc' := 71) dX9_holdBack_68 (by decide) rfl (by first | exact ⟨i_lo _, i_hi _⟩ | omega) (by first | exact ⟨i_lo _, i_hi _⟩ | omega) (fun c68 => ?_) (fun c68 => ?_)
        · refine Go_iconst (v := iZ 0) (pc' := 76) dX9_holdBack_75 rfl (by decide) ?_
          refine Go_iaddZ (pc' := 77) dX9_holdBack_76 rfl ?_
          refine Go_putI (pc' := 80) dX9_holdBack_77 rfl kf_RX9_65 (by decide) (by decide) rfl (S.b 71 rfl rfl) (S.o 71 rfl rfl rfl) (Or.inl rfl) rfl rfl ?_
          refine Go_return dX9_holdBack_80 rfl ?_
          have e : zpsh W c = c :: W := if_pos (by omega)
          refine hk _ (((((DX.rf _ _).wI (by unfold Ph; omega)).wI (by unfold Ph; omega)).wI (by unfold Ph; omega)).wI (by unfold Ph; omega)) ?_
          rw [e]
          refine WE.psh (by omega) hc (congrArg iZ ?_) (congrArg iZ ?_)
          · show _ = zop W + (if _ then 1 else 0); split <;> omega
          · show _ = zbr W + (if _ then 1 else 0); split <;> omega
        · refine Go_iconst (v := iZ 1) (pc' := 72) dX9_holdBack_71 rfl (by decide) ?_
          refine Go_goto (tgt := 76) dX9_holdBack_72 (by decide) ?_
          refine Go_iaddZ (pc' := 77) dX9_holdBack_76 rfl ?_
          refine Go_putI (pc' := 80) dX9_holdBack_77 rfl kf_RX9_65 (by decide) (by decide) rfl (S.b 71 rfl rfl) (S.o 71 rfl rfl rfl) (Or.inl rfl) rfl rfl ?_
          refine Go_return dX9_holdBack_80 rfl ?_
          have e : zpsh W c = c :: W := if_pos (by omega)
          refine hk _ (((((DX.rf _ _).wI (by unfold Ph; omega)).wI (by unfold Ph; omega)).wI (by unfold Ph; omega)).wI (by unfold Ph; omega)) ?_
          rw [e]
          refine WE.psh (by omega) hc (congrArg iZ ?_) (congrArg iZ ?_)
          · show _ = zop W + (if _ then 1 else 0); split <;> omega
          · show _ = zbr W + (if _ then 1 else 0); split <;> omega
