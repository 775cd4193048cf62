/-! the class reads rules: what its automaton does with a token -/
/-- how strongly an operator binds -/
def zrk (c : Int) : Int := if c = 4 then 1 else if c = 5 then 2 else if c = 6 then 3 else if c = 160 ∨ c = 161 ∨ c = 162 then 4 else if c = 143 ∨ c = 145 then 5 else if c = 142 ∨ c = 147 then 6 else 0
abbrev zwt (c : Int) : Prop := c = 4 ∨ c = 5 ∨ c = 6 ∨ c = 140 ∨ c = 142 ∨ c = 143 ∨ c = 145 ∨ c = 147 ∨ c = 160 ∨ c = 161 ∨ c = 162
theorem zrk_r (c : Int) : 0 ≤ zrk c ∧ zrk c ≤ 6 := by
  unfold zrk
  split <;> (try omega)
  split <;> (try omega)
  split <;> (try omega)
  split <;> (try omega)
  split <;> (try omega)
  split <;> omega
def zpsh (W : List Int) (c : Int) : List Int := if W.length < 40 then c :: W else W
def zadd (o : List Int32) (v : Int32) : List Int32 := if o.length < 600 then o ++ [v] else o
def zrel (r : Int) : List Int → List Int32 → List Int × List Int32
  | [], o => ([], o)
  | t :: W, o => if r ≤ zrk t then zrel r W (zadd o (iZ (10000 + t))) else (t :: W, o)
theorem zrel_t {r t : Int} {W : List Int} {o : List Int32} (h : r ≤ zrk t) : zrel r (t :: W) o = zrel r W (zadd o (iZ (10000 + t))) := by show (if _ then _ else _) = _; rw [if_pos h]
theorem zrel_f {r t : Int} {W : List Int} {o : List Int32} (h : ¬ r ≤ zrk t) : zrel r (t :: W) o = (t :: W, o) := by show (if _ then _ else _) = _; rw [if_neg h]
def zop : List Int → Int
  | [] => 0
  | t :: W => zop W + (if t = 6 ∨ t = 140 then 1 else 0)
def zbr : List Int → Int
  | [] => 0
  | t :: W => zbr W + (if t = 140 then 1 else 0)
theorem zop_r : ∀ W : List Int, 0 ≤ zop W ∧ zop W ≤ W.length
  | [] => ⟨Int.le_refl _, Int.le_refl _⟩
  | t :: W => by
    have := zop_r W
    show 0 ≤ zop W + _ ∧ zop W + _ ≤ ((W.length + 1 : Nat) : Int)
    split <;> omega
theorem zbr_r : ∀ W : List Int, 0 ≤ zbr W ∧ zbr W ≤ W.length
  | [] => ⟨Int.le_refl _, Int.le_refl _⟩
  | t :: W => by
    have := zbr_r W
    show 0 ≤ zbr W + _ ∧ zbr W + _ ≤ ((W.length + 1 : Nat) : Int)
    split <;> omega
/-- the draft's codes; what waits -/
def OutE (H : HS) (q : Nat) (o : List Int32) : Prop := vi H q 1 = iZ (o.length : Int) ∧ o.length ≤ 600 ∧ ∀ i, i < o.length → vi H (q + 1) i = o.getD i 0
def WaiE (H : HS) (W : List Int) : Prop := vi H 71 10 = iZ (W.length : Int) ∧ W.length ≤ 40 ∧ (∀ k, k < W.length → vi H 73 k = iZ (W.getD (W.length - 1 - k) 0)) ∧ vi H 71 11 = iZ (zop W) ∧ vi H 71 12 = iZ (zbr W) ∧ ∀ t ∈ W, zwt t
abbrev Pa (q i k : Nat) : Prop := (i = q ∧ k = 1) ∨ i = q + 1
abbrev Pr (q i k : Nat) : Prop := (i = q ∧ k = 1) ∨ i = q + 1 ∨ (i = 71 ∧ (k = 10 ∨ k = 11))
abbrev Ph (i k : Nat) : Prop := i = 73 ∨ (i = 71 ∧ (k = 10 ∨ k = 11 ∨ k = 12))
theorem OutE.dx {P : Nat → Nat → Prop} {H H' : HS} {q : Nat} {o : List Int32} (E : OutE H q o) (D : DX P H H') (h1 : ¬ P q 1) (h2 : ∀ i, ¬ P (q + 1) i) : OutE H' q o :=
  ⟨(D.2.2.2 _ _ h1).trans E.1, E.2.1, fun i hi => (D.2.2.2 _ _ (h2 i)).trans (E.2.2 i hi)⟩
theorem WaiE.dx {P : Nat → Nat → Prop} {H H' : HS} {W : List Int} (E : WaiE H W) (D : DX P H H') (h1 : ∀ k, ¬ P 73 k) (h2 : ¬ P 71 10) (h3 : ¬ P 71 11) (h4 : ¬ P 71 12) : WaiE H' W :=
  ⟨(D.2.2.2 _ _ h2).trans E.1, E.2.1, fun k hk => (D.2.2.2 _ _ (h1 k)).trans (E.2.2.1 k hk), (D.2.2.2 _ _ h3).trans E.2.2.2.1, (D.2.2.2 _ _ h4).trans E.2.2.2.2.1, E.2.2.2.2.2⟩
theorem OutE.put {H : HS} {q : Nat} {o : List Int32} {v : Int32} (E : OutE H q o) (h : o.length < 600) : OutE (wI (wI H (q + 1) o.length v) q 1 (iZ ((o.length : Int) + 1))) q (o ++ [v]) := by
  refine ⟨by rw [vi_same, List.length_append]; rfl, by rw [List.length_append]; show o.length + 1 ≤ 600; omega, fun i hi => ?_⟩
  rw [List.length_append] at hi
  have hi : i < o.length + 1 := hi
  rw [vi_skip (by omega)]
  by_cases c : i = o.length
  · subst c
    rw [vi_same, List.getD_eq_getElem?_getD, List.getElem?_append_right (Nat.le_refl _), Nat.sub_self]; rfl
  · rw [vi_skip (by omega), E.2.2 i (by omega), List.getD_eq_getElem?_getD, List.getD_eq_getElem?_getD, List.getElem?_append_left (by omega)]

set_option maxRecDepth 20000 in
set_option maxHeartbeats 1000000 in
theorem s_rank {G : GC} {d mc ms : Nat} {H : HS} {K : Option Value → HS → Prop} {c : Int} (hc : -2147483648 ≤ c ∧ c < 2147483648) (hk : K (some (.int (iZ (zrk c)))) H) : Go G d mc ms M_X9_rankOf 0 [.int (iZ c)] [] H K := by
  rcases (show c = 4 ∨ c = 5 ∨ c = 6 ∨ c = 142 ∨ c = 143 ∨ c = 145 ∨ c = 147 ∨ c = 160 ∨ c = 161 ∨ c = 162 ∨ (c ≠ 4 ∧ c ≠ 5 ∧ c ≠ 6 ∧ c ≠ 142 ∧ c ≠ 143 ∧ c ≠ 145 ∧ c ≠ 147 ∧ c ≠ 160 ∧ c ≠ 161 ∧ c ≠ 162) by omega) with rfl | rfl | rfl | rfl | rfl | rfl | rfl | rfl | rfl | rfl | hn
  · refine Go_iload_n (pc' := 1) dX9_rankOf_0 rfl rfl rfl ?_
    refine Go_lookup (off := 91) (tgt := 92) dX9_rankOf_1 (by decide) (by decide) (by decide) ?_
    refine Go_iconst (v := iZ 1) (pc' := 93) dX9_rankOf_92 rfl (by decide) ?_
    refine Go_ireturn (ty := .int) dX9_rankOf_93 rfl rfl ?_
    exact hk
  · refine Go_iload_n (pc' := 1) dX9_rankOf_0 rfl rfl rfl ?_
    refine Go_lookup (off := 93) (tgt := 94) dX9_rankOf_1 (by decide) (by decide) (by decide) ?_
    refine Go_iconst (v := iZ 2) (pc' := 95) dX9_rankOf_94 rfl (by decide) ?_
    refine Go_ireturn (ty := .int) dX9_rankOf_95 rfl rfl ?_
    exact hk
  · refine Go_iload_n (pc' := 1) dX9_rankOf_0 rfl rfl rfl ?_
    refine Go_lookup (off := 95) (tgt := 96) dX9_rankOf_1 (by decide) (by decide) (by decide) ?_
    refine Go_iconst (v := iZ 3) (pc' := 97) dX9_rankOf_96 rfl (by decide) ?_
    refine Go_ireturn (ty := .int) dX9_rankOf_97 rfl rfl ?_
    exact hk
  · refine Go_iload_n (pc' := 1) dX9_rankOf_0 rfl rfl rfl ?_
    refine Go_lookup (off := 101) (tgt := 102) dX9_rankOf_1 (by decide) (by decide) (by decide) ?_
    refine Go_bipush (v := iZ 6) (pc' := 104) dX9_rankOf_102 rfl (by decide) ?_
    refine Go_ireturn (ty := .int) dX9_rankOf_104 rfl rfl ?_
    exact hk
  · refine Go_iload_n (pc' := 1) dX9_rankOf_0 rfl rfl rfl ?_
    refine Go_lookup (off := 99) (tgt := 100) dX9_rankOf_1 (by decide) (by decide) (by decide) ?_
    refine Go_iconst (v := iZ 5) (pc' := 101) dX9_rankOf_100 rfl (by decide) ?_
    refine Go_ireturn (ty := .int) dX9_rankOf_101 rfl rfl ?_
    exact hk
  · refine Go_iload_n (pc' := 1) dX9_rankOf_0 rfl rfl rfl ?_
    refine Go_lookup (off := 99) (tgt := 100) dX9_rankOf_1 (by decide) (by decide) (by decide) ?_
    refine Go_iconst (v := iZ 5) (pc' := 101) dX9_rankOf_100 rfl (by decide) ?_
    refine Go_ireturn (ty := .int) dX9_rankOf_101 rfl rfl ?_
    exact hk
  · refine Go_iload_n (pc' := 1) dX9_rankOf_0 rfl rfl rfl ?_
    refine Go_lookup (off := 101) (tgt := 102) dX9_rankOf_1 (by decide) (by decide) (by decide) ?_
    refine Go_bipush (v := iZ 6) (pc' := 104) dX9_rankOf_102 rfl (by decide) ?_
    refine Go_ireturn (ty := .int) dX9_rankOf_104 rfl rfl ?_
    exact hk
  · refine Go_iload_n (pc' := 1) dX9_rankOf_0 rfl rfl rfl ?_
    refine Go_lookup (off := 97) (tgt := 98) dX9_rankOf_1 (by decide) (by decide) (by decide) ?_
    refine Go_iconst (v := iZ 4) (pc' := 99) dX9_rankOf_98 rfl (by decide) ?_
    refine Go_ireturn (ty := .int) dX9_rankOf_99 rfl rfl ?_
    exact hk
  · refine Go_iload_n (pc' := 1) dX9_rankOf_0 rfl rfl rfl ?_
    refine Go_lookup (off := 97) (tgt := 98) dX9_rankOf_1 (by decide) (by decide) (by decide) ?_
    refine Go_iconst (v := iZ 4) (pc' := 99) dX9_rankOf_98 rfl (by decide) ?_
    refine Go_ireturn (ty := .int) dX9_rankOf_99 rfl rfl ?_
    exact hk
  · refine Go_iload_n (pc' := 1) dX9_rankOf_0 rfl rfl rfl ?_
    refine Go_lookup (off := 97) (tgt := 98) dX9_rankOf_1 (by decide) (by decide) (by decide) ?_
    refine Go_iconst (v := iZ 4) (pc' := 99) dX9_rankOf_98 rfl (by decide) ?_
    refine Go_ireturn (ty := .int) dX9_rankOf_99 rfl rfl ?_
    exact hk
  · have e0 : zrk c = 0 := by unfold zrk; rw [if_neg (by omega), if_neg (by omega), if_neg (by omega), if_neg (by omega), if_neg (by omega), if_neg (by omega)]
    rw [e0] at hk
    refine Go_iload_n (pc' := 1) dX9_rankOf_0 rfl rfl rfl ?_
    refine Go_lookup (off := 104) (tgt := 105) dX9_rankOf_1 (by decide) ?_ (by decide) ?_
    · rw [iZ_t hc]
      obtain ⟨n1, n2, n3, n4, n5, n6, n7, n8, n9, n10⟩ := hn
      simp [Op.lookupswitch.offset, n1, n2, n3, n4, n5, n6, n7, n8, n9, n10]
    · refine Go_iconst (v := iZ 0) (pc' := 106) dX9_rankOf_105 rfl (by decide) ?_
      refine Go_ireturn (ty := .int) dX9_rankOf_106 rfl rfl ?_
      exact hk
set_option maxRecDepth 20000 in
set_option maxHeartbeats 1000000 in
theorem s_add {G : GC} {d mc ms : Nat} {H : HS} {K : Option Value → HS → Prop} {q : Nat} {o : List Int32} {v : Int32} (QP : QPr H q) (OE : OutE H q o) (hk : ∀ H', DX (Pa q) H H' → OutE H' q (zadd o v) → K none H') : Go G d mc ms M_X8_add 0 [.ref q, .int v] [] H K := by
  obtain ⟨e1, hl, eo⟩ := id OE
  refine Go_aload_n (pc' := 1) dX8_add_0 rfl rfl rfl ?_
  refine Go_getIv (v := (iZ (o.length : Int))) (pc' := 4) dX8_add_1 rfl kf_RX8_18 (by decide) (by decide) rfl QP.1 QP.2.1 (e1) ?_
  refine Go_aload_n (pc' := 5) dX8_add_4 rfl rfl rfl ?_
  refine Go_getRs (pc' := 8) dX8_add_5 rfl kf_RX8_9 (by decide) (by decide) rfl QP.1 QP.2.1 QP.2.2.1 ?_
  refine Go_alenZ (n := 600) (pc' := 9) dX8_add_8 rfl QP.2.2.2.2.1 QP.2.2.2.2.2.1 (Or.inl rfl) ?_
  refine Go_icmp_geY (tgt := 32) (pc' := 12) dX8_add_9 (by decide) rfl (by first | exact ⟨i_lo _, i_hi _⟩ | omega) (by first | exact ⟨i_lo _, i_hi _⟩ | omega) (fun c9 => ?_) (fun c9 => ?_)
  · refine Go_return dX8_add_32 rfl ?_
    have e : zadd o v = o := if_neg (by omega)
    exact hk _ (DX.rf _ _) (by rw [e]; exact OE)
  · refine Go_aload_n (pc' := 13) dX8_add_12 rfl rfl rfl ?_
    refine Go_getRs (pc' := 16) dX8_add_13 rfl kf_RX8_9 (by decide) (by decide) rfl QP.1 QP.2.1 QP.2.2.1 ?_
    refine Go_aload_n (pc' := 17) dX8_add_16 rfl rfl rfl ?_
    refine Go_getIv (v := (iZ (o.length : Int))) (pc' := 20) dX8_add_17 rfl kf_RX8_18 (by decide) (by decide) rfl QP.1 QP.2.1 (e1) ?_
    refine Go_iload_n (pc' := 21) dX8_add_20 rfl rfl rfl ?_
    refine Go_iastoreZ (n := 600) (k := o.length) (pc' := 22) dX8_add_21 rfl QP.2.2.2.2.1 QP.2.2.2.2.2.1 rfl (by omega) (by decide) ?_
    refine Go_aload_n (pc' := 23) dX8_add_22 rfl rfl rfl ?_
    refine Go_dup (pc' := 24) dX8_add_23 rfl rfl ?_
    refine Go_getIv (v := (iZ (o.length : Int))) (pc' := 27) dX8_add_24 rfl kf_RX8_18 (by decide) (by decide) rfl QP.1 QP.2.1 ((vi_skip (Or.inl (by omega))).trans (e1)) ?_
    refine Go_iconst (v := iZ 1) (pc' := 28) dX8_add_27 rfl (by decide) ?_
    refine Go_iaddZ (pc' := 29) dX8_add_28 rfl ?_
    refine Go_putI (pc' := 32) dX8_add_29 rfl kf_RX8_18 (by decide) (by decide) rfl QP.1 QP.2.1 (Or.inl rfl) rfl rfl ?_
    refine Go_return dX8_add_32 rfl ?_
    have e : zadd o v = o ++ [v] := if_pos (by omega)
    exact hk _ (((DX.rf _ _).wI (by unfold Pa; omega)).wI (by unfold Pa; omega)) (by rw [e]; exact OE.put (by omega))
