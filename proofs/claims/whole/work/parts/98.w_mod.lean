/-! the model takes the next token -/
def TM (H : HS) (T : Nat → Int) (n : Nat) : Prop := Shp H ∧ n ≤ 600 ∧ vi H 99 28 = iZ (n : Int) ∧ ∀ i, i < n → vi H 116 i = iZ (T i) ∧ 0 ≤ T i ∧ T i ≤ 255
theorem TM.w {H : HS} {T : Nat → Int} {n i k : Nat} {v : Int32} (F : TM H T n) (e : i ≠ 116 ∧ (i ≠ 99 ∨ k ≠ 28)) : TM (wI H i k v) T n := by
  obtain ⟨S, hn, en, ht⟩ := F
  exact ⟨S, hn, by rw [vi_skip (by omega)]; exact en, fun j hj => by rw [vi_skip (by omega)]; exact ht j hj⟩
theorem TM.dx {P : Nat → Nat → Prop} {H H' : HS} {T : Nat → Int} {n : Nat} (F : TM H T n) (D : DX P H H') (h1 : ¬ P 99 28) (h2 : ∀ k, ¬ P 116 k) : TM H' T n := by
  obtain ⟨S, hn, en, ht⟩ := F
  exact ⟨D.shp S, hn, by rw [D.2.2.2 _ _ h1]; exact en, fun j hj => by rw [D.2.2.2 _ _ (h2 j)]; exact ht j hj⟩
def sT (T : Nat → Int) (n p : Nat) : Int := if p < n then T p else -1
theorem sT_t {T : Nat → Int} {n p : Nat} (h : p < n) : sT T n p = T p := if_pos h
theorem sT_f {T : Nat → Int} {n p : Nat} (h : ¬ p < n) : sT T n p = -1 := if_neg h
def nv4 (T : Nat → Int) (p0 : Nat) : Nat → Nat → Int → Int
  | 0, _, v => v
  | m + 1, i, v => if diB (T i) = true then nv4 T p0 m (i + 1) (if i < p0 + 4 then 10 * v + T i - 48 else v) else v
theorem nv4_t {T : Nat → Int} {p0 m i : Nat} {v : Int} (e : diB (T i) = true) : nv4 T p0 (m + 1) i v = nv4 T p0 m (i + 1) (if i < p0 + 4 then 10 * v + T i - 48 else v) := by show (if _ then _ else _) = _; rw [if_pos e]
theorem nv4_f {T : Nat → Int} {p0 m i : Nat} {v : Int} (e : ¬ diB (T i) = true) : nv4 T p0 (m + 1) i v = v := by show (if _ then _ else _) = _; rw [if_neg e]
theorem nv4_e {T : Nat → Int} {p0 : Nat} : ∀ (m i : Nat) (v : Int), skp diB T m i ≤ p0 + 4 → nv4 T p0 m i v = nvs T m i v
  | 0, i, v, _ => rfl
  | m + 1, i, v, h => by
    by_cases e : diB (T i) = true
    · rw [skp_t e] at h
      have := skp_r (f := diB) (T := T) m (i + 1)
      rw [nv4_t e, nvs_t e, if_pos (by omega), nv4_e m (i + 1) _ h]
    · rw [nv4_f e, nvs_f e]
/-- the model's number of a token -/
def mtk (c : Int) : Int := if c ≤ 2 then c + 11 else if c ≤ 6 then c else if c ≤ 13 then c + 14 else if c = 20 then 2 else if c = 21 then 0 else if c = 22 then 1 else c
abbrev Pm (i k : Nat) : Prop := i = 99 ∧ 29 ≤ k ∧ k ≤ 32

set_option maxRecDepth 20000 in
set_option maxHeartbeats 1000000 in
theorem s_see {G : GC} {d mc ms : Nat} {H : HS} {K : Option Value → HS → Prop} {T : Nat → Int} {n : Nat} {p : Nat} (F : TM H T n) (hp : p ≤ n) (hk : K (some (.int (iZ (sT T n p)))) H) : Go G d mc ms M_X12_see 0 [.ref 99, .int (iZ (p : Int))] [] H K := by
  obtain ⟨S, hn, en, ht⟩ := id F
  refine Go_iload_n (pc' := 1) dX12_see_0 rfl rfl rfl ?_
  refine Go_aload_n (pc' := 2) dX12_see_1 rfl rfl rfl ?_
  refine Go_getIv (v := (iZ (n : Int))) (pc' := 5) dX12_see_2 rfl kf_RX12_203 (by decide) (by decide) rfl (S.b 99 rfl rfl) (S.o 99 rfl rfl rfl) (en) ?_
  refine Go_icmp_geY (tgt := 17) (pc' := 8) dX12_see_5 (by decide) rfl (by first | exact ⟨i_lo _, i_hi _⟩ | omega) (by first | exact ⟨i_lo _, i_hi _⟩ | omega) (fun c5 => ?_) (fun c5 => ?_)
  · refine Go_iconst (v := iZ (-1)) (pc' := 18) dX12_see_17 rfl (by decide) ?_
    refine Go_ireturn (ty := .int) dX12_see_18 rfl rfl ?_
    rw [sT_f (by omega)] at hk; exact hk
  · refine Go_aload_n (pc' := 9) dX12_see_8 rfl rfl rfl ?_
    refine Go_getRs (pc' := 12) dX12_see_9 rfl kf_RX12_58 (by decide) (by decide) rfl (S.b 99 rfl rfl) (S.o 99 rfl rfl rfl) (S.r 99 17 rfl rfl rfl) ?_
    refine Go_iload_n (pc' := 13) dX12_see_12 rfl rfl rfl ?_
    refine Go_ialoadZ (n := 600) (k := p) (v := (iZ (T p))) (pc' := 14) dX12_see_13 rfl (S.b 116 rfl rfl) (S.k 116 rfl rfl rfl) rfl (by omega) (by decide) ((ht p (by omega)).1) ?_
    refine Go_goto (tgt := 18) dX12_see_14 (by decide) ?_
    refine Go_ireturn (ty := .int) dX12_see_18 rfl rfl ?_
    rw [sT_t (by omega)] at hk; exact hk
set_option maxRecDepth 20000 in
set_option maxHeartbeats 1000000 in
theorem nb_loop {G : GC} {d mc ms : Nat} {H : HS} {K : Option Value → HS → Prop} {T : Nat → Int} {n : Nat} (F : TM H T n) : ∀ (m p : Nat), p + m = n → Go G (d + 2) mc ms M_X12_next0 39 [.ref 99, un, un] [] (wI H 99 29 (iZ (skp blB T m p : Nat))) K → Go G (d + 2) mc ms M_X12_next0 0 [.ref 99, un, un] [] (wI H 99 29 (iZ (p : Int))) K := by
  obtain ⟨S, hn, en, ht⟩ := id F
  intro m
  induction m with
  | zero =>
    intro p hm hk
    have hs := sT_f (T := T) (n := n) (p := p) (by omega)
    refine Go_aload_n (pc' := 1) dX12_next0_0 rfl rfl rfl ?_
    refine Go_aload_n (pc' := 2) dX12_next0_1 rfl rfl rfl ?_
    refine Go_getIv (v := (iZ (p : Int))) (pc' := 5) dX12_next0_2 rfl kf_RX12_206 (by decide) (by decide) rfl (S.b 99 rfl rfl) (S.o 99 rfl rfl rfl) (vi_same) ?_
    refine Go_callV_i (pc' := 8) (As := [.int _]) (st := []) dX12_next0_5 rfl ok_X12_see km_RX12_252 (S.o 99 rfl rfl rfl) (S.b 99 rfl rfl) ⟨_, _, rfl⟩ rfl (Nat.le_of_ble_eq_true rfl) rfl rfl rfl (Nat.le_of_ble_eq_true rfl) (Nat.lt_succ_self _) ?_
    refine s_see (p := p) (TM.w F (by decide)) (by omega) ?_
    refine ⟨_, rfl, ?_⟩
    refine Go_bipush (v := iZ 32) (pc' := 10) dX12_next0_8 rfl (by decide) ?_
    refine Go_icmp_eqY (tgt := 26) (pc' := 13) dX12_next0_10 (by decide) rfl (by first | exact ⟨i_lo _, i_hi _⟩ | omega) (by first | exact ⟨i_lo _, i_hi _⟩ | omega) (fun c10 => ?_) (fun c10 => ?_)
    · refine Go_aload_n (pc' := 27) dX12_next0_26 rfl rfl rfl ?_
      refine Go_dup (pc' := 28) dX12_next0_27 rfl rfl ?_
      refine Go_getIv (v := (iZ (p : Int))) (pc' := 31) dX12_next0_28 rfl kf_RX12_206 (by decide) (by decide) rfl (S.b 99 rfl rfl) (S.o 99 rfl rfl rfl) (vi_same) ?_
      refine Go_iconst (v := iZ 1) (pc' := 32) dX12_next0_31 rfl (by decide) ?_
      refine Go_iaddZ (pc' := 33) dX12_next0_32 rfl ?_
      refine Go_putI (pc' := 36) dX12_next0_33 rfl kf_RX12_206 (by decide) (by decide) rfl (S.b 99 rfl rfl) (S.o 99 rfl rfl rfl) (Or.inl rfl) rfl rfl ?_
      refine Go_goto (tgt := 0) dX12_next0_36 (by decide) ?_
      exfalso; omega
    · refine Go_aload_n (pc' := 14) dX12_next0_13 rfl rfl rfl ?_
      refine Go_aload_n (pc' := 15) dX12_next0_14 rfl rfl rfl ?_
      refine Go_getIv (v := (iZ (p : Int))) (pc' := 18) dX12_next0_15 rfl kf_RX12_206 (by decide) (by decide) rfl (S.b 99 rfl rfl) (S.o 99 rfl rfl rfl) (vi_same) ?_
      refine Go_callV_i (pc' := 21) (As := [.int _]) (st := []) dX12_next0_18 rfl ok_X12_see km_RX12_252 (S.o 99 rfl rfl rfl) (S.b 99 rfl rfl) ⟨_, _, rfl⟩ rfl (Nat.le_of_ble_eq_true rfl) rfl rfl rfl (Nat.le_of_ble_eq_true rfl) (Nat.lt_succ_self _) ?_
      refine s_see (p := p) (TM.w F (by decide)) (by omega) ?_
      refine ⟨_, rfl, ?_⟩
      refine Go_bipush (v := iZ 10) (pc' := 23) dX12_next0_21 rfl (by decide) ?_
      refine Go_icmp_neY (tgt := 39) (pc' := 26) dX12_next0_23 (by decide) rfl (by first | exact ⟨i_lo _, i_hi _⟩ | omega) (by first | exact ⟨i_lo _, i_hi _⟩ | omega) (fun c23 => ?_) (fun c23 => ?_)
      · exact hk
      · refine Go_aload_n (pc' := 27) dX12_next0_26 rfl rfl rfl ?_
        refine Go_dup (pc' := 28) dX12_next0_27 rfl rfl ?_
        refine Go_getIv (v := (iZ (p : Int))) (pc' := 31) dX12_next0_28 rfl kf_RX12_206 (by decide) (by decide) rfl (S.b 99 rfl rfl) (S.o 99 rfl rfl rfl) (vi_same) ?_
        refine Go_iconst (v := iZ 1) (pc' := 32) dX12_next0_31 rfl (by decide) ?_
        refine Go_iaddZ (pc' := 33) dX12_next0_32 rfl ?_
        refine Go_putI (pc' := 36) dX12_next0_33 rfl kf_RX12_206 (by decide) (by decide) rfl (S.b 99 rfl rfl) (S.o 99 rfl rfl rfl) (Or.inl rfl) rfl rfl ?_
        refine Go_goto (tgt := 0) dX12_next0_36 (by decide) ?_
        exfalso; omega
  | succ m ih =>
    intro p hm hk
    have tp := (ht p (by omega)).2
    have hs := sT_t (T := T) (n := n) (p := p) (by omega)
    refine Go_aload_n (pc' := 1) dX12_next0_0 rfl rfl rfl ?_
    refine Go_aload_n (pc' := 2) dX12_next0_1 rfl rfl rfl ?_
    refine Go_getIv (v := (iZ (p : Int))) (pc' := 5) dX12_next0_2 rfl kf_RX12_206 (by decide) (by decide) rfl (S.b 99 rfl rfl) (S.o 99 rfl rfl rfl) (vi_same) ?_
    refine Go_callV_i (pc' := 8) (As := [.int _]) (st := []) dX12_next0_5 rfl ok_X12_see km_RX12_252 (S.o 99 rfl rfl rfl) (S.b 99 rfl rfl) ⟨_, _, rfl⟩ rfl (Nat.le_of_ble_eq_true rfl) rfl rfl rfl (Nat.le_of_ble_eq_true rfl) (Nat.lt_succ_self _) ?_
    refine s_see (p := p) (TM.w F (by decide)) (by omega) ?_
    refine ⟨_, rfl, ?_⟩
    refine Go_bipush (v := iZ 32) (pc' := 10) dX12_next0_8 rfl (by decide) ?_
    refine Go_icmp_eqY (tgt := 26) (pc' := 13) dX12_next0_10 (by decide) rfl (by first | exact ⟨i_lo _, i_hi _⟩ | omega) (by first | exact ⟨i_lo _, i_hi _⟩ | omega) (fun c10 => ?_) (fun c10 => ?_)
    · refine Go_aload_n (pc' := 27) dX12_next0_26 rfl rfl rfl ?_
      refine Go_dup (pc' := 28) dX12_next0_27 rfl rfl ?_
      refine Go_getIv (v := (iZ (p : Int))) (pc' := 31) dX12_next0_28 rfl kf_RX12_206 (by decide) (by decide) rfl (S.b 99 rfl rfl) (S.o 99 rfl rfl rfl) (vi_same) ?_
      refine Go_iconst (v := iZ 1) (pc' := 32) dX12_next0_31 rfl (by decide) ?_
      refine Go_iaddZ (pc' := 33) dX12_next0_32 rfl ?_
      refine Go_putI (pc' := 36) dX12_next0_33 rfl kf_RX12_206 (by decide) (by decide) rfl (S.b 99 rfl rfl) (S.o 99 rfl rfl rfl) (Or.inl rfl) rfl rfl ?_
      refine Go_goto (tgt := 0) dX12_next0_36 (by decide) ?_
      rw [skp_t (by unfold blB; rw [decide_eq_true_iff]; omega)] at hk
      rw [wI_wI]
      exact ih (p + 1) (by omega) hk
    · refine Go_aload_n (pc' := 14) dX12_next0_13 rfl rfl rfl ?_
      refine Go_aload_n (pc' := 15) dX12_next0_14 rfl rfl rfl ?_
      refine Go_getIv (v := (iZ (p : Int))) (pc' := 18) dX12_next0_15 rfl kf_RX12_206 (by decide) (by decide) rfl (S.b 99 rfl rfl) (S.o 99 rfl rfl rfl) (vi_same) ?_
      refine Go_callV_i (pc' := 21) (As := [.int _]) (st := []) dX12_next0_18 rfl ok_X12_see km_RX12_252 (S.o 99 rfl rfl rfl) (S.b 99 rfl rfl) ⟨_, _, rfl⟩ rfl (Nat.le_of_ble_eq_true rfl) rfl rfl rfl (Nat.le_of_ble_eq_true rfl) (Nat.lt_succ_self _) ?_
      refine s_see (p := p) (TM.w F (by decide)) (by omega) ?_
      refine ⟨_, rfl, ?_⟩
      refine Go_bipush (v := iZ 10) (pc' := 23) dX12_next0_21 rfl (by decide) ?_
      refine Go_icmp_neY (tgt := 39) (pc' := 26) dX12_next0_23 (by decide) rfl (by first | exact ⟨i_lo _, i_hi _⟩ | omega) (by first | exact ⟨i_lo _, i_hi _⟩ | omega) (fun c23 => ?_) (fun c23 => ?_)
      · rw [skp_f (by unfold blB; rw [decide_eq_true_iff]; omega)] at hk; exact hk
      · refine Go_aload_n (pc' := 27) dX12_next0_26 rfl rfl rfl ?_
        refine Go_dup (pc' := 28) dX12_next0_27 rfl rfl ?_
        refine Go_getIv (v := (iZ (p : Int))) (pc' := 31) dX12_next0_28 rfl kf_RX12_206 (by decide) (by decide) rfl (S.b 99 rfl rfl) (S.o 99 rfl rfl rfl) (vi_same) ?_
        refine Go_iconst (v := iZ 1) (pc' := 32) dX12_next0_31 rfl (by decide) ?_
        refine Go_iaddZ (pc' := 33) dX12_next0_32 rfl ?_
        refine Go_putI (pc' := 36) dX12_next0_33 rfl kf_RX12_206 (by decide) (by decide) rfl (S.b 99 rfl rfl) (S.o 99 rfl rfl rfl) (Or.inl rfl) rfl rfl ?_
        refine Go_goto (tgt := 0) dX12_next0_36 (by decide) ?_
        rw [skp_t (by unfold blB; rw [decide_eq_true_iff]; omega)] at hk
        rw [wI_wI]
        exact ih (p + 1) (by omega) hk
set_option maxRecDepth 20000 in
set_option maxHeartbeats 1000000 in
theorem nl_loop {G : GC} {d mc ms : Nat} {H : HS} {K : Option Value → HS → Prop} {T : Nat → Int} {n : Nat} {x1 : Int} (F : TM H T n) : ∀ (m p : Nat), p + m = n → Go G (d + 2) mc ms M_X12_next0 103 [.ref 99, .int (iZ x1), un] [] (wI H 99 29 (iZ (skp leB T m p : Nat))) K → Go G (d + 2) mc ms M_X12_next0 76 [.ref 99, .int (iZ x1), un] [] (wI H 99 29 (iZ (p : Int))) K := by
  obtain ⟨S, hn, en, ht⟩ := id F
  intro m
  induction m with
  | zero =>
    intro p hm hk
    have hs := sT_f (T := T) (n := n) (p := p) (by omega)
    refine Go_aload_n (pc' := 77) dX12_next0_76 rfl rfl rfl ?_
    refine Go_aload_n (pc' := 78) dX12_next0_77 rfl rfl rfl ?_
    refine Go_getIv (v := (iZ (p : Int))) (pc' := 81) dX12_next0_78 rfl kf_RX12_206 (by decide) (by decide) rfl (S.b 99 rfl rfl) (S.o 99 rfl rfl rfl) (vi_same) ?_
    refine Go_callV_i (pc' := 84) (As := [.int _]) (st := []) dX12_next0_81 rfl ok_X12_see km_RX12_252 (S.o 99 rfl rfl rfl) (S.b 99 rfl rfl) ⟨_, _, rfl⟩ rfl (Nat.le_of_ble_eq_true rfl) rfl rfl rfl (Nat.le_of_ble_eq_true rfl) (Nat.lt_succ_self _) ?_
    refine s_see (p := p) (TM.w F (by decide)) (by omega) ?_
    refine ⟨_, rfl, ?_⟩
    refine Go_callS_i (pc' := 87) (As := [.int _]) (st := []) dX12_next0_84 rfl ok_X12_isLetter km_RX12_258 rfl (Nat.le_of_ble_eq_true rfl) rfl rfl rfl (Nat.le_of_ble_eq_true rfl) (Nat.lt_succ_self _) ?_
    refine Go_iload_n (pc' := 1) dX12_isLetter_0 rfl rfl rfl ?_
    refine Go_bipush (v := iZ 97) (pc' := 3) dX12_isLetter_1 rfl (by decide) ?_
    refine Go_bipush (v := iZ 122) (pc' := 5) dX12_isLetter_3 rfl (by decide) ?_
    refine Go_callS_i (pc' := 8) (As := [.int _, .int _, .int _]) (st := []) dX12_isLetter_5 rfl ok_X12_isIn km_RX12_147 rfl (Nat.le_of_ble_eq_true rfl) rfl rfl rfl (Nat.le_of_ble_eq_true rfl) (Nat.lt_succ_self _) ?_
    refine s_isInY (by first | exact ⟨i_lo _, i_hi _⟩ | omega) (by first | exact ⟨i_lo _, i_hi _⟩ | omega) (by first | exact ⟨i_lo _, i_hi _⟩ | omega) ?_
    refine ⟨_, rfl, ?_⟩
    refine Go_if_neb (tgt := 22) (pc' := 11) dX12_isLetter_8 (by decide) rfl (fun l8 => ?_) (fun l8 => ?_)
    · refine Go_iconst (v := iZ 1) (pc' := 23) dX12_isLetter_22 rfl (by decide) ?_
      refine Go_goto (tgt := 27) dX12_isLetter_23 (by decide) ?_
      refine Go_ireturn (ty := .boolean) dX12_isLetter_27 rfl rfl ?_
      refine ⟨_, rfl, ?_⟩
      refine Go_if_eqY (tgt := 103) (pc' := 90) dX12_next0_87 (by decide) rfl (by first | exact ⟨i_lo _, i_hi _⟩ | omega) (fun c87 => by exfalso; omega) (fun c87 => ?_)
      refine Go_aload_n (pc' := 91) dX12_next0_90 rfl rfl rfl ?_
      refine Go_dup (pc' := 92) dX12_next0_91 rfl rfl ?_
      refine Go_getIv (v := (iZ (p : Int))) (pc' := 95) dX12_next0_92 rfl kf_RX12_206 (by decide) (by decide) rfl (S.b 99 rfl rfl) (S.o 99 rfl rfl rfl) (vi_same) ?_
      refine Go_iconst (v := iZ 1) (pc' := 96) dX12_next0_95 rfl (by decide) ?_
      refine Go_iaddZ (pc' := 97) dX12_next0_96 rfl ?_
      refine Go_putI (pc' := 100) dX12_next0_97 rfl kf_RX12_206 (by decide) (by decide) rfl (S.b 99 rfl rfl) (S.o 99 rfl rfl rfl) (Or.inl rfl) rfl rfl ?_
      refine Go_goto (tgt := 76) dX12_next0_100 (by decide) ?_
      exfalso; omega
    · refine Go_iload_n (pc' := 12) dX12_isLetter_11 rfl rfl rfl ?_
      refine Go_bipush (v := iZ 65) (pc' := 14) dX12_isLetter_12 rfl (by decide) ?_
      refine Go_bipush (v := iZ 90) (pc' := 16) dX12_isLetter_14 rfl (by decide) ?_
      refine Go_callS_i (pc' := 19) (As := [.int _, .int _, .int _]) (st := []) dX12_isLetter_16 rfl ok_X12_isIn km_RX12_147 rfl (Nat.le_of_ble_eq_true rfl) rfl rfl rfl (Nat.le_of_ble_eq_true rfl) (Nat.lt_succ_self _) ?_
      refine s_isInY (by first | exact ⟨i_lo _, i_hi _⟩ | omega) (by first | exact ⟨i_lo _, i_hi _⟩ | omega) (by first | exact ⟨i_lo _, i_hi _⟩ | omega) ?_
      refine ⟨_, rfl, ?_⟩
      refine Go_if_eqb (tgt := 26) (pc' := 22) dX12_isLetter_19 (by decide) rfl (fun l19 => ?_) (fun l19 => ?_)
      · refine Go_iconst (v := iZ 0) (pc' := 27) dX12_isLetter_26 rfl (by decide) ?_
        refine Go_ireturn (ty := .boolean) dX12_isLetter_27 rfl rfl ?_
        refine ⟨_, rfl, ?_⟩
        refine Go_if_eqY (tgt := 103) (pc' := 90) dX12_next0_87 (by decide) rfl (by first | exact ⟨i_lo _, i_hi _⟩ | omega) (fun c87 => ?_) (fun c87 => by exfalso; omega)
        exact hk
      · refine Go_iconst (v := iZ 1) (pc' := 23) dX12_isLetter_22 rfl (by decide) ?_
        refine Go_goto (tgt := 27) dX12_isLetter_23 (by decide) ?_
        refine Go_ireturn (ty := .boolean) dX12_isLetter_27 rfl rfl ?_
        refine ⟨_, rfl, ?_⟩
        refine Go_if_eqY (tgt := 103) (pc' := 90) dX12_next0_87 (by decide) rfl (by first | exact ⟨i_lo _, i_hi _⟩ | omega) (fun c87 => by exfalso; omega) (fun c87 => ?_)
        refine Go_aload_n (pc' := 91) dX12_next0_90 rfl rfl rfl ?_
        refine Go_dup (pc' := 92) dX12_next0_91 rfl rfl ?_
        refine Go_getIv (v := (iZ (p : Int))) (pc' := 95) dX12_next0_92 rfl kf_RX12_206 (by decide) (by decide) rfl (S.b 99 rfl rfl) (S.o 99 rfl rfl rfl) (vi_same) ?_
        refine Go_iconst (v := iZ 1) (pc' := 96) dX12_next0_95 rfl (by decide) ?_
        refine Go_iaddZ (pc' := 97) dX12_next0_96 rfl ?_
        refine Go_putI (pc' := 100) dX12_next0_97 rfl kf_RX12_206 (by decide) (by decide) rfl (S.b 99 rfl rfl) (S.o 99 rfl rfl rfl) (Or.inl rfl) rfl rfl ?_
        refine Go_goto (tgt := 76) dX12_next0_100 (by decide) ?_
        exfalso; omega
  | succ m ih =>
    intro p hm hk
    have tp := (ht p (by omega)).2
    have hs := sT_t (T := T) (n := n) (p := p) (by omega)
    refine Go_aload_n (pc' := 77) dX12_next0_76 rfl rfl rfl ?_
    refine Go_aload_n (pc' := 78) dX12_next0_77 rfl rfl rfl ?_
    refine Go_getIv (v := (iZ (p : Int))) (pc' := 81) dX12_next0_78 rfl kf_RX12_206 (by decide) (by decide) rfl (S.b 99 rfl rfl) (S.o 99 rfl rfl rfl) (vi_same) ?_
    refine Go_callV_i (pc' := 84) (As := [.int _]) (st := []) dX12_next0_81 rfl ok_X12_see km_RX12_252 (S.o 99 rfl rfl rfl) (S.b 99 rfl rfl) ⟨_, _, rfl⟩ rfl (Nat.le_of_ble_eq_true rfl) rfl rfl rfl (Nat.le_of_ble_eq_true rfl) (Nat.lt_succ_self _) ?_
    refine s_see (p := p) (TM.w F (by decide)) (by omega) ?_
    refine ⟨_, rfl, ?_⟩
    refine Go_callS_i (pc' := 87) (As := [.int _]) (st := []) dX12_next0_84 rfl ok_X12_isLetter km_RX12_258 rfl (Nat.le_of_ble_eq_true rfl) rfl rfl rfl (Nat.le_of_ble_eq_true rfl) (Nat.lt_succ_self _) ?_
    refine Go_iload_n (pc' := 1) dX12_isLetter_0 rfl rfl rfl ?_
    refine Go_bipush (v := iZ 97) (pc' := 3) dX12_isLetter_1 rfl (by decide) ?_
    refine Go_bipush (v := iZ 122) (pc' := 5) dX12_isLetter_3 rfl (by decide) ?_
    refine Go_callS_i (pc' := 8) (As := [.int _, .int _, .int _]) (st := []) dX12_isLetter_5 rfl ok_X12_isIn km_RX12_147 rfl (Nat.le_of_ble_eq_true rfl) rfl rfl rfl (Nat.le_of_ble_eq_true rfl) (Nat.lt_succ_self _) ?_
    refine s_isInY (by first | exact ⟨i_lo _, i_hi _⟩ | omega) (by first | exact ⟨i_lo _, i_hi _⟩ | omega) (by first | exact ⟨i_lo _, i_hi _⟩ | omega) ?_
    refine ⟨_, rfl, ?_⟩
    refine Go_if_neb (tgt := 22) (pc' := 11) dX12_isLetter_8 (by decide) rfl (fun l8 => ?_) (fun l8 => ?_)
    · refine Go_iconst (v := iZ 1) (pc' := 23) dX12_isLetter_22 rfl (by decide) ?_
      refine Go_goto (tgt := 27) dX12_isLetter_23 (by decide) ?_
      refine Go_ireturn (ty := .boolean) dX12_isLetter_27 rfl rfl ?_
      refine ⟨_, rfl, ?_⟩
      refine Go_if_eqY (tgt := 103) (pc' := 90) dX12_next0_87 (by decide) rfl (by first | exact ⟨i_lo _, i_hi _⟩ | omega) (fun c87 => by exfalso; omega) (fun c87 => ?_)
      refine Go_aload_n (pc' := 91) dX12_next0_90 rfl rfl rfl ?_
      refine Go_dup (pc' := 92) dX12_next0_91 rfl rfl ?_
      refine Go_getIv (v := (iZ (p : Int))) (pc' := 95) dX12_next0_92 rfl kf_RX12_206 (by decide) (by decide) rfl (S.b 99 rfl rfl) (S.o 99 rfl rfl rfl) (vi_same) ?_
      refine Go_iconst (v := iZ 1) (pc' := 96) dX12_next0_95 rfl (by decide) ?_
      refine Go_iaddZ (pc' := 97) dX12_next0_96 rfl ?_
      refine Go_putI (pc' := 100) dX12_next0_97 rfl kf_RX12_206 (by decide) (by decide) rfl (S.b 99 rfl rfl) (S.o 99 rfl rfl rfl) (Or.inl rfl) rfl rfl ?_
      refine Go_goto (tgt := 76) dX12_next0_100 (by decide) ?_
      rw [skp_t (by unfold leB; rw [decide_eq_true_iff]; omega)] at hk
      rw [wI_wI]
      exact ih (p + 1) (by omega) hk
    · refine Go_iload_n (pc' := 12) dX12_isLetter_11 rfl rfl rfl ?_
      refine Go_bipush (v := iZ 65) (pc' := 14) dX12_isLetter_12 rfl (by decide) ?_
      refine Go_bipush (v := iZ 90) (pc' := 16) dX12_isLetter_14 rfl (by decide) ?_
      refine Go_callS_i (pc' := 19) (As := [.int _, .int _, .int _]) (st := []) dX12_isLetter_16 rfl ok_X12_isIn km_RX12_147 rfl (Nat.le_of_ble_eq_true rfl) rfl rfl rfl (Nat.le_of_ble_eq_true rfl) (Nat.lt_succ_self _) ?_
      refine s_isInY (by first | exact ⟨i_lo _, i_hi _⟩ | omega) (by first | exact ⟨i_lo _, i_hi _⟩ | omega) (by first | exact ⟨i_lo _, i_hi _⟩ | omega) ?_
      refine ⟨_, rfl, ?_⟩
      refine Go_if_eqb (tgt := 26) (pc' := 22) dX12_isLetter_19 (by decide) rfl (fun l19 => ?_) (fun l19 => ?_)
      · refine Go_iconst (v := iZ 0) (pc' := 27) dX12_isLetter_26 rfl (by decide) ?_
        refine Go_ireturn (ty := .boolean) dX12_isLetter_27 rfl rfl ?_
        refine ⟨_, rfl, ?_⟩
        refine Go_if_eqY (tgt := 103) (pc' := 90) dX12_next0_87 (by decide) rfl (by first | exact ⟨i_lo _, i_hi _⟩ | omega) (fun c87 => ?_) (fun c87 => by exfalso; omega)
        rw [skp_f (by unfold leB; rw [decide_eq_true_iff]; omega)] at hk; exact hk
      · refine Go_iconst (v := iZ 1) (pc' := 23) dX12_isLetter_22 rfl (by decide) ?_
        refine Go_goto (tgt := 27) dX12_isLetter_23 (by decide) ?_
        refine Go_ireturn (ty := .boolean) dX12_isLetter_27 rfl rfl ?_
        refine ⟨_, rfl, ?_⟩
        refine Go_if_eqY (tgt := 103) (pc' := 90) dX12_next0_87 (by decide) rfl (by first | exact ⟨i_lo _, i_hi _⟩ | omega) (fun c87 => by exfalso; omega) (fun c87 => ?_)
        refine Go_aload_n (pc' := 91) dX12_next0_90 rfl rfl rfl ?_
        refine Go_dup (pc' := 92) dX12_next0_91 rfl rfl ?_
        refine Go_getIv (v := (iZ (p : Int))) (pc' := 95) dX12_next0_92 rfl kf_RX12_206 (by decide) (by decide) rfl (S.b 99 rfl rfl) (S.o 99 rfl rfl rfl) (vi_same) ?_
        refine Go_iconst (v := iZ 1) (pc' := 96) dX12_next0_95 rfl (by decide) ?_
        refine Go_iaddZ (pc' := 97) dX12_next0_96 rfl ?_
        refine Go_putI (pc' := 100) dX12_next0_97 rfl kf_RX12_206 (by decide) (by decide) rfl (S.b 99 rfl rfl) (S.o 99 rfl rfl rfl) (Or.inl rfl) rfl rfl ?_
        refine Go_goto (tgt := 76) dX12_next0_100 (by decide) ?_
        rw [skp_t (by unfold leB; rw [decide_eq_true_iff]; omega)] at hk
        rw [wI_wI]
        exact ih (p + 1) (by omega) hk
set_option maxRecDepth 20000 in
set_option maxHeartbeats 1000000 in
theorem nd_loop {G : GC} {d mc ms : Nat} {H : HS} {K : Option Value → HS → Prop} {T : Nat → Int} {n : Nat} {x1 : Int} {p0 : Nat} (F : TM H T n) (e31 : vi H 99 31 = iZ (p0 : Int)) (hp0 : p0 ≤ n) : ∀ (m p : Nat) (N : Int), p + m = n → Go G (d + 2) mc ms M_X12_next0 189 [.ref 99, .int (iZ x1), un] [] (wI (wI H 99 32 (iZ (nv4 T p0 m p N))) 99 29 (iZ (skp diB T m p : Nat))) K → Go G (d + 2) mc ms M_X12_next0 126 [.ref 99, .int (iZ x1), un] [] (wI (wI H 99 32 (iZ N)) 99 29 (iZ (p : Int))) K := by
  obtain ⟨S, hn, en, ht⟩ := id F
  intro m
  induction m with
  | zero =>
    intro p N hm hk
    have hs := sT_f (T := T) (n := n) (p := p) (by omega)
    refine Go_aload_n (pc' := 127) dX12_next0_126 rfl rfl rfl ?_
    refine Go_aload_n (pc' := 128) dX12_next0_127 rfl rfl rfl ?_
    refine Go_getIv (v := (iZ (p : Int))) (pc' := 131) dX12_next0_128 rfl kf_RX12_206 (by decide) (by decide) rfl (S.b 99 rfl rfl) (S.o 99 rfl rfl rfl) (vi_same) ?_
    refine Go_callV_i (pc' := 134) (As := [.int _]) (st := []) dX12_next0_131 rfl ok_X12_see km_RX12_252 (S.o 99 rfl rfl rfl) (S.b 99 rfl rfl) ⟨_, _, rfl⟩ rfl (Nat.le_of_ble_eq_true rfl) rfl rfl rfl (Nat.le_of_ble_eq_true rfl) (Nat.lt_succ_self _) ?_
    refine s_see (p := p) (TM.w (TM.w F (by decide)) (by decide)) (by omega) ?_
    refine ⟨_, rfl, ?_⟩
    refine Go_callS_i (pc' := 137) (As := [.int _]) (st := []) dX12_next0_134 rfl ok_X12_isDigit km_RX12_264 rfl (Nat.le_of_ble_eq_true rfl) rfl rfl rfl (Nat.le_of_ble_eq_true rfl) (Nat.lt_succ_self _) ?_
    refine Go_iload_n (pc' := 1) dX12_isDigit_0 rfl rfl rfl ?_
    refine Go_bipush (v := iZ 48) (pc' := 3) dX12_isDigit_1 rfl (by decide) ?_
    refine Go_bipush (v := iZ 57) (pc' := 5) dX12_isDigit_3 rfl (by decide) ?_
    refine Go_callS_i (pc' := 8) (As := [.int _, .int _, .int _]) (st := []) dX12_isDigit_5 rfl ok_X12_isIn km_RX12_147 rfl (Nat.le_of_ble_eq_true rfl) rfl rfl rfl (Nat.le_of_ble_eq_true rfl) (Nat.lt_succ_self _) ?_
    refine s_isInY (by first | exact ⟨i_lo _, i_hi _⟩ | omega) (by first | exact ⟨i_lo _, i_hi _⟩ | omega) (by first | exact ⟨i_lo _, i_hi _⟩ | omega) ?_
    refine ⟨_, rfl, ?_⟩
    refine Go_ireturn (ty := .boolean) dX12_isDigit_8 rfl b2i_nb ?_
    refine ⟨_, rfl, ?_⟩
    refine Go_if_eqb (tgt := 189) (pc' := 140) dX12_next0_137 (by decide) rfl (fun c137 => ?_) (fun c137 => ?_)
    · exact hk
    · exfalso; omega
  | succ m ih =>
    intro p N hm hk
    have tp := (ht p (by omega)).2
    have hs := sT_t (T := T) (n := n) (p := p) (by omega)
    refine Go_aload_n (pc' := 127) dX12_next0_126 rfl rfl rfl ?_
    refine Go_aload_n (pc' := 128) dX12_next0_127 rfl rfl rfl ?_
    refine Go_getIv (v := (iZ (p : Int))) (pc' := 131) dX12_next0_128 rfl kf_RX12_206 (by decide) (by decide) rfl (S.b 99 rfl rfl) (S.o 99 rfl rfl rfl) (vi_same) ?_
    refine Go_callV_i (pc' := 134) (As := [.int _]) (st := []) dX12_next0_131 rfl ok_X12_see km_RX12_252 (S.o 99 rfl rfl rfl) (S.b 99 rfl rfl) ⟨_, _, rfl⟩ rfl (Nat.le_of_ble_eq_true rfl) rfl rfl rfl (Nat.le_of_ble_eq_true rfl) (Nat.lt_succ_self _) ?_
    refine s_see (p := p) (TM.w (TM.w F (by decide)) (by decide)) (by omega) ?_
    refine ⟨_, rfl, ?_⟩
    refine Go_callS_i (pc' := 137) (As := [.int _]) (st := []) dX12_next0_134 rfl ok_X12_isDigit km_RX12_264 rfl (Nat.le_of_ble_eq_true rfl) rfl rfl rfl (Nat.le_of_ble_eq_true rfl) (Nat.lt_succ_self _) ?_
    refine Go_iload_n (pc' := 1) dX12_isDigit_0 rfl rfl rfl ?_
    refine Go_bipush (v := iZ 48) (pc' := 3) dX12_isDigit_1 rfl (by decide) ?_
    refine Go_bipush (v := iZ 57) (pc' := 5) dX12_isDigit_3 rfl (by decide) ?_
    refine Go_callS_i (pc' := 8) (As := [.int _, .int _, .int _]) (st := []) dX12_isDigit_5 rfl ok_X12_isIn km_RX12_147 rfl (Nat.le_of_ble_eq_true rfl) rfl rfl rfl (Nat.le_of_ble_eq_true rfl) (Nat.lt_succ_self _) ?_
    refine s_isInY (by first | exact ⟨i_lo _, i_hi _⟩ | omega) (by first | exact ⟨i_lo _, i_hi _⟩ | omega) (by first | exact ⟨i_lo _, i_hi _⟩ | omega) ?_
    refine ⟨_, rfl, ?_⟩
    refine Go_ireturn (ty := .boolean) dX12_isDigit_8 rfl b2i_nb ?_
    refine ⟨_, rfl, ?_⟩
    refine Go_if_eqb (tgt := 189) (pc' := 140) dX12_next0_137 (by decide) rfl (fun c137 => ?_) (fun c137 => ?_)
    · rw [skp_f (by unfold diB; rw [decide_eq_true_iff]; omega), nv4_f (by unfold diB; rw [decide_eq_true_iff]; omega)] at hk; exact hk
    · refine Go_aload_n (pc' := 141) dX12_next0_140 rfl rfl rfl ?_
      refine Go_getIv (v := (iZ (p : Int))) (pc' := 144) dX12_next0_141 rfl kf_RX12_206 (by decide) (by decide) rfl (S.b 99 rfl rfl) (S.o 99 rfl rfl rfl) (vi_same) ?_
      refine Go_aload_n (pc' := 145) dX12_next0_144 rfl rfl rfl ?_
      refine Go_getIv (v := (iZ (p0 : Int))) (pc' := 148) dX12_next0_145 rfl kf_RX12_209 (by decide) (by decide) rfl (S.b 99 rfl rfl) (S.o 99 rfl rfl rfl) ((vi_skip (Or.inr (by decide))).trans ((vi_skip (Or.inr (by decide))).trans (e31))) ?_
      refine Go_iconst (v := iZ 4) (pc' := 149) dX12_next0_148 rfl (by decide) ?_
      refine Go_iaddZ (pc' := 150) dX12_next0_149 rfl ?_
      refine Go_icmp_geY (tgt := 176) (pc' := 153) dX12_next0_150 (by decide) rfl (by first | exact ⟨i_lo _, i_hi _⟩ | omega) (by first | exact ⟨i_lo _, i_hi _⟩ | omega) (fun c150 => ?_) (fun c150 => ?_)
      · refine Go_aload_n (pc' := 177) dX12_next0_176 rfl rfl rfl ?_
        refine Go_dup (pc' := 178) dX12_next0_177 rfl rfl ?_
        refine Go_getIv (v := (iZ (p : Int))) (pc' := 181) dX12_next0_178 rfl kf_RX12_206 (by decide) (by decide) rfl (S.b 99 rfl rfl) (S.o 99 rfl rfl rfl) (vi_same) ?_
        refine Go_iconst (v := iZ 1) (pc' := 182) dX12_next0_181 rfl (by decide) ?_
        refine Go_iaddZ (pc' := 183) dX12_next0_182 rfl ?_
        refine Go_putI (pc' := 186) dX12_next0_183 rfl kf_RX12_206 (by decide) (by decide) rfl (S.b 99 rfl rfl) (S.o 99 rfl rfl rfl) (Or.inl rfl) rfl rfl ?_
        refine Go_goto (tgt := 126) dX12_next0_186 (by decide) ?_
        rw [skp_t (by unfold diB; rw [decide_eq_true_iff]; omega), nv4_t (by unfold diB; rw [decide_eq_true_iff]; omega), if_neg (by omega)] at hk
        rw [wI_wI]
        exact ih (p + 1) _ (by omega) hk
      · refine Go_aload_n (pc' := 154) dX12_next0_153 rfl rfl rfl ?_
        refine Go_bipush (v := iZ 10) (pc' := 156) dX12_next0_154 rfl (by decide) ?_
        refine Go_aload_n (pc' := 157) dX12_next0_156 rfl rfl rfl ?_
        refine Go_getIv (v := (iZ N)) (pc' := 160) dX12_next0_157 rfl kf_RX12_267 (by decide) (by decide) rfl (S.b 99 rfl rfl) (S.o 99 rfl rfl rfl) ((vi_skip (Or.inr (by decide))).trans (vi_same)) ?_
        refine Go_imulZ (pc' := 161) dX12_next0_160 rfl ?_
        refine Go_aload_n (pc' := 162) dX12_next0_161 rfl rfl rfl ?_
        refine Go_aload_n (pc' := 163) dX12_next0_162 rfl rfl rfl ?_
        refine Go_getIv (v := (iZ (p : Int))) (pc' := 166) dX12_next0_163 rfl kf_RX12_206 (by decide) (by decide) rfl (S.b 99 rfl rfl) (S.o 99 rfl rfl rfl) (vi_same) ?_
        refine Go_callV_i (pc' := 169) (As := [.int _]) (st := [.int _, .ref _]) dX12_next0_166 rfl ok_X12_see km_RX12_252 (S.o 99 rfl rfl rfl) (S.b 99 rfl rfl) ⟨_, _, rfl⟩ rfl (Nat.le_of_ble_eq_true rfl) rfl rfl rfl (Nat.le_of_ble_eq_true rfl) (Nat.lt_succ_self _) ?_
        refine s_see (p := p) (TM.w (TM.w F (by decide)) (by decide)) (by omega) ?_
        refine ⟨_, rfl, ?_⟩
        refine Go_iaddZ (pc' := 170) dX12_next0_169 rfl ?_
        refine Go_bipush (v := iZ 48) (pc' := 172) dX12_next0_170 rfl (by decide) ?_
        refine Go_isubZ (pc' := 173) dX12_next0_172 rfl ?_
        refine Go_putI (pc' := 176) dX12_next0_173 rfl kf_RX12_267 (by decide) (by decide) rfl (S.b 99 rfl rfl) (S.o 99 rfl rfl rfl) (Or.inl rfl) rfl rfl ?_
        refine Go_aload_n (pc' := 177) dX12_next0_176 rfl rfl rfl ?_
        refine Go_dup (pc' := 178) dX12_next0_177 rfl rfl ?_
        refine Go_getIv (v := (iZ (p : Int))) (pc' := 181) dX12_next0_178 rfl kf_RX12_206 (by decide) (by decide) rfl (S.b 99 rfl rfl) (S.o 99 rfl rfl rfl) ((vi_skip (Or.inr (by decide))).trans (vi_same)) ?_
        refine Go_iconst (v := iZ 1) (pc' := 182) dX12_next0_181 rfl (by decide) ?_
        refine Go_iaddZ (pc' := 183) dX12_next0_182 rfl ?_
        refine Go_putI (pc' := 186) dX12_next0_183 rfl kf_RX12_206 (by decide) (by decide) rfl (S.b 99 rfl rfl) (S.o 99 rfl rfl rfl) (Or.inl rfl) rfl rfl ?_
        refine Go_goto (tgt := 126) dX12_next0_186 (by decide) ?_
        rw [skp_t (by unfold diB; rw [decide_eq_true_iff]; omega), nv4_t (by unfold diB; rw [decide_eq_true_iff]; omega), if_pos (by omega)] at hk
        rw [wI_cm (i := 99) (k := 29) (i' := 99) (k' := 32) (by decide), wI_wI, wI_wI]
        rw [hs]
        exact ih (p + 1) _ (by omega) hk
set_option maxRecDepth 20000 in
set_option maxHeartbeats 1000000 in
theorem im_loop {G : GC} {d mc ms : Nat} {H : HS} {K : Option Value → HS → Prop} {T : Nat → Int} {n : Nat} {p e j : Nat} (F : TM H T n) (hj : j < 15) (he : e ≤ n) (hpe : p ≤ e) (e2 : vi H 99 29 = iZ (e : Int)) (e4 : vi H 99 31 = iZ (p : Int)) (hl : e = p + (strT j).length) : ∀ (m k : Nat), k + m = (strT j).length → K (some (.int (b2i (mtB T p j m k = true)))) H → Go G (d + 4) mc ms M_X12_is 24 [.ref 99, .ref (1 + 2 * j), .int (iZ 1), .int (iZ (k : Int))] [] H K := by
  obtain ⟨S, hn, en, ht⟩ := id F
  have l10 := ln_10 j hj
  intro m
  induction m with
  | zero =>
    intro k hm hk
    refine Go_iload_n (pc' := 25) dX12_is_24 rfl rfl rfl ?_
    refine Go_aload_n (pc' := 26) dX12_is_25 rfl rfl rfl ?_
    refine Go_callVS_i (j := j) (pc' := 29) (As := []) (st := [.int _]) dX12_is_26 rfl ok_J0_length_8abf5 km_RX12_212 hj rfl rfl (Nat.le_of_ble_eq_true rfl) rfl rfl rfl (Nat.le_of_ble_eq_true rfl) (Nat.lt_succ_self _) ?_
    refine s_slen hj ?_
    refine ⟨_, rfl, ?_⟩
    refine Go_icmp_geY (tgt := 67) (pc' := 32) dX12_is_29 (by decide) rfl (by first | exact ⟨i_lo _, i_hi _⟩ | omega) (by first | exact ⟨i_lo _, i_hi _⟩ | omega) (fun c29 => ?_) (fun c29 => by exfalso; omega)
    refine Go_iload_n (pc' := 68) dX12_is_67 rfl rfl rfl ?_
    refine Go_ireturn (ty := .boolean) dX12_is_68 rfl rfl ?_
    exact hk
  | succ m ih =>
    intro k hm hk
    have tp := (ht (p + k) (by omega)).2
    refine Go_iload_n (pc' := 25) dX12_is_24 rfl rfl rfl ?_
    refine Go_aload_n (pc' := 26) dX12_is_25 rfl rfl rfl ?_
    refine Go_callVS_i (j := j) (pc' := 29) (As := []) (st := [.int _]) dX12_is_26 rfl ok_J0_length_8abf5 km_RX12_212 hj rfl rfl (Nat.le_of_ble_eq_true rfl) rfl rfl rfl (Nat.le_of_ble_eq_true rfl) (Nat.lt_succ_self _) ?_
    refine s_slen hj ?_
    refine ⟨_, rfl, ?_⟩
    refine Go_icmp_geY (tgt := 67) (pc' := 32) dX12_is_29 (by decide) rfl (by first | exact ⟨i_lo _, i_hi _⟩ | omega) (by first | exact ⟨i_lo _, i_hi _⟩ | omega) (fun c29 => by exfalso; omega) (fun c29 => ?_)
    refine Go_iload_n (pc' := 33) dX12_is_32 rfl rfl rfl ?_
    refine Go_if_eqY (tgt := 67) (pc' := 36) dX12_is_33 (by decide) rfl (by first | exact ⟨i_lo _, i_hi _⟩ | omega) (fun c33 => by exfalso; omega) (fun c33 => ?_)
    refine Go_aload_n (pc' := 37) dX12_is_36 rfl rfl rfl ?_
    refine Go_getRs (pc' := 40) dX12_is_37 rfl kf_RX12_58 (by decide) (by decide) rfl (S.b 99 rfl rfl) (S.o 99 rfl rfl rfl) (S.r 99 17 rfl rfl rfl) ?_
    refine Go_aload_n (pc' := 41) dX12_is_40 rfl rfl rfl ?_
    refine Go_getIv (v := (iZ (p : Int))) (pc' := 44) dX12_is_41 rfl kf_RX12_209 (by decide) (by decide) rfl (S.b 99 rfl rfl) (S.o 99 rfl rfl rfl) (e4) ?_
    refine Go_iload_n (pc' := 45) dX12_is_44 rfl rfl rfl ?_
    refine Go_iaddZ (pc' := 46) dX12_is_45 rfl ?_
    refine Go_ialoadZ (n := 600) (k := (p + k)) (v := (iZ (T (p + k)))) (pc' := 47) dX12_is_46 rfl (S.b 116 rfl rfl) (S.k 116 rfl rfl rfl) (by omega) (by omega) (by decide) ((ht (p + k) (by omega)).1) ?_
    refine Go_aload_n (pc' := 48) dX12_is_47 rfl rfl rfl ?_
    refine Go_iload_n (pc' := 49) dX12_is_48 rfl rfl rfl ?_
    refine Go_callVS_i (j := j) (pc' := 52) (As := [.int _]) (st := [.int _]) dX12_is_49 rfl ok_J0_charAt_5068e km_RX12_218 hj rfl rfl (Nat.le_of_ble_eq_true rfl) rfl rfl rfl (Nat.le_of_ble_eq_true rfl) (Nat.lt_succ_self _) ?_
    refine s_charAt hj (by omega) ?_
    rw [← iZ_self ((strT j).getD k 0)]
    refine ⟨_, rfl, ?_⟩
    refine Go_icmp_neY (tgt := 59) (pc' := 55) dX12_is_52 (by decide) rfl (by first | exact ⟨i_lo _, i_hi _⟩ | omega) (by first | exact ⟨i_lo _, i_hi _⟩ | omega) (fun c52 => ?_) (fun c52 => ?_)
    · refine Go_iconst (v := iZ 0) (pc' := 60) dX12_is_59 rfl (by decide) ?_
      refine Go_istore_n (pc' := 61) (lv' := [.ref _, .ref _, .int _, .int _]) dX12_is_60 rfl rfl (Nat.le_of_ble_eq_true rfl) rfl rfl ?_
      refine Go_iincZ (pc' := 64) (lv' := [.ref _, .ref _, .int _, .int _]) dX12_is_61 rfl rfl (Nat.le_of_ble_eq_true rfl) rfl rfl ?_
      refine Go_goto (tgt := 24) dX12_is_64 (by decide) ?_
      refine Go_iload_n (pc' := 25) dX12_is_24 rfl rfl rfl ?_
      refine Go_aload_n (pc' := 26) dX12_is_25 rfl rfl rfl ?_
      refine Go_callVS_i (j := j) (pc' := 29) (As := []) (st := [.int _]) dX12_is_26 rfl ok_J0_length_8abf5 km_RX12_212 hj rfl rfl (Nat.le_of_ble_eq_true rfl) rfl rfl rfl (Nat.le_of_ble_eq_true rfl) (Nat.lt_succ_self _) ?_
      refine s_slen hj ?_
      refine ⟨_, rfl, ?_⟩
      refine Go_icmp_geY (tgt := 67) (pc' := 32) dX12_is_29 (by decide) rfl (by first | exact ⟨i_lo _, i_hi _⟩ | omega) (by first | exact ⟨i_lo _, i_hi _⟩ | omega) (fun c29 => ?_) (fun c29 => ?_)
      · refine Go_iload_n (pc' := 68) dX12_is_67 rfl rfl rfl ?_
        refine Go_ireturn (ty := .boolean) dX12_is_68 rfl rfl ?_
        rw [mtB_f c52] at hk; exact hk
      · refine Go_iload_n (pc' := 33) dX12_is_32 rfl rfl rfl ?_
        refine Go_if_eqY (tgt := 67) (pc' := 36) dX12_is_33 (by decide) rfl (by first | exact ⟨i_lo _, i_hi _⟩ | omega) (fun c33 => ?_) (fun c33 => by exfalso; omega)
        refine Go_iload_n (pc' := 68) dX12_is_67 rfl rfl rfl ?_
        refine Go_ireturn (ty := .boolean) dX12_is_68 rfl rfl ?_
        rw [mtB_f c52] at hk; exact hk
    · refine Go_iconst (v := iZ 1) (pc' := 56) dX12_is_55 rfl (by decide) ?_
      refine Go_goto (tgt := 60) dX12_is_56 (by decide) ?_
      refine Go_istore_n (pc' := 61) (lv' := [.ref _, .ref _, .int _, .int _]) dX12_is_60 rfl rfl (Nat.le_of_ble_eq_true rfl) rfl rfl ?_
      refine Go_iincZ (pc' := 64) (lv' := [.ref _, .ref _, .int _, .int _]) dX12_is_61 rfl rfl (Nat.le_of_ble_eq_true rfl) rfl rfl ?_
      refine Go_goto (tgt := 24) dX12_is_64 (by decide) ?_
      rw [mtB_t c52] at hk
      exact ih (k + 1) (by omega) hk
set_option maxRecDepth 20000 in
set_option maxHeartbeats 1000000 in
theorem s_is {G : GC} {d mc ms : Nat} {H : HS} {K : Option Value → HS → Prop} {T : Nat → Int} {n : Nat} {p e j : Nat} (F : TM H T n) (hj : j < 15) (he : e ≤ n) (hpe : p ≤ e) (e2 : vi H 99 29 = iZ (e : Int)) (e4 : vi H 99 31 = iZ (p : Int)) (hk : K (some (.int (b2i (wdP T p e j)))) H) : Go G (d + 4) mc ms M_X12_is 0 [.ref 99, .ref (1 + 2 * j), un, un] [] H K := by
  obtain ⟨S, hn, en, ht⟩ := id F
  have l10 := ln_10 j hj
  refine Go_aload_n (pc' := 1) dX12_is_0 rfl rfl rfl ?_
  refine Go_getIv (v := (iZ (e : Int))) (pc' := 4) dX12_is_1 rfl kf_RX12_206 (by decide) (by decide) rfl (S.b 99 rfl rfl) (S.o 99 rfl rfl rfl) (e2) ?_
  refine Go_aload_n (pc' := 5) dX12_is_4 rfl rfl rfl ?_
  refine Go_getIv (v := (iZ (p : Int))) (pc' := 8) dX12_is_5 rfl kf_RX12_209 (by decide) (by decide) rfl (S.b 99 rfl rfl) (S.o 99 rfl rfl rfl) (e4) ?_
  refine Go_isubZ (pc' := 9) dX12_is_8 rfl ?_
  refine Go_aload_n (pc' := 10) dX12_is_9 rfl rfl rfl ?_
  refine Go_callVS_i (j := j) (pc' := 13) (As := []) (st := [.int _]) dX12_is_10 rfl ok_J0_length_8abf5 km_RX12_212 hj rfl rfl (Nat.le_of_ble_eq_true rfl) rfl rfl rfl (Nat.le_of_ble_eq_true rfl) (Nat.lt_succ_self _) ?_
  refine s_slen hj ?_
  refine ⟨_, rfl, ?_⟩
  refine Go_icmp_neY (tgt := 20) (pc' := 16) dX12_is_13 (by decide) rfl (by first | exact ⟨i_lo _, i_hi _⟩ | omega) (by first | exact ⟨i_lo _, i_hi _⟩ | omega) (fun c13 => ?_) (fun c13 => ?_)
  · refine Go_iconst (v := iZ 0) (pc' := 21) dX12_is_20 rfl (by decide) ?_
    refine Go_istore_n (pc' := 22) (lv' := [.ref _, .ref _, .int _, un]) dX12_is_21 rfl rfl (Nat.le_of_ble_eq_true rfl) rfl rfl ?_
    refine Go_iconst (v := iZ 0) (pc' := 23) dX12_is_22 rfl (by decide) ?_
    refine Go_istore_n (pc' := 24) (lv' := [.ref _, .ref _, .int _, .int _]) dX12_is_23 rfl rfl (Nat.le_of_ble_eq_true rfl) rfl rfl ?_
    refine Go_iload_n (pc' := 25) dX12_is_24 rfl rfl rfl ?_
    refine Go_aload_n (pc' := 26) dX12_is_25 rfl rfl rfl ?_
    refine Go_callVS_i (j := j) (pc' := 29) (As := []) (st := [.int _]) dX12_is_26 rfl ok_J0_length_8abf5 km_RX12_212 hj rfl rfl (Nat.le_of_ble_eq_true rfl) rfl rfl rfl (Nat.le_of_ble_eq_true rfl) (Nat.lt_succ_self _) ?_
    refine s_slen hj ?_
    refine ⟨_, rfl, ?_⟩
    refine Go_icmp_geY (tgt := 67) (pc' := 32) dX12_is_29 (by decide) rfl (by first | exact ⟨i_lo _, i_hi _⟩ | omega) (by first | exact ⟨i_lo _, i_hi _⟩ | omega) (fun c29 => ?_) (fun c29 => ?_)
    · refine Go_iload_n (pc' := 68) dX12_is_67 rfl rfl rfl ?_
      refine Go_ireturn (ty := .boolean) dX12_is_68 rfl rfl ?_
      rw [b2i_f (fun z : wdP T p e j => by have := z.1; omega)] at hk; exact hk
    · refine Go_iload_n (pc' := 33) dX12_is_32 rfl rfl rfl ?_
      refine Go_if_eqY (tgt := 67) (pc' := 36) dX12_is_33 (by decide) rfl (by first | exact ⟨i_lo _, i_hi _⟩ | omega) (fun c33 => ?_) (fun c33 => by exfalso; omega)
      refine Go_iload_n (pc' := 68) dX12_is_67 rfl rfl rfl ?_
      refine Go_ireturn (ty := .boolean) dX12_is_68 rfl rfl ?_
      rw [b2i_f (fun z : wdP T p e j => by have := z.1; omega)] at hk; exact hk
  · refine Go_iconst (v := iZ 1) (pc' := 17) dX12_is_16 rfl (by decide) ?_
    refine Go_goto (tgt := 21) dX12_is_17 (by decide) ?_
    refine Go_istore_n (pc' := 22) (lv' := [.ref _, .ref _, .int _, un]) dX12_is_21 rfl rfl (Nat.le_of_ble_eq_true rfl) rfl rfl ?_
    refine Go_iconst (v := iZ 0) (pc' := 23) dX12_is_22 rfl (by decide) ?_
    refine Go_istore_n (pc' := 24) (lv' := [.ref _, .ref _, .int _, .int _]) dX12_is_23 rfl rfl (Nat.le_of_ble_eq_true rfl) rfl rfl ?_
    refine im_loop F hj he hpe e2 e4 (by omega) (strT j).length 0 (Nat.zero_add _) ?_
    rw [b2i_congr (show wdP T p e j ↔ mtB T p j (strT j).length 0 = true from ⟨fun z => z.2, fun z => ⟨by omega, z⟩⟩)] at hk; exact hk
set_option maxRecDepth 20000 in
set_option maxHeartbeats 1000000 in
theorem s_word {G : GC} {d mc ms : Nat} {H : HS} {K : Option Value → HS → Prop} {T : Nat → Int} {n : Nat} {p e : Nat} (F : TM H T n) (he : e ≤ n) (hpe : p ≤ e) (e2 : vi H 99 29 = iZ (e : Int)) (e4 : vi H 99 31 = iZ (p : Int)) (hk : K (some (.int (iZ (mtk (kwf T p e 14 0 : Nat))))) H) : Go G (d + 5) mc ms M_X12_word 0 [.ref 99] [] H K := by
  obtain ⟨S, hn, en, ht⟩ := id F
  refine Go_aload_n (pc' := 1) dX12_word_0 rfl rfl rfl ?_
  refine Go_ldcS (tx := "truck") (j := 0) (pc' := 3) dX12_word_1 rfl (by decide +kernel) (by decide) ?_
  refine Go_callV_i (pc' := 6) (As := [.ref _]) (st := []) dX12_word_3 rfl ok_X12_is km_RX12_224 (S.o 99 rfl rfl rfl) (S.b 99 rfl rfl) ⟨_, _, rfl⟩ rfl (Nat.le_of_ble_eq_true rfl) rfl rfl rfl (Nat.le_of_ble_eq_true rfl) (Nat.lt_succ_self _) ?_
  refine s_is F (j := 0) (by decide) he hpe e2 e4 ?_
  refine ⟨_, rfl, ?_⟩
  refine Go_if_eqb (tgt := 12) (pc' := 9) dX12_word_6 (by decide) rfl (fun c6 => ?_) (fun c6 => ?_)
  · refine Go_aload_n (pc' := 13) dX12_word_12 rfl rfl rfl ?_
    refine Go_ldcS (tx := "blast") (j := 1) (pc' := 15) dX12_word_13 rfl (by decide +kernel) (by decide) ?_
    refine Go_callV_i (pc' := 18) (As := [.ref _]) (st := []) dX12_word_15 rfl ok_X12_is km_RX12_224 (S.o 99 rfl rfl rfl) (S.b 99 rfl rfl) ⟨_, _, rfl⟩ rfl (Nat.le_of_ble_eq_true rfl) rfl rfl rfl (Nat.le_of_ble_eq_true rfl) (Nat.lt_succ_self _) ?_
    refine s_is F (j := 1) (by decide) he hpe e2 e4 ?_
    refine ⟨_, rfl, ?_⟩
    refine Go_if_eqb (tgt := 24) (pc' := 21) dX12_word_18 (by decide) rfl (fun c18 => ?_) (fun c18 => ?_)
    · refine Go_aload_n (pc' := 25) dX12_word_24 rfl rfl rfl ?_
      refine Go_ldcS (tx := "quake") (j := 2) (pc' := 27) dX12_word_25 rfl (by decide +kernel) (by decide) ?_
      refine Go_callV_i (pc' := 30) (As := [.ref _]) (st := []) dX12_word_27 rfl ok_X12_is km_RX12_224 (S.o 99 rfl rfl rfl) (S.b 99 rfl rfl) ⟨_, _, rfl⟩ rfl (Nat.le_of_ble_eq_true rfl) rfl rfl rfl (Nat.le_of_ble_eq_true rfl) (Nat.lt_succ_self _) ?_
      refine s_is F (j := 2) (by decide) he hpe e2 e4 ?_
      refine ⟨_, rfl, ?_⟩
      refine Go_if_eqb (tgt := 36) (pc' := 33) dX12_word_30 (by decide) rfl (fun c30 => ?_) (fun c30 => ?_)
      · refine Go_aload_n (pc' := 37) dX12_word_36 rfl rfl rfl ?_
        refine Go_ldcS (tx := "when") (j := 3) (pc' := 39) dX12_word_37 rfl (by decide +kernel) (by decide) ?_
        refine Go_callV_i (pc' := 42) (As := [.ref _]) (st := []) dX12_word_39 rfl ok_X12_is km_RX12_224 (S.o 99 rfl rfl rfl) (S.b 99 rfl rfl) ⟨_, _, rfl⟩ rfl (Nat.le_of_ble_eq_true rfl) rfl rfl rfl (Nat.le_of_ble_eq_true rfl) (Nat.lt_succ_self _) ?_
        refine s_is F (j := 3) (by decide) he hpe e2 e4 ?_
        refine ⟨_, rfl, ?_⟩
        refine Go_if_eqb (tgt := 47) (pc' := 45) dX12_word_42 (by decide) rfl (fun c42 => ?_) (fun c42 => ?_)
        · refine Go_aload_n (pc' := 48) dX12_word_47 rfl rfl rfl ?_
          refine Go_ldcS (tx := "or") (j := 4) (pc' := 50) dX12_word_48 rfl (by decide +kernel) (by decide) ?_
          refine Go_callV_i (pc' := 53) (As := [.ref _]) (st := []) dX12_word_50 rfl ok_X12_is km_RX12_224 (S.o 99 rfl rfl rfl) (S.b 99 rfl rfl) ⟨_, _, rfl⟩ rfl (Nat.le_of_ble_eq_true rfl) rfl rfl rfl (Nat.le_of_ble_eq_true rfl) (Nat.lt_succ_self _) ?_
          refine s_is F (j := 4) (by decide) he hpe e2 e4 ?_
          refine ⟨_, rfl, ?_⟩
          refine Go_if_eqb (tgt := 58) (pc' := 56) dX12_word_53 (by decide) rfl (fun c53 => ?_) (fun c53 => ?_)
          · refine Go_aload_n (pc' := 59) dX12_word_58 rfl rfl rfl ?_
            refine Go_ldcS (tx := "and") (j := 5) (pc' := 61) dX12_word_59 rfl (by decide +kernel) (by decide) ?_
            refine Go_callV_i (pc' := 64) (As := [.ref _]) (st := []) dX12_word_61 rfl ok_X12_is km_RX12_224 (S.o 99 rfl rfl rfl) (S.b 99 rfl rfl) ⟨_, _, rfl⟩ rfl (Nat.le_of_ble_eq_true rfl) rfl rfl rfl (Nat.le_of_ble_eq_true rfl) (Nat.lt_succ_self _) ?_
            refine s_is F (j := 5) (by decide) he hpe e2 e4 ?_
            refine ⟨_, rfl, ?_⟩
            refine Go_if_eqb (tgt := 69) (pc' := 67) dX12_word_64 (by decide) rfl (fun c64 => ?_) (fun c64 => ?_)
            · refine Go_aload_n (pc' := 70) dX12_word_69 rfl rfl rfl ?_
              refine Go_ldcS (tx := "not") (j := 6) (pc' := 72) dX12_word_70 rfl (by decide +kernel) (by decide) ?_
              refine Go_callV_i (pc' := 75) (As := [.ref _]) (st := []) dX12_word_72 rfl ok_X12_is km_RX12_224 (S.o 99 rfl rfl rfl) (S.b 99 rfl rfl) ⟨_, _, rfl⟩ rfl (Nat.le_of_ble_eq_true rfl) rfl rfl rfl (Nat.le_of_ble_eq_true rfl) (Nat.lt_succ_self _) ?_
              refine s_is F (j := 6) (by decide) he hpe e2 e4 ?_
              refine ⟨_, rfl, ?_⟩
              refine Go_if_eqb (tgt := 81) (pc' := 78) dX12_word_75 (by decide) rfl (fun c75 => ?_) (fun c75 => ?_)
              · refine Go_aload_n (pc' := 82) dX12_word_81 rfl rfl rfl ?_
                refine Go_ldcS (tx := "hour") (j := 7) (pc' := 84) dX12_word_82 rfl (by decide +kernel) (by decide) ?_
                refine Go_callV_i (pc' := 87) (As := [.ref _]) (st := []) dX12_word_84 rfl ok_X12_is km_RX12_224 (S.o 99 rfl rfl rfl) (S.b 99 rfl rfl) ⟨_, _, rfl⟩ rfl (Nat.le_of_ble_eq_true rfl) rfl rfl rfl (Nat.le_of_ble_eq_true rfl) (Nat.lt_succ_self _) ?_
                refine s_is F (j := 7) (by decide) he hpe e2 e4 ?_
                refine ⟨_, rfl, ?_⟩
                refine Go_if_eqb (tgt := 93) (pc' := 90) dX12_word_87 (by decide) rfl (fun c87 => ?_) (fun c87 => ?_)
                · refine Go_aload_n (pc' := 94) dX12_word_93 rfl rfl rfl ?_
                  refine Go_ldcS (tx := "day") (j := 8) (pc' := 96) dX12_word_94 rfl (by decide +kernel) (by decide) ?_
                  refine Go_callV_i (pc' := 99) (As := [.ref _]) (st := []) dX12_word_96 rfl ok_X12_is km_RX12_224 (S.o 99 rfl rfl rfl) (S.b 99 rfl rfl) ⟨_, _, rfl⟩ rfl (Nat.le_of_ble_eq_true rfl) rfl rfl rfl (Nat.le_of_ble_eq_true rfl) (Nat.lt_succ_self _) ?_
                  refine s_is F (j := 8) (by decide) he hpe e2 e4 ?_
                  refine ⟨_, rfl, ?_⟩
                  refine Go_if_eqb (tgt := 105) (pc' := 102) dX12_word_99 (by decide) rfl (fun c99 => ?_) (fun c99 => ?_)
                  · refine Go_aload_n (pc' := 106) dX12_word_105 rfl rfl rfl ?_
                    refine Go_ldcS (tx := "peak") (j := 9) (pc' := 108) dX12_word_106 rfl (by decide +kernel) (by decide) ?_
                    refine Go_callV_i (pc' := 111) (As := [.ref _]) (st := []) dX12_word_108 rfl ok_X12_is km_RX12_224 (S.o 99 rfl rfl rfl) (S.b 99 rfl rfl) ⟨_, _, rfl⟩ rfl (Nat.le_of_ble_eq_true rfl) rfl rfl rfl (Nat.le_of_ble_eq_true rfl) (Nat.lt_succ_self _) ?_
                    refine s_is F (j := 9) (by decide) he hpe e2 e4 ?_
                    refine ⟨_, rfl, ?_⟩
                    refine Go_if_eqb (tgt := 117) (pc' := 114) dX12_word_111 (by decide) rfl (fun c111 => ?_) (fun c111 => ?_)
                    · refine Go_aload_n (pc' := 118) dX12_word_117 rfl rfl rfl ?_
                      refine Go_ldcS (tx := "length") (j := 10) (pc' := 120) dX12_word_118 rfl (by decide +kernel) (by decide) ?_
                      refine Go_callV_i (pc' := 123) (As := [.ref _]) (st := []) dX12_word_120 rfl ok_X12_is km_RX12_224 (S.o 99 rfl rfl rfl) (S.b 99 rfl rfl) ⟨_, _, rfl⟩ rfl (Nat.le_of_ble_eq_true rfl) rfl rfl rfl (Nat.le_of_ble_eq_true rfl) (Nat.lt_succ_self _) ?_
                      refine s_is F (j := 10) (by decide) he hpe e2 e4 ?_
                      refine ⟨_, rfl, ?_⟩
                      refine Go_if_eqb (tgt := 129) (pc' := 126) dX12_word_123 (by decide) rfl (fun c123 => ?_) (fun c123 => ?_)
                      · refine Go_aload_n (pc' := 130) dX12_word_129 rfl rfl rfl ?_
                        refine Go_ldcS (tx := "crossings") (j := 11) (pc' := 132) dX12_word_130 rfl (by decide +kernel) (by decide) ?_
                        refine Go_callV_i (pc' := 135) (As := [.ref _]) (st := []) dX12_word_132 rfl ok_X12_is km_RX12_224 (S.o 99 rfl rfl rfl) (S.b 99 rfl rfl) ⟨_, _, rfl⟩ rfl (Nat.le_of_ble_eq_true rfl) rfl rfl rfl (Nat.le_of_ble_eq_true rfl) (Nat.lt_succ_self _) ?_
                        refine s_is F (j := 11) (by decide) he hpe e2 e4 ?_
                        refine ⟨_, rfl, ?_⟩
                        refine Go_if_eqb (tgt := 141) (pc' := 138) dX12_word_135 (by decide) rfl (fun c135 => ?_) (fun c135 => ?_)
                        · refine Go_aload_n (pc' := 142) dX12_word_141 rfl rfl rfl ?_
                          refine Go_ldcS (tx := "rise") (j := 12) (pc' := 144) dX12_word_142 rfl (by decide +kernel) (by decide) ?_
                          refine Go_callV_i (pc' := 147) (As := [.ref _]) (st := []) dX12_word_144 rfl ok_X12_is km_RX12_224 (S.o 99 rfl rfl rfl) (S.b 99 rfl rfl) ⟨_, _, rfl⟩ rfl (Nat.le_of_ble_eq_true rfl) rfl rfl rfl (Nat.le_of_ble_eq_true rfl) (Nat.lt_succ_self _) ?_
                          refine s_is F (j := 12) (by decide) he hpe e2 e4 ?_
                          refine ⟨_, rfl, ?_⟩
                          refine Go_if_eqb (tgt := 153) (pc' := 150) dX12_word_147 (by decide) rfl (fun c147 => ?_) (fun c147 => ?_)
                          · refine Go_aload_n (pc' := 154) dX12_word_153 rfl rfl rfl ?_
                            refine Go_ldcS (tx := "clipped") (j := 13) (pc' := 156) dX12_word_154 rfl (by decide +kernel) (by decide) ?_
                            refine Go_callV_i (pc' := 159) (As := [.ref _]) (st := []) dX12_word_156 rfl ok_X12_is km_RX12_224 (S.o 99 rfl rfl rfl) (S.b 99 rfl rfl) ⟨_, _, rfl⟩ rfl (Nat.le_of_ble_eq_true rfl) rfl rfl rfl (Nat.le_of_ble_eq_true rfl) (Nat.lt_succ_self _) ?_
                            refine s_is F (j := 13) (by decide) he hpe e2 e4 ?_
                            refine ⟨_, rfl, ?_⟩
                            refine Go_if_eqb (tgt := 167) (pc' := 162) dX12_word_159 (by decide) rfl (fun c159 => ?_) (fun c159 => ?_)
                            · refine Go_iconst (v := iZ 1) (pc' := 168) dX12_word_167 rfl (by decide) ?_
                              refine Go_ireturn (ty := .int) dX12_word_168 rfl rfl ?_
                              rw [kwf_f c6, kwf_f c18, kwf_f c30, kwf_f c42, kwf_f c53, kwf_f c64, kwf_f c75, kwf_f c87, kwf_f c99, kwf_f c111, kwf_f c123, kwf_f c135, kwf_f c147, kwf_f c159] at hk; exact hk
                            · refine Go_bipush (v := iZ 27) (pc' := 164) dX12_word_162 rfl (by decide) ?_
                              refine Go_goto (tgt := 168) dX12_word_164 (by decide) ?_
                              refine Go_ireturn (ty := .int) dX12_word_168 rfl rfl ?_
                              rw [kwf_f c6, kwf_f c18, kwf_f c30, kwf_f c42, kwf_f c53, kwf_f c64, kwf_f c75, kwf_f c87, kwf_f c99, kwf_f c111, kwf_f c123, kwf_f c135, kwf_f c147, kwf_t c159] at hk; exact hk
                          · refine Go_bipush (v := iZ 26) (pc' := 152) dX12_word_150 rfl (by decide) ?_
                            refine Go_ireturn (ty := .int) dX12_word_152 rfl rfl ?_
                            rw [kwf_f c6, kwf_f c18, kwf_f c30, kwf_f c42, kwf_f c53, kwf_f c64, kwf_f c75, kwf_f c87, kwf_f c99, kwf_f c111, kwf_f c123, kwf_f c135, kwf_t c147] at hk; exact hk
                        · refine Go_bipush (v := iZ 25) (pc' := 140) dX12_word_138 rfl (by decide) ?_
                          refine Go_ireturn (ty := .int) dX12_word_140 rfl rfl ?_
                          rw [kwf_f c6, kwf_f c18, kwf_f c30, kwf_f c42, kwf_f c53, kwf_f c64, kwf_f c75, kwf_f c87, kwf_f c99, kwf_f c111, kwf_f c123, kwf_t c135] at hk; exact hk
                      · refine Go_bipush (v := iZ 24) (pc' := 128) dX12_word_126 rfl (by decide) ?_
                        refine Go_ireturn (ty := .int) dX12_word_128 rfl rfl ?_
                        rw [kwf_f c6, kwf_f c18, kwf_f c30, kwf_f c42, kwf_f c53, kwf_f c64, kwf_f c75, kwf_f c87, kwf_f c99, kwf_f c111, kwf_t c123] at hk; exact hk
                    · refine Go_bipush (v := iZ 23) (pc' := 116) dX12_word_114 rfl (by decide) ?_
                      refine Go_ireturn (ty := .int) dX12_word_116 rfl rfl ?_
                      rw [kwf_f c6, kwf_f c18, kwf_f c30, kwf_f c42, kwf_f c53, kwf_f c64, kwf_f c75, kwf_f c87, kwf_f c99, kwf_t c111] at hk; exact hk
                  · refine Go_bipush (v := iZ 22) (pc' := 104) dX12_word_102 rfl (by decide) ?_
                    refine Go_ireturn (ty := .int) dX12_word_104 rfl rfl ?_
                    rw [kwf_f c6, kwf_f c18, kwf_f c30, kwf_f c42, kwf_f c53, kwf_f c64, kwf_f c75, kwf_f c87, kwf_t c99] at hk; exact hk
                · refine Go_bipush (v := iZ 21) (pc' := 92) dX12_word_90 rfl (by decide) ?_
                  refine Go_ireturn (ty := .int) dX12_word_92 rfl rfl ?_
                  rw [kwf_f c6, kwf_f c18, kwf_f c30, kwf_f c42, kwf_f c53, kwf_f c64, kwf_f c75, kwf_t c87] at hk; exact hk
              · refine Go_bipush (v := iZ 6) (pc' := 80) dX12_word_78 rfl (by decide) ?_
                refine Go_ireturn (ty := .int) dX12_word_80 rfl rfl ?_
                rw [kwf_f c6, kwf_f c18, kwf_f c30, kwf_f c42, kwf_f c53, kwf_f c64, kwf_t c75] at hk; exact hk
            · refine Go_iconst (v := iZ 5) (pc' := 68) dX12_word_67 rfl (by decide) ?_
              refine Go_ireturn (ty := .int) dX12_word_68 rfl rfl ?_
              rw [kwf_f c6, kwf_f c18, kwf_f c30, kwf_f c42, kwf_f c53, kwf_t c64] at hk; exact hk
          · refine Go_iconst (v := iZ 4) (pc' := 57) dX12_word_56 rfl (by decide) ?_
            refine Go_ireturn (ty := .int) dX12_word_57 rfl rfl ?_
            rw [kwf_f c6, kwf_f c18, kwf_f c30, kwf_f c42, kwf_t c53] at hk; exact hk
        · refine Go_iconst (v := iZ 3) (pc' := 46) dX12_word_45 rfl (by decide) ?_
          refine Go_ireturn (ty := .int) dX12_word_46 rfl rfl ?_
          rw [kwf_f c6, kwf_f c18, kwf_f c30, kwf_t c42] at hk; exact hk
      · refine Go_bipush (v := iZ 13) (pc' := 35) dX12_word_33 rfl (by decide) ?_
        refine Go_ireturn (ty := .int) dX12_word_35 rfl rfl ?_
        rw [kwf_f c6, kwf_f c18, kwf_t c30] at hk; exact hk
    · refine Go_bipush (v := iZ 12) (pc' := 23) dX12_word_21 rfl (by decide) ?_
      refine Go_ireturn (ty := .int) dX12_word_23 rfl rfl ?_
      rw [kwf_f c6, kwf_t c18] at hk; exact hk
  · refine Go_bipush (v := iZ 11) (pc' := 11) dX12_word_9 rfl (by decide) ?_
    refine Go_ireturn (ty := .int) dX12_word_11 rfl rfl ?_
    rw [kwf_t c6] at hk; exact hk
