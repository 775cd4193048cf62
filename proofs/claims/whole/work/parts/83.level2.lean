/-! level of a number: the pair -/
set_option maxRecDepth 20000 in
set_option maxHeartbeats 1000000 in
theorem s_levelOf {G : GC} {d mc ms : Nat} {h : HS} {K : Option Value → HS → Prop} {v : Nat} (hv : v < 2 ^ 31) (hk : K (some (.int (nI (lev v)))) h) : Go G d mc ms M_X11_levelOf 0 [.int (nI v), un, un, un] [] h K := by
  by_cases h0 : v = 0
  · subst h0
    refine Go_iload_n (pc' := 1) dX11_levelOf_0 rfl rfl rfl ?_
    refine Go_if_gtZ (X := ((0 : Nat) : Int)) (tgt := 6) (pc' := 4) dX11_levelOf_1 (by decide) rfl (i_nI (by omega)) (fun c1 => ?_) (fun c1 => ?_)
    · exact absurd c1 (by omega)
    · refine Go_iconst (v := 0) (pc' := 5) dX11_levelOf_4 rfl (by decide) ?_
      refine Go_ireturn (ty := .int) dX11_levelOf_5 rfl rfl ?_
      exact hk
  · have e2 : nI v / 2 = nI (v / 2 ^ (0 + 1)) := by rw [show (2 : Int32) = nI 2 from rfl, pk_div hv (by decide) (by decide)]
    refine Go_iload_n (pc' := 1) dX11_levelOf_0 rfl rfl rfl ?_
    refine Go_if_gtZ (X := ((v : Nat) : Int)) (tgt := 6) (pc' := 4) dX11_levelOf_1 (by decide) rfl (i_nI (by omega)) (fun c1 => ?_) (fun c1 => ?_)
    · refine Go_iconst (v := 0) (pc' := 7) dX11_levelOf_6 rfl (by decide) ?_
      refine Go_istore_n (pc' := 8) (lv' := [.int _, .int _, un, un]) dX11_levelOf_7 rfl rfl (Nat.le_of_ble_eq_true rfl) rfl rfl ?_
      refine Go_iload_n (pc' := 9) dX11_levelOf_8 rfl rfl rfl ?_
      refine Go_iconst (v := 2) (pc' := 10) dX11_levelOf_9 rfl (by decide) ?_
      refine Go_idiv (pc' := 11) dX11_levelOf_10 rfl (by decide) ?_
      rw [e2]
      refine Go_istore_n (pc' := 12) (lv' := [.int _, .int _, .int _, un]) dX11_levelOf_11 rfl rfl (Nat.le_of_ble_eq_true rfl) rfl rfl ?_
      exact lev_loop hv hk 30 0 rfl (by omega)
    · exact absurd c1 (by omega)
set_option maxRecDepth 20000 in
set_option maxHeartbeats 1000000 in
theorem levM_end {G : GC} {d mc ms : Nat} {h : HS} {K : Option Value → HS → Prop} {v k : Nat} (h1 : 2 ^ k ≤ v) (h2 : v < 2 ^ (k + 1)) (hk30 : k ≤ 30) (hv : v < 2 ^ 31) (hk : K (some (.int (nI (lev v)))) h) : Go G d mc ms M_X12_levelOf 22 [.int (nI v), .int (nI k)] [] h K := by
  have hp : 2 ^ k < 2 ^ 31 := Nat.pow_lt_pow_right (by decide) (by omega)
  refine Go_bipush (v := 10) (pc' := 24) dX12_levelOf_22 rfl (by decide) ?_
  refine Go_iload_n (pc' := 25) dX12_levelOf_24 rfl rfl rfl ?_
  refine Go_imul (pc' := 26) dX12_levelOf_25 rfl ?_
  rw [show (10 : Int32) = nI 10 from rfl, pk_mul]
  refine Go_iload_n (pc' := 27) dX12_levelOf_26 rfl rfl rfl ?_
  refine Go_i2l (pc' := 28) dX12_levelOf_27 rfl ?_
  rw [nI_l hv]
  refine Go_lconst (v := 1) (pc' := 29) dX12_levelOf_28 rfl rfl ?_
  refine Go_iload_n (pc' := 30) dX12_levelOf_29 rfl rfl rfl ?_
  refine Go_lshl (pc' := 31) dX12_levelOf_30 rfl ?_
  rw [show (1 : Int64) = lN 1 from rfl, lv_shl (by omega) (by decide), Nat.one_mul]
  refine Go_lsub (pc' := 32) dX12_levelOf_31 rfl ?_
  rw [lN_sub h1]
  refine Go_ldc2 (pc' := 35) dX12_levelOf_32 rfl kn_RX12_362 ?_
  refine Go_lmul (pc' := 36) dX12_levelOf_35 rfl ?_
  rw [show (10 : Int64) = lN 10 from rfl, lN_mul]
  refine Go_iload_n (pc' := 37) dX12_levelOf_36 rfl rfl rfl ?_
  refine Go_lshr (pc' := 38) dX12_levelOf_37 rfl ?_
  rw [lv_shr (by omega) (by omega)]
  refine Go_l2i (pc' := 39) dX12_levelOf_38 rfl ?_
  rw [lN_i]
  refine Go_iadd (pc' := 40) dX12_levelOf_39 rfl ?_
  rw [nI_add]
  refine Go_ireturn (ty := .int) dX12_levelOf_40 rfl rfl ?_
  rw [lev_of h1 h2] at hk
  exact hk
set_option maxRecDepth 20000 in
set_option maxHeartbeats 1000000 in
theorem levM_loop {G : GC} {d mc ms : Nat} {h : HS} {K : Option Value → HS → Prop} {v : Nat} (hv : v < 2 ^ 31) (hk : K (some (.int (nI (lev v)))) h) : ∀ (n k : Nat), k + n = 30 → 2 ^ k ≤ v → Go G d mc ms M_X12_levelOf 8 [.int (nI v), .int (nI k)] [] h K := by
  intro n
  induction n with
  | zero =>
    intro k hkn hk2
    have e0 : v / 2 ^ (k + 1) = 0 := Nat.div_eq_of_lt (by rw [show k = 30 by omega]; exact hv)
    refine Go_iload_n (pc' := 9) dX12_levelOf_8 rfl rfl rfl ?_
    refine Go_iload_n (pc' := 10) dX12_levelOf_9 rfl rfl rfl ?_
    refine Go_iconst (v := 1) (pc' := 11) dX12_levelOf_10 rfl (by decide) ?_
    refine Go_iadd (pc' := 12) dX12_levelOf_11 rfl ?_
    rw [nI_1]
    refine Go_ishr (pc' := 13) dX12_levelOf_12 rfl ?_
    rw [pk_shrN hv _ (k + 1) (lv_sh (k + 1) (by omega))]
    refine Go_if_leZ (X := ((v / 2 ^ (k + 1) : Nat) : Int)) (tgt := 22) (pc' := 16) dX12_levelOf_13 (by decide) rfl (i_nI (by omega)) (fun c13 => ?_) (fun c13 => ?_)
    · exact levM_end hk2 (by rw [show k = 30 by omega]; exact hv) (by omega) hv hk
    · exact absurd c13 (by omega)
  | succ n ih =>
    intro k hkn hk2
    have hd1 : v / 2 ^ (k + 1) < 2 ^ 31 := Nat.lt_of_le_of_lt (Nat.div_le_self _ _) hv
    refine Go_iload_n (pc' := 9) dX12_levelOf_8 rfl rfl rfl ?_
    refine Go_iload_n (pc' := 10) dX12_levelOf_9 rfl rfl rfl ?_
    refine Go_iconst (v := 1) (pc' := 11) dX12_levelOf_10 rfl (by decide) ?_
    refine Go_iadd (pc' := 12) dX12_levelOf_11 rfl ?_
    rw [nI_1]
    refine Go_ishr (pc' := 13) dX12_levelOf_12 rfl ?_
    rw [pk_shrN hv _ (k + 1) (lv_sh (k + 1) (by omega))]
    refine Go_if_leZ (X := ((v / 2 ^ (k + 1) : Nat) : Int)) (tgt := 22) (pc' := 16) dX12_levelOf_13 (by decide) rfl (i_nI (by omega)) (fun c13 => ?_) (fun c13 => ?_)
    · exact levM_end hk2 (by have := Nat.two_pow_pos (k + 1); have := Nat.lt_of_div_lt_div (a := v) (b := 2 ^ (k + 1)) (c := 2 ^ (k + 1)) (by rw [Nat.div_self (by omega)]; omega); exact this) (by omega) hv hk
    · refine Go_iinc (pc' := 19) (lv' := [.int _, .int _]) dX12_levelOf_16 rfl rfl (nI_add _ 1) (Nat.le_of_ble_eq_true rfl) rfl rfl ?_
      refine Go_goto (tgt := 8) dX12_levelOf_19 (by decide) ?_
      exact ih (k + 1) (by omega) (by have := Nat.div_pos_iff.mp (show 0 < v / 2 ^ (k + 1) by omega); exact this.2)
set_option maxRecDepth 20000 in
set_option maxHeartbeats 1000000 in
theorem s_levelOfM {G : GC} {d mc ms : Nat} {h : HS} {K : Option Value → HS → Prop} {v : Nat} (hv : v < 2 ^ 31) (hk : K (some (.int (nI (lev v)))) h) : Go G d mc ms M_X12_levelOf 0 [.int (nI v), un] [] h K := by
  by_cases h0 : v = 0
  · subst h0
    refine Go_iload_n (pc' := 1) dX12_levelOf_0 rfl rfl rfl ?_
    refine Go_if_neZ (X := ((0 : Nat) : Int)) (tgt := 6) (pc' := 4) dX12_levelOf_1 (by decide) rfl (i_nI (by omega)) (fun c1 => ?_) (fun c1 => ?_)
    · exact absurd rfl c1
    · refine Go_iconst (v := 0) (pc' := 5) dX12_levelOf_4 rfl (by decide) ?_
      refine Go_ireturn (ty := .int) dX12_levelOf_5 rfl rfl ?_
      exact hk
  ·
    refine Go_iload_n (pc' := 1) dX12_levelOf_0 rfl rfl rfl ?_
    refine Go_if_neZ (X := ((v : Nat) : Int)) (tgt := 6) (pc' := 4) dX12_levelOf_1 (by decide) rfl (i_nI (by omega)) (fun c1 => ?_) (fun c1 => ?_)
    · refine Go_iconst (v := 0) (pc' := 7) dX12_levelOf_6 rfl (by decide) ?_
      refine Go_istore_n (pc' := 8) (lv' := [.int _, .int _]) dX12_levelOf_7 rfl rfl (Nat.le_of_ble_eq_true rfl) rfl rfl ?_
      exact levM_loop hv hk 30 0 rfl (by omega)
    · exact absurd c1 (by omega)
set_option maxRecDepth 20000 in
set_option maxHeartbeats 1000000 in
theorem pair27 {G : GC} (a : Int32) : PairI G M_X11_level M_X12_level [.int a] := by
  refine PairI.ro (fun h => if a.toInt < 0 then -1 else nI (lev a.toInt.toNat)) (fun h I K k => ?_) (fun h I K k => ?_)
  · show Go G 60 0 0 M_X11_level 0 [.ref 64, .int a] [] h K
    by_cases hn : a.toInt < 0
    · rw [if_pos hn] at k
      refine Go_iload_n (pc' := 1) dX11_level_0 rfl rfl rfl ?_
      refine Go_if_geZ (X := _) (tgt := 8) (pc' := 4) dX11_level_1 (by decide) rfl rfl (fun c1 => ?_) (fun c1 => ?_)
      · exact absurd c1 (by omega)
      · refine Go_iconst (v := (-1)) (pc' := 5) dX11_level_4 rfl (by decide) ?_
        refine Go_goto (tgt := 12) dX11_level_5 (by decide) ?_
        refine Go_ireturn (ty := .int) dX11_level_12 rfl rfl ?_
        exact k
    · rw [if_neg hn] at k
      obtain ⟨v, hv, rfl⟩ : ∃ v : Nat, v < 2 ^ 31 ∧ a = nI v := ⟨a.toInt.toNat, by have := i_hi a; omega, i_nat (by omega)⟩
      rw [i_nI hv] at k
      rw [show ((v : Int)).toNat = v by omega] at k
      refine Go_iload_n (pc' := 1) dX11_level_0 rfl rfl rfl ?_
      refine Go_if_geZ (X := ((v : Nat) : Int)) (tgt := 8) (pc' := 4) dX11_level_1 (by decide) rfl (i_nI (by omega)) (fun c1 => ?_) (fun c1 => ?_)
      · refine Go_iload_n (pc' := 9) dX11_level_8 rfl rfl rfl ?_
        refine Go_callS_i (pc' := 12) (As := [.int _]) (st := []) dX11_level_9 rfl ok_X11_levelOf km_RX11_287 rfl (Nat.le_of_ble_eq_true rfl) rfl rfl rfl (Nat.le_of_ble_eq_true rfl) (Nat.lt_succ_self _) ?_
        refine s_levelOf hv ?_
        refine ⟨_, rfl, ?_⟩
        refine Go_ireturn (ty := .int) dX11_level_12 rfl rfl ?_
        exact k
      · exact absurd c1 (by omega)
  · show Go G 60 0 0 M_X12_level 0 [.ref 99, .int a] [] h K
    by_cases hn : a.toInt < 0
    · rw [if_pos hn] at k
      refine Go_iload_n (pc' := 1) dX12_level_0 rfl rfl rfl ?_
      refine Go_if_geZ (X := _) (tgt := 8) (pc' := 4) dX12_level_1 (by decide) rfl rfl (fun c1 => ?_) (fun c1 => ?_)
      · exact absurd c1 (by omega)
      · refine Go_iconst (v := (-1)) (pc' := 5) dX12_level_4 rfl (by decide) ?_
        refine Go_goto (tgt := 12) dX12_level_5 (by decide) ?_
        refine Go_ireturn (ty := .int) dX12_level_12 rfl rfl ?_
        exact k
    · rw [if_neg hn] at k
      obtain ⟨v, hv, rfl⟩ : ∃ v : Nat, v < 2 ^ 31 ∧ a = nI v := ⟨a.toInt.toNat, by have := i_hi a; omega, i_nat (by omega)⟩
      rw [i_nI hv] at k
      rw [show ((v : Int)).toNat = v by omega] at k
      refine Go_iload_n (pc' := 1) dX12_level_0 rfl rfl rfl ?_
      refine Go_if_geZ (X := ((v : Nat) : Int)) (tgt := 8) (pc' := 4) dX12_level_1 (by decide) rfl (i_nI (by omega)) (fun c1 => ?_) (fun c1 => ?_)
      · refine Go_iload_n (pc' := 9) dX12_level_8 rfl rfl rfl ?_
        refine Go_callS_i (pc' := 12) (As := [.int _]) (st := []) dX12_level_9 rfl ok_X12_levelOf km_RX12_364 rfl (Nat.le_of_ble_eq_true rfl) rfl rfl rfl (Nat.le_of_ble_eq_true rfl) (Nat.lt_succ_self _) ?_
        refine s_levelOfM hv ?_
        refine ⟨_, rfl, ?_⟩
        refine Go_ireturn (ty := .int) dX12_level_12 rfl rfl ?_
        exact k
      · exact absurd c1 (by omega)
