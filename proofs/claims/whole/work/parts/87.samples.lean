/-! samples, clipped and missing ones, counts -/
/-- a cellar j with its object q and n samples -/
def Smp (h : HS) (j q n : Nat) : Prop := j < 6 ∧ CelS h q ∧ n ≤ 200 ∧ vi h q 8 = nI n ∧ vi h 107 j = nI n ∧ vi h q 4 = vi h 103 j ∧ rg (vi h q 4) 10 999 ∧ ∀ i, i < n → vi h 106 (200 * j + i) = vi h (q + 1) i ∧ smpOK (vi h (q + 1) i)
theorem smp_of {h : HS} {j q : Nat} (hj6 : j < 6) (CS : CelS h q) (CV : CelV h q j) : ∃ n, Smp h j q n := by
  obtain ⟨cA, cB, cC, cD, cE, cF, cG⟩ := CV
  obtain ⟨n, hn, en⟩ := of_rg (b := 200) cD.1.2
  have d := cD.2
  rw [en, i_nI (by omega)] at d
  exact ⟨n, hj6, CS, hn, en, cD.1.1.symm.trans en, cB.2.2.1, cB.2.2.2, fun i hi => ⟨(d i (by omega)).1.symm, (d i (by omega)).2⟩⟩
abbrev clp (x l : Int32) : Prop := ¬ x.toInt = -1000000000 ∧ (l.toInt ≤ x.toInt ∨ x.toInt ≤ -l.toInt)
def cnt (f : Nat → Bool) : Nat → Nat
  | 0 => 0
  | n + 1 => cnt f n + if f n = true then 1 else 0
theorem cnt_t {f : Nat → Bool} {i : Nat} (h : f i = true) : cnt f (i + 1) = cnt f i + 1 := by show cnt f i + (if f i = true then 1 else 0) = _; rw [if_pos h]
theorem cnt_f {f : Nat → Bool} {i : Nat} (h : ¬ f i = true) : cnt f (i + 1) = cnt f i := by show cnt f i + (if f i = true then 1 else 0) = _; rw [if_neg h]; rfl
theorem cnt_le (f : Nat → Bool) : ∀ n, cnt f n ≤ n
  | 0 => Nat.le_refl _
  | n + 1 => by
    have := cnt_le f n
    show cnt f n + (if f n = true then 1 else 0) ≤ n + 1
    split <;> omega
theorem iabs_t {x : Int32} (h : -1000000000 ≤ x.toInt ∧ x.toInt ≤ 1000000000) : (iabs x).toInt = if x.toInt < 0 then -x.toInt else x.toInt := by
  unfold iabs
  by_cases hx : x < 0
  · rw [if_pos hx, if_pos (by rw [i_lt] at hx; exact hx), i_neg (by omega)]
  · rw [if_neg hx, if_neg (by rw [i_lt] at hx; exact hx)]
theorem smp_rg {x : Int32} (h : smpOK x) : -1000000000 ≤ x.toInt ∧ x.toInt ≤ 999 := by
  rcases h with rfl | h
  · exact ⟨by decide, by decide⟩
  · omega
set_option maxRecDepth 20000 in
set_option maxHeartbeats 1000000 in
theorem s_sampleAt {G : GC} {d mc ms : Nat} {h : HS} {K : Option Value → HS → Prop} {j q n i : Nat} (M : Smp h j q n) (hi : i < n) (hk : K (some (.int (vi h (q + 1) i))) h) : Go G d mc ms M_X2_sampleAt 0 [.ref q, .int (nI i)] [] h K := by
  obtain ⟨hj6, CS, hn200, en, en2, el, lim, sm⟩ := id M
  have hq0 := CS.1
  unfold rg at lim
  refine Go_iload_n (pc' := 1) dX2_sampleAt_0 rfl rfl rfl ?_
  refine Go_if_ltZ (X := ((i : Nat) : Int)) (tgt := 21) (pc' := 4) dX2_sampleAt_1 (by decide) rfl (i_nI (by omega)) (fun c1 => ?_) (fun c1 => ?_)
  · exfalso; omega
  · refine Go_iload_n (pc' := 5) dX2_sampleAt_4 rfl rfl rfl ?_
    refine Go_aload_n (pc' := 6) dX2_sampleAt_5 rfl rfl rfl ?_
    refine Go_getIv (v := (nI n)) (pc' := 9) dX2_sampleAt_6 rfl kf_RX2_58 (by decide) (by decide) rfl CS.b CS.o (en) ?_
    refine Go_icmp_geZ (X := ((i : Nat) : Int)) (Y := ((n : Nat) : Int)) (tgt := 21) (pc' := 12) dX2_sampleAt_9 (by decide) rfl (i_nI (by omega)) (i_nI (by omega)) (fun c9 => ?_) (fun c9 => ?_)
    · exfalso; omega
    · refine Go_aload_n (pc' := 13) dX2_sampleAt_12 rfl rfl rfl ?_
      refine Go_getRs (pc' := 16) dX2_sampleAt_13 rfl kf_RX2_27 (by decide) (by decide) rfl CS.b CS.o CS.r7 ?_
      refine Go_iload_n (pc' := 17) dX2_sampleAt_16 rfl rfl rfl ?_
      refine Go_iaload (n := 200) (v := (vi h (q + 1) i)) (pc' := 18) dX2_sampleAt_17 rfl CS.b1 CS.k1 (by exact inR_nI (by omega) (by decide)) (congrArg (vi _ _) (nI_clamp (show i < 2 ^ 31 by omega))) ?_
      refine Go_goto (tgt := 23) dX2_sampleAt_18 (by decide) ?_
      refine Go_ireturn (ty := .int) dX2_sampleAt_23 rfl rfl ?_
      exact hk
set_option maxRecDepth 20000 in
set_option maxHeartbeats 1000000 in
theorem s_sampleAtN {G : GC} {d mc ms : Nat} {h : HS} {K : Option Value → HS → Prop} {j q n : Nat} {x : Int32} (M : Smp h j q n) (hi : ¬ (0 ≤ x.toInt ∧ x.toInt < n)) (hk : K (some (.int (-1000000000))) h) : Go G d mc ms M_X2_sampleAt 0 [.ref q, .int x] [] h K := by
  obtain ⟨hj6, CS, hn200, en, en2, el, lim, sm⟩ := id M
  have hq0 := CS.1
  unfold rg at lim
  refine Go_iload_n (pc' := 1) dX2_sampleAt_0 rfl rfl rfl ?_
  refine Go_if_ltZ (X := _) (tgt := 21) (pc' := 4) dX2_sampleAt_1 (by decide) rfl rfl (fun c1 => ?_) (fun c1 => ?_)
  · refine Go_ldc (pc' := 23) dX2_sampleAt_21 rfl kn_RX2_68 ?_
    refine Go_ireturn (ty := .int) dX2_sampleAt_23 rfl rfl ?_
    exact hk
  · refine Go_iload_n (pc' := 5) dX2_sampleAt_4 rfl rfl rfl ?_
    refine Go_aload_n (pc' := 6) dX2_sampleAt_5 rfl rfl rfl ?_
    refine Go_getIv (v := (nI n)) (pc' := 9) dX2_sampleAt_6 rfl kf_RX2_58 (by decide) (by decide) rfl CS.b CS.o (en) ?_
    refine Go_icmp_geZ (X := _) (Y := ((n : Nat) : Int)) (tgt := 21) (pc' := 12) dX2_sampleAt_9 (by decide) rfl rfl (i_nI (by omega)) (fun c9 => ?_) (fun c9 => ?_)
    · refine Go_ldc (pc' := 23) dX2_sampleAt_21 rfl kn_RX2_68 ?_
      refine Go_ireturn (ty := .int) dX2_sampleAt_23 rfl rfl ?_
      exact hk
    · exfalso; omega
set_option maxRecDepth 20000 in
set_option maxHeartbeats 1000000 in
theorem s_isMissing {G : GC} {d mc ms : Nat} {h : HS} {K : Option Value → HS → Prop} {j q n i : Nat} (M : Smp h j q n) (hi : i < n) (hk : K (some (.int (b2i ((vi h (q + 1) i).toInt = -1000000000)))) h) : Go G (d + 1) mc ms M_X2_isMissing 0 [.ref q, .int (nI i)] [] h K := by
  obtain ⟨hj6, CS, hn200, en, en2, el, lim, sm⟩ := id M
  have hq0 := CS.1
  unfold rg at lim
  refine Go_aload_n (pc' := 1) dX2_isMissing_0 rfl rfl rfl ?_
  refine Go_iload_n (pc' := 2) dX2_isMissing_1 rfl rfl rfl ?_
  refine Go_callV_i (pc' := 5) (As := [.int _]) (st := []) dX2_isMissing_2 rfl ok_X2_sampleAt km_RX2_64 CS.o CS.b ⟨_, _, rfl⟩ rfl (Nat.le_of_ble_eq_true rfl) rfl rfl rfl (Nat.le_of_ble_eq_true rfl) (Nat.lt_succ_self _) ?_
  refine s_sampleAt M hi ?_
  refine ⟨_, rfl, ?_⟩
  refine Go_ldc (pc' := 7) dX2_isMissing_5 rfl kn_RX2_68 ?_
  refine Go_icmp_neZ (X := _) (Y := (-1000000000)) (tgt := 14) (pc' := 10) dX2_isMissing_7 (by decide) rfl rfl rfl (fun c7 => ?_) (fun c7 => ?_)
  · refine Go_iconst (v := 0) (pc' := 15) dX2_isMissing_14 rfl (by decide) ?_
    refine Go_ireturn (ty := .boolean) dX2_isMissing_15 rfl rfl ?_
    rw [b2i_f c7] at hk; exact hk
  · refine Go_iconst (v := 1) (pc' := 11) dX2_isMissing_10 rfl (by decide) ?_
    refine Go_goto (tgt := 15) dX2_isMissing_11 (by decide) ?_
    refine Go_ireturn (ty := .boolean) dX2_isMissing_15 rfl rfl ?_
    rw [b2i_t c7] at hk; exact hk
set_option maxRecDepth 20000 in
set_option maxHeartbeats 1000000 in
theorem s_isClipped {G : GC} {d mc ms : Nat} {h : HS} {K : Option Value → HS → Prop} {j q n i : Nat} (M : Smp h j q n) (hi : i < n) (hk : K (some (.int (b2i (clp (vi h (q + 1) i) (vi h q 4))))) h) : Go G (d + 1) mc ms M_X2_isClipped 0 [.ref q, .int (nI i), un] [] h K := by
  obtain ⟨hj6, CS, hn200, en, en2, el, lim, sm⟩ := id M
  have hq0 := CS.1
  unfold rg at lim
  have ab := iabs_t (x := vi h (q + 1) i) (by have := smp_rg (sm i hi).2; omega)
  refine Go_aload_n (pc' := 1) dX2_isClipped_0 rfl rfl rfl ?_
  refine Go_iload_n (pc' := 2) dX2_isClipped_1 rfl rfl rfl ?_
  refine Go_callV_i (pc' := 5) (As := [.int _]) (st := []) dX2_isClipped_2 rfl ok_X2_sampleAt km_RX2_64 CS.o CS.b ⟨_, _, rfl⟩ rfl (Nat.le_of_ble_eq_true rfl) rfl rfl rfl (Nat.le_of_ble_eq_true rfl) (Nat.lt_succ_self _) ?_
  refine s_sampleAt M hi ?_
  refine ⟨_, rfl, ?_⟩
  refine Go_istore_n (pc' := 6) (lv' := [.ref _, .int _, .int _]) dX2_isClipped_5 rfl rfl (Nat.le_of_ble_eq_true rfl) rfl rfl ?_
  refine Go_iload_n (pc' := 7) dX2_isClipped_6 rfl rfl rfl ?_
  refine Go_ldc (pc' := 9) dX2_isClipped_7 rfl kn_RX2_68 ?_
  refine Go_icmp_eqZ (X := _) (Y := (-1000000000)) (tgt := 27) (pc' := 12) dX2_isClipped_9 (by decide) rfl rfl rfl (fun c9 => ?_) (fun c9 => ?_)
  · refine Go_iconst (v := 0) (pc' := 28) dX2_isClipped_27 rfl (by decide) ?_
    refine Go_ireturn (ty := .boolean) dX2_isClipped_28 rfl rfl ?_
    rw [b2i_f (fun z => z.1 c9)] at hk; exact hk
  · refine Go_iload_n (pc' := 13) dX2_isClipped_12 rfl rfl rfl ?_
    refine Go_callS_i (pc' := 16) (As := [.int _]) (st := []) dX2_isClipped_13 rfl ok_J9_abs_0f7a4 km_RX2_69 rfl (Nat.le_of_ble_eq_true rfl) rfl rfl rfl (Nat.le_of_ble_eq_true rfl) (Nat.lt_succ_self _) ?_
    refine s_abs ?_
    refine ⟨_, rfl, ?_⟩
    refine Go_aload_n (pc' := 17) dX2_isClipped_16 rfl rfl rfl ?_
    refine Go_getIv (v := (vi h q 4)) (pc' := 20) dX2_isClipped_17 rfl kf_RX2_24 (by decide) (by decide) rfl CS.b CS.o rfl ?_
    refine Go_icmp_ltZ (X := _) (Y := _) (tgt := 27) (pc' := 23) dX2_isClipped_20 (by decide) rfl rfl rfl (fun c20 => ?_) (fun c20 => ?_)
    · refine Go_iconst (v := 0) (pc' := 28) dX2_isClipped_27 rfl (by decide) ?_
      refine Go_ireturn (ty := .boolean) dX2_isClipped_28 rfl rfl ?_
      rw [b2i_f (fun z => by have := z.2; split at ab <;> omega)] at hk; exact hk
    · refine Go_iconst (v := 1) (pc' := 24) dX2_isClipped_23 rfl (by decide) ?_
      refine Go_goto (tgt := 28) dX2_isClipped_24 (by decide) ?_
      refine Go_ireturn (ty := .boolean) dX2_isClipped_28 rfl rfl ?_
      rw [b2i_t ⟨c9, by split at ab <;> omega⟩] at hk; exact hk
set_option maxRecDepth 20000 in
set_option maxHeartbeats 1000000 in
theorem s_sampleM {G : GC} {d mc ms : Nat} {h : HS} {K : Option Value → HS → Prop} {j q n i : Nat} (S : Shp h) (M : Smp h j q n) (hi : i < n) (hk : K (some (.int (vi h (q + 1) i))) h) : Go G d mc ms M_X12_sample 0 [.ref 99, .int (nI j), .int (nI i)] [] h K := by
  obtain ⟨hj6, CS, hn200, en, en2, el, lim, sm⟩ := id M
  have hq0 := CS.1
  unfold rg at lim
  refine Go_aload_n (pc' := 1) dX12_sample_0 rfl rfl rfl ?_
  refine Go_getRs (pc' := 4) dX12_sample_1 rfl kf_RX12_28 (by decide) (by decide) rfl (S.b 99 rfl rfl) (S.o 99 rfl rfl rfl) (S.r 99 7 rfl rfl rfl) ?_
  refine Go_sipush (v := 200) (pc' := 7) dX12_sample_4 rfl (by decide) ?_
  refine Go_iload_n (pc' := 8) dX12_sample_7 rfl rfl rfl ?_
  refine Go_imul (pc' := 9) dX12_sample_8 rfl ?_
  rw [show (200 : Int32) * nI j = nI (200 * j) from pk_mul 200 j]
  refine Go_iload_n (pc' := 10) dX12_sample_9 rfl rfl rfl ?_
  refine Go_iadd (pc' := 11) dX12_sample_10 rfl ?_
  rw [nI_add]
  refine Go_iaload (n := 1200) (v := (vi h (q + 1) i)) (pc' := 12) dX12_sample_11 rfl (S.b 106 rfl rfl) (S.k 106 rfl rfl rfl) (by exact inR_nI (by omega) (by decide)) ((congrArg (vi _ _) (nI_clamp (show (200 * j + i) < 2 ^ 31 by omega))).trans ((sm i hi).1)) ?_
  refine Go_ireturn (ty := .int) dX12_sample_12 rfl rfl ?_
  exact hk
set_option maxRecDepth 20000 in
set_option maxHeartbeats 1000000 in
theorem s_isClippedM {G : GC} {d mc ms : Nat} {h : HS} {K : Option Value → HS → Prop} {j q n i : Nat} (S : Shp h) (M : Smp h j q n) (hi : i < n) (hk : K (some (.int (b2i (clp (vi h (q + 1) i) (vi h q 4))))) h) : Go G (d + 1) mc ms M_X12_isClipped 0 [.ref 99, .int (nI j), .int (nI i)] [] h K := by
  obtain ⟨hj6, CS, hn200, en, en2, el, lim, sm⟩ := id M
  have hq0 := CS.1
  unfold rg at lim
  have eng : (-(vi h q 4)).toInt = -(vi h q 4).toInt := i_neg (by omega)
  refine Go_aload_n (pc' := 1) dX12_isClipped_0 rfl rfl rfl ?_
  refine Go_iload_n (pc' := 2) dX12_isClipped_1 rfl rfl rfl ?_
  refine Go_iload_n (pc' := 3) dX12_isClipped_2 rfl rfl rfl ?_
  refine Go_callV_i (pc' := 6) (As := [.int _, .int _]) (st := []) dX12_isClipped_3 rfl ok_X12_sample km_RX12_163 (S.o 99 rfl rfl rfl) (S.b 99 rfl rfl) ⟨_, _, rfl⟩ rfl (Nat.le_of_ble_eq_true rfl) rfl rfl rfl (Nat.le_of_ble_eq_true rfl) (Nat.lt_succ_self _) ?_
  refine s_sampleM S M hi ?_
  refine ⟨_, rfl, ?_⟩
  refine Go_ldc (pc' := 8) dX12_isClipped_6 rfl kn_RX12_162 ?_
  refine Go_icmp_eqZ (X := _) (Y := (-1000000000)) (tgt := 46) (pc' := 11) dX12_isClipped_8 (by decide) rfl rfl rfl (fun c8 => ?_) (fun c8 => ?_)
  · refine Go_iconst (v := 0) (pc' := 47) dX12_isClipped_46 rfl (by decide) ?_
    refine Go_ireturn (ty := .boolean) dX12_isClipped_47 rfl rfl ?_
    rw [b2i_f (fun z => z.1 c8)] at hk; exact hk
  · refine Go_aload_n (pc' := 12) dX12_isClipped_11 rfl rfl rfl ?_
    refine Go_iload_n (pc' := 13) dX12_isClipped_12 rfl rfl rfl ?_
    refine Go_iload_n (pc' := 14) dX12_isClipped_13 rfl rfl rfl ?_
    refine Go_callV_i (pc' := 17) (As := [.int _, .int _]) (st := []) dX12_isClipped_14 rfl ok_X12_sample km_RX12_163 (S.o 99 rfl rfl rfl) (S.b 99 rfl rfl) ⟨_, _, rfl⟩ rfl (Nat.le_of_ble_eq_true rfl) rfl rfl rfl (Nat.le_of_ble_eq_true rfl) (Nat.lt_succ_self _) ?_
    refine s_sampleM S M hi ?_
    refine ⟨_, rfl, ?_⟩
    refine Go_aload_n (pc' := 18) dX12_isClipped_17 rfl rfl rfl ?_
    refine Go_getRs (pc' := 21) dX12_isClipped_18 rfl kf_RX12_19 (by decide) (by decide) rfl (S.b 99 rfl rfl) (S.o 99 rfl rfl rfl) (S.r 99 4 rfl rfl rfl) ?_
    refine Go_iload_n (pc' := 22) dX12_isClipped_21 rfl rfl rfl ?_
    refine Go_iaload (n := 6) (v := (vi h q 4)) (pc' := 23) dX12_isClipped_22 rfl (S.b 103 rfl rfl) (S.k 103 rfl rfl rfl) (by exact inR_nI (by omega) (by decide)) ((congrArg (vi _ _) (nI_clamp (show j < 2 ^ 31 by omega))).trans (el.symm)) ?_
    refine Go_icmp_geZ (X := _) (Y := _) (tgt := 42) (pc' := 26) dX12_isClipped_23 (by decide) rfl rfl rfl (fun c23 => ?_) (fun c23 => ?_)
    · refine Go_iconst (v := 1) (pc' := 43) dX12_isClipped_42 rfl (by decide) ?_
      refine Go_goto (tgt := 47) dX12_isClipped_43 (by decide) ?_
      refine Go_ireturn (ty := .boolean) dX12_isClipped_47 rfl rfl ?_
      rw [b2i_t ⟨c8, by omega⟩] at hk; exact hk
    · refine Go_aload_n (pc' := 27) dX12_isClipped_26 rfl rfl rfl ?_
      refine Go_iload_n (pc' := 28) dX12_isClipped_27 rfl rfl rfl ?_
      refine Go_iload_n (pc' := 29) dX12_isClipped_28 rfl rfl rfl ?_
      refine Go_callV_i (pc' := 32) (As := [.int _, .int _]) (st := []) dX12_isClipped_29 rfl ok_X12_sample km_RX12_163 (S.o 99 rfl rfl rfl) (S.b 99 rfl rfl) ⟨_, _, rfl⟩ rfl (Nat.le_of_ble_eq_true rfl) rfl rfl rfl (Nat.le_of_ble_eq_true rfl) (Nat.lt_succ_self _) ?_
      refine s_sampleM S M hi ?_
      refine ⟨_, rfl, ?_⟩
      refine Go_aload_n (pc' := 33) dX12_isClipped_32 rfl rfl rfl ?_
      refine Go_getRs (pc' := 36) dX12_isClipped_33 rfl kf_RX12_19 (by decide) (by decide) rfl (S.b 99 rfl rfl) (S.o 99 rfl rfl rfl) (S.r 99 4 rfl rfl rfl) ?_
      refine Go_iload_n (pc' := 37) dX12_isClipped_36 rfl rfl rfl ?_
      refine Go_iaload (n := 6) (v := (vi h q 4)) (pc' := 38) dX12_isClipped_37 rfl (S.b 103 rfl rfl) (S.k 103 rfl rfl rfl) (by exact inR_nI (by omega) (by decide)) ((congrArg (vi _ _) (nI_clamp (show j < 2 ^ 31 by omega))).trans (el.symm)) ?_
      refine Go_ineg (pc' := 39) dX12_isClipped_38 rfl ?_
      refine Go_icmp_gtZ (X := _) (Y := _) (tgt := 46) (pc' := 42) dX12_isClipped_39 (by decide) rfl rfl rfl (fun c39 => ?_) (fun c39 => ?_)
      · refine Go_iconst (v := 0) (pc' := 47) dX12_isClipped_46 rfl (by decide) ?_
        refine Go_ireturn (ty := .boolean) dX12_isClipped_47 rfl rfl ?_
        rw [b2i_f (fun z => by have := z.2; omega)] at hk; exact hk
      · refine Go_iconst (v := 1) (pc' := 43) dX12_isClipped_42 rfl (by decide) ?_
        refine Go_goto (tgt := 47) dX12_isClipped_43 (by decide) ?_
        refine Go_ireturn (ty := .boolean) dX12_isClipped_47 rfl rfl ?_
        rw [b2i_t ⟨c8, by omega⟩] at hk; exact hk
def clcF (h : HS) (q : Nat) : Nat → Bool := fun i => decide (clp (vi h (q + 1) i) (vi h q 4))
set_option maxRecDepth 20000 in
set_option maxHeartbeats 1000000 in
theorem clc_loop {G : GC} {d mc ms : Nat} {h : HS} {K : Option Value → HS → Prop} {j q n : Nat} (M : Smp h j q n) (hk : K (some (.int (nI (cnt (clcF h q) n)))) h) : ∀ (m i : Nat), i + m = n → Go G (d + 2) mc ms M_X2_clippedCount 4 [.ref q, .int (nI (cnt (clcF h q) i)), .int (nI i)] [] h K := by
  obtain ⟨hj6, CS, hn200, en, en2, el, lim, sm⟩ := id M
  have hq0 := CS.1
  unfold rg at lim
  intro m
  induction m with
  | zero =>
    intro i him
    refine Go_iload_n (pc' := 5) dX2_clippedCount_4 rfl rfl rfl ?_
    refine Go_aload_n (pc' := 6) dX2_clippedCount_5 rfl rfl rfl ?_
    refine Go_getIv (v := (nI n)) (pc' := 9) dX2_clippedCount_6 rfl kf_RX2_58 (by decide) (by decide) rfl CS.b CS.o (en) ?_
    refine Go_icmp_geZ (X := ((i : Nat) : Int)) (Y := ((n : Nat) : Int)) (tgt := 29) (pc' := 12) dX2_clippedCount_9 (by decide) rfl (i_nI (by omega)) (i_nI (by omega)) (fun c9 => ?_) (fun c9 => ?_)
    · refine Go_iload_n (pc' := 30) dX2_clippedCount_29 rfl rfl rfl ?_
      refine Go_ireturn (ty := .int) dX2_clippedCount_30 rfl rfl ?_
      rw [show i = n by omega]; exact hk
    · exfalso; omega
  | succ m ih =>
    intro i him
    refine Go_iload_n (pc' := 5) dX2_clippedCount_4 rfl rfl rfl ?_
    refine Go_aload_n (pc' := 6) dX2_clippedCount_5 rfl rfl rfl ?_
    refine Go_getIv (v := (nI n)) (pc' := 9) dX2_clippedCount_6 rfl kf_RX2_58 (by decide) (by decide) rfl CS.b CS.o (en) ?_
    refine Go_icmp_geZ (X := ((i : Nat) : Int)) (Y := ((n : Nat) : Int)) (tgt := 29) (pc' := 12) dX2_clippedCount_9 (by decide) rfl (i_nI (by omega)) (i_nI (by omega)) (fun c9 => ?_) (fun c9 => ?_)
    · exfalso; omega
    · refine Go_aload_n (pc' := 13) dX2_clippedCount_12 rfl rfl rfl ?_
      refine Go_iload_n (pc' := 14) dX2_clippedCount_13 rfl rfl rfl ?_
      refine Go_callV_i (pc' := 17) (As := [.int _]) (st := []) dX2_clippedCount_14 rfl ok_X2_isClipped km_RX2_72 CS.o CS.b ⟨_, _, rfl⟩ rfl (Nat.le_of_ble_eq_true rfl) rfl rfl rfl (Nat.le_of_ble_eq_true rfl) (Nat.lt_succ_self _) ?_
      refine s_isClipped (i := i) M (by omega) ?_
      refine ⟨_, rfl, ?_⟩
      refine Go_if_eqb (tgt := 23) (pc' := 20) dX2_clippedCount_17 (by decide) rfl (fun c17 => ?_) (fun c17 => ?_)
      · refine Go_iinc (pc' := 26) (lv' := [.ref _, .int _, .int _]) dX2_clippedCount_23 rfl rfl (nI_add _ 1) (Nat.le_of_ble_eq_true rfl) rfl rfl ?_
        refine Go_goto (tgt := 4) dX2_clippedCount_26 (by decide) ?_
        have z := ih (i + 1) (by omega)
        rw [cnt_f (fun z => c17 (of_decide_eq_true z))] at z
        exact z
      · refine Go_iinc (pc' := 23) (lv' := [.ref _, .int _, .int _]) dX2_clippedCount_20 rfl rfl (nI_add _ 1) (Nat.le_of_ble_eq_true rfl) rfl rfl ?_
        refine Go_iinc (pc' := 26) (lv' := [.ref _, .int _, .int _]) dX2_clippedCount_23 rfl rfl (nI_add _ 1) (Nat.le_of_ble_eq_true rfl) rfl rfl ?_
        refine Go_goto (tgt := 4) dX2_clippedCount_26 (by decide) ?_
        have z := ih (i + 1) (by omega)
        rw [cnt_t (decide_eq_true c17)] at z
        exact z
set_option maxRecDepth 20000 in
set_option maxHeartbeats 1000000 in
theorem s_clc {G : GC} {d mc ms : Nat} {h : HS} {K : Option Value → HS → Prop} {j q n : Nat} (M : Smp h j q n) (hk : K (some (.int (nI (cnt (clcF h q) n)))) h) : Go G (d + 2) mc ms M_X2_clippedCount 0 [.ref q, un, un] [] h K := by
  refine Go_iconst (v := 0) (pc' := 1) dX2_clippedCount_0 rfl (by decide) ?_
  refine Go_istore_n (pc' := 2) (lv' := [.ref _, .int _, un]) dX2_clippedCount_1 rfl rfl (Nat.le_of_ble_eq_true rfl) rfl rfl ?_
  refine Go_iconst (v := 0) (pc' := 3) dX2_clippedCount_2 rfl (by decide) ?_
  refine Go_istore_n (pc' := 4) (lv' := [.ref _, .int _, .int _]) dX2_clippedCount_3 rfl rfl (Nat.le_of_ble_eq_true rfl) rfl rfl ?_
  exact clc_loop M hk n 0 (Nat.zero_add _)
def micF (h : HS) (q : Nat) : Nat → Bool := fun i => decide ((vi h (q + 1) i).toInt = -1000000000)
set_option maxRecDepth 20000 in
set_option maxHeartbeats 1000000 in
theorem mic_loop {G : GC} {d mc ms : Nat} {h : HS} {K : Option Value → HS → Prop} {j q n : Nat} (M : Smp h j q n) (hk : K (some (.int (nI (cnt (micF h q) n)))) h) : ∀ (m i : Nat), i + m = n → Go G (d + 2) mc ms M_X2_missingCount 4 [.ref q, .int (nI (cnt (micF h q) i)), .int (nI i)] [] h K := by
  obtain ⟨hj6, CS, hn200, en, en2, el, lim, sm⟩ := id M
  have hq0 := CS.1
  unfold rg at lim
  intro m
  induction m with
  | zero =>
    intro i him
    refine Go_iload_n (pc' := 5) dX2_missingCount_4 rfl rfl rfl ?_
    refine Go_aload_n (pc' := 6) dX2_missingCount_5 rfl rfl rfl ?_
    refine Go_getIv (v := (nI n)) (pc' := 9) dX2_missingCount_6 rfl kf_RX2_58 (by decide) (by decide) rfl CS.b CS.o (en) ?_
    refine Go_icmp_geZ (X := ((i : Nat) : Int)) (Y := ((n : Nat) : Int)) (tgt := 29) (pc' := 12) dX2_missingCount_9 (by decide) rfl (i_nI (by omega)) (i_nI (by omega)) (fun c9 => ?_) (fun c9 => ?_)
    · refine Go_iload_n (pc' := 30) dX2_missingCount_29 rfl rfl rfl ?_
      refine Go_ireturn (ty := .int) dX2_missingCount_30 rfl rfl ?_
      rw [show i = n by omega]; exact hk
    · exfalso; omega
  | succ m ih =>
    intro i him
    refine Go_iload_n (pc' := 5) dX2_missingCount_4 rfl rfl rfl ?_
    refine Go_aload_n (pc' := 6) dX2_missingCount_5 rfl rfl rfl ?_
    refine Go_getIv (v := (nI n)) (pc' := 9) dX2_missingCount_6 rfl kf_RX2_58 (by decide) (by decide) rfl CS.b CS.o (en) ?_
    refine Go_icmp_geZ (X := ((i : Nat) : Int)) (Y := ((n : Nat) : Int)) (tgt := 29) (pc' := 12) dX2_missingCount_9 (by decide) rfl (i_nI (by omega)) (i_nI (by omega)) (fun c9 => ?_) (fun c9 => ?_)
    · exfalso; omega
    · refine Go_aload_n (pc' := 13) dX2_missingCount_12 rfl rfl rfl ?_
      refine Go_iload_n (pc' := 14) dX2_missingCount_13 rfl rfl rfl ?_
      refine Go_callV_i (pc' := 17) (As := [.int _]) (st := []) dX2_missingCount_14 rfl ok_X2_isMissing km_RX2_76 CS.o CS.b ⟨_, _, rfl⟩ rfl (Nat.le_of_ble_eq_true rfl) rfl rfl rfl (Nat.le_of_ble_eq_true rfl) (Nat.lt_succ_self _) ?_
      refine s_isMissing (i := i) M (by omega) ?_
      refine ⟨_, rfl, ?_⟩
      refine Go_if_eqb (tgt := 23) (pc' := 20) dX2_missingCount_17 (by decide) rfl (fun c17 => ?_) (fun c17 => ?_)
      · refine Go_iinc (pc' := 26) (lv' := [.ref _, .int _, .int _]) dX2_missingCount_23 rfl rfl (nI_add _ 1) (Nat.le_of_ble_eq_true rfl) rfl rfl ?_
        refine Go_goto (tgt := 4) dX2_missingCount_26 (by decide) ?_
        have z := ih (i + 1) (by omega)
        rw [cnt_f (fun z => c17 (of_decide_eq_true z))] at z
        exact z
      · refine Go_iinc (pc' := 23) (lv' := [.ref _, .int _, .int _]) dX2_missingCount_20 rfl rfl (nI_add _ 1) (Nat.le_of_ble_eq_true rfl) rfl rfl ?_
        refine Go_iinc (pc' := 26) (lv' := [.ref _, .int _, .int _]) dX2_missingCount_23 rfl rfl (nI_add _ 1) (Nat.le_of_ble_eq_true rfl) rfl rfl ?_
        refine Go_goto (tgt := 4) dX2_missingCount_26 (by decide) ?_
        have z := ih (i + 1) (by omega)
        rw [cnt_t (decide_eq_true c17)] at z
        exact z
set_option maxRecDepth 20000 in
set_option maxHeartbeats 1000000 in
theorem s_mic {G : GC} {d mc ms : Nat} {h : HS} {K : Option Value → HS → Prop} {j q n : Nat} (M : Smp h j q n) (hk : K (some (.int (nI (cnt (micF h q) n)))) h) : Go G (d + 2) mc ms M_X2_missingCount 0 [.ref q, un, un] [] h K := by
  refine Go_iconst (v := 0) (pc' := 1) dX2_missingCount_0 rfl (by decide) ?_
  refine Go_istore_n (pc' := 2) (lv' := [.ref _, .int _, un]) dX2_missingCount_1 rfl rfl (Nat.le_of_ble_eq_true rfl) rfl rfl ?_
  refine Go_iconst (v := 0) (pc' := 3) dX2_missingCount_2 rfl (by decide) ?_
  refine Go_istore_n (pc' := 4) (lv' := [.ref _, .int _, .int _]) dX2_missingCount_3 rfl rfl (Nat.le_of_ble_eq_true rfl) rfl rfl ?_
  exact mic_loop M hk n 0 (Nat.zero_add _)
