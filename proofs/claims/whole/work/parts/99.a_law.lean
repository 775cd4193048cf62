/-! THE LAW from its beginning -/
set_option maxRecDepth 20000 in
set_option maxHeartbeats 4000000 in
theorem law_go {G : GC} {K : Option Value → HS → Prop} (hL : gL G ≤ 3072) (A : Pairs G) (hK : ∀ h, Inv h → K (some (.int 1)) h) : Go G 61 4174 217064 M_L_law 0 [.ref 0, un, un, un] [] h0 K := by
  refine Go_newL (t := 11) (N := 64) (mc := 4173) (ms := 217050) (pc' := 3) dL_law_0 rfl (by decide) kc_RL_7 inst11 ini11 (defv 11 (by decide)) (Nat.le_of_ble_eq_true rfl) (Nat.le_of_ble_eq_true rfl) rfl ?_
  refine Go_dup (pc' := 4) dL_law_3 rfl rfl ?_
  refine Go_callI_v (d' := 60) (mc := 4139) (ms := 212141) (mc2 := 34) (ms2 := 4909) (pc' := 7) (As := []) (st := [.ref _]) dL_law_4 rfl ok_X11_init km_RL_9 rfl (Nat.le_of_ble_eq_true rfl) rfl rfl rfl (Nat.le_of_ble_eq_true rfl) (Nat.lt_succ_self _) (Nat.le_of_ble_eq_true rfl) (Nat.le_of_ble_eq_true rfl) ?_
  refine s_initC (d := 56) (fun f hf => ?_)
  refine ⟨rfl, ?_⟩
  refine Go_astore_n (pc' := 8) (lv' := [.ref _, .ref _, un, un]) dL_law_7 rfl rfl (Nat.le_of_ble_eq_true rfl) rfl rfl ?_
  refine Go_newL (t := 12) (N := 99) (mc := 4138) (ms := 212080) (pc' := 11) dL_law_8 rfl (by decide) kc_RL_10 inst12 ini12 (defv 12 (by decide)) (Nat.le_of_ble_eq_true rfl) (Nat.le_of_ble_eq_true rfl) rfl ?_
  refine Go_dup (pc' := 12) dL_law_11 rfl rfl ?_
  refine Go_callI_v (d' := 60) (mc := 4096) (ms := 204800) (mc2 := 42) (ms2 := 7280) (pc' := 15) (As := []) (st := [.ref _]) dL_law_12 rfl ok_X12_init km_RL_12 rfl (Nat.le_of_ble_eq_true rfl) rfl rfl rfl (Nat.le_of_ble_eq_true rfl) (Nat.lt_succ_self _) (Nat.le_of_ble_eq_true rfl) (Nat.le_of_ble_eq_true rfl) ?_
  refine s_initM (d := 56) ?_
  refine ⟨rfl, ?_⟩
  refine Go_astore_n (pc' := 16) (lv' := [.ref _, .ref _, .ref _, un]) dL_law_15 rfl rfl (Nat.le_of_ble_eq_true rfl) rfl rfl ?_
  refine Go_iconst (v := nI 0) (pc' := 17) dL_law_16 rfl (by decide) ?_
  refine Go_istore_n (pc' := 18) (lv' := [.ref _, .ref _, .ref _, .int _]) dL_law_17 rfl rfl (Nat.le_of_ble_eq_true rfl) rfl rfl ?_
  exact law_loop hL A hK 512 0 (hM f) (inv0 f hf) (by omega) (by omega)
