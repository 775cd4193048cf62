/-! the two constructors -/
def h0 : HS := (0, fun _ => (0, 0), fun _ _ => 0, fun _ _ => none)
abbrev hC2 : HS := nw (nw h0 (11, 0)) (3, 0)
set_option maxRecDepth 20000 in
set_option maxHeartbeats 1000000 in
theorem chart_go {mc ms : Nat} {h : HS} {G : GC} {d : Nat} {K : Option Value → HS → Prop} (hb5 : 64 ≤ 65 ∧ 65 < 64 + hN h) (ho5 : (ki h 65).1 = 3) (hr5 : ri h 65 0 = some 66) (hb6 : 64 ≤ 66 ∧ 66 < 64 + hN h) (hk6 : ki h 66 = (20, 1600)) (hx : ∀ f, (∀ k, k < 1600 → f k = tab k) → K none (setR h 66 f)) : Go G d mc ms M_X3_init 15 [.ref 65, .int (nI 0), un, un] [] h K := by
  have z := chart_out (G := G) (d := d) (mc := mc) (ms := ms) hb5 ho5 hr5 hb6 hk6 hx 40 0 (vi h 66) un un rfl (fun k hk => absurd hk (by omega))
  rw [setR_self] at z
  exact z
set_option maxRecDepth 20000 in
set_option maxHeartbeats 1000000 in
theorem s_chart {G : GC} {d : Nat} {K : Option Value → HS → Prop} (hx : ∀ f, (∀ k, k < 1600 → f k = tab k) → K none (setR (wR (nw hC2 (20, 1600)) 65 0 (some 66)) 66 f)) : Go G (d + 1) 1 1600 M_X3_init 0 [.ref 65, un, un, un] [] hC2 K := by
  refine Go_aload_n (pc' := 1) dX3_init_0 rfl rfl rfl ?_
  refine Go_objInit (pc' := 4) dX3_init_1 rfl km_RX3_3 oi_inst oi_code (Nat.le_of_ble_eq_true rfl) (Nat.succ_pos _) ?_
  refine Go_aload_n (pc' := 5) dX3_init_4 rfl rfl rfl ?_
  refine Go_sipush (v := 1600) (pc' := 8) dX3_init_5 rfl (by decide) ?_
  refine Go_newarrayL (t := 20) (n := 1600) (N := 66) (mc := 0) (ms := 0) (pc' := 10) dX3_init_8 rfl (Or.inl ⟨rfl, rfl⟩) rfl (by decide) (Nat.le_of_ble_eq_true rfl) (Nat.le_of_ble_eq_true rfl) rfl ?_
  refine Go_putRs (pc' := 13) dX3_init_10 rfl kf_RX3_9 (by decide) (by decide) rfl ⟨(Nat.le_of_ble_eq_true rfl), (Nat.le_of_ble_eq_true rfl)⟩ rfl (Or.inr ⟨rfl, rfl, rfl⟩) (fun v => by cases v <;> exact ⟨rfl, rfl⟩) ?_
  refine Go_iconst (v := 0) (pc' := 14) dX3_init_13 rfl (by decide) ?_
  refine Go_istore_n (pc' := 15) (lv' := [.ref _, .int _, un, un]) dX3_init_14 rfl rfl (Nat.le_of_ble_eq_true rfl) rfl rfl ?_
  exact chart_go ⟨(Nat.le_of_ble_eq_true rfl), (Nat.le_of_ble_eq_true rfl)⟩ rfl rfl ⟨(Nat.le_of_ble_eq_true rfl), (Nat.le_of_ble_eq_true rfl)⟩ rfl hx
def hC (f : Nat → Int32) : HS := (wR (wR (nw (wR (nw (wR (nw (nw (wR (wR (nw (wR (nw (wR (nw (wR (nw (wR (nw (nw (wR (wR (nw (wR (nw (wR (nw (wR (nw (wR (nw (nw (wR (wR (nw (nw (wI (wI (wR (nw (wR (wR (wR (nw (wR (nw (nw (wR (wR (nw (wR (nw (nw (wI (wR (nw (wR (nw (nw (wR (wR (nw (nw (wR (nw (wR (nw (wR (setR (wR (nw hC2 (20, 1600)) 65 0 (some 66)) 66 f) 64 0 (some 65)) (32, 6)) 64 1 (some 67)) (7, 0)) 64 3 (some 68)) (0, 0)) (20, 7)) 69 0 (some 70)) 64 4 (some 69)) (9, 0)) (20, 600)) 71 0 (some 72)) (20, 40)) 71 9 (some 73)) 71 14 (-1)) (8, 0)) (20, 600)) 74 0 (some 75)) (20, 40)) 74 3 (some 76)) 71 15 (some 74)) (8, 0)) (20, 600)) 77 0 (some 78)) (20, 40)) 77 3 (some 79)) 71 16 (some 77)) 64 5 (some 71)) (35, 16)) 64 6 (some 80)) 64 8 10) 64 9 17) (10, 0)) (20, 8)) 81 0 (some 82)) 64 10 (some 81)) (1, 0)) (20, 100)) 83 0 (some 84)) (20, 100)) 83 1 (some 85)) (20, 100)) 83 2 (some 86)) (20, 100)) 83 3 (some 87)) (21, 100)) 83 4 (some 88)) 64 11 (some 83)) (1, 0)) (20, 100)) 89 0 (some 90)) (20, 100)) 89 1 (some 91)) (20, 100)) 89 2 (some 92)) (20, 100)) 89 3 (some 93)) (21, 100)) 89 4 (some 94)) 64 12 (some 89)) (4, 0)) (20, 100)) 95 0 (some 96)) (20, 100)) 95 1 (some 97)) (20, 100)) 95 2 (some 98)) 64 13 (some 95))
set_option maxRecDepth 20000 in
set_option maxHeartbeats 1000000 in
theorem s_initC {G : GC} {d : Nat} {K : Option Value → HS → Prop} (hx : ∀ f, (∀ k, k < 1600 → f k = tab k) → K none (hC f)) : Go G (d + 4) 34 4909 M_X11_init 0 [.ref 64] [] (nw h0 (11, 0)) K := by
  refine Go_aload_n (pc' := 1) dX11_init_0 rfl rfl rfl ?_
  refine Go_objInit (pc' := 4) dX11_init_1 rfl km_RX11_1 oi_inst oi_code (Nat.le_of_ble_eq_true rfl) (Nat.succ_pos _) ?_
  refine Go_aload_n (pc' := 5) dX11_init_4 rfl rfl rfl ?_
  refine Go_newL (t := 3) (N := 65) (mc := 33) (ms := 4908) (pc' := 8) dX11_init_5 rfl (by decide) kc_RX11_7 inst3 ini3 (defv 3 (by decide)) (Nat.le_of_ble_eq_true rfl) (Nat.le_of_ble_eq_true rfl) rfl ?_
  refine Go_dup (pc' := 9) dX11_init_8 rfl rfl ?_
  refine Go_callI_v (mc := 32) (ms := 3308) (mc2 := 1) (ms2 := 1600) (pc' := 12) (As := []) (st := [.ref _, .ref _]) dX11_init_9 rfl ok_X3_init km_RX11_9 rfl (Nat.le_of_ble_eq_true rfl) rfl rfl rfl (Nat.le_of_ble_eq_true rfl) (Nat.lt_succ_self _) (Nat.le_of_ble_eq_true rfl) (Nat.le_of_ble_eq_true rfl) ?_
  refine s_chart (fun f hf => ?_)
  refine ⟨rfl, ?_⟩
  refine Go_putRs (pc' := 15) dX11_init_12 rfl kf_RX11_10 (by decide) (by decide) rfl ⟨(Nat.le_of_ble_eq_true rfl), (Nat.le_of_ble_eq_true rfl)⟩ rfl (Or.inr ⟨rfl, rfl, rfl⟩) (fun v => by cases v <;> exact ⟨rfl, rfl⟩) ?_
  refine Go_aload_n (pc' := 16) dX11_init_15 rfl rfl rfl ?_
  refine Go_bipush (v := 6) (pc' := 18) dX11_init_16 rfl (by decide) ?_
  refine Go_anewarrayL (t := 32) (n := 6) (N := 67) (mc := 31) (ms := 3302) (pc' := 21) dX11_init_18 rfl rfl kc_RX11_16 ao2 rfl (by decide) (Nat.le_of_ble_eq_true rfl) (Nat.le_of_ble_eq_true rfl) rfl ?_
  refine Go_putRs (pc' := 24) dX11_init_21 rfl kf_RX11_18 (by decide) (by decide) rfl ⟨(Nat.le_of_ble_eq_true rfl), (Nat.le_of_ble_eq_true rfl)⟩ rfl (Or.inr ⟨rfl, rfl, rfl⟩) (fun v => by cases v <;> exact ⟨rfl, rfl⟩) ?_
  refine Go_aload_n (pc' := 25) dX11_init_24 rfl rfl rfl ?_
  refine Go_newL (t := 7) (N := 68) (mc := 30) (ms := 3297) (pc' := 28) dX11_init_25 rfl (by decide) kc_RX11_22 inst7 ini7 (defv 7 (by decide)) (Nat.le_of_ble_eq_true rfl) (Nat.le_of_ble_eq_true rfl) rfl ?_
  refine Go_dup (pc' := 29) dX11_init_28 rfl rfl ?_
  refine Go_callIN_v (mc := 30) (ms := 3297) (mc2 := 0) (ms2 := 0) (pc' := 32) (As := []) (st := [.ref _, .ref _]) dX11_init_29 rfl ok_X7_init km_RX11_24 rfl (Nat.le_of_ble_eq_true rfl) rfl rfl rfl (Nat.le_of_ble_eq_true rfl) (Nat.lt_succ_self _) (Nat.le_of_ble_eq_true rfl) (Nat.le_of_ble_eq_true rfl) ?_
  refine Go_aload_n (pc' := 1) dX7_init_0 rfl rfl rfl ?_
  refine Go_objInit (pc' := 4) dX7_init_1 rfl km_RX7_3 oi_inst oi_code (Nat.le_of_ble_eq_true rfl) (Nat.succ_pos _) ?_
  refine Go_return dX7_init_4 rfl ?_
  refine ⟨rfl, ?_⟩
  refine Go_putRs (pc' := 35) dX11_init_32 rfl kf_RX11_25 (by decide) (by decide) rfl ⟨(Nat.le_of_ble_eq_true rfl), (Nat.le_of_ble_eq_true rfl)⟩ rfl (Or.inr ⟨rfl, rfl, rfl⟩) (fun v => by cases v <;> exact ⟨rfl, rfl⟩) ?_
  refine Go_aload_n (pc' := 36) dX11_init_35 rfl rfl rfl ?_
  refine Go_newL (t := 0) (N := 69) (mc := 29) (ms := 3296) (pc' := 39) dX11_init_36 rfl (by decide) kc_RX11_29 inst0 ini0 (defv 0 (by decide)) (Nat.le_of_ble_eq_true rfl) (Nat.le_of_ble_eq_true rfl) rfl ?_
  refine Go_dup (pc' := 40) dX11_init_39 rfl rfl ?_
  refine Go_callI_v (mc := 28) (ms := 3289) (mc2 := 1) (ms2 := 7) (pc' := 43) (As := []) (st := [.ref _, .ref _]) dX11_init_40 rfl ok_X0_init km_RX11_31 rfl (Nat.le_of_ble_eq_true rfl) rfl rfl rfl (Nat.le_of_ble_eq_true rfl) (Nat.lt_succ_self _) (Nat.le_of_ble_eq_true rfl) (Nat.le_of_ble_eq_true rfl) ?_
  refine Go_aload_n (pc' := 1) dX0_init_0 rfl rfl rfl ?_
  refine Go_objInit (pc' := 4) dX0_init_1 rfl km_RX0_3 oi_inst oi_code (Nat.le_of_ble_eq_true rfl) (Nat.succ_pos _) ?_
  refine Go_aload_n (pc' := 5) dX0_init_4 rfl rfl rfl ?_
  refine Go_bipush (v := 7) (pc' := 7) dX0_init_5 rfl (by decide) ?_
  refine Go_newarrayL (t := 20) (n := 7) (N := 70) (mc := 0) (ms := 0) (pc' := 9) dX0_init_7 rfl (Or.inl ⟨rfl, rfl⟩) rfl (by decide) (Nat.le_of_ble_eq_true rfl) (Nat.le_of_ble_eq_true rfl) rfl ?_
  refine Go_putRs (pc' := 12) dX0_init_9 rfl kf_RX0_9 (by decide) (by decide) rfl ⟨(Nat.le_of_ble_eq_true rfl), (Nat.le_of_ble_eq_true rfl)⟩ rfl (Or.inr ⟨rfl, rfl, rfl⟩) (fun v => by cases v <;> exact ⟨rfl, rfl⟩) ?_
  refine Go_return dX0_init_12 rfl ?_
  refine ⟨rfl, ?_⟩
  refine Go_putRs (pc' := 46) dX11_init_43 rfl kf_RX11_32 (by decide) (by decide) rfl ⟨(Nat.le_of_ble_eq_true rfl), (Nat.le_of_ble_eq_true rfl)⟩ rfl (Or.inr ⟨rfl, rfl, rfl⟩) (fun v => by cases v <;> exact ⟨rfl, rfl⟩) ?_
  refine Go_aload_n (pc' := 47) dX11_init_46 rfl rfl rfl ?_
  refine Go_newL (t := 9) (N := 71) (mc := 27) (ms := 3272) (pc' := 50) dX11_init_47 rfl (by decide) kc_RX11_36 inst9 ini9 (defv 9 (by decide)) (Nat.le_of_ble_eq_true rfl) (Nat.le_of_ble_eq_true rfl) rfl ?_
  refine Go_dup (pc' := 51) dX11_init_50 rfl rfl ?_
  refine Go_callI_v (mc := 19) (ms := 1342) (mc2 := 8) (ms2 := 1930) (pc' := 54) (As := []) (st := [.ref _, .ref _]) dX11_init_51 rfl ok_X9_init km_RX11_38 rfl (Nat.le_of_ble_eq_true rfl) rfl rfl rfl (Nat.le_of_ble_eq_true rfl) (Nat.lt_succ_self _) (Nat.le_of_ble_eq_true rfl) (Nat.le_of_ble_eq_true rfl) ?_
  refine Go_aload_n (pc' := 1) dX9_init_0 rfl rfl rfl ?_
  refine Go_objInit (pc' := 4) dX9_init_1 rfl km_RX9_3 oi_inst oi_code (Nat.le_of_ble_eq_true rfl) (Nat.succ_pos _) ?_
  refine Go_aload_n (pc' := 5) dX9_init_4 rfl rfl rfl ?_
  refine Go_sipush (v := 600) (pc' := 8) dX9_init_5 rfl (by decide) ?_
  refine Go_newarrayL (t := 20) (n := 600) (N := 72) (mc := 7) (ms := 1330) (pc' := 10) dX9_init_8 rfl (Or.inl ⟨rfl, rfl⟩) rfl (by decide) (Nat.le_of_ble_eq_true rfl) (Nat.le_of_ble_eq_true rfl) rfl ?_
  refine Go_putRs (pc' := 13) dX9_init_10 rfl kf_RX9_9 (by decide) (by decide) rfl ⟨(Nat.le_of_ble_eq_true rfl), (Nat.le_of_ble_eq_true rfl)⟩ rfl (Or.inr ⟨rfl, rfl, rfl⟩) (fun v => by cases v <;> exact ⟨rfl, rfl⟩) ?_
  refine Go_aload_n (pc' := 14) dX9_init_13 rfl rfl rfl ?_
  refine Go_bipush (v := 40) (pc' := 16) dX9_init_14 rfl (by decide) ?_
  refine Go_newarrayL (t := 20) (n := 40) (N := 73) (mc := 6) (ms := 1290) (pc' := 18) dX9_init_16 rfl (Or.inl ⟨rfl, rfl⟩) rfl (by decide) (Nat.le_of_ble_eq_true rfl) (Nat.le_of_ble_eq_true rfl) rfl ?_
  refine Go_putRs (pc' := 21) dX9_init_18 rfl kf_RX9_15 (by decide) (by decide) rfl ⟨(Nat.le_of_ble_eq_true rfl), (Nat.le_of_ble_eq_true rfl)⟩ rfl (Or.inr ⟨rfl, rfl, rfl⟩) (fun v => by cases v <;> exact ⟨rfl, rfl⟩) ?_
  refine Go_aload_n (pc' := 22) dX9_init_21 rfl rfl rfl ?_
  refine Go_iconst (v := (-1)) (pc' := 23) dX9_init_22 rfl (by decide) ?_
  refine Go_putI (pc' := 26) dX9_init_23 rfl kf_RX9_18 (by decide) (by decide) rfl ⟨(Nat.le_of_ble_eq_true rfl), (Nat.le_of_ble_eq_true rfl)⟩ rfl (Or.inl rfl) rfl rfl ?_
  refine Go_aload_n (pc' := 27) dX9_init_26 rfl rfl rfl ?_
  refine Go_newL (t := 8) (N := 74) (mc := 5) (ms := 1285) (pc' := 30) dX9_init_27 rfl (by decide) kc_RX9_22 inst8 ini8 (defv 8 (by decide)) (Nat.le_of_ble_eq_true rfl) (Nat.le_of_ble_eq_true rfl) rfl ?_
  refine Go_dup (pc' := 31) dX9_init_30 rfl rfl ?_
  refine Go_callI_v (mc := 3) (ms := 645) (mc2 := 2) (ms2 := 640) (pc' := 34) (As := []) (st := [.ref _, .ref _]) dX9_init_31 rfl ok_X8_init km_RX9_24 rfl (Nat.le_of_ble_eq_true rfl) rfl rfl rfl (Nat.le_of_ble_eq_true rfl) (Nat.lt_succ_self _) (Nat.le_of_ble_eq_true rfl) (Nat.le_of_ble_eq_true rfl) ?_
  refine Go_aload_n (pc' := 1) dX8_init_0 rfl rfl rfl ?_
  refine Go_objInit (pc' := 4) dX8_init_1 rfl km_RX8_3 oi_inst oi_code (Nat.le_of_ble_eq_true rfl) (Nat.succ_pos _) ?_
  refine Go_aload_n (pc' := 5) dX8_init_4 rfl rfl rfl ?_
  refine Go_sipush (v := 600) (pc' := 8) dX8_init_5 rfl (by decide) ?_
  refine Go_newarrayL (t := 20) (n := 600) (N := 75) (mc := 1) (ms := 40) (pc' := 10) dX8_init_8 rfl (Or.inl ⟨rfl, rfl⟩) rfl (by decide) (Nat.le_of_ble_eq_true rfl) (Nat.le_of_ble_eq_true rfl) rfl ?_
  refine Go_putRs (pc' := 13) dX8_init_10 rfl kf_RX8_9 (by decide) (by decide) rfl ⟨(Nat.le_of_ble_eq_true rfl), (Nat.le_of_ble_eq_true rfl)⟩ rfl (Or.inr ⟨rfl, rfl, rfl⟩) (fun v => by cases v <;> exact ⟨rfl, rfl⟩) ?_
  refine Go_aload_n (pc' := 14) dX8_init_13 rfl rfl rfl ?_
  refine Go_bipush (v := 40) (pc' := 16) dX8_init_14 rfl (by decide) ?_
  refine Go_newarrayL (t := 20) (n := 40) (N := 76) (mc := 0) (ms := 0) (pc' := 18) dX8_init_16 rfl (Or.inl ⟨rfl, rfl⟩) rfl (by decide) (Nat.le_of_ble_eq_true rfl) (Nat.le_of_ble_eq_true rfl) rfl ?_
  refine Go_putRs (pc' := 21) dX8_init_18 rfl kf_RX8_15 (by decide) (by decide) rfl ⟨(Nat.le_of_ble_eq_true rfl), (Nat.le_of_ble_eq_true rfl)⟩ rfl (Or.inr ⟨rfl, rfl, rfl⟩) (fun v => by cases v <;> exact ⟨rfl, rfl⟩) ?_
  refine Go_return dX8_init_21 rfl ?_
  refine ⟨rfl, ?_⟩
  refine Go_putRs (pc' := 37) dX9_init_34 rfl kf_RX9_25 (by decide) (by decide) rfl ⟨(Nat.le_of_ble_eq_true rfl), (Nat.le_of_ble_eq_true rfl)⟩ rfl (Or.inl rfl) (fun v => by cases v <;> exact ⟨rfl, rfl⟩) ?_
  refine Go_aload_n (pc' := 38) dX9_init_37 rfl rfl rfl ?_
  refine Go_newL (t := 8) (N := 77) (mc := 2) (ms := 640) (pc' := 41) dX9_init_38 rfl (by decide) kc_RX9_22 inst8 ini8 (defv 8 (by decide)) (Nat.le_of_ble_eq_true rfl) (Nat.le_of_ble_eq_true rfl) rfl ?_
  refine Go_dup (pc' := 42) dX9_init_41 rfl rfl ?_
  refine Go_callI_v (mc := 0) (ms := 0) (mc2 := 2) (ms2 := 640) (pc' := 45) (As := []) (st := [.ref _, .ref _]) dX9_init_42 rfl ok_X8_init km_RX9_24 rfl (Nat.le_of_ble_eq_true rfl) rfl rfl rfl (Nat.le_of_ble_eq_true rfl) (Nat.lt_succ_self _) (Nat.le_of_ble_eq_true rfl) (Nat.le_of_ble_eq_true rfl) ?_
  refine Go_aload_n (pc' := 1) dX8_init_0 rfl rfl rfl ?_
  refine Go_objInit (pc' := 4) dX8_init_1 rfl km_RX8_3 oi_inst oi_code (Nat.le_of_ble_eq_true rfl) (Nat.succ_pos _) ?_
  refine Go_aload_n (pc' := 5) dX8_init_4 rfl rfl rfl ?_
  refine Go_sipush (v := 600) (pc' := 8) dX8_init_5 rfl (by decide) ?_
  refine Go_newarrayL (t := 20) (n := 600) (N := 78) (mc := 1) (ms := 40) (pc' := 10) dX8_init_8 rfl (Or.inl ⟨rfl, rfl⟩) rfl (by decide) (Nat.le_of_ble_eq_true rfl) (Nat.le_of_ble_eq_true rfl) rfl ?_
  refine Go_putRs (pc' := 13) dX8_init_10 rfl kf_RX8_9 (by decide) (by decide) rfl ⟨(Nat.le_of_ble_eq_true rfl), (Nat.le_of_ble_eq_true rfl)⟩ rfl (Or.inr ⟨rfl, rfl, rfl⟩) (fun v => by cases v <;> exact ⟨rfl, rfl⟩) ?_
  refine Go_aload_n (pc' := 14) dX8_init_13 rfl rfl rfl ?_
  refine Go_bipush (v := 40) (pc' := 16) dX8_init_14 rfl (by decide) ?_
  refine Go_newarrayL (t := 20) (n := 40) (N := 79) (mc := 0) (ms := 0) (pc' := 18) dX8_init_16 rfl (Or.inl ⟨rfl, rfl⟩) rfl (by decide) (Nat.le_of_ble_eq_true rfl) (Nat.le_of_ble_eq_true rfl) rfl ?_
  refine Go_putRs (pc' := 21) dX8_init_18 rfl kf_RX8_15 (by decide) (by decide) rfl ⟨(Nat.le_of_ble_eq_true rfl), (Nat.le_of_ble_eq_true rfl)⟩ rfl (Or.inr ⟨rfl, rfl, rfl⟩) (fun v => by cases v <;> exact ⟨rfl, rfl⟩) ?_
  refine Go_return dX8_init_21 rfl ?_
  refine ⟨rfl, ?_⟩
  refine Go_putRs (pc' := 48) dX9_init_45 rfl kf_RX9_29 (by decide) (by decide) rfl ⟨(Nat.le_of_ble_eq_true rfl), (Nat.le_of_ble_eq_true rfl)⟩ rfl (Or.inl rfl) (fun v => by cases v <;> exact ⟨rfl, rfl⟩) ?_
  refine Go_return dX9_init_48 rfl ?_
  refine ⟨rfl, ?_⟩
  refine Go_putRs (pc' := 57) dX11_init_54 rfl kf_RX11_39 (by decide) (by decide) rfl ⟨(Nat.le_of_ble_eq_true rfl), (Nat.le_of_ble_eq_true rfl)⟩ rfl (Or.inr ⟨rfl, rfl, rfl⟩) (fun v => by cases v <;> exact ⟨rfl, rfl⟩) ?_
  refine Go_aload_n (pc' := 58) dX11_init_57 rfl rfl rfl ?_
  refine Go_bipush (v := 16) (pc' := 60) dX11_init_58 rfl (by decide) ?_
  refine Go_anewarrayL (t := 35) (n := 16) (N := 80) (mc := 18) (ms := 1326) (pc' := 63) dX11_init_60 rfl rfl kc_RX11_43 ao5 rfl (by decide) (Nat.le_of_ble_eq_true rfl) (Nat.le_of_ble_eq_true rfl) rfl ?_
  refine Go_putRs (pc' := 66) dX11_init_63 rfl kf_RX11_45 (by decide) (by decide) rfl ⟨(Nat.le_of_ble_eq_true rfl), (Nat.le_of_ble_eq_true rfl)⟩ rfl (Or.inr ⟨rfl, rfl, rfl⟩) (fun v => by cases v <;> exact ⟨rfl, rfl⟩) ?_
  refine Go_aload_n (pc' := 67) dX11_init_66 rfl rfl rfl ?_
  refine Go_bipush (v := 10) (pc' := 69) dX11_init_67 rfl (by decide) ?_
  refine Go_putI (pc' := 72) dX11_init_69 rfl kf_RX11_49 (by decide) (by decide) rfl ⟨(Nat.le_of_ble_eq_true rfl), (Nat.le_of_ble_eq_true rfl)⟩ rfl (Or.inl rfl) rfl rfl ?_
  refine Go_aload_n (pc' := 73) dX11_init_72 rfl rfl rfl ?_
  refine Go_bipush (v := 17) (pc' := 75) dX11_init_73 rfl (by decide) ?_
  refine Go_putI (pc' := 78) dX11_init_75 rfl kf_RX11_53 (by decide) (by decide) rfl ⟨(Nat.le_of_ble_eq_true rfl), (Nat.le_of_ble_eq_true rfl)⟩ rfl (Or.inl rfl) rfl rfl ?_
  refine Go_aload_n (pc' := 79) dX11_init_78 rfl rfl rfl ?_
  refine Go_newL (t := 10) (N := 81) (mc := 17) (ms := 1324) (pc' := 82) dX11_init_79 rfl (by decide) kc_RX11_56 inst10 ini10 (defv 10 (by decide)) (Nat.le_of_ble_eq_true rfl) (Nat.le_of_ble_eq_true rfl) rfl ?_
  refine Go_dup (pc' := 83) dX11_init_82 rfl rfl ?_
  refine Go_callI_v (mc := 16) (ms := 1316) (mc2 := 1) (ms2 := 8) (pc' := 86) (As := []) (st := [.ref _, .ref _]) dX11_init_83 rfl ok_X10_init km_RX11_58 rfl (Nat.le_of_ble_eq_true rfl) rfl rfl rfl (Nat.le_of_ble_eq_true rfl) (Nat.lt_succ_self _) (Nat.le_of_ble_eq_true rfl) (Nat.le_of_ble_eq_true rfl) ?_
  refine Go_aload_n (pc' := 1) dX10_init_0 rfl rfl rfl ?_
  refine Go_objInit (pc' := 4) dX10_init_1 rfl km_RX10_3 oi_inst oi_code (Nat.le_of_ble_eq_true rfl) (Nat.succ_pos _) ?_
  refine Go_aload_n (pc' := 5) dX10_init_4 rfl rfl rfl ?_
  refine Go_bipush (v := 8) (pc' := 7) dX10_init_5 rfl (by decide) ?_
  refine Go_newarrayL (t := 20) (n := 8) (N := 82) (mc := 0) (ms := 0) (pc' := 9) dX10_init_7 rfl (Or.inl ⟨rfl, rfl⟩) rfl (by decide) (Nat.le_of_ble_eq_true rfl) (Nat.le_of_ble_eq_true rfl) rfl ?_
  refine Go_putRs (pc' := 12) dX10_init_9 rfl kf_RX10_9 (by decide) (by decide) rfl ⟨(Nat.le_of_ble_eq_true rfl), (Nat.le_of_ble_eq_true rfl)⟩ rfl (Or.inr ⟨rfl, rfl, rfl⟩) (fun v => by cases v <;> exact ⟨rfl, rfl⟩) ?_
  refine Go_return dX10_init_12 rfl ?_
  refine ⟨rfl, ?_⟩
  refine Go_putRs (pc' := 89) dX11_init_86 rfl kf_RX11_59 (by decide) (by decide) rfl ⟨(Nat.le_of_ble_eq_true rfl), (Nat.le_of_ble_eq_true rfl)⟩ rfl (Or.inr ⟨rfl, rfl, rfl⟩) (fun v => by cases v <;> exact ⟨rfl, rfl⟩) ?_
  refine Go_aload_n (pc' := 90) dX11_init_89 rfl rfl rfl ?_
  refine Go_newL (t := 1) (N := 83) (mc := 15) (ms := 1310) (pc' := 93) dX11_init_90 rfl (by decide) kc_RX11_63 inst1 ini1 (defv 1 (by decide)) (Nat.le_of_ble_eq_true rfl) (Nat.le_of_ble_eq_true rfl) rfl ?_
  refine Go_dup (pc' := 94) dX11_init_93 rfl rfl ?_
  refine Go_callI_v (mc := 10) (ms := 810) (mc2 := 5) (ms2 := 500) (pc' := 97) (As := []) (st := [.ref _, .ref _]) dX11_init_94 rfl ok_X1_init km_RX11_65 rfl (Nat.le_of_ble_eq_true rfl) rfl rfl rfl (Nat.le_of_ble_eq_true rfl) (Nat.lt_succ_self _) (Nat.le_of_ble_eq_true rfl) (Nat.le_of_ble_eq_true rfl) ?_
  refine Go_aload_n (pc' := 1) dX1_init_0 rfl rfl rfl ?_
  refine Go_objInit (pc' := 4) dX1_init_1 rfl km_RX1_3 oi_inst oi_code (Nat.le_of_ble_eq_true rfl) (Nat.succ_pos _) ?_
  refine Go_aload_n (pc' := 5) dX1_init_4 rfl rfl rfl ?_
  refine Go_bipush (v := 100) (pc' := 7) dX1_init_5 rfl (by decide) ?_
  refine Go_newarrayL (t := 20) (n := 100) (N := 84) (mc := 4) (ms := 400) (pc' := 9) dX1_init_7 rfl (Or.inl ⟨rfl, rfl⟩) rfl (by decide) (Nat.le_of_ble_eq_true rfl) (Nat.le_of_ble_eq_true rfl) rfl ?_
  refine Go_putRs (pc' := 12) dX1_init_9 rfl kf_RX1_9 (by decide) (by decide) rfl ⟨(Nat.le_of_ble_eq_true rfl), (Nat.le_of_ble_eq_true rfl)⟩ rfl (Or.inr ⟨rfl, rfl, rfl⟩) (fun v => by cases v <;> exact ⟨rfl, rfl⟩) ?_
  refine Go_aload_n (pc' := 13) dX1_init_12 rfl rfl rfl ?_
  refine Go_bipush (v := 100) (pc' := 15) dX1_init_13 rfl (by decide) ?_
  refine Go_newarrayL (t := 20) (n := 100) (N := 85) (mc := 3) (ms := 300) (pc' := 17) dX1_init_15 rfl (Or.inl ⟨rfl, rfl⟩) rfl (by decide) (Nat.le_of_ble_eq_true rfl) (Nat.le_of_ble_eq_true rfl) rfl ?_
  refine Go_putRs (pc' := 20) dX1_init_17 rfl kf_RX1_15 (by decide) (by decide) rfl ⟨(Nat.le_of_ble_eq_true rfl), (Nat.le_of_ble_eq_true rfl)⟩ rfl (Or.inr ⟨rfl, rfl, rfl⟩) (fun v => by cases v <;> exact ⟨rfl, rfl⟩) ?_
  refine Go_aload_n (pc' := 21) dX1_init_20 rfl rfl rfl ?_
  refine Go_bipush (v := 100) (pc' := 23) dX1_init_21 rfl (by decide) ?_
  refine Go_newarrayL (t := 20) (n := 100) (N := 86) (mc := 2) (ms := 200) (pc' := 25) dX1_init_23 rfl (Or.inl ⟨rfl, rfl⟩) rfl (by decide) (Nat.le_of_ble_eq_true rfl) (Nat.le_of_ble_eq_true rfl) rfl ?_
  refine Go_putRs (pc' := 28) dX1_init_25 rfl kf_RX1_18 (by decide) (by decide) rfl ⟨(Nat.le_of_ble_eq_true rfl), (Nat.le_of_ble_eq_true rfl)⟩ rfl (Or.inr ⟨rfl, rfl, rfl⟩) (fun v => by cases v <;> exact ⟨rfl, rfl⟩) ?_
  refine Go_aload_n (pc' := 29) dX1_init_28 rfl rfl rfl ?_
  refine Go_bipush (v := 100) (pc' := 31) dX1_init_29 rfl (by decide) ?_
  refine Go_newarrayL (t := 20) (n := 100) (N := 87) (mc := 1) (ms := 100) (pc' := 33) dX1_init_31 rfl (Or.inl ⟨rfl, rfl⟩) rfl (by decide) (Nat.le_of_ble_eq_true rfl) (Nat.le_of_ble_eq_true rfl) rfl ?_
  refine Go_putRs (pc' := 36) dX1_init_33 rfl kf_RX1_21 (by decide) (by decide) rfl ⟨(Nat.le_of_ble_eq_true rfl), (Nat.le_of_ble_eq_true rfl)⟩ rfl (Or.inr ⟨rfl, rfl, rfl⟩) (fun v => by cases v <;> exact ⟨rfl, rfl⟩) ?_
  refine Go_aload_n (pc' := 37) dX1_init_36 rfl rfl rfl ?_
  refine Go_bipush (v := 100) (pc' := 39) dX1_init_37 rfl (by decide) ?_
  refine Go_newarrayL (t := 21) (n := 100) (N := 88) (mc := 0) (ms := 0) (pc' := 41) dX1_init_39 rfl (Or.inr ⟨rfl, rfl⟩) rfl (by decide) (Nat.le_of_ble_eq_true rfl) (Nat.le_of_ble_eq_true rfl) rfl ?_
  refine Go_putRs (pc' := 44) dX1_init_41 rfl kf_RX1_24 (by decide) (by decide) rfl ⟨(Nat.le_of_ble_eq_true rfl), (Nat.le_of_ble_eq_true rfl)⟩ rfl (Or.inr ⟨rfl, rfl, rfl⟩) (fun v => by cases v <;> exact ⟨rfl, rfl⟩) ?_
  refine Go_return dX1_init_44 rfl ?_
  refine ⟨rfl, ?_⟩
  refine Go_putRs (pc' := 100) dX11_init_97 rfl kf_RX11_66 (by decide) (by decide) rfl ⟨(Nat.le_of_ble_eq_true rfl), (Nat.le_of_ble_eq_true rfl)⟩ rfl (Or.inr ⟨rfl, rfl, rfl⟩) (fun v => by cases v <;> exact ⟨rfl, rfl⟩) ?_
  refine Go_aload_n (pc' := 101) dX11_init_100 rfl rfl rfl ?_
  refine Go_newL (t := 1) (N := 89) (mc := 9) (ms := 804) (pc' := 104) dX11_init_101 rfl (by decide) kc_RX11_63 inst1 ini1 (defv 1 (by decide)) (Nat.le_of_ble_eq_true rfl) (Nat.le_of_ble_eq_true rfl) rfl ?_
  refine Go_dup (pc' := 105) dX11_init_104 rfl rfl ?_
  refine Go_callI_v (mc := 4) (ms := 304) (mc2 := 5) (ms2 := 500) (pc' := 108) (As := []) (st := [.ref _, .ref _]) dX11_init_105 rfl ok_X1_init km_RX11_65 rfl (Nat.le_of_ble_eq_true rfl) rfl rfl rfl (Nat.le_of_ble_eq_true rfl) (Nat.lt_succ_self _) (Nat.le_of_ble_eq_true rfl) (Nat.le_of_ble_eq_true rfl) ?_
  refine Go_aload_n (pc' := 1) dX1_init_0 rfl rfl rfl ?_
  refine Go_objInit (pc' := 4) dX1_init_1 rfl km_RX1_3 oi_inst oi_code (Nat.le_of_ble_eq_true rfl) (Nat.succ_pos _) ?_
  refine Go_aload_n (pc' := 5) dX1_init_4 rfl rfl rfl ?_
  refine Go_bipush (v := 100) (pc' := 7) dX1_init_5 rfl (by decide) ?_
  refine Go_newarrayL (t := 20) (n := 100) (N := 90) (mc := 4) (ms := 400) (pc' := 9) dX1_init_7 rfl (Or.inl ⟨rfl, rfl⟩) rfl (by decide) (Nat.le_of_ble_eq_true rfl) (Nat.le_of_ble_eq_true rfl) rfl ?_
  refine Go_putRs (pc' := 12) dX1_init_9 rfl kf_RX1_9 (by decide) (by decide) rfl ⟨(Nat.le_of_ble_eq_true rfl), (Nat.le_of_ble_eq_true rfl)⟩ rfl (Or.inr ⟨rfl, rfl, rfl⟩) (fun v => by cases v <;> exact ⟨rfl, rfl⟩) ?_
  refine Go_aload_n (pc' := 13) dX1_init_12 rfl rfl rfl ?_
  refine Go_bipush (v := 100) (pc' := 15) dX1_init_13 rfl (by decide) ?_
  refine Go_newarrayL (t := 20) (n := 100) (N := 91) (mc := 3) (ms := 300) (pc' := 17) dX1_init_15 rfl (Or.inl ⟨rfl, rfl⟩) rfl (by decide) (Nat.le_of_ble_eq_true rfl) (Nat.le_of_ble_eq_true rfl) rfl ?_
  refine Go_putRs (pc' := 20) dX1_init_17 rfl kf_RX1_15 (by decide) (by decide) rfl ⟨(Nat.le_of_ble_eq_true rfl), (Nat.le_of_ble_eq_true rfl)⟩ rfl (Or.inr ⟨rfl, rfl, rfl⟩) (fun v => by cases v <;> exact ⟨rfl, rfl⟩) ?_
  refine Go_aload_n (pc' := 21) dX1_init_20 rfl rfl rfl ?_
  refine Go_bipush (v := 100) (pc' := 23) dX1_init_21 rfl (by decide) ?_
  refine Go_newarrayL (t := 20) (n := 100) (N := 92) (mc := 2) (ms := 200) (pc' := 25) dX1_init_23 rfl (Or.inl ⟨rfl, rfl⟩) rfl (by decide) (Nat.le_of_ble_eq_true rfl) (Nat.le_of_ble_eq_true rfl) rfl ?_
  refine Go_putRs (pc' := 28) dX1_init_25 rfl kf_RX1_18 (by decide) (by decide) rfl ⟨(Nat.le_of_ble_eq_true rfl), (Nat.le_of_ble_eq_true rfl)⟩ rfl (Or.inr ⟨rfl, rfl, rfl⟩) (fun v => by cases v <;> exact ⟨rfl, rfl⟩) ?_
  refine Go_aload_n (pc' := 29) dX1_init_28 rfl rfl rfl ?_
  refine Go_bipush (v := 100) (pc' := 31) dX1_init_29 rfl (by decide) ?_
  refine Go_newarrayL (t := 20) (n := 100) (N := 93) (mc := 1) (ms := 100) (pc' := 33) dX1_init_31 rfl (Or.inl ⟨rfl, rfl⟩) rfl (by decide) (Nat.le_of_ble_eq_true rfl) (Nat.le_of_ble_eq_true rfl) rfl ?_
  refine Go_putRs (pc' := 36) dX1_init_33 rfl kf_RX1_21 (by decide) (by decide) rfl ⟨(Nat.le_of_ble_eq_true rfl), (Nat.le_of_ble_eq_true rfl)⟩ rfl (Or.inr ⟨rfl, rfl, rfl⟩) (fun v => by cases v <;> exact ⟨rfl, rfl⟩) ?_
  refine Go_aload_n (pc' := 37) dX1_init_36 rfl rfl rfl ?_
  refine Go_bipush (v := 100) (pc' := 39) dX1_init_37 rfl (by decide) ?_
  refine Go_newarrayL (t := 21) (n := 100) (N := 94) (mc := 0) (ms := 0) (pc' := 41) dX1_init_39 rfl (Or.inr ⟨rfl, rfl⟩) rfl (by decide) (Nat.le_of_ble_eq_true rfl) (Nat.le_of_ble_eq_true rfl) rfl ?_
  refine Go_putRs (pc' := 44) dX1_init_41 rfl kf_RX1_24 (by decide) (by decide) rfl ⟨(Nat.le_of_ble_eq_true rfl), (Nat.le_of_ble_eq_true rfl)⟩ rfl (Or.inr ⟨rfl, rfl, rfl⟩) (fun v => by cases v <;> exact ⟨rfl, rfl⟩) ?_
  refine Go_return dX1_init_44 rfl ?_
  refine ⟨rfl, ?_⟩
  refine Go_putRs (pc' := 111) dX11_init_108 rfl kf_RX11_70 (by decide) (by decide) rfl ⟨(Nat.le_of_ble_eq_true rfl), (Nat.le_of_ble_eq_true rfl)⟩ rfl (Or.inr ⟨rfl, rfl, rfl⟩) (fun v => by cases v <;> exact ⟨rfl, rfl⟩) ?_
  refine Go_aload_n (pc' := 112) dX11_init_111 rfl rfl rfl ?_
  refine Go_newL (t := 4) (N := 95) (mc := 3) (ms := 300) (pc' := 115) dX11_init_112 rfl (by decide) kc_RX11_73 inst4 ini4 (defv 4 (by decide)) (Nat.le_of_ble_eq_true rfl) (Nat.le_of_ble_eq_true rfl) rfl ?_
  refine Go_dup (pc' := 116) dX11_init_115 rfl rfl ?_
  refine Go_callI_v (mc := 0) (ms := 0) (mc2 := 3) (ms2 := 300) (pc' := 119) (As := []) (st := [.ref _, .ref _]) dX11_init_116 rfl ok_X4_init km_RX11_75 rfl (Nat.le_of_ble_eq_true rfl) rfl rfl rfl (Nat.le_of_ble_eq_true rfl) (Nat.lt_succ_self _) (Nat.le_of_ble_eq_true rfl) (Nat.le_of_ble_eq_true rfl) ?_
  refine Go_aload_n (pc' := 1) dX4_init_0 rfl rfl rfl ?_
  refine Go_objInit (pc' := 4) dX4_init_1 rfl km_RX4_3 oi_inst oi_code (Nat.le_of_ble_eq_true rfl) (Nat.succ_pos _) ?_
  refine Go_aload_n (pc' := 5) dX4_init_4 rfl rfl rfl ?_
  refine Go_bipush (v := 100) (pc' := 7) dX4_init_5 rfl (by decide) ?_
  refine Go_newarrayL (t := 20) (n := 100) (N := 96) (mc := 2) (ms := 200) (pc' := 9) dX4_init_7 rfl (Or.inl ⟨rfl, rfl⟩) rfl (by decide) (Nat.le_of_ble_eq_true rfl) (Nat.le_of_ble_eq_true rfl) rfl ?_
  refine Go_putRs (pc' := 12) dX4_init_9 rfl kf_RX4_9 (by decide) (by decide) rfl ⟨(Nat.le_of_ble_eq_true rfl), (Nat.le_of_ble_eq_true rfl)⟩ rfl (Or.inr ⟨rfl, rfl, rfl⟩) (fun v => by cases v <;> exact ⟨rfl, rfl⟩) ?_
  refine Go_aload_n (pc' := 13) dX4_init_12 rfl rfl rfl ?_
  refine Go_bipush (v := 100) (pc' := 15) dX4_init_13 rfl (by decide) ?_
  refine Go_newarrayL (t := 20) (n := 100) (N := 97) (mc := 1) (ms := 100) (pc' := 17) dX4_init_15 rfl (Or.inl ⟨rfl, rfl⟩) rfl (by decide) (Nat.le_of_ble_eq_true rfl) (Nat.le_of_ble_eq_true rfl) rfl ?_
  refine Go_putRs (pc' := 20) dX4_init_17 rfl kf_RX4_15 (by decide) (by decide) rfl ⟨(Nat.le_of_ble_eq_true rfl), (Nat.le_of_ble_eq_true rfl)⟩ rfl (Or.inr ⟨rfl, rfl, rfl⟩) (fun v => by cases v <;> exact ⟨rfl, rfl⟩) ?_
  refine Go_aload_n (pc' := 21) dX4_init_20 rfl rfl rfl ?_
  refine Go_bipush (v := 100) (pc' := 23) dX4_init_21 rfl (by decide) ?_
  refine Go_newarrayL (t := 20) (n := 100) (N := 98) (mc := 0) (ms := 0) (pc' := 25) dX4_init_23 rfl (Or.inl ⟨rfl, rfl⟩) rfl (by decide) (Nat.le_of_ble_eq_true rfl) (Nat.le_of_ble_eq_true rfl) rfl ?_
  refine Go_putRs (pc' := 28) dX4_init_25 rfl kf_RX4_18 (by decide) (by decide) rfl ⟨(Nat.le_of_ble_eq_true rfl), (Nat.le_of_ble_eq_true rfl)⟩ rfl (Or.inr ⟨rfl, rfl, rfl⟩) (fun v => by cases v <;> exact ⟨rfl, rfl⟩) ?_
  refine Go_return dX4_init_28 rfl ?_
  refine ⟨rfl, ?_⟩
  refine Go_putRs (pc' := 122) dX11_init_119 rfl kf_RX11_76 (by decide) (by decide) rfl ⟨(Nat.le_of_ble_eq_true rfl), (Nat.le_of_ble_eq_true rfl)⟩ rfl (Or.inr ⟨rfl, rfl, rfl⟩) (fun v => by cases v <;> exact ⟨rfl, rfl⟩) ?_
  refine Go_return dX11_init_122 rfl ?_
  exact hx f hf
def hM (f : Nat → Int32) : HS := (wR (nw (wR (nw (wR (nw (wR (nw (wR (nw (wR (nw (wR (nw (wR (nw (wR (nw (wR (wI (wI (wI (wI (wI (wI (wI (wI (wI (wI (wI (wI (wI (wI (wI (wI (nw (wR (nw (wR (nw (wR (nw (wR (nw (wR (nw (wR (nw (wR (nw (wR (nw (wI (wI (wI (wR (nw (wR (nw (wR (nw (wR (nw (wR (nw (wR (nw (wR (nw (wR (nw (wR (nw (wR (nw (wR (nw (wR (nw (wR (nw (wR (nw (wR (nw (wR (nw (wR (nw (wR (nw (wR (nw (wR (nw (wR (nw (wR (nw (wR (nw (wR (nw (nw (hC f) (12, 0)) (20, 6)) 99 1 (some 100)) (20, 6)) 99 2 (some 101)) (20, 6)) 99 3 (some 102)) (20, 6)) 99 4 (some 103)) (20, 6)) 99 5 (some 104)) (20, 6)) 99 6 (some 105)) (20, 1200)) 99 7 (some 106)) (20, 6)) 99 8 (some 107)) (20, 240)) 99 9 (some 108)) (20, 240)) 99 10 (some 109)) (20, 6)) 99 11 (some 110)) (20, 6)) 99 12 (some 111)) (20, 6)) 99 13 (some 112)) (20, 6)) 99 14 (some 113)) (20, 6)) 99 15 (some 114)) (20, 8)) 99 16 (some 115)) (20, 600)) 99 17 (some 116)) (20, 620)) 99 18 (some 117)) (20, 1220)) 99 19 (some 118)) (20, 1220)) 99 20 (some 119)) (20, 16)) 99 21 (some 120)) (20, 17)) 99 22 (some 121)) (20, 16)) 99 23 (some 122)) (20, 17)) 99 24 (some 123)) 99 37 (-1)) 99 39 10) 99 40 17) (21, 96)) 99 41 (some 124)) (21, 96)) 99 42 (some 125)) (20, 96)) 99 43 (some 126)) (20, 96)) 99 44 (some 127)) (20, 96)) 99 45 (some 128)) (20, 96)) 99 46 (some 129)) (20, 96)) 99 47 (some 130)) (20, 96)) 99 48 (some 131)) (20, 16)) 132 0 (-1)) 132 1 (-1)) 132 2 (-1)) 132 3 (-1)) 132 4 (-1)) 132 5 (-1)) 132 6 (-1)) 132 7 (-1)) 132 8 (-1)) 132 9 (-1)) 132 10 (-1)) 132 11 (-1)) 132 12 (-1)) 132 13 (-1)) 132 14 (-1)) 132 15 (-1)) 99 49 (some 132)) (20, 8)) 99 50 (some 133)) (20, 2)) 99 52 (some 134)) (20, 200)) 99 53 (some 135)) (20, 200)) 99 54 (some 136)) (20, 200)) 99 55 (some 137)) (20, 100)) 99 56 (some 138)) (20, 100)) 99 57 (some 139)) (20, 100)) 99 58 (some 140)) (21, 100)) 99 60 (some 141))
set_option maxRecDepth 20000 in
set_option maxHeartbeats 1000000 in
theorem s_initM {G : GC} {d : Nat} {K : Option Value → HS → Prop} {f : Nat → Int32} (hx : K none (hM f)) : Go G (d + 4) 42 7280 M_X12_init 0 [.ref 99] [] (nw (hC f) (12, 0)) K := by
  refine Go_aload_n (pc' := 1) dX12_init_0 rfl rfl rfl ?_
  refine Go_objInit (pc' := 4) dX12_init_1 rfl km_RX12_1 oi_inst oi_code (Nat.le_of_ble_eq_true rfl) (Nat.succ_pos _) ?_
  refine Go_aload_n (pc' := 5) dX12_init_4 rfl rfl rfl ?_
  refine Go_bipush (v := 6) (pc' := 7) dX12_init_5 rfl (by decide) ?_
  refine Go_newarrayL (t := 20) (n := 6) (N := 100) (mc := 41) (ms := 7274) (pc' := 9) dX12_init_7 rfl (Or.inl ⟨rfl, rfl⟩) rfl (by decide) (Nat.le_of_ble_eq_true rfl) (Nat.le_of_ble_eq_true rfl) rfl ?_
  refine Go_putRs (pc' := 12) dX12_init_9 rfl kf_RX12_7 (by decide) (by decide) rfl ⟨(Nat.le_of_ble_eq_true rfl), (Nat.le_of_ble_eq_true rfl)⟩ rfl (Or.inr ⟨rfl, rfl, rfl⟩) (fun v => by cases v <;> exact ⟨rfl, rfl⟩) ?_
  refine Go_aload_n (pc' := 13) dX12_init_12 rfl rfl rfl ?_
  refine Go_bipush (v := 6) (pc' := 15) dX12_init_13 rfl (by decide) ?_
  refine Go_newarrayL (t := 20) (n := 6) (N := 101) (mc := 40) (ms := 7268) (pc' := 17) dX12_init_15 rfl (Or.inl ⟨rfl, rfl⟩) rfl (by decide) (Nat.le_of_ble_eq_true rfl) (Nat.le_of_ble_eq_true rfl) rfl ?_
  refine Go_putRs (pc' := 20) dX12_init_17 rfl kf_RX12_13 (by decide) (by decide) rfl ⟨(Nat.le_of_ble_eq_true rfl), (Nat.le_of_ble_eq_true rfl)⟩ rfl (Or.inr ⟨rfl, rfl, rfl⟩) (fun v => by cases v <;> exact ⟨rfl, rfl⟩) ?_
  refine Go_aload_n (pc' := 21) dX12_init_20 rfl rfl rfl ?_
  refine Go_bipush (v := 6) (pc' := 23) dX12_init_21 rfl (by decide) ?_
  refine Go_newarrayL (t := 20) (n := 6) (N := 102) (mc := 39) (ms := 7262) (pc' := 25) dX12_init_23 rfl (Or.inl ⟨rfl, rfl⟩) rfl (by decide) (Nat.le_of_ble_eq_true rfl) (Nat.le_of_ble_eq_true rfl) rfl ?_
  refine Go_putRs (pc' := 28) dX12_init_25 rfl kf_RX12_16 (by decide) (by decide) rfl ⟨(Nat.le_of_ble_eq_true rfl), (Nat.le_of_ble_eq_true rfl)⟩ rfl (Or.inr ⟨rfl, rfl, rfl⟩) (fun v => by cases v <;> exact ⟨rfl, rfl⟩) ?_
  refine Go_aload_n (pc' := 29) dX12_init_28 rfl rfl rfl ?_
  refine Go_bipush (v := 6) (pc' := 31) dX12_init_29 rfl (by decide) ?_
  refine Go_newarrayL (t := 20) (n := 6) (N := 103) (mc := 38) (ms := 7256) (pc' := 33) dX12_init_31 rfl (Or.inl ⟨rfl, rfl⟩) rfl (by decide) (Nat.le_of_ble_eq_true rfl) (Nat.le_of_ble_eq_true rfl) rfl ?_
  refine Go_putRs (pc' := 36) dX12_init_33 rfl kf_RX12_19 (by decide) (by decide) rfl ⟨(Nat.le_of_ble_eq_true rfl), (Nat.le_of_ble_eq_true rfl)⟩ rfl (Or.inr ⟨rfl, rfl, rfl⟩) (fun v => by cases v <;> exact ⟨rfl, rfl⟩) ?_
  refine Go_aload_n (pc' := 37) dX12_init_36 rfl rfl rfl ?_
  refine Go_bipush (v := 6) (pc' := 39) dX12_init_37 rfl (by decide) ?_
  refine Go_newarrayL (t := 20) (n := 6) (N := 104) (mc := 37) (ms := 7250) (pc' := 41) dX12_init_39 rfl (Or.inl ⟨rfl, rfl⟩) rfl (by decide) (Nat.le_of_ble_eq_true rfl) (Nat.le_of_ble_eq_true rfl) rfl ?_
  refine Go_putRs (pc' := 44) dX12_init_41 rfl kf_RX12_22 (by decide) (by decide) rfl ⟨(Nat.le_of_ble_eq_true rfl), (Nat.le_of_ble_eq_true rfl)⟩ rfl (Or.inr ⟨rfl, rfl, rfl⟩) (fun v => by cases v <;> exact ⟨rfl, rfl⟩) ?_
  refine Go_aload_n (pc' := 45) dX12_init_44 rfl rfl rfl ?_
  refine Go_bipush (v := 6) (pc' := 47) dX12_init_45 rfl (by decide) ?_
  refine Go_newarrayL (t := 20) (n := 6) (N := 105) (mc := 36) (ms := 7244) (pc' := 49) dX12_init_47 rfl (Or.inl ⟨rfl, rfl⟩) rfl (by decide) (Nat.le_of_ble_eq_true rfl) (Nat.le_of_ble_eq_true rfl) rfl ?_
  refine Go_putRs (pc' := 52) dX12_init_49 rfl kf_RX12_25 (by decide) (by decide) rfl ⟨(Nat.le_of_ble_eq_true rfl), (Nat.le_of_ble_eq_true rfl)⟩ rfl (Or.inr ⟨rfl, rfl, rfl⟩) (fun v => by cases v <;> exact ⟨rfl, rfl⟩) ?_
  refine Go_aload_n (pc' := 53) dX12_init_52 rfl rfl rfl ?_
  refine Go_sipush (v := 1200) (pc' := 56) dX12_init_53 rfl (by decide) ?_
  refine Go_newarrayL (t := 20) (n := 1200) (N := 106) (mc := 35) (ms := 6044) (pc' := 58) dX12_init_56 rfl (Or.inl ⟨rfl, rfl⟩) rfl (by decide) (Nat.le_of_ble_eq_true rfl) (Nat.le_of_ble_eq_true rfl) rfl ?_
  refine Go_putRs (pc' := 61) dX12_init_58 rfl kf_RX12_28 (by decide) (by decide) rfl ⟨(Nat.le_of_ble_eq_true rfl), (Nat.le_of_ble_eq_true rfl)⟩ rfl (Or.inr ⟨rfl, rfl, rfl⟩) (fun v => by cases v <;> exact ⟨rfl, rfl⟩) ?_
  refine Go_aload_n (pc' := 62) dX12_init_61 rfl rfl rfl ?_
  refine Go_bipush (v := 6) (pc' := 64) dX12_init_62 rfl (by decide) ?_
  refine Go_newarrayL (t := 20) (n := 6) (N := 107) (mc := 34) (ms := 6038) (pc' := 66) dX12_init_64 rfl (Or.inl ⟨rfl, rfl⟩) rfl (by decide) (Nat.le_of_ble_eq_true rfl) (Nat.le_of_ble_eq_true rfl) rfl ?_
  refine Go_putRs (pc' := 69) dX12_init_66 rfl kf_RX12_31 (by decide) (by decide) rfl ⟨(Nat.le_of_ble_eq_true rfl), (Nat.le_of_ble_eq_true rfl)⟩ rfl (Or.inr ⟨rfl, rfl, rfl⟩) (fun v => by cases v <;> exact ⟨rfl, rfl⟩) ?_
  refine Go_aload_n (pc' := 70) dX12_init_69 rfl rfl rfl ?_
  refine Go_sipush (v := 240) (pc' := 73) dX12_init_70 rfl (by decide) ?_
  refine Go_newarrayL (t := 20) (n := 240) (N := 108) (mc := 33) (ms := 5798) (pc' := 75) dX12_init_73 rfl (Or.inl ⟨rfl, rfl⟩) rfl (by decide) (Nat.le_of_ble_eq_true rfl) (Nat.le_of_ble_eq_true rfl) rfl ?_
  refine Go_putRs (pc' := 78) dX12_init_75 rfl kf_RX12_34 (by decide) (by decide) rfl ⟨(Nat.le_of_ble_eq_true rfl), (Nat.le_of_ble_eq_true rfl)⟩ rfl (Or.inr ⟨rfl, rfl, rfl⟩) (fun v => by cases v <;> exact ⟨rfl, rfl⟩) ?_
  refine Go_aload_n (pc' := 79) dX12_init_78 rfl rfl rfl ?_
  refine Go_sipush (v := 240) (pc' := 82) dX12_init_79 rfl (by decide) ?_
  refine Go_newarrayL (t := 20) (n := 240) (N := 109) (mc := 32) (ms := 5558) (pc' := 84) dX12_init_82 rfl (Or.inl ⟨rfl, rfl⟩) rfl (by decide) (Nat.le_of_ble_eq_true rfl) (Nat.le_of_ble_eq_true rfl) rfl ?_
  refine Go_putRs (pc' := 87) dX12_init_84 rfl kf_RX12_37 (by decide) (by decide) rfl ⟨(Nat.le_of_ble_eq_true rfl), (Nat.le_of_ble_eq_true rfl)⟩ rfl (Or.inr ⟨rfl, rfl, rfl⟩) (fun v => by cases v <;> exact ⟨rfl, rfl⟩) ?_
  refine Go_aload_n (pc' := 88) dX12_init_87 rfl rfl rfl ?_
  refine Go_bipush (v := 6) (pc' := 90) dX12_init_88 rfl (by decide) ?_
  refine Go_newarrayL (t := 20) (n := 6) (N := 110) (mc := 31) (ms := 5552) (pc' := 92) dX12_init_90 rfl (Or.inl ⟨rfl, rfl⟩) rfl (by decide) (Nat.le_of_ble_eq_true rfl) (Nat.le_of_ble_eq_true rfl) rfl ?_
  refine Go_putRs (pc' := 95) dX12_init_92 rfl kf_RX12_40 (by decide) (by decide) rfl ⟨(Nat.le_of_ble_eq_true rfl), (Nat.le_of_ble_eq_true rfl)⟩ rfl (Or.inr ⟨rfl, rfl, rfl⟩) (fun v => by cases v <;> exact ⟨rfl, rfl⟩) ?_
  refine Go_aload_n (pc' := 96) dX12_init_95 rfl rfl rfl ?_
  refine Go_bipush (v := 6) (pc' := 98) dX12_init_96 rfl (by decide) ?_
  refine Go_newarrayL (t := 20) (n := 6) (N := 111) (mc := 30) (ms := 5546) (pc' := 100) dX12_init_98 rfl (Or.inl ⟨rfl, rfl⟩) rfl (by decide) (Nat.le_of_ble_eq_true rfl) (Nat.le_of_ble_eq_true rfl) rfl ?_
  refine Go_putRs (pc' := 103) dX12_init_100 rfl kf_RX12_43 (by decide) (by decide) rfl ⟨(Nat.le_of_ble_eq_true rfl), (Nat.le_of_ble_eq_true rfl)⟩ rfl (Or.inr ⟨rfl, rfl, rfl⟩) (fun v => by cases v <;> exact ⟨rfl, rfl⟩) ?_
  refine Go_aload_n (pc' := 104) dX12_init_103 rfl rfl rfl ?_
  refine Go_bipush (v := 6) (pc' := 106) dX12_init_104 rfl (by decide) ?_
  refine Go_newarrayL (t := 20) (n := 6) (N := 112) (mc := 29) (ms := 5540) (pc' := 108) dX12_init_106 rfl (Or.inl ⟨rfl, rfl⟩) rfl (by decide) (Nat.le_of_ble_eq_true rfl) (Nat.le_of_ble_eq_true rfl) rfl ?_
  refine Go_putRs (pc' := 111) dX12_init_108 rfl kf_RX12_46 (by decide) (by decide) rfl ⟨(Nat.le_of_ble_eq_true rfl), (Nat.le_of_ble_eq_true rfl)⟩ rfl (Or.inr ⟨rfl, rfl, rfl⟩) (fun v => by cases v <;> exact ⟨rfl, rfl⟩) ?_
  refine Go_aload_n (pc' := 112) dX12_init_111 rfl rfl rfl ?_
  refine Go_bipush (v := 6) (pc' := 114) dX12_init_112 rfl (by decide) ?_
  refine Go_newarrayL (t := 20) (n := 6) (N := 113) (mc := 28) (ms := 5534) (pc' := 116) dX12_init_114 rfl (Or.inl ⟨rfl, rfl⟩) rfl (by decide) (Nat.le_of_ble_eq_true rfl) (Nat.le_of_ble_eq_true rfl) rfl ?_
  refine Go_putRs (pc' := 119) dX12_init_116 rfl kf_RX12_49 (by decide) (by decide) rfl ⟨(Nat.le_of_ble_eq_true rfl), (Nat.le_of_ble_eq_true rfl)⟩ rfl (Or.inr ⟨rfl, rfl, rfl⟩) (fun v => by cases v <;> exact ⟨rfl, rfl⟩) ?_
  refine Go_aload_n (pc' := 120) dX12_init_119 rfl rfl rfl ?_
  refine Go_bipush (v := 6) (pc' := 122) dX12_init_120 rfl (by decide) ?_
  refine Go_newarrayL (t := 20) (n := 6) (N := 114) (mc := 27) (ms := 5528) (pc' := 124) dX12_init_122 rfl (Or.inl ⟨rfl, rfl⟩) rfl (by decide) (Nat.le_of_ble_eq_true rfl) (Nat.le_of_ble_eq_true rfl) rfl ?_
  refine Go_putRs (pc' := 127) dX12_init_124 rfl kf_RX12_52 (by decide) (by decide) rfl ⟨(Nat.le_of_ble_eq_true rfl), (Nat.le_of_ble_eq_true rfl)⟩ rfl (Or.inr ⟨rfl, rfl, rfl⟩) (fun v => by cases v <;> exact ⟨rfl, rfl⟩) ?_
  refine Go_aload_n (pc' := 128) dX12_init_127 rfl rfl rfl ?_
  refine Go_bipush (v := 8) (pc' := 130) dX12_init_128 rfl (by decide) ?_
  refine Go_newarrayL (t := 20) (n := 8) (N := 115) (mc := 26) (ms := 5520) (pc' := 132) dX12_init_130 rfl (Or.inl ⟨rfl, rfl⟩) rfl (by decide) (Nat.le_of_ble_eq_true rfl) (Nat.le_of_ble_eq_true rfl) rfl ?_
  refine Go_putRs (pc' := 135) dX12_init_132 rfl kf_RX12_55 (by decide) (by decide) rfl ⟨(Nat.le_of_ble_eq_true rfl), (Nat.le_of_ble_eq_true rfl)⟩ rfl (Or.inr ⟨rfl, rfl, rfl⟩) (fun v => by cases v <;> exact ⟨rfl, rfl⟩) ?_
  refine Go_aload_n (pc' := 136) dX12_init_135 rfl rfl rfl ?_
  refine Go_sipush (v := 600) (pc' := 139) dX12_init_136 rfl (by decide) ?_
  refine Go_newarrayL (t := 20) (n := 600) (N := 116) (mc := 25) (ms := 4920) (pc' := 141) dX12_init_139 rfl (Or.inl ⟨rfl, rfl⟩) rfl (by decide) (Nat.le_of_ble_eq_true rfl) (Nat.le_of_ble_eq_true rfl) rfl ?_
  refine Go_putRs (pc' := 144) dX12_init_141 rfl kf_RX12_58 (by decide) (by decide) rfl ⟨(Nat.le_of_ble_eq_true rfl), (Nat.le_of_ble_eq_true rfl)⟩ rfl (Or.inr ⟨rfl, rfl, rfl⟩) (fun v => by cases v <;> exact ⟨rfl, rfl⟩) ?_
  refine Go_aload_n (pc' := 145) dX12_init_144 rfl rfl rfl ?_
  refine Go_sipush (v := 620) (pc' := 148) dX12_init_145 rfl (by decide) ?_
  refine Go_newarrayL (t := 20) (n := 620) (N := 117) (mc := 24) (ms := 4300) (pc' := 150) dX12_init_148 rfl (Or.inl ⟨rfl, rfl⟩) rfl (by decide) (Nat.le_of_ble_eq_true rfl) (Nat.le_of_ble_eq_true rfl) rfl ?_
  refine Go_putRs (pc' := 153) dX12_init_150 rfl kf_RX12_61 (by decide) (by decide) rfl ⟨(Nat.le_of_ble_eq_true rfl), (Nat.le_of_ble_eq_true rfl)⟩ rfl (Or.inr ⟨rfl, rfl, rfl⟩) (fun v => by cases v <;> exact ⟨rfl, rfl⟩) ?_
  refine Go_aload_n (pc' := 154) dX12_init_153 rfl rfl rfl ?_
  refine Go_sipush (v := 1220) (pc' := 157) dX12_init_154 rfl (by decide) ?_
  refine Go_newarrayL (t := 20) (n := 1220) (N := 118) (mc := 23) (ms := 3080) (pc' := 159) dX12_init_157 rfl (Or.inl ⟨rfl, rfl⟩) rfl (by decide) (Nat.le_of_ble_eq_true rfl) (Nat.le_of_ble_eq_true rfl) rfl ?_
  refine Go_putRs (pc' := 162) dX12_init_159 rfl kf_RX12_64 (by decide) (by decide) rfl ⟨(Nat.le_of_ble_eq_true rfl), (Nat.le_of_ble_eq_true rfl)⟩ rfl (Or.inr ⟨rfl, rfl, rfl⟩) (fun v => by cases v <;> exact ⟨rfl, rfl⟩) ?_
  refine Go_aload_n (pc' := 163) dX12_init_162 rfl rfl rfl ?_
  refine Go_sipush (v := 1220) (pc' := 166) dX12_init_163 rfl (by decide) ?_
  refine Go_newarrayL (t := 20) (n := 1220) (N := 119) (mc := 22) (ms := 1860) (pc' := 168) dX12_init_166 rfl (Or.inl ⟨rfl, rfl⟩) rfl (by decide) (Nat.le_of_ble_eq_true rfl) (Nat.le_of_ble_eq_true rfl) rfl ?_
  refine Go_putRs (pc' := 171) dX12_init_168 rfl kf_RX12_67 (by decide) (by decide) rfl ⟨(Nat.le_of_ble_eq_true rfl), (Nat.le_of_ble_eq_true rfl)⟩ rfl (Or.inr ⟨rfl, rfl, rfl⟩) (fun v => by cases v <;> exact ⟨rfl, rfl⟩) ?_
  refine Go_aload_n (pc' := 172) dX12_init_171 rfl rfl rfl ?_
  refine Go_bipush (v := 16) (pc' := 174) dX12_init_172 rfl (by decide) ?_
  refine Go_newarrayL (t := 20) (n := 16) (N := 120) (mc := 21) (ms := 1844) (pc' := 176) dX12_init_174 rfl (Or.inl ⟨rfl, rfl⟩) rfl (by decide) (Nat.le_of_ble_eq_true rfl) (Nat.le_of_ble_eq_true rfl) rfl ?_
  refine Go_putRs (pc' := 179) dX12_init_176 rfl kf_RX12_70 (by decide) (by decide) rfl ⟨(Nat.le_of_ble_eq_true rfl), (Nat.le_of_ble_eq_true rfl)⟩ rfl (Or.inr ⟨rfl, rfl, rfl⟩) (fun v => by cases v <;> exact ⟨rfl, rfl⟩) ?_
  refine Go_aload_n (pc' := 180) dX12_init_179 rfl rfl rfl ?_
  refine Go_bipush (v := 17) (pc' := 182) dX12_init_180 rfl (by decide) ?_
  refine Go_newarrayL (t := 20) (n := 17) (N := 121) (mc := 20) (ms := 1827) (pc' := 184) dX12_init_182 rfl (Or.inl ⟨rfl, rfl⟩) rfl (by decide) (Nat.le_of_ble_eq_true rfl) (Nat.le_of_ble_eq_true rfl) rfl ?_
  refine Go_putRs (pc' := 187) dX12_init_184 rfl kf_RX12_73 (by decide) (by decide) rfl ⟨(Nat.le_of_ble_eq_true rfl), (Nat.le_of_ble_eq_true rfl)⟩ rfl (Or.inr ⟨rfl, rfl, rfl⟩) (fun v => by cases v <;> exact ⟨rfl, rfl⟩) ?_
  refine Go_aload_n (pc' := 188) dX12_init_187 rfl rfl rfl ?_
  refine Go_bipush (v := 16) (pc' := 190) dX12_init_188 rfl (by decide) ?_
  refine Go_newarrayL (t := 20) (n := 16) (N := 122) (mc := 19) (ms := 1811) (pc' := 192) dX12_init_190 rfl (Or.inl ⟨rfl, rfl⟩) rfl (by decide) (Nat.le_of_ble_eq_true rfl) (Nat.le_of_ble_eq_true rfl) rfl ?_
  refine Go_putRs (pc' := 195) dX12_init_192 rfl kf_RX12_76 (by decide) (by decide) rfl ⟨(Nat.le_of_ble_eq_true rfl), (Nat.le_of_ble_eq_true rfl)⟩ rfl (Or.inr ⟨rfl, rfl, rfl⟩) (fun v => by cases v <;> exact ⟨rfl, rfl⟩) ?_
  refine Go_aload_n (pc' := 196) dX12_init_195 rfl rfl rfl ?_
  refine Go_bipush (v := 17) (pc' := 198) dX12_init_196 rfl (by decide) ?_
  refine Go_newarrayL (t := 20) (n := 17) (N := 123) (mc := 18) (ms := 1794) (pc' := 200) dX12_init_198 rfl (Or.inl ⟨rfl, rfl⟩) rfl (by decide) (Nat.le_of_ble_eq_true rfl) (Nat.le_of_ble_eq_true rfl) rfl ?_
  refine Go_putRs (pc' := 203) dX12_init_200 rfl kf_RX12_79 (by decide) (by decide) rfl ⟨(Nat.le_of_ble_eq_true rfl), (Nat.le_of_ble_eq_true rfl)⟩ rfl (Or.inr ⟨rfl, rfl, rfl⟩) (fun v => by cases v <;> exact ⟨rfl, rfl⟩) ?_
  refine Go_aload_n (pc' := 204) dX12_init_203 rfl rfl rfl ?_
  refine Go_iconst (v := (-1)) (pc' := 205) dX12_init_204 rfl (by decide) ?_
  refine Go_putI (pc' := 208) dX12_init_205 rfl kf_RX12_82 (by decide) (by decide) rfl ⟨(Nat.le_of_ble_eq_true rfl), (Nat.le_of_ble_eq_true rfl)⟩ rfl (Or.inl rfl) rfl rfl ?_
  refine Go_aload_n (pc' := 209) dX12_init_208 rfl rfl rfl ?_
  refine Go_bipush (v := 10) (pc' := 211) dX12_init_209 rfl (by decide) ?_
  refine Go_putI (pc' := 214) dX12_init_211 rfl kf_RX12_86 (by decide) (by decide) rfl ⟨(Nat.le_of_ble_eq_true rfl), (Nat.le_of_ble_eq_true rfl)⟩ rfl (Or.inl rfl) rfl rfl ?_
  refine Go_aload_n (pc' := 215) dX12_init_214 rfl rfl rfl ?_
  refine Go_bipush (v := 17) (pc' := 217) dX12_init_215 rfl (by decide) ?_
  refine Go_putI (pc' := 220) dX12_init_217 rfl kf_RX12_89 (by decide) (by decide) rfl ⟨(Nat.le_of_ble_eq_true rfl), (Nat.le_of_ble_eq_true rfl)⟩ rfl (Or.inl rfl) rfl rfl ?_
  refine Go_aload_n (pc' := 221) dX12_init_220 rfl rfl rfl ?_
  refine Go_bipush (v := 96) (pc' := 223) dX12_init_221 rfl (by decide) ?_
  refine Go_newarrayL (t := 21) (n := 96) (N := 124) (mc := 17) (ms := 1698) (pc' := 225) dX12_init_223 rfl (Or.inr ⟨rfl, rfl⟩) rfl (by decide) (Nat.le_of_ble_eq_true rfl) (Nat.le_of_ble_eq_true rfl) rfl ?_
  refine Go_putRs (pc' := 228) dX12_init_225 rfl kf_RX12_92 (by decide) (by decide) rfl ⟨(Nat.le_of_ble_eq_true rfl), (Nat.le_of_ble_eq_true rfl)⟩ rfl (Or.inr ⟨rfl, rfl, rfl⟩) (fun v => by cases v <;> exact ⟨rfl, rfl⟩) ?_
  refine Go_aload_n (pc' := 229) dX12_init_228 rfl rfl rfl ?_
  refine Go_bipush (v := 96) (pc' := 231) dX12_init_229 rfl (by decide) ?_
  refine Go_newarrayL (t := 21) (n := 96) (N := 125) (mc := 16) (ms := 1602) (pc' := 233) dX12_init_231 rfl (Or.inr ⟨rfl, rfl⟩) rfl (by decide) (Nat.le_of_ble_eq_true rfl) (Nat.le_of_ble_eq_true rfl) rfl ?_
  refine Go_putRs (pc' := 236) dX12_init_233 rfl kf_RX12_96 (by decide) (by decide) rfl ⟨(Nat.le_of_ble_eq_true rfl), (Nat.le_of_ble_eq_true rfl)⟩ rfl (Or.inr ⟨rfl, rfl, rfl⟩) (fun v => by cases v <;> exact ⟨rfl, rfl⟩) ?_
  refine Go_aload_n (pc' := 237) dX12_init_236 rfl rfl rfl ?_
  refine Go_bipush (v := 96) (pc' := 239) dX12_init_237 rfl (by decide) ?_
  refine Go_newarrayL (t := 20) (n := 96) (N := 126) (mc := 15) (ms := 1506) (pc' := 241) dX12_init_239 rfl (Or.inl ⟨rfl, rfl⟩) rfl (by decide) (Nat.le_of_ble_eq_true rfl) (Nat.le_of_ble_eq_true rfl) rfl ?_
  refine Go_putRs (pc' := 244) dX12_init_241 rfl kf_RX12_99 (by decide) (by decide) rfl ⟨(Nat.le_of_ble_eq_true rfl), (Nat.le_of_ble_eq_true rfl)⟩ rfl (Or.inr ⟨rfl, rfl, rfl⟩) (fun v => by cases v <;> exact ⟨rfl, rfl⟩) ?_
  refine Go_aload_n (pc' := 245) dX12_init_244 rfl rfl rfl ?_
  refine Go_bipush (v := 96) (pc' := 247) dX12_init_245 rfl (by decide) ?_
  refine Go_newarrayL (t := 20) (n := 96) (N := 127) (mc := 14) (ms := 1410) (pc' := 249) dX12_init_247 rfl (Or.inl ⟨rfl, rfl⟩) rfl (by decide) (Nat.le_of_ble_eq_true rfl) (Nat.le_of_ble_eq_true rfl) rfl ?_
  refine Go_putRs (pc' := 252) dX12_init_249 rfl kf_RX12_102 (by decide) (by decide) rfl ⟨(Nat.le_of_ble_eq_true rfl), (Nat.le_of_ble_eq_true rfl)⟩ rfl (Or.inr ⟨rfl, rfl, rfl⟩) (fun v => by cases v <;> exact ⟨rfl, rfl⟩) ?_
  refine Go_aload_n (pc' := 253) dX12_init_252 rfl rfl rfl ?_
  refine Go_bipush (v := 96) (pc' := 255) dX12_init_253 rfl (by decide) ?_
  refine Go_newarrayL (t := 20) (n := 96) (N := 128) (mc := 13) (ms := 1314) (pc' := 257) dX12_init_255 rfl (Or.inl ⟨rfl, rfl⟩) rfl (by decide) (Nat.le_of_ble_eq_true rfl) (Nat.le_of_ble_eq_true rfl) rfl ?_
  refine Go_putRs (pc' := 260) dX12_init_257 rfl kf_RX12_105 (by decide) (by decide) rfl ⟨(Nat.le_of_ble_eq_true rfl), (Nat.le_of_ble_eq_true rfl)⟩ rfl (Or.inr ⟨rfl, rfl, rfl⟩) (fun v => by cases v <;> exact ⟨rfl, rfl⟩) ?_
  refine Go_aload_n (pc' := 261) dX12_init_260 rfl rfl rfl ?_
  refine Go_bipush (v := 96) (pc' := 263) dX12_init_261 rfl (by decide) ?_
  refine Go_newarrayL (t := 20) (n := 96) (N := 129) (mc := 12) (ms := 1218) (pc' := 265) dX12_init_263 rfl (Or.inl ⟨rfl, rfl⟩) rfl (by decide) (Nat.le_of_ble_eq_true rfl) (Nat.le_of_ble_eq_true rfl) rfl ?_
  refine Go_putRs (pc' := 268) dX12_init_265 rfl kf_RX12_108 (by decide) (by decide) rfl ⟨(Nat.le_of_ble_eq_true rfl), (Nat.le_of_ble_eq_true rfl)⟩ rfl (Or.inr ⟨rfl, rfl, rfl⟩) (fun v => by cases v <;> exact ⟨rfl, rfl⟩) ?_
  refine Go_aload_n (pc' := 269) dX12_init_268 rfl rfl rfl ?_
  refine Go_bipush (v := 96) (pc' := 271) dX12_init_269 rfl (by decide) ?_
  refine Go_newarrayL (t := 20) (n := 96) (N := 130) (mc := 11) (ms := 1122) (pc' := 273) dX12_init_271 rfl (Or.inl ⟨rfl, rfl⟩) rfl (by decide) (Nat.le_of_ble_eq_true rfl) (Nat.le_of_ble_eq_true rfl) rfl ?_
  refine Go_putRs (pc' := 276) dX12_init_273 rfl kf_RX12_111 (by decide) (by decide) rfl ⟨(Nat.le_of_ble_eq_true rfl), (Nat.le_of_ble_eq_true rfl)⟩ rfl (Or.inr ⟨rfl, rfl, rfl⟩) (fun v => by cases v <;> exact ⟨rfl, rfl⟩) ?_
  refine Go_aload_n (pc' := 277) dX12_init_276 rfl rfl rfl ?_
  refine Go_bipush (v := 96) (pc' := 279) dX12_init_277 rfl (by decide) ?_
  refine Go_newarrayL (t := 20) (n := 96) (N := 131) (mc := 10) (ms := 1026) (pc' := 281) dX12_init_279 rfl (Or.inl ⟨rfl, rfl⟩) rfl (by decide) (Nat.le_of_ble_eq_true rfl) (Nat.le_of_ble_eq_true rfl) rfl ?_
  refine Go_putRs (pc' := 284) dX12_init_281 rfl kf_RX12_114 (by decide) (by decide) rfl ⟨(Nat.le_of_ble_eq_true rfl), (Nat.le_of_ble_eq_true rfl)⟩ rfl (Or.inr ⟨rfl, rfl, rfl⟩) (fun v => by cases v <;> exact ⟨rfl, rfl⟩) ?_
  refine Go_aload_n (pc' := 285) dX12_init_284 rfl rfl rfl ?_
  refine Go_bipush (v := 16) (pc' := 287) dX12_init_285 rfl (by decide) ?_
  refine Go_newarrayL (t := 20) (n := 16) (N := 132) (mc := 9) (ms := 1010) (pc' := 289) dX12_init_287 rfl (Or.inl ⟨rfl, rfl⟩) rfl (by decide) (Nat.le_of_ble_eq_true rfl) (Nat.le_of_ble_eq_true rfl) rfl ?_
  refine Go_dup (pc' := 290) dX12_init_289 rfl rfl ?_
  refine Go_iconst (v := 0) (pc' := 291) dX12_init_290 rfl (by decide) ?_
  refine Go_iconst (v := (-1)) (pc' := 292) dX12_init_291 rfl (by decide) ?_
  refine Go_iastore (n := 16) (pc' := 293) dX12_init_292 rfl ⟨(Nat.le_of_ble_eq_true rfl), (Nat.le_of_ble_eq_true rfl)⟩ rfl (by exact ⟨by decide, by decide⟩) ?_
  refine Go_dup (pc' := 294) dX12_init_293 rfl rfl ?_
  refine Go_iconst (v := 1) (pc' := 295) dX12_init_294 rfl (by decide) ?_
  refine Go_iconst (v := (-1)) (pc' := 296) dX12_init_295 rfl (by decide) ?_
  refine Go_iastore (n := 16) (pc' := 297) dX12_init_296 rfl ⟨(Nat.le_of_ble_eq_true rfl), (Nat.le_of_ble_eq_true rfl)⟩ rfl (by exact ⟨by decide, by decide⟩) ?_
  refine Go_dup (pc' := 298) dX12_init_297 rfl rfl ?_
  refine Go_iconst (v := 2) (pc' := 299) dX12_init_298 rfl (by decide) ?_
  refine Go_iconst (v := (-1)) (pc' := 300) dX12_init_299 rfl (by decide) ?_
  refine Go_iastore (n := 16) (pc' := 301) dX12_init_300 rfl ⟨(Nat.le_of_ble_eq_true rfl), (Nat.le_of_ble_eq_true rfl)⟩ rfl (by exact ⟨by decide, by decide⟩) ?_
  refine Go_dup (pc' := 302) dX12_init_301 rfl rfl ?_
  refine Go_iconst (v := 3) (pc' := 303) dX12_init_302 rfl (by decide) ?_
  refine Go_iconst (v := (-1)) (pc' := 304) dX12_init_303 rfl (by decide) ?_
  refine Go_iastore (n := 16) (pc' := 305) dX12_init_304 rfl ⟨(Nat.le_of_ble_eq_true rfl), (Nat.le_of_ble_eq_true rfl)⟩ rfl (by exact ⟨by decide, by decide⟩) ?_
  refine Go_dup (pc' := 306) dX12_init_305 rfl rfl ?_
  refine Go_iconst (v := 4) (pc' := 307) dX12_init_306 rfl (by decide) ?_
  refine Go_iconst (v := (-1)) (pc' := 308) dX12_init_307 rfl (by decide) ?_
  refine Go_iastore (n := 16) (pc' := 309) dX12_init_308 rfl ⟨(Nat.le_of_ble_eq_true rfl), (Nat.le_of_ble_eq_true rfl)⟩ rfl (by exact ⟨by decide, by decide⟩) ?_
  refine Go_dup (pc' := 310) dX12_init_309 rfl rfl ?_
  refine Go_iconst (v := 5) (pc' := 311) dX12_init_310 rfl (by decide) ?_
  refine Go_iconst (v := (-1)) (pc' := 312) dX12_init_311 rfl (by decide) ?_
  refine Go_iastore (n := 16) (pc' := 313) dX12_init_312 rfl ⟨(Nat.le_of_ble_eq_true rfl), (Nat.le_of_ble_eq_true rfl)⟩ rfl (by exact ⟨by decide, by decide⟩) ?_
  refine Go_dup (pc' := 314) dX12_init_313 rfl rfl ?_
  refine Go_bipush (v := 6) (pc' := 316) dX12_init_314 rfl (by decide) ?_
  refine Go_iconst (v := (-1)) (pc' := 317) dX12_init_316 rfl (by decide) ?_
  refine Go_iastore (n := 16) (pc' := 318) dX12_init_317 rfl ⟨(Nat.le_of_ble_eq_true rfl), (Nat.le_of_ble_eq_true rfl)⟩ rfl (by exact ⟨by decide, by decide⟩) ?_
  refine Go_dup (pc' := 319) dX12_init_318 rfl rfl ?_
  refine Go_bipush (v := 7) (pc' := 321) dX12_init_319 rfl (by decide) ?_
  refine Go_iconst (v := (-1)) (pc' := 322) dX12_init_321 rfl (by decide) ?_
  refine Go_iastore (n := 16) (pc' := 323) dX12_init_322 rfl ⟨(Nat.le_of_ble_eq_true rfl), (Nat.le_of_ble_eq_true rfl)⟩ rfl (by exact ⟨by decide, by decide⟩) ?_
  refine Go_dup (pc' := 324) dX12_init_323 rfl rfl ?_
  refine Go_bipush (v := 8) (pc' := 326) dX12_init_324 rfl (by decide) ?_
  refine Go_iconst (v := (-1)) (pc' := 327) dX12_init_326 rfl (by decide) ?_
  refine Go_iastore (n := 16) (pc' := 328) dX12_init_327 rfl ⟨(Nat.le_of_ble_eq_true rfl), (Nat.le_of_ble_eq_true rfl)⟩ rfl (by exact ⟨by decide, by decide⟩) ?_
  refine Go_dup (pc' := 329) dX12_init_328 rfl rfl ?_
  refine Go_bipush (v := 9) (pc' := 331) dX12_init_329 rfl (by decide) ?_
  refine Go_iconst (v := (-1)) (pc' := 332) dX12_init_331 rfl (by decide) ?_
  refine Go_iastore (n := 16) (pc' := 333) dX12_init_332 rfl ⟨(Nat.le_of_ble_eq_true rfl), (Nat.le_of_ble_eq_true rfl)⟩ rfl (by exact ⟨by decide, by decide⟩) ?_
  refine Go_dup (pc' := 334) dX12_init_333 rfl rfl ?_
  refine Go_bipush (v := 10) (pc' := 336) dX12_init_334 rfl (by decide) ?_
  refine Go_iconst (v := (-1)) (pc' := 337) dX12_init_336 rfl (by decide) ?_
  refine Go_iastore (n := 16) (pc' := 338) dX12_init_337 rfl ⟨(Nat.le_of_ble_eq_true rfl), (Nat.le_of_ble_eq_true rfl)⟩ rfl (by exact ⟨by decide, by decide⟩) ?_
  refine Go_dup (pc' := 339) dX12_init_338 rfl rfl ?_
  refine Go_bipush (v := 11) (pc' := 341) dX12_init_339 rfl (by decide) ?_
  refine Go_iconst (v := (-1)) (pc' := 342) dX12_init_341 rfl (by decide) ?_
  refine Go_iastore (n := 16) (pc' := 343) dX12_init_342 rfl ⟨(Nat.le_of_ble_eq_true rfl), (Nat.le_of_ble_eq_true rfl)⟩ rfl (by exact ⟨by decide, by decide⟩) ?_
  refine Go_dup (pc' := 344) dX12_init_343 rfl rfl ?_
  refine Go_bipush (v := 12) (pc' := 346) dX12_init_344 rfl (by decide) ?_
  refine Go_iconst (v := (-1)) (pc' := 347) dX12_init_346 rfl (by decide) ?_
  refine Go_iastore (n := 16) (pc' := 348) dX12_init_347 rfl ⟨(Nat.le_of_ble_eq_true rfl), (Nat.le_of_ble_eq_true rfl)⟩ rfl (by exact ⟨by decide, by decide⟩) ?_
  refine Go_dup (pc' := 349) dX12_init_348 rfl rfl ?_
  refine Go_bipush (v := 13) (pc' := 351) dX12_init_349 rfl (by decide) ?_
  refine Go_iconst (v := (-1)) (pc' := 352) dX12_init_351 rfl (by decide) ?_
  refine Go_iastore (n := 16) (pc' := 353) dX12_init_352 rfl ⟨(Nat.le_of_ble_eq_true rfl), (Nat.le_of_ble_eq_true rfl)⟩ rfl (by exact ⟨by decide, by decide⟩) ?_
  refine Go_dup (pc' := 354) dX12_init_353 rfl rfl ?_
  refine Go_bipush (v := 14) (pc' := 356) dX12_init_354 rfl (by decide) ?_
  refine Go_iconst (v := (-1)) (pc' := 357) dX12_init_356 rfl (by decide) ?_
  refine Go_iastore (n := 16) (pc' := 358) dX12_init_357 rfl ⟨(Nat.le_of_ble_eq_true rfl), (Nat.le_of_ble_eq_true rfl)⟩ rfl (by exact ⟨by decide, by decide⟩) ?_
  refine Go_dup (pc' := 359) dX12_init_358 rfl rfl ?_
  refine Go_bipush (v := 15) (pc' := 361) dX12_init_359 rfl (by decide) ?_
  refine Go_iconst (v := (-1)) (pc' := 362) dX12_init_361 rfl (by decide) ?_
  refine Go_iastore (n := 16) (pc' := 363) dX12_init_362 rfl ⟨(Nat.le_of_ble_eq_true rfl), (Nat.le_of_ble_eq_true rfl)⟩ rfl (by exact ⟨by decide, by decide⟩) ?_
  refine Go_putRs (pc' := 366) dX12_init_363 rfl kf_RX12_117 (by decide) (by decide) rfl ⟨(Nat.le_of_ble_eq_true rfl), (Nat.le_of_ble_eq_true rfl)⟩ rfl (Or.inr ⟨rfl, rfl, rfl⟩) (fun v => by cases v <;> exact ⟨rfl, rfl⟩) ?_
  refine Go_aload_n (pc' := 367) dX12_init_366 rfl rfl rfl ?_
  refine Go_bipush (v := 8) (pc' := 369) dX12_init_367 rfl (by decide) ?_
  refine Go_newarrayL (t := 20) (n := 8) (N := 133) (mc := 8) (ms := 1002) (pc' := 371) dX12_init_369 rfl (Or.inl ⟨rfl, rfl⟩) rfl (by decide) (Nat.le_of_ble_eq_true rfl) (Nat.le_of_ble_eq_true rfl) rfl ?_
  refine Go_putRs (pc' := 374) dX12_init_371 rfl kf_RX12_120 (by decide) (by decide) rfl ⟨(Nat.le_of_ble_eq_true rfl), (Nat.le_of_ble_eq_true rfl)⟩ rfl (Or.inr ⟨rfl, rfl, rfl⟩) (fun v => by cases v <;> exact ⟨rfl, rfl⟩) ?_
  refine Go_aload_n (pc' := 375) dX12_init_374 rfl rfl rfl ?_
  refine Go_iconst (v := 2) (pc' := 376) dX12_init_375 rfl (by decide) ?_
  refine Go_newarrayL (t := 20) (n := 2) (N := 134) (mc := 7) (ms := 1000) (pc' := 378) dX12_init_376 rfl (Or.inl ⟨rfl, rfl⟩) rfl (by decide) (Nat.le_of_ble_eq_true rfl) (Nat.le_of_ble_eq_true rfl) rfl ?_
  refine Go_putRs (pc' := 381) dX12_init_378 rfl kf_RX12_123 (by decide) (by decide) rfl ⟨(Nat.le_of_ble_eq_true rfl), (Nat.le_of_ble_eq_true rfl)⟩ rfl (Or.inr ⟨rfl, rfl, rfl⟩) (fun v => by cases v <;> exact ⟨rfl, rfl⟩) ?_
  refine Go_aload_n (pc' := 382) dX12_init_381 rfl rfl rfl ?_
  refine Go_sipush (v := 200) (pc' := 385) dX12_init_382 rfl (by decide) ?_
  refine Go_newarrayL (t := 20) (n := 200) (N := 135) (mc := 6) (ms := 800) (pc' := 387) dX12_init_385 rfl (Or.inl ⟨rfl, rfl⟩) rfl (by decide) (Nat.le_of_ble_eq_true rfl) (Nat.le_of_ble_eq_true rfl) rfl ?_
  refine Go_putRs (pc' := 390) dX12_init_387 rfl kf_RX12_126 (by decide) (by decide) rfl ⟨(Nat.le_of_ble_eq_true rfl), (Nat.le_of_ble_eq_true rfl)⟩ rfl (Or.inr ⟨rfl, rfl, rfl⟩) (fun v => by cases v <;> exact ⟨rfl, rfl⟩) ?_
  refine Go_aload_n (pc' := 391) dX12_init_390 rfl rfl rfl ?_
  refine Go_sipush (v := 200) (pc' := 394) dX12_init_391 rfl (by decide) ?_
  refine Go_newarrayL (t := 20) (n := 200) (N := 136) (mc := 5) (ms := 600) (pc' := 396) dX12_init_394 rfl (Or.inl ⟨rfl, rfl⟩) rfl (by decide) (Nat.le_of_ble_eq_true rfl) (Nat.le_of_ble_eq_true rfl) rfl ?_
  refine Go_putRs (pc' := 399) dX12_init_396 rfl kf_RX12_129 (by decide) (by decide) rfl ⟨(Nat.le_of_ble_eq_true rfl), (Nat.le_of_ble_eq_true rfl)⟩ rfl (Or.inr ⟨rfl, rfl, rfl⟩) (fun v => by cases v <;> exact ⟨rfl, rfl⟩) ?_
  refine Go_aload_n (pc' := 400) dX12_init_399 rfl rfl rfl ?_
  refine Go_sipush (v := 200) (pc' := 403) dX12_init_400 rfl (by decide) ?_
  refine Go_newarrayL (t := 20) (n := 200) (N := 137) (mc := 4) (ms := 400) (pc' := 405) dX12_init_403 rfl (Or.inl ⟨rfl, rfl⟩) rfl (by decide) (Nat.le_of_ble_eq_true rfl) (Nat.le_of_ble_eq_true rfl) rfl ?_
  refine Go_putRs (pc' := 408) dX12_init_405 rfl kf_RX12_132 (by decide) (by decide) rfl ⟨(Nat.le_of_ble_eq_true rfl), (Nat.le_of_ble_eq_true rfl)⟩ rfl (Or.inr ⟨rfl, rfl, rfl⟩) (fun v => by cases v <;> exact ⟨rfl, rfl⟩) ?_
  refine Go_aload_n (pc' := 409) dX12_init_408 rfl rfl rfl ?_
  refine Go_bipush (v := 100) (pc' := 411) dX12_init_409 rfl (by decide) ?_
  refine Go_newarrayL (t := 20) (n := 100) (N := 138) (mc := 3) (ms := 300) (pc' := 413) dX12_init_411 rfl (Or.inl ⟨rfl, rfl⟩) rfl (by decide) (Nat.le_of_ble_eq_true rfl) (Nat.le_of_ble_eq_true rfl) rfl ?_
  refine Go_putRs (pc' := 416) dX12_init_413 rfl kf_RX12_135 (by decide) (by decide) rfl ⟨(Nat.le_of_ble_eq_true rfl), (Nat.le_of_ble_eq_true rfl)⟩ rfl (Or.inr ⟨rfl, rfl, rfl⟩) (fun v => by cases v <;> exact ⟨rfl, rfl⟩) ?_
  refine Go_aload_n (pc' := 417) dX12_init_416 rfl rfl rfl ?_
  refine Go_bipush (v := 100) (pc' := 419) dX12_init_417 rfl (by decide) ?_
  refine Go_newarrayL (t := 20) (n := 100) (N := 139) (mc := 2) (ms := 200) (pc' := 421) dX12_init_419 rfl (Or.inl ⟨rfl, rfl⟩) rfl (by decide) (Nat.le_of_ble_eq_true rfl) (Nat.le_of_ble_eq_true rfl) rfl ?_
  refine Go_putRs (pc' := 424) dX12_init_421 rfl kf_RX12_138 (by decide) (by decide) rfl ⟨(Nat.le_of_ble_eq_true rfl), (Nat.le_of_ble_eq_true rfl)⟩ rfl (Or.inr ⟨rfl, rfl, rfl⟩) (fun v => by cases v <;> exact ⟨rfl, rfl⟩) ?_
  refine Go_aload_n (pc' := 425) dX12_init_424 rfl rfl rfl ?_
  refine Go_bipush (v := 100) (pc' := 427) dX12_init_425 rfl (by decide) ?_
  refine Go_newarrayL (t := 20) (n := 100) (N := 140) (mc := 1) (ms := 100) (pc' := 429) dX12_init_427 rfl (Or.inl ⟨rfl, rfl⟩) rfl (by decide) (Nat.le_of_ble_eq_true rfl) (Nat.le_of_ble_eq_true rfl) rfl ?_
  refine Go_putRs (pc' := 432) dX12_init_429 rfl kf_RX12_141 (by decide) (by decide) rfl ⟨(Nat.le_of_ble_eq_true rfl), (Nat.le_of_ble_eq_true rfl)⟩ rfl (Or.inr ⟨rfl, rfl, rfl⟩) (fun v => by cases v <;> exact ⟨rfl, rfl⟩) ?_
  refine Go_aload_n (pc' := 433) dX12_init_432 rfl rfl rfl ?_
  refine Go_bipush (v := 100) (pc' := 435) dX12_init_433 rfl (by decide) ?_
  refine Go_newarrayL (t := 21) (n := 100) (N := 141) (mc := 0) (ms := 0) (pc' := 437) dX12_init_435 rfl (Or.inr ⟨rfl, rfl⟩) rfl (by decide) (Nat.le_of_ble_eq_true rfl) (Nat.le_of_ble_eq_true rfl) rfl ?_
  refine Go_putRs (pc' := 440) dX12_init_437 rfl kf_RX12_144 (by decide) (by decide) rfl ⟨(Nat.le_of_ble_eq_true rfl), (Nat.le_of_ble_eq_true rfl)⟩ rfl (Or.inr ⟨rfl, rfl, rfl⟩) (fun v => by cases v <;> exact ⟨rfl, rfl⟩) ?_
  refine Go_return dX12_init_440 rfl ?_
  exact hx
