/-! the table of distances is made -/
def rt (s : Nat) : Nat := (List.range 56).foldl (fun r k => if (k + 1) * (k + 1) ≤ s then k + 1 else r) 0
def rp (dx dy : Nat) : Nat := if dx = 0 then dy else rt ((dx - 1) * (dx - 1) + dy * dy)
theorem rt_ok : ∀ dy, dy < 40 → ∀ dx, dx < 40 → rt (dx * dx + dy * dy) ≤ 55 ∧ rt (dx * dx + dy * dy) * rt (dx * dx + dy * dy) ≤ dx * dx + dy * dy ∧ dx * dx + dy * dy < (rt (dx * dx + dy * dy) + 1) * (rt (dx * dx + dy * dy) + 1) := by decide +kernel
theorem rp_ok : ∀ dy, dy < 40 → ∀ dx, dx < 40 → rp dx dy ≤ 60 ∧ (if (rp dx dy + 1) * (rp dx dy + 1) ≤ dx * dx + dy * dy then rp dx dy + 1 else rp dx dy) = rp (dx + 1) dy := by decide +kernel
theorem rp_le : ∀ dy, dy < 40 → ∀ dx, dx ≤ 40 → rp dx dy ≤ 60 := by decide +kernel
/-- what the table holds -/
def tab (k : Nat) : Int32 := nI (rp (k % 40 + 1) (k / 40))
set_option maxRecDepth 20000 in
set_option maxHeartbeats 1000000 in
theorem chart_in {G : GC} {d mc ms : Nat} {h : HS} {K : Option Value → HS → Prop} {dy : Nat} (hb5 : 64 ≤ 65 ∧ 65 < 64 + hN h) (ho5 : (ki h 65).1 = 3) (hr5 : ri h 65 0 = some 66) (hb6 : 64 ≤ 66 ∧ 66 < 64 + hN h) (hk6 : ki h 66 = (20, 1600)) (hy : dy < 40) (hx : ∀ f, (∀ k, k < 40 * dy + 40 → f k = tab k) → ∀ r : Int32, Go G d mc ms M_X3_init 69 [.ref 65, .int (nI dy), .int r, .int (nI 40)] [] (setR h 66 f) K) : ∀ (m dx : Nat) (f : Nat → Int32), dx + m = 40 → (∀ k, k < 40 * dy + dx → f k = tab k) → Go G d mc ms M_X3_init 25 [.ref 65, .int (nI dy), .int (nI (rp dx dy)), .int (nI dx)] [] (setR h 66 f) K := by
  intro m
  induction m with
  | zero =>
    intro dx f hm hf
    refine Go_iload_n (pc' := 26) dX3_init_25 rfl rfl rfl ?_
    refine Go_bipush (v := 40) (pc' := 28) dX3_init_26 rfl (by decide) ?_
    refine Go_icmp_geZ (X := ((dx : Nat) : Int)) (Y := (40)) (tgt := 69) (pc' := 31) dX3_init_28 (by decide) rfl (i_nI (by omega)) rfl (fun c28 => ?_) (fun c28 => ?_)
    · have e : dx = 40 := by omega
      subst e
      exact hx f hf _
    · exfalso; omega
  | succ m ih =>
    intro dx f hm hf
    obtain ⟨b60, st⟩ := rp_ok dy hy dx (by omega)
    have hsq : (rp dx dy + 1) * (rp dx dy + 1) ≤ 61 * 61 := Nat.mul_le_mul (by omega) (by omega)
    have hd2 : dx * dx ≤ 40 * 40 := Nat.mul_le_mul (by omega) (by omega)
    have hd3 : dy * dy ≤ 40 * 40 := Nat.mul_le_mul (by omega) (by omega)
    refine Go_iload_n (pc' := 26) dX3_init_25 rfl rfl rfl ?_
    refine Go_bipush (v := 40) (pc' := 28) dX3_init_26 rfl (by decide) ?_
    refine Go_icmp_geZ (X := ((dx : Nat) : Int)) (Y := (40)) (tgt := 69) (pc' := 31) dX3_init_28 (by decide) rfl (i_nI (by omega)) rfl (fun c28 => ?_) (fun c28 => ?_)
    · exfalso; omega
    · refine Go_iload_n (pc' := 32) dX3_init_31 rfl rfl rfl ?_
      refine Go_iconst (v := 1) (pc' := 33) dX3_init_32 rfl (by decide) ?_
      refine Go_iadd (pc' := 34) dX3_init_33 rfl ?_
      rw [nI_1]
      refine Go_iload_n (pc' := 35) dX3_init_34 rfl rfl rfl ?_
      refine Go_iconst (v := 1) (pc' := 36) dX3_init_35 rfl (by decide) ?_
      refine Go_iadd (pc' := 37) dX3_init_36 rfl ?_
      rw [nI_1]
      refine Go_imul (pc' := 38) dX3_init_37 rfl ?_
      rw [pk_mul]
      refine Go_iload_n (pc' := 39) dX3_init_38 rfl rfl rfl ?_
      refine Go_iload_n (pc' := 40) dX3_init_39 rfl rfl rfl ?_
      refine Go_imul (pc' := 41) dX3_init_40 rfl ?_
      rw [pk_mul]
      refine Go_iload_n (pc' := 42) dX3_init_41 rfl rfl rfl ?_
      refine Go_iload_n (pc' := 43) dX3_init_42 rfl rfl rfl ?_
      refine Go_imul (pc' := 44) dX3_init_43 rfl ?_
      rw [pk_mul]
      refine Go_iadd (pc' := 45) dX3_init_44 rfl ?_
      rw [nI_add]
      refine Go_icmp_gtZ (X := (((rp dx dy + 1) * (rp dx dy + 1) : Nat) : Int)) (Y := ((dx * dx + dy * dy : Nat) : Int)) (tgt := 51) (pc' := 48) dX3_init_45 (by decide) rfl (i_nI (by omega)) (i_nI (by omega)) (fun c45 => ?_) (fun c45 => ?_)
      · refine Go_aload_n (pc' := 52) dX3_init_51 rfl rfl rfl ?_
        refine Go_getRs (pc' := 55) dX3_init_52 rfl kf_RX3_9 (by decide) (by decide) rfl hb5 ho5 hr5 ?_
        refine Go_bipush (v := 40) (pc' := 57) dX3_init_55 rfl (by decide) ?_
        refine Go_iload_n (pc' := 58) dX3_init_57 rfl rfl rfl ?_
        refine Go_imul (pc' := 59) dX3_init_58 rfl ?_
        rw [show (40 : Int32) * nI dy = nI (40 * dy) from pk_mul 40 dy]
        refine Go_iload_n (pc' := 60) dX3_init_59 rfl rfl rfl ?_
        refine Go_iadd (pc' := 61) dX3_init_60 rfl ?_
        rw [nI_add]
        refine Go_iload_n (pc' := 62) dX3_init_61 rfl rfl rfl ?_
        refine Go_iastore (n := 1600) (pc' := 63) dX3_init_62 rfl hb6 hk6 (by exact inR_nI (by omega) (by decide)) ?_
        rw [nI_clamp (show (40 * dy + dx) < 2 ^ 31 by omega)]
        refine Go_iinc (pc' := 66) (lv' := [.ref _, .int _, .int _, .int _]) dX3_init_63 rfl rfl (nI_add _ 1) (Nat.le_of_ble_eq_true rfl) rfl rfl ?_
        refine Go_goto (tgt := 25) dX3_init_66 (by decide) ?_
        rw [setR_wI]
        have e : rp dx dy = rp (dx + 1) dy := by rw [← st]; exact (if_neg (by omega)).symm
        rw [e]
        refine ih (dx + 1) _ (by omega) (fun k hk => ?_)
        by_cases z : k = 40 * dy + dx
        · subst z; unfold tab; rw [show (40 * dy + dx) % 40 = dx by omega, show (40 * dy + dx) / 40 = dy by omega]; simp [upd]
        · simp [upd, z]; exact hf k (by omega)
      · refine Go_iinc (pc' := 51) (lv' := [.ref _, .int _, .int _, .int _]) dX3_init_48 rfl rfl (nI_add _ 1) (Nat.le_of_ble_eq_true rfl) rfl rfl ?_
        refine Go_aload_n (pc' := 52) dX3_init_51 rfl rfl rfl ?_
        refine Go_getRs (pc' := 55) dX3_init_52 rfl kf_RX3_9 (by decide) (by decide) rfl hb5 ho5 hr5 ?_
        refine Go_bipush (v := 40) (pc' := 57) dX3_init_55 rfl (by decide) ?_
        refine Go_iload_n (pc' := 58) dX3_init_57 rfl rfl rfl ?_
        refine Go_imul (pc' := 59) dX3_init_58 rfl ?_
        rw [show (40 : Int32) * nI dy = nI (40 * dy) from pk_mul 40 dy]
        refine Go_iload_n (pc' := 60) dX3_init_59 rfl rfl rfl ?_
        refine Go_iadd (pc' := 61) dX3_init_60 rfl ?_
        rw [nI_add]
        refine Go_iload_n (pc' := 62) dX3_init_61 rfl rfl rfl ?_
        refine Go_iastore (n := 1600) (pc' := 63) dX3_init_62 rfl hb6 hk6 (by exact inR_nI (by omega) (by decide)) ?_
        rw [nI_clamp (show (40 * dy + dx) < 2 ^ 31 by omega)]
        refine Go_iinc (pc' := 66) (lv' := [.ref _, .int _, .int _, .int _]) dX3_init_63 rfl rfl (nI_add _ 1) (Nat.le_of_ble_eq_true rfl) rfl rfl ?_
        refine Go_goto (tgt := 25) dX3_init_66 (by decide) ?_
        rw [setR_wI]
        have e : rp dx dy + 1 = rp (dx + 1) dy := by rw [← st]; exact (if_pos (by omega)).symm
        rw [e]
        refine ih (dx + 1) _ (by omega) (fun k hk => ?_)
        by_cases z : k = 40 * dy + dx
        · subst z; unfold tab; rw [show (40 * dy + dx) % 40 = dx by omega, show (40 * dy + dx) / 40 = dy by omega]; simp [upd]
        · simp [upd, z]; exact hf k (by omega)
set_option maxRecDepth 20000 in
set_option maxHeartbeats 1000000 in
theorem chart_out {G : GC} {d mc ms : Nat} {h : HS} {K : Option Value → HS → Prop} (hb5 : 64 ≤ 65 ∧ 65 < 64 + hN h) (ho5 : (ki h 65).1 = 3) (hr5 : ri h 65 0 = some 66) (hb6 : 64 ≤ 66 ∧ 66 < 64 + hN h) (hk6 : ki h 66 = (20, 1600)) (hx : ∀ f, (∀ k, k < 1600 → f k = tab k) → K none (setR h 66 f)) : ∀ (m dy : Nat) (f : Nat → Int32) (u v : Value), dy + m = 40 → (∀ k, k < 40 * dy → f k = tab k) → Go G d mc ms M_X3_init 15 [.ref 65, .int (nI dy), u, v] [] (setR h 66 f) K := by
  intro m
  induction m with
  | zero =>
    intro dy f u v hm hf
    refine Go_iload_n (pc' := 16) dX3_init_15 rfl rfl rfl ?_
    refine Go_bipush (v := 40) (pc' := 18) dX3_init_16 rfl (by decide) ?_
    refine Go_icmp_geZ (X := ((dy : Nat) : Int)) (Y := (40)) (tgt := 75) (pc' := 21) dX3_init_18 (by decide) rfl (i_nI (by omega)) rfl (fun c18 => ?_) (fun c18 => ?_)
    · refine Go_return dX3_init_75 rfl ?_
      exact hx f (fun k hk => hf k (by omega))
    · exfalso; omega
  | succ m ih =>
    intro dy f u v hm hf
    refine Go_iload_n (pc' := 16) dX3_init_15 rfl rfl rfl ?_
    refine Go_bipush (v := 40) (pc' := 18) dX3_init_16 rfl (by decide) ?_
    refine Go_icmp_geZ (X := ((dy : Nat) : Int)) (Y := (40)) (tgt := 75) (pc' := 21) dX3_init_18 (by decide) rfl (i_nI (by omega)) rfl (fun c18 => ?_) (fun c18 => ?_)
    · exfalso; omega
    · refine Go_iload_n (pc' := 22) dX3_init_21 rfl rfl rfl ?_
      refine Go_istore_n (pc' := 23) (lv' := [.ref _, .int _, .int _, _]) dX3_init_22 rfl rfl (Nat.le_of_ble_eq_true rfl) rfl rfl ?_
      refine Go_iconst (v := 0) (pc' := 24) dX3_init_23 rfl (by decide) ?_
      refine Go_istore_n (pc' := 25) (lv' := [.ref _, .int _, .int _, .int _]) dX3_init_24 rfl rfl (Nat.le_of_ble_eq_true rfl) rfl rfl ?_
      have e0 : nI dy = nI (rp 0 dy) := rfl
      rw [show [Value.ref 65, Value.int (nI dy), Value.int (nI dy), Value.int 0] = [Value.ref 65, Value.int (nI dy), Value.int (nI (rp 0 dy)), Value.int (nI 0)] from rfl]
      refine chart_in hb5 ho5 hr5 hb6 hk6 (by omega) (fun f2 hf2 r => ?_) 40 0 f (by omega) (fun k hk => hf k (by omega))
      refine Go_iinc (pc' := 72) (lv' := [.ref _, .int _, .int _, .int _]) dX3_init_69 rfl rfl (nI_add _ 1) (Nat.le_of_ble_eq_true rfl) rfl rfl ?_
      refine Go_goto (tgt := 15) dX3_init_72 (by decide) ?_
      exact ih (dy + 1) f2 _ _ (by omega) (fun k hk => hf2 k (by omega))
