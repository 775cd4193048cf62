/-! level of a number, both sides -/
def lev (v : Nat) : Nat := if v = 0 then 0 else 10 * Nat.log2 v + (v - 2 ^ Nat.log2 v) * 10 / 2 ^ Nat.log2 v
theorem lev_of {v k : Nat} (h1 : 2 ^ k ≤ v) (h2 : v < 2 ^ (k + 1)) : lev v = 10 * k + (v - 2 ^ k) * 10 / 2 ^ k := by
  have h0 : v ≠ 0 := by have := Nat.two_pow_pos k; omega
  have e : Nat.log2 v = k := (Nat.log2_eq_iff h0).mpr ⟨h1, h2⟩
  unfold lev; rw [if_neg h0, e]
theorem lv_sh : ∀ n, n < 32 → ((nI n &&& 31).toBitVec.smod 32).toNat = n := by decide
theorem lv_sl : ∀ k, k < 64 → ((nI k).toInt64 &&& 63).toBitVec.smod 64 = BitVec.ofNat 64 k := by decide
theorem lv_bv (n : Nat) : (lN n).toBitVec = BitVec.ofNat 64 n := by unfold lN; rfl
theorem lv_shl {a k : Nat} (hk : k < 31) (ha : a < 4) : lN a <<< ((nI k).toInt64 &&& 63) = lN (a * 2 ^ k) := by
  apply Int64.toBitVec_inj.mp
  rw [Int64.toBitVec_shiftLeft, lv_bv, lv_bv, lv_sl k (by omega)]
  apply BitVec.eq_of_toNat_eq
  rw [BitVec.shiftLeft_eq', BitVec.toNat_shiftLeft, BitVec.toNat_ofNat, BitVec.toNat_ofNat, BitVec.toNat_ofNat, Nat.mod_eq_of_lt (show k < 2 ^ 64 by omega), Nat.mod_eq_of_lt (show a < 2 ^ 64 by omega), Nat.shiftLeft_eq]
theorem lv_shr {a k : Nat} (hk : k < 64) (ha : a < 2 ^ 62) : lN a >>> ((nI k).toInt64 &&& 63) = lN (a / 2 ^ k) := by
  apply Int64.toBitVec_inj.mp
  rw [Int64.toBitVec_shiftRight, lv_bv, lv_bv, lv_sl k hk]
  apply BitVec.eq_of_toInt_eq
  rw [BitVec.sshiftRight_eq', BitVec.toInt_sshiftRight, BitVec.toNat_ofNat, Nat.mod_eq_of_lt (show k < 2 ^ 64 by omega)]
  have h1 : (BitVec.ofNat 64 a).toInt = (a : Int) := by
    have := pk_lT (n := a) (by omega); rw [← this]; rfl
  have h2 : (BitVec.ofNat 64 (a / 2 ^ k)).toInt = ((a / 2 ^ k : Nat) : Int) := by
    have := pk_lT (n := a / 2 ^ k) (Nat.lt_of_le_of_lt (Nat.div_le_self _ _) (by omega)); rw [← this]; rfl
  rw [h1, h2, Int.shiftRight_eq_div_pow]
  norm_cast
set_option maxRecDepth 20000 in
set_option maxHeartbeats 1000000 in
theorem lev_end {G : GC} {d mc ms : Nat} {h : HS} {K : Option Value → HS → Prop} {v k : Nat} {y : Int32} (h1 : 2 ^ k ≤ v) (h2 : v < 2 ^ (k + 1)) (hk30 : k ≤ 30) (hv : v < 2 ^ 31) (hk : K (some (.int (nI (lev v)))) h) : Go G d mc ms M_X11_levelOf 32 [.int (nI v), .int (nI k), .int y, un] [] h K := by
  have hp : 2 ^ k < 2 ^ 31 := Nat.pow_lt_pow_right (by decide) (by omega)
  refine Go_ldc2 (pc' := 35) dX11_levelOf_32 rfl kn_RX11_379 ?_
  refine Go_iload_n (pc' := 36) dX11_levelOf_35 rfl rfl rfl ?_
  refine Go_iconst (v := 1) (pc' := 37) dX11_levelOf_36 rfl (by decide) ?_
  refine Go_iload_n (pc' := 38) dX11_levelOf_37 rfl rfl rfl ?_
  refine Go_ishl (pc' := 39) dX11_levelOf_38 rfl ?_
  rw [show (1 : Int32) <<< (nI k &&& 31) = nI (2 ^ k) from by rw [show (1 : Int32) = nI 1 from rfl, pk_shlN _ k (lv_sh k (by omega)) (by omega), Nat.one_mul]]
  refine Go_isub (pc' := 40) dX11_levelOf_39 rfl ?_
  rw [pk_sub h1]
  refine Go_i2l (pc' := 41) dX11_levelOf_40 rfl ?_
  rw [nI_l (by omega)]
  refine Go_lmul (pc' := 42) dX11_levelOf_41 rfl ?_
  rw [show (10 : Int64) = lN 10 from rfl, lN_mul]
  refine Go_lstore_n (pc' := 43) (lv' := [.int _, .int _, .long _, un]) dX11_levelOf_42 rfl rfl (Nat.le_of_ble_eq_true rfl) rfl rfl ?_
  refine Go_bipush (v := 10) (pc' := 45) dX11_levelOf_43 rfl (by decide) ?_
  refine Go_iload_n (pc' := 46) dX11_levelOf_45 rfl rfl rfl ?_
  refine Go_imul (pc' := 47) dX11_levelOf_46 rfl ?_
  rw [show (10 : Int32) = nI 10 from rfl, pk_mul]
  refine Go_lload_n (pc' := 48) dX11_levelOf_47 rfl rfl rfl ?_
  refine Go_iload_n (pc' := 49) dX11_levelOf_48 rfl rfl rfl ?_
  refine Go_lshr (pc' := 50) dX11_levelOf_49 rfl ?_
  rw [lv_shr (by omega) (by omega)]
  refine Go_l2i (pc' := 51) dX11_levelOf_50 rfl ?_
  rw [lN_i]
  refine Go_iadd (pc' := 52) dX11_levelOf_51 rfl ?_
  rw [nI_add]
  refine Go_ireturn (ty := .int) dX11_levelOf_52 rfl rfl ?_
  rw [lev_of h1 h2, Nat.mul_comm (v - 2 ^ k) 10] at hk
  exact hk
set_option maxRecDepth 20000 in
set_option maxHeartbeats 1000000 in
theorem lev_loop {G : GC} {d mc ms : Nat} {h : HS} {K : Option Value → HS → Prop} {v : Nat} (hv : v < 2 ^ 31) (hk : K (some (.int (nI (lev v)))) h) : ∀ (n k : Nat), k + n = 30 → 2 ^ k ≤ v → Go G d mc ms M_X11_levelOf 12 [.int (nI v), .int (nI k), .int (nI (v / 2 ^ (k + 1))), un] [] h K := by
  intro n
  induction n with
  | zero =>
    intro k hkn hk2
    have e0 : v / 2 ^ (k + 1) = 0 := Nat.div_eq_of_lt (by rw [show k = 30 by omega]; exact hv)
    rw [e0]
    refine Go_iload_n (pc' := 13) dX11_levelOf_12 rfl rfl rfl ?_
    refine Go_if_leZ (X := 0) (tgt := 32) (pc' := 16) dX11_levelOf_13 (by decide) rfl rfl (fun c13 => ?_) (fun c13 => ?_)
    · exact lev_end hk2 (by rw [show k = 30 by omega]; exact hv) (by omega) hv hk
    · exact absurd (Int.le_refl _) c13
  | succ n ih =>
    intro k hkn hk2
    have hd1 : v / 2 ^ (k + 1) < 2 ^ 31 := Nat.lt_of_le_of_lt (Nat.div_le_self _ _) hv
    have hfin : v < 2 ^ (k + 1) → Go G d mc ms M_X11_levelOf 32 [.int (nI v), .int (nI k), .int (nI (v / 2 ^ (k + 1))), un] [] h K := fun q => lev_end hk2 q (by omega) hv hk
    refine Go_iload_n (pc' := 13) dX11_levelOf_12 rfl rfl rfl ?_
    refine Go_if_leZ (X := ((v / 2 ^ (k + 1) : Nat) : Int)) (tgt := 32) (pc' := 16) dX11_levelOf_13 (by decide) rfl (i_nI (by omega)) (fun c13 => ?_) (fun c13 => ?_)
    · exact hfin (by have := Nat.two_pow_pos (k + 1); have := Nat.lt_of_div_lt_div (a := v) (b := 2 ^ (k + 1)) (c := 2 ^ (k + 1)) (by rw [Nat.div_self (by omega)]; omega); exact this)
    · refine Go_iload_n (pc' := 17) dX11_levelOf_16 rfl rfl rfl ?_
      refine Go_bipush (v := 30) (pc' := 19) dX11_levelOf_17 rfl (by decide) ?_
      refine Go_icmp_geZ (X := ((k : Nat) : Int)) (Y := (30)) (tgt := 32) (pc' := 22) dX11_levelOf_19 (by decide) rfl (i_nI (by omega)) rfl (fun c19 => ?_) (fun c19 => ?_)
      · exact absurd c19 (by omega)
      · refine Go_iinc (pc' := 25) (lv' := [.int _, .int _, .int _, un]) dX11_levelOf_22 rfl rfl (nI_add _ 1) (Nat.le_of_ble_eq_true rfl) rfl rfl ?_
        refine Go_iload_n (pc' := 26) dX11_levelOf_25 rfl rfl rfl ?_
        refine Go_iconst (v := 2) (pc' := 27) dX11_levelOf_26 rfl (by decide) ?_
        refine Go_idiv (pc' := 28) dX11_levelOf_27 rfl (by decide) ?_
        rw [show nI (v / 2 ^ (k + 1)) / 2 = nI (v / 2 ^ (k + 1 + 1)) from by rw [show (2 : Int32) = nI 2 from rfl, pk_div (by omega) (by decide) (by decide), Nat.div_div_eq_div_mul, ← Nat.pow_succ]]
        refine Go_istore_n (pc' := 29) (lv' := [.int _, .int _, .int _, un]) dX11_levelOf_28 rfl rfl (Nat.le_of_ble_eq_true rfl) rfl rfl ?_
        refine Go_goto (tgt := 12) dX11_levelOf_29 (by decide) ?_
        exact ih (k + 1) (by omega) (by have := Nat.div_pos_iff.mp (show 0 < v / 2 ^ (k + 1) by omega); exact this.2)
