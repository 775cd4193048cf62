/-! pair: slides -/
def secU (x y : Int) : Int := if 0 < x ∧ 0 ≤ y then (if y < x then 0 else 1) else (if -x < y then 2 else 3)
def sec (x y : Int) : Int := if x = 0 ∧ y = 0 then -1 else if (0 < x ∧ 0 ≤ y) ∨ (x ≤ 0 ∧ 0 < y) then secU x y else 4 + secU (-x) (-y)
theorem sec_r (x y : Int) : -1 ≤ sec x y ∧ sec x y ≤ 7 := by
  unfold sec secU
  constructor <;> (repeat' split) <;> omega
/-- whether the ground goes up in sector s when it slides in way k -/
def upB (s k : Nat) : Bool := decide ((s + 8 - k) % 4 < 2)
def sl (s : Nat) (b : Bool) : Nat → Nat → Nat → Nat
  | 0, _, A => A
  | m + 1, k, A => sl s b m (k + 1) (if upB s k = b then A ||| 2 ^ k else A)
def sm (s : Nat) (b : Bool) : Nat → Nat → Nat → Nat
  | 0, _, A => A
  | m + 1, k, A => sm s b m (k + 1) (if upB s k = b then A else A &&& (15 ^^^ 2 ^ k))
theorem sl_t {s : Nat} {b : Bool} {m k A : Nat} (h : upB s k = b) : sl s b (m + 1) k A = sl s b m (k + 1) (A ||| 2 ^ k) := by show sl s b m (k + 1) (if _ then _ else _) = _; rw [if_pos h]
theorem sl_f {s : Nat} {b : Bool} {m k A : Nat} (h : ¬ upB s k = b) : sl s b (m + 1) k A = sl s b m (k + 1) A := by show sl s b m (k + 1) (if _ then _ else _) = _; rw [if_neg h]
theorem sm_t {s : Nat} {b : Bool} {m k A : Nat} (h : upB s k = b) : sm s b (m + 1) k A = sm s b m (k + 1) A := by show sm s b m (k + 1) (if _ then _ else _) = _; rw [if_pos h]
theorem sm_f {s : Nat} {b : Bool} {m k A : Nat} (h : ¬ upB s k = b) : sm s b (m + 1) k A = sm s b m (k + 1) (A &&& (15 ^^^ 2 ^ k)) := by show sm s b m (k + 1) (if _ then _ else _) = _; rw [if_neg h]
theorem slm : ∀ s, s < 8 → ∀ b : Bool, ∀ A, A < 16 → A &&& sl s b 4 0 0 = sm s b 4 0 A ∧ sl s b 4 0 0 < 16 ∧ sm s b 4 0 A < 16 := by decide +kernel
theorem andN : ∀ A, A < 16 → ∀ M, M < 16 → iZ ((A : Nat) : Int) &&& iZ ((M : Nat) : Int) = iZ (((A &&& M : Nat)) : Int) := by decide +kernel
theorem and15 : ∀ A, A < 16 → A &&& 15 = A := by decide +kernel
theorem orN : ∀ A, A < 16 → ∀ k, k < 4 → iZ ((A : Nat) : Int) ||| (iZ 1 <<< (iZ ((k : Nat) : Int) &&& 31)) = iZ (((A ||| 2 ^ k : Nat)) : Int) ∧ (A ||| 2 ^ k) < 16 := by decide +kernel
theorem clN' : ∀ A, A < 16 → ∀ k, k < 4 → iZ ((A : Nat) : Int) &&& ((iZ 1 <<< (iZ ((k : Nat) : Int) &&& 31)) ^^^ iZ (-1)) = iZ (((A &&& (15 ^^^ 2 ^ k) : Nat)) : Int) ∧ (A &&& (15 ^^^ 2 ^ k)) < 16 := by decide +kernel
theorem ifmod4 {X : Int} (hX : -100 ≤ X ∧ X ≤ 100) : ifmod (iZ X) (iZ 4) = iZ (X % 4) := by
  have key : ∀ n, n < 201 → ifmod (iZ (((n : Nat) : Int) - 100)) (iZ 4) = iZ ((((n : Nat) : Int) - 100) % 4) := by decide +kernel
  have := key (X + 100).toNat (by omega)
  rwa [show (((X + 100).toNat : Nat) : Int) - 100 = X by omega] at this
theorem s_fmod4 {G : GC} {d mc ms : Nat} {h : HS} {K : Option Value → HS → Prop} {X : Int} (hX : -100 ≤ X ∧ X ≤ 100) (hk : K (some (.int (iZ (X % 4)))) h) : Go G d mc ms M_J9_floorMod_7cf53 0 [.int (iZ X), .int (iZ 4), un] [] h K := by
  refine s_fmod (by decide) ?_
  rw [ifmod4 hX]; exact hk
set_option maxRecDepth 20000 in
set_option maxHeartbeats 1000000 in
theorem s_upper {G : GC} {d mc ms : Nat} {h : HS} {K : Option Value → HS → Prop} {x y : Int} (hx : -40 ≤ x ∧ x ≤ 40) (hy : -40 ≤ y ∧ y ≤ 40) (hk : K (some (.int (iZ (if (0 < x ∧ 0 ≤ y) ∨ (x ≤ 0 ∧ 0 < y) then secU x y else -1)))) h) : Go G d mc ms M_X11_upperSector 0 [.int (iZ x), .int (iZ y)] [] h K := by
  refine Go_iload_n (pc' := 1) dX11_upperSector_0 rfl rfl rfl ?_
  refine Go_if_leY (tgt := 19) (pc' := 4) dX11_upperSector_1 (by decide) rfl (by first | exact ⟨i_lo _, i_hi _⟩ | omega) (fun c1 => ?_) (fun c1 => ?_)
  · refine Go_iload_n (pc' := 20) dX11_upperSector_19 rfl rfl rfl ?_
    refine Go_if_gtY (tgt := 31) (pc' := 23) dX11_upperSector_20 (by decide) rfl (by first | exact ⟨i_lo _, i_hi _⟩ | omega) (fun c20 => ?_) (fun c20 => ?_)
    · refine Go_iload_n (pc' := 32) dX11_upperSector_31 rfl rfl rfl ?_
      refine Go_if_geY (tgt := 43) (pc' := 35) dX11_upperSector_32 (by decide) rfl (by first | exact ⟨i_lo _, i_hi _⟩ | omega) (fun c32 => ?_) (fun c32 => ?_)
      · refine Go_iconst (v := iZ (-1)) (pc' := 44) dX11_upperSector_43 rfl (by decide) ?_
        refine Go_ireturn (ty := .int) dX11_upperSector_44 rfl rfl ?_
        rw [show (if (0 < x ∧ 0 ≤ y) ∨ (x ≤ 0 ∧ 0 < y) then secU x y else -1) = (-1) from by unfold secU; (repeat' split) <;> omega] at hk; exact hk
      · refine Go_iload_n (pc' := 36) dX11_upperSector_35 rfl rfl rfl ?_
        refine Go_if_leY (tgt := 43) (pc' := 39) dX11_upperSector_36 (by decide) rfl (by first | exact ⟨i_lo _, i_hi _⟩ | omega) (fun c36 => ?_) (fun c36 => ?_)
        · refine Go_iconst (v := iZ (-1)) (pc' := 44) dX11_upperSector_43 rfl (by decide) ?_
          refine Go_ireturn (ty := .int) dX11_upperSector_44 rfl rfl ?_
          rw [show (if (0 < x ∧ 0 ≤ y) ∨ (x ≤ 0 ∧ 0 < y) then secU x y else -1) = (-1) from by unfold secU; (repeat' split) <;> omega] at hk; exact hk
        · refine Go_iconst (v := iZ 3) (pc' := 40) dX11_upperSector_39 rfl (by decide) ?_
          refine Go_goto (tgt := 44) dX11_upperSector_40 (by decide) ?_
          refine Go_ireturn (ty := .int) dX11_upperSector_44 rfl rfl ?_
          rw [show (if (0 < x ∧ 0 ≤ y) ∨ (x ≤ 0 ∧ 0 < y) then secU x y else -1) = 3 from by unfold secU; (repeat' split) <;> omega] at hk; exact hk
    · refine Go_iload_n (pc' := 24) dX11_upperSector_23 rfl rfl rfl ?_
      refine Go_iload_n (pc' := 25) dX11_upperSector_24 rfl rfl rfl ?_
      refine Go_inegZ (pc' := 26) dX11_upperSector_25 rfl ?_
      refine Go_icmp_leY (tgt := 31) (pc' := 29) dX11_upperSector_26 (by decide) rfl (by first | exact ⟨i_lo _, i_hi _⟩ | omega) (by first | exact ⟨i_lo _, i_hi _⟩ | omega) (fun c26 => ?_) (fun c26 => ?_)
      · refine Go_iload_n (pc' := 32) dX11_upperSector_31 rfl rfl rfl ?_
        refine Go_if_geY (tgt := 43) (pc' := 35) dX11_upperSector_32 (by decide) rfl (by first | exact ⟨i_lo _, i_hi _⟩ | omega) (fun c32 => ?_) (fun c32 => ?_)
        · refine Go_iconst (v := iZ (-1)) (pc' := 44) dX11_upperSector_43 rfl (by decide) ?_
          refine Go_ireturn (ty := .int) dX11_upperSector_44 rfl rfl ?_
          rw [show (if (0 < x ∧ 0 ≤ y) ∨ (x ≤ 0 ∧ 0 < y) then secU x y else -1) = (-1) from by unfold secU; (repeat' split) <;> omega] at hk; exact hk
        · refine Go_iload_n (pc' := 36) dX11_upperSector_35 rfl rfl rfl ?_
          refine Go_if_leY (tgt := 43) (pc' := 39) dX11_upperSector_36 (by decide) rfl (by first | exact ⟨i_lo _, i_hi _⟩ | omega) (fun c36 => ?_) (fun c36 => ?_)
          · refine Go_iconst (v := iZ (-1)) (pc' := 44) dX11_upperSector_43 rfl (by decide) ?_
            refine Go_ireturn (ty := .int) dX11_upperSector_44 rfl rfl ?_
            rw [show (if (0 < x ∧ 0 ≤ y) ∨ (x ≤ 0 ∧ 0 < y) then secU x y else -1) = (-1) from by unfold secU; (repeat' split) <;> omega] at hk; exact hk
          · refine Go_iconst (v := iZ 3) (pc' := 40) dX11_upperSector_39 rfl (by decide) ?_
            refine Go_goto (tgt := 44) dX11_upperSector_40 (by decide) ?_
            refine Go_ireturn (ty := .int) dX11_upperSector_44 rfl rfl ?_
            rw [show (if (0 < x ∧ 0 ≤ y) ∨ (x ≤ 0 ∧ 0 < y) then secU x y else -1) = 3 from by unfold secU; (repeat' split) <;> omega] at hk; exact hk
      · refine Go_iconst (v := iZ 2) (pc' := 30) dX11_upperSector_29 rfl (by decide) ?_
        refine Go_ireturn (ty := .int) dX11_upperSector_30 rfl rfl ?_
        rw [show (if (0 < x ∧ 0 ≤ y) ∨ (x ≤ 0 ∧ 0 < y) then secU x y else -1) = 2 from by unfold secU; (repeat' split) <;> omega] at hk; exact hk
  · refine Go_iload_n (pc' := 5) dX11_upperSector_4 rfl rfl rfl ?_
    refine Go_if_ltY (tgt := 19) (pc' := 8) dX11_upperSector_5 (by decide) rfl (by first | exact ⟨i_lo _, i_hi _⟩ | omega) (fun c5 => ?_) (fun c5 => ?_)
    · refine Go_iload_n (pc' := 20) dX11_upperSector_19 rfl rfl rfl ?_
      refine Go_if_gtY (tgt := 31) (pc' := 23) dX11_upperSector_20 (by decide) rfl (by first | exact ⟨i_lo _, i_hi _⟩ | omega) (fun c20 => ?_) (fun c20 => ?_)
      · refine Go_iload_n (pc' := 32) dX11_upperSector_31 rfl rfl rfl ?_
        refine Go_if_geY (tgt := 43) (pc' := 35) dX11_upperSector_32 (by decide) rfl (by first | exact ⟨i_lo _, i_hi _⟩ | omega) (fun c32 => ?_) (fun c32 => ?_)
        · refine Go_iconst (v := iZ (-1)) (pc' := 44) dX11_upperSector_43 rfl (by decide) ?_
          refine Go_ireturn (ty := .int) dX11_upperSector_44 rfl rfl ?_
          rw [show (if (0 < x ∧ 0 ≤ y) ∨ (x ≤ 0 ∧ 0 < y) then secU x y else -1) = (-1) from by unfold secU; (repeat' split) <;> omega] at hk; exact hk
        · refine Go_iload_n (pc' := 36) dX11_upperSector_35 rfl rfl rfl ?_
          refine Go_if_leY (tgt := 43) (pc' := 39) dX11_upperSector_36 (by decide) rfl (by first | exact ⟨i_lo _, i_hi _⟩ | omega) (fun c36 => ?_) (fun c36 => ?_)
          · refine Go_iconst (v := iZ (-1)) (pc' := 44) dX11_upperSector_43 rfl (by decide) ?_
            refine Go_ireturn (ty := .int) dX11_upperSector_44 rfl rfl ?_
            rw [show (if (0 < x ∧ 0 ≤ y) ∨ (x ≤ 0 ∧ 0 < y) then secU x y else -1) = (-1) from by unfold secU; (repeat' split) <;> omega] at hk; exact hk
          · refine Go_iconst (v := iZ 3) (pc' := 40) dX11_upperSector_39 rfl (by decide) ?_
            refine Go_goto (tgt := 44) dX11_upperSector_40 (by decide) ?_
            refine Go_ireturn (ty := .int) dX11_upperSector_44 rfl rfl ?_
            rw [show (if (0 < x ∧ 0 ≤ y) ∨ (x ≤ 0 ∧ 0 < y) then secU x y else -1) = 3 from by unfold secU; (repeat' split) <;> omega] at hk; exact hk
      · refine Go_iload_n (pc' := 24) dX11_upperSector_23 rfl rfl rfl ?_
        refine Go_iload_n (pc' := 25) dX11_upperSector_24 rfl rfl rfl ?_
        refine Go_inegZ (pc' := 26) dX11_upperSector_25 rfl ?_
        refine Go_icmp_leY (tgt := 31) (pc' := 29) dX11_upperSector_26 (by decide) rfl (by first | exact ⟨i_lo _, i_hi _⟩ | omega) (by first | exact ⟨i_lo _, i_hi _⟩ | omega) (fun c26 => ?_) (fun c26 => ?_)
        · refine Go_iload_n (pc' := 32) dX11_upperSector_31 rfl rfl rfl ?_
          refine Go_if_geY (tgt := 43) (pc' := 35) dX11_upperSector_32 (by decide) rfl (by first | exact ⟨i_lo _, i_hi _⟩ | omega) (fun c32 => ?_) (fun c32 => ?_)
          · refine Go_iconst (v := iZ (-1)) (pc' := 44) dX11_upperSector_43 rfl (by decide) ?_
            refine Go_ireturn (ty := .int) dX11_upperSector_44 rfl rfl ?_
            rw [show (if (0 < x ∧ 0 ≤ y) ∨ (x ≤ 0 ∧ 0 < y) then secU x y else -1) = (-1) from by unfold secU; (repeat' split) <;> omega] at hk; exact hk
          · refine Go_iload_n (pc' := 36) dX11_upperSector_35 rfl rfl rfl ?_
            refine Go_if_leY (tgt := 43) (pc' := 39) dX11_upperSector_36 (by decide) rfl (by first | exact ⟨i_lo _, i_hi _⟩ | omega) (fun c36 => ?_) (fun c36 => ?_)
            · refine Go_iconst (v := iZ (-1)) (pc' := 44) dX11_upperSector_43 rfl (by decide) ?_
              refine Go_ireturn (ty := .int) dX11_upperSector_44 rfl rfl ?_
              rw [show (if (0 < x ∧ 0 ≤ y) ∨ (x ≤ 0 ∧ 0 < y) then secU x y else -1) = (-1) from by unfold secU; (repeat' split) <;> omega] at hk; exact hk
            · refine Go_iconst (v := iZ 3) (pc' := 40) dX11_upperSector_39 rfl (by decide) ?_
              refine Go_goto (tgt := 44) dX11_upperSector_40 (by decide) ?_
              refine Go_ireturn (ty := .int) dX11_upperSector_44 rfl rfl ?_
              rw [show (if (0 < x ∧ 0 ≤ y) ∨ (x ≤ 0 ∧ 0 < y) then secU x y else -1) = 3 from by unfold secU; (repeat' split) <;> omega] at hk; exact hk
        · refine Go_iconst (v := iZ 2) (pc' := 30) dX11_upperSector_29 rfl (by decide) ?_
          refine Go_ireturn (ty := .int) dX11_upperSector_30 rfl rfl ?_
          rw [show (if (0 < x ∧ 0 ≤ y) ∨ (x ≤ 0 ∧ 0 < y) then secU x y else -1) = 2 from by unfold secU; (repeat' split) <;> omega] at hk; exact hk
    · refine Go_iload_n (pc' := 9) dX11_upperSector_8 rfl rfl rfl ?_
      refine Go_iload_n (pc' := 10) dX11_upperSector_9 rfl rfl rfl ?_
      refine Go_icmp_geY (tgt := 17) (pc' := 13) dX11_upperSector_10 (by decide) rfl (by first | exact ⟨i_lo _, i_hi _⟩ | omega) (by first | exact ⟨i_lo _, i_hi _⟩ | omega) (fun c10 => ?_) (fun c10 => ?_)
      · refine Go_iconst (v := iZ 1) (pc' := 18) dX11_upperSector_17 rfl (by decide) ?_
        refine Go_ireturn (ty := .int) dX11_upperSector_18 rfl rfl ?_
        rw [show (if (0 < x ∧ 0 ≤ y) ∨ (x ≤ 0 ∧ 0 < y) then secU x y else -1) = 1 from by unfold secU; (repeat' split) <;> omega] at hk; exact hk
      · refine Go_iconst (v := iZ 0) (pc' := 14) dX11_upperSector_13 rfl (by decide) ?_
        refine Go_goto (tgt := 18) dX11_upperSector_14 (by decide) ?_
        refine Go_ireturn (ty := .int) dX11_upperSector_18 rfl rfl ?_
        rw [show (if (0 < x ∧ 0 ≤ y) ∨ (x ≤ 0 ∧ 0 < y) then secU x y else -1) = 0 from by unfold secU; (repeat' split) <;> omega] at hk; exact hk
set_option maxRecDepth 20000 in
set_option maxHeartbeats 1000000 in
theorem s_sector {G : GC} {d mc ms : Nat} {h : HS} {K : Option Value → HS → Prop} {x y : Int} (hx : -40 ≤ x ∧ x ≤ 40) (hy : -40 ≤ y ∧ y ≤ 40) (hk : K (some (.int (iZ (sec x y)))) h) : Go G (d + 1) mc ms M_X11_sectorOf 0 [.int (iZ x), .int (iZ y), un] [] h K := by
  have u0 : ∀ a b : Int, 0 ≤ secU a b ∧ secU a b ≤ 3 := by intro a b; unfold secU; constructor <;> (repeat' split) <;> omega
  have u1 := u0 x y
  have u2 := u0 (-x) (-y)
  by_cases U : (0 < x ∧ 0 ≤ y) ∨ (x ≤ 0 ∧ 0 < y)
  · have e1 : (if (0 < x ∧ 0 ≤ y) ∨ (x ≤ 0 ∧ 0 < y) then secU x y else -1) = secU x y := if_pos U
    rw [show sec x y = secU x y from by unfold sec; rw [if_neg (by omega), if_pos U]] at hk
    refine Go_iload_n (pc' := 1) dX11_sectorOf_0 rfl rfl rfl ?_
    refine Go_if_neY (tgt := 10) (pc' := 4) dX11_sectorOf_1 (by decide) rfl (by first | exact ⟨i_lo _, i_hi _⟩ | omega) (fun c1 => ?_) (fun c1 => ?_)
    · refine Go_iload_n (pc' := 11) dX11_sectorOf_10 rfl rfl rfl ?_
      refine Go_iload_n (pc' := 12) dX11_sectorOf_11 rfl rfl rfl ?_
      refine Go_callS_i (pc' := 15) (As := [.int _, .int _]) (st := []) dX11_sectorOf_12 rfl ok_X11_upperSector km_RX11_373 rfl (Nat.le_of_ble_eq_true rfl) rfl rfl rfl (Nat.le_of_ble_eq_true rfl) (Nat.lt_succ_self _) ?_
      refine s_upper (by omega) (by omega) ?_
      rw [e1]
      refine ⟨_, rfl, ?_⟩
      refine Go_istore_n (pc' := 16) (lv' := [.int _, .int _, .int _]) dX11_sectorOf_15 rfl rfl (Nat.le_of_ble_eq_true rfl) rfl rfl ?_
      refine Go_iload_n (pc' := 17) dX11_sectorOf_16 rfl rfl rfl ?_
      refine Go_iconst (v := iZ (-1)) (pc' := 18) dX11_sectorOf_17 rfl (by decide) ?_
      refine Go_icmp_eqY (tgt := 25) (pc' := 21) dX11_sectorOf_18 (by decide) rfl (by first | exact ⟨i_lo _, i_hi _⟩ | omega) (by first | exact ⟨i_lo _, i_hi _⟩ | omega) (fun c18 => by exfalso; omega) (fun c18 => ?_)
      refine Go_iload_n (pc' := 22) dX11_sectorOf_21 rfl rfl rfl ?_
      refine Go_goto (tgt := 34) dX11_sectorOf_22 (by decide) ?_
      refine Go_ireturn (ty := .int) dX11_sectorOf_34 rfl rfl ?_
      exact hk
    · refine Go_iload_n (pc' := 5) dX11_sectorOf_4 rfl rfl rfl ?_
      refine Go_if_neY (tgt := 10) (pc' := 8) dX11_sectorOf_5 (by decide) rfl (by first | exact ⟨i_lo _, i_hi _⟩ | omega) (fun c5 => ?_) (fun c5 => ?_)
      · refine Go_iload_n (pc' := 11) dX11_sectorOf_10 rfl rfl rfl ?_
        refine Go_iload_n (pc' := 12) dX11_sectorOf_11 rfl rfl rfl ?_
        refine Go_callS_i (pc' := 15) (As := [.int _, .int _]) (st := []) dX11_sectorOf_12 rfl ok_X11_upperSector km_RX11_373 rfl (Nat.le_of_ble_eq_true rfl) rfl rfl rfl (Nat.le_of_ble_eq_true rfl) (Nat.lt_succ_self _) ?_
        refine s_upper (by omega) (by omega) ?_
        rw [e1]
        refine ⟨_, rfl, ?_⟩
        refine Go_istore_n (pc' := 16) (lv' := [.int _, .int _, .int _]) dX11_sectorOf_15 rfl rfl (Nat.le_of_ble_eq_true rfl) rfl rfl ?_
        refine Go_iload_n (pc' := 17) dX11_sectorOf_16 rfl rfl rfl ?_
        refine Go_iconst (v := iZ (-1)) (pc' := 18) dX11_sectorOf_17 rfl (by decide) ?_
        refine Go_icmp_eqY (tgt := 25) (pc' := 21) dX11_sectorOf_18 (by decide) rfl (by first | exact ⟨i_lo _, i_hi _⟩ | omega) (by first | exact ⟨i_lo _, i_hi _⟩ | omega) (fun c18 => by exfalso; omega) (fun c18 => ?_)
        refine Go_iload_n (pc' := 22) dX11_sectorOf_21 rfl rfl rfl ?_
        refine Go_goto (tgt := 34) dX11_sectorOf_22 (by decide) ?_
        refine Go_ireturn (ty := .int) dX11_sectorOf_34 rfl rfl ?_
        exact hk
      · refine Go_iconst (v := iZ (-1)) (pc' := 9) dX11_sectorOf_8 rfl (by decide) ?_
        refine Go_ireturn (ty := .int) dX11_sectorOf_9 rfl rfl ?_
        exfalso; omega
  · have e1 : (if (0 < x ∧ 0 ≤ y) ∨ (x ≤ 0 ∧ 0 < y) then secU x y else -1) = -1 := if_neg U
    by_cases Z : x = 0 ∧ y = 0
    · rw [show sec x y = -1 from by unfold sec; rw [if_pos Z]] at hk
      refine Go_iload_n (pc' := 1) dX11_sectorOf_0 rfl rfl rfl ?_
      refine Go_if_neY (tgt := 10) (pc' := 4) dX11_sectorOf_1 (by decide) rfl (by first | exact ⟨i_lo _, i_hi _⟩ | omega) (fun c1 => by exfalso; omega) (fun c1 => ?_)
      refine Go_iload_n (pc' := 5) dX11_sectorOf_4 rfl rfl rfl ?_
      refine Go_if_neY (tgt := 10) (pc' := 8) dX11_sectorOf_5 (by decide) rfl (by first | exact ⟨i_lo _, i_hi _⟩ | omega) (fun c5 => by exfalso; omega) (fun c5 => ?_)
      refine Go_iconst (v := iZ (-1)) (pc' := 9) dX11_sectorOf_8 rfl (by decide) ?_
      refine Go_ireturn (ty := .int) dX11_sectorOf_9 rfl rfl ?_
      exact hk
    · have e2 : (if (0 < -x ∧ 0 ≤ -y) ∨ (-x ≤ 0 ∧ 0 < -y) then secU (-x) (-y) else -1) = secU (-x) (-y) := if_pos (by omega)
      rw [show sec x y = 4 + secU (-x) (-y) from by unfold sec; rw [if_neg Z, if_neg U]] at hk
      refine Go_iload_n (pc' := 1) dX11_sectorOf_0 rfl rfl rfl ?_
      refine Go_if_neY (tgt := 10) (pc' := 4) dX11_sectorOf_1 (by decide) rfl (by first | exact ⟨i_lo _, i_hi _⟩ | omega) (fun c1 => ?_) (fun c1 => ?_)
      · refine Go_iload_n (pc' := 11) dX11_sectorOf_10 rfl rfl rfl ?_
        refine Go_iload_n (pc' := 12) dX11_sectorOf_11 rfl rfl rfl ?_
        refine Go_callS_i (pc' := 15) (As := [.int _, .int _]) (st := []) dX11_sectorOf_12 rfl ok_X11_upperSector km_RX11_373 rfl (Nat.le_of_ble_eq_true rfl) rfl rfl rfl (Nat.le_of_ble_eq_true rfl) (Nat.lt_succ_self _) ?_
        refine s_upper (by omega) (by omega) ?_
        rw [e1]
        refine ⟨_, rfl, ?_⟩
        refine Go_istore_n (pc' := 16) (lv' := [.int _, .int _, .int _]) dX11_sectorOf_15 rfl rfl (Nat.le_of_ble_eq_true rfl) rfl rfl ?_
        refine Go_iload_n (pc' := 17) dX11_sectorOf_16 rfl rfl rfl ?_
        refine Go_iconst (v := iZ (-1)) (pc' := 18) dX11_sectorOf_17 rfl (by decide) ?_
        refine Go_icmp_eqY (tgt := 25) (pc' := 21) dX11_sectorOf_18 (by decide) rfl (by first | exact ⟨i_lo _, i_hi _⟩ | omega) (by first | exact ⟨i_lo _, i_hi _⟩ | omega) (fun c18 => ?_) (fun c18 => by exfalso; omega)
        refine Go_iconst (v := iZ 4) (pc' := 26) dX11_sectorOf_25 rfl (by decide) ?_
        refine Go_iload_n (pc' := 27) dX11_sectorOf_26 rfl rfl rfl ?_
        refine Go_inegZ (pc' := 28) dX11_sectorOf_27 rfl ?_
        refine Go_iload_n (pc' := 29) dX11_sectorOf_28 rfl rfl rfl ?_
        refine Go_inegZ (pc' := 30) dX11_sectorOf_29 rfl ?_
        refine Go_callS_i (pc' := 33) (As := [.int _, .int _]) (st := [.int _]) dX11_sectorOf_30 rfl ok_X11_upperSector km_RX11_373 rfl (Nat.le_of_ble_eq_true rfl) rfl rfl rfl (Nat.le_of_ble_eq_true rfl) (Nat.lt_succ_self _) ?_
        refine s_upper (by omega) (by omega) ?_
        rw [e2]
        refine ⟨_, rfl, ?_⟩
        refine Go_iaddZ (pc' := 34) dX11_sectorOf_33 rfl ?_
        refine Go_ireturn (ty := .int) dX11_sectorOf_34 rfl rfl ?_
        exact hk
      · refine Go_iload_n (pc' := 5) dX11_sectorOf_4 rfl rfl rfl ?_
        refine Go_if_neY (tgt := 10) (pc' := 8) dX11_sectorOf_5 (by decide) rfl (by first | exact ⟨i_lo _, i_hi _⟩ | omega) (fun c5 => ?_) (fun c5 => ?_)
        · refine Go_iload_n (pc' := 11) dX11_sectorOf_10 rfl rfl rfl ?_
          refine Go_iload_n (pc' := 12) dX11_sectorOf_11 rfl rfl rfl ?_
          refine Go_callS_i (pc' := 15) (As := [.int _, .int _]) (st := []) dX11_sectorOf_12 rfl ok_X11_upperSector km_RX11_373 rfl (Nat.le_of_ble_eq_true rfl) rfl rfl rfl (Nat.le_of_ble_eq_true rfl) (Nat.lt_succ_self _) ?_
          refine s_upper (by omega) (by omega) ?_
          rw [e1]
          refine ⟨_, rfl, ?_⟩
          refine Go_istore_n (pc' := 16) (lv' := [.int _, .int _, .int _]) dX11_sectorOf_15 rfl rfl (Nat.le_of_ble_eq_true rfl) rfl rfl ?_
          refine Go_iload_n (pc' := 17) dX11_sectorOf_16 rfl rfl rfl ?_
          refine Go_iconst (v := iZ (-1)) (pc' := 18) dX11_sectorOf_17 rfl (by decide) ?_
          refine Go_icmp_eqY (tgt := 25) (pc' := 21) dX11_sectorOf_18 (by decide) rfl (by first | exact ⟨i_lo _, i_hi _⟩ | omega) (by first | exact ⟨i_lo _, i_hi _⟩ | omega) (fun c18 => ?_) (fun c18 => by exfalso; omega)
          refine Go_iconst (v := iZ 4) (pc' := 26) dX11_sectorOf_25 rfl (by decide) ?_
          refine Go_iload_n (pc' := 27) dX11_sectorOf_26 rfl rfl rfl ?_
          refine Go_inegZ (pc' := 28) dX11_sectorOf_27 rfl ?_
          refine Go_iload_n (pc' := 29) dX11_sectorOf_28 rfl rfl rfl ?_
          refine Go_inegZ (pc' := 30) dX11_sectorOf_29 rfl ?_
          refine Go_callS_i (pc' := 33) (As := [.int _, .int _]) (st := [.int _]) dX11_sectorOf_30 rfl ok_X11_upperSector km_RX11_373 rfl (Nat.le_of_ble_eq_true rfl) rfl rfl rfl (Nat.le_of_ble_eq_true rfl) (Nat.lt_succ_self _) ?_
          refine s_upper (by omega) (by omega) ?_
          rw [e2]
          refine ⟨_, rfl, ?_⟩
          refine Go_iaddZ (pc' := 34) dX11_sectorOf_33 rfl ?_
          refine Go_ireturn (ty := .int) dX11_sectorOf_34 rfl rfl ?_
          exact hk
        · refine Go_iconst (v := iZ (-1)) (pc' := 9) dX11_sectorOf_8 rfl (by decide) ?_
          refine Go_ireturn (ty := .int) dX11_sectorOf_9 rfl rfl ?_
          exfalso; omega
set_option maxRecDepth 20000 in
set_option maxHeartbeats 1000000 in
theorem s_secM0 {G : GC} {d mc ms : Nat} {h : HS} {K : Option Value → HS → Prop} {x y : Int} (hx : -40 ≤ x ∧ x ≤ 40) (hy : -40 ≤ y ∧ y ≤ 40) (U : (0 < x ∧ 0 ≤ y) ∨ (x ≤ 0 ∧ 0 < y)) (hk : K (some (.int (iZ (secU x y)))) h) : Go G d mc ms M_X12_sector 0 [.int (iZ x), .int (iZ y)] [] h K := by
  refine Go_iload_n (pc' := 1) dX12_sector_0 rfl rfl rfl ?_
  refine Go_if_leY (tgt := 19) (pc' := 4) dX12_sector_1 (by decide) rfl (by first | exact ⟨i_lo _, i_hi _⟩ | omega) (fun c1 => ?_) (fun c1 => ?_)
  · refine Go_iload_n (pc' := 20) dX12_sector_19 rfl rfl rfl ?_
    refine Go_if_gtY (tgt := 39) (pc' := 23) dX12_sector_20 (by decide) rfl (by first | exact ⟨i_lo _, i_hi _⟩ | omega) (fun c20 => ?_) (fun c20 => ?_)
    · exfalso; omega
    · refine Go_iload_n (pc' := 24) dX12_sector_23 rfl rfl rfl ?_
      refine Go_if_leY (tgt := 39) (pc' := 27) dX12_sector_24 (by decide) rfl (by first | exact ⟨i_lo _, i_hi _⟩ | omega) (fun c24 => ?_) (fun c24 => ?_)
      · exfalso; omega
      · refine Go_iload_n (pc' := 28) dX12_sector_27 rfl rfl rfl ?_
        refine Go_iload_n (pc' := 29) dX12_sector_28 rfl rfl rfl ?_
        refine Go_inegZ (pc' := 30) dX12_sector_29 rfl ?_
        refine Go_icmp_leY (tgt := 37) (pc' := 33) dX12_sector_30 (by decide) rfl (by first | exact ⟨i_lo _, i_hi _⟩ | omega) (by first | exact ⟨i_lo _, i_hi _⟩ | omega) (fun c30 => ?_) (fun c30 => ?_)
        · refine Go_iconst (v := iZ 3) (pc' := 38) dX12_sector_37 rfl (by decide) ?_
          refine Go_ireturn (ty := .int) dX12_sector_38 rfl rfl ?_
          rw [show secU x y = 3 from by unfold secU; (repeat' split) <;> omega] at hk; exact hk
        · refine Go_iconst (v := iZ 2) (pc' := 34) dX12_sector_33 rfl (by decide) ?_
          refine Go_goto (tgt := 38) dX12_sector_34 (by decide) ?_
          refine Go_ireturn (ty := .int) dX12_sector_38 rfl rfl ?_
          rw [show secU x y = 2 from by unfold secU; (repeat' split) <;> omega] at hk; exact hk
  · refine Go_iload_n (pc' := 5) dX12_sector_4 rfl rfl rfl ?_
    refine Go_if_ltY (tgt := 19) (pc' := 8) dX12_sector_5 (by decide) rfl (by first | exact ⟨i_lo _, i_hi _⟩ | omega) (fun c5 => ?_) (fun c5 => ?_)
    · refine Go_iload_n (pc' := 20) dX12_sector_19 rfl rfl rfl ?_
      refine Go_if_gtY (tgt := 39) (pc' := 23) dX12_sector_20 (by decide) rfl (by first | exact ⟨i_lo _, i_hi _⟩ | omega) (fun c20 => ?_) (fun c20 => ?_)
      · exfalso; omega
      · refine Go_iload_n (pc' := 24) dX12_sector_23 rfl rfl rfl ?_
        refine Go_if_leY (tgt := 39) (pc' := 27) dX12_sector_24 (by decide) rfl (by first | exact ⟨i_lo _, i_hi _⟩ | omega) (fun c24 => ?_) (fun c24 => ?_)
        · exfalso; omega
        · refine Go_iload_n (pc' := 28) dX12_sector_27 rfl rfl rfl ?_
          refine Go_iload_n (pc' := 29) dX12_sector_28 rfl rfl rfl ?_
          refine Go_inegZ (pc' := 30) dX12_sector_29 rfl ?_
          refine Go_icmp_leY (tgt := 37) (pc' := 33) dX12_sector_30 (by decide) rfl (by first | exact ⟨i_lo _, i_hi _⟩ | omega) (by first | exact ⟨i_lo _, i_hi _⟩ | omega) (fun c30 => ?_) (fun c30 => ?_)
          · refine Go_iconst (v := iZ 3) (pc' := 38) dX12_sector_37 rfl (by decide) ?_
            refine Go_ireturn (ty := .int) dX12_sector_38 rfl rfl ?_
            rw [show secU x y = 3 from by unfold secU; (repeat' split) <;> omega] at hk; exact hk
          · refine Go_iconst (v := iZ 2) (pc' := 34) dX12_sector_33 rfl (by decide) ?_
            refine Go_goto (tgt := 38) dX12_sector_34 (by decide) ?_
            refine Go_ireturn (ty := .int) dX12_sector_38 rfl rfl ?_
            rw [show secU x y = 2 from by unfold secU; (repeat' split) <;> omega] at hk; exact hk
    · refine Go_iload_n (pc' := 9) dX12_sector_8 rfl rfl rfl ?_
      refine Go_iload_n (pc' := 10) dX12_sector_9 rfl rfl rfl ?_
      refine Go_icmp_geY (tgt := 17) (pc' := 13) dX12_sector_10 (by decide) rfl (by first | exact ⟨i_lo _, i_hi _⟩ | omega) (by first | exact ⟨i_lo _, i_hi _⟩ | omega) (fun c10 => ?_) (fun c10 => ?_)
      · refine Go_iconst (v := iZ 1) (pc' := 18) dX12_sector_17 rfl (by decide) ?_
        refine Go_ireturn (ty := .int) dX12_sector_18 rfl rfl ?_
        rw [show secU x y = 1 from by unfold secU; (repeat' split) <;> omega] at hk; exact hk
      · refine Go_iconst (v := iZ 0) (pc' := 14) dX12_sector_13 rfl (by decide) ?_
        refine Go_goto (tgt := 18) dX12_sector_14 (by decide) ?_
        refine Go_ireturn (ty := .int) dX12_sector_18 rfl rfl ?_
        rw [show secU x y = 0 from by unfold secU; (repeat' split) <;> omega] at hk; exact hk
set_option maxRecDepth 20000 in
set_option maxHeartbeats 1000000 in
theorem s_secM {G : GC} {d mc ms : Nat} {h : HS} {K : Option Value → HS → Prop} {x y : Int} (hx : -40 ≤ x ∧ x ≤ 40) (hy : -40 ≤ y ∧ y ≤ 40) (hk : K (some (.int (iZ (sec x y)))) h) : Go G (d + 1) mc ms M_X12_sector 0 [.int (iZ x), .int (iZ y)] [] h K := by
  by_cases U : (0 < x ∧ 0 ≤ y) ∨ (x ≤ 0 ∧ 0 < y)
  · rw [show sec x y = secU x y from by unfold sec; rw [if_neg (by omega), if_pos U]] at hk
    exact s_secM0 hx hy U hk
  · refine Go_iload_n (pc' := 1) dX12_sector_0 rfl rfl rfl ?_
    refine Go_if_leY (tgt := 19) (pc' := 4) dX12_sector_1 (by decide) rfl (by first | exact ⟨i_lo _, i_hi _⟩ | omega) (fun c1 => ?_) (fun c1 => ?_)
    · refine Go_iload_n (pc' := 20) dX12_sector_19 rfl rfl rfl ?_
      refine Go_if_gtY (tgt := 39) (pc' := 23) dX12_sector_20 (by decide) rfl (by first | exact ⟨i_lo _, i_hi _⟩ | omega) (fun c20 => ?_) (fun c20 => ?_)
      · refine Go_iload_n (pc' := 40) dX12_sector_39 rfl rfl rfl ?_
        refine Go_if_neY (tgt := 51) (pc' := 43) dX12_sector_40 (by decide) rfl (by first | exact ⟨i_lo _, i_hi _⟩ | omega) (fun c40 => ?_) (fun c40 => ?_)
        · refine Go_iconst (v := iZ 4) (pc' := 52) dX12_sector_51 rfl (by decide) ?_
          refine Go_iload_n (pc' := 53) dX12_sector_52 rfl rfl rfl ?_
          refine Go_inegZ (pc' := 54) dX12_sector_53 rfl ?_
          refine Go_iload_n (pc' := 55) dX12_sector_54 rfl rfl rfl ?_
          refine Go_inegZ (pc' := 56) dX12_sector_55 rfl ?_
          refine Go_callS_i (pc' := 59) (As := [.int _, .int _]) (st := [.int _]) dX12_sector_56 rfl ok_X12_sector km_RX12_359 rfl (Nat.le_of_ble_eq_true rfl) rfl rfl rfl (Nat.le_of_ble_eq_true rfl) (Nat.lt_succ_self _) ?_
          refine s_secM0 (by omega) (by omega) (by omega) ?_
          refine ⟨_, rfl, ?_⟩
          refine Go_iaddZ (pc' := 60) dX12_sector_59 rfl ?_
          refine Go_ireturn (ty := .int) dX12_sector_60 rfl rfl ?_
          rw [show sec x y = 4 + secU (-x) (-y) from by unfold sec; rw [if_neg (by omega), if_neg U]] at hk; exact hk
        · refine Go_iload_n (pc' := 44) dX12_sector_43 rfl rfl rfl ?_
          refine Go_if_neY (tgt := 51) (pc' := 47) dX12_sector_44 (by decide) rfl (by first | exact ⟨i_lo _, i_hi _⟩ | omega) (fun c44 => ?_) (fun c44 => ?_)
          · refine Go_iconst (v := iZ 4) (pc' := 52) dX12_sector_51 rfl (by decide) ?_
            refine Go_iload_n (pc' := 53) dX12_sector_52 rfl rfl rfl ?_
            refine Go_inegZ (pc' := 54) dX12_sector_53 rfl ?_
            refine Go_iload_n (pc' := 55) dX12_sector_54 rfl rfl rfl ?_
            refine Go_inegZ (pc' := 56) dX12_sector_55 rfl ?_
            refine Go_callS_i (pc' := 59) (As := [.int _, .int _]) (st := [.int _]) dX12_sector_56 rfl ok_X12_sector km_RX12_359 rfl (Nat.le_of_ble_eq_true rfl) rfl rfl rfl (Nat.le_of_ble_eq_true rfl) (Nat.lt_succ_self _) ?_
            refine s_secM0 (by omega) (by omega) (by omega) ?_
            refine ⟨_, rfl, ?_⟩
            refine Go_iaddZ (pc' := 60) dX12_sector_59 rfl ?_
            refine Go_ireturn (ty := .int) dX12_sector_60 rfl rfl ?_
            rw [show sec x y = 4 + secU (-x) (-y) from by unfold sec; rw [if_neg (by omega), if_neg U]] at hk; exact hk
          · refine Go_iconst (v := iZ (-1)) (pc' := 48) dX12_sector_47 rfl (by decide) ?_
            refine Go_goto (tgt := 60) dX12_sector_48 (by decide) ?_
            refine Go_ireturn (ty := .int) dX12_sector_60 rfl rfl ?_
            rw [show sec x y = -1 from by unfold sec; rw [if_pos (by omega)]] at hk; exact hk
      · refine Go_iload_n (pc' := 24) dX12_sector_23 rfl rfl rfl ?_
        refine Go_if_leY (tgt := 39) (pc' := 27) dX12_sector_24 (by decide) rfl (by first | exact ⟨i_lo _, i_hi _⟩ | omega) (fun c24 => ?_) (fun c24 => ?_)
        · refine Go_iload_n (pc' := 40) dX12_sector_39 rfl rfl rfl ?_
          refine Go_if_neY (tgt := 51) (pc' := 43) dX12_sector_40 (by decide) rfl (by first | exact ⟨i_lo _, i_hi _⟩ | omega) (fun c40 => ?_) (fun c40 => ?_)
          · refine Go_iconst (v := iZ 4) (pc' := 52) dX12_sector_51 rfl (by decide) ?_
            refine Go_iload_n (pc' := 53) dX12_sector_52 rfl rfl rfl ?_
            refine Go_inegZ (pc' := 54) dX12_sector_53 rfl ?_
            refine Go_iload_n (pc' := 55) dX12_sector_54 rfl rfl rfl ?_
            refine Go_inegZ (pc' := 56) dX12_sector_55 rfl ?_
            refine Go_callS_i (pc' := 59) (As := [.int _, .int _]) (st := [.int _]) dX12_sector_56 rfl ok_X12_sector km_RX12_359 rfl (Nat.le_of_ble_eq_true rfl) rfl rfl rfl (Nat.le_of_ble_eq_true rfl) (Nat.lt_succ_self _) ?_
            refine s_secM0 (by omega) (by omega) (by omega) ?_
            refine ⟨_, rfl, ?_⟩
            refine Go_iaddZ (pc' := 60) dX12_sector_59 rfl ?_
            refine Go_ireturn (ty := .int) dX12_sector_60 rfl rfl ?_
            rw [show sec x y = 4 + secU (-x) (-y) from by unfold sec; rw [if_neg (by omega), if_neg U]] at hk; exact hk
          · refine Go_iload_n (pc' := 44) dX12_sector_43 rfl rfl rfl ?_
            refine Go_if_neY (tgt := 51) (pc' := 47) dX12_sector_44 (by decide) rfl (by first | exact ⟨i_lo _, i_hi _⟩ | omega) (fun c44 => ?_) (fun c44 => ?_)
            · refine Go_iconst (v := iZ 4) (pc' := 52) dX12_sector_51 rfl (by decide) ?_
              refine Go_iload_n (pc' := 53) dX12_sector_52 rfl rfl rfl ?_
              refine Go_inegZ (pc' := 54) dX12_sector_53 rfl ?_
              refine Go_iload_n (pc' := 55) dX12_sector_54 rfl rfl rfl ?_
              refine Go_inegZ (pc' := 56) dX12_sector_55 rfl ?_
              refine Go_callS_i (pc' := 59) (As := [.int _, .int _]) (st := [.int _]) dX12_sector_56 rfl ok_X12_sector km_RX12_359 rfl (Nat.le_of_ble_eq_true rfl) rfl rfl rfl (Nat.le_of_ble_eq_true rfl) (Nat.lt_succ_self _) ?_
              refine s_secM0 (by omega) (by omega) (by omega) ?_
              refine ⟨_, rfl, ?_⟩
              refine Go_iaddZ (pc' := 60) dX12_sector_59 rfl ?_
              refine Go_ireturn (ty := .int) dX12_sector_60 rfl rfl ?_
              rw [show sec x y = 4 + secU (-x) (-y) from by unfold sec; rw [if_neg (by omega), if_neg U]] at hk; exact hk
            · refine Go_iconst (v := iZ (-1)) (pc' := 48) dX12_sector_47 rfl (by decide) ?_
              refine Go_goto (tgt := 60) dX12_sector_48 (by decide) ?_
              refine Go_ireturn (ty := .int) dX12_sector_60 rfl rfl ?_
              rw [show sec x y = -1 from by unfold sec; rw [if_pos (by omega)]] at hk; exact hk
        · refine Go_iload_n (pc' := 28) dX12_sector_27 rfl rfl rfl ?_
          refine Go_iload_n (pc' := 29) dX12_sector_28 rfl rfl rfl ?_
          refine Go_inegZ (pc' := 30) dX12_sector_29 rfl ?_
          refine Go_icmp_leY (tgt := 37) (pc' := 33) dX12_sector_30 (by decide) rfl (by first | exact ⟨i_lo _, i_hi _⟩ | omega) (by first | exact ⟨i_lo _, i_hi _⟩ | omega) (fun c30 => ?_) (fun c30 => ?_)
          · refine Go_iconst (v := iZ 3) (pc' := 38) dX12_sector_37 rfl (by decide) ?_
            refine Go_ireturn (ty := .int) dX12_sector_38 rfl rfl ?_
            exfalso; omega
          · refine Go_iconst (v := iZ 2) (pc' := 34) dX12_sector_33 rfl (by decide) ?_
            refine Go_goto (tgt := 38) dX12_sector_34 (by decide) ?_
            refine Go_ireturn (ty := .int) dX12_sector_38 rfl rfl ?_
            exfalso; omega
    · refine Go_iload_n (pc' := 5) dX12_sector_4 rfl rfl rfl ?_
      refine Go_if_ltY (tgt := 19) (pc' := 8) dX12_sector_5 (by decide) rfl (by first | exact ⟨i_lo _, i_hi _⟩ | omega) (fun c5 => ?_) (fun c5 => ?_)
      · refine Go_iload_n (pc' := 20) dX12_sector_19 rfl rfl rfl ?_
        refine Go_if_gtY (tgt := 39) (pc' := 23) dX12_sector_20 (by decide) rfl (by first | exact ⟨i_lo _, i_hi _⟩ | omega) (fun c20 => ?_) (fun c20 => ?_)
        · refine Go_iload_n (pc' := 40) dX12_sector_39 rfl rfl rfl ?_
          refine Go_if_neY (tgt := 51) (pc' := 43) dX12_sector_40 (by decide) rfl (by first | exact ⟨i_lo _, i_hi _⟩ | omega) (fun c40 => ?_) (fun c40 => ?_)
          · refine Go_iconst (v := iZ 4) (pc' := 52) dX12_sector_51 rfl (by decide) ?_
            refine Go_iload_n (pc' := 53) dX12_sector_52 rfl rfl rfl ?_
            refine Go_inegZ (pc' := 54) dX12_sector_53 rfl ?_
            refine Go_iload_n (pc' := 55) dX12_sector_54 rfl rfl rfl ?_
            refine Go_inegZ (pc' := 56) dX12_sector_55 rfl ?_
            refine Go_callS_i (pc' := 59) (As := [.int _, .int _]) (st := [.int _]) dX12_sector_56 rfl ok_X12_sector km_RX12_359 rfl (Nat.le_of_ble_eq_true rfl) rfl rfl rfl (Nat.le_of_ble_eq_true rfl) (Nat.lt_succ_self _) ?_
            refine s_secM0 (by omega) (by omega) (by omega) ?_
            refine ⟨_, rfl, ?_⟩
            refine Go_iaddZ (pc' := 60) dX12_sector_59 rfl ?_
            refine Go_ireturn (ty := .int) dX12_sector_60 rfl rfl ?_
            rw [show sec x y = 4 + secU (-x) (-y) from by unfold sec; rw [if_neg (by omega), if_neg U]] at hk; exact hk
          · refine Go_iload_n (pc' := 44) dX12_sector_43 rfl rfl rfl ?_
            refine Go_if_neY (tgt := 51) (pc' := 47) dX12_sector_44 (by decide) rfl (by first | exact ⟨i_lo _, i_hi _⟩ | omega) (fun c44 => ?_) (fun c44 => ?_)
            · refine Go_iconst (v := iZ 4) (pc' := 52) dX12_sector_51 rfl (by decide) ?_
              refine Go_iload_n (pc' := 53) dX12_sector_52 rfl rfl rfl ?_
              refine Go_inegZ (pc' := 54) dX12_sector_53 rfl ?_
              refine Go_iload_n (pc' := 55) dX12_sector_54 rfl rfl rfl ?_
              refine Go_inegZ (pc' := 56) dX12_sector_55 rfl ?_
              refine Go_callS_i (pc' := 59) (As := [.int _, .int _]) (st := [.int _]) dX12_sector_56 rfl ok_X12_sector km_RX12_359 rfl (Nat.le_of_ble_eq_true rfl) rfl rfl rfl (Nat.le_of_ble_eq_true rfl) (Nat.lt_succ_self _) ?_
              refine s_secM0 (by omega) (by omega) (by omega) ?_
              refine ⟨_, rfl, ?_⟩
              refine Go_iaddZ (pc' := 60) dX12_sector_59 rfl ?_
              refine Go_ireturn (ty := .int) dX12_sector_60 rfl rfl ?_
              rw [show sec x y = 4 + secU (-x) (-y) from by unfold sec; rw [if_neg (by omega), if_neg U]] at hk; exact hk
            · refine Go_iconst (v := iZ (-1)) (pc' := 48) dX12_sector_47 rfl (by decide) ?_
              refine Go_goto (tgt := 60) dX12_sector_48 (by decide) ?_
              refine Go_ireturn (ty := .int) dX12_sector_60 rfl rfl ?_
              rw [show sec x y = -1 from by unfold sec; rw [if_pos (by omega)]] at hk; exact hk
        · refine Go_iload_n (pc' := 24) dX12_sector_23 rfl rfl rfl ?_
          refine Go_if_leY (tgt := 39) (pc' := 27) dX12_sector_24 (by decide) rfl (by first | exact ⟨i_lo _, i_hi _⟩ | omega) (fun c24 => ?_) (fun c24 => ?_)
          · refine Go_iload_n (pc' := 40) dX12_sector_39 rfl rfl rfl ?_
            refine Go_if_neY (tgt := 51) (pc' := 43) dX12_sector_40 (by decide) rfl (by first | exact ⟨i_lo _, i_hi _⟩ | omega) (fun c40 => ?_) (fun c40 => ?_)
            · refine Go_iconst (v := iZ 4) (pc' := 52) dX12_sector_51 rfl (by decide) ?_
              refine Go_iload_n (pc' := 53) dX12_sector_52 rfl rfl rfl ?_
              refine Go_inegZ (pc' := 54) dX12_sector_53 rfl ?_
              refine Go_iload_n (pc' := 55) dX12_sector_54 rfl rfl rfl ?_
              refine Go_inegZ (pc' := 56) dX12_sector_55 rfl ?_
              refine Go_callS_i (pc' := 59) (As := [.int _, .int _]) (st := [.int _]) dX12_sector_56 rfl ok_X12_sector km_RX12_359 rfl (Nat.le_of_ble_eq_true rfl) rfl rfl rfl (Nat.le_of_ble_eq_true rfl) (Nat.lt_succ_self _) ?_
              refine s_secM0 (by omega) (by omega) (by omega) ?_
              refine ⟨_, rfl, ?_⟩
              refine Go_iaddZ (pc' := 60) dX12_sector_59 rfl ?_
              refine Go_ireturn (ty := .int) dX12_sector_60 rfl rfl ?_
              rw [show sec x y = 4 + secU (-x) (-y) from by unfold sec; rw [if_neg (by omega), if_neg U]] at hk; exact hk
            · refine Go_iload_n (pc' := 44) dX12_sector_43 rfl rfl rfl ?_
              refine Go_if_neY (tgt := 51) (pc' := 47) dX12_sector_44 (by decide) rfl (by first | exact ⟨i_lo _, i_hi _⟩ | omega) (fun c44 => ?_) (fun c44 => ?_)
              · refine Go_iconst (v := iZ 4) (pc' := 52) dX12_sector_51 rfl (by decide) ?_
                refine Go_iload_n (pc' := 53) dX12_sector_52 rfl rfl rfl ?_
                refine Go_inegZ (pc' := 54) dX12_sector_53 rfl ?_
                refine Go_iload_n (pc' := 55) dX12_sector_54 rfl rfl rfl ?_
                refine Go_inegZ (pc' := 56) dX12_sector_55 rfl ?_
                refine Go_callS_i (pc' := 59) (As := [.int _, .int _]) (st := [.int _]) dX12_sector_56 rfl ok_X12_sector km_RX12_359 rfl (Nat.le_of_ble_eq_true rfl) rfl rfl rfl (Nat.le_of_ble_eq_true rfl) (Nat.lt_succ_self _) ?_
                refine s_secM0 (by omega) (by omega) (by omega) ?_
                refine ⟨_, rfl, ?_⟩
                refine Go_iaddZ (pc' := 60) dX12_sector_59 rfl ?_
                refine Go_ireturn (ty := .int) dX12_sector_60 rfl rfl ?_
                rw [show sec x y = 4 + secU (-x) (-y) from by unfold sec; rw [if_neg (by omega), if_neg U]] at hk; exact hk
              · refine Go_iconst (v := iZ (-1)) (pc' := 48) dX12_sector_47 rfl (by decide) ?_
                refine Go_goto (tgt := 60) dX12_sector_48 (by decide) ?_
                refine Go_ireturn (ty := .int) dX12_sector_60 rfl rfl ?_
                rw [show sec x y = -1 from by unfold sec; rw [if_pos (by omega)]] at hk; exact hk
          · refine Go_iload_n (pc' := 28) dX12_sector_27 rfl rfl rfl ?_
            refine Go_iload_n (pc' := 29) dX12_sector_28 rfl rfl rfl ?_
            refine Go_inegZ (pc' := 30) dX12_sector_29 rfl ?_
            refine Go_icmp_leY (tgt := 37) (pc' := 33) dX12_sector_30 (by decide) rfl (by first | exact ⟨i_lo _, i_hi _⟩ | omega) (by first | exact ⟨i_lo _, i_hi _⟩ | omega) (fun c30 => ?_) (fun c30 => ?_)
            · refine Go_iconst (v := iZ 3) (pc' := 38) dX12_sector_37 rfl (by decide) ?_
              refine Go_ireturn (ty := .int) dX12_sector_38 rfl rfl ?_
              exfalso; omega
            · refine Go_iconst (v := iZ 2) (pc' := 34) dX12_sector_33 rfl (by decide) ?_
              refine Go_goto (tgt := 38) dX12_sector_34 (by decide) ?_
              refine Go_ireturn (ty := .int) dX12_sector_38 rfl rfl ?_
              exfalso; omega
      · refine Go_iload_n (pc' := 9) dX12_sector_8 rfl rfl rfl ?_
        refine Go_iload_n (pc' := 10) dX12_sector_9 rfl rfl rfl ?_
        refine Go_icmp_geY (tgt := 17) (pc' := 13) dX12_sector_10 (by decide) rfl (by first | exact ⟨i_lo _, i_hi _⟩ | omega) (by first | exact ⟨i_lo _, i_hi _⟩ | omega) (fun c10 => ?_) (fun c10 => ?_)
        · refine Go_iconst (v := iZ 1) (pc' := 18) dX12_sector_17 rfl (by decide) ?_
          refine Go_ireturn (ty := .int) dX12_sector_18 rfl rfl ?_
          exfalso; omega
        · refine Go_iconst (v := iZ 0) (pc' := 14) dX12_sector_13 rfl (by decide) ?_
          refine Go_goto (tgt := 18) dX12_sector_14 (by decide) ?_
          refine Go_ireturn (ty := .int) dX12_sector_18 rfl rfl ?_
          exfalso; omega
set_option maxRecDepth 20000 in
set_option maxHeartbeats 1000000 in
theorem sl_loop {G : GC} {d mc ms : Nat} {h : HS} {K : Option Value → HS → Prop} {s : Nat} {b : Int} (hs : s < 8) (hb : b = -1 ∨ b = 1) : ∀ (m k A : Nat) (v4 : Value), k + m = 4 → A < 16 → K (some (.int (iZ ((sl s (decide (0 < b)) m k A : Nat) : Int)))) h → Go G (d + 1) mc ms M_X11_slidesOf 12 [.int (iZ (s : Int)), .int (iZ b), .int (iZ (A : Int)), .int (iZ (k : Int)), v4] [] h K := by
  intro m
  induction m with
  | zero =>
    intro k A v4 hm hA hk
    refine Go_iload_n (pc' := 13) dX11_slidesOf_12 rfl rfl rfl ?_
    refine Go_iconst (v := iZ 4) (pc' := 14) dX11_slidesOf_13 rfl (by decide) ?_
    refine Go_icmp_geY (tgt := 61) (pc' := 17) dX11_slidesOf_14 (by decide) rfl (by first | exact ⟨i_lo _, i_hi _⟩ | omega) (by first | exact ⟨i_lo _, i_hi _⟩ | omega) (fun c14 => ?_) (fun c14 => by exfalso; omega)
    refine Go_iload_n (pc' := 62) dX11_slidesOf_61 rfl rfl rfl ?_
    refine Go_ireturn (ty := .int) dX11_slidesOf_62 rfl rfl ?_
    exact hk
  | succ m ih =>
    intro k A v4 hm hA hk
    refine Go_iload_n (pc' := 13) dX11_slidesOf_12 rfl rfl rfl ?_
    refine Go_iconst (v := iZ 4) (pc' := 14) dX11_slidesOf_13 rfl (by decide) ?_
    refine Go_icmp_geY (tgt := 61) (pc' := 17) dX11_slidesOf_14 (by decide) rfl (by first | exact ⟨i_lo _, i_hi _⟩ | omega) (by first | exact ⟨i_lo _, i_hi _⟩ | omega) (fun c14 => by exfalso; omega) (fun c14 => ?_)
    refine Go_iload_n (pc' := 18) dX11_slidesOf_17 rfl rfl rfl ?_
    refine Go_iload_n (pc' := 19) dX11_slidesOf_18 rfl rfl rfl ?_
    refine Go_isubZ (pc' := 20) dX11_slidesOf_19 rfl ?_
    refine Go_iconst (v := iZ 4) (pc' := 21) dX11_slidesOf_20 rfl (by decide) ?_
    refine Go_callS_i (pc' := 24) (As := [.int _, .int _]) (st := []) dX11_slidesOf_21 rfl ok_J9_floorMod_7cf53 km_RX11_376 rfl (Nat.le_of_ble_eq_true rfl) rfl rfl rfl (Nat.le_of_ble_eq_true rfl) (Nat.lt_succ_self _) ?_
    refine s_fmod4 (by omega) ?_
    refine ⟨_, rfl, ?_⟩
    refine Go_iconst (v := iZ 2) (pc' := 25) dX11_slidesOf_24 rfl (by decide) ?_
    refine Go_icmp_geY (tgt := 32) (pc' := 28) dX11_slidesOf_25 (by decide) rfl (by first | exact ⟨i_lo _, i_hi _⟩ | omega) (by first | exact ⟨i_lo _, i_hi _⟩ | omega) (fun c25 => ?_) (fun c25 => ?_)
    · refine Go_iconst (v := iZ 0) (pc' := 33) dX11_slidesOf_32 rfl (by decide) ?_
      refine Go_istore (pc' := 35) (lv' := [.int _, .int _, .int _, .int _, .int _]) dX11_slidesOf_33 rfl (Nat.le_of_ble_eq_true rfl) rfl rfl ?_
      refine Go_iload (pc' := 37) dX11_slidesOf_35 rfl rfl ?_
      refine Go_iload_n (pc' := 38) dX11_slidesOf_37 rfl rfl rfl ?_
      refine Go_if_leY (tgt := 45) (pc' := 41) dX11_slidesOf_38 (by decide) rfl (by first | exact ⟨i_lo _, i_hi _⟩ | omega) (fun c38 => ?_) (fun c38 => ?_)
      · refine Go_iconst (v := iZ 0) (pc' := 46) dX11_slidesOf_45 rfl (by decide) ?_
        refine Go_icmp_neY (tgt := 55) (pc' := 49) dX11_slidesOf_46 (by decide) rfl (by first | exact ⟨i_lo _, i_hi _⟩ | omega) (by first | exact ⟨i_lo _, i_hi _⟩ | omega) (fun c46 => by exfalso; omega) (fun c46 => ?_)
        refine Go_iload_n (pc' := 50) dX11_slidesOf_49 rfl rfl rfl ?_
        refine Go_iconst (v := iZ 1) (pc' := 51) dX11_slidesOf_50 rfl (by decide) ?_
        refine Go_iload_n (pc' := 52) dX11_slidesOf_51 rfl rfl rfl ?_
        refine Go_ishl (pc' := 53) dX11_slidesOf_52 rfl ?_
        refine Go_ior (pc' := 54) dX11_slidesOf_53 rfl ?_
        rw [(orN A hA k (by omega)).1]
        refine Go_istore_n (pc' := 55) (lv' := [.int _, .int _, .int _, .int _, .int _]) dX11_slidesOf_54 rfl rfl (Nat.le_of_ble_eq_true rfl) rfl rfl ?_
        refine Go_iincZ (pc' := 58) (lv' := [.int _, .int _, .int _, .int _, .int _]) dX11_slidesOf_55 rfl rfl (Nat.le_of_ble_eq_true rfl) rfl rfl ?_
        refine Go_goto (tgt := 12) dX11_slidesOf_58 (by decide) ?_
        rw [sl_t (show upB s k = decide (0 < b) from by unfold upB; rw [decide_eq_decide]; omega)] at hk
        exact ih (k + 1) _ _ (by omega) (orN A hA k (by omega)).2 hk
      · refine Go_iconst (v := iZ 1) (pc' := 42) dX11_slidesOf_41 rfl (by decide) ?_
        refine Go_goto (tgt := 46) dX11_slidesOf_42 (by decide) ?_
        refine Go_icmp_neY (tgt := 55) (pc' := 49) dX11_slidesOf_46 (by decide) rfl (by first | exact ⟨i_lo _, i_hi _⟩ | omega) (by first | exact ⟨i_lo _, i_hi _⟩ | omega) (fun c46 => ?_) (fun c46 => by exfalso; omega)
        refine Go_iincZ (pc' := 58) (lv' := [.int _, .int _, .int _, .int _, .int _]) dX11_slidesOf_55 rfl rfl (Nat.le_of_ble_eq_true rfl) rfl rfl ?_
        refine Go_goto (tgt := 12) dX11_slidesOf_58 (by decide) ?_
        rw [sl_f (show ¬ upB s k = decide (0 < b) from by unfold upB; rw [decide_eq_decide]; omega)] at hk
        exact ih (k + 1) _ _ (by omega) hA hk
    · refine Go_iconst (v := iZ 1) (pc' := 29) dX11_slidesOf_28 rfl (by decide) ?_
      refine Go_goto (tgt := 33) dX11_slidesOf_29 (by decide) ?_
      refine Go_istore (pc' := 35) (lv' := [.int _, .int _, .int _, .int _, .int _]) dX11_slidesOf_33 rfl (Nat.le_of_ble_eq_true rfl) rfl rfl ?_
      refine Go_iload (pc' := 37) dX11_slidesOf_35 rfl rfl ?_
      refine Go_iload_n (pc' := 38) dX11_slidesOf_37 rfl rfl rfl ?_
      refine Go_if_leY (tgt := 45) (pc' := 41) dX11_slidesOf_38 (by decide) rfl (by first | exact ⟨i_lo _, i_hi _⟩ | omega) (fun c38 => ?_) (fun c38 => ?_)
      · refine Go_iconst (v := iZ 0) (pc' := 46) dX11_slidesOf_45 rfl (by decide) ?_
        refine Go_icmp_neY (tgt := 55) (pc' := 49) dX11_slidesOf_46 (by decide) rfl (by first | exact ⟨i_lo _, i_hi _⟩ | omega) (by first | exact ⟨i_lo _, i_hi _⟩ | omega) (fun c46 => ?_) (fun c46 => by exfalso; omega)
        refine Go_iincZ (pc' := 58) (lv' := [.int _, .int _, .int _, .int _, .int _]) dX11_slidesOf_55 rfl rfl (Nat.le_of_ble_eq_true rfl) rfl rfl ?_
        refine Go_goto (tgt := 12) dX11_slidesOf_58 (by decide) ?_
        rw [sl_f (show ¬ upB s k = decide (0 < b) from by unfold upB; rw [decide_eq_decide]; omega)] at hk
        exact ih (k + 1) _ _ (by omega) hA hk
      · refine Go_iconst (v := iZ 1) (pc' := 42) dX11_slidesOf_41 rfl (by decide) ?_
        refine Go_goto (tgt := 46) dX11_slidesOf_42 (by decide) ?_
        refine Go_icmp_neY (tgt := 55) (pc' := 49) dX11_slidesOf_46 (by decide) rfl (by first | exact ⟨i_lo _, i_hi _⟩ | omega) (by first | exact ⟨i_lo _, i_hi _⟩ | omega) (fun c46 => by exfalso; omega) (fun c46 => ?_)
        refine Go_iload_n (pc' := 50) dX11_slidesOf_49 rfl rfl rfl ?_
        refine Go_iconst (v := iZ 1) (pc' := 51) dX11_slidesOf_50 rfl (by decide) ?_
        refine Go_iload_n (pc' := 52) dX11_slidesOf_51 rfl rfl rfl ?_
        refine Go_ishl (pc' := 53) dX11_slidesOf_52 rfl ?_
        refine Go_ior (pc' := 54) dX11_slidesOf_53 rfl ?_
        rw [(orN A hA k (by omega)).1]
        refine Go_istore_n (pc' := 55) (lv' := [.int _, .int _, .int _, .int _, .int _]) dX11_slidesOf_54 rfl rfl (Nat.le_of_ble_eq_true rfl) rfl rfl ?_
        refine Go_iincZ (pc' := 58) (lv' := [.int _, .int _, .int _, .int _, .int _]) dX11_slidesOf_55 rfl rfl (Nat.le_of_ble_eq_true rfl) rfl rfl ?_
        refine Go_goto (tgt := 12) dX11_slidesOf_58 (by decide) ?_
        rw [sl_t (show upB s k = decide (0 < b) from by unfold upB; rw [decide_eq_decide]; omega)] at hk
        exact ih (k + 1) _ _ (by omega) (orN A hA k (by omega)).2 hk
set_option maxRecDepth 20000 in
set_option maxHeartbeats 1000000 in
theorem s_slidesOf {G : GC} {d mc ms : Nat} {h : HS} {K : Option Value → HS → Prop} {s : Nat} {b : Int} (hs : s < 8) (hb : b = -1 ∨ b = 1) (hk : K (some (.int (iZ ((sl s (decide (0 < b)) 4 0 0 : Nat) : Int)))) h) : Go G (d + 1) mc ms M_X11_slidesOf 0 [.int (iZ (s : Int)), .int (iZ b), un, un, un] [] h K := by
  refine Go_iload_n (pc' := 1) dX11_slidesOf_0 rfl rfl rfl ?_
  refine Go_iconst (v := iZ (-1)) (pc' := 2) dX11_slidesOf_1 rfl (by decide) ?_
  refine Go_icmp_neY (tgt := 8) (pc' := 5) dX11_slidesOf_2 (by decide) rfl (by first | exact ⟨i_lo _, i_hi _⟩ | omega) (by first | exact ⟨i_lo _, i_hi _⟩ | omega) (fun c2 => ?_) (fun c2 => by exfalso; omega)
  refine Go_iconst (v := iZ 0) (pc' := 9) dX11_slidesOf_8 rfl (by decide) ?_
  refine Go_istore_n (pc' := 10) (lv' := [.int _, .int _, .int _, un, un]) dX11_slidesOf_9 rfl rfl (Nat.le_of_ble_eq_true rfl) rfl rfl ?_
  refine Go_iconst (v := iZ 0) (pc' := 11) dX11_slidesOf_10 rfl (by decide) ?_
  refine Go_istore_n (pc' := 12) (lv' := [.int _, .int _, .int _, .int _, un]) dX11_slidesOf_11 rfl rfl (Nat.le_of_ble_eq_true rfl) rfl rfl ?_
  exact sl_loop hs hb 4 0 0 _ rfl (by decide) hk
set_option maxRecDepth 20000 in
set_option maxHeartbeats 1000000 in
theorem s_slidesOf1 {G : GC} {d mc ms : Nat} {h : HS} {K : Option Value → HS → Prop} {b : Int} (hk : K (some (.int (iZ 15))) h) : Go G (d + 1) mc ms M_X11_slidesOf 0 [.int (iZ (-1)), .int (iZ b), un, un, un] [] h K := by
  refine Go_iload_n (pc' := 1) dX11_slidesOf_0 rfl rfl rfl ?_
  refine Go_iconst (v := iZ (-1)) (pc' := 2) dX11_slidesOf_1 rfl (by decide) ?_
  refine Go_icmp_neY (tgt := 8) (pc' := 5) dX11_slidesOf_2 (by decide) rfl (by first | exact ⟨i_lo _, i_hi _⟩ | omega) (by first | exact ⟨i_lo _, i_hi _⟩ | omega) (fun c2 => by exfalso; omega) (fun c2 => ?_)
  refine Go_bipush (v := iZ 15) (pc' := 7) dX11_slidesOf_5 rfl (by decide) ?_
  refine Go_ireturn (ty := .int) dX11_slidesOf_7 rfl rfl ?_
  exact hk
def sx (h : HS) (q : Nat) (x y : Int) (c : Nat) (A : Nat) : Nat := if vi h 124 (6 * q + c) = iZ 0 ∨ (vi h 130 (6 * q + c)).toInt = 0 ∨ sec (cX h c - x) (cY h c - y) = -1 then A else sm (sec (cX h c - x) (cY h c - y)).toNat (decide (0 < (vi h 130 (6 * q + c)).toInt)) 4 0 A
def so (g : Nat → Nat → Nat) : Nat → Nat → Nat → Nat
  | 0, _, A => A
  | m + 1, c, A => so g m (c + 1) (g c A)
theorem sx_n {h : HS} {q : Nat} {x y : Int} {c A : Nat} (e : vi h 124 (6 * q + c) = iZ 0 ∨ (vi h 130 (6 * q + c)).toInt = 0 ∨ sec (cX h c - x) (cY h c - y) = -1) : sx h q x y c A = A := if_pos e
theorem sx_s {h : HS} {q : Nat} {x y : Int} {c A : Nat} (e : vi h 124 (6 * q + c) = iZ 1) (e1 : ¬ (vi h 130 (6 * q + c)).toInt = 0) (e2 : ¬ sec (cX h c - x) (cY h c - y) = -1) : sx h q x y c A = sm (sec (cX h c - x) (cY h c - y)).toNat (decide (0 < (vi h 130 (6 * q + c)).toInt)) 4 0 A := if_neg (fun z => z.elim (fun z => i01 (e.symm.trans z)) (fun z => z.elim e1 e2))
set_option maxRecDepth 20000 in
set_option maxHeartbeats 1000000 in
theorem so_loop {G : GC} {d mc ms : Nat} {h : HS} {K : Option Value → HS → Prop} {q u nq nc : Nat} {x y : Int} (I : Inv h) (hnc : nc ≤ 6) (ec2 : vi h 64 2 = iZ (nc : Int)) (ec0 : vi h 99 0 = iZ (nc : Int)) (hq : q < nq) (hnq : nq ≤ 16) (QS : QkS h u) (RR : ∀ c, c < 6 → RdR h u q c) (hx : 0 ≤ x ∧ x ≤ 39) (hy : 0 ≤ y ∧ y ≤ 39) : ∀ (m c A : Nat) (v7 v8 : Value), c + m = nc → A < 16 → K (some (.int (iZ ((so (sx h q x y) m c A : Nat) : Int)))) h → Go G (d + 3) mc ms M_X11_slides 29 [.ref 64, .int (iZ (q : Int)), .int (iZ x), .int (iZ y), .ref u, .int (iZ (A : Int)), .int (iZ (c : Int)), v7, v8] [] h K := by
  have hu0 := QS.1
  intro m
  induction m with
  | zero =>
    intro c A v7 v8 hm hA hk
    refine Go_iload (pc' := 31) dX11_slides_29 rfl rfl ?_
    refine Go_aload_n (pc' := 32) dX11_slides_31 rfl rfl rfl ?_
    refine Go_getIv (v := (iZ (nc : Int))) (pc' := 35) dX11_slides_32 rfl kf_RX11_84 (by decide) (by decide) rfl (I.S.b 64 rfl rfl) (I.S.o 64 rfl rfl rfl) (ec2) ?_
    refine Go_icmp_geY (tgt := 112) (pc' := 38) dX11_slides_35 (by decide) rfl (by first | exact ⟨i_lo _, i_hi _⟩ | omega) (by first | exact ⟨i_lo _, i_hi _⟩ | omega) (fun c35 => ?_) (fun c35 => by exfalso; omega)
    refine Go_iload (pc' := 114) dX11_slides_112 rfl rfl ?_
    refine Go_ireturn (ty := .int) dX11_slides_114 rfl rfl ?_
    exact hk
  | succ m ih =>
    intro c A v7 v8 hm hA hk
    obtain ⟨o, ho, CS, CV⟩ := cel_ex I hnc ec2 (c := c) (by omega)
    obtain ⟨xr, yr, ex, ey, exy⟩ := CV.1.xy
    rcases RR c (by omega) with ⟨hw, h0⟩ | ⟨w, hw, h0, RS, RV, -⟩
    · refine Go_iload (pc' := 31) dX11_slides_29 rfl rfl ?_
      refine Go_aload_n (pc' := 32) dX11_slides_31 rfl rfl rfl ?_
      refine Go_getIv (v := (iZ (nc : Int))) (pc' := 35) dX11_slides_32 rfl kf_RX11_84 (by decide) (by decide) rfl (I.S.b 64 rfl rfl) (I.S.o 64 rfl rfl rfl) (ec2) ?_
      refine Go_icmp_geY (tgt := 112) (pc' := 38) dX11_slides_35 (by decide) rfl (by first | exact ⟨i_lo _, i_hi _⟩ | omega) (by first | exact ⟨i_lo _, i_hi _⟩ | omega) (fun c35 => by exfalso; omega) (fun c35 => ?_)
      refine Go_aload (pc' := 40) dX11_slides_38 rfl rfl ?_
      refine Go_iload (pc' := 42) dX11_slides_40 rfl rfl ?_
      refine Go_callV_r (pc' := 45) (As := [.int _]) (st := []) dX11_slides_42 rfl ok_X5_reading km_RX11_271 QS.o QS.b ⟨_, _, rfl⟩ rfl (Nat.le_of_ble_eq_true rfl) rfl rfl rfl (Nat.le_of_ble_eq_true rfl) (Nat.lt_succ_self _) ?_
      refine Go_iload_n (pc' := 1) dX5_reading_0 rfl rfl rfl ?_
      refine Go_if_ltY (tgt := 22) (pc' := 4) dX5_reading_1 (by decide) rfl (by first | exact ⟨i_lo _, i_hi _⟩ | omega) (fun r1 => by exfalso; omega) (fun r1 => ?_)
      refine Go_iload_n (pc' := 5) dX5_reading_4 rfl rfl rfl ?_
      refine Go_aload_n (pc' := 6) dX5_reading_5 rfl rfl rfl ?_
      refine Go_getRs (pc' := 9) dX5_reading_6 rfl kf_RX5_11 (by decide) (by decide) rfl QS.b QS.o QS.r0 ?_
      refine Go_alenZ (n := 6) (pc' := 10) dX5_reading_9 rfl QS.b1 QS.k1 (Or.inr (Or.inr ⟨_, rfl⟩)) ?_
      refine Go_icmp_geY (tgt := 22) (pc' := 13) dX5_reading_10 (by decide) rfl (by first | exact ⟨i_lo _, i_hi _⟩ | omega) (by first | exact ⟨i_lo _, i_hi _⟩ | omega) (fun r10 => by exfalso; omega) (fun r10 => ?_)
      refine Go_aload_n (pc' := 14) dX5_reading_13 rfl rfl rfl ?_
      refine Go_getRs (pc' := 17) dX5_reading_14 rfl kf_RX5_11 (by decide) (by decide) rfl QS.b QS.o QS.r0 ?_
      refine Go_iload_n (pc' := 18) dX5_reading_17 rfl rfl rfl ?_
      refine Go_aaloadNZ (n := 6) (k := c) (pc' := 19) dX5_reading_18 rfl QS.b1 QS.k1 rfl rfl (by omega) (by decide) hw ?_
      refine Go_goto (tgt := 23) dX5_reading_19 (by decide) ?_
      refine Go_areturn (r := none) dX5_reading_23 rfl ?_
      refine ⟨none, rfl, ?_⟩
      refine Go_astoreN (pc' := 47) (lv' := [.ref _, .int _, .int _, .int _, .ref _, .int _, .int _, .null, _]) dX11_slides_45 rfl (Nat.le_of_ble_eq_true rfl) rfl rfl ?_
      refine Go_aload_n (pc' := 48) dX11_slides_47 rfl rfl rfl ?_
      refine Go_iload (pc' := 50) dX11_slides_48 rfl rfl ?_
      refine Go_callV_r (pc' := 53) (As := [.int _]) (st := []) dX11_slides_50 rfl ok_X11_cellarOf km_RX11_90 (I.S.o 64 rfl rfl rfl) (I.S.b 64 rfl rfl) ⟨_, _, rfl⟩ rfl (Nat.le_of_ble_eq_true rfl) rfl rfl rfl (Nat.le_of_ble_eq_true rfl) (Nat.lt_succ_self _) ?_
      refine Go_iload_n (pc' := 1) dX11_cellarOf_0 rfl rfl rfl ?_
      refine Go_iconst (v := iZ 0) (pc' := 2) dX11_cellarOf_1 rfl (by decide) ?_
      refine Go_aload_n (pc' := 3) dX11_cellarOf_2 rfl rfl rfl ?_
      refine Go_getIv (v := (iZ (nc : Int))) (pc' := 6) dX11_cellarOf_3 rfl kf_RX11_84 (by decide) (by decide) rfl (I.S.b 64 rfl rfl) (I.S.o 64 rfl rfl rfl) (ec2) ?_
      refine Go_iconst (v := iZ 1) (pc' := 7) dX11_cellarOf_6 rfl (by decide) ?_
      refine Go_isubZ (pc' := 8) dX11_cellarOf_7 rfl ?_
      refine Go_callS_i (pc' := 11) (As := [.int _, .int _, .int _]) (st := []) dX11_cellarOf_8 rfl ok_X11_within km_RX11_94 rfl (Nat.le_of_ble_eq_true rfl) rfl rfl rfl (Nat.le_of_ble_eq_true rfl) (Nat.lt_succ_self _) ?_
      refine s_withinY (by first | exact ⟨i_lo _, i_hi _⟩ | omega) (by first | exact ⟨i_lo _, i_hi _⟩ | omega) (by first | exact ⟨i_lo _, i_hi _⟩ | omega) ?_
      refine ⟨_, rfl, ?_⟩
      refine Go_if_eqb (tgt := 32) (pc' := 14) dX11_cellarOf_11 (by decide) rfl (fun q11 => by exfalso; omega) (fun q11 => ?_)
      refine Go_iload_n (pc' := 15) dX11_cellarOf_14 rfl rfl rfl ?_
      refine Go_aload_n (pc' := 16) dX11_cellarOf_15 rfl rfl rfl ?_
      refine Go_getRs (pc' := 19) dX11_cellarOf_16 rfl kf_RX11_18 (by decide) (by decide) rfl (I.S.b 64 rfl rfl) (I.S.o 64 rfl rfl rfl) (I.S.r 64 1 rfl rfl rfl) ?_
      refine Go_alenZ (n := 6) (pc' := 20) dX11_cellarOf_19 rfl (I.S.b 67 rfl rfl) (I.S.k 67 rfl rfl rfl) (Or.inr (Or.inr ⟨_, rfl⟩)) ?_
      refine Go_icmp_geY (tgt := 32) (pc' := 23) dX11_cellarOf_20 (by decide) rfl (by first | exact ⟨i_lo _, i_hi _⟩ | omega) (by first | exact ⟨i_lo _, i_hi _⟩ | omega) (fun q20 => by exfalso; omega) (fun q20 => ?_)
      refine Go_aload_n (pc' := 24) dX11_cellarOf_23 rfl rfl rfl ?_
      refine Go_getRs (pc' := 27) dX11_cellarOf_24 rfl kf_RX11_18 (by decide) (by decide) rfl (I.S.b 64 rfl rfl) (I.S.o 64 rfl rfl rfl) (I.S.r 64 1 rfl rfl rfl) ?_
      refine Go_iload_n (pc' := 28) dX11_cellarOf_27 rfl rfl rfl ?_
      refine Go_aaloadZ (n := 6) (k := c) (pc' := 29) dX11_cellarOf_28 rfl (I.S.b 67 rfl rfl) (I.S.k 67 rfl rfl rfl) rfl rfl (by omega) (by decide) ho ?_
      refine Go_goto (tgt := 33) dX11_cellarOf_29 (by decide) ?_
      refine Go_areturn (r := some _) dX11_cellarOf_33 rfl ?_
      refine ⟨some _, rfl, ?_⟩
      refine Go_astore (pc' := 55) (lv' := [.ref _, .int _, .int _, .int _, .ref _, .int _, .int _, .null, .ref _]) dX11_slides_53 rfl (Nat.le_of_ble_eq_true rfl) rfl rfl ?_
      refine Go_aloadN (pc' := 57) dX11_slides_55 rfl rfl ?_
      refine Go_ifnullN (tgt := 106) dX11_slides_57 (by decide) ?_
      refine Go_iincZ (pc' := 109) (lv' := [.ref _, .int _, .int _, .int _, .ref _, .int _, .int _, .null, .ref _]) dX11_slides_106 rfl rfl (Nat.le_of_ble_eq_true rfl) rfl rfl ?_
      refine Go_goto (tgt := 29) dX11_slides_109 (by decide) ?_
      refine ih (c + 1) A _ _ (by omega) hA ?_
      have hk : K (some (.int (iZ ((so (sx h q x y) m (c + 1) (sx h q x y c A) : Nat) : Int)))) h := hk
      rw [sx_n (Or.inl h0)] at hk; exact hk
    · have hw0 := RS.1
      have bt := RV.2.2.2.1.2
      rw [RV.2.2.2.1.1] at bt
      unfold rg at bt
      have sr := sec_r (cX h c - x) (cY h c - y)
      by_cases e2 : sec (cX h c - x) (cY h c - y) = -1
      · refine Go_iload (pc' := 31) dX11_slides_29 rfl rfl ?_
        refine Go_aload_n (pc' := 32) dX11_slides_31 rfl rfl rfl ?_
        refine Go_getIv (v := (iZ (nc : Int))) (pc' := 35) dX11_slides_32 rfl kf_RX11_84 (by decide) (by decide) rfl (I.S.b 64 rfl rfl) (I.S.o 64 rfl rfl rfl) (ec2) ?_
        refine Go_icmp_geY (tgt := 112) (pc' := 38) dX11_slides_35 (by decide) rfl (by first | exact ⟨i_lo _, i_hi _⟩ | omega) (by first | exact ⟨i_lo _, i_hi _⟩ | omega) (fun c35 => by exfalso; omega) (fun c35 => ?_)
        refine Go_aload (pc' := 40) dX11_slides_38 rfl rfl ?_
        refine Go_iload (pc' := 42) dX11_slides_40 rfl rfl ?_
        refine Go_callV_r (pc' := 45) (As := [.int _]) (st := []) dX11_slides_42 rfl ok_X5_reading km_RX11_271 QS.o QS.b ⟨_, _, rfl⟩ rfl (Nat.le_of_ble_eq_true rfl) rfl rfl rfl (Nat.le_of_ble_eq_true rfl) (Nat.lt_succ_self _) ?_
        refine Go_iload_n (pc' := 1) dX5_reading_0 rfl rfl rfl ?_
        refine Go_if_ltY (tgt := 22) (pc' := 4) dX5_reading_1 (by decide) rfl (by first | exact ⟨i_lo _, i_hi _⟩ | omega) (fun r1 => by exfalso; omega) (fun r1 => ?_)
        refine Go_iload_n (pc' := 5) dX5_reading_4 rfl rfl rfl ?_
        refine Go_aload_n (pc' := 6) dX5_reading_5 rfl rfl rfl ?_
        refine Go_getRs (pc' := 9) dX5_reading_6 rfl kf_RX5_11 (by decide) (by decide) rfl QS.b QS.o QS.r0 ?_
        refine Go_alenZ (n := 6) (pc' := 10) dX5_reading_9 rfl QS.b1 QS.k1 (Or.inr (Or.inr ⟨_, rfl⟩)) ?_
        refine Go_icmp_geY (tgt := 22) (pc' := 13) dX5_reading_10 (by decide) rfl (by first | exact ⟨i_lo _, i_hi _⟩ | omega) (by first | exact ⟨i_lo _, i_hi _⟩ | omega) (fun r10 => by exfalso; omega) (fun r10 => ?_)
        refine Go_aload_n (pc' := 14) dX5_reading_13 rfl rfl rfl ?_
        refine Go_getRs (pc' := 17) dX5_reading_14 rfl kf_RX5_11 (by decide) (by decide) rfl QS.b QS.o QS.r0 ?_
        refine Go_iload_n (pc' := 18) dX5_reading_17 rfl rfl rfl ?_
        refine Go_aaloadZ (n := 6) (k := c) (pc' := 19) dX5_reading_18 rfl QS.b1 QS.k1 rfl rfl (by omega) (by decide) hw ?_
        refine Go_goto (tgt := 23) dX5_reading_19 (by decide) ?_
        refine Go_areturn (r := some _) dX5_reading_23 rfl ?_
        refine ⟨some _, rfl, ?_⟩
        refine Go_astore (pc' := 47) (lv' := [.ref _, .int _, .int _, .int _, .ref _, .int _, .int _, .ref _, _]) dX11_slides_45 rfl (Nat.le_of_ble_eq_true rfl) rfl rfl ?_
        refine Go_aload_n (pc' := 48) dX11_slides_47 rfl rfl rfl ?_
        refine Go_iload (pc' := 50) dX11_slides_48 rfl rfl ?_
        refine Go_callV_r (pc' := 53) (As := [.int _]) (st := []) dX11_slides_50 rfl ok_X11_cellarOf km_RX11_90 (I.S.o 64 rfl rfl rfl) (I.S.b 64 rfl rfl) ⟨_, _, rfl⟩ rfl (Nat.le_of_ble_eq_true rfl) rfl rfl rfl (Nat.le_of_ble_eq_true rfl) (Nat.lt_succ_self _) ?_
        refine Go_iload_n (pc' := 1) dX11_cellarOf_0 rfl rfl rfl ?_
        refine Go_iconst (v := iZ 0) (pc' := 2) dX11_cellarOf_1 rfl (by decide) ?_
        refine Go_aload_n (pc' := 3) dX11_cellarOf_2 rfl rfl rfl ?_
        refine Go_getIv (v := (iZ (nc : Int))) (pc' := 6) dX11_cellarOf_3 rfl kf_RX11_84 (by decide) (by decide) rfl (I.S.b 64 rfl rfl) (I.S.o 64 rfl rfl rfl) (ec2) ?_
        refine Go_iconst (v := iZ 1) (pc' := 7) dX11_cellarOf_6 rfl (by decide) ?_
        refine Go_isubZ (pc' := 8) dX11_cellarOf_7 rfl ?_
        refine Go_callS_i (pc' := 11) (As := [.int _, .int _, .int _]) (st := []) dX11_cellarOf_8 rfl ok_X11_within km_RX11_94 rfl (Nat.le_of_ble_eq_true rfl) rfl rfl rfl (Nat.le_of_ble_eq_true rfl) (Nat.lt_succ_self _) ?_
        refine s_withinY (by first | exact ⟨i_lo _, i_hi _⟩ | omega) (by first | exact ⟨i_lo _, i_hi _⟩ | omega) (by first | exact ⟨i_lo _, i_hi _⟩ | omega) ?_
        refine ⟨_, rfl, ?_⟩
        refine Go_if_eqb (tgt := 32) (pc' := 14) dX11_cellarOf_11 (by decide) rfl (fun q11 => by exfalso; omega) (fun q11 => ?_)
        refine Go_iload_n (pc' := 15) dX11_cellarOf_14 rfl rfl rfl ?_
        refine Go_aload_n (pc' := 16) dX11_cellarOf_15 rfl rfl rfl ?_
        refine Go_getRs (pc' := 19) dX11_cellarOf_16 rfl kf_RX11_18 (by decide) (by decide) rfl (I.S.b 64 rfl rfl) (I.S.o 64 rfl rfl rfl) (I.S.r 64 1 rfl rfl rfl) ?_
        refine Go_alenZ (n := 6) (pc' := 20) dX11_cellarOf_19 rfl (I.S.b 67 rfl rfl) (I.S.k 67 rfl rfl rfl) (Or.inr (Or.inr ⟨_, rfl⟩)) ?_
        refine Go_icmp_geY (tgt := 32) (pc' := 23) dX11_cellarOf_20 (by decide) rfl (by first | exact ⟨i_lo _, i_hi _⟩ | omega) (by first | exact ⟨i_lo _, i_hi _⟩ | omega) (fun q20 => by exfalso; omega) (fun q20 => ?_)
        refine Go_aload_n (pc' := 24) dX11_cellarOf_23 rfl rfl rfl ?_
        refine Go_getRs (pc' := 27) dX11_cellarOf_24 rfl kf_RX11_18 (by decide) (by decide) rfl (I.S.b 64 rfl rfl) (I.S.o 64 rfl rfl rfl) (I.S.r 64 1 rfl rfl rfl) ?_
        refine Go_iload_n (pc' := 28) dX11_cellarOf_27 rfl rfl rfl ?_
        refine Go_aaloadZ (n := 6) (k := c) (pc' := 29) dX11_cellarOf_28 rfl (I.S.b 67 rfl rfl) (I.S.k 67 rfl rfl rfl) rfl rfl (by omega) (by decide) ho ?_
        refine Go_goto (tgt := 33) dX11_cellarOf_29 (by decide) ?_
        refine Go_areturn (r := some _) dX11_cellarOf_33 rfl ?_
        refine ⟨some _, rfl, ?_⟩
        refine Go_astore (pc' := 55) (lv' := [.ref _, .int _, .int _, .int _, .ref _, .int _, .int _, .ref _, .ref _]) dX11_slides_53 rfl (Nat.le_of_ble_eq_true rfl) rfl rfl ?_
        refine Go_aload (pc' := 57) dX11_slides_55 rfl rfl ?_
        refine Go_ifnull (pc' := 60) dX11_slides_57 rfl ?_
        refine Go_aload (pc' := 62) dX11_slides_60 rfl rfl ?_
        refine Go_ifnull (pc' := 65) dX11_slides_62 rfl ?_
        refine Go_aload (pc' := 67) dX11_slides_65 rfl rfl ?_
        refine Go_getIv (v := (iZ (vi h 130 (6 * q + c)).toInt)) (pc' := 70) dX11_slides_67 rfl kf_RX11_253 (by decide) (by decide) rfl RS.b RS.o (RV.2.2.2.1.1.trans (vi_eta _ _ _)) ?_
        refine Go_if_neY (tgt := 76) (pc' := 73) dX11_slides_70 (by decide) rfl (by first | exact ⟨i_lo _, i_hi _⟩ | omega) (fun c70 => ?_) (fun c70 => ?_)
        · refine Go_iload (pc' := 78) dX11_slides_76 rfl rfl ?_
          refine Go_aload (pc' := 80) dX11_slides_78 rfl rfl ?_
          refine Go_getIv (v := (iZ (cX h c))) (pc' := 83) dX11_slides_80 rfl kf_RX11_275 (by decide) (by decide) rfl CS.b CS.o (ex) ?_
          refine Go_iload_n (pc' := 84) dX11_slides_83 rfl rfl rfl ?_
          refine Go_isubZ (pc' := 85) dX11_slides_84 rfl ?_
          refine Go_aload (pc' := 87) dX11_slides_85 rfl rfl ?_
          refine Go_getIv (v := (iZ (cY h c))) (pc' := 90) dX11_slides_87 rfl kf_RX11_278 (by decide) (by decide) rfl CS.b CS.o (ey) ?_
          refine Go_iload_n (pc' := 91) dX11_slides_90 rfl rfl rfl ?_
          refine Go_isubZ (pc' := 92) dX11_slides_91 rfl ?_
          refine Go_callS_i (pc' := 95) (As := [.int _, .int _]) (st := [.int _]) dX11_slides_92 rfl ok_X11_sectorOf km_RX11_281 rfl (Nat.le_of_ble_eq_true rfl) rfl rfl rfl (Nat.le_of_ble_eq_true rfl) (Nat.lt_succ_self _) ?_
          refine s_sector (by omega) (by omega) ?_
          rw [e2]
          refine ⟨_, rfl, ?_⟩
          refine Go_aload (pc' := 97) dX11_slides_95 rfl rfl ?_
          refine Go_getIv (v := (iZ (vi h 130 (6 * q + c)).toInt)) (pc' := 100) dX11_slides_97 rfl kf_RX11_253 (by decide) (by decide) rfl RS.b RS.o (RV.2.2.2.1.1.trans (vi_eta _ _ _)) ?_
          refine Go_callS_i (pc' := 103) (As := [.int _, .int _]) (st := [.int _]) dX11_slides_100 rfl ok_X11_slidesOf km_RX11_284 rfl (Nat.le_of_ble_eq_true rfl) rfl rfl rfl (Nat.le_of_ble_eq_true rfl) (Nat.lt_succ_self _) ?_
          refine s_slidesOf1 ?_
          refine ⟨_, rfl, ?_⟩
          refine Go_iand (pc' := 104) dX11_slides_103 rfl ?_
          refine Go_istore (pc' := 106) (lv' := [.ref _, .int _, .int _, .int _, .ref _, .int _, .int _, .ref _, .ref _]) dX11_slides_104 rfl (Nat.le_of_ble_eq_true rfl) rfl rfl ?_
          refine Go_iincZ (pc' := 109) (lv' := [.ref _, .int _, .int _, .int _, .ref _, .int _, .int _, .ref _, .ref _]) dX11_slides_106 rfl rfl (Nat.le_of_ble_eq_true rfl) rfl rfl ?_
          refine Go_goto (tgt := 29) dX11_slides_109 (by decide) ?_
          rw [show iZ (A : Int) &&& iZ 15 = iZ (A : Int) from (andN A hA 15 (by decide)).trans (by rw [and15 A hA])]
          refine ih (c + 1) A _ _ (by omega) hA ?_
          have hk : K (some (.int (iZ ((so (sx h q x y) m (c + 1) (sx h q x y c A) : Nat) : Int)))) h := hk
          rw [sx_n (Or.inr (Or.inr e2))] at hk; exact hk
        · refine Go_goto (tgt := 106) dX11_slides_73 (by decide) ?_
          refine Go_iincZ (pc' := 109) (lv' := [.ref _, .int _, .int _, .int _, .ref _, .int _, .int _, .ref _, .ref _]) dX11_slides_106 rfl rfl (Nat.le_of_ble_eq_true rfl) rfl rfl ?_
          refine Go_goto (tgt := 29) dX11_slides_109 (by decide) ?_
          refine ih (c + 1) A _ _ (by omega) hA ?_
          have hk : K (some (.int (iZ ((so (sx h q x y) m (c + 1) (sx h q x y c A) : Nat) : Int)))) h := hk
          rw [sx_n (Or.inr (Or.inl (by omega)))] at hk; exact hk
      · obtain ⟨t, ht, et⟩ : ∃ t : Nat, t < 8 ∧ sec (cX h c - x) (cY h c - y) = (t : Int) := ⟨(sec (cX h c - x) (cY h c - y)).toNat, by omega, by omega⟩
        refine Go_iload (pc' := 31) dX11_slides_29 rfl rfl ?_
        refine Go_aload_n (pc' := 32) dX11_slides_31 rfl rfl rfl ?_
        refine Go_getIv (v := (iZ (nc : Int))) (pc' := 35) dX11_slides_32 rfl kf_RX11_84 (by decide) (by decide) rfl (I.S.b 64 rfl rfl) (I.S.o 64 rfl rfl rfl) (ec2) ?_
        refine Go_icmp_geY (tgt := 112) (pc' := 38) dX11_slides_35 (by decide) rfl (by first | exact ⟨i_lo _, i_hi _⟩ | omega) (by first | exact ⟨i_lo _, i_hi _⟩ | omega) (fun c35 => by exfalso; omega) (fun c35 => ?_)
        refine Go_aload (pc' := 40) dX11_slides_38 rfl rfl ?_
        refine Go_iload (pc' := 42) dX11_slides_40 rfl rfl ?_
        refine Go_callV_r (pc' := 45) (As := [.int _]) (st := []) dX11_slides_42 rfl ok_X5_reading km_RX11_271 QS.o QS.b ⟨_, _, rfl⟩ rfl (Nat.le_of_ble_eq_true rfl) rfl rfl rfl (Nat.le_of_ble_eq_true rfl) (Nat.lt_succ_self _) ?_
        refine Go_iload_n (pc' := 1) dX5_reading_0 rfl rfl rfl ?_
        refine Go_if_ltY (tgt := 22) (pc' := 4) dX5_reading_1 (by decide) rfl (by first | exact ⟨i_lo _, i_hi _⟩ | omega) (fun r1 => by exfalso; omega) (fun r1 => ?_)
        refine Go_iload_n (pc' := 5) dX5_reading_4 rfl rfl rfl ?_
        refine Go_aload_n (pc' := 6) dX5_reading_5 rfl rfl rfl ?_
        refine Go_getRs (pc' := 9) dX5_reading_6 rfl kf_RX5_11 (by decide) (by decide) rfl QS.b QS.o QS.r0 ?_
        refine Go_alenZ (n := 6) (pc' := 10) dX5_reading_9 rfl QS.b1 QS.k1 (Or.inr (Or.inr ⟨_, rfl⟩)) ?_
        refine Go_icmp_geY (tgt := 22) (pc' := 13) dX5_reading_10 (by decide) rfl (by first | exact ⟨i_lo _, i_hi _⟩ | omega) (by first | exact ⟨i_lo _, i_hi _⟩ | omega) (fun r10 => by exfalso; omega) (fun r10 => ?_)
        refine Go_aload_n (pc' := 14) dX5_reading_13 rfl rfl rfl ?_
        refine Go_getRs (pc' := 17) dX5_reading_14 rfl kf_RX5_11 (by decide) (by decide) rfl QS.b QS.o QS.r0 ?_
        refine Go_iload_n (pc' := 18) dX5_reading_17 rfl rfl rfl ?_
        refine Go_aaloadZ (n := 6) (k := c) (pc' := 19) dX5_reading_18 rfl QS.b1 QS.k1 rfl rfl (by omega) (by decide) hw ?_
        refine Go_goto (tgt := 23) dX5_reading_19 (by decide) ?_
        refine Go_areturn (r := some _) dX5_reading_23 rfl ?_
        refine ⟨some _, rfl, ?_⟩
        refine Go_astore (pc' := 47) (lv' := [.ref _, .int _, .int _, .int _, .ref _, .int _, .int _, .ref _, _]) dX11_slides_45 rfl (Nat.le_of_ble_eq_true rfl) rfl rfl ?_
        refine Go_aload_n (pc' := 48) dX11_slides_47 rfl rfl rfl ?_
        refine Go_iload (pc' := 50) dX11_slides_48 rfl rfl ?_
        refine Go_callV_r (pc' := 53) (As := [.int _]) (st := []) dX11_slides_50 rfl ok_X11_cellarOf km_RX11_90 (I.S.o 64 rfl rfl rfl) (I.S.b 64 rfl rfl) ⟨_, _, rfl⟩ rfl (Nat.le_of_ble_eq_true rfl) rfl rfl rfl (Nat.le_of_ble_eq_true rfl) (Nat.lt_succ_self _) ?_
        refine Go_iload_n (pc' := 1) dX11_cellarOf_0 rfl rfl rfl ?_
        refine Go_iconst (v := iZ 0) (pc' := 2) dX11_cellarOf_1 rfl (by decide) ?_
        refine Go_aload_n (pc' := 3) dX11_cellarOf_2 rfl rfl rfl ?_
        refine Go_getIv (v := (iZ (nc : Int))) (pc' := 6) dX11_cellarOf_3 rfl kf_RX11_84 (by decide) (by decide) rfl (I.S.b 64 rfl rfl) (I.S.o 64 rfl rfl rfl) (ec2) ?_
        refine Go_iconst (v := iZ 1) (pc' := 7) dX11_cellarOf_6 rfl (by decide) ?_
        refine Go_isubZ (pc' := 8) dX11_cellarOf_7 rfl ?_
        refine Go_callS_i (pc' := 11) (As := [.int _, .int _, .int _]) (st := []) dX11_cellarOf_8 rfl ok_X11_within km_RX11_94 rfl (Nat.le_of_ble_eq_true rfl) rfl rfl rfl (Nat.le_of_ble_eq_true rfl) (Nat.lt_succ_self _) ?_
        refine s_withinY (by first | exact ⟨i_lo _, i_hi _⟩ | omega) (by first | exact ⟨i_lo _, i_hi _⟩ | omega) (by first | exact ⟨i_lo _, i_hi _⟩ | omega) ?_
        refine ⟨_, rfl, ?_⟩
        refine Go_if_eqb (tgt := 32) (pc' := 14) dX11_cellarOf_11 (by decide) rfl (fun q11 => by exfalso; omega) (fun q11 => ?_)
        refine Go_iload_n (pc' := 15) dX11_cellarOf_14 rfl rfl rfl ?_
        refine Go_aload_n (pc' := 16) dX11_cellarOf_15 rfl rfl rfl ?_
        refine Go_getRs (pc' := 19) dX11_cellarOf_16 rfl kf_RX11_18 (by decide) (by decide) rfl (I.S.b 64 rfl rfl) (I.S.o 64 rfl rfl rfl) (I.S.r 64 1 rfl rfl rfl) ?_
        refine Go_alenZ (n := 6) (pc' := 20) dX11_cellarOf_19 rfl (I.S.b 67 rfl rfl) (I.S.k 67 rfl rfl rfl) (Or.inr (Or.inr ⟨_, rfl⟩)) ?_
        refine Go_icmp_geY (tgt := 32) (pc' := 23) dX11_cellarOf_20 (by decide) rfl (by first | exact ⟨i_lo _, i_hi _⟩ | omega) (by first | exact ⟨i_lo _, i_hi _⟩ | omega) (fun q20 => by exfalso; omega) (fun q20 => ?_)
        refine Go_aload_n (pc' := 24) dX11_cellarOf_23 rfl rfl rfl ?_
        refine Go_getRs (pc' := 27) dX11_cellarOf_24 rfl kf_RX11_18 (by decide) (by decide) rfl (I.S.b 64 rfl rfl) (I.S.o 64 rfl rfl rfl) (I.S.r 64 1 rfl rfl rfl) ?_
        refine Go_iload_n (pc' := 28) dX11_cellarOf_27 rfl rfl rfl ?_
        refine Go_aaloadZ (n := 6) (k := c) (pc' := 29) dX11_cellarOf_28 rfl (I.S.b 67 rfl rfl) (I.S.k 67 rfl rfl rfl) rfl rfl (by omega) (by decide) ho ?_
        refine Go_goto (tgt := 33) dX11_cellarOf_29 (by decide) ?_
        refine Go_areturn (r := some _) dX11_cellarOf_33 rfl ?_
        refine ⟨some _, rfl, ?_⟩
        refine Go_astore (pc' := 55) (lv' := [.ref _, .int _, .int _, .int _, .ref _, .int _, .int _, .ref _, .ref _]) dX11_slides_53 rfl (Nat.le_of_ble_eq_true rfl) rfl rfl ?_
        refine Go_aload (pc' := 57) dX11_slides_55 rfl rfl ?_
        refine Go_ifnull (pc' := 60) dX11_slides_57 rfl ?_
        refine Go_aload (pc' := 62) dX11_slides_60 rfl rfl ?_
        refine Go_ifnull (pc' := 65) dX11_slides_62 rfl ?_
        refine Go_aload (pc' := 67) dX11_slides_65 rfl rfl ?_
        refine Go_getIv (v := (iZ (vi h 130 (6 * q + c)).toInt)) (pc' := 70) dX11_slides_67 rfl kf_RX11_253 (by decide) (by decide) rfl RS.b RS.o (RV.2.2.2.1.1.trans (vi_eta _ _ _)) ?_
        refine Go_if_neY (tgt := 76) (pc' := 73) dX11_slides_70 (by decide) rfl (by first | exact ⟨i_lo _, i_hi _⟩ | omega) (fun c70 => ?_) (fun c70 => ?_)
        · refine Go_iload (pc' := 78) dX11_slides_76 rfl rfl ?_
          refine Go_aload (pc' := 80) dX11_slides_78 rfl rfl ?_
          refine Go_getIv (v := (iZ (cX h c))) (pc' := 83) dX11_slides_80 rfl kf_RX11_275 (by decide) (by decide) rfl CS.b CS.o (ex) ?_
          refine Go_iload_n (pc' := 84) dX11_slides_83 rfl rfl rfl ?_
          refine Go_isubZ (pc' := 85) dX11_slides_84 rfl ?_
          refine Go_aload (pc' := 87) dX11_slides_85 rfl rfl ?_
          refine Go_getIv (v := (iZ (cY h c))) (pc' := 90) dX11_slides_87 rfl kf_RX11_278 (by decide) (by decide) rfl CS.b CS.o (ey) ?_
          refine Go_iload_n (pc' := 91) dX11_slides_90 rfl rfl rfl ?_
          refine Go_isubZ (pc' := 92) dX11_slides_91 rfl ?_
          refine Go_callS_i (pc' := 95) (As := [.int _, .int _]) (st := [.int _]) dX11_slides_92 rfl ok_X11_sectorOf km_RX11_281 rfl (Nat.le_of_ble_eq_true rfl) rfl rfl rfl (Nat.le_of_ble_eq_true rfl) (Nat.lt_succ_self _) ?_
          refine s_sector (by omega) (by omega) ?_
          rw [et]
          refine ⟨_, rfl, ?_⟩
          refine Go_aload (pc' := 97) dX11_slides_95 rfl rfl ?_
          refine Go_getIv (v := (iZ (vi h 130 (6 * q + c)).toInt)) (pc' := 100) dX11_slides_97 rfl kf_RX11_253 (by decide) (by decide) rfl RS.b RS.o (RV.2.2.2.1.1.trans (vi_eta _ _ _)) ?_
          refine Go_callS_i (pc' := 103) (As := [.int _, .int _]) (st := [.int _]) dX11_slides_100 rfl ok_X11_slidesOf km_RX11_284 rfl (Nat.le_of_ble_eq_true rfl) rfl rfl rfl (Nat.le_of_ble_eq_true rfl) (Nat.lt_succ_self _) ?_
          refine s_slidesOf ht (by omega) ?_
          refine ⟨_, rfl, ?_⟩
          refine Go_iand (pc' := 104) dX11_slides_103 rfl ?_
          refine Go_istore (pc' := 106) (lv' := [.ref _, .int _, .int _, .int _, .ref _, .int _, .int _, .ref _, .ref _]) dX11_slides_104 rfl (Nat.le_of_ble_eq_true rfl) rfl rfl ?_
          refine Go_iincZ (pc' := 109) (lv' := [.ref _, .int _, .int _, .int _, .ref _, .int _, .int _, .ref _, .ref _]) dX11_slides_106 rfl rfl (Nat.le_of_ble_eq_true rfl) rfl rfl ?_
          refine Go_goto (tgt := 29) dX11_slides_109 (by decide) ?_
          obtain ⟨z1, z2, z3⟩ := slm t ht (decide (0 < (vi h 130 (6 * q + c)).toInt)) A hA
          rw [andN A hA _ z2, z1]
          refine ih (c + 1) _ _ _ (by omega) z3 ?_
          have hk : K (some (.int (iZ ((so (sx h q x y) m (c + 1) (sx h q x y c A) : Nat) : Int)))) h := hk
          rw [sx_s h0 (by omega) e2, et, Int.toNat_natCast] at hk; exact hk
        · refine Go_goto (tgt := 106) dX11_slides_73 (by decide) ?_
          refine Go_iincZ (pc' := 109) (lv' := [.ref _, .int _, .int _, .int _, .ref _, .int _, .int _, .ref _, .ref _]) dX11_slides_106 rfl rfl (Nat.le_of_ble_eq_true rfl) rfl rfl ?_
          refine Go_goto (tgt := 29) dX11_slides_109 (by decide) ?_
          refine ih (c + 1) A _ _ (by omega) hA ?_
          have hk : K (some (.int (iZ ((so (sx h q x y) m (c + 1) (sx h q x y c A) : Nat) : Int)))) h := hk
          rw [sx_n (Or.inr (Or.inl (by omega)))] at hk; exact hk
set_option maxRecDepth 20000 in
set_option maxHeartbeats 1000000 in
theorem smi_loop {G : GC} {d mc ms : Nat} {h : HS} {K : Option Value → HS → Prop} {q c t : Nat} {x y : Int} (I : Inv h) (hq : q < 16) (hc : c < 6) (ht : t < 8) (hb : (vi h 130 (6 * q + c)).toInt = -1 ∨ (vi h 130 (6 * q + c)).toInt = 1) : ∀ (m k A : Nat) (v9 : Value), k + m = 4 → A < 16 → (∀ v8 v9, Go G (d + 2) mc ms M_X12_slides 169 [.ref 99, .int (iZ (q : Int)), .int (iZ x), .int (iZ y), .int (iZ ((sm t (decide (0 < (vi h 130 (6 * q + c)).toInt)) m k A : Nat) : Int)), .int (iZ (c : Int)), .int (iZ ((6 * (q : Int)) + (c : Int))), .int (iZ (t : Int)), v8, v9] [] h K) → Go G (d + 2) mc ms M_X12_slides 104 [.ref 99, .int (iZ (q : Int)), .int (iZ x), .int (iZ y), .int (iZ (A : Int)), .int (iZ (c : Int)), .int (iZ ((6 * (q : Int)) + (c : Int))), .int (iZ (t : Int)), .int (iZ (k : Int)), v9] [] h K := by
  intro m
  induction m with
  | zero =>
    intro k A v9 hm hA hk
    refine Go_iload (pc' := 106) dX12_slides_104 rfl rfl ?_
    refine Go_iconst (v := iZ 4) (pc' := 107) dX12_slides_106 rfl (by decide) ?_
    refine Go_icmp_geY (tgt := 169) (pc' := 110) dX12_slides_107 (by decide) rfl (by first | exact ⟨i_lo _, i_hi _⟩ | omega) (by first | exact ⟨i_lo _, i_hi _⟩ | omega) (fun c107 => ?_) (fun c107 => by exfalso; omega)
    exact hk _ _
  | succ m ih =>
    intro k A v9 hm hA hk
    refine Go_iload (pc' := 106) dX12_slides_104 rfl rfl ?_
    refine Go_iconst (v := iZ 4) (pc' := 107) dX12_slides_106 rfl (by decide) ?_
    refine Go_icmp_geY (tgt := 169) (pc' := 110) dX12_slides_107 (by decide) rfl (by first | exact ⟨i_lo _, i_hi _⟩ | omega) (by first | exact ⟨i_lo _, i_hi _⟩ | omega) (fun c107 => by exfalso; omega) (fun c107 => ?_)
    refine Go_iload (pc' := 112) dX12_slides_110 rfl rfl ?_
    refine Go_iload (pc' := 114) dX12_slides_112 rfl rfl ?_
    refine Go_isubZ (pc' := 115) dX12_slides_114 rfl ?_
    refine Go_bipush (v := iZ 8) (pc' := 117) dX12_slides_115 rfl (by decide) ?_
    refine Go_iaddZ (pc' := 118) dX12_slides_117 rfl ?_
    refine Go_iconst (v := iZ 4) (pc' := 119) dX12_slides_118 rfl (by decide) ?_
    refine Go_iremP (pc' := 120) dX12_slides_119 rfl (by omega) (by omega) ?_
    refine Go_iconst (v := iZ 2) (pc' := 121) dX12_slides_120 rfl (by decide) ?_
    refine Go_icmp_geY (tgt := 128) (pc' := 124) dX12_slides_121 (by decide) rfl (by first | exact ⟨i_lo _, i_hi _⟩ | omega) (by first | exact ⟨i_lo _, i_hi _⟩ | omega) (fun c121 => ?_) (fun c121 => ?_)
    · refine Go_iconst (v := iZ 0) (pc' := 129) dX12_slides_128 rfl (by decide) ?_
      refine Go_istore (pc' := 131) (lv' := [.ref _, .int _, .int _, .int _, .int _, .int _, .int _, .int _, .int _, .int _]) dX12_slides_129 rfl (Nat.le_of_ble_eq_true rfl) rfl rfl ?_
      refine Go_iload (pc' := 133) dX12_slides_131 rfl rfl ?_
      refine Go_aload_n (pc' := 134) dX12_slides_133 rfl rfl rfl ?_
      refine Go_getRs (pc' := 137) dX12_slides_134 rfl kf_RX12_111 (by decide) (by decide) rfl (I.S.b 99 rfl rfl) (I.S.o 99 rfl rfl rfl) (I.S.r 99 47 rfl rfl rfl) ?_
      refine Go_iload (pc' := 139) dX12_slides_137 rfl rfl ?_
      refine Go_ialoadZ (n := 96) (k := (6 * q + c)) (v := (iZ (vi h 130 (6 * q + c)).toInt)) (pc' := 140) dX12_slides_139 rfl (I.S.b 130 rfl rfl) (I.S.k 130 rfl rfl rfl) (by omega) (by omega) (by decide) (vi_eta _ _ _) ?_
      refine Go_iconst (v := iZ 1) (pc' := 141) dX12_slides_140 rfl (by decide) ?_
      refine Go_icmp_neY (tgt := 148) (pc' := 144) dX12_slides_141 (by decide) rfl (by first | exact ⟨i_lo _, i_hi _⟩ | omega) (by first | exact ⟨i_lo _, i_hi _⟩ | omega) (fun c141 => ?_) (fun c141 => ?_)
      · refine Go_iconst (v := iZ 0) (pc' := 149) dX12_slides_148 rfl (by decide) ?_
        refine Go_icmp_eqY (tgt := 163) (pc' := 152) dX12_slides_149 (by decide) rfl (by first | exact ⟨i_lo _, i_hi _⟩ | omega) (by first | exact ⟨i_lo _, i_hi _⟩ | omega) (fun c149 => ?_) (fun c149 => by exfalso; omega)
        refine Go_iincZ (pc' := 166) (lv' := [.ref _, .int _, .int _, .int _, .int _, .int _, .int _, .int _, .int _, .int _]) dX12_slides_163 rfl rfl (Nat.le_of_ble_eq_true rfl) rfl rfl ?_
        refine Go_goto (tgt := 104) dX12_slides_166 (by decide) ?_
        rw [sm_t (show upB t k = decide (0 < (vi h 130 (6 * q + c)).toInt) from by unfold upB; rw [decide_eq_decide]; omega)] at hk
        exact ih (k + 1) _ _ (by omega) hA hk
      · refine Go_iconst (v := iZ 1) (pc' := 145) dX12_slides_144 rfl (by decide) ?_
        refine Go_goto (tgt := 149) dX12_slides_145 (by decide) ?_
        refine Go_icmp_eqY (tgt := 163) (pc' := 152) dX12_slides_149 (by decide) rfl (by first | exact ⟨i_lo _, i_hi _⟩ | omega) (by first | exact ⟨i_lo _, i_hi _⟩ | omega) (fun c149 => by exfalso; omega) (fun c149 => ?_)
        refine Go_iload (pc' := 154) dX12_slides_152 rfl rfl ?_
        refine Go_iconst (v := iZ 1) (pc' := 155) dX12_slides_154 rfl (by decide) ?_
        refine Go_iload (pc' := 157) dX12_slides_155 rfl rfl ?_
        refine Go_ishl (pc' := 158) dX12_slides_157 rfl ?_
        refine Go_iconst (v := iZ (-1)) (pc' := 159) dX12_slides_158 rfl (by decide) ?_
        refine Go_ixor (pc' := 160) dX12_slides_159 rfl ?_
        refine Go_iand (pc' := 161) dX12_slides_160 rfl ?_
        rw [(clN' A hA k (by omega)).1]
        refine Go_istore (pc' := 163) (lv' := [.ref _, .int _, .int _, .int _, .int _, .int _, .int _, .int _, .int _, .int _]) dX12_slides_161 rfl (Nat.le_of_ble_eq_true rfl) rfl rfl ?_
        refine Go_iincZ (pc' := 166) (lv' := [.ref _, .int _, .int _, .int _, .int _, .int _, .int _, .int _, .int _, .int _]) dX12_slides_163 rfl rfl (Nat.le_of_ble_eq_true rfl) rfl rfl ?_
        refine Go_goto (tgt := 104) dX12_slides_166 (by decide) ?_
        rw [sm_f (show ¬ upB t k = decide (0 < (vi h 130 (6 * q + c)).toInt) from by unfold upB; rw [decide_eq_decide]; omega)] at hk
        exact ih (k + 1) _ _ (by omega) (clN' A hA k (by omega)).2 hk
    · refine Go_iconst (v := iZ 1) (pc' := 125) dX12_slides_124 rfl (by decide) ?_
      refine Go_goto (tgt := 129) dX12_slides_125 (by decide) ?_
      refine Go_istore (pc' := 131) (lv' := [.ref _, .int _, .int _, .int _, .int _, .int _, .int _, .int _, .int _, .int _]) dX12_slides_129 rfl (Nat.le_of_ble_eq_true rfl) rfl rfl ?_
      refine Go_iload (pc' := 133) dX12_slides_131 rfl rfl ?_
      refine Go_aload_n (pc' := 134) dX12_slides_133 rfl rfl rfl ?_
      refine Go_getRs (pc' := 137) dX12_slides_134 rfl kf_RX12_111 (by decide) (by decide) rfl (I.S.b 99 rfl rfl) (I.S.o 99 rfl rfl rfl) (I.S.r 99 47 rfl rfl rfl) ?_
      refine Go_iload (pc' := 139) dX12_slides_137 rfl rfl ?_
      refine Go_ialoadZ (n := 96) (k := (6 * q + c)) (v := (iZ (vi h 130 (6 * q + c)).toInt)) (pc' := 140) dX12_slides_139 rfl (I.S.b 130 rfl rfl) (I.S.k 130 rfl rfl rfl) (by omega) (by omega) (by decide) (vi_eta _ _ _) ?_
      refine Go_iconst (v := iZ 1) (pc' := 141) dX12_slides_140 rfl (by decide) ?_
      refine Go_icmp_neY (tgt := 148) (pc' := 144) dX12_slides_141 (by decide) rfl (by first | exact ⟨i_lo _, i_hi _⟩ | omega) (by first | exact ⟨i_lo _, i_hi _⟩ | omega) (fun c141 => ?_) (fun c141 => ?_)
      · refine Go_iconst (v := iZ 0) (pc' := 149) dX12_slides_148 rfl (by decide) ?_
        refine Go_icmp_eqY (tgt := 163) (pc' := 152) dX12_slides_149 (by decide) rfl (by first | exact ⟨i_lo _, i_hi _⟩ | omega) (by first | exact ⟨i_lo _, i_hi _⟩ | omega) (fun c149 => by exfalso; omega) (fun c149 => ?_)
        refine Go_iload (pc' := 154) dX12_slides_152 rfl rfl ?_
        refine Go_iconst (v := iZ 1) (pc' := 155) dX12_slides_154 rfl (by decide) ?_
        refine Go_iload (pc' := 157) dX12_slides_155 rfl rfl ?_
        refine Go_ishl (pc' := 158) dX12_slides_157 rfl ?_
        refine Go_iconst (v := iZ (-1)) (pc' := 159) dX12_slides_158 rfl (by decide) ?_
        refine Go_ixor (pc' := 160) dX12_slides_159 rfl ?_
        refine Go_iand (pc' := 161) dX12_slides_160 rfl ?_
        rw [(clN' A hA k (by omega)).1]
        refine Go_istore (pc' := 163) (lv' := [.ref _, .int _, .int _, .int _, .int _, .int _, .int _, .int _, .int _, .int _]) dX12_slides_161 rfl (Nat.le_of_ble_eq_true rfl) rfl rfl ?_
        refine Go_iincZ (pc' := 166) (lv' := [.ref _, .int _, .int _, .int _, .int _, .int _, .int _, .int _, .int _, .int _]) dX12_slides_163 rfl rfl (Nat.le_of_ble_eq_true rfl) rfl rfl ?_
        refine Go_goto (tgt := 104) dX12_slides_166 (by decide) ?_
        rw [sm_f (show ¬ upB t k = decide (0 < (vi h 130 (6 * q + c)).toInt) from by unfold upB; rw [decide_eq_decide]; omega)] at hk
        exact ih (k + 1) _ _ (by omega) (clN' A hA k (by omega)).2 hk
      · refine Go_iconst (v := iZ 1) (pc' := 145) dX12_slides_144 rfl (by decide) ?_
        refine Go_goto (tgt := 149) dX12_slides_145 (by decide) ?_
        refine Go_icmp_eqY (tgt := 163) (pc' := 152) dX12_slides_149 (by decide) rfl (by first | exact ⟨i_lo _, i_hi _⟩ | omega) (by first | exact ⟨i_lo _, i_hi _⟩ | omega) (fun c149 => ?_) (fun c149 => by exfalso; omega)
        refine Go_iincZ (pc' := 166) (lv' := [.ref _, .int _, .int _, .int _, .int _, .int _, .int _, .int _, .int _, .int _]) dX12_slides_163 rfl rfl (Nat.le_of_ble_eq_true rfl) rfl rfl ?_
        refine Go_goto (tgt := 104) dX12_slides_166 (by decide) ?_
        rw [sm_t (show upB t k = decide (0 < (vi h 130 (6 * q + c)).toInt) from by unfold upB; rw [decide_eq_decide]; omega)] at hk
        exact ih (k + 1) _ _ (by omega) hA hk
set_option maxRecDepth 20000 in
set_option maxHeartbeats 1000000 in
theorem soM_loop {G : GC} {d mc ms : Nat} {h : HS} {K : Option Value → HS → Prop} {q u nq nc : Nat} {x y : Int} (I : Inv h) (hnc : nc ≤ 6) (ec2 : vi h 64 2 = iZ (nc : Int)) (ec0 : vi h 99 0 = iZ (nc : Int)) (hq : q < nq) (hnq : nq ≤ 16) (QS : QkS h u) (RR : ∀ c, c < 6 → RdR h u q c) (hx : 0 ≤ x ∧ x ≤ 39) (hy : 0 ≤ y ∧ y ≤ 39) : ∀ (m c A : Nat) (v6 v7 v8 v9 : Value), c + m = nc → A < 16 → K (some (.int (iZ ((so (sx h q x y) m c A : Nat) : Int)))) h → Go G (d + 2) mc ms M_X12_slides 25 [.ref 99, .int (iZ (q : Int)), .int (iZ x), .int (iZ y), .int (iZ (A : Int)), .int (iZ (c : Int)), v6, v7, v8, v9] [] h K := by
  intro m
  induction m with
  | zero =>
    intro c A v6 v7 v8 v9 hm hA hk
    refine Go_iload (pc' := 27) dX12_slides_25 rfl rfl ?_
    refine Go_aload_n (pc' := 28) dX12_slides_27 rfl rfl rfl ?_
    refine Go_getIv (v := (iZ (nc : Int))) (pc' := 31) dX12_slides_28 rfl kf_RX12_151 (by decide) (by decide) rfl (I.S.b 99 rfl rfl) (I.S.o 99 rfl rfl rfl) (ec0) ?_
    refine Go_icmp_geY (tgt := 175) (pc' := 34) dX12_slides_31 (by decide) rfl (by first | exact ⟨i_lo _, i_hi _⟩ | omega) (by first | exact ⟨i_lo _, i_hi _⟩ | omega) (fun c31 => ?_) (fun c31 => by exfalso; omega)
    refine Go_iload (pc' := 177) dX12_slides_175 rfl rfl ?_
    refine Go_ireturn (ty := .int) dX12_slides_177 rfl rfl ?_
    exact hk
  | succ m ih =>
    intro c A v6 v7 v8 v9 hm hA hk
    obtain ⟨o, ho, CS, CV⟩ := cel_ex I hnc ec2 (c := c) (by omega)
    obtain ⟨xr, yr, ex, ey, exy⟩ := CV.1.xy
    have sr := sec_r (cX h c - x) (cY h c - y)
    rcases RR c (by omega) with ⟨hw, h0⟩ | ⟨w, hw, h0, RS, RV, -⟩
    · refine Go_iload (pc' := 27) dX12_slides_25 rfl rfl ?_
      refine Go_aload_n (pc' := 28) dX12_slides_27 rfl rfl rfl ?_
      refine Go_getIv (v := (iZ (nc : Int))) (pc' := 31) dX12_slides_28 rfl kf_RX12_151 (by decide) (by decide) rfl (I.S.b 99 rfl rfl) (I.S.o 99 rfl rfl rfl) (ec0) ?_
      refine Go_icmp_geY (tgt := 175) (pc' := 34) dX12_slides_31 (by decide) rfl (by first | exact ⟨i_lo _, i_hi _⟩ | omega) (by first | exact ⟨i_lo _, i_hi _⟩ | omega) (fun c31 => by exfalso; omega) (fun c31 => ?_)
      refine Go_bipush (v := iZ 6) (pc' := 36) dX12_slides_34 rfl (by decide) ?_
      refine Go_iload_n (pc' := 37) dX12_slides_36 rfl rfl rfl ?_
      refine Go_imulZ (pc' := 38) dX12_slides_37 rfl ?_
      refine Go_iload (pc' := 40) dX12_slides_38 rfl rfl ?_
      refine Go_iaddZ (pc' := 41) dX12_slides_40 rfl ?_
      refine Go_istore (pc' := 43) (lv' := [.ref _, .int _, .int _, .int _, .int _, .int _, .int _, _, _, _]) dX12_slides_41 rfl (Nat.le_of_ble_eq_true rfl) rfl rfl ?_
      refine Go_aload_n (pc' := 44) dX12_slides_43 rfl rfl rfl ?_
      refine Go_getRs (pc' := 47) dX12_slides_44 rfl kf_RX12_7 (by decide) (by decide) rfl (I.S.b 99 rfl rfl) (I.S.o 99 rfl rfl rfl) (I.S.r 99 1 rfl rfl rfl) ?_
      refine Go_iload (pc' := 49) dX12_slides_47 rfl rfl ?_
      refine Go_ialoadZ (n := 6) (k := c) (v := (iZ (40 * cY h c + cX h c))) (pc' := 50) dX12_slides_49 rfl (I.S.b 100 rfl rfl) (I.S.k 100 rfl rfl rfl) rfl (by omega) (by decide) (exy) ?_
      refine Go_bipush (v := iZ 40) (pc' := 52) dX12_slides_50 rfl (by decide) ?_
      refine Go_iremP (pc' := 53) dX12_slides_52 rfl (by omega) (by omega) ?_
      refine Go_iload_n (pc' := 54) dX12_slides_53 rfl rfl rfl ?_
      refine Go_isubZ (pc' := 55) dX12_slides_54 rfl ?_
      refine Go_aload_n (pc' := 56) dX12_slides_55 rfl rfl rfl ?_
      refine Go_getRs (pc' := 59) dX12_slides_56 rfl kf_RX12_7 (by decide) (by decide) rfl (I.S.b 99 rfl rfl) (I.S.o 99 rfl rfl rfl) (I.S.r 99 1 rfl rfl rfl) ?_
      refine Go_iload (pc' := 61) dX12_slides_59 rfl rfl ?_
      refine Go_ialoadZ (n := 6) (k := c) (v := (iZ (40 * cY h c + cX h c))) (pc' := 62) dX12_slides_61 rfl (I.S.b 100 rfl rfl) (I.S.k 100 rfl rfl rfl) rfl (by omega) (by decide) (exy) ?_
      refine Go_bipush (v := iZ 40) (pc' := 64) dX12_slides_62 rfl (by decide) ?_
      refine Go_idivP (pc' := 65) dX12_slides_64 rfl (by omega) (by omega) ?_
      refine Go_iload_n (pc' := 66) dX12_slides_65 rfl rfl rfl ?_
      refine Go_isubZ (pc' := 67) dX12_slides_66 rfl ?_
      refine Go_callS_i (pc' := 70) (As := [.int _, .int _]) (st := []) dX12_slides_67 rfl ok_X12_sector km_RX12_359 rfl (Nat.le_of_ble_eq_true rfl) rfl rfl rfl (Nat.le_of_ble_eq_true rfl) (Nat.lt_succ_self _) ?_
      refine s_secM (by omega) (by omega) ?_
      rw [show (40 * cY h c + cX h c) % 40 - x = cX h c - x by omega, show (40 * cY h c + cX h c) / 40 - y = cY h c - y by omega]
      refine ⟨_, rfl, ?_⟩
      refine Go_istore (pc' := 72) (lv' := [.ref _, .int _, .int _, .int _, .int _, .int _, .int _, .int _, _, _]) dX12_slides_70 rfl (Nat.le_of_ble_eq_true rfl) rfl rfl ?_
      refine Go_aload_n (pc' := 73) dX12_slides_72 rfl rfl rfl ?_
      refine Go_getRs (pc' := 76) dX12_slides_73 rfl kf_RX12_92 (by decide) (by decide) rfl (I.S.b 99 rfl rfl) (I.S.o 99 rfl rfl rfl) (I.S.r 99 41 rfl rfl rfl) ?_
      refine Go_iload (pc' := 78) dX12_slides_76 rfl rfl ?_
      refine Go_baloadZ (n := 96) (k := (6 * q + c)) (v := (iZ 0)) (pc' := 79) dX12_slides_78 rfl (I.S.b 124 rfl rfl) (I.S.k 124 rfl rfl rfl) (by omega) (by omega) (by decide) (h0) ?_
      refine Go_if_eqY (tgt := 169) (pc' := 82) dX12_slides_79 (by decide) rfl (by first | exact ⟨i_lo _, i_hi _⟩ | omega) (fun c79 => ?_) (fun c79 => by exfalso; omega)
      refine Go_iincZ (pc' := 172) (lv' := [.ref _, .int _, .int _, .int _, .int _, .int _, .int _, .int _, _, _]) dX12_slides_169 rfl rfl (Nat.le_of_ble_eq_true rfl) rfl rfl ?_
      refine Go_goto (tgt := 25) dX12_slides_172 (by decide) ?_
      refine ih (c + 1) A _ _ _ _ (by omega) hA ?_
      have hk : K (some (.int (iZ ((so (sx h q x y) m (c + 1) (sx h q x y c A) : Nat) : Int)))) h := hk
      rw [sx_n (Or.inl h0)] at hk; exact hk
    · have hw0 := RS.1
      have bt := RV.2.2.2.1.2
      rw [RV.2.2.2.1.1] at bt
      unfold rg at bt
      have sr := sec_r (cX h c - x) (cY h c - y)
      by_cases e2 : sec (cX h c - x) (cY h c - y) = -1
      · refine Go_iload (pc' := 27) dX12_slides_25 rfl rfl ?_
        refine Go_aload_n (pc' := 28) dX12_slides_27 rfl rfl rfl ?_
        refine Go_getIv (v := (iZ (nc : Int))) (pc' := 31) dX12_slides_28 rfl kf_RX12_151 (by decide) (by decide) rfl (I.S.b 99 rfl rfl) (I.S.o 99 rfl rfl rfl) (ec0) ?_
        refine Go_icmp_geY (tgt := 175) (pc' := 34) dX12_slides_31 (by decide) rfl (by first | exact ⟨i_lo _, i_hi _⟩ | omega) (by first | exact ⟨i_lo _, i_hi _⟩ | omega) (fun c31 => by exfalso; omega) (fun c31 => ?_)
        refine Go_bipush (v := iZ 6) (pc' := 36) dX12_slides_34 rfl (by decide) ?_
        refine Go_iload_n (pc' := 37) dX12_slides_36 rfl rfl rfl ?_
        refine Go_imulZ (pc' := 38) dX12_slides_37 rfl ?_
        refine Go_iload (pc' := 40) dX12_slides_38 rfl rfl ?_
        refine Go_iaddZ (pc' := 41) dX12_slides_40 rfl ?_
        refine Go_istore (pc' := 43) (lv' := [.ref _, .int _, .int _, .int _, .int _, .int _, .int _, _, _, _]) dX12_slides_41 rfl (Nat.le_of_ble_eq_true rfl) rfl rfl ?_
        refine Go_aload_n (pc' := 44) dX12_slides_43 rfl rfl rfl ?_
        refine Go_getRs (pc' := 47) dX12_slides_44 rfl kf_RX12_7 (by decide) (by decide) rfl (I.S.b 99 rfl rfl) (I.S.o 99 rfl rfl rfl) (I.S.r 99 1 rfl rfl rfl) ?_
        refine Go_iload (pc' := 49) dX12_slides_47 rfl rfl ?_
        refine Go_ialoadZ (n := 6) (k := c) (v := (iZ (40 * cY h c + cX h c))) (pc' := 50) dX12_slides_49 rfl (I.S.b 100 rfl rfl) (I.S.k 100 rfl rfl rfl) rfl (by omega) (by decide) (exy) ?_
        refine Go_bipush (v := iZ 40) (pc' := 52) dX12_slides_50 rfl (by decide) ?_
        refine Go_iremP (pc' := 53) dX12_slides_52 rfl (by omega) (by omega) ?_
        refine Go_iload_n (pc' := 54) dX12_slides_53 rfl rfl rfl ?_
        refine Go_isubZ (pc' := 55) dX12_slides_54 rfl ?_
        refine Go_aload_n (pc' := 56) dX12_slides_55 rfl rfl rfl ?_
        refine Go_getRs (pc' := 59) dX12_slides_56 rfl kf_RX12_7 (by decide) (by decide) rfl (I.S.b 99 rfl rfl) (I.S.o 99 rfl rfl rfl) (I.S.r 99 1 rfl rfl rfl) ?_
        refine Go_iload (pc' := 61) dX12_slides_59 rfl rfl ?_
        refine Go_ialoadZ (n := 6) (k := c) (v := (iZ (40 * cY h c + cX h c))) (pc' := 62) dX12_slides_61 rfl (I.S.b 100 rfl rfl) (I.S.k 100 rfl rfl rfl) rfl (by omega) (by decide) (exy) ?_
        refine Go_bipush (v := iZ 40) (pc' := 64) dX12_slides_62 rfl (by decide) ?_
        refine Go_idivP (pc' := 65) dX12_slides_64 rfl (by omega) (by omega) ?_
        refine Go_iload_n (pc' := 66) dX12_slides_65 rfl rfl rfl ?_
        refine Go_isubZ (pc' := 67) dX12_slides_66 rfl ?_
        refine Go_callS_i (pc' := 70) (As := [.int _, .int _]) (st := []) dX12_slides_67 rfl ok_X12_sector km_RX12_359 rfl (Nat.le_of_ble_eq_true rfl) rfl rfl rfl (Nat.le_of_ble_eq_true rfl) (Nat.lt_succ_self _) ?_
        refine s_secM (by omega) (by omega) ?_
        rw [show (40 * cY h c + cX h c) % 40 - x = cX h c - x by omega, show (40 * cY h c + cX h c) / 40 - y = cY h c - y by omega]
        rw [e2]
        refine ⟨_, rfl, ?_⟩
        refine Go_istore (pc' := 72) (lv' := [.ref _, .int _, .int _, .int _, .int _, .int _, .int _, .int _, _, _]) dX12_slides_70 rfl (Nat.le_of_ble_eq_true rfl) rfl rfl ?_
        refine Go_aload_n (pc' := 73) dX12_slides_72 rfl rfl rfl ?_
        refine Go_getRs (pc' := 76) dX12_slides_73 rfl kf_RX12_92 (by decide) (by decide) rfl (I.S.b 99 rfl rfl) (I.S.o 99 rfl rfl rfl) (I.S.r 99 41 rfl rfl rfl) ?_
        refine Go_iload (pc' := 78) dX12_slides_76 rfl rfl ?_
        refine Go_baloadZ (n := 96) (k := (6 * q + c)) (v := (iZ 1)) (pc' := 79) dX12_slides_78 rfl (I.S.b 124 rfl rfl) (I.S.k 124 rfl rfl rfl) (by omega) (by omega) (by decide) (h0) ?_
        refine Go_if_eqY (tgt := 169) (pc' := 82) dX12_slides_79 (by decide) rfl (by first | exact ⟨i_lo _, i_hi _⟩ | omega) (fun c79 => by exfalso; omega) (fun c79 => ?_)
        refine Go_aload_n (pc' := 83) dX12_slides_82 rfl rfl rfl ?_
        refine Go_getRs (pc' := 86) dX12_slides_83 rfl kf_RX12_111 (by decide) (by decide) rfl (I.S.b 99 rfl rfl) (I.S.o 99 rfl rfl rfl) (I.S.r 99 47 rfl rfl rfl) ?_
        refine Go_iload (pc' := 88) dX12_slides_86 rfl rfl ?_
        refine Go_ialoadZ (n := 96) (k := (6 * q + c)) (v := (iZ (vi h 130 (6 * q + c)).toInt)) (pc' := 89) dX12_slides_88 rfl (I.S.b 130 rfl rfl) (I.S.k 130 rfl rfl rfl) (by omega) (by omega) (by decide) (vi_eta _ _ _) ?_
        refine Go_if_eqY (tgt := 169) (pc' := 92) dX12_slides_89 (by decide) rfl (by first | exact ⟨i_lo _, i_hi _⟩ | omega) (fun c89 => ?_) (fun c89 => ?_)
        · refine Go_iincZ (pc' := 172) (lv' := [.ref _, .int _, .int _, .int _, .int _, .int _, .int _, .int _, _, _]) dX12_slides_169 rfl rfl (Nat.le_of_ble_eq_true rfl) rfl rfl ?_
          refine Go_goto (tgt := 25) dX12_slides_172 (by decide) ?_
          refine ih (c + 1) A _ _ _ _ (by omega) hA ?_
          have hk : K (some (.int (iZ ((so (sx h q x y) m (c + 1) (sx h q x y c A) : Nat) : Int)))) h := hk
          rw [sx_n (Or.inr (Or.inl (by omega)))] at hk; exact hk
        · refine Go_iload (pc' := 94) dX12_slides_92 rfl rfl ?_
          refine Go_iconst (v := iZ (-1)) (pc' := 95) dX12_slides_94 rfl (by decide) ?_
          refine Go_icmp_neY (tgt := 101) (pc' := 98) dX12_slides_95 (by decide) rfl (by first | exact ⟨i_lo _, i_hi _⟩ | omega) (by first | exact ⟨i_lo _, i_hi _⟩ | omega) (fun c95 => by exfalso; omega) (fun c95 => ?_)
          refine Go_goto (tgt := 169) dX12_slides_98 (by decide) ?_
          refine Go_iincZ (pc' := 172) (lv' := [.ref _, .int _, .int _, .int _, .int _, .int _, .int _, .int _, _, _]) dX12_slides_169 rfl rfl (Nat.le_of_ble_eq_true rfl) rfl rfl ?_
          refine Go_goto (tgt := 25) dX12_slides_172 (by decide) ?_
          refine ih (c + 1) A _ _ _ _ (by omega) hA ?_
          have hk : K (some (.int (iZ ((so (sx h q x y) m (c + 1) (sx h q x y c A) : Nat) : Int)))) h := hk
          rw [sx_n (Or.inr (Or.inr e2))] at hk; exact hk
      · obtain ⟨t, ht, et⟩ : ∃ t : Nat, t < 8 ∧ sec (cX h c - x) (cY h c - y) = (t : Int) := ⟨(sec (cX h c - x) (cY h c - y)).toNat, by omega, by omega⟩
        refine Go_iload (pc' := 27) dX12_slides_25 rfl rfl ?_
        refine Go_aload_n (pc' := 28) dX12_slides_27 rfl rfl rfl ?_
        refine Go_getIv (v := (iZ (nc : Int))) (pc' := 31) dX12_slides_28 rfl kf_RX12_151 (by decide) (by decide) rfl (I.S.b 99 rfl rfl) (I.S.o 99 rfl rfl rfl) (ec0) ?_
        refine Go_icmp_geY (tgt := 175) (pc' := 34) dX12_slides_31 (by decide) rfl (by first | exact ⟨i_lo _, i_hi _⟩ | omega) (by first | exact ⟨i_lo _, i_hi _⟩ | omega) (fun c31 => by exfalso; omega) (fun c31 => ?_)
        refine Go_bipush (v := iZ 6) (pc' := 36) dX12_slides_34 rfl (by decide) ?_
        refine Go_iload_n (pc' := 37) dX12_slides_36 rfl rfl rfl ?_
        refine Go_imulZ (pc' := 38) dX12_slides_37 rfl ?_
        refine Go_iload (pc' := 40) dX12_slides_38 rfl rfl ?_
        refine Go_iaddZ (pc' := 41) dX12_slides_40 rfl ?_
        refine Go_istore (pc' := 43) (lv' := [.ref _, .int _, .int _, .int _, .int _, .int _, .int _, _, _, _]) dX12_slides_41 rfl (Nat.le_of_ble_eq_true rfl) rfl rfl ?_
        refine Go_aload_n (pc' := 44) dX12_slides_43 rfl rfl rfl ?_
        refine Go_getRs (pc' := 47) dX12_slides_44 rfl kf_RX12_7 (by decide) (by decide) rfl (I.S.b 99 rfl rfl) (I.S.o 99 rfl rfl rfl) (I.S.r 99 1 rfl rfl rfl) ?_
        refine Go_iload (pc' := 49) dX12_slides_47 rfl rfl ?_
        refine Go_ialoadZ (n := 6) (k := c) (v := (iZ (40 * cY h c + cX h c))) (pc' := 50) dX12_slides_49 rfl (I.S.b 100 rfl rfl) (I.S.k 100 rfl rfl rfl) rfl (by omega) (by decide) (exy) ?_
        refine Go_bipush (v := iZ 40) (pc' := 52) dX12_slides_50 rfl (by decide) ?_
        refine Go_iremP (pc' := 53) dX12_slides_52 rfl (by omega) (by omega) ?_
        refine Go_iload_n (pc' := 54) dX12_slides_53 rfl rfl rfl ?_
        refine Go_isubZ (pc' := 55) dX12_slides_54 rfl ?_
        refine Go_aload_n (pc' := 56) dX12_slides_55 rfl rfl rfl ?_
        refine Go_getRs (pc' := 59) dX12_slides_56 rfl kf_RX12_7 (by decide) (by decide) rfl (I.S.b 99 rfl rfl) (I.S.o 99 rfl rfl rfl) (I.S.r 99 1 rfl rfl rfl) ?_
        refine Go_iload (pc' := 61) dX12_slides_59 rfl rfl ?_
        refine Go_ialoadZ (n := 6) (k := c) (v := (iZ (40 * cY h c + cX h c))) (pc' := 62) dX12_slides_61 rfl (I.S.b 100 rfl rfl) (I.S.k 100 rfl rfl rfl) rfl (by omega) (by decide) (exy) ?_
        refine Go_bipush (v := iZ 40) (pc' := 64) dX12_slides_62 rfl (by decide) ?_
        refine Go_idivP (pc' := 65) dX12_slides_64 rfl (by omega) (by omega) ?_
        refine Go_iload_n (pc' := 66) dX12_slides_65 rfl rfl rfl ?_
        refine Go_isubZ (pc' := 67) dX12_slides_66 rfl ?_
        refine Go_callS_i (pc' := 70) (As := [.int _, .int _]) (st := []) dX12_slides_67 rfl ok_X12_sector km_RX12_359 rfl (Nat.le_of_ble_eq_true rfl) rfl rfl rfl (Nat.le_of_ble_eq_true rfl) (Nat.lt_succ_self _) ?_
        refine s_secM (by omega) (by omega) ?_
        rw [show (40 * cY h c + cX h c) % 40 - x = cX h c - x by omega, show (40 * cY h c + cX h c) / 40 - y = cY h c - y by omega]
        rw [et]
        refine ⟨_, rfl, ?_⟩
        refine Go_istore (pc' := 72) (lv' := [.ref _, .int _, .int _, .int _, .int _, .int _, .int _, .int _, _, _]) dX12_slides_70 rfl (Nat.le_of_ble_eq_true rfl) rfl rfl ?_
        refine Go_aload_n (pc' := 73) dX12_slides_72 rfl rfl rfl ?_
        refine Go_getRs (pc' := 76) dX12_slides_73 rfl kf_RX12_92 (by decide) (by decide) rfl (I.S.b 99 rfl rfl) (I.S.o 99 rfl rfl rfl) (I.S.r 99 41 rfl rfl rfl) ?_
        refine Go_iload (pc' := 78) dX12_slides_76 rfl rfl ?_
        refine Go_baloadZ (n := 96) (k := (6 * q + c)) (v := (iZ 1)) (pc' := 79) dX12_slides_78 rfl (I.S.b 124 rfl rfl) (I.S.k 124 rfl rfl rfl) (by omega) (by omega) (by decide) (h0) ?_
        refine Go_if_eqY (tgt := 169) (pc' := 82) dX12_slides_79 (by decide) rfl (by first | exact ⟨i_lo _, i_hi _⟩ | omega) (fun c79 => by exfalso; omega) (fun c79 => ?_)
        refine Go_aload_n (pc' := 83) dX12_slides_82 rfl rfl rfl ?_
        refine Go_getRs (pc' := 86) dX12_slides_83 rfl kf_RX12_111 (by decide) (by decide) rfl (I.S.b 99 rfl rfl) (I.S.o 99 rfl rfl rfl) (I.S.r 99 47 rfl rfl rfl) ?_
        refine Go_iload (pc' := 88) dX12_slides_86 rfl rfl ?_
        refine Go_ialoadZ (n := 96) (k := (6 * q + c)) (v := (iZ (vi h 130 (6 * q + c)).toInt)) (pc' := 89) dX12_slides_88 rfl (I.S.b 130 rfl rfl) (I.S.k 130 rfl rfl rfl) (by omega) (by omega) (by decide) (vi_eta _ _ _) ?_
        refine Go_if_eqY (tgt := 169) (pc' := 92) dX12_slides_89 (by decide) rfl (by first | exact ⟨i_lo _, i_hi _⟩ | omega) (fun c89 => ?_) (fun c89 => ?_)
        · refine Go_iincZ (pc' := 172) (lv' := [.ref _, .int _, .int _, .int _, .int _, .int _, .int _, .int _, _, _]) dX12_slides_169 rfl rfl (Nat.le_of_ble_eq_true rfl) rfl rfl ?_
          refine Go_goto (tgt := 25) dX12_slides_172 (by decide) ?_
          refine ih (c + 1) A _ _ _ _ (by omega) hA ?_
          have hk : K (some (.int (iZ ((so (sx h q x y) m (c + 1) (sx h q x y c A) : Nat) : Int)))) h := hk
          rw [sx_n (Or.inr (Or.inl (by omega)))] at hk; exact hk
        · refine Go_iload (pc' := 94) dX12_slides_92 rfl rfl ?_
          refine Go_iconst (v := iZ (-1)) (pc' := 95) dX12_slides_94 rfl (by decide) ?_
          refine Go_icmp_neY (tgt := 101) (pc' := 98) dX12_slides_95 (by decide) rfl (by first | exact ⟨i_lo _, i_hi _⟩ | omega) (by first | exact ⟨i_lo _, i_hi _⟩ | omega) (fun c95 => ?_) (fun c95 => by exfalso; omega)
          refine Go_iconst (v := iZ 0) (pc' := 102) dX12_slides_101 rfl (by decide) ?_
          refine Go_istore (pc' := 104) (lv' := [.ref _, .int _, .int _, .int _, .int _, .int _, .int _, .int _, .int _, _]) dX12_slides_102 rfl (Nat.le_of_ble_eq_true rfl) rfl rfl ?_
          have z3 := (slm t ht (decide (0 < (vi h 130 (6 * q + c)).toInt)) A hA).2.2
          refine smi_loop I (by omega) (by omega) ht (by omega) 4 0 A _ rfl hA (fun v8 v9 => ?_)
          refine Go_iincZ (pc' := 172) (lv' := [.ref _, .int _, .int _, .int _, .int _, .int _, .int _, .int _, _, _]) dX12_slides_169 rfl rfl (Nat.le_of_ble_eq_true rfl) rfl rfl ?_
          refine Go_goto (tgt := 25) dX12_slides_172 (by decide) ?_
          refine ih (c + 1) _ _ _ _ _ (by omega) z3 ?_
          have hk : K (some (.int (iZ ((so (sx h q x y) m (c + 1) (sx h q x y c A) : Nat) : Int)))) h := hk
          rw [sx_s h0 (by omega) e2, et, Int.toNat_natCast] at hk; exact hk
set_option maxRecDepth 20000 in
set_option maxHeartbeats 1000000 in
theorem pair26 {G : GC} (a b c : Int32) : PairI G M_X11_slides M_X12_slides [.int a, .int b, .int c] := by
  intro h I
  obtain ⟨Az, hva, rfl⟩ := i_eta a
  obtain ⟨Bz, hvb, rfl⟩ := i_eta b
  obtain ⟨Cz, hvc, rfl⟩ := i_eta c
  obtain ⟨nq, hnq, eq7⟩ := of_rgZ (b := 16) I.Q.1.2
  have eq38 : vi h 99 38 = iZ (nq : Int) := I.Q.1.1.trans eq7
  obtain ⟨nc, hnc, ec2⟩ := of_rgZ (b := 6) I.C.1.2
  have ec0 : vi h 99 0 = iZ (nc : Int) := I.C.1.1.trans ec2
  rcases qk_cases I hnq eq7 Az with hq0 | ⟨q, u, rfl, hq, hu, QS, PV, RR⟩
  · refine PairI.ro' (fun _ => iZ (-1)) h I (fun K k => ?_) (fun K k => ?_)
    · show Go G 60 0 0 M_X11_slides 0 [.ref 64, .int (iZ Az), .int (iZ Bz), .int (iZ Cz), un, un, un, un, un] [] h K
      refine Go_aload_n (pc' := 1) dX11_slides_0 rfl rfl rfl ?_
      refine Go_iload_n (pc' := 2) dX11_slides_1 rfl rfl rfl ?_
      refine Go_callV_r (pc' := 5) (As := [.int _]) (st := []) dX11_slides_2 rfl ok_X11_quakeOf km_RX11_230 (I.S.o 64 rfl rfl rfl) (I.S.b 64 rfl rfl) ⟨_, _, rfl⟩ rfl (Nat.le_of_ble_eq_true rfl) rfl rfl rfl (Nat.le_of_ble_eq_true rfl) (Nat.lt_succ_self _) ?_
      refine Go_iload_n (pc' := 1) dX11_quakeOf_0 rfl rfl rfl ?_
      refine Go_iconst (v := iZ 0) (pc' := 2) dX11_quakeOf_1 rfl (by decide) ?_
      refine Go_aload_n (pc' := 3) dX11_quakeOf_2 rfl rfl rfl ?_
      refine Go_getIv (v := (iZ (nq : Int))) (pc' := 6) dX11_quakeOf_3 rfl kf_RX11_226 (by decide) (by decide) rfl (I.S.b 64 rfl rfl) (I.S.o 64 rfl rfl rfl) (eq7) ?_
      refine Go_iconst (v := iZ 1) (pc' := 7) dX11_quakeOf_6 rfl (by decide) ?_
      refine Go_isubZ (pc' := 8) dX11_quakeOf_7 rfl ?_
      refine Go_callS_i (pc' := 11) (As := [.int _, .int _, .int _]) (st := []) dX11_quakeOf_8 rfl ok_X11_within km_RX11_94 rfl (Nat.le_of_ble_eq_true rfl) rfl rfl rfl (Nat.le_of_ble_eq_true rfl) (Nat.lt_succ_self _) ?_
      refine s_withinY (by first | exact ⟨i_lo _, i_hi _⟩ | omega) (by first | exact ⟨i_lo _, i_hi _⟩ | omega) (by first | exact ⟨i_lo _, i_hi _⟩ | omega) ?_
      refine ⟨_, rfl, ?_⟩
      refine Go_if_eqb (tgt := 32) (pc' := 14) dX11_quakeOf_11 (by decide) rfl (fun q11 => ?_) (fun q11 => by exfalso; omega)
      refine Go_null (pc' := 33) dX11_quakeOf_32 rfl ?_
      refine Go_areturn (r := none) dX11_quakeOf_33 rfl ?_
      refine ⟨none, rfl, ?_⟩
      refine Go_astoreN (pc' := 7) (lv' := [.ref _, .int _, .int _, .int _, .null, un, un, un, un]) dX11_slides_5 rfl (Nat.le_of_ble_eq_true rfl) rfl rfl ?_
      refine Go_aloadN (pc' := 9) dX11_slides_7 rfl rfl ?_
      refine Go_ifnullN (tgt := 20) dX11_slides_9 (by decide) ?_
      refine Go_iconst (v := iZ (-1)) (pc' := 21) dX11_slides_20 rfl (by decide) ?_
      refine Go_ireturn (ty := .int) dX11_slides_21 rfl rfl ?_
      exact k
    · show Go G 60 0 0 M_X12_slides 0 [.ref 99, .int (iZ Az), .int (iZ Bz), .int (iZ Cz), un, un, un, un, un, un] [] h K
      refine Go_aload_n (pc' := 1) dX12_slides_0 rfl rfl rfl ?_
      refine Go_iload_n (pc' := 2) dX12_slides_1 rfl rfl rfl ?_
      refine Go_callV_i (pc' := 5) (As := [.int _]) (st := []) dX12_slides_2 rfl ok_X12_isQuake km_RX12_340 (I.S.o 99 rfl rfl rfl) (I.S.b 99 rfl rfl) ⟨_, _, rfl⟩ rfl (Nat.le_of_ble_eq_true rfl) rfl rfl rfl (Nat.le_of_ble_eq_true rfl) (Nat.lt_succ_self _) ?_
      refine Go_iload_n (pc' := 1) dX12_isQuake_0 rfl rfl rfl ?_
      refine Go_iconst (v := iZ 0) (pc' := 2) dX12_isQuake_1 rfl (by decide) ?_
      refine Go_aload_n (pc' := 3) dX12_isQuake_2 rfl rfl rfl ?_
      refine Go_getIv (v := (iZ (nq : Int))) (pc' := 6) dX12_isQuake_3 rfl kf_RX12_336 (by decide) (by decide) rfl (I.S.b 99 rfl rfl) (I.S.o 99 rfl rfl rfl) (eq38) ?_
      refine Go_iconst (v := iZ 1) (pc' := 7) dX12_isQuake_6 rfl (by decide) ?_
      refine Go_isubZ (pc' := 8) dX12_isQuake_7 rfl ?_
      refine Go_callS_i (pc' := 11) (As := [.int _, .int _, .int _]) (st := []) dX12_isQuake_8 rfl ok_X12_isIn km_RX12_147 rfl (Nat.le_of_ble_eq_true rfl) rfl rfl rfl (Nat.le_of_ble_eq_true rfl) (Nat.lt_succ_self _) ?_
      refine s_isInY (by first | exact ⟨i_lo _, i_hi _⟩ | omega) (by first | exact ⟨i_lo _, i_hi _⟩ | omega) (by first | exact ⟨i_lo _, i_hi _⟩ | omega) ?_
      refine ⟨_, rfl, ?_⟩
      refine Go_ireturn (ty := .boolean) dX12_isQuake_11 rfl b2i_nb ?_
      refine ⟨_, rfl, ?_⟩
      refine Go_if_eqb (tgt := 16) (pc' := 8) dX12_slides_5 (by decide) rfl (fun c5 => ?_) (fun c5 => by exfalso; omega)
      refine Go_iconst (v := iZ (-1)) (pc' := 17) dX12_slides_16 rfl (by decide) ?_
      refine Go_ireturn (ty := .int) dX12_slides_17 rfl rfl ?_
      exact k
  · by_cases hxy : (0 ≤ Bz ∧ Bz ≤ 39) ∧ (0 ≤ Cz ∧ Cz ≤ 39)
    · refine PairI.ro' (fun _ => iZ ((so (sx h q Bz Cz) nc 0 15 : Nat) : Int)) h I (fun K k => ?_) (fun K k => ?_)
      · show Go G 60 0 0 M_X11_slides 0 [.ref 64, .int (iZ (q : Int)), .int (iZ Bz), .int (iZ Cz), un, un, un, un, un] [] h K
        refine Go_aload_n (pc' := 1) dX11_slides_0 rfl rfl rfl ?_
        refine Go_iload_n (pc' := 2) dX11_slides_1 rfl rfl rfl ?_
        refine Go_callV_r (pc' := 5) (As := [.int _]) (st := []) dX11_slides_2 rfl ok_X11_quakeOf km_RX11_230 (I.S.o 64 rfl rfl rfl) (I.S.b 64 rfl rfl) ⟨_, _, rfl⟩ rfl (Nat.le_of_ble_eq_true rfl) rfl rfl rfl (Nat.le_of_ble_eq_true rfl) (Nat.lt_succ_self _) ?_
        refine Go_iload_n (pc' := 1) dX11_quakeOf_0 rfl rfl rfl ?_
        refine Go_iconst (v := iZ 0) (pc' := 2) dX11_quakeOf_1 rfl (by decide) ?_
        refine Go_aload_n (pc' := 3) dX11_quakeOf_2 rfl rfl rfl ?_
        refine Go_getIv (v := (iZ (nq : Int))) (pc' := 6) dX11_quakeOf_3 rfl kf_RX11_226 (by decide) (by decide) rfl (I.S.b 64 rfl rfl) (I.S.o 64 rfl rfl rfl) (eq7) ?_
        refine Go_iconst (v := iZ 1) (pc' := 7) dX11_quakeOf_6 rfl (by decide) ?_
        refine Go_isubZ (pc' := 8) dX11_quakeOf_7 rfl ?_
        refine Go_callS_i (pc' := 11) (As := [.int _, .int _, .int _]) (st := []) dX11_quakeOf_8 rfl ok_X11_within km_RX11_94 rfl (Nat.le_of_ble_eq_true rfl) rfl rfl rfl (Nat.le_of_ble_eq_true rfl) (Nat.lt_succ_self _) ?_
        refine s_withinY (by first | exact ⟨i_lo _, i_hi _⟩ | omega) (by first | exact ⟨i_lo _, i_hi _⟩ | omega) (by first | exact ⟨i_lo _, i_hi _⟩ | omega) ?_
        refine ⟨_, rfl, ?_⟩
        refine Go_if_eqb (tgt := 32) (pc' := 14) dX11_quakeOf_11 (by decide) rfl (fun q11 => by exfalso; omega) (fun q11 => ?_)
        refine Go_iload_n (pc' := 15) dX11_quakeOf_14 rfl rfl rfl ?_
        refine Go_aload_n (pc' := 16) dX11_quakeOf_15 rfl rfl rfl ?_
        refine Go_getRs (pc' := 19) dX11_quakeOf_16 rfl kf_RX11_45 (by decide) (by decide) rfl (I.S.b 64 rfl rfl) (I.S.o 64 rfl rfl rfl) (I.S.r 64 6 rfl rfl rfl) ?_
        refine Go_alenZ (n := 16) (pc' := 20) dX11_quakeOf_19 rfl (I.S.b 80 rfl rfl) (I.S.k 80 rfl rfl rfl) (Or.inr (Or.inr ⟨_, rfl⟩)) ?_
        refine Go_icmp_geY (tgt := 32) (pc' := 23) dX11_quakeOf_20 (by decide) rfl (by first | exact ⟨i_lo _, i_hi _⟩ | omega) (by first | exact ⟨i_lo _, i_hi _⟩ | omega) (fun q20 => by exfalso; omega) (fun q20 => ?_)
        refine Go_aload_n (pc' := 24) dX11_quakeOf_23 rfl rfl rfl ?_
        refine Go_getRs (pc' := 27) dX11_quakeOf_24 rfl kf_RX11_45 (by decide) (by decide) rfl (I.S.b 64 rfl rfl) (I.S.o 64 rfl rfl rfl) (I.S.r 64 6 rfl rfl rfl) ?_
        refine Go_iload_n (pc' := 28) dX11_quakeOf_27 rfl rfl rfl ?_
        refine Go_aaloadZ (n := 16) (k := q) (pc' := 29) dX11_quakeOf_28 rfl (I.S.b 80 rfl rfl) (I.S.k 80 rfl rfl rfl) rfl rfl (by omega) (by decide) hu ?_
        refine Go_goto (tgt := 33) dX11_quakeOf_29 (by decide) ?_
        refine Go_areturn (r := some _) dX11_quakeOf_33 rfl ?_
        refine ⟨some _, rfl, ?_⟩
        refine Go_astore (pc' := 7) (lv' := [.ref _, .int _, .int _, .int _, .ref _, un, un, un, un]) dX11_slides_5 rfl (Nat.le_of_ble_eq_true rfl) rfl rfl ?_
        refine Go_aload (pc' := 9) dX11_slides_7 rfl rfl ?_
        refine Go_ifnull (pc' := 12) dX11_slides_9 rfl ?_
        refine Go_iload_n (pc' := 13) dX11_slides_12 rfl rfl rfl ?_
        refine Go_iload_n (pc' := 14) dX11_slides_13 rfl rfl rfl ?_
        refine Go_callS_i (pc' := 17) (As := [.int _, .int _]) (st := []) dX11_slides_14 rfl ok_X11_isCell km_RX11_80 rfl (Nat.le_of_ble_eq_true rfl) rfl rfl rfl (Nat.le_of_ble_eq_true rfl) (Nat.lt_succ_self _) ?_
        refine s_isCellY (by first | exact ⟨i_lo _, i_hi _⟩ | omega) (by first | exact ⟨i_lo _, i_hi _⟩ | omega) ?_
        refine ⟨_, rfl, ?_⟩
        refine Go_if_neb (tgt := 22) (pc' := 20) dX11_slides_17 (by decide) rfl (fun c17 => ?_) (fun c17 => by exfalso; omega)
        refine Go_bipush (v := iZ 15) (pc' := 24) dX11_slides_22 rfl (by decide) ?_
        refine Go_istore (pc' := 26) (lv' := [.ref _, .int _, .int _, .int _, .ref _, .int _, un, un, un]) dX11_slides_24 rfl (Nat.le_of_ble_eq_true rfl) rfl rfl ?_
        refine Go_iconst (v := iZ 0) (pc' := 27) dX11_slides_26 rfl (by decide) ?_
        refine Go_istore (pc' := 29) (lv' := [.ref _, .int _, .int _, .int _, .ref _, .int _, .int _, un, un]) dX11_slides_27 rfl (Nat.le_of_ble_eq_true rfl) rfl rfl ?_
        exact so_loop I hnc ec2 ec0 hq hnq QS RR hxy.1 hxy.2 nc 0 15 _ _ (Nat.zero_add nc) (by decide) k
      · show Go G 60 0 0 M_X12_slides 0 [.ref 99, .int (iZ (q : Int)), .int (iZ Bz), .int (iZ Cz), un, un, un, un, un, un] [] h K
        refine Go_aload_n (pc' := 1) dX12_slides_0 rfl rfl rfl ?_
        refine Go_iload_n (pc' := 2) dX12_slides_1 rfl rfl rfl ?_
        refine Go_callV_i (pc' := 5) (As := [.int _]) (st := []) dX12_slides_2 rfl ok_X12_isQuake km_RX12_340 (I.S.o 99 rfl rfl rfl) (I.S.b 99 rfl rfl) ⟨_, _, rfl⟩ rfl (Nat.le_of_ble_eq_true rfl) rfl rfl rfl (Nat.le_of_ble_eq_true rfl) (Nat.lt_succ_self _) ?_
        refine Go_iload_n (pc' := 1) dX12_isQuake_0 rfl rfl rfl ?_
        refine Go_iconst (v := iZ 0) (pc' := 2) dX12_isQuake_1 rfl (by decide) ?_
        refine Go_aload_n (pc' := 3) dX12_isQuake_2 rfl rfl rfl ?_
        refine Go_getIv (v := (iZ (nq : Int))) (pc' := 6) dX12_isQuake_3 rfl kf_RX12_336 (by decide) (by decide) rfl (I.S.b 99 rfl rfl) (I.S.o 99 rfl rfl rfl) (eq38) ?_
        refine Go_iconst (v := iZ 1) (pc' := 7) dX12_isQuake_6 rfl (by decide) ?_
        refine Go_isubZ (pc' := 8) dX12_isQuake_7 rfl ?_
        refine Go_callS_i (pc' := 11) (As := [.int _, .int _, .int _]) (st := []) dX12_isQuake_8 rfl ok_X12_isIn km_RX12_147 rfl (Nat.le_of_ble_eq_true rfl) rfl rfl rfl (Nat.le_of_ble_eq_true rfl) (Nat.lt_succ_self _) ?_
        refine s_isInY (by first | exact ⟨i_lo _, i_hi _⟩ | omega) (by first | exact ⟨i_lo _, i_hi _⟩ | omega) (by first | exact ⟨i_lo _, i_hi _⟩ | omega) ?_
        refine ⟨_, rfl, ?_⟩
        refine Go_ireturn (ty := .boolean) dX12_isQuake_11 rfl b2i_nb ?_
        refine ⟨_, rfl, ?_⟩
        refine Go_if_eqb (tgt := 16) (pc' := 8) dX12_slides_5 (by decide) rfl (fun c5 => by exfalso; omega) (fun c5 => ?_)
        refine Go_iload_n (pc' := 9) dX12_slides_8 rfl rfl rfl ?_
        refine Go_iload_n (pc' := 10) dX12_slides_9 rfl rfl rfl ?_
        refine Go_callS_i (pc' := 13) (As := [.int _, .int _]) (st := []) dX12_slides_10 rfl ok_X12_isCell km_RX12_154 rfl (Nat.le_of_ble_eq_true rfl) rfl rfl rfl (Nat.le_of_ble_eq_true rfl) (Nat.lt_succ_self _) ?_
        refine s_isCellMY (by first | exact ⟨i_lo _, i_hi _⟩ | omega) (by first | exact ⟨i_lo _, i_hi _⟩ | omega) ?_
        refine ⟨_, rfl, ?_⟩
        refine Go_if_neb (tgt := 18) (pc' := 16) dX12_slides_13 (by decide) rfl (fun c13 => ?_) (fun c13 => by exfalso; omega)
        refine Go_bipush (v := iZ 15) (pc' := 20) dX12_slides_18 rfl (by decide) ?_
        refine Go_istore (pc' := 22) (lv' := [.ref _, .int _, .int _, .int _, .int _, un, un, un, un, un]) dX12_slides_20 rfl (Nat.le_of_ble_eq_true rfl) rfl rfl ?_
        refine Go_iconst (v := iZ 0) (pc' := 23) dX12_slides_22 rfl (by decide) ?_
        refine Go_istore (pc' := 25) (lv' := [.ref _, .int _, .int _, .int _, .int _, .int _, un, un, un, un]) dX12_slides_23 rfl (Nat.le_of_ble_eq_true rfl) rfl rfl ?_
        exact soM_loop I hnc ec2 ec0 hq hnq QS RR hxy.1 hxy.2 nc 0 15 _ _ _ _ (Nat.zero_add nc) (by decide) k
    · refine PairI.ro' (fun _ => iZ (-1)) h I (fun K k => ?_) (fun K k => ?_)
      · show Go G 60 0 0 M_X11_slides 0 [.ref 64, .int (iZ (q : Int)), .int (iZ Bz), .int (iZ Cz), un, un, un, un, un] [] h K
        refine Go_aload_n (pc' := 1) dX11_slides_0 rfl rfl rfl ?_
        refine Go_iload_n (pc' := 2) dX11_slides_1 rfl rfl rfl ?_
        refine Go_callV_r (pc' := 5) (As := [.int _]) (st := []) dX11_slides_2 rfl ok_X11_quakeOf km_RX11_230 (I.S.o 64 rfl rfl rfl) (I.S.b 64 rfl rfl) ⟨_, _, rfl⟩ rfl (Nat.le_of_ble_eq_true rfl) rfl rfl rfl (Nat.le_of_ble_eq_true rfl) (Nat.lt_succ_self _) ?_
        refine Go_iload_n (pc' := 1) dX11_quakeOf_0 rfl rfl rfl ?_
        refine Go_iconst (v := iZ 0) (pc' := 2) dX11_quakeOf_1 rfl (by decide) ?_
        refine Go_aload_n (pc' := 3) dX11_quakeOf_2 rfl rfl rfl ?_
        refine Go_getIv (v := (iZ (nq : Int))) (pc' := 6) dX11_quakeOf_3 rfl kf_RX11_226 (by decide) (by decide) rfl (I.S.b 64 rfl rfl) (I.S.o 64 rfl rfl rfl) (eq7) ?_
        refine Go_iconst (v := iZ 1) (pc' := 7) dX11_quakeOf_6 rfl (by decide) ?_
        refine Go_isubZ (pc' := 8) dX11_quakeOf_7 rfl ?_
        refine Go_callS_i (pc' := 11) (As := [.int _, .int _, .int _]) (st := []) dX11_quakeOf_8 rfl ok_X11_within km_RX11_94 rfl (Nat.le_of_ble_eq_true rfl) rfl rfl rfl (Nat.le_of_ble_eq_true rfl) (Nat.lt_succ_self _) ?_
        refine s_withinY (by first | exact ⟨i_lo _, i_hi _⟩ | omega) (by first | exact ⟨i_lo _, i_hi _⟩ | omega) (by first | exact ⟨i_lo _, i_hi _⟩ | omega) ?_
        refine ⟨_, rfl, ?_⟩
        refine Go_if_eqb (tgt := 32) (pc' := 14) dX11_quakeOf_11 (by decide) rfl (fun q11 => by exfalso; omega) (fun q11 => ?_)
        refine Go_iload_n (pc' := 15) dX11_quakeOf_14 rfl rfl rfl ?_
        refine Go_aload_n (pc' := 16) dX11_quakeOf_15 rfl rfl rfl ?_
        refine Go_getRs (pc' := 19) dX11_quakeOf_16 rfl kf_RX11_45 (by decide) (by decide) rfl (I.S.b 64 rfl rfl) (I.S.o 64 rfl rfl rfl) (I.S.r 64 6 rfl rfl rfl) ?_
        refine Go_alenZ (n := 16) (pc' := 20) dX11_quakeOf_19 rfl (I.S.b 80 rfl rfl) (I.S.k 80 rfl rfl rfl) (Or.inr (Or.inr ⟨_, rfl⟩)) ?_
        refine Go_icmp_geY (tgt := 32) (pc' := 23) dX11_quakeOf_20 (by decide) rfl (by first | exact ⟨i_lo _, i_hi _⟩ | omega) (by first | exact ⟨i_lo _, i_hi _⟩ | omega) (fun q20 => by exfalso; omega) (fun q20 => ?_)
        refine Go_aload_n (pc' := 24) dX11_quakeOf_23 rfl rfl rfl ?_
        refine Go_getRs (pc' := 27) dX11_quakeOf_24 rfl kf_RX11_45 (by decide) (by decide) rfl (I.S.b 64 rfl rfl) (I.S.o 64 rfl rfl rfl) (I.S.r 64 6 rfl rfl rfl) ?_
        refine Go_iload_n (pc' := 28) dX11_quakeOf_27 rfl rfl rfl ?_
        refine Go_aaloadZ (n := 16) (k := q) (pc' := 29) dX11_quakeOf_28 rfl (I.S.b 80 rfl rfl) (I.S.k 80 rfl rfl rfl) rfl rfl (by omega) (by decide) hu ?_
        refine Go_goto (tgt := 33) dX11_quakeOf_29 (by decide) ?_
        refine Go_areturn (r := some _) dX11_quakeOf_33 rfl ?_
        refine ⟨some _, rfl, ?_⟩
        refine Go_astore (pc' := 7) (lv' := [.ref _, .int _, .int _, .int _, .ref _, un, un, un, un]) dX11_slides_5 rfl (Nat.le_of_ble_eq_true rfl) rfl rfl ?_
        refine Go_aload (pc' := 9) dX11_slides_7 rfl rfl ?_
        refine Go_ifnull (pc' := 12) dX11_slides_9 rfl ?_
        refine Go_iload_n (pc' := 13) dX11_slides_12 rfl rfl rfl ?_
        refine Go_iload_n (pc' := 14) dX11_slides_13 rfl rfl rfl ?_
        refine Go_callS_i (pc' := 17) (As := [.int _, .int _]) (st := []) dX11_slides_14 rfl ok_X11_isCell km_RX11_80 rfl (Nat.le_of_ble_eq_true rfl) rfl rfl rfl (Nat.le_of_ble_eq_true rfl) (Nat.lt_succ_self _) ?_
        refine s_isCellY (by first | exact ⟨i_lo _, i_hi _⟩ | omega) (by first | exact ⟨i_lo _, i_hi _⟩ | omega) ?_
        refine ⟨_, rfl, ?_⟩
        refine Go_if_neb (tgt := 22) (pc' := 20) dX11_slides_17 (by decide) rfl (fun c17 => by exfalso; omega) (fun c17 => ?_)
        refine Go_iconst (v := iZ (-1)) (pc' := 21) dX11_slides_20 rfl (by decide) ?_
        refine Go_ireturn (ty := .int) dX11_slides_21 rfl rfl ?_
        exact k
      · show Go G 60 0 0 M_X12_slides 0 [.ref 99, .int (iZ (q : Int)), .int (iZ Bz), .int (iZ Cz), un, un, un, un, un, un] [] h K
        refine Go_aload_n (pc' := 1) dX12_slides_0 rfl rfl rfl ?_
        refine Go_iload_n (pc' := 2) dX12_slides_1 rfl rfl rfl ?_
        refine Go_callV_i (pc' := 5) (As := [.int _]) (st := []) dX12_slides_2 rfl ok_X12_isQuake km_RX12_340 (I.S.o 99 rfl rfl rfl) (I.S.b 99 rfl rfl) ⟨_, _, rfl⟩ rfl (Nat.le_of_ble_eq_true rfl) rfl rfl rfl (Nat.le_of_ble_eq_true rfl) (Nat.lt_succ_self _) ?_
        refine Go_iload_n (pc' := 1) dX12_isQuake_0 rfl rfl rfl ?_
        refine Go_iconst (v := iZ 0) (pc' := 2) dX12_isQuake_1 rfl (by decide) ?_
        refine Go_aload_n (pc' := 3) dX12_isQuake_2 rfl rfl rfl ?_
        refine Go_getIv (v := (iZ (nq : Int))) (pc' := 6) dX12_isQuake_3 rfl kf_RX12_336 (by decide) (by decide) rfl (I.S.b 99 rfl rfl) (I.S.o 99 rfl rfl rfl) (eq38) ?_
        refine Go_iconst (v := iZ 1) (pc' := 7) dX12_isQuake_6 rfl (by decide) ?_
        refine Go_isubZ (pc' := 8) dX12_isQuake_7 rfl ?_
        refine Go_callS_i (pc' := 11) (As := [.int _, .int _, .int _]) (st := []) dX12_isQuake_8 rfl ok_X12_isIn km_RX12_147 rfl (Nat.le_of_ble_eq_true rfl) rfl rfl rfl (Nat.le_of_ble_eq_true rfl) (Nat.lt_succ_self _) ?_
        refine s_isInY (by first | exact ⟨i_lo _, i_hi _⟩ | omega) (by first | exact ⟨i_lo _, i_hi _⟩ | omega) (by first | exact ⟨i_lo _, i_hi _⟩ | omega) ?_
        refine ⟨_, rfl, ?_⟩
        refine Go_ireturn (ty := .boolean) dX12_isQuake_11 rfl b2i_nb ?_
        refine ⟨_, rfl, ?_⟩
        refine Go_if_eqb (tgt := 16) (pc' := 8) dX12_slides_5 (by decide) rfl (fun c5 => by exfalso; omega) (fun c5 => ?_)
        refine Go_iload_n (pc' := 9) dX12_slides_8 rfl rfl rfl ?_
        refine Go_iload_n (pc' := 10) dX12_slides_9 rfl rfl rfl ?_
        refine Go_callS_i (pc' := 13) (As := [.int _, .int _]) (st := []) dX12_slides_10 rfl ok_X12_isCell km_RX12_154 rfl (Nat.le_of_ble_eq_true rfl) rfl rfl rfl (Nat.le_of_ble_eq_true rfl) (Nat.lt_succ_self _) ?_
        refine s_isCellMY (by first | exact ⟨i_lo _, i_hi _⟩ | omega) (by first | exact ⟨i_lo _, i_hi _⟩ | omega) ?_
        refine ⟨_, rfl, ?_⟩
        refine Go_if_neb (tgt := 18) (pc' := 16) dX12_slides_13 (by decide) rfl (fun c13 => by exfalso; omega) (fun c13 => ?_)
        refine Go_iconst (v := iZ (-1)) (pc' := 17) dX12_slides_16 rfl (by decide) ?_
        refine Go_ireturn (ty := .int) dX12_slides_17 rfl rfl ?_
        exact k
