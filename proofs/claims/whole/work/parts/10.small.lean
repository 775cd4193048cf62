/-! small methods without loops -/
set_option maxRecDepth 20000 in
theorem s_within {G : GC} {d mc ms : Nat} {v lo hi : Int32} {h : HS} {K : Option Value → HS → Prop} (hk : K (some (.int (b2i (lo ≤ v ∧ v ≤ hi)))) h) : Go G (d) mc ms M_X11_within 0 [.int v, .int lo, .int hi] [] h K := by
  refine Go_iload_n (pc' := 1) dX11_within_0 rfl rfl rfl ?_
  refine Go_iload_n (pc' := 2) dX11_within_1 rfl rfl rfl ?_
  refine Go_icmp_lt (tgt := 14) (pc' := 5) dX11_within_2 (by decide) rfl (fun c2 => ?_) (fun c2 => ?_)
  · refine Go_iconst (v := 0) (pc' := 15) dX11_within_14 rfl (by decide) ?_
    refine Go_ireturn (ty := .boolean) dX11_within_15 rfl rfl ?_
    rw [b2i_f (fun q => absurd q.1 (Int32.not_le.mpr c2))] at hk; exact hk
  · refine Go_iload_n (pc' := 6) dX11_within_5 rfl rfl rfl ?_
    refine Go_iload_n (pc' := 7) dX11_within_6 rfl rfl rfl ?_
    refine Go_icmp_gt (tgt := 14) (pc' := 10) dX11_within_7 (by decide) rfl (fun c7 => ?_) (fun c7 => ?_)
    · refine Go_iconst (v := 0) (pc' := 15) dX11_within_14 rfl (by decide) ?_
      refine Go_ireturn (ty := .boolean) dX11_within_15 rfl rfl ?_
      rw [b2i_f (fun q => absurd q.2 (Int32.not_le.mpr c7))] at hk; exact hk
    · refine Go_iconst (v := 1) (pc' := 11) dX11_within_10 rfl (by decide) ?_
      refine Go_goto (tgt := 15) dX11_within_11 (by decide) ?_
      refine Go_ireturn (ty := .boolean) dX11_within_15 rfl rfl ?_
      rw [b2i_t ⟨Int32.not_lt.mp c2, Int32.not_lt.mp c7⟩] at hk; exact hk
set_option maxRecDepth 20000 in
theorem s_isIn {G : GC} {d mc ms : Nat} {v lo hi : Int32} {h : HS} {K : Option Value → HS → Prop} (hk : K (some (.int (b2i (lo ≤ v ∧ v ≤ hi)))) h) : Go G (d) mc ms M_X12_isIn 0 [.int v, .int lo, .int hi] [] h K := by
  refine Go_iload_n (pc' := 1) dX12_isIn_0 rfl rfl rfl ?_
  refine Go_iload_n (pc' := 2) dX12_isIn_1 rfl rfl rfl ?_
  refine Go_icmp_lt (tgt := 14) (pc' := 5) dX12_isIn_2 (by decide) rfl (fun c2 => ?_) (fun c2 => ?_)
  · refine Go_iconst (v := 0) (pc' := 15) dX12_isIn_14 rfl (by decide) ?_
    refine Go_ireturn (ty := .boolean) dX12_isIn_15 rfl rfl ?_
    rw [b2i_f (fun q => absurd q.1 (Int32.not_le.mpr c2))] at hk; exact hk
  · refine Go_iload_n (pc' := 6) dX12_isIn_5 rfl rfl rfl ?_
    refine Go_iload_n (pc' := 7) dX12_isIn_6 rfl rfl rfl ?_
    refine Go_icmp_gt (tgt := 14) (pc' := 10) dX12_isIn_7 (by decide) rfl (fun c7 => ?_) (fun c7 => ?_)
    · refine Go_iconst (v := 0) (pc' := 15) dX12_isIn_14 rfl (by decide) ?_
      refine Go_ireturn (ty := .boolean) dX12_isIn_15 rfl rfl ?_
      rw [b2i_f (fun q => absurd q.2 (Int32.not_le.mpr c7))] at hk; exact hk
    · refine Go_iconst (v := 1) (pc' := 11) dX12_isIn_10 rfl (by decide) ?_
      refine Go_goto (tgt := 15) dX12_isIn_11 (by decide) ?_
      refine Go_ireturn (ty := .boolean) dX12_isIn_15 rfl rfl ?_
      rw [b2i_t ⟨Int32.not_lt.mp c2, Int32.not_lt.mp c7⟩] at hk; exact hk
def imax (x y : Int32) : Int32 := if x < y then y else x
set_option maxRecDepth 20000 in
theorem s_max {G : GC} {d mc ms : Nat} {x y : Int32} {h : HS} {K : Option Value → HS → Prop} (hk : K (some (.int (imax x y))) h) : Go G (d) mc ms M_J9_max_7cf53 0 [.int x, .int y] [] h K := by
  refine Go_iload_n (pc' := 1) dJ9_max_7cf53_0 rfl rfl rfl ?_
  refine Go_iload_n (pc' := 2) dJ9_max_7cf53_1 rfl rfl rfl ?_
  refine Go_icmp_lt (tgt := 9) (pc' := 5) dJ9_max_7cf53_2 (by decide) rfl (fun c2 => ?_) (fun c2 => ?_)
  · refine Go_iload_n (pc' := 10) dJ9_max_7cf53_9 rfl rfl rfl ?_
    refine Go_ireturn (ty := .int) dJ9_max_7cf53_10 rfl rfl ?_
    rw [show imax x y = y from if_pos c2] at hk; exact hk
  · refine Go_iload_n (pc' := 6) dJ9_max_7cf53_5 rfl rfl rfl ?_
    refine Go_goto (tgt := 10) dJ9_max_7cf53_6 (by decide) ?_
    refine Go_ireturn (ty := .int) dJ9_max_7cf53_10 rfl rfl ?_
    rw [show imax x y = x from if_neg c2] at hk; exact hk
def imin (x y : Int32) : Int32 := if y < x then y else x
set_option maxRecDepth 20000 in
theorem s_min {G : GC} {d mc ms : Nat} {x y : Int32} {h : HS} {K : Option Value → HS → Prop} (hk : K (some (.int (imin x y))) h) : Go G (d) mc ms M_J9_min_7cf53 0 [.int x, .int y] [] h K := by
  refine Go_iload_n (pc' := 1) dJ9_min_7cf53_0 rfl rfl rfl ?_
  refine Go_iload_n (pc' := 2) dJ9_min_7cf53_1 rfl rfl rfl ?_
  refine Go_icmp_gt (tgt := 9) (pc' := 5) dJ9_min_7cf53_2 (by decide) rfl (fun c2 => ?_) (fun c2 => ?_)
  · refine Go_iload_n (pc' := 10) dJ9_min_7cf53_9 rfl rfl rfl ?_
    refine Go_ireturn (ty := .int) dJ9_min_7cf53_10 rfl rfl ?_
    rw [show imin x y = y from if_pos c2] at hk; exact hk
  · refine Go_iload_n (pc' := 6) dJ9_min_7cf53_5 rfl rfl rfl ?_
    refine Go_goto (tgt := 10) dJ9_min_7cf53_6 (by decide) ?_
    refine Go_ireturn (ty := .int) dJ9_min_7cf53_10 rfl rfl ?_
    rw [show imin x y = x from if_neg c2] at hk; exact hk
def iabs (x : Int32) : Int32 := if x < 0 then -x else x
set_option maxRecDepth 20000 in
theorem s_abs {G : GC} {d mc ms : Nat} {x : Int32} {h : HS} {K : Option Value → HS → Prop} (hk : K (some (.int (iabs x))) h) : Go G (d) mc ms M_J9_abs_0f7a4 0 [.int x] [] h K := by
  refine Go_iload_n (pc' := 1) dJ9_abs_0f7a4_0 rfl rfl rfl ?_
  refine Go_if_ge (tgt := 9) (pc' := 4) dJ9_abs_0f7a4_1 (by decide) rfl (fun c1 => ?_) (fun c1 => ?_)
  · refine Go_iload_n (pc' := 10) dJ9_abs_0f7a4_9 rfl rfl rfl ?_
    refine Go_ireturn (ty := .int) dJ9_abs_0f7a4_10 rfl rfl ?_
    rw [show iabs x = x from if_neg (Int32.not_lt.mpr c1)] at hk; exact hk
  · refine Go_iload_n (pc' := 5) dJ9_abs_0f7a4_4 rfl rfl rfl ?_
    refine Go_ineg (pc' := 6) dJ9_abs_0f7a4_5 rfl ?_
    refine Go_goto (tgt := 10) dJ9_abs_0f7a4_6 (by decide) ?_
    refine Go_ireturn (ty := .int) dJ9_abs_0f7a4_10 rfl rfl ?_
    rw [show iabs x = -x from if_pos (Int32.not_le.mp c1)] at hk; exact hk
def ifdiv (x y : Int32) : Int32 := if 0 ≤ x ^^^ y then x / y else if x / y * y = x then x / y else x / y - 1
set_option maxRecDepth 20000 in
theorem s_fdiv {G : GC} {d mc ms : Nat} {x y : Int32} {h : HS} {K : Option Value → HS → Prop} (hy : ¬ y = 0) (hk : K (some (.int (ifdiv x y))) h) : Go G (d) mc ms M_J9_floorDiv_7cf53 0 [.int x, .int y, un] [] h K := by
  refine Go_iload_n (pc' := 1) dJ9_floorDiv_7cf53_0 rfl rfl rfl ?_
  refine Go_iload_n (pc' := 2) dJ9_floorDiv_7cf53_1 rfl rfl rfl ?_
  refine Go_idiv (pc' := 3) dJ9_floorDiv_7cf53_2 rfl hy ?_
  refine Go_istore_n (pc' := 4) (lv' := [.int _, .int _, .int _]) dJ9_floorDiv_7cf53_3 rfl rfl (Nat.le_of_ble_eq_true rfl) rfl rfl ?_
  refine Go_iload_n (pc' := 5) dJ9_floorDiv_7cf53_4 rfl rfl rfl ?_
  refine Go_iload_n (pc' := 6) dJ9_floorDiv_7cf53_5 rfl rfl rfl ?_
  refine Go_ixor (pc' := 7) dJ9_floorDiv_7cf53_6 rfl ?_
  refine Go_if_ge (tgt := 21) (pc' := 10) dJ9_floorDiv_7cf53_7 (by decide) rfl (fun c7 => ?_) (fun c7 => ?_)
  · refine Go_iload_n (pc' := 22) dJ9_floorDiv_7cf53_21 rfl rfl rfl ?_
    refine Go_ireturn (ty := .int) dJ9_floorDiv_7cf53_22 rfl rfl ?_
    rw [show ifdiv x y = x / y from if_pos c7] at hk; exact hk
  · refine Go_iload_n (pc' := 11) dJ9_floorDiv_7cf53_10 rfl rfl rfl ?_
    refine Go_iload_n (pc' := 12) dJ9_floorDiv_7cf53_11 rfl rfl rfl ?_
    refine Go_imul (pc' := 13) dJ9_floorDiv_7cf53_12 rfl ?_
    refine Go_iload_n (pc' := 14) dJ9_floorDiv_7cf53_13 rfl rfl rfl ?_
    refine Go_icmp_eq (tgt := 21) (pc' := 17) dJ9_floorDiv_7cf53_14 (by decide) rfl (fun c14 => ?_) (fun c14 => ?_)
    · refine Go_iload_n (pc' := 22) dJ9_floorDiv_7cf53_21 rfl rfl rfl ?_
      refine Go_ireturn (ty := .int) dJ9_floorDiv_7cf53_22 rfl rfl ?_
      rw [show ifdiv x y = x / y from (if_neg c7).trans (if_pos c14)] at hk; exact hk
    · refine Go_iload_n (pc' := 18) dJ9_floorDiv_7cf53_17 rfl rfl rfl ?_
      refine Go_iconst (v := 1) (pc' := 19) dJ9_floorDiv_7cf53_18 rfl (by decide) ?_
      refine Go_isub (pc' := 20) dJ9_floorDiv_7cf53_19 rfl ?_
      refine Go_ireturn (ty := .int) dJ9_floorDiv_7cf53_20 rfl rfl ?_
      rw [show ifdiv x y = x / y - 1 from (if_neg c7).trans (if_neg c14)] at hk; exact hk
def ifmod (x y : Int32) : Int32 := if 0 ≤ x ^^^ y then x - x / y * y else if x - x / y * y = 0 then x - x / y * y else x - x / y * y + y
set_option maxRecDepth 20000 in
theorem s_fmod {G : GC} {d mc ms : Nat} {x y : Int32} {h : HS} {K : Option Value → HS → Prop} (hy : ¬ y = 0) (hk : K (some (.int (ifmod x y))) h) : Go G (d) mc ms M_J9_floorMod_7cf53 0 [.int x, .int y, un] [] h K := by
  refine Go_iload_n (pc' := 1) dJ9_floorMod_7cf53_0 rfl rfl rfl ?_
  refine Go_iload_n (pc' := 2) dJ9_floorMod_7cf53_1 rfl rfl rfl ?_
  refine Go_irem (pc' := 3) dJ9_floorMod_7cf53_2 rfl hy ?_
  refine Go_istore_n (pc' := 4) (lv' := [.int _, .int _, .int _]) dJ9_floorMod_7cf53_3 rfl rfl (Nat.le_of_ble_eq_true rfl) rfl rfl ?_
  refine Go_iload_n (pc' := 5) dJ9_floorMod_7cf53_4 rfl rfl rfl ?_
  refine Go_iload_n (pc' := 6) dJ9_floorMod_7cf53_5 rfl rfl rfl ?_
  refine Go_ixor (pc' := 7) dJ9_floorMod_7cf53_6 rfl ?_
  refine Go_if_ge (tgt := 18) (pc' := 10) dJ9_floorMod_7cf53_7 (by decide) rfl (fun c7 => ?_) (fun c7 => ?_)
  · refine Go_iload_n (pc' := 19) dJ9_floorMod_7cf53_18 rfl rfl rfl ?_
    refine Go_ireturn (ty := .int) dJ9_floorMod_7cf53_19 rfl rfl ?_
    rw [show ifmod x y = x - x / y * y from if_pos c7] at hk; exact hk
  · refine Go_iload_n (pc' := 11) dJ9_floorMod_7cf53_10 rfl rfl rfl ?_
    refine Go_if_eq (tgt := 18) (pc' := 14) dJ9_floorMod_7cf53_11 (by decide) rfl (fun c11 => ?_) (fun c11 => ?_)
    · refine Go_iload_n (pc' := 19) dJ9_floorMod_7cf53_18 rfl rfl rfl ?_
      refine Go_ireturn (ty := .int) dJ9_floorMod_7cf53_19 rfl rfl ?_
      rw [show ifmod x y = x - x / y * y from (if_neg c7).trans (if_pos c11)] at hk; exact hk
    · refine Go_iload_n (pc' := 15) dJ9_floorMod_7cf53_14 rfl rfl rfl ?_
      refine Go_iload_n (pc' := 16) dJ9_floorMod_7cf53_15 rfl rfl rfl ?_
      refine Go_iadd (pc' := 17) dJ9_floorMod_7cf53_16 rfl ?_
      refine Go_ireturn (ty := .int) dJ9_floorMod_7cf53_17 rfl rfl ?_
      rw [show ifmod x y = x - x / y * y + y from (if_neg c7).trans (if_neg c11)] at hk; exact hk
set_option maxRecDepth 20000 in
theorem s_isCell {G : GC} {d mc ms : Nat} {x y : Int32} {h : HS} {K : Option Value → HS → Prop} (hk : K (some (.int (b2i ((0 ≤ x ∧ x ≤ 39) ∧ (0 ≤ y ∧ y ≤ 39))))) h) : Go G (d + 1) mc ms M_X11_isCell 0 [.int x, .int y] [] h K := by
  refine Go_iload_n (pc' := 1) dX11_isCell_0 rfl rfl rfl ?_
  refine Go_iconst (v := 0) (pc' := 2) dX11_isCell_1 rfl (by decide) ?_
  refine Go_bipush (v := 39) (pc' := 4) dX11_isCell_2 rfl (by decide) ?_
  refine Go_callS_i (pc' := 7) (As := [.int _, .int _, .int _]) (st := []) dX11_isCell_4 rfl ok_X11_within km_RX11_94 rfl (Nat.le_of_ble_eq_true rfl) rfl rfl rfl (Nat.le_of_ble_eq_true rfl) (Nat.lt_succ_self _) ?_
  refine s_within ?_
  refine ⟨_, rfl, ?_⟩
  refine Go_if_eqb (tgt := 24) (pc' := 10) dX11_isCell_7 (by decide) rfl (fun c7 => ?_) (fun c7 => ?_)
  · refine Go_iconst (v := 0) (pc' := 25) dX11_isCell_24 rfl (by decide) ?_
    refine Go_ireturn (ty := .boolean) dX11_isCell_25 rfl rfl ?_
    rw [b2i_f (fun q => c7 q.1)] at hk; exact hk
  · refine Go_iload_n (pc' := 11) dX11_isCell_10 rfl rfl rfl ?_
    refine Go_iconst (v := 0) (pc' := 12) dX11_isCell_11 rfl (by decide) ?_
    refine Go_bipush (v := 39) (pc' := 14) dX11_isCell_12 rfl (by decide) ?_
    refine Go_callS_i (pc' := 17) (As := [.int _, .int _, .int _]) (st := []) dX11_isCell_14 rfl ok_X11_within km_RX11_94 rfl (Nat.le_of_ble_eq_true rfl) rfl rfl rfl (Nat.le_of_ble_eq_true rfl) (Nat.lt_succ_self _) ?_
    refine s_within ?_
    refine ⟨_, rfl, ?_⟩
    refine Go_if_eqb (tgt := 24) (pc' := 20) dX11_isCell_17 (by decide) rfl (fun c17 => ?_) (fun c17 => ?_)
    · refine Go_iconst (v := 0) (pc' := 25) dX11_isCell_24 rfl (by decide) ?_
      refine Go_ireturn (ty := .boolean) dX11_isCell_25 rfl rfl ?_
      rw [b2i_f (fun q => c17 q.2)] at hk; exact hk
    · refine Go_iconst (v := 1) (pc' := 21) dX11_isCell_20 rfl (by decide) ?_
      refine Go_goto (tgt := 25) dX11_isCell_21 (by decide) ?_
      refine Go_ireturn (ty := .boolean) dX11_isCell_25 rfl rfl ?_
      rw [b2i_t ⟨c7, c17⟩] at hk; exact hk
set_option maxRecDepth 20000 in
theorem s_isCellM {G : GC} {d mc ms : Nat} {x y : Int32} {h : HS} {K : Option Value → HS → Prop} (hk : K (some (.int (b2i ((0 ≤ x ∧ x ≤ 39) ∧ (0 ≤ y ∧ y ≤ 39))))) h) : Go G (d + 1) mc ms M_X12_isCell 0 [.int x, .int y] [] h K := by
  refine Go_iload_n (pc' := 1) dX12_isCell_0 rfl rfl rfl ?_
  refine Go_iconst (v := 0) (pc' := 2) dX12_isCell_1 rfl (by decide) ?_
  refine Go_bipush (v := 39) (pc' := 4) dX12_isCell_2 rfl (by decide) ?_
  refine Go_callS_i (pc' := 7) (As := [.int _, .int _, .int _]) (st := []) dX12_isCell_4 rfl ok_X12_isIn km_RX12_147 rfl (Nat.le_of_ble_eq_true rfl) rfl rfl rfl (Nat.le_of_ble_eq_true rfl) (Nat.lt_succ_self _) ?_
  refine s_isIn ?_
  refine ⟨_, rfl, ?_⟩
  refine Go_if_eqb (tgt := 24) (pc' := 10) dX12_isCell_7 (by decide) rfl (fun c7 => ?_) (fun c7 => ?_)
  · refine Go_iconst (v := 0) (pc' := 25) dX12_isCell_24 rfl (by decide) ?_
    refine Go_ireturn (ty := .boolean) dX12_isCell_25 rfl rfl ?_
    rw [b2i_f (fun q => c7 q.1)] at hk; exact hk
  · refine Go_iload_n (pc' := 11) dX12_isCell_10 rfl rfl rfl ?_
    refine Go_iconst (v := 0) (pc' := 12) dX12_isCell_11 rfl (by decide) ?_
    refine Go_bipush (v := 39) (pc' := 14) dX12_isCell_12 rfl (by decide) ?_
    refine Go_callS_i (pc' := 17) (As := [.int _, .int _, .int _]) (st := []) dX12_isCell_14 rfl ok_X12_isIn km_RX12_147 rfl (Nat.le_of_ble_eq_true rfl) rfl rfl rfl (Nat.le_of_ble_eq_true rfl) (Nat.lt_succ_self _) ?_
    refine s_isIn ?_
    refine ⟨_, rfl, ?_⟩
    refine Go_if_eqb (tgt := 24) (pc' := 20) dX12_isCell_17 (by decide) rfl (fun c17 => ?_) (fun c17 => ?_)
    · refine Go_iconst (v := 0) (pc' := 25) dX12_isCell_24 rfl (by decide) ?_
      refine Go_ireturn (ty := .boolean) dX12_isCell_25 rfl rfl ?_
      rw [b2i_f (fun q => c17 q.2)] at hk; exact hk
    · refine Go_iconst (v := 1) (pc' := 21) dX12_isCell_20 rfl (by decide) ?_
      refine Go_goto (tgt := 25) dX12_isCell_21 (by decide) ?_
      refine Go_ireturn (ty := .boolean) dX12_isCell_25 rfl rfl ?_
      rw [b2i_t ⟨c7, c17⟩] at hk; exact hk
