/-! pairs: fit, fits, wrong -/
def fitq (h : HS) (P S : Int) (nc q : Nat) (s : Int32) (i : Nat) : Bool := fl (ff h P S q s ((i : Int) % 40) ((i : Int) / 40)) nc 0 (-2147483648) 2147483647
def nthq (g : Nat → Bool) : Nat → Nat → Int → Int
  | 0, _, _ => -1
  | m + 1, i, l => if g i = true then (if l = 0 then (i : Int) else nthq g m (i + 1) (l + (-1))) else nthq g m (i + 1) l
theorem nth_f {g : Nat → Bool} {m i : Nat} {l : Int} (h : ¬ g i = true) : nthq g (m + 1) i l = nthq g m (i + 1) l := by show (if _ then _ else _) = _; rw [if_neg h]
theorem nth_0 {g : Nat → Bool} {m i : Nat} {l : Int} (h : g i = true) (e : l = 0) : nthq g (m + 1) i l = (i : Int) := by show (if _ then (if _ then _ else _) else _) = _; rw [if_pos h, if_pos e]
theorem nth_t {g : Nat → Bool} {m i : Nat} {l : Int} (h : g i = true) (e : ¬ l = 0) : nthq g (m + 1) i l = nthq g m (i + 1) (l + (-1)) := by show (if _ then (if _ then _ else _) else _) = _; rw [if_pos h, if_neg e]
theorem nth_none {g : Nat → Bool} : ∀ {m i : Nat} {l : Int}, (m : Int) ≤ l → nthq g m i l = -1
  | 0, i, l, _ => rfl
  | m + 1, i, l, h => by
    by_cases c : g i = true
    · rw [nth_t c (by omega)]; exact nth_none (by omega)
    · rw [nth_f c]; exact nth_none (by omega)
def fsB (g : Nat → Bool) : Nat → Nat → Bool
  | 0, _ => false
  | m + 1, i => if g i = true then true else fsB g m (i + 1)
theorem fs_t {g : Nat → Bool} {m i : Nat} (h : g i = true) : fsB g (m + 1) i = true := by show (if _ then _ else _) = _; rw [if_pos h]
theorem fs_f {g : Nat → Bool} {m i : Nat} (h : ¬ g i = true) : fsB g (m + 1) i = fsB g m (i + 1) := by show (if _ then _ else _) = _; rw [if_neg h]
theorem nth_fs {g : Nat → Bool} : ∀ {m i : Nat}, (nthq g m i 0 = -1 ∧ fsB g m i = false) ∨ (0 ≤ nthq g m i 0 ∧ nthq g m i 0 ≤ i + m ∧ fsB g m i = true)
  | 0, i => Or.inl ⟨rfl, rfl⟩
  | m + 1, i => by
    by_cases c : g i = true
    · rw [nth_0 c rfl, fs_t c]; exact Or.inr ⟨by omega, by omega, rfl⟩
    · rw [nth_f c, fs_f c]
      rcases nth_fs (g := g) (m := m) (i := i + 1) with z | z
      · exact Or.inl z
      · exact Or.inr ⟨z.1, by omega, z.2.2⟩
set_option maxRecDepth 20000 in
set_option maxHeartbeats 1000000 in
theorem cf_loop {G : GC} {d mc ms : Nat} {h : HS} {K : Option Value → HS → Prop} {q u nq nc : Nat} {P S : Int} {s : Int32} (I : Inv h) (hnc : nc ≤ 6) (ec2 : vi h 64 2 = iZ (nc : Int)) (ec0 : vi h 99 0 = iZ (nc : Int)) (hq : q < nq) (hnq : nq ≤ 16) (hu : ri h 80 q = some u) (QS : QkS h u) (RR : ∀ c, c < 6 → RdR h u q c) (eP : vi h 64 8 = iZ P) (eS : vi h 64 9 = iZ S) (eP2 : vi h 99 39 = iZ P) (eS2 : vi h 99 40 = iZ S) (hP : 1 ≤ P ∧ P ≤ 99) (hS : 1 ≤ S ∧ S ≤ 99) : ∀ (m i : Nat) (a : Int), i + m = 1600 → K (some (.int (iZ (cq (fitq h P S nc q s) m i a)))) h → Go G (d + 3) mc ms M_X11_countFitting 5 [.ref 64, .ref u, .int s, .int (iZ a), .int (iZ (i : Int))] [] h K := by
  intro m
  induction m with
  | zero =>
    intro i a hi hk
    refine Go_iload (pc' := 7) dX11_countFitting_5 rfl rfl ?_
    refine Go_sipush (v := iZ 1600) (pc' := 10) dX11_countFitting_7 rfl (by decide) ?_
    refine Go_icmp_geY (tgt := 41) (pc' := 13) dX11_countFitting_10 (by decide) rfl (by first | exact ⟨i_lo _, i_hi _⟩ | omega) (by first | exact ⟨i_lo _, i_hi _⟩ | omega) (fun c10 => ?_) (fun c10 => by exfalso; omega)
    refine Go_iload_n (pc' := 42) dX11_countFitting_41 rfl rfl rfl ?_
    refine Go_ireturn (ty := .int) dX11_countFitting_42 rfl rfl ?_
    exact hk
  | succ m ih =>
    intro i a hi hk
    refine Go_iload (pc' := 7) dX11_countFitting_5 rfl rfl ?_
    refine Go_sipush (v := iZ 1600) (pc' := 10) dX11_countFitting_7 rfl (by decide) ?_
    refine Go_icmp_geY (tgt := 41) (pc' := 13) dX11_countFitting_10 (by decide) rfl (by first | exact ⟨i_lo _, i_hi _⟩ | omega) (by first | exact ⟨i_lo _, i_hi _⟩ | omega) (fun c10 => by exfalso; omega) (fun c10 => ?_)
    refine Go_aload_n (pc' := 14) dX11_countFitting_13 rfl rfl rfl ?_
    refine Go_aload_n (pc' := 15) dX11_countFitting_14 rfl rfl rfl ?_
    refine Go_iload_n (pc' := 16) dX11_countFitting_15 rfl rfl rfl ?_
    refine Go_iload (pc' := 18) dX11_countFitting_16 rfl rfl ?_
    refine Go_bipush (v := iZ 40) (pc' := 20) dX11_countFitting_18 rfl (by decide) ?_
    refine Go_iremP (pc' := 21) dX11_countFitting_20 rfl (by omega) (by omega) ?_
    refine Go_iload (pc' := 23) dX11_countFitting_21 rfl rfl ?_
    refine Go_bipush (v := iZ 40) (pc' := 25) dX11_countFitting_23 rfl (by decide) ?_
    refine Go_idivP (pc' := 26) dX11_countFitting_25 rfl (by omega) (by omega) ?_
    refine Go_callV_i (pc' := 29) (As := [.ref _, .int _, .int _, .int _]) (st := []) dX11_countFitting_26 rfl ok_X11_isFitting km_RX11_267 (I.S.o 64 rfl rfl rfl) (I.S.b 64 rfl rfl) ⟨_, _, rfl⟩ rfl (Nat.le_of_ble_eq_true rfl) rfl rfl rfl (Nat.le_of_ble_eq_true rfl) (Nat.lt_succ_self _) ?_
    refine s_fit I hnc ec2 hq hnq hu QS RR eP eS hP hS (by omega) (by omega) ?_
    refine ⟨_, rfl, ?_⟩
    refine Go_if_eqb (tgt := 35) (pc' := 32) dX11_countFitting_29 (by decide) rfl (fun c29 => ?_) (fun c29 => ?_)
    · refine Go_iincZ (pc' := 38) (lv' := [.ref _, .ref _, .int _, .int _, .int _]) dX11_countFitting_35 rfl rfl (Nat.le_of_ble_eq_true rfl) rfl rfl ?_
      refine Go_goto (tgt := 5) dX11_countFitting_38 (by decide) ?_
      rw [cq_f (show ¬ (fitq h P S nc q s) i = true from c29)] at hk
      exact ih (i + 1) _ (by omega) hk
    · refine Go_iincZ (pc' := 35) (lv' := [.ref _, .ref _, .int _, .int _, .int _]) dX11_countFitting_32 rfl rfl (Nat.le_of_ble_eq_true rfl) rfl rfl ?_
      refine Go_iincZ (pc' := 38) (lv' := [.ref _, .ref _, .int _, .int _, .int _]) dX11_countFitting_35 rfl rfl (Nat.le_of_ble_eq_true rfl) rfl rfl ?_
      refine Go_goto (tgt := 5) dX11_countFitting_38 (by decide) ?_
      rw [cq_t (show (fitq h P S nc q s) i = true from c29)] at hk
      exact ih (i + 1) _ (by omega) hk
set_option maxRecDepth 20000 in
set_option maxHeartbeats 1000000 in
theorem s_cf {G : GC} {d mc ms : Nat} {h : HS} {K : Option Value → HS → Prop} {q u nq nc : Nat} {P S : Int} {s : Int32} (I : Inv h) (hnc : nc ≤ 6) (ec2 : vi h 64 2 = iZ (nc : Int)) (ec0 : vi h 99 0 = iZ (nc : Int)) (hq : q < nq) (hnq : nq ≤ 16) (hu : ri h 80 q = some u) (QS : QkS h u) (RR : ∀ c, c < 6 → RdR h u q c) (eP : vi h 64 8 = iZ P) (eS : vi h 64 9 = iZ S) (eP2 : vi h 99 39 = iZ P) (eS2 : vi h 99 40 = iZ S) (hP : 1 ≤ P ∧ P ≤ 99) (hS : 1 ≤ S ∧ S ≤ 99) (hk : K (some (.int (iZ (cq (fitq h P S nc q s) 1600 0 0)))) h) : Go G (d + 3) mc ms M_X11_countFitting 0 [.ref 64, .ref u, .int s, un, un] [] h K := by
  refine Go_iconst (v := iZ 0) (pc' := 1) dX11_countFitting_0 rfl (by decide) ?_
  refine Go_istore_n (pc' := 2) (lv' := [.ref _, .ref _, .int _, .int _, un]) dX11_countFitting_1 rfl rfl (Nat.le_of_ble_eq_true rfl) rfl rfl ?_
  refine Go_iconst (v := iZ 0) (pc' := 3) dX11_countFitting_2 rfl (by decide) ?_
  refine Go_istore (pc' := 5) (lv' := [.ref _, .ref _, .int _, .int _, .int _]) dX11_countFitting_3 rfl (Nat.le_of_ble_eq_true rfl) rfl rfl ?_
  exact cf_loop I hnc ec2 ec0 hq hnq hu QS RR eP eS eP2 eS2 hP hS 1600 0 0 rfl hk
set_option maxRecDepth 20000 in
set_option maxHeartbeats 1000000 in
theorem fc_loop {G : GC} {d mc ms : Nat} {h : HS} {K : Option Value → HS → Prop} {q u nq nc : Nat} {P S : Int} {s : Int32} (I : Inv h) (hnc : nc ≤ 6) (ec2 : vi h 64 2 = iZ (nc : Int)) (ec0 : vi h 99 0 = iZ (nc : Int)) (hq : q < nq) (hnq : nq ≤ 16) (hu : ri h 80 q = some u) (QS : QkS h u) (RR : ∀ c, c < 6 → RdR h u q c) (eP : vi h 64 8 = iZ P) (eS : vi h 64 9 = iZ S) (eP2 : vi h 99 39 = iZ P) (eS2 : vi h 99 40 = iZ S) (hP : 1 ≤ P ∧ P ≤ 99) (hS : 1 ≤ S ∧ S ≤ 99) {n : Int} : ∀ (m i : Nat) (l : Int), i + m = 1600 → 0 ≤ l ∧ l ≤ 1600 → K (some (.int (iZ (nthq (fitq h P S nc q s) m i l)))) h → Go G (d + 3) mc ms M_X11_fittingCell 6 [.ref 64, .ref u, .int s, .int (iZ n), .int (iZ l), .int (iZ (i : Int))] [] h K := by
  intro m
  induction m with
  | zero =>
    intro i l hi hl hk
    refine Go_iload (pc' := 8) dX11_fittingCell_6 rfl rfl ?_
    refine Go_sipush (v := iZ 1600) (pc' := 11) dX11_fittingCell_8 rfl (by decide) ?_
    refine Go_icmp_geY (tgt := 50) (pc' := 14) dX11_fittingCell_11 (by decide) rfl (by first | exact ⟨i_lo _, i_hi _⟩ | omega) (by first | exact ⟨i_lo _, i_hi _⟩ | omega) (fun c11 => ?_) (fun c11 => by exfalso; omega)
    refine Go_iconst (v := iZ (-1)) (pc' := 51) dX11_fittingCell_50 rfl (by decide) ?_
    refine Go_ireturn (ty := .int) dX11_fittingCell_51 rfl rfl ?_
    exact hk
  | succ m ih =>
    intro i l hi hl hk
    refine Go_iload (pc' := 8) dX11_fittingCell_6 rfl rfl ?_
    refine Go_sipush (v := iZ 1600) (pc' := 11) dX11_fittingCell_8 rfl (by decide) ?_
    refine Go_icmp_geY (tgt := 50) (pc' := 14) dX11_fittingCell_11 (by decide) rfl (by first | exact ⟨i_lo _, i_hi _⟩ | omega) (by first | exact ⟨i_lo _, i_hi _⟩ | omega) (fun c11 => by exfalso; omega) (fun c11 => ?_)
    refine Go_aload_n (pc' := 15) dX11_fittingCell_14 rfl rfl rfl ?_
    refine Go_aload_n (pc' := 16) dX11_fittingCell_15 rfl rfl rfl ?_
    refine Go_iload_n (pc' := 17) dX11_fittingCell_16 rfl rfl rfl ?_
    refine Go_iload (pc' := 19) dX11_fittingCell_17 rfl rfl ?_
    refine Go_bipush (v := iZ 40) (pc' := 21) dX11_fittingCell_19 rfl (by decide) ?_
    refine Go_iremP (pc' := 22) dX11_fittingCell_21 rfl (by omega) (by omega) ?_
    refine Go_iload (pc' := 24) dX11_fittingCell_22 rfl rfl ?_
    refine Go_bipush (v := iZ 40) (pc' := 26) dX11_fittingCell_24 rfl (by decide) ?_
    refine Go_idivP (pc' := 27) dX11_fittingCell_26 rfl (by omega) (by omega) ?_
    refine Go_callV_i (pc' := 30) (As := [.ref _, .int _, .int _, .int _]) (st := []) dX11_fittingCell_27 rfl ok_X11_isFitting km_RX11_267 (I.S.o 64 rfl rfl rfl) (I.S.b 64 rfl rfl) ⟨_, _, rfl⟩ rfl (Nat.le_of_ble_eq_true rfl) rfl rfl rfl (Nat.le_of_ble_eq_true rfl) (Nat.lt_succ_self _) ?_
    refine s_fit I hnc ec2 hq hnq hu QS RR eP eS hP hS (by omega) (by omega) ?_
    refine ⟨_, rfl, ?_⟩
    refine Go_if_eqb (tgt := 44) (pc' := 33) dX11_fittingCell_30 (by decide) rfl (fun c30 => ?_) (fun c30 => ?_)
    · refine Go_iincZ (pc' := 47) (lv' := [.ref _, .ref _, .int _, .int _, .int _, .int _]) dX11_fittingCell_44 rfl rfl (Nat.le_of_ble_eq_true rfl) rfl rfl ?_
      refine Go_goto (tgt := 6) dX11_fittingCell_47 (by decide) ?_
      rw [nth_f (show ¬ (fitq h P S nc q s) i = true from c30)] at hk
      exact ih (i + 1) _ (by omega) hl hk
    · refine Go_iload (pc' := 35) dX11_fittingCell_33 rfl rfl ?_
      refine Go_if_neY (tgt := 41) (pc' := 38) dX11_fittingCell_35 (by decide) rfl (by first | exact ⟨i_lo _, i_hi _⟩ | omega) (fun c35 => ?_) (fun c35 => ?_)
      · refine Go_iincZ (pc' := 44) (lv' := [.ref _, .ref _, .int _, .int _, .int _, .int _]) dX11_fittingCell_41 rfl rfl (Nat.le_of_ble_eq_true rfl) rfl rfl ?_
        refine Go_iincZ (pc' := 47) (lv' := [.ref _, .ref _, .int _, .int _, .int _, .int _]) dX11_fittingCell_44 rfl rfl (Nat.le_of_ble_eq_true rfl) rfl rfl ?_
        refine Go_goto (tgt := 6) dX11_fittingCell_47 (by decide) ?_
        rw [nth_t (show (fitq h P S nc q s) i = true from c30) c35] at hk
        exact ih (i + 1) _ (by omega) (by omega) hk
      · refine Go_iload (pc' := 40) dX11_fittingCell_38 rfl rfl ?_
        refine Go_ireturn (ty := .int) dX11_fittingCell_40 rfl rfl ?_
        rw [nth_0 (show (fitq h P S nc q s) i = true from c30) c35] at hk; exact hk
set_option maxRecDepth 20000 in
set_option maxHeartbeats 1000000 in
theorem s_fc {G : GC} {d mc ms : Nat} {h : HS} {K : Option Value → HS → Prop} {q u nq nc : Nat} {P S : Int} {s : Int32} (I : Inv h) (hnc : nc ≤ 6) (ec2 : vi h 64 2 = iZ (nc : Int)) (ec0 : vi h 99 0 = iZ (nc : Int)) (hq : q < nq) (hnq : nq ≤ 16) (hu : ri h 80 q = some u) (QS : QkS h u) (RR : ∀ c, c < 6 → RdR h u q c) (eP : vi h 64 8 = iZ P) (eS : vi h 64 9 = iZ S) (eP2 : vi h 99 39 = iZ P) (eS2 : vi h 99 40 = iZ S) (hP : 1 ≤ P ∧ P ≤ 99) (hS : 1 ≤ S ∧ S ≤ 99) {n : Int} (hn : 0 ≤ n ∧ n ≤ 1600) (hk : K (some (.int (iZ (nthq (fitq h P S nc q s) 1600 0 n)))) h) : Go G (d + 3) mc ms M_X11_fittingCell 0 [.ref 64, .ref u, .int s, .int (iZ n), un, un] [] h K := by
  refine Go_iload_n (pc' := 1) dX11_fittingCell_0 rfl rfl rfl ?_
  refine Go_istore (pc' := 3) (lv' := [.ref _, .ref _, .int _, .int _, .int _, un]) dX11_fittingCell_1 rfl (Nat.le_of_ble_eq_true rfl) rfl rfl ?_
  refine Go_iconst (v := iZ 0) (pc' := 4) dX11_fittingCell_3 rfl (by decide) ?_
  refine Go_istore (pc' := 6) (lv' := [.ref _, .ref _, .int _, .int _, .int _, .int _]) dX11_fittingCell_4 rfl (Nat.le_of_ble_eq_true rfl) rfl rfl ?_
  exact fc_loop I hnc ec2 ec0 hq hnq hu QS RR eP eS eP2 eS2 hP hS 1600 0 n rfl hn hk
set_option maxRecDepth 20000 in
set_option maxHeartbeats 1000000 in
theorem fs_loop {G : GC} {d mc ms : Nat} {h : HS} {K : Option Value → HS → Prop} {q u nq nc : Nat} {P S : Int} {s : Int32} (I : Inv h) (hnc : nc ≤ 6) (ec2 : vi h 64 2 = iZ (nc : Int)) (ec0 : vi h 99 0 = iZ (nc : Int)) (hq : q < nq) (hnq : nq ≤ 16) (hu : ri h 80 q = some u) (QS : QkS h u) (RR : ∀ c, c < 6 → RdR h u q c) (eP : vi h 64 8 = iZ P) (eS : vi h 64 9 = iZ S) (eP2 : vi h 99 39 = iZ P) (eS2 : vi h 99 40 = iZ S) (hP : 1 ≤ P ∧ P ≤ 99) (hS : 1 ≤ S ∧ S ≤ 99) : ∀ (m i : Nat), i + m = 1600 → K (some (.int (b2i (fsB (fitq h P S nc q s) m i = true)))) h → Go G (d + 2) mc ms M_X12_fitsSome 2 [.ref 99, .int (iZ (q : Int)), .int s, .int (iZ (i : Int))] [] h K := by
  intro m
  induction m with
  | zero =>
    intro i hi hk
    refine Go_iload_n (pc' := 3) dX12_fitsSome_2 rfl rfl rfl ?_
    refine Go_sipush (v := iZ 1600) (pc' := 6) dX12_fitsSome_3 rfl (by decide) ?_
    refine Go_icmp_geY (tgt := 27) (pc' := 9) dX12_fitsSome_6 (by decide) rfl (by first | exact ⟨i_lo _, i_hi _⟩ | omega) (by first | exact ⟨i_lo _, i_hi _⟩ | omega) (fun c6 => ?_) (fun c6 => by exfalso; omega)
    refine Go_iconst (v := iZ 0) (pc' := 28) dX12_fitsSome_27 rfl (by decide) ?_
    refine Go_ireturn (ty := .boolean) dX12_fitsSome_28 rfl rfl ?_
    exact hk
  | succ m ih =>
    intro i hi hk
    refine Go_iload_n (pc' := 3) dX12_fitsSome_2 rfl rfl rfl ?_
    refine Go_sipush (v := iZ 1600) (pc' := 6) dX12_fitsSome_3 rfl (by decide) ?_
    refine Go_icmp_geY (tgt := 27) (pc' := 9) dX12_fitsSome_6 (by decide) rfl (by first | exact ⟨i_lo _, i_hi _⟩ | omega) (by first | exact ⟨i_lo _, i_hi _⟩ | omega) (fun c6 => by exfalso; omega) (fun c6 => ?_)
    refine Go_aload_n (pc' := 10) dX12_fitsSome_9 rfl rfl rfl ?_
    refine Go_iload_n (pc' := 11) dX12_fitsSome_10 rfl rfl rfl ?_
    refine Go_iload_n (pc' := 12) dX12_fitsSome_11 rfl rfl rfl ?_
    refine Go_iload_n (pc' := 13) dX12_fitsSome_12 rfl rfl rfl ?_
    refine Go_callV_i (pc' := 16) (As := [.int _, .int _, .int _]) (st := []) dX12_fitsSome_13 rfl ok_X12_isFit km_RX12_353 (I.S.o 99 rfl rfl rfl) (I.S.b 99 rfl rfl) ⟨_, _, rfl⟩ rfl (Nat.le_of_ble_eq_true rfl) rfl rfl rfl (Nat.le_of_ble_eq_true rfl) (Nat.lt_succ_self _) ?_
    refine s_fitM (x := (i : Int) % 40) (y := (i : Int) / 40) I hnc ec2 ec0 hq hnq RR eP2 eS2 hP hS (by omega) (by omega) (by omega) ?_
    refine ⟨_, rfl, ?_⟩
    refine Go_if_eqb (tgt := 21) (pc' := 19) dX12_fitsSome_16 (by decide) rfl (fun c16 => ?_) (fun c16 => ?_)
    · refine Go_iincZ (pc' := 24) (lv' := [.ref _, .int _, .int _, .int _]) dX12_fitsSome_21 rfl rfl (Nat.le_of_ble_eq_true rfl) rfl rfl ?_
      refine Go_goto (tgt := 2) dX12_fitsSome_24 (by decide) ?_
      rw [fs_f (show ¬ (fitq h P S nc q s) i = true from c16)] at hk
      exact ih (i + 1) (by omega) hk
    · refine Go_iconst (v := iZ 1) (pc' := 20) dX12_fitsSome_19 rfl (by decide) ?_
      refine Go_ireturn (ty := .boolean) dX12_fitsSome_20 rfl rfl ?_
      rw [b2i_t (fs_t (show (fitq h P S nc q s) i = true from c16))] at hk; exact hk
set_option maxRecDepth 20000 in
set_option maxHeartbeats 1000000 in
theorem s_fs {G : GC} {d mc ms : Nat} {h : HS} {K : Option Value → HS → Prop} {q u nq nc : Nat} {P S : Int} {s : Int32} (I : Inv h) (hnc : nc ≤ 6) (ec2 : vi h 64 2 = iZ (nc : Int)) (ec0 : vi h 99 0 = iZ (nc : Int)) (hq : q < nq) (hnq : nq ≤ 16) (hu : ri h 80 q = some u) (QS : QkS h u) (RR : ∀ c, c < 6 → RdR h u q c) (eP : vi h 64 8 = iZ P) (eS : vi h 64 9 = iZ S) (eP2 : vi h 99 39 = iZ P) (eS2 : vi h 99 40 = iZ S) (hP : 1 ≤ P ∧ P ≤ 99) (hS : 1 ≤ S ∧ S ≤ 99) (hk : K (some (.int (b2i (fsB (fitq h P S nc q s) 1600 0 = true)))) h) : Go G (d + 2) mc ms M_X12_fitsSome 0 [.ref 99, .int (iZ (q : Int)), .int s, un] [] h K := by
  refine Go_iconst (v := iZ 0) (pc' := 1) dX12_fitsSome_0 rfl (by decide) ?_
  refine Go_istore_n (pc' := 2) (lv' := [.ref _, .int _, .int _, .int _]) dX12_fitsSome_1 rfl rfl (Nat.le_of_ble_eq_true rfl) rfl rfl ?_
  exact fs_loop I hnc ec2 ec0 hq hnq hu QS RR eP eS eP2 eS2 hP hS 1600 0 rfl hk
set_option maxRecDepth 20000 in
set_option maxHeartbeats 1000000 in
theorem fm0_loop {G : GC} {d mc ms : Nat} {h : HS} {K : Option Value → HS → Prop} {q u nq nc : Nat} {P S : Int} {s : Int32} (I : Inv h) (hnc : nc ≤ 6) (ec2 : vi h 64 2 = iZ (nc : Int)) (ec0 : vi h 99 0 = iZ (nc : Int)) (hq : q < nq) (hnq : nq ≤ 16) (hu : ri h 80 q = some u) (QS : QkS h u) (RR : ∀ c, c < 6 → RdR h u q c) (eP : vi h 64 8 = iZ P) (eS : vi h 64 9 = iZ S) (eP2 : vi h 99 39 = iZ P) (eS2 : vi h 99 40 = iZ S) (hP : 1 ≤ P ∧ P ≤ 99) (hS : 1 ≤ S ∧ S ≤ 99) : ∀ (m i : Nat) (a : Int), i + m = 1600 → 0 ≤ a ∧ a ≤ i → K (some (.int (iZ (cq (fitq h P S nc q s) m i a)))) h → Go G (d + 2) mc ms M_X12_fits 30 [.ref 99, .int (iZ (q : Int)), .int s, .int (iZ 0), .int (iZ a), .int (iZ (i : Int))] [] h K := by
  intro m
  induction m with
  | zero =>
    intro i a hi ha hk
    refine Go_iload (pc' := 32) dX12_fits_30 rfl rfl ?_
    refine Go_sipush (v := iZ 1600) (pc' := 35) dX12_fits_32 rfl (by decide) ?_
    refine Go_icmp_geY (tgt := 70) (pc' := 38) dX12_fits_35 (by decide) rfl (by first | exact ⟨i_lo _, i_hi _⟩ | omega) (by first | exact ⟨i_lo _, i_hi _⟩ | omega) (fun c35 => ?_) (fun c35 => by exfalso; omega)
    refine Go_iload_n (pc' := 71) dX12_fits_70 rfl rfl rfl ?_
    refine Go_if_neY (tgt := 79) (pc' := 74) dX12_fits_71 (by decide) rfl (by first | exact ⟨i_lo _, i_hi _⟩ | omega) (fun c71 => by exfalso; omega) (fun c71 => ?_)
    refine Go_iload (pc' := 76) dX12_fits_74 rfl rfl ?_
    refine Go_goto (tgt := 80) dX12_fits_76 (by decide) ?_
    refine Go_ireturn (ty := .int) dX12_fits_80 rfl rfl ?_
    exact hk
  | succ m ih =>
    intro i a hi ha hk
    refine Go_iload (pc' := 32) dX12_fits_30 rfl rfl ?_
    refine Go_sipush (v := iZ 1600) (pc' := 35) dX12_fits_32 rfl (by decide) ?_
    refine Go_icmp_geY (tgt := 70) (pc' := 38) dX12_fits_35 (by decide) rfl (by first | exact ⟨i_lo _, i_hi _⟩ | omega) (by first | exact ⟨i_lo _, i_hi _⟩ | omega) (fun c35 => by exfalso; omega) (fun c35 => ?_)
    refine Go_aload_n (pc' := 39) dX12_fits_38 rfl rfl rfl ?_
    refine Go_iload_n (pc' := 40) dX12_fits_39 rfl rfl rfl ?_
    refine Go_iload_n (pc' := 41) dX12_fits_40 rfl rfl rfl ?_
    refine Go_iload (pc' := 43) dX12_fits_41 rfl rfl ?_
    refine Go_callV_i (pc' := 46) (As := [.int _, .int _, .int _]) (st := []) dX12_fits_43 rfl ok_X12_isFit km_RX12_353 (I.S.o 99 rfl rfl rfl) (I.S.b 99 rfl rfl) ⟨_, _, rfl⟩ rfl (Nat.le_of_ble_eq_true rfl) rfl rfl rfl (Nat.le_of_ble_eq_true rfl) (Nat.lt_succ_self _) ?_
    refine s_fitM (x := (i : Int) % 40) (y := (i : Int) / 40) I hnc ec2 ec0 hq hnq RR eP2 eS2 hP hS (by omega) (by omega) (by omega) ?_
    refine ⟨_, rfl, ?_⟩
    refine Go_if_neb (tgt := 52) (pc' := 49) dX12_fits_46 (by decide) rfl (fun c46 => ?_) (fun c46 => ?_)
    · refine Go_iincZ (pc' := 55) (lv' := [.ref _, .int _, .int _, .int _, .int _, .int _]) dX12_fits_52 rfl rfl (Nat.le_of_ble_eq_true rfl) rfl rfl ?_
      refine Go_iload (pc' := 57) dX12_fits_55 rfl rfl ?_
      refine Go_iload_n (pc' := 58) dX12_fits_57 rfl rfl rfl ?_
      refine Go_icmp_neY (tgt := 64) (pc' := 61) dX12_fits_58 (by decide) rfl (by first | exact ⟨i_lo _, i_hi _⟩ | omega) (by first | exact ⟨i_lo _, i_hi _⟩ | omega) (fun c58 => ?_) (fun c58 => by exfalso; omega)
      refine Go_iincZ (pc' := 67) (lv' := [.ref _, .int _, .int _, .int _, .int _, .int _]) dX12_fits_64 rfl rfl (Nat.le_of_ble_eq_true rfl) rfl rfl ?_
      refine Go_goto (tgt := 30) dX12_fits_67 (by decide) ?_
      rw [cq_t (show (fitq h P S nc q s) i = true from c46)] at hk
      exact ih (i + 1) _ (by omega) (by omega) hk
    · refine Go_goto (tgt := 64) dX12_fits_49 (by decide) ?_
      refine Go_iincZ (pc' := 67) (lv' := [.ref _, .int _, .int _, .int _, .int _, .int _]) dX12_fits_64 rfl rfl (Nat.le_of_ble_eq_true rfl) rfl rfl ?_
      refine Go_goto (tgt := 30) dX12_fits_67 (by decide) ?_
      rw [cq_f (show ¬ (fitq h P S nc q s) i = true from c46)] at hk
      exact ih (i + 1) _ (by omega) (by omega) hk
set_option maxRecDepth 20000 in
set_option maxHeartbeats 1000000 in
theorem fmw_loop {G : GC} {d mc ms : Nat} {h : HS} {K : Option Value → HS → Prop} {q u nq nc : Nat} {P S : Int} {s : Int32} (I : Inv h) (hnc : nc ≤ 6) (ec2 : vi h 64 2 = iZ (nc : Int)) (ec0 : vi h 99 0 = iZ (nc : Int)) (hq : q < nq) (hnq : nq ≤ 16) (hu : ri h 80 q = some u) (QS : QkS h u) (RR : ∀ c, c < 6 → RdR h u q c) (eP : vi h 64 8 = iZ P) (eS : vi h 64 9 = iZ S) (eP2 : vi h 99 39 = iZ P) (eS2 : vi h 99 40 = iZ S) (hP : 1 ≤ P ∧ P ≤ 99) (hS : 1 ≤ S ∧ S ≤ 99) {w : Int} (hw : 1 ≤ w ∧ w < 2147483648) : ∀ (m i : Nat) (a : Int), i + m = 1600 → 0 ≤ a ∧ a ≤ i → K (some (.int (iZ (nthq (fitq h P S nc q s) m i (w - 1 - a))))) h → Go G (d + 2) mc ms M_X12_fits 30 [.ref 99, .int (iZ (q : Int)), .int s, .int (iZ w), .int (iZ a), .int (iZ (i : Int))] [] h K := by
  intro m
  induction m with
  | zero =>
    intro i a hi ha hk
    refine Go_iload (pc' := 32) dX12_fits_30 rfl rfl ?_
    refine Go_sipush (v := iZ 1600) (pc' := 35) dX12_fits_32 rfl (by decide) ?_
    refine Go_icmp_geY (tgt := 70) (pc' := 38) dX12_fits_35 (by decide) rfl (by first | exact ⟨i_lo _, i_hi _⟩ | omega) (by first | exact ⟨i_lo _, i_hi _⟩ | omega) (fun c35 => ?_) (fun c35 => by exfalso; omega)
    refine Go_iload_n (pc' := 71) dX12_fits_70 rfl rfl rfl ?_
    refine Go_if_neY (tgt := 79) (pc' := 74) dX12_fits_71 (by decide) rfl (by first | exact ⟨i_lo _, i_hi _⟩ | omega) (fun c71 => ?_) (fun c71 => by exfalso; omega)
    refine Go_iconst (v := iZ (-1)) (pc' := 80) dX12_fits_79 rfl (by decide) ?_
    refine Go_ireturn (ty := .int) dX12_fits_80 rfl rfl ?_
    exact hk
  | succ m ih =>
    intro i a hi ha hk
    refine Go_iload (pc' := 32) dX12_fits_30 rfl rfl ?_
    refine Go_sipush (v := iZ 1600) (pc' := 35) dX12_fits_32 rfl (by decide) ?_
    refine Go_icmp_geY (tgt := 70) (pc' := 38) dX12_fits_35 (by decide) rfl (by first | exact ⟨i_lo _, i_hi _⟩ | omega) (by first | exact ⟨i_lo _, i_hi _⟩ | omega) (fun c35 => by exfalso; omega) (fun c35 => ?_)
    refine Go_aload_n (pc' := 39) dX12_fits_38 rfl rfl rfl ?_
    refine Go_iload_n (pc' := 40) dX12_fits_39 rfl rfl rfl ?_
    refine Go_iload_n (pc' := 41) dX12_fits_40 rfl rfl rfl ?_
    refine Go_iload (pc' := 43) dX12_fits_41 rfl rfl ?_
    refine Go_callV_i (pc' := 46) (As := [.int _, .int _, .int _]) (st := []) dX12_fits_43 rfl ok_X12_isFit km_RX12_353 (I.S.o 99 rfl rfl rfl) (I.S.b 99 rfl rfl) ⟨_, _, rfl⟩ rfl (Nat.le_of_ble_eq_true rfl) rfl rfl rfl (Nat.le_of_ble_eq_true rfl) (Nat.lt_succ_self _) ?_
    refine s_fitM (x := (i : Int) % 40) (y := (i : Int) / 40) I hnc ec2 ec0 hq hnq RR eP2 eS2 hP hS (by omega) (by omega) (by omega) ?_
    refine ⟨_, rfl, ?_⟩
    refine Go_if_neb (tgt := 52) (pc' := 49) dX12_fits_46 (by decide) rfl (fun c46 => ?_) (fun c46 => ?_)
    · refine Go_iincZ (pc' := 55) (lv' := [.ref _, .int _, .int _, .int _, .int _, .int _]) dX12_fits_52 rfl rfl (Nat.le_of_ble_eq_true rfl) rfl rfl ?_
      refine Go_iload (pc' := 57) dX12_fits_55 rfl rfl ?_
      refine Go_iload_n (pc' := 58) dX12_fits_57 rfl rfl rfl ?_
      refine Go_icmp_neY (tgt := 64) (pc' := 61) dX12_fits_58 (by decide) rfl (by first | exact ⟨i_lo _, i_hi _⟩ | omega) (by first | exact ⟨i_lo _, i_hi _⟩ | omega) (fun c58 => ?_) (fun c58 => ?_)
      · refine Go_iincZ (pc' := 67) (lv' := [.ref _, .int _, .int _, .int _, .int _, .int _]) dX12_fits_64 rfl rfl (Nat.le_of_ble_eq_true rfl) rfl rfl ?_
        refine Go_goto (tgt := 30) dX12_fits_67 (by decide) ?_
        rw [nth_t (show (fitq h P S nc q s) i = true from c46) (by omega), show w - 1 - a + (-1) = w - 1 - (a + 1) by omega] at hk
        exact ih (i + 1) _ (by omega) (by omega) hk
      · refine Go_iload (pc' := 63) dX12_fits_61 rfl rfl ?_
        refine Go_ireturn (ty := .int) dX12_fits_63 rfl rfl ?_
        rw [nth_0 (show (fitq h P S nc q s) i = true from c46) (by omega)] at hk; exact hk
    · refine Go_goto (tgt := 64) dX12_fits_49 (by decide) ?_
      refine Go_iincZ (pc' := 67) (lv' := [.ref _, .int _, .int _, .int _, .int _, .int _]) dX12_fits_64 rfl rfl (Nat.le_of_ble_eq_true rfl) rfl rfl ?_
      refine Go_goto (tgt := 30) dX12_fits_67 (by decide) ?_
      rw [nth_f (show ¬ (fitq h P S nc q s) i = true from c46)] at hk
      exact ih (i + 1) _ (by omega) (by omega) hk
set_option maxRecDepth 20000 in
set_option maxHeartbeats 1000000 in
theorem pair24 {G : GC} (a b c : Int32) : PairI G M_X11_fit M_X12_fit [.int a, .int b, .int c] := by
  intro h I
  obtain ⟨Az, hva, rfl⟩ := i_eta a
  obtain ⟨Bz, hvb, rfl⟩ := i_eta b
  obtain ⟨Cz, hvc, rfl⟩ := i_eta c
  obtain ⟨nq, hnq, eq7⟩ := of_rgZ (b := 16) I.Q.1.2
  have eq38 : vi h 99 38 = iZ (nq : Int) := I.Q.1.1.trans eq7
  obtain ⟨nc, hnc, ec2⟩ := of_rgZ (b := 6) I.C.1.2
  have ec0 : vi h 99 0 = iZ (nc : Int) := I.C.1.1.trans ec2
  rcases qk_cases I hnq eq7 Az with hq0 | ⟨q, u, rfl, hq, hu, QS, PV, RR⟩
  · refine PairI.ro' (fun _ => iZ (-1)) h I (fun K k => ?_) (fun K k => ?_)
    · show Go G 60 0 0 M_X11_fit 0 [.ref 64, .int (iZ Az), .int (iZ Bz), .int (iZ Cz), un] [] h K
      refine Go_aload_n (pc' := 1) dX11_fit_0 rfl rfl rfl ?_
      refine Go_iload_n (pc' := 2) dX11_fit_1 rfl rfl rfl ?_
      refine Go_callV_r (pc' := 5) (As := [.int _]) (st := []) dX11_fit_2 rfl ok_X11_quakeOf km_RX11_230 (I.S.o 64 rfl rfl rfl) (I.S.b 64 rfl rfl) ⟨_, _, rfl⟩ rfl (Nat.le_of_ble_eq_true rfl) rfl rfl rfl (Nat.le_of_ble_eq_true rfl) (Nat.lt_succ_self _) ?_
      refine Go_iload_n (pc' := 1) dX11_quakeOf_0 rfl rfl rfl ?_
      refine Go_iconst (v := iZ 0) (pc' := 2) dX11_quakeOf_1 rfl (by decide) ?_
      refine Go_aload_n (pc' := 3) dX11_quakeOf_2 rfl rfl rfl ?_
      refine Go_getIv (v := (iZ (nq : Int))) (pc' := 6) dX11_quakeOf_3 rfl kf_RX11_226 (by decide) (by decide) rfl (I.S.b 64 rfl rfl) (I.S.o 64 rfl rfl rfl) (eq7) ?_
      refine Go_iconst (v := iZ 1) (pc' := 7) dX11_quakeOf_6 rfl (by decide) ?_
      refine Go_isubZ (pc' := 8) dX11_quakeOf_7 rfl ?_
      refine Go_callS_i (pc' := 11) (As := [.int _, .int _, .int _]) (st := []) dX11_quakeOf_8 rfl ok_X11_within km_RX11_94 rfl (Nat.le_of_ble_eq_true rfl) rfl rfl rfl (Nat.le_of_ble_eq_true rfl) (Nat.lt_succ_self _) ?_
      refine s_withinY (by first | exact ⟨i_lo _, i_hi _⟩ | omega) (by first | exact ⟨i_lo _, i_hi _⟩ | omega) (by first | exact ⟨i_lo _, i_hi _⟩ | omega) ?_
      refine ⟨_, rfl, ?_⟩
      refine Go_if_eqb (tgt := 32) (pc' := 14) dX11_quakeOf_11 (by decide) rfl (fun q11 => ?_) (fun q11 => by exfalso; omega)
      refine Go_null (pc' := 33) dX11_quakeOf_32 rfl ?_
      refine Go_areturn (r := none) dX11_quakeOf_33 rfl ?_
      refine ⟨none, rfl, ?_⟩
      refine Go_astoreN (pc' := 7) (lv' := [.ref _, .int _, .int _, .int _, .null]) dX11_fit_5 rfl (Nat.le_of_ble_eq_true rfl) rfl rfl ?_
      refine Go_aloadN (pc' := 9) dX11_fit_7 rfl rfl ?_
      refine Go_ifnullN (tgt := 20) dX11_fit_9 (by decide) ?_
      refine Go_iconst (v := iZ (-1)) (pc' := 21) dX11_fit_20 rfl (by decide) ?_
      refine Go_ireturn (ty := .int) dX11_fit_21 rfl rfl ?_
      exact k
    · show Go G 60 0 0 M_X12_fit 0 [.ref 99, .int (iZ Az), .int (iZ Bz), .int (iZ Cz)] [] h K
      refine Go_aload_n (pc' := 1) dX12_fit_0 rfl rfl rfl ?_
      refine Go_iload_n (pc' := 2) dX12_fit_1 rfl rfl rfl ?_
      refine Go_callV_i (pc' := 5) (As := [.int _]) (st := []) dX12_fit_2 rfl ok_X12_isQuake km_RX12_340 (I.S.o 99 rfl rfl rfl) (I.S.b 99 rfl rfl) ⟨_, _, rfl⟩ rfl (Nat.le_of_ble_eq_true rfl) rfl rfl rfl (Nat.le_of_ble_eq_true rfl) (Nat.lt_succ_self _) ?_
      refine Go_iload_n (pc' := 1) dX12_isQuake_0 rfl rfl rfl ?_
      refine Go_iconst (v := iZ 0) (pc' := 2) dX12_isQuake_1 rfl (by decide) ?_
      refine Go_aload_n (pc' := 3) dX12_isQuake_2 rfl rfl rfl ?_
      refine Go_getIv (v := (iZ (nq : Int))) (pc' := 6) dX12_isQuake_3 rfl kf_RX12_336 (by decide) (by decide) rfl (I.S.b 99 rfl rfl) (I.S.o 99 rfl rfl rfl) (eq38) ?_
      refine Go_iconst (v := iZ 1) (pc' := 7) dX12_isQuake_6 rfl (by decide) ?_
      refine Go_isubZ (pc' := 8) dX12_isQuake_7 rfl ?_
      refine Go_callS_i (pc' := 11) (As := [.int _, .int _, .int _]) (st := []) dX12_isQuake_8 rfl ok_X12_isIn km_RX12_147 rfl (Nat.le_of_ble_eq_true rfl) rfl rfl rfl (Nat.le_of_ble_eq_true rfl) (Nat.lt_succ_self _) ?_
      refine s_isInY (by first | exact ⟨i_lo _, i_hi _⟩ | omega) (by first | exact ⟨i_lo _, i_hi _⟩ | omega) (by first | exact ⟨i_lo _, i_hi _⟩ | omega) ?_
      refine ⟨_, rfl, ?_⟩
      refine Go_ireturn (ty := .boolean) dX12_isQuake_11 rfl b2i_nb ?_
      refine ⟨_, rfl, ?_⟩
      refine Go_if_eqb (tgt := 40) (pc' := 8) dX12_fit_5 (by decide) rfl (fun c5 => ?_) (fun c5 => by exfalso; omega)
      refine Go_iconst (v := iZ (-1)) (pc' := 41) dX12_fit_40 rfl (by decide) ?_
      refine Go_ireturn (ty := .int) dX12_fit_41 rfl rfl ?_
      exact k
  · obtain ⟨P, hP, eP⟩ := rgE I.W.2.2.1
    obtain ⟨S, hS, eS⟩ := rgE I.W.2.2.2.1
    have eP2 : vi h 99 39 = iZ P := I.W.1.symm.trans eP
    have eS2 : vi h 99 40 = iZ S := I.W.2.1.symm.trans eS
    by_cases hc : (0 ≤ Bz ∧ Bz ≤ 39) ∧ (0 ≤ Cz ∧ Cz ≤ 39)
    · refine PairI.ro' (fun _ => iZ (if fl (ff h P S q (iZ 63) Bz Cz) nc 0 (-2147483648) 2147483647 = true then 1 else 0)) h I (fun K k => ?_) (fun K k => ?_)
      · show Go G 60 0 0 M_X11_fit 0 [.ref 64, .int (iZ (q : Int)), .int (iZ Bz), .int (iZ Cz), un] [] h K
        refine Go_aload_n (pc' := 1) dX11_fit_0 rfl rfl rfl ?_
        refine Go_iload_n (pc' := 2) dX11_fit_1 rfl rfl rfl ?_
        refine Go_callV_r (pc' := 5) (As := [.int _]) (st := []) dX11_fit_2 rfl ok_X11_quakeOf km_RX11_230 (I.S.o 64 rfl rfl rfl) (I.S.b 64 rfl rfl) ⟨_, _, rfl⟩ rfl (Nat.le_of_ble_eq_true rfl) rfl rfl rfl (Nat.le_of_ble_eq_true rfl) (Nat.lt_succ_self _) ?_
        refine Go_iload_n (pc' := 1) dX11_quakeOf_0 rfl rfl rfl ?_
        refine Go_iconst (v := iZ 0) (pc' := 2) dX11_quakeOf_1 rfl (by decide) ?_
        refine Go_aload_n (pc' := 3) dX11_quakeOf_2 rfl rfl rfl ?_
        refine Go_getIv (v := (iZ (nq : Int))) (pc' := 6) dX11_quakeOf_3 rfl kf_RX11_226 (by decide) (by decide) rfl (I.S.b 64 rfl rfl) (I.S.o 64 rfl rfl rfl) (eq7) ?_
        refine Go_iconst (v := iZ 1) (pc' := 7) dX11_quakeOf_6 rfl (by decide) ?_
        refine Go_isubZ (pc' := 8) dX11_quakeOf_7 rfl ?_
        refine Go_callS_i (pc' := 11) (As := [.int _, .int _, .int _]) (st := []) dX11_quakeOf_8 rfl ok_X11_within km_RX11_94 rfl (Nat.le_of_ble_eq_true rfl) rfl rfl rfl (Nat.le_of_ble_eq_true rfl) (Nat.lt_succ_self _) ?_
        refine s_withinY (by first | exact ⟨i_lo _, i_hi _⟩ | omega) (by first | exact ⟨i_lo _, i_hi _⟩ | omega) (by first | exact ⟨i_lo _, i_hi _⟩ | omega) ?_
        refine ⟨_, rfl, ?_⟩
        refine Go_if_eqb (tgt := 32) (pc' := 14) dX11_quakeOf_11 (by decide) rfl (fun q11 => by exfalso; omega) (fun q11 => ?_)
        refine Go_iload_n (pc' := 15) dX11_quakeOf_14 rfl rfl rfl ?_
        refine Go_aload_n (pc' := 16) dX11_quakeOf_15 rfl rfl rfl ?_
        refine Go_getRs (pc' := 19) dX11_quakeOf_16 rfl kf_RX11_45 (by decide) (by decide) rfl (I.S.b 64 rfl rfl) (I.S.o 64 rfl rfl rfl) (I.S.r 64 6 rfl rfl rfl) ?_
        refine Go_alenZ (n := 16) (pc' := 20) dX11_quakeOf_19 rfl (I.S.b 80 rfl rfl) (I.S.k 80 rfl rfl rfl) (Or.inr (Or.inr ⟨_, rfl⟩)) ?_
        refine Go_icmp_geY (tgt := 32) (pc' := 23) dX11_quakeOf_20 (by decide) rfl (by first | exact ⟨i_lo _, i_hi _⟩ | omega) (by first | exact ⟨i_lo _, i_hi _⟩ | omega) (fun q20 => by exfalso; omega) (fun q20 => ?_)
        refine Go_aload_n (pc' := 24) dX11_quakeOf_23 rfl rfl rfl ?_
        refine Go_getRs (pc' := 27) dX11_quakeOf_24 rfl kf_RX11_45 (by decide) (by decide) rfl (I.S.b 64 rfl rfl) (I.S.o 64 rfl rfl rfl) (I.S.r 64 6 rfl rfl rfl) ?_
        refine Go_iload_n (pc' := 28) dX11_quakeOf_27 rfl rfl rfl ?_
        refine Go_aaloadZ (n := 16) (k := q) (pc' := 29) dX11_quakeOf_28 rfl (I.S.b 80 rfl rfl) (I.S.k 80 rfl rfl rfl) rfl rfl (by omega) (by decide) hu ?_
        refine Go_goto (tgt := 33) dX11_quakeOf_29 (by decide) ?_
        refine Go_areturn (r := some _) dX11_quakeOf_33 rfl ?_
        refine ⟨some _, rfl, ?_⟩
        refine Go_astore (pc' := 7) (lv' := [.ref _, .int _, .int _, .int _, .ref _]) dX11_fit_5 rfl (Nat.le_of_ble_eq_true rfl) rfl rfl ?_
        refine Go_aload (pc' := 9) dX11_fit_7 rfl rfl ?_
        refine Go_ifnull (pc' := 12) dX11_fit_9 rfl ?_
        refine Go_iload_n (pc' := 13) dX11_fit_12 rfl rfl rfl ?_
        refine Go_iload_n (pc' := 14) dX11_fit_13 rfl rfl rfl ?_
        refine Go_callS_i (pc' := 17) (As := [.int _, .int _]) (st := []) dX11_fit_14 rfl ok_X11_isCell km_RX11_80 rfl (Nat.le_of_ble_eq_true rfl) rfl rfl rfl (Nat.le_of_ble_eq_true rfl) (Nat.lt_succ_self _) ?_
        refine s_isCellY (by first | exact ⟨i_lo _, i_hi _⟩ | omega) (by first | exact ⟨i_lo _, i_hi _⟩ | omega) ?_
        refine ⟨_, rfl, ?_⟩
        refine Go_if_neb (tgt := 22) (pc' := 20) dX11_fit_17 (by decide) rfl (fun c17 => ?_) (fun c17 => by exfalso; omega)
        refine Go_aload_n (pc' := 23) dX11_fit_22 rfl rfl rfl ?_
        refine Go_aload (pc' := 25) dX11_fit_23 rfl rfl ?_
        refine Go_bipush (v := iZ 63) (pc' := 27) dX11_fit_25 rfl (by decide) ?_
        refine Go_iload_n (pc' := 28) dX11_fit_27 rfl rfl rfl ?_
        refine Go_iload_n (pc' := 29) dX11_fit_28 rfl rfl rfl ?_
        refine Go_callV_i (pc' := 32) (As := [.ref _, .int _, .int _, .int _]) (st := []) dX11_fit_29 rfl ok_X11_isFitting km_RX11_267 (I.S.o 64 rfl rfl rfl) (I.S.b 64 rfl rfl) ⟨_, _, rfl⟩ rfl (Nat.le_of_ble_eq_true rfl) rfl rfl rfl (Nat.le_of_ble_eq_true rfl) (Nat.lt_succ_self _) ?_
        refine s_fit I hnc ec2 hq hnq hu QS RR eP eS hP hS (by omega) (by omega) ?_
        refine ⟨_, rfl, ?_⟩
        refine Go_if_eqb (tgt := 39) (pc' := 35) dX11_fit_32 (by decide) rfl (fun c32 => ?_) (fun c32 => ?_)
        · refine Go_iconst (v := iZ 0) (pc' := 40) dX11_fit_39 rfl (by decide) ?_
          refine Go_ireturn (ty := .int) dX11_fit_40 rfl rfl ?_
          rw [if_neg c32] at k; exact k
        · refine Go_iconst (v := iZ 1) (pc' := 36) dX11_fit_35 rfl (by decide) ?_
          refine Go_goto (tgt := 40) dX11_fit_36 (by decide) ?_
          refine Go_ireturn (ty := .int) dX11_fit_40 rfl rfl ?_
          rw [if_pos c32] at k; exact k
      · show Go G 60 0 0 M_X12_fit 0 [.ref 99, .int (iZ (q : Int)), .int (iZ Bz), .int (iZ Cz)] [] h K
        refine Go_aload_n (pc' := 1) dX12_fit_0 rfl rfl rfl ?_
        refine Go_iload_n (pc' := 2) dX12_fit_1 rfl rfl rfl ?_
        refine Go_callV_i (pc' := 5) (As := [.int _]) (st := []) dX12_fit_2 rfl ok_X12_isQuake km_RX12_340 (I.S.o 99 rfl rfl rfl) (I.S.b 99 rfl rfl) ⟨_, _, rfl⟩ rfl (Nat.le_of_ble_eq_true rfl) rfl rfl rfl (Nat.le_of_ble_eq_true rfl) (Nat.lt_succ_self _) ?_
        refine Go_iload_n (pc' := 1) dX12_isQuake_0 rfl rfl rfl ?_
        refine Go_iconst (v := iZ 0) (pc' := 2) dX12_isQuake_1 rfl (by decide) ?_
        refine Go_aload_n (pc' := 3) dX12_isQuake_2 rfl rfl rfl ?_
        refine Go_getIv (v := (iZ (nq : Int))) (pc' := 6) dX12_isQuake_3 rfl kf_RX12_336 (by decide) (by decide) rfl (I.S.b 99 rfl rfl) (I.S.o 99 rfl rfl rfl) (eq38) ?_
        refine Go_iconst (v := iZ 1) (pc' := 7) dX12_isQuake_6 rfl (by decide) ?_
        refine Go_isubZ (pc' := 8) dX12_isQuake_7 rfl ?_
        refine Go_callS_i (pc' := 11) (As := [.int _, .int _, .int _]) (st := []) dX12_isQuake_8 rfl ok_X12_isIn km_RX12_147 rfl (Nat.le_of_ble_eq_true rfl) rfl rfl rfl (Nat.le_of_ble_eq_true rfl) (Nat.lt_succ_self _) ?_
        refine s_isInY (by first | exact ⟨i_lo _, i_hi _⟩ | omega) (by first | exact ⟨i_lo _, i_hi _⟩ | omega) (by first | exact ⟨i_lo _, i_hi _⟩ | omega) ?_
        refine ⟨_, rfl, ?_⟩
        refine Go_ireturn (ty := .boolean) dX12_isQuake_11 rfl b2i_nb ?_
        refine ⟨_, rfl, ?_⟩
        refine Go_if_eqb (tgt := 40) (pc' := 8) dX12_fit_5 (by decide) rfl (fun c5 => by exfalso; omega) (fun c5 => ?_)
        refine Go_iload_n (pc' := 9) dX12_fit_8 rfl rfl rfl ?_
        refine Go_iload_n (pc' := 10) dX12_fit_9 rfl rfl rfl ?_
        refine Go_callS_i (pc' := 13) (As := [.int _, .int _]) (st := []) dX12_fit_10 rfl ok_X12_isCell km_RX12_154 rfl (Nat.le_of_ble_eq_true rfl) rfl rfl rfl (Nat.le_of_ble_eq_true rfl) (Nat.lt_succ_self _) ?_
        refine s_isCellMY (by first | exact ⟨i_lo _, i_hi _⟩ | omega) (by first | exact ⟨i_lo _, i_hi _⟩ | omega) ?_
        refine ⟨_, rfl, ?_⟩
        refine Go_if_eqb (tgt := 40) (pc' := 16) dX12_fit_13 (by decide) rfl (fun c13 => by exfalso; omega) (fun c13 => ?_)
        refine Go_aload_n (pc' := 17) dX12_fit_16 rfl rfl rfl ?_
        refine Go_iload_n (pc' := 18) dX12_fit_17 rfl rfl rfl ?_
        refine Go_bipush (v := iZ 63) (pc' := 20) dX12_fit_18 rfl (by decide) ?_
        refine Go_bipush (v := iZ 40) (pc' := 22) dX12_fit_20 rfl (by decide) ?_
        refine Go_iload_n (pc' := 23) dX12_fit_22 rfl rfl rfl ?_
        refine Go_imulZ (pc' := 24) dX12_fit_23 rfl ?_
        refine Go_iload_n (pc' := 25) dX12_fit_24 rfl rfl rfl ?_
        refine Go_iaddZ (pc' := 26) dX12_fit_25 rfl ?_
        refine Go_callV_i (pc' := 29) (As := [.int _, .int _, .int _]) (st := []) dX12_fit_26 rfl ok_X12_isFit km_RX12_353 (I.S.o 99 rfl rfl rfl) (I.S.b 99 rfl rfl) ⟨_, _, rfl⟩ rfl (Nat.le_of_ble_eq_true rfl) rfl rfl rfl (Nat.le_of_ble_eq_true rfl) (Nat.lt_succ_self _) ?_
        refine s_fitM (x := Bz) (y := Cz) I hnc ec2 ec0 hq hnq RR eP2 eS2 hP hS (by omega) (by omega) (by omega) ?_
        refine ⟨_, rfl, ?_⟩
        refine Go_if_eqb (tgt := 36) (pc' := 32) dX12_fit_29 (by decide) rfl (fun c29 => ?_) (fun c29 => ?_)
        · refine Go_iconst (v := iZ 0) (pc' := 37) dX12_fit_36 rfl (by decide) ?_
          refine Go_goto (tgt := 41) dX12_fit_37 (by decide) ?_
          refine Go_ireturn (ty := .int) dX12_fit_41 rfl rfl ?_
          rw [if_neg c29] at k; exact k
        · refine Go_iconst (v := iZ 1) (pc' := 33) dX12_fit_32 rfl (by decide) ?_
          refine Go_goto (tgt := 41) dX12_fit_33 (by decide) ?_
          refine Go_ireturn (ty := .int) dX12_fit_41 rfl rfl ?_
          rw [if_pos c29] at k; exact k
    · refine PairI.ro' (fun _ => iZ (-1)) h I (fun K k => ?_) (fun K k => ?_)
      · show Go G 60 0 0 M_X11_fit 0 [.ref 64, .int (iZ (q : Int)), .int (iZ Bz), .int (iZ Cz), un] [] h K
        refine Go_aload_n (pc' := 1) dX11_fit_0 rfl rfl rfl ?_
        refine Go_iload_n (pc' := 2) dX11_fit_1 rfl rfl rfl ?_
        refine Go_callV_r (pc' := 5) (As := [.int _]) (st := []) dX11_fit_2 rfl ok_X11_quakeOf km_RX11_230 (I.S.o 64 rfl rfl rfl) (I.S.b 64 rfl rfl) ⟨_, _, rfl⟩ rfl (Nat.le_of_ble_eq_true rfl) rfl rfl rfl (Nat.le_of_ble_eq_true rfl) (Nat.lt_succ_self _) ?_
        refine Go_iload_n (pc' := 1) dX11_quakeOf_0 rfl rfl rfl ?_
        refine Go_iconst (v := iZ 0) (pc' := 2) dX11_quakeOf_1 rfl (by decide) ?_
        refine Go_aload_n (pc' := 3) dX11_quakeOf_2 rfl rfl rfl ?_
        refine Go_getIv (v := (iZ (nq : Int))) (pc' := 6) dX11_quakeOf_3 rfl kf_RX11_226 (by decide) (by decide) rfl (I.S.b 64 rfl rfl) (I.S.o 64 rfl rfl rfl) (eq7) ?_
        refine Go_iconst (v := iZ 1) (pc' := 7) dX11_quakeOf_6 rfl (by decide) ?_
        refine Go_isubZ (pc' := 8) dX11_quakeOf_7 rfl ?_
        refine Go_callS_i (pc' := 11) (As := [.int _, .int _, .int _]) (st := []) dX11_quakeOf_8 rfl ok_X11_within km_RX11_94 rfl (Nat.le_of_ble_eq_true rfl) rfl rfl rfl (Nat.le_of_ble_eq_true rfl) (Nat.lt_succ_self _) ?_
        refine s_withinY (by first | exact ⟨i_lo _, i_hi _⟩ | omega) (by first | exact ⟨i_lo _, i_hi _⟩ | omega) (by first | exact ⟨i_lo _, i_hi _⟩ | omega) ?_
        refine ⟨_, rfl, ?_⟩
        refine Go_if_eqb (tgt := 32) (pc' := 14) dX11_quakeOf_11 (by decide) rfl (fun q11 => by exfalso; omega) (fun q11 => ?_)
        refine Go_iload_n (pc' := 15) dX11_quakeOf_14 rfl rfl rfl ?_
        refine Go_aload_n (pc' := 16) dX11_quakeOf_15 rfl rfl rfl ?_
        refine Go_getRs (pc' := 19) dX11_quakeOf_16 rfl kf_RX11_45 (by decide) (by decide) rfl (I.S.b 64 rfl rfl) (I.S.o 64 rfl rfl rfl) (I.S.r 64 6 rfl rfl rfl) ?_
        refine Go_alenZ (n := 16) (pc' := 20) dX11_quakeOf_19 rfl (I.S.b 80 rfl rfl) (I.S.k 80 rfl rfl rfl) (Or.inr (Or.inr ⟨_, rfl⟩)) ?_
        refine Go_icmp_geY (tgt := 32) (pc' := 23) dX11_quakeOf_20 (by decide) rfl (by first | exact ⟨i_lo _, i_hi _⟩ | omega) (by first | exact ⟨i_lo _, i_hi _⟩ | omega) (fun q20 => by exfalso; omega) (fun q20 => ?_)
        refine Go_aload_n (pc' := 24) dX11_quakeOf_23 rfl rfl rfl ?_
        refine Go_getRs (pc' := 27) dX11_quakeOf_24 rfl kf_RX11_45 (by decide) (by decide) rfl (I.S.b 64 rfl rfl) (I.S.o 64 rfl rfl rfl) (I.S.r 64 6 rfl rfl rfl) ?_
        refine Go_iload_n (pc' := 28) dX11_quakeOf_27 rfl rfl rfl ?_
        refine Go_aaloadZ (n := 16) (k := q) (pc' := 29) dX11_quakeOf_28 rfl (I.S.b 80 rfl rfl) (I.S.k 80 rfl rfl rfl) rfl rfl (by omega) (by decide) hu ?_
        refine Go_goto (tgt := 33) dX11_quakeOf_29 (by decide) ?_
        refine Go_areturn (r := some _) dX11_quakeOf_33 rfl ?_
        refine ⟨some _, rfl, ?_⟩
        refine Go_astore (pc' := 7) (lv' := [.ref _, .int _, .int _, .int _, .ref _]) dX11_fit_5 rfl (Nat.le_of_ble_eq_true rfl) rfl rfl ?_
        refine Go_aload (pc' := 9) dX11_fit_7 rfl rfl ?_
        refine Go_ifnull (pc' := 12) dX11_fit_9 rfl ?_
        refine Go_iload_n (pc' := 13) dX11_fit_12 rfl rfl rfl ?_
        refine Go_iload_n (pc' := 14) dX11_fit_13 rfl rfl rfl ?_
        refine Go_callS_i (pc' := 17) (As := [.int _, .int _]) (st := []) dX11_fit_14 rfl ok_X11_isCell km_RX11_80 rfl (Nat.le_of_ble_eq_true rfl) rfl rfl rfl (Nat.le_of_ble_eq_true rfl) (Nat.lt_succ_self _) ?_
        refine s_isCellY (by first | exact ⟨i_lo _, i_hi _⟩ | omega) (by first | exact ⟨i_lo _, i_hi _⟩ | omega) ?_
        refine ⟨_, rfl, ?_⟩
        refine Go_if_neb (tgt := 22) (pc' := 20) dX11_fit_17 (by decide) rfl (fun c17 => by exfalso; omega) (fun c17 => ?_)
        refine Go_iconst (v := iZ (-1)) (pc' := 21) dX11_fit_20 rfl (by decide) ?_
        refine Go_ireturn (ty := .int) dX11_fit_21 rfl rfl ?_
        exact k
      · show Go G 60 0 0 M_X12_fit 0 [.ref 99, .int (iZ (q : Int)), .int (iZ Bz), .int (iZ Cz)] [] h K
        refine Go_aload_n (pc' := 1) dX12_fit_0 rfl rfl rfl ?_
        refine Go_iload_n (pc' := 2) dX12_fit_1 rfl rfl rfl ?_
        refine Go_callV_i (pc' := 5) (As := [.int _]) (st := []) dX12_fit_2 rfl ok_X12_isQuake km_RX12_340 (I.S.o 99 rfl rfl rfl) (I.S.b 99 rfl rfl) ⟨_, _, rfl⟩ rfl (Nat.le_of_ble_eq_true rfl) rfl rfl rfl (Nat.le_of_ble_eq_true rfl) (Nat.lt_succ_self _) ?_
        refine Go_iload_n (pc' := 1) dX12_isQuake_0 rfl rfl rfl ?_
        refine Go_iconst (v := iZ 0) (pc' := 2) dX12_isQuake_1 rfl (by decide) ?_
        refine Go_aload_n (pc' := 3) dX12_isQuake_2 rfl rfl rfl ?_
        refine Go_getIv (v := (iZ (nq : Int))) (pc' := 6) dX12_isQuake_3 rfl kf_RX12_336 (by decide) (by decide) rfl (I.S.b 99 rfl rfl) (I.S.o 99 rfl rfl rfl) (eq38) ?_
        refine Go_iconst (v := iZ 1) (pc' := 7) dX12_isQuake_6 rfl (by decide) ?_
        refine Go_isubZ (pc' := 8) dX12_isQuake_7 rfl ?_
        refine Go_callS_i (pc' := 11) (As := [.int _, .int _, .int _]) (st := []) dX12_isQuake_8 rfl ok_X12_isIn km_RX12_147 rfl (Nat.le_of_ble_eq_true rfl) rfl rfl rfl (Nat.le_of_ble_eq_true rfl) (Nat.lt_succ_self _) ?_
        refine s_isInY (by first | exact ⟨i_lo _, i_hi _⟩ | omega) (by first | exact ⟨i_lo _, i_hi _⟩ | omega) (by first | exact ⟨i_lo _, i_hi _⟩ | omega) ?_
        refine ⟨_, rfl, ?_⟩
        refine Go_ireturn (ty := .boolean) dX12_isQuake_11 rfl b2i_nb ?_
        refine ⟨_, rfl, ?_⟩
        refine Go_if_eqb (tgt := 40) (pc' := 8) dX12_fit_5 (by decide) rfl (fun c5 => by exfalso; omega) (fun c5 => ?_)
        refine Go_iload_n (pc' := 9) dX12_fit_8 rfl rfl rfl ?_
        refine Go_iload_n (pc' := 10) dX12_fit_9 rfl rfl rfl ?_
        refine Go_callS_i (pc' := 13) (As := [.int _, .int _]) (st := []) dX12_fit_10 rfl ok_X12_isCell km_RX12_154 rfl (Nat.le_of_ble_eq_true rfl) rfl rfl rfl (Nat.le_of_ble_eq_true rfl) (Nat.lt_succ_self _) ?_
        refine s_isCellMY (by first | exact ⟨i_lo _, i_hi _⟩ | omega) (by first | exact ⟨i_lo _, i_hi _⟩ | omega) ?_
        refine ⟨_, rfl, ?_⟩
        refine Go_if_eqb (tgt := 40) (pc' := 16) dX12_fit_13 (by decide) rfl (fun c13 => ?_) (fun c13 => by exfalso; omega)
        refine Go_iconst (v := iZ (-1)) (pc' := 41) dX12_fit_40 rfl (by decide) ?_
        refine Go_ireturn (ty := .int) dX12_fit_41 rfl rfl ?_
        exact k
set_option maxRecDepth 20000 in
set_option maxHeartbeats 1000000 in
theorem pair23 {G : GC} (a b c : Int32) : PairI G M_X11_fits M_X12_fits [.int a, .int b, .int c] := by
  intro h I
  obtain ⟨Az, hva, rfl⟩ := i_eta a
  obtain ⟨Bz, hvb, rfl⟩ := i_eta b
  obtain ⟨Cz, hvc, rfl⟩ := i_eta c
  obtain ⟨nq, hnq, eq7⟩ := of_rgZ (b := 16) I.Q.1.2
  have eq38 : vi h 99 38 = iZ (nq : Int) := I.Q.1.1.trans eq7
  obtain ⟨nc, hnc, ec2⟩ := of_rgZ (b := 6) I.C.1.2
  have ec0 : vi h 99 0 = iZ (nc : Int) := I.C.1.1.trans ec2
  rcases qk_cases I hnq eq7 Az with hq0 | ⟨q, u, rfl, hq, hu, QS, PV, RR⟩
  · refine PairI.ro' (fun _ => iZ (-1)) h I (fun K k => ?_) (fun K k => ?_)
    · show Go G 60 0 0 M_X11_fits 0 [.ref 64, .int (iZ Az), .int (iZ Bz), .int (iZ Cz), un] [] h K
      refine Go_aload_n (pc' := 1) dX11_fits_0 rfl rfl rfl ?_
      refine Go_iload_n (pc' := 2) dX11_fits_1 rfl rfl rfl ?_
      refine Go_callV_r (pc' := 5) (As := [.int _]) (st := []) dX11_fits_2 rfl ok_X11_quakeOf km_RX11_230 (I.S.o 64 rfl rfl rfl) (I.S.b 64 rfl rfl) ⟨_, _, rfl⟩ rfl (Nat.le_of_ble_eq_true rfl) rfl rfl rfl (Nat.le_of_ble_eq_true rfl) (Nat.lt_succ_self _) ?_
      refine Go_iload_n (pc' := 1) dX11_quakeOf_0 rfl rfl rfl ?_
      refine Go_iconst (v := iZ 0) (pc' := 2) dX11_quakeOf_1 rfl (by decide) ?_
      refine Go_aload_n (pc' := 3) dX11_quakeOf_2 rfl rfl rfl ?_
      refine Go_getIv (v := (iZ (nq : Int))) (pc' := 6) dX11_quakeOf_3 rfl kf_RX11_226 (by decide) (by decide) rfl (I.S.b 64 rfl rfl) (I.S.o 64 rfl rfl rfl) (eq7) ?_
      refine Go_iconst (v := iZ 1) (pc' := 7) dX11_quakeOf_6 rfl (by decide) ?_
      refine Go_isubZ (pc' := 8) dX11_quakeOf_7 rfl ?_
      refine Go_callS_i (pc' := 11) (As := [.int _, .int _, .int _]) (st := []) dX11_quakeOf_8 rfl ok_X11_within km_RX11_94 rfl (Nat.le_of_ble_eq_true rfl) rfl rfl rfl (Nat.le_of_ble_eq_true rfl) (Nat.lt_succ_self _) ?_
      refine s_withinY (by first | exact ⟨i_lo _, i_hi _⟩ | omega) (by first | exact ⟨i_lo _, i_hi _⟩ | omega) (by first | exact ⟨i_lo _, i_hi _⟩ | omega) ?_
      refine ⟨_, rfl, ?_⟩
      refine Go_if_eqb (tgt := 32) (pc' := 14) dX11_quakeOf_11 (by decide) rfl (fun q11 => ?_) (fun q11 => by exfalso; omega)
      refine Go_null (pc' := 33) dX11_quakeOf_32 rfl ?_
      refine Go_areturn (r := none) dX11_quakeOf_33 rfl ?_
      refine ⟨none, rfl, ?_⟩
      refine Go_astoreN (pc' := 7) (lv' := [.ref _, .int _, .int _, .int _, .null]) dX11_fits_5 rfl (Nat.le_of_ble_eq_true rfl) rfl rfl ?_
      refine Go_aloadN (pc' := 9) dX11_fits_7 rfl rfl ?_
      refine Go_ifnullN (tgt := 33) dX11_fits_9 (by decide) ?_
      refine Go_iconst (v := iZ (-1)) (pc' := 34) dX11_fits_33 rfl (by decide) ?_
      refine Go_ireturn (ty := .int) dX11_fits_34 rfl rfl ?_
      exact k
    · show Go G 60 0 0 M_X12_fits 0 [.ref 99, .int (iZ Az), .int (iZ Bz), .int (iZ Cz), un, un] [] h K
      refine Go_aload_n (pc' := 1) dX12_fits_0 rfl rfl rfl ?_
      refine Go_iload_n (pc' := 2) dX12_fits_1 rfl rfl rfl ?_
      refine Go_callV_i (pc' := 5) (As := [.int _]) (st := []) dX12_fits_2 rfl ok_X12_isQuake km_RX12_340 (I.S.o 99 rfl rfl rfl) (I.S.b 99 rfl rfl) ⟨_, _, rfl⟩ rfl (Nat.le_of_ble_eq_true rfl) rfl rfl rfl (Nat.le_of_ble_eq_true rfl) (Nat.lt_succ_self _) ?_
      refine Go_iload_n (pc' := 1) dX12_isQuake_0 rfl rfl rfl ?_
      refine Go_iconst (v := iZ 0) (pc' := 2) dX12_isQuake_1 rfl (by decide) ?_
      refine Go_aload_n (pc' := 3) dX12_isQuake_2 rfl rfl rfl ?_
      refine Go_getIv (v := (iZ (nq : Int))) (pc' := 6) dX12_isQuake_3 rfl kf_RX12_336 (by decide) (by decide) rfl (I.S.b 99 rfl rfl) (I.S.o 99 rfl rfl rfl) (eq38) ?_
      refine Go_iconst (v := iZ 1) (pc' := 7) dX12_isQuake_6 rfl (by decide) ?_
      refine Go_isubZ (pc' := 8) dX12_isQuake_7 rfl ?_
      refine Go_callS_i (pc' := 11) (As := [.int _, .int _, .int _]) (st := []) dX12_isQuake_8 rfl ok_X12_isIn km_RX12_147 rfl (Nat.le_of_ble_eq_true rfl) rfl rfl rfl (Nat.le_of_ble_eq_true rfl) (Nat.lt_succ_self _) ?_
      refine s_isInY (by first | exact ⟨i_lo _, i_hi _⟩ | omega) (by first | exact ⟨i_lo _, i_hi _⟩ | omega) (by first | exact ⟨i_lo _, i_hi _⟩ | omega) ?_
      refine ⟨_, rfl, ?_⟩
      refine Go_ireturn (ty := .boolean) dX12_isQuake_11 rfl b2i_nb ?_
      refine ⟨_, rfl, ?_⟩
      refine Go_if_eqb (tgt := 22) (pc' := 8) dX12_fits_5 (by decide) rfl (fun c5 => ?_) (fun c5 => by exfalso; omega)
      refine Go_iconst (v := iZ (-1)) (pc' := 23) dX12_fits_22 rfl (by decide) ?_
      refine Go_ireturn (ty := .int) dX12_fits_23 rfl rfl ?_
      exact k
  · obtain ⟨P, hP, eP⟩ := rgE I.W.2.2.1
    obtain ⟨S, hS, eS⟩ := rgE I.W.2.2.2.1
    have eP2 : vi h 99 39 = iZ P := I.W.1.symm.trans eP
    have eS2 : vi h 99 40 = iZ S := I.W.2.1.symm.trans eS
    by_cases hb : 1 ≤ Bz ∧ Bz ≤ 63
    · by_cases h0 : Cz = 0
      · subst h0
        refine PairI.ro' (fun _ => iZ (cq (fitq h P S nc q (iZ Bz)) 1600 0 0)) h I (fun K k => ?_) (fun K k => ?_)
        · show Go G 60 0 0 M_X11_fits 0 [.ref 64, .int (iZ (q : Int)), .int (iZ Bz), .int (iZ 0), un] [] h K
          refine Go_aload_n (pc' := 1) dX11_fits_0 rfl rfl rfl ?_
          refine Go_iload_n (pc' := 2) dX11_fits_1 rfl rfl rfl ?_
          refine Go_callV_r (pc' := 5) (As := [.int _]) (st := []) dX11_fits_2 rfl ok_X11_quakeOf km_RX11_230 (I.S.o 64 rfl rfl rfl) (I.S.b 64 rfl rfl) ⟨_, _, rfl⟩ rfl (Nat.le_of_ble_eq_true rfl) rfl rfl rfl (Nat.le_of_ble_eq_true rfl) (Nat.lt_succ_self _) ?_
          refine Go_iload_n (pc' := 1) dX11_quakeOf_0 rfl rfl rfl ?_
          refine Go_iconst (v := iZ 0) (pc' := 2) dX11_quakeOf_1 rfl (by decide) ?_
          refine Go_aload_n (pc' := 3) dX11_quakeOf_2 rfl rfl rfl ?_
          refine Go_getIv (v := (iZ (nq : Int))) (pc' := 6) dX11_quakeOf_3 rfl kf_RX11_226 (by decide) (by decide) rfl (I.S.b 64 rfl rfl) (I.S.o 64 rfl rfl rfl) (eq7) ?_
          refine Go_iconst (v := iZ 1) (pc' := 7) dX11_quakeOf_6 rfl (by decide) ?_
          refine Go_isubZ (pc' := 8) dX11_quakeOf_7 rfl ?_
          refine Go_callS_i (pc' := 11) (As := [.int _, .int _, .int _]) (st := []) dX11_quakeOf_8 rfl ok_X11_within km_RX11_94 rfl (Nat.le_of_ble_eq_true rfl) rfl rfl rfl (Nat.le_of_ble_eq_true rfl) (Nat.lt_succ_self _) ?_
          refine s_withinY (by first | exact ⟨i_lo _, i_hi _⟩ | omega) (by first | exact ⟨i_lo _, i_hi _⟩ | omega) (by first | exact ⟨i_lo _, i_hi _⟩ | omega) ?_
          refine ⟨_, rfl, ?_⟩
          refine Go_if_eqb (tgt := 32) (pc' := 14) dX11_quakeOf_11 (by decide) rfl (fun q11 => by exfalso; omega) (fun q11 => ?_)
          refine Go_iload_n (pc' := 15) dX11_quakeOf_14 rfl rfl rfl ?_
          refine Go_aload_n (pc' := 16) dX11_quakeOf_15 rfl rfl rfl ?_
          refine Go_getRs (pc' := 19) dX11_quakeOf_16 rfl kf_RX11_45 (by decide) (by decide) rfl (I.S.b 64 rfl rfl) (I.S.o 64 rfl rfl rfl) (I.S.r 64 6 rfl rfl rfl) ?_
          refine Go_alenZ (n := 16) (pc' := 20) dX11_quakeOf_19 rfl (I.S.b 80 rfl rfl) (I.S.k 80 rfl rfl rfl) (Or.inr (Or.inr ⟨_, rfl⟩)) ?_
          refine Go_icmp_geY (tgt := 32) (pc' := 23) dX11_quakeOf_20 (by decide) rfl (by first | exact ⟨i_lo _, i_hi _⟩ | omega) (by first | exact ⟨i_lo _, i_hi _⟩ | omega) (fun q20 => by exfalso; omega) (fun q20 => ?_)
          refine Go_aload_n (pc' := 24) dX11_quakeOf_23 rfl rfl rfl ?_
          refine Go_getRs (pc' := 27) dX11_quakeOf_24 rfl kf_RX11_45 (by decide) (by decide) rfl (I.S.b 64 rfl rfl) (I.S.o 64 rfl rfl rfl) (I.S.r 64 6 rfl rfl rfl) ?_
          refine Go_iload_n (pc' := 28) dX11_quakeOf_27 rfl rfl rfl ?_
          refine Go_aaloadZ (n := 16) (k := q) (pc' := 29) dX11_quakeOf_28 rfl (I.S.b 80 rfl rfl) (I.S.k 80 rfl rfl rfl) rfl rfl (by omega) (by decide) hu ?_
          refine Go_goto (tgt := 33) dX11_quakeOf_29 (by decide) ?_
          refine Go_areturn (r := some _) dX11_quakeOf_33 rfl ?_
          refine ⟨some _, rfl, ?_⟩
          refine Go_astore (pc' := 7) (lv' := [.ref _, .int _, .int _, .int _, .ref _]) dX11_fits_5 rfl (Nat.le_of_ble_eq_true rfl) rfl rfl ?_
          refine Go_aload (pc' := 9) dX11_fits_7 rfl rfl ?_
          refine Go_ifnull (pc' := 12) dX11_fits_9 rfl ?_
          refine Go_iload_n (pc' := 13) dX11_fits_12 rfl rfl rfl ?_
          refine Go_iconst (v := iZ 1) (pc' := 14) dX11_fits_13 rfl (by decide) ?_
          refine Go_bipush (v := iZ 63) (pc' := 16) dX11_fits_14 rfl (by decide) ?_
          refine Go_callS_i (pc' := 19) (As := [.int _, .int _, .int _]) (st := []) dX11_fits_16 rfl ok_X11_within km_RX11_94 rfl (Nat.le_of_ble_eq_true rfl) rfl rfl rfl (Nat.le_of_ble_eq_true rfl) (Nat.lt_succ_self _) ?_
          refine s_withinY (by first | exact ⟨i_lo _, i_hi _⟩ | omega) (by first | exact ⟨i_lo _, i_hi _⟩ | omega) (by first | exact ⟨i_lo _, i_hi _⟩ | omega) ?_
          refine ⟨_, rfl, ?_⟩
          refine Go_if_eqb (tgt := 33) (pc' := 22) dX11_fits_19 (by decide) rfl (fun c19 => by exfalso; omega) (fun c19 => ?_)
          refine Go_iload_n (pc' := 23) dX11_fits_22 rfl rfl rfl ?_
          refine Go_iconst (v := iZ 0) (pc' := 24) dX11_fits_23 rfl (by decide) ?_
          refine Go_sipush (v := iZ 1600) (pc' := 27) dX11_fits_24 rfl (by decide) ?_
          refine Go_callS_i (pc' := 30) (As := [.int _, .int _, .int _]) (st := []) dX11_fits_27 rfl ok_X11_within km_RX11_94 rfl (Nat.le_of_ble_eq_true rfl) rfl rfl rfl (Nat.le_of_ble_eq_true rfl) (Nat.lt_succ_self _) ?_
          refine s_withinY (by first | exact ⟨i_lo _, i_hi _⟩ | omega) (by first | exact ⟨i_lo _, i_hi _⟩ | omega) (by first | exact ⟨i_lo _, i_hi _⟩ | omega) ?_
          refine ⟨_, rfl, ?_⟩
          refine Go_if_neb (tgt := 35) (pc' := 33) dX11_fits_30 (by decide) rfl (fun c30 => ?_) (fun c30 => by exfalso; omega)
          refine Go_iload_n (pc' := 36) dX11_fits_35 rfl rfl rfl ?_
          refine Go_if_neY (tgt := 49) (pc' := 39) dX11_fits_36 (by decide) rfl (by first | exact ⟨i_lo _, i_hi _⟩ | omega) (fun c36 => by exfalso; omega) (fun c36 => ?_)
          refine Go_aload_n (pc' := 40) dX11_fits_39 rfl rfl rfl ?_
          refine Go_aload (pc' := 42) dX11_fits_40 rfl rfl ?_
          refine Go_iload_n (pc' := 43) dX11_fits_42 rfl rfl rfl ?_
          refine Go_callV_i (pc' := 46) (As := [.ref _, .int _]) (st := []) dX11_fits_43 rfl ok_X11_countFitting km_RX11_259 (I.S.o 64 rfl rfl rfl) (I.S.b 64 rfl rfl) ⟨_, _, rfl⟩ rfl (Nat.le_of_ble_eq_true rfl) rfl rfl rfl (Nat.le_of_ble_eq_true rfl) (Nat.lt_succ_self _) ?_
          refine s_cf I hnc ec2 ec0 hq hnq hu QS RR eP eS eP2 eS2 hP hS ?_
          refine ⟨_, rfl, ?_⟩
          refine Go_goto (tgt := 59) dX11_fits_46 (by decide) ?_
          refine Go_ireturn (ty := .int) dX11_fits_59 rfl rfl ?_
          exact k
        · show Go G 60 0 0 M_X12_fits 0 [.ref 99, .int (iZ (q : Int)), .int (iZ Bz), .int (iZ 0), un, un] [] h K
          refine Go_aload_n (pc' := 1) dX12_fits_0 rfl rfl rfl ?_
          refine Go_iload_n (pc' := 2) dX12_fits_1 rfl rfl rfl ?_
          refine Go_callV_i (pc' := 5) (As := [.int _]) (st := []) dX12_fits_2 rfl ok_X12_isQuake km_RX12_340 (I.S.o 99 rfl rfl rfl) (I.S.b 99 rfl rfl) ⟨_, _, rfl⟩ rfl (Nat.le_of_ble_eq_true rfl) rfl rfl rfl (Nat.le_of_ble_eq_true rfl) (Nat.lt_succ_self _) ?_
          refine Go_iload_n (pc' := 1) dX12_isQuake_0 rfl rfl rfl ?_
          refine Go_iconst (v := iZ 0) (pc' := 2) dX12_isQuake_1 rfl (by decide) ?_
          refine Go_aload_n (pc' := 3) dX12_isQuake_2 rfl rfl rfl ?_
          refine Go_getIv (v := (iZ (nq : Int))) (pc' := 6) dX12_isQuake_3 rfl kf_RX12_336 (by decide) (by decide) rfl (I.S.b 99 rfl rfl) (I.S.o 99 rfl rfl rfl) (eq38) ?_
          refine Go_iconst (v := iZ 1) (pc' := 7) dX12_isQuake_6 rfl (by decide) ?_
          refine Go_isubZ (pc' := 8) dX12_isQuake_7 rfl ?_
          refine Go_callS_i (pc' := 11) (As := [.int _, .int _, .int _]) (st := []) dX12_isQuake_8 rfl ok_X12_isIn km_RX12_147 rfl (Nat.le_of_ble_eq_true rfl) rfl rfl rfl (Nat.le_of_ble_eq_true rfl) (Nat.lt_succ_self _) ?_
          refine s_isInY (by first | exact ⟨i_lo _, i_hi _⟩ | omega) (by first | exact ⟨i_lo _, i_hi _⟩ | omega) (by first | exact ⟨i_lo _, i_hi _⟩ | omega) ?_
          refine ⟨_, rfl, ?_⟩
          refine Go_ireturn (ty := .boolean) dX12_isQuake_11 rfl b2i_nb ?_
          refine ⟨_, rfl, ?_⟩
          refine Go_if_eqb (tgt := 22) (pc' := 8) dX12_fits_5 (by decide) rfl (fun c5 => by exfalso; omega) (fun c5 => ?_)
          refine Go_iload_n (pc' := 9) dX12_fits_8 rfl rfl rfl ?_
          refine Go_iconst (v := iZ 1) (pc' := 10) dX12_fits_9 rfl (by decide) ?_
          refine Go_bipush (v := iZ 63) (pc' := 12) dX12_fits_10 rfl (by decide) ?_
          refine Go_callS_i (pc' := 15) (As := [.int _, .int _, .int _]) (st := []) dX12_fits_12 rfl ok_X12_isIn km_RX12_147 rfl (Nat.le_of_ble_eq_true rfl) rfl rfl rfl (Nat.le_of_ble_eq_true rfl) (Nat.lt_succ_self _) ?_
          refine s_isInY (by first | exact ⟨i_lo _, i_hi _⟩ | omega) (by first | exact ⟨i_lo _, i_hi _⟩ | omega) (by first | exact ⟨i_lo _, i_hi _⟩ | omega) ?_
          refine ⟨_, rfl, ?_⟩
          refine Go_if_eqb (tgt := 22) (pc' := 18) dX12_fits_15 (by decide) rfl (fun c15 => by exfalso; omega) (fun c15 => ?_)
          refine Go_iload_n (pc' := 19) dX12_fits_18 rfl rfl rfl ?_
          refine Go_if_geY (tgt := 24) (pc' := 22) dX12_fits_19 (by decide) rfl (by first | exact ⟨i_lo _, i_hi _⟩ | omega) (fun c19 => ?_) (fun c19 => by exfalso; omega)
          refine Go_iconst (v := iZ 0) (pc' := 25) dX12_fits_24 rfl (by decide) ?_
          refine Go_istore (pc' := 27) (lv' := [.ref _, .int _, .int _, .int _, .int _, un]) dX12_fits_25 rfl (Nat.le_of_ble_eq_true rfl) rfl rfl ?_
          refine Go_iconst (v := iZ 0) (pc' := 28) dX12_fits_27 rfl (by decide) ?_
          refine Go_istore (pc' := 30) (lv' := [.ref _, .int _, .int _, .int _, .int _, .int _]) dX12_fits_28 rfl (Nat.le_of_ble_eq_true rfl) rfl rfl ?_
          exact fm0_loop I hnc ec2 ec0 hq hnq hu QS RR eP eS eP2 eS2 hP hS 1600 0 0 rfl (by omega) k
      · by_cases h1 : 1 ≤ Cz
        · by_cases h2 : Cz ≤ 1600
          · refine PairI.ro' (fun _ => iZ (nthq (fitq h P S nc q (iZ Bz)) 1600 0 (Cz - 1))) h I (fun K k => ?_) (fun K k => ?_)
            · show Go G 60 0 0 M_X11_fits 0 [.ref 64, .int (iZ (q : Int)), .int (iZ Bz), .int (iZ Cz), un] [] h K
              refine Go_aload_n (pc' := 1) dX11_fits_0 rfl rfl rfl ?_
              refine Go_iload_n (pc' := 2) dX11_fits_1 rfl rfl rfl ?_
              refine Go_callV_r (pc' := 5) (As := [.int _]) (st := []) dX11_fits_2 rfl ok_X11_quakeOf km_RX11_230 (I.S.o 64 rfl rfl rfl) (I.S.b 64 rfl rfl) ⟨_, _, rfl⟩ rfl (Nat.le_of_ble_eq_true rfl) rfl rfl rfl (Nat.le_of_ble_eq_true rfl) (Nat.lt_succ_self _) ?_
              refine Go_iload_n (pc' := 1) dX11_quakeOf_0 rfl rfl rfl ?_
              refine Go_iconst (v := iZ 0) (pc' := 2) dX11_quakeOf_1 rfl (by decide) ?_
              refine Go_aload_n (pc' := 3) dX11_quakeOf_2 rfl rfl rfl ?_
              refine Go_getIv (v := (iZ (nq : Int))) (pc' := 6) dX11_quakeOf_3 rfl kf_RX11_226 (by decide) (by decide) rfl (I.S.b 64 rfl rfl) (I.S.o 64 rfl rfl rfl) (eq7) ?_
              refine Go_iconst (v := iZ 1) (pc' := 7) dX11_quakeOf_6 rfl (by decide) ?_
              refine Go_isubZ (pc' := 8) dX11_quakeOf_7 rfl ?_
              refine Go_callS_i (pc' := 11) (As := [.int _, .int _, .int _]) (st := []) dX11_quakeOf_8 rfl ok_X11_within km_RX11_94 rfl (Nat.le_of_ble_eq_true rfl) rfl rfl rfl (Nat.le_of_ble_eq_true rfl) (Nat.lt_succ_self _) ?_
              refine s_withinY (by first | exact ⟨i_lo _, i_hi _⟩ | omega) (by first | exact ⟨i_lo _, i_hi _⟩ | omega) (by first | exact ⟨i_lo _, i_hi _⟩ | omega) ?_
              refine ⟨_, rfl, ?_⟩
              refine Go_if_eqb (tgt := 32) (pc' := 14) dX11_quakeOf_11 (by decide) rfl (fun q11 => by exfalso; omega) (fun q11 => ?_)
              refine Go_iload_n (pc' := 15) dX11_quakeOf_14 rfl rfl rfl ?_
              refine Go_aload_n (pc' := 16) dX11_quakeOf_15 rfl rfl rfl ?_
              refine Go_getRs (pc' := 19) dX11_quakeOf_16 rfl kf_RX11_45 (by decide) (by decide) rfl (I.S.b 64 rfl rfl) (I.S.o 64 rfl rfl rfl) (I.S.r 64 6 rfl rfl rfl) ?_
              refine Go_alenZ (n := 16) (pc' := 20) dX11_quakeOf_19 rfl (I.S.b 80 rfl rfl) (I.S.k 80 rfl rfl rfl) (Or.inr (Or.inr ⟨_, rfl⟩)) ?_
              refine Go_icmp_geY (tgt := 32) (pc' := 23) dX11_quakeOf_20 (by decide) rfl (by first | exact ⟨i_lo _, i_hi _⟩ | omega) (by first | exact ⟨i_lo _, i_hi _⟩ | omega) (fun q20 => by exfalso; omega) (fun q20 => ?_)
              refine Go_aload_n (pc' := 24) dX11_quakeOf_23 rfl rfl rfl ?_
              refine Go_getRs (pc' := 27) dX11_quakeOf_24 rfl kf_RX11_45 (by decide) (by decide) rfl (I.S.b 64 rfl rfl) (I.S.o 64 rfl rfl rfl) (I.S.r 64 6 rfl rfl rfl) ?_
              refine Go_iload_n (pc' := 28) dX11_quakeOf_27 rfl rfl rfl ?_
              refine Go_aaloadZ (n := 16) (k := q) (pc' := 29) dX11_quakeOf_28 rfl (I.S.b 80 rfl rfl) (I.S.k 80 rfl rfl rfl) rfl rfl (by omega) (by decide) hu ?_
              refine Go_goto (tgt := 33) dX11_quakeOf_29 (by decide) ?_
              refine Go_areturn (r := some _) dX11_quakeOf_33 rfl ?_
              refine ⟨some _, rfl, ?_⟩
              refine Go_astore (pc' := 7) (lv' := [.ref _, .int _, .int _, .int _, .ref _]) dX11_fits_5 rfl (Nat.le_of_ble_eq_true rfl) rfl rfl ?_
              refine Go_aload (pc' := 9) dX11_fits_7 rfl rfl ?_
              refine Go_ifnull (pc' := 12) dX11_fits_9 rfl ?_
              refine Go_iload_n (pc' := 13) dX11_fits_12 rfl rfl rfl ?_
              refine Go_iconst (v := iZ 1) (pc' := 14) dX11_fits_13 rfl (by decide) ?_
              refine Go_bipush (v := iZ 63) (pc' := 16) dX11_fits_14 rfl (by decide) ?_
              refine Go_callS_i (pc' := 19) (As := [.int _, .int _, .int _]) (st := []) dX11_fits_16 rfl ok_X11_within km_RX11_94 rfl (Nat.le_of_ble_eq_true rfl) rfl rfl rfl (Nat.le_of_ble_eq_true rfl) (Nat.lt_succ_self _) ?_
              refine s_withinY (by first | exact ⟨i_lo _, i_hi _⟩ | omega) (by first | exact ⟨i_lo _, i_hi _⟩ | omega) (by first | exact ⟨i_lo _, i_hi _⟩ | omega) ?_
              refine ⟨_, rfl, ?_⟩
              refine Go_if_eqb (tgt := 33) (pc' := 22) dX11_fits_19 (by decide) rfl (fun c19 => by exfalso; omega) (fun c19 => ?_)
              refine Go_iload_n (pc' := 23) dX11_fits_22 rfl rfl rfl ?_
              refine Go_iconst (v := iZ 0) (pc' := 24) dX11_fits_23 rfl (by decide) ?_
              refine Go_sipush (v := iZ 1600) (pc' := 27) dX11_fits_24 rfl (by decide) ?_
              refine Go_callS_i (pc' := 30) (As := [.int _, .int _, .int _]) (st := []) dX11_fits_27 rfl ok_X11_within km_RX11_94 rfl (Nat.le_of_ble_eq_true rfl) rfl rfl rfl (Nat.le_of_ble_eq_true rfl) (Nat.lt_succ_self _) ?_
              refine s_withinY (by first | exact ⟨i_lo _, i_hi _⟩ | omega) (by first | exact ⟨i_lo _, i_hi _⟩ | omega) (by first | exact ⟨i_lo _, i_hi _⟩ | omega) ?_
              refine ⟨_, rfl, ?_⟩
              refine Go_if_neb (tgt := 35) (pc' := 33) dX11_fits_30 (by decide) rfl (fun c30 => ?_) (fun c30 => by exfalso; omega)
              refine Go_iload_n (pc' := 36) dX11_fits_35 rfl rfl rfl ?_
              refine Go_if_neY (tgt := 49) (pc' := 39) dX11_fits_36 (by decide) rfl (by first | exact ⟨i_lo _, i_hi _⟩ | omega) (fun c36 => ?_) (fun c36 => by exfalso; omega)
              refine Go_aload_n (pc' := 50) dX11_fits_49 rfl rfl rfl ?_
              refine Go_aload (pc' := 52) dX11_fits_50 rfl rfl ?_
              refine Go_iload_n (pc' := 53) dX11_fits_52 rfl rfl rfl ?_
              refine Go_iload_n (pc' := 54) dX11_fits_53 rfl rfl rfl ?_
              refine Go_iconst (v := iZ 1) (pc' := 55) dX11_fits_54 rfl (by decide) ?_
              refine Go_isubZ (pc' := 56) dX11_fits_55 rfl ?_
              refine Go_callV_i (pc' := 59) (As := [.ref _, .int _, .int _]) (st := []) dX11_fits_56 rfl ok_X11_fittingCell km_RX11_263 (I.S.o 64 rfl rfl rfl) (I.S.b 64 rfl rfl) ⟨_, _, rfl⟩ rfl (Nat.le_of_ble_eq_true rfl) rfl rfl rfl (Nat.le_of_ble_eq_true rfl) (Nat.lt_succ_self _) ?_
              refine s_fc I hnc ec2 ec0 hq hnq hu QS RR eP eS eP2 eS2 hP hS (by omega) ?_
              refine ⟨_, rfl, ?_⟩
              refine Go_ireturn (ty := .int) dX11_fits_59 rfl rfl ?_
              exact k
            · show Go G 60 0 0 M_X12_fits 0 [.ref 99, .int (iZ (q : Int)), .int (iZ Bz), .int (iZ Cz), un, un] [] h K
              refine Go_aload_n (pc' := 1) dX12_fits_0 rfl rfl rfl ?_
              refine Go_iload_n (pc' := 2) dX12_fits_1 rfl rfl rfl ?_
              refine Go_callV_i (pc' := 5) (As := [.int _]) (st := []) dX12_fits_2 rfl ok_X12_isQuake km_RX12_340 (I.S.o 99 rfl rfl rfl) (I.S.b 99 rfl rfl) ⟨_, _, rfl⟩ rfl (Nat.le_of_ble_eq_true rfl) rfl rfl rfl (Nat.le_of_ble_eq_true rfl) (Nat.lt_succ_self _) ?_
              refine Go_iload_n (pc' := 1) dX12_isQuake_0 rfl rfl rfl ?_
              refine Go_iconst (v := iZ 0) (pc' := 2) dX12_isQuake_1 rfl (by decide) ?_
              refine Go_aload_n (pc' := 3) dX12_isQuake_2 rfl rfl rfl ?_
              refine Go_getIv (v := (iZ (nq : Int))) (pc' := 6) dX12_isQuake_3 rfl kf_RX12_336 (by decide) (by decide) rfl (I.S.b 99 rfl rfl) (I.S.o 99 rfl rfl rfl) (eq38) ?_
              refine Go_iconst (v := iZ 1) (pc' := 7) dX12_isQuake_6 rfl (by decide) ?_
              refine Go_isubZ (pc' := 8) dX12_isQuake_7 rfl ?_
              refine Go_callS_i (pc' := 11) (As := [.int _, .int _, .int _]) (st := []) dX12_isQuake_8 rfl ok_X12_isIn km_RX12_147 rfl (Nat.le_of_ble_eq_true rfl) rfl rfl rfl (Nat.le_of_ble_eq_true rfl) (Nat.lt_succ_self _) ?_
              refine s_isInY (by first | exact ⟨i_lo _, i_hi _⟩ | omega) (by first | exact ⟨i_lo _, i_hi _⟩ | omega) (by first | exact ⟨i_lo _, i_hi _⟩ | omega) ?_
              refine ⟨_, rfl, ?_⟩
              refine Go_ireturn (ty := .boolean) dX12_isQuake_11 rfl b2i_nb ?_
              refine ⟨_, rfl, ?_⟩
              refine Go_if_eqb (tgt := 22) (pc' := 8) dX12_fits_5 (by decide) rfl (fun c5 => by exfalso; omega) (fun c5 => ?_)
              refine Go_iload_n (pc' := 9) dX12_fits_8 rfl rfl rfl ?_
              refine Go_iconst (v := iZ 1) (pc' := 10) dX12_fits_9 rfl (by decide) ?_
              refine Go_bipush (v := iZ 63) (pc' := 12) dX12_fits_10 rfl (by decide) ?_
              refine Go_callS_i (pc' := 15) (As := [.int _, .int _, .int _]) (st := []) dX12_fits_12 rfl ok_X12_isIn km_RX12_147 rfl (Nat.le_of_ble_eq_true rfl) rfl rfl rfl (Nat.le_of_ble_eq_true rfl) (Nat.lt_succ_self _) ?_
              refine s_isInY (by first | exact ⟨i_lo _, i_hi _⟩ | omega) (by first | exact ⟨i_lo _, i_hi _⟩ | omega) (by first | exact ⟨i_lo _, i_hi _⟩ | omega) ?_
              refine ⟨_, rfl, ?_⟩
              refine Go_if_eqb (tgt := 22) (pc' := 18) dX12_fits_15 (by decide) rfl (fun c15 => by exfalso; omega) (fun c15 => ?_)
              refine Go_iload_n (pc' := 19) dX12_fits_18 rfl rfl rfl ?_
              refine Go_if_geY (tgt := 24) (pc' := 22) dX12_fits_19 (by decide) rfl (by first | exact ⟨i_lo _, i_hi _⟩ | omega) (fun c19 => ?_) (fun c19 => by exfalso; omega)
              refine Go_iconst (v := iZ 0) (pc' := 25) dX12_fits_24 rfl (by decide) ?_
              refine Go_istore (pc' := 27) (lv' := [.ref _, .int _, .int _, .int _, .int _, un]) dX12_fits_25 rfl (Nat.le_of_ble_eq_true rfl) rfl rfl ?_
              refine Go_iconst (v := iZ 0) (pc' := 28) dX12_fits_27 rfl (by decide) ?_
              refine Go_istore (pc' := 30) (lv' := [.ref _, .int _, .int _, .int _, .int _, .int _]) dX12_fits_28 rfl (Nat.le_of_ble_eq_true rfl) rfl rfl ?_
              refine fmw_loop I hnc ec2 ec0 hq hnq hu QS RR eP eS eP2 eS2 hP hS (by omega) 1600 0 0 rfl (by omega) ?_
              rw [Int.sub_zero]; exact k
          · refine PairI.ro' (fun _ => iZ (-1)) h I (fun K k => ?_) (fun K k => ?_)
            · show Go G 60 0 0 M_X11_fits 0 [.ref 64, .int (iZ (q : Int)), .int (iZ Bz), .int (iZ Cz), un] [] h K
              refine Go_aload_n (pc' := 1) dX11_fits_0 rfl rfl rfl ?_
              refine Go_iload_n (pc' := 2) dX11_fits_1 rfl rfl rfl ?_
              refine Go_callV_r (pc' := 5) (As := [.int _]) (st := []) dX11_fits_2 rfl ok_X11_quakeOf km_RX11_230 (I.S.o 64 rfl rfl rfl) (I.S.b 64 rfl rfl) ⟨_, _, rfl⟩ rfl (Nat.le_of_ble_eq_true rfl) rfl rfl rfl (Nat.le_of_ble_eq_true rfl) (Nat.lt_succ_self _) ?_
              refine Go_iload_n (pc' := 1) dX11_quakeOf_0 rfl rfl rfl ?_
              refine Go_iconst (v := iZ 0) (pc' := 2) dX11_quakeOf_1 rfl (by decide) ?_
              refine Go_aload_n (pc' := 3) dX11_quakeOf_2 rfl rfl rfl ?_
              refine Go_getIv (v := (iZ (nq : Int))) (pc' := 6) dX11_quakeOf_3 rfl kf_RX11_226 (by decide) (by decide) rfl (I.S.b 64 rfl rfl) (I.S.o 64 rfl rfl rfl) (eq7) ?_
              refine Go_iconst (v := iZ 1) (pc' := 7) dX11_quakeOf_6 rfl (by decide) ?_
              refine Go_isubZ (pc' := 8) dX11_quakeOf_7 rfl ?_
              refine Go_callS_i (pc' := 11) (As := [.int _, .int _, .int _]) (st := []) dX11_quakeOf_8 rfl ok_X11_within km_RX11_94 rfl (Nat.le_of_ble_eq_true rfl) rfl rfl rfl (Nat.le_of_ble_eq_true rfl) (Nat.lt_succ_self _) ?_
              refine s_withinY (by first | exact ⟨i_lo _, i_hi _⟩ | omega) (by first | exact ⟨i_lo _, i_hi _⟩ | omega) (by first | exact ⟨i_lo _, i_hi _⟩ | omega) ?_
              refine ⟨_, rfl, ?_⟩
              refine Go_if_eqb (tgt := 32) (pc' := 14) dX11_quakeOf_11 (by decide) rfl (fun q11 => by exfalso; omega) (fun q11 => ?_)
              refine Go_iload_n (pc' := 15) dX11_quakeOf_14 rfl rfl rfl ?_
              refine Go_aload_n (pc' := 16) dX11_quakeOf_15 rfl rfl rfl ?_
              refine Go_getRs (pc' := 19) dX11_quakeOf_16 rfl kf_RX11_45 (by decide) (by decide) rfl (I.S.b 64 rfl rfl) (I.S.o 64 rfl rfl rfl) (I.S.r 64 6 rfl rfl rfl) ?_
              refine Go_alenZ (n := 16) (pc' := 20) dX11_quakeOf_19 rfl (I.S.b 80 rfl rfl) (I.S.k 80 rfl rfl rfl) (Or.inr (Or.inr ⟨_, rfl⟩)) ?_
              refine Go_icmp_geY (tgt := 32) (pc' := 23) dX11_quakeOf_20 (by decide) rfl (by first | exact ⟨i_lo _, i_hi _⟩ | omega) (by first | exact ⟨i_lo _, i_hi _⟩ | omega) (fun q20 => by exfalso; omega) (fun q20 => ?_)
              refine Go_aload_n (pc' := 24) dX11_quakeOf_23 rfl rfl rfl ?_
              refine Go_getRs (pc' := 27) dX11_quakeOf_24 rfl kf_RX11_45 (by decide) (by decide) rfl (I.S.b 64 rfl rfl) (I.S.o 64 rfl rfl rfl) (I.S.r 64 6 rfl rfl rfl) ?_
              refine Go_iload_n (pc' := 28) dX11_quakeOf_27 rfl rfl rfl ?_
              refine Go_aaloadZ (n := 16) (k := q) (pc' := 29) dX11_quakeOf_28 rfl (I.S.b 80 rfl rfl) (I.S.k 80 rfl rfl rfl) rfl rfl (by omega) (by decide) hu ?_
              refine Go_goto (tgt := 33) dX11_quakeOf_29 (by decide) ?_
              refine Go_areturn (r := some _) dX11_quakeOf_33 rfl ?_
              refine ⟨some _, rfl, ?_⟩
              refine Go_astore (pc' := 7) (lv' := [.ref _, .int _, .int _, .int _, .ref _]) dX11_fits_5 rfl (Nat.le_of_ble_eq_true rfl) rfl rfl ?_
              refine Go_aload (pc' := 9) dX11_fits_7 rfl rfl ?_
              refine Go_ifnull (pc' := 12) dX11_fits_9 rfl ?_
              refine Go_iload_n (pc' := 13) dX11_fits_12 rfl rfl rfl ?_
              refine Go_iconst (v := iZ 1) (pc' := 14) dX11_fits_13 rfl (by decide) ?_
              refine Go_bipush (v := iZ 63) (pc' := 16) dX11_fits_14 rfl (by decide) ?_
              refine Go_callS_i (pc' := 19) (As := [.int _, .int _, .int _]) (st := []) dX11_fits_16 rfl ok_X11_within km_RX11_94 rfl (Nat.le_of_ble_eq_true rfl) rfl rfl rfl (Nat.le_of_ble_eq_true rfl) (Nat.lt_succ_self _) ?_
              refine s_withinY (by first | exact ⟨i_lo _, i_hi _⟩ | omega) (by first | exact ⟨i_lo _, i_hi _⟩ | omega) (by first | exact ⟨i_lo _, i_hi _⟩ | omega) ?_
              refine ⟨_, rfl, ?_⟩
              refine Go_if_eqb (tgt := 33) (pc' := 22) dX11_fits_19 (by decide) rfl (fun c19 => by exfalso; omega) (fun c19 => ?_)
              refine Go_iload_n (pc' := 23) dX11_fits_22 rfl rfl rfl ?_
              refine Go_iconst (v := iZ 0) (pc' := 24) dX11_fits_23 rfl (by decide) ?_
              refine Go_sipush (v := iZ 1600) (pc' := 27) dX11_fits_24 rfl (by decide) ?_
              refine Go_callS_i (pc' := 30) (As := [.int _, .int _, .int _]) (st := []) dX11_fits_27 rfl ok_X11_within km_RX11_94 rfl (Nat.le_of_ble_eq_true rfl) rfl rfl rfl (Nat.le_of_ble_eq_true rfl) (Nat.lt_succ_self _) ?_
              refine s_withinY (by first | exact ⟨i_lo _, i_hi _⟩ | omega) (by first | exact ⟨i_lo _, i_hi _⟩ | omega) (by first | exact ⟨i_lo _, i_hi _⟩ | omega) ?_
              refine ⟨_, rfl, ?_⟩
              refine Go_if_neb (tgt := 35) (pc' := 33) dX11_fits_30 (by decide) rfl (fun c30 => by exfalso; omega) (fun c30 => ?_)
              refine Go_iconst (v := iZ (-1)) (pc' := 34) dX11_fits_33 rfl (by decide) ?_
              refine Go_ireturn (ty := .int) dX11_fits_34 rfl rfl ?_
              exact k
            · show Go G 60 0 0 M_X12_fits 0 [.ref 99, .int (iZ (q : Int)), .int (iZ Bz), .int (iZ Cz), un, un] [] h K
              refine Go_aload_n (pc' := 1) dX12_fits_0 rfl rfl rfl ?_
              refine Go_iload_n (pc' := 2) dX12_fits_1 rfl rfl rfl ?_
              refine Go_callV_i (pc' := 5) (As := [.int _]) (st := []) dX12_fits_2 rfl ok_X12_isQuake km_RX12_340 (I.S.o 99 rfl rfl rfl) (I.S.b 99 rfl rfl) ⟨_, _, rfl⟩ rfl (Nat.le_of_ble_eq_true rfl) rfl rfl rfl (Nat.le_of_ble_eq_true rfl) (Nat.lt_succ_self _) ?_
              refine Go_iload_n (pc' := 1) dX12_isQuake_0 rfl rfl rfl ?_
              refine Go_iconst (v := iZ 0) (pc' := 2) dX12_isQuake_1 rfl (by decide) ?_
              refine Go_aload_n (pc' := 3) dX12_isQuake_2 rfl rfl rfl ?_
              refine Go_getIv (v := (iZ (nq : Int))) (pc' := 6) dX12_isQuake_3 rfl kf_RX12_336 (by decide) (by decide) rfl (I.S.b 99 rfl rfl) (I.S.o 99 rfl rfl rfl) (eq38) ?_
              refine Go_iconst (v := iZ 1) (pc' := 7) dX12_isQuake_6 rfl (by decide) ?_
              refine Go_isubZ (pc' := 8) dX12_isQuake_7 rfl ?_
              refine Go_callS_i (pc' := 11) (As := [.int _, .int _, .int _]) (st := []) dX12_isQuake_8 rfl ok_X12_isIn km_RX12_147 rfl (Nat.le_of_ble_eq_true rfl) rfl rfl rfl (Nat.le_of_ble_eq_true rfl) (Nat.lt_succ_self _) ?_
              refine s_isInY (by first | exact ⟨i_lo _, i_hi _⟩ | omega) (by first | exact ⟨i_lo _, i_hi _⟩ | omega) (by first | exact ⟨i_lo _, i_hi _⟩ | omega) ?_
              refine ⟨_, rfl, ?_⟩
              refine Go_ireturn (ty := .boolean) dX12_isQuake_11 rfl b2i_nb ?_
              refine ⟨_, rfl, ?_⟩
              refine Go_if_eqb (tgt := 22) (pc' := 8) dX12_fits_5 (by decide) rfl (fun c5 => by exfalso; omega) (fun c5 => ?_)
              refine Go_iload_n (pc' := 9) dX12_fits_8 rfl rfl rfl ?_
              refine Go_iconst (v := iZ 1) (pc' := 10) dX12_fits_9 rfl (by decide) ?_
              refine Go_bipush (v := iZ 63) (pc' := 12) dX12_fits_10 rfl (by decide) ?_
              refine Go_callS_i (pc' := 15) (As := [.int _, .int _, .int _]) (st := []) dX12_fits_12 rfl ok_X12_isIn km_RX12_147 rfl (Nat.le_of_ble_eq_true rfl) rfl rfl rfl (Nat.le_of_ble_eq_true rfl) (Nat.lt_succ_self _) ?_
              refine s_isInY (by first | exact ⟨i_lo _, i_hi _⟩ | omega) (by first | exact ⟨i_lo _, i_hi _⟩ | omega) (by first | exact ⟨i_lo _, i_hi _⟩ | omega) ?_
              refine ⟨_, rfl, ?_⟩
              refine Go_if_eqb (tgt := 22) (pc' := 18) dX12_fits_15 (by decide) rfl (fun c15 => by exfalso; omega) (fun c15 => ?_)
              refine Go_iload_n (pc' := 19) dX12_fits_18 rfl rfl rfl ?_
              refine Go_if_geY (tgt := 24) (pc' := 22) dX12_fits_19 (by decide) rfl (by first | exact ⟨i_lo _, i_hi _⟩ | omega) (fun c19 => ?_) (fun c19 => by exfalso; omega)
              refine Go_iconst (v := iZ 0) (pc' := 25) dX12_fits_24 rfl (by decide) ?_
              refine Go_istore (pc' := 27) (lv' := [.ref _, .int _, .int _, .int _, .int _, un]) dX12_fits_25 rfl (Nat.le_of_ble_eq_true rfl) rfl rfl ?_
              refine Go_iconst (v := iZ 0) (pc' := 28) dX12_fits_27 rfl (by decide) ?_
              refine Go_istore (pc' := 30) (lv' := [.ref _, .int _, .int _, .int _, .int _, .int _]) dX12_fits_28 rfl (Nat.le_of_ble_eq_true rfl) rfl rfl ?_
              refine fmw_loop I hnc ec2 ec0 hq hnq hu QS RR eP eS eP2 eS2 hP hS (by omega) 1600 0 0 rfl (by omega) ?_
              rw [nth_none (by omega)]; exact k
        · refine PairI.ro' (fun _ => iZ (-1)) h I (fun K k => ?_) (fun K k => ?_)
          · show Go G 60 0 0 M_X11_fits 0 [.ref 64, .int (iZ (q : Int)), .int (iZ Bz), .int (iZ Cz), un] [] h K
            refine Go_aload_n (pc' := 1) dX11_fits_0 rfl rfl rfl ?_
            refine Go_iload_n (pc' := 2) dX11_fits_1 rfl rfl rfl ?_
            refine Go_callV_r (pc' := 5) (As := [.int _]) (st := []) dX11_fits_2 rfl ok_X11_quakeOf km_RX11_230 (I.S.o 64 rfl rfl rfl) (I.S.b 64 rfl rfl) ⟨_, _, rfl⟩ rfl (Nat.le_of_ble_eq_true rfl) rfl rfl rfl (Nat.le_of_ble_eq_true rfl) (Nat.lt_succ_self _) ?_
            refine Go_iload_n (pc' := 1) dX11_quakeOf_0 rfl rfl rfl ?_
            refine Go_iconst (v := iZ 0) (pc' := 2) dX11_quakeOf_1 rfl (by decide) ?_
            refine Go_aload_n (pc' := 3) dX11_quakeOf_2 rfl rfl rfl ?_
            refine Go_getIv (v := (iZ (nq : Int))) (pc' := 6) dX11_quakeOf_3 rfl kf_RX11_226 (by decide) (by decide) rfl (I.S.b 64 rfl rfl) (I.S.o 64 rfl rfl rfl) (eq7) ?_
            refine Go_iconst (v := iZ 1) (pc' := 7) dX11_quakeOf_6 rfl (by decide) ?_
            refine Go_isubZ (pc' := 8) dX11_quakeOf_7 rfl ?_
            refine Go_callS_i (pc' := 11) (As := [.int _, .int _, .int _]) (st := []) dX11_quakeOf_8 rfl ok_X11_within km_RX11_94 rfl (Nat.le_of_ble_eq_true rfl) rfl rfl rfl (Nat.le_of_ble_eq_true rfl) (Nat.lt_succ_self _) ?_
            refine s_withinY (by first | exact ⟨i_lo _, i_hi _⟩ | omega) (by first | exact ⟨i_lo _, i_hi _⟩ | omega) (by first | exact ⟨i_lo _, i_hi _⟩ | omega) ?_
            refine ⟨_, rfl, ?_⟩
            refine Go_if_eqb (tgt := 32) (pc' := 14) dX11_quakeOf_11 (by decide) rfl (fun q11 => by exfalso; omega) (fun q11 => ?_)
            refine Go_iload_n (pc' := 15) dX11_quakeOf_14 rfl rfl rfl ?_
            refine Go_aload_n (pc' := 16) dX11_quakeOf_15 rfl rfl rfl ?_
            refine Go_getRs (pc' := 19) dX11_quakeOf_16 rfl kf_RX11_45 (by decide) (by decide) rfl (I.S.b 64 rfl rfl) (I.S.o 64 rfl rfl rfl) (I.S.r 64 6 rfl rfl rfl) ?_
            refine Go_alenZ (n := 16) (pc' := 20) dX11_quakeOf_19 rfl (I.S.b 80 rfl rfl) (I.S.k 80 rfl rfl rfl) (Or.inr (Or.inr ⟨_, rfl⟩)) ?_
            refine Go_icmp_geY (tgt := 32) (pc' := 23) dX11_quakeOf_20 (by decide) rfl (by first | exact ⟨i_lo _, i_hi _⟩ | omega) (by first | exact ⟨i_lo _, i_hi _⟩ | omega) (fun q20 => by exfalso; omega) (fun q20 => ?_)
            refine Go_aload_n (pc' := 24) dX11_quakeOf_23 rfl rfl rfl ?_
            refine Go_getRs (pc' := 27) dX11_quakeOf_24 rfl kf_RX11_45 (by decide) (by decide) rfl (I.S.b 64 rfl rfl) (I.S.o 64 rfl rfl rfl) (I.S.r 64 6 rfl rfl rfl) ?_
            refine Go_iload_n (pc' := 28) dX11_quakeOf_27 rfl rfl rfl ?_
            refine Go_aaloadZ (n := 16) (k := q) (pc' := 29) dX11_quakeOf_28 rfl (I.S.b 80 rfl rfl) (I.S.k 80 rfl rfl rfl) rfl rfl (by omega) (by decide) hu ?_
            refine Go_goto (tgt := 33) dX11_quakeOf_29 (by decide) ?_
            refine Go_areturn (r := some _) dX11_quakeOf_33 rfl ?_
            refine ⟨some _, rfl, ?_⟩
            refine Go_astore (pc' := 7) (lv' := [.ref _, .int _, .int _, .int _, .ref _]) dX11_fits_5 rfl (Nat.le_of_ble_eq_true rfl) rfl rfl ?_
            refine Go_aload (pc' := 9) dX11_fits_7 rfl rfl ?_
            refine Go_ifnull (pc' := 12) dX11_fits_9 rfl ?_
            refine Go_iload_n (pc' := 13) dX11_fits_12 rfl rfl rfl ?_
            refine Go_iconst (v := iZ 1) (pc' := 14) dX11_fits_13 rfl (by decide) ?_
            refine Go_bipush (v := iZ 63) (pc' := 16) dX11_fits_14 rfl (by decide) ?_
            refine Go_callS_i (pc' := 19) (As := [.int _, .int _, .int _]) (st := []) dX11_fits_16 rfl ok_X11_within km_RX11_94 rfl (Nat.le_of_ble_eq_true rfl) rfl rfl rfl (Nat.le_of_ble_eq_true rfl) (Nat.lt_succ_self _) ?_
            refine s_withinY (by first | exact ⟨i_lo _, i_hi _⟩ | omega) (by first | exact ⟨i_lo _, i_hi _⟩ | omega) (by first | exact ⟨i_lo _, i_hi _⟩ | omega) ?_
            refine ⟨_, rfl, ?_⟩
            refine Go_if_eqb (tgt := 33) (pc' := 22) dX11_fits_19 (by decide) rfl (fun c19 => by exfalso; omega) (fun c19 => ?_)
            refine Go_iload_n (pc' := 23) dX11_fits_22 rfl rfl rfl ?_
            refine Go_iconst (v := iZ 0) (pc' := 24) dX11_fits_23 rfl (by decide) ?_
            refine Go_sipush (v := iZ 1600) (pc' := 27) dX11_fits_24 rfl (by decide) ?_
            refine Go_callS_i (pc' := 30) (As := [.int _, .int _, .int _]) (st := []) dX11_fits_27 rfl ok_X11_within km_RX11_94 rfl (Nat.le_of_ble_eq_true rfl) rfl rfl rfl (Nat.le_of_ble_eq_true rfl) (Nat.lt_succ_self _) ?_
            refine s_withinY (by first | exact ⟨i_lo _, i_hi _⟩ | omega) (by first | exact ⟨i_lo _, i_hi _⟩ | omega) (by first | exact ⟨i_lo _, i_hi _⟩ | omega) ?_
            refine ⟨_, rfl, ?_⟩
            refine Go_if_neb (tgt := 35) (pc' := 33) dX11_fits_30 (by decide) rfl (fun c30 => by exfalso; omega) (fun c30 => ?_)
            refine Go_iconst (v := iZ (-1)) (pc' := 34) dX11_fits_33 rfl (by decide) ?_
            refine Go_ireturn (ty := .int) dX11_fits_34 rfl rfl ?_
            exact k
          · show Go G 60 0 0 M_X12_fits 0 [.ref 99, .int (iZ (q : Int)), .int (iZ Bz), .int (iZ Cz), un, un] [] h K
            refine Go_aload_n (pc' := 1) dX12_fits_0 rfl rfl rfl ?_
            refine Go_iload_n (pc' := 2) dX12_fits_1 rfl rfl rfl ?_
            refine Go_callV_i (pc' := 5) (As := [.int _]) (st := []) dX12_fits_2 rfl ok_X12_isQuake km_RX12_340 (I.S.o 99 rfl rfl rfl) (I.S.b 99 rfl rfl) ⟨_, _, rfl⟩ rfl (Nat.le_of_ble_eq_true rfl) rfl rfl rfl (Nat.le_of_ble_eq_true rfl) (Nat.lt_succ_self _) ?_
            refine Go_iload_n (pc' := 1) dX12_isQuake_0 rfl rfl rfl ?_
            refine Go_iconst (v := iZ 0) (pc' := 2) dX12_isQuake_1 rfl (by decide) ?_
            refine Go_aload_n (pc' := 3) dX12_isQuake_2 rfl rfl rfl ?_
            refine Go_getIv (v := (iZ (nq : Int))) (pc' := 6) dX12_isQuake_3 rfl kf_RX12_336 (by decide) (by decide) rfl (I.S.b 99 rfl rfl) (I.S.o 99 rfl rfl rfl) (eq38) ?_
            refine Go_iconst (v := iZ 1) (pc' := 7) dX12_isQuake_6 rfl (by decide) ?_
            refine Go_isubZ (pc' := 8) dX12_isQuake_7 rfl ?_
            refine Go_callS_i (pc' := 11) (As := [.int _, .int _, .int _]) (st := []) dX12_isQuake_8 rfl ok_X12_isIn km_RX12_147 rfl (Nat.le_of_ble_eq_true rfl) rfl rfl rfl (Nat.le_of_ble_eq_true rfl) (Nat.lt_succ_self _) ?_
            refine s_isInY (by first | exact ⟨i_lo _, i_hi _⟩ | omega) (by first | exact ⟨i_lo _, i_hi _⟩ | omega) (by first | exact ⟨i_lo _, i_hi _⟩ | omega) ?_
            refine ⟨_, rfl, ?_⟩
            refine Go_ireturn (ty := .boolean) dX12_isQuake_11 rfl b2i_nb ?_
            refine ⟨_, rfl, ?_⟩
            refine Go_if_eqb (tgt := 22) (pc' := 8) dX12_fits_5 (by decide) rfl (fun c5 => by exfalso; omega) (fun c5 => ?_)
            refine Go_iload_n (pc' := 9) dX12_fits_8 rfl rfl rfl ?_
            refine Go_iconst (v := iZ 1) (pc' := 10) dX12_fits_9 rfl (by decide) ?_
            refine Go_bipush (v := iZ 63) (pc' := 12) dX12_fits_10 rfl (by decide) ?_
            refine Go_callS_i (pc' := 15) (As := [.int _, .int _, .int _]) (st := []) dX12_fits_12 rfl ok_X12_isIn km_RX12_147 rfl (Nat.le_of_ble_eq_true rfl) rfl rfl rfl (Nat.le_of_ble_eq_true rfl) (Nat.lt_succ_self _) ?_
            refine s_isInY (by first | exact ⟨i_lo _, i_hi _⟩ | omega) (by first | exact ⟨i_lo _, i_hi _⟩ | omega) (by first | exact ⟨i_lo _, i_hi _⟩ | omega) ?_
            refine ⟨_, rfl, ?_⟩
            refine Go_if_eqb (tgt := 22) (pc' := 18) dX12_fits_15 (by decide) rfl (fun c15 => by exfalso; omega) (fun c15 => ?_)
            refine Go_iload_n (pc' := 19) dX12_fits_18 rfl rfl rfl ?_
            refine Go_if_geY (tgt := 24) (pc' := 22) dX12_fits_19 (by decide) rfl (by first | exact ⟨i_lo _, i_hi _⟩ | omega) (fun c19 => by exfalso; omega) (fun c19 => ?_)
            refine Go_iconst (v := iZ (-1)) (pc' := 23) dX12_fits_22 rfl (by decide) ?_
            refine Go_ireturn (ty := .int) dX12_fits_23 rfl rfl ?_
            exact k
    · refine PairI.ro' (fun _ => iZ (-1)) h I (fun K k => ?_) (fun K k => ?_)
      · show Go G 60 0 0 M_X11_fits 0 [.ref 64, .int (iZ (q : Int)), .int (iZ Bz), .int (iZ Cz), un] [] h K
        refine Go_aload_n (pc' := 1) dX11_fits_0 rfl rfl rfl ?_
        refine Go_iload_n (pc' := 2) dX11_fits_1 rfl rfl rfl ?_
        refine Go_callV_r (pc' := 5) (As := [.int _]) (st := []) dX11_fits_2 rfl ok_X11_quakeOf km_RX11_230 (I.S.o 64 rfl rfl rfl) (I.S.b 64 rfl rfl) ⟨_, _, rfl⟩ rfl (Nat.le_of_ble_eq_true rfl) rfl rfl rfl (Nat.le_of_ble_eq_true rfl) (Nat.lt_succ_self _) ?_
        refine Go_iload_n (pc' := 1) dX11_quakeOf_0 rfl rfl rfl ?_
        refine Go_iconst (v := iZ 0) (pc' := 2) dX11_quakeOf_1 rfl (by decide) ?_
        refine Go_aload_n (pc' := 3) dX11_quakeOf_2 rfl rfl rfl ?_
        refine Go_getIv (v := (iZ (nq : Int))) (pc' := 6) dX11_quakeOf_3 rfl kf_RX11_226 (by decide) (by decide) rfl (I.S.b 64 rfl rfl) (I.S.o 64 rfl rfl rfl) (eq7) ?_
        refine Go_iconst (v := iZ 1) (pc' := 7) dX11_quakeOf_6 rfl (by decide) ?_
        refine Go_isubZ (pc' := 8) dX11_quakeOf_7 rfl ?_
        refine Go_callS_i (pc' := 11) (As := [.int _, .int _, .int _]) (st := []) dX11_quakeOf_8 rfl ok_X11_within km_RX11_94 rfl (Nat.le_of_ble_eq_true rfl) rfl rfl rfl (Nat.le_of_ble_eq_true rfl) (Nat.lt_succ_self _) ?_
        refine s_withinY (by first | exact ⟨i_lo _, i_hi _⟩ | omega) (by first | exact ⟨i_lo _, i_hi _⟩ | omega) (by first | exact ⟨i_lo _, i_hi _⟩ | omega) ?_
        refine ⟨_, rfl, ?_⟩
        refine Go_if_eqb (tgt := 32) (pc' := 14) dX11_quakeOf_11 (by decide) rfl (fun q11 => by exfalso; omega) (fun q11 => ?_)
        refine Go_iload_n (pc' := 15) dX11_quakeOf_14 rfl rfl rfl ?_
        refine Go_aload_n (pc' := 16) dX11_quakeOf_15 rfl rfl rfl ?_
        refine Go_getRs (pc' := 19) dX11_quakeOf_16 rfl kf_RX11_45 (by decide) (by decide) rfl (I.S.b 64 rfl rfl) (I.S.o 64 rfl rfl rfl) (I.S.r 64 6 rfl rfl rfl) ?_
        refine Go_alenZ (n := 16) (pc' := 20) dX11_quakeOf_19 rfl (I.S.b 80 rfl rfl) (I.S.k 80 rfl rfl rfl) (Or.inr (Or.inr ⟨_, rfl⟩)) ?_
        refine Go_icmp_geY (tgt := 32) (pc' := 23) dX11_quakeOf_20 (by decide) rfl (by first | exact ⟨i_lo _, i_hi _⟩ | omega) (by first | exact ⟨i_lo _, i_hi _⟩ | omega) (fun q20 => by exfalso; omega) (fun q20 => ?_)
        refine Go_aload_n (pc' := 24) dX11_quakeOf_23 rfl rfl rfl ?_
        refine Go_getRs (pc' := 27) dX11_quakeOf_24 rfl kf_RX11_45 (by decide) (by decide) rfl (I.S.b 64 rfl rfl) (I.S.o 64 rfl rfl rfl) (I.S.r 64 6 rfl rfl rfl) ?_
        refine Go_iload_n (pc' := 28) dX11_quakeOf_27 rfl rfl rfl ?_
        refine Go_aaloadZ (n := 16) (k := q) (pc' := 29) dX11_quakeOf_28 rfl (I.S.b 80 rfl rfl) (I.S.k 80 rfl rfl rfl) rfl rfl (by omega) (by decide) hu ?_
        refine Go_goto (tgt := 33) dX11_quakeOf_29 (by decide) ?_
        refine Go_areturn (r := some _) dX11_quakeOf_33 rfl ?_
        refine ⟨some _, rfl, ?_⟩
        refine Go_astore (pc' := 7) (lv' := [.ref _, .int _, .int _, .int _, .ref _]) dX11_fits_5 rfl (Nat.le_of_ble_eq_true rfl) rfl rfl ?_
        refine Go_aload (pc' := 9) dX11_fits_7 rfl rfl ?_
        refine Go_ifnull (pc' := 12) dX11_fits_9 rfl ?_
        refine Go_iload_n (pc' := 13) dX11_fits_12 rfl rfl rfl ?_
        refine Go_iconst (v := iZ 1) (pc' := 14) dX11_fits_13 rfl (by decide) ?_
        refine Go_bipush (v := iZ 63) (pc' := 16) dX11_fits_14 rfl (by decide) ?_
        refine Go_callS_i (pc' := 19) (As := [.int _, .int _, .int _]) (st := []) dX11_fits_16 rfl ok_X11_within km_RX11_94 rfl (Nat.le_of_ble_eq_true rfl) rfl rfl rfl (Nat.le_of_ble_eq_true rfl) (Nat.lt_succ_self _) ?_
        refine s_withinY (by first | exact ⟨i_lo _, i_hi _⟩ | omega) (by first | exact ⟨i_lo _, i_hi _⟩ | omega) (by first | exact ⟨i_lo _, i_hi _⟩ | omega) ?_
        refine ⟨_, rfl, ?_⟩
        refine Go_if_eqb (tgt := 33) (pc' := 22) dX11_fits_19 (by decide) rfl (fun c19 => ?_) (fun c19 => by exfalso; omega)
        refine Go_iconst (v := iZ (-1)) (pc' := 34) dX11_fits_33 rfl (by decide) ?_
        refine Go_ireturn (ty := .int) dX11_fits_34 rfl rfl ?_
        exact k
      · show Go G 60 0 0 M_X12_fits 0 [.ref 99, .int (iZ (q : Int)), .int (iZ Bz), .int (iZ Cz), un, un] [] h K
        refine Go_aload_n (pc' := 1) dX12_fits_0 rfl rfl rfl ?_
        refine Go_iload_n (pc' := 2) dX12_fits_1 rfl rfl rfl ?_
        refine Go_callV_i (pc' := 5) (As := [.int _]) (st := []) dX12_fits_2 rfl ok_X12_isQuake km_RX12_340 (I.S.o 99 rfl rfl rfl) (I.S.b 99 rfl rfl) ⟨_, _, rfl⟩ rfl (Nat.le_of_ble_eq_true rfl) rfl rfl rfl (Nat.le_of_ble_eq_true rfl) (Nat.lt_succ_self _) ?_
        refine Go_iload_n (pc' := 1) dX12_isQuake_0 rfl rfl rfl ?_
        refine Go_iconst (v := iZ 0) (pc' := 2) dX12_isQuake_1 rfl (by decide) ?_
        refine Go_aload_n (pc' := 3) dX12_isQuake_2 rfl rfl rfl ?_
        refine Go_getIv (v := (iZ (nq : Int))) (pc' := 6) dX12_isQuake_3 rfl kf_RX12_336 (by decide) (by decide) rfl (I.S.b 99 rfl rfl) (I.S.o 99 rfl rfl rfl) (eq38) ?_
        refine Go_iconst (v := iZ 1) (pc' := 7) dX12_isQuake_6 rfl (by decide) ?_
        refine Go_isubZ (pc' := 8) dX12_isQuake_7 rfl ?_
        refine Go_callS_i (pc' := 11) (As := [.int _, .int _, .int _]) (st := []) dX12_isQuake_8 rfl ok_X12_isIn km_RX12_147 rfl (Nat.le_of_ble_eq_true rfl) rfl rfl rfl (Nat.le_of_ble_eq_true rfl) (Nat.lt_succ_self _) ?_
        refine s_isInY (by first | exact ⟨i_lo _, i_hi _⟩ | omega) (by first | exact ⟨i_lo _, i_hi _⟩ | omega) (by first | exact ⟨i_lo _, i_hi _⟩ | omega) ?_
        refine ⟨_, rfl, ?_⟩
        refine Go_ireturn (ty := .boolean) dX12_isQuake_11 rfl b2i_nb ?_
        refine ⟨_, rfl, ?_⟩
        refine Go_if_eqb (tgt := 22) (pc' := 8) dX12_fits_5 (by decide) rfl (fun c5 => by exfalso; omega) (fun c5 => ?_)
        refine Go_iload_n (pc' := 9) dX12_fits_8 rfl rfl rfl ?_
        refine Go_iconst (v := iZ 1) (pc' := 10) dX12_fits_9 rfl (by decide) ?_
        refine Go_bipush (v := iZ 63) (pc' := 12) dX12_fits_10 rfl (by decide) ?_
        refine Go_callS_i (pc' := 15) (As := [.int _, .int _, .int _]) (st := []) dX12_fits_12 rfl ok_X12_isIn km_RX12_147 rfl (Nat.le_of_ble_eq_true rfl) rfl rfl rfl (Nat.le_of_ble_eq_true rfl) (Nat.lt_succ_self _) ?_
        refine s_isInY (by first | exact ⟨i_lo _, i_hi _⟩ | omega) (by first | exact ⟨i_lo _, i_hi _⟩ | omega) (by first | exact ⟨i_lo _, i_hi _⟩ | omega) ?_
        refine ⟨_, rfl, ?_⟩
        refine Go_if_eqb (tgt := 22) (pc' := 18) dX12_fits_15 (by decide) rfl (fun c15 => ?_) (fun c15 => by exfalso; omega)
        refine Go_iconst (v := iZ (-1)) (pc' := 23) dX12_fits_22 rfl (by decide) ?_
        refine Go_ireturn (ty := .int) dX12_fits_23 rfl rfl ?_
        exact k
def wrS (c : Nat) : Int32 := iZ 63 &&& ((iZ 1 <<< (iZ (c : Int) &&& 31)) ^^^ iZ (-1))
def wrg (h : HS) (P S : Int) (nc q c : Nat) : Bool := decide (vi h 124 (6 * q + c) = iZ 1) && fsB (fitq h P S nc q (wrS c)) 1600 0
theorem wrg_n {h : HS} {P S : Int} {nc q c : Nat} (e : vi h 124 (6 * q + c) = iZ 0) : ¬ wrg h P S nc q c = true := by
  unfold wrg; rw [decide_eq_false (by rw [e]; decide)]; simp
theorem wrg_s {h : HS} {P S : Int} {nc q c : Nat} (e : vi h 124 (6 * q + c) = iZ 1) : wrg h P S nc q c = fsB (fitq h P S nc q (wrS c)) 1600 0 := by
  unfold wrg; rw [decide_eq_true e, Bool.true_and]
def wr (g : Nat → Bool) : Nat → Nat → Int → Int
  | 0, _, f => f
  | m + 1, c, f => if g c = true then (if f = -1 then wr g m (c + 1) (c : Int) else -1) else wr g m (c + 1) f
theorem wr_f {g : Nat → Bool} {m i : Nat} {l : Int} (h : ¬ g i = true) : wr g (m + 1) i l = wr g m (i + 1) l := by show (if _ then _ else _) = _; rw [if_neg h]
theorem wr_t {g : Nat → Bool} {m i : Nat} {l : Int} (h : g i = true) (e : l = -1) : wr g (m + 1) i l = wr g m (i + 1) (i : Int) := by show (if _ then (if _ then _ else _) else _) = _; rw [if_pos h, if_pos e]
theorem wr_x {g : Nat → Bool} {m i : Nat} {l : Int} (h : g i = true) (e : ¬ l = -1) : wr g (m + 1) i l = -1 := by show (if _ then (if _ then _ else _) else _) = _; rw [if_pos h, if_neg e]
set_option maxRecDepth 20000 in
set_option maxHeartbeats 1000000 in
theorem wr_loop {G : GC} {d mc ms : Nat} {h : HS} {K : Option Value → HS → Prop} {q u nq nc : Nat} {P S : Int} (I : Inv h) (hnc : nc ≤ 6) (ec2 : vi h 64 2 = iZ (nc : Int)) (ec0 : vi h 99 0 = iZ (nc : Int)) (hq : q < nq) (hnq : nq ≤ 16) (hu : ri h 80 q = some u) (QS : QkS h u) (RR : ∀ c, c < 6 → RdR h u q c) (eP : vi h 64 8 = iZ P) (eS : vi h 64 9 = iZ S) (eP2 : vi h 99 39 = iZ P) (eS2 : vi h 99 40 = iZ S) (hP : 1 ≤ P ∧ P ≤ 99) (hS : 1 ≤ S ∧ S ≤ 99) : ∀ (m c : Nat) (f : Int) (v5 : Value), c + m = nc → -1 ≤ f ∧ f ≤ 6 → K (some (.int (iZ (wr (wrg h P S nc q) m c f)))) h → Go G (d + 4) mc ms M_X11_wrong 29 [.ref 64, .int (iZ (q : Int)), .ref u, .int (iZ f), .int (iZ (c : Int)), v5] [] h K := by
  have hu0 := QS.1
  intro m
  induction m with
  | zero =>
    intro c f v5 hm hf hk
    refine Go_iload (pc' := 31) dX11_wrong_29 rfl rfl ?_
    refine Go_aload_n (pc' := 32) dX11_wrong_31 rfl rfl rfl ?_
    refine Go_getIv (v := (iZ (nc : Int))) (pc' := 35) dX11_wrong_32 rfl kf_RX11_84 (by decide) (by decide) rfl (I.S.b 64 rfl rfl) (I.S.o 64 rfl rfl rfl) (ec2) ?_
    refine Go_icmp_geY (tgt := 99) (pc' := 38) dX11_wrong_35 (by decide) rfl (by first | exact ⟨i_lo _, i_hi _⟩ | omega) (by first | exact ⟨i_lo _, i_hi _⟩ | omega) (fun c35 => ?_) (fun c35 => by exfalso; omega)
    refine Go_iload_n (pc' := 100) dX11_wrong_99 rfl rfl rfl ?_
    refine Go_ireturn (ty := .int) dX11_wrong_100 rfl rfl ?_
    exact hk
  | succ m ih =>
    intro c f v5 hm hf hk
    rcases RR c (by omega) with ⟨hw, h0⟩ | ⟨w, hw, h0, RS, RV, -⟩
    · refine Go_iload (pc' := 31) dX11_wrong_29 rfl rfl ?_
      refine Go_aload_n (pc' := 32) dX11_wrong_31 rfl rfl rfl ?_
      refine Go_getIv (v := (iZ (nc : Int))) (pc' := 35) dX11_wrong_32 rfl kf_RX11_84 (by decide) (by decide) rfl (I.S.b 64 rfl rfl) (I.S.o 64 rfl rfl rfl) (ec2) ?_
      refine Go_icmp_geY (tgt := 99) (pc' := 38) dX11_wrong_35 (by decide) rfl (by first | exact ⟨i_lo _, i_hi _⟩ | omega) (by first | exact ⟨i_lo _, i_hi _⟩ | omega) (fun c35 => by exfalso; omega) (fun c35 => ?_)
      refine Go_aload_n (pc' := 39) dX11_wrong_38 rfl rfl rfl ?_
      refine Go_iload (pc' := 41) dX11_wrong_39 rfl rfl ?_
      refine Go_callV_r (pc' := 44) (As := [.int _]) (st := []) dX11_wrong_41 rfl ok_X5_reading km_RX11_271 QS.o QS.b ⟨_, _, rfl⟩ rfl (Nat.le_of_ble_eq_true rfl) rfl rfl rfl (Nat.le_of_ble_eq_true rfl) (Nat.lt_succ_self _) ?_
      refine Go_iload_n (pc' := 1) dX5_reading_0 rfl rfl rfl ?_
      refine Go_if_ltY (tgt := 22) (pc' := 4) dX5_reading_1 (by decide) rfl (by first | exact ⟨i_lo _, i_hi _⟩ | omega) (fun r1 => by exfalso; omega) (fun r1 => ?_)
      refine Go_iload_n (pc' := 5) dX5_reading_4 rfl rfl rfl ?_
      refine Go_aload_n (pc' := 6) dX5_reading_5 rfl rfl rfl ?_
      refine Go_getRs (pc' := 9) dX5_reading_6 rfl kf_RX5_11 (by decide) (by decide) rfl QS.b QS.o QS.r0 ?_
      refine Go_alenZ (n := 6) (pc' := 10) dX5_reading_9 rfl QS.b1 QS.k1 (Or.inr (Or.inr ⟨_, rfl⟩)) ?_
      refine Go_icmp_geY (tgt := 22) (pc' := 13) dX5_reading_10 (by decide) rfl (by first | exact ⟨i_lo _, i_hi _⟩ | omega) (by first | exact ⟨i_lo _, i_hi _⟩ | omega) (fun r10 => by exfalso; omega) (fun r10 => ?_)
      refine Go_aload_n (pc' := 14) dX5_reading_13 rfl rfl rfl ?_
      refine Go_getRs (pc' := 17) dX5_reading_14 rfl kf_RX5_11 (by decide) (by decide) rfl QS.b QS.o QS.r0 ?_
      refine Go_iload_n (pc' := 18) dX5_reading_17 rfl rfl rfl ?_
      refine Go_aaloadNZ (n := 6) (k := c) (pc' := 19) dX5_reading_18 rfl QS.b1 QS.k1 rfl rfl (by omega) (by decide) hw ?_
      refine Go_goto (tgt := 23) dX5_reading_19 (by decide) ?_
      refine Go_areturn (r := none) dX5_reading_23 rfl ?_
      refine ⟨none, rfl, ?_⟩
      refine Go_ifnullN (tgt := 70) dX11_wrong_44 (by decide) ?_
      refine Go_iconst (v := iZ 0) (pc' := 71) dX11_wrong_70 rfl (by decide) ?_
      refine Go_istore (pc' := 73) (lv' := [.ref _, .int _, .ref _, .int _, .int _, .int _]) dX11_wrong_71 rfl (Nat.le_of_ble_eq_true rfl) rfl rfl ?_
      refine Go_iload (pc' := 75) dX11_wrong_73 rfl rfl ?_
      refine Go_if_eqY (tgt := 85) (pc' := 78) dX11_wrong_75 (by decide) rfl (by first | exact ⟨i_lo _, i_hi _⟩ | omega) (fun c75 => ?_) (fun c75 => by exfalso; omega)
      refine Go_iload (pc' := 87) dX11_wrong_85 rfl rfl ?_
      refine Go_if_eqY (tgt := 93) (pc' := 90) dX11_wrong_87 (by decide) rfl (by first | exact ⟨i_lo _, i_hi _⟩ | omega) (fun c87 => ?_) (fun c87 => by exfalso; omega)
      refine Go_iincZ (pc' := 96) (lv' := [.ref _, .int _, .ref _, .int _, .int _, .int _]) dX11_wrong_93 rfl rfl (Nat.le_of_ble_eq_true rfl) rfl rfl ?_
      refine Go_goto (tgt := 29) dX11_wrong_96 (by decide) ?_
      rw [wr_f (wrg_n h0)] at hk
      exact ih (c + 1) _ _ (by omega) hf hk
    · have nf := nth_fs (g := fitq h P S nc q (wrS c)) (m := 1600) (i := 0)
      refine Go_iload (pc' := 31) dX11_wrong_29 rfl rfl ?_
      refine Go_aload_n (pc' := 32) dX11_wrong_31 rfl rfl rfl ?_
      refine Go_getIv (v := (iZ (nc : Int))) (pc' := 35) dX11_wrong_32 rfl kf_RX11_84 (by decide) (by decide) rfl (I.S.b 64 rfl rfl) (I.S.o 64 rfl rfl rfl) (ec2) ?_
      refine Go_icmp_geY (tgt := 99) (pc' := 38) dX11_wrong_35 (by decide) rfl (by first | exact ⟨i_lo _, i_hi _⟩ | omega) (by first | exact ⟨i_lo _, i_hi _⟩ | omega) (fun c35 => by exfalso; omega) (fun c35 => ?_)
      refine Go_aload_n (pc' := 39) dX11_wrong_38 rfl rfl rfl ?_
      refine Go_iload (pc' := 41) dX11_wrong_39 rfl rfl ?_
      refine Go_callV_r (pc' := 44) (As := [.int _]) (st := []) dX11_wrong_41 rfl ok_X5_reading km_RX11_271 QS.o QS.b ⟨_, _, rfl⟩ rfl (Nat.le_of_ble_eq_true rfl) rfl rfl rfl (Nat.le_of_ble_eq_true rfl) (Nat.lt_succ_self _) ?_
      refine Go_iload_n (pc' := 1) dX5_reading_0 rfl rfl rfl ?_
      refine Go_if_ltY (tgt := 22) (pc' := 4) dX5_reading_1 (by decide) rfl (by first | exact ⟨i_lo _, i_hi _⟩ | omega) (fun r1 => by exfalso; omega) (fun r1 => ?_)
      refine Go_iload_n (pc' := 5) dX5_reading_4 rfl rfl rfl ?_
      refine Go_aload_n (pc' := 6) dX5_reading_5 rfl rfl rfl ?_
      refine Go_getRs (pc' := 9) dX5_reading_6 rfl kf_RX5_11 (by decide) (by decide) rfl QS.b QS.o QS.r0 ?_
      refine Go_alenZ (n := 6) (pc' := 10) dX5_reading_9 rfl QS.b1 QS.k1 (Or.inr (Or.inr ⟨_, rfl⟩)) ?_
      refine Go_icmp_geY (tgt := 22) (pc' := 13) dX5_reading_10 (by decide) rfl (by first | exact ⟨i_lo _, i_hi _⟩ | omega) (by first | exact ⟨i_lo _, i_hi _⟩ | omega) (fun r10 => by exfalso; omega) (fun r10 => ?_)
      refine Go_aload_n (pc' := 14) dX5_reading_13 rfl rfl rfl ?_
      refine Go_getRs (pc' := 17) dX5_reading_14 rfl kf_RX5_11 (by decide) (by decide) rfl QS.b QS.o QS.r0 ?_
      refine Go_iload_n (pc' := 18) dX5_reading_17 rfl rfl rfl ?_
      refine Go_aaloadZ (n := 6) (k := c) (pc' := 19) dX5_reading_18 rfl QS.b1 QS.k1 rfl rfl (by omega) (by decide) hw ?_
      refine Go_goto (tgt := 23) dX5_reading_19 (by decide) ?_
      refine Go_areturn (r := some _) dX5_reading_23 rfl ?_
      refine ⟨some _, rfl, ?_⟩
      refine Go_ifnull (pc' := 47) dX11_wrong_44 rfl ?_
      refine Go_aload_n (pc' := 48) dX11_wrong_47 rfl rfl rfl ?_
      refine Go_aload_n (pc' := 49) dX11_wrong_48 rfl rfl rfl ?_
      refine Go_bipush (v := iZ 63) (pc' := 51) dX11_wrong_49 rfl (by decide) ?_
      refine Go_iconst (v := iZ 1) (pc' := 52) dX11_wrong_51 rfl (by decide) ?_
      refine Go_iload (pc' := 54) dX11_wrong_52 rfl rfl ?_
      refine Go_ishl (pc' := 55) dX11_wrong_54 rfl ?_
      refine Go_iconst (v := iZ (-1)) (pc' := 56) dX11_wrong_55 rfl (by decide) ?_
      refine Go_ixor (pc' := 57) dX11_wrong_56 rfl ?_
      refine Go_iand (pc' := 58) dX11_wrong_57 rfl ?_
      refine Go_iconst (v := iZ 0) (pc' := 59) dX11_wrong_58 rfl (by decide) ?_
      refine Go_callV_i (pc' := 62) (As := [.ref _, .int _, .int _]) (st := []) dX11_wrong_59 rfl ok_X11_fittingCell km_RX11_263 (I.S.o 64 rfl rfl rfl) (I.S.b 64 rfl rfl) ⟨_, _, rfl⟩ rfl (Nat.le_of_ble_eq_true rfl) rfl rfl rfl (Nat.le_of_ble_eq_true rfl) (Nat.lt_succ_self _) ?_
      refine s_fc (s := wrS c) I hnc ec2 ec0 hq hnq hu QS RR eP eS eP2 eS2 hP hS (by omega) ?_
      refine ⟨_, rfl, ?_⟩
      refine Go_iconst (v := iZ (-1)) (pc' := 63) dX11_wrong_62 rfl (by decide) ?_
      refine Go_icmp_eqY (tgt := 70) (pc' := 66) dX11_wrong_63 (by decide) rfl (by first | exact ⟨i_lo _, i_hi _⟩ | omega) (by first | exact ⟨i_lo _, i_hi _⟩ | omega) (fun c63 => ?_) (fun c63 => ?_)
      · refine Go_iconst (v := iZ 0) (pc' := 71) dX11_wrong_70 rfl (by decide) ?_
        refine Go_istore (pc' := 73) (lv' := [.ref _, .int _, .ref _, .int _, .int _, .int _]) dX11_wrong_71 rfl (Nat.le_of_ble_eq_true rfl) rfl rfl ?_
        refine Go_iload (pc' := 75) dX11_wrong_73 rfl rfl ?_
        refine Go_if_eqY (tgt := 85) (pc' := 78) dX11_wrong_75 (by decide) rfl (by first | exact ⟨i_lo _, i_hi _⟩ | omega) (fun c75 => ?_) (fun c75 => by exfalso; omega)
        refine Go_iload (pc' := 87) dX11_wrong_85 rfl rfl ?_
        refine Go_if_eqY (tgt := 93) (pc' := 90) dX11_wrong_87 (by decide) rfl (by first | exact ⟨i_lo _, i_hi _⟩ | omega) (fun c87 => ?_) (fun c87 => by exfalso; omega)
        refine Go_iincZ (pc' := 96) (lv' := [.ref _, .int _, .ref _, .int _, .int _, .int _]) dX11_wrong_93 rfl rfl (Nat.le_of_ble_eq_true rfl) rfl rfl ?_
        refine Go_goto (tgt := 29) dX11_wrong_96 (by decide) ?_
        rw [wr_f (show ¬ (wrg h P S nc q) c = true from by rw [wrg_s h0]; rcases nf with nf | nf; rw [nf.2]; decide; exact absurd c63 (by omega))] at hk
        exact ih (c + 1) _ _ (by omega) hf hk
      · refine Go_iconst (v := iZ 1) (pc' := 67) dX11_wrong_66 rfl (by decide) ?_
        refine Go_goto (tgt := 71) dX11_wrong_67 (by decide) ?_
        refine Go_istore (pc' := 73) (lv' := [.ref _, .int _, .ref _, .int _, .int _, .int _]) dX11_wrong_71 rfl (Nat.le_of_ble_eq_true rfl) rfl rfl ?_
        refine Go_iload (pc' := 75) dX11_wrong_73 rfl rfl ?_
        refine Go_if_eqY (tgt := 85) (pc' := 78) dX11_wrong_75 (by decide) rfl (by first | exact ⟨i_lo _, i_hi _⟩ | omega) (fun c75 => by exfalso; omega) (fun c75 => ?_)
        refine Go_iload_n (pc' := 79) dX11_wrong_78 rfl rfl rfl ?_
        refine Go_iconst (v := iZ (-1)) (pc' := 80) dX11_wrong_79 rfl (by decide) ?_
        refine Go_icmp_eqY (tgt := 85) (pc' := 83) dX11_wrong_80 (by decide) rfl (by first | exact ⟨i_lo _, i_hi _⟩ | omega) (by first | exact ⟨i_lo _, i_hi _⟩ | omega) (fun c80 => ?_) (fun c80 => ?_)
        · refine Go_iload (pc' := 87) dX11_wrong_85 rfl rfl ?_
          refine Go_if_eqY (tgt := 93) (pc' := 90) dX11_wrong_87 (by decide) rfl (by first | exact ⟨i_lo _, i_hi _⟩ | omega) (fun c87 => by exfalso; omega) (fun c87 => ?_)
          refine Go_iload (pc' := 92) dX11_wrong_90 rfl rfl ?_
          refine Go_istore_n (pc' := 93) (lv' := [.ref _, .int _, .ref _, .int _, .int _, .int _]) dX11_wrong_92 rfl rfl (Nat.le_of_ble_eq_true rfl) rfl rfl ?_
          refine Go_iincZ (pc' := 96) (lv' := [.ref _, .int _, .ref _, .int _, .int _, .int _]) dX11_wrong_93 rfl rfl (Nat.le_of_ble_eq_true rfl) rfl rfl ?_
          refine Go_goto (tgt := 29) dX11_wrong_96 (by decide) ?_
          rw [wr_t (show (wrg h P S nc q) c = true from by rw [wrg_s h0]; rcases nf with nf | nf; exact absurd nf.1 c63; exact nf.2.2) c80] at hk
          exact ih (c + 1) _ _ (by omega) (by omega) hk
        · refine Go_iconst (v := iZ (-1)) (pc' := 84) dX11_wrong_83 rfl (by decide) ?_
          refine Go_ireturn (ty := .int) dX11_wrong_84 rfl rfl ?_
          rw [wr_x (show (wrg h P S nc q) c = true from by rw [wrg_s h0]; rcases nf with nf | nf; exact absurd nf.1 c63; exact nf.2.2) c80] at hk; exact hk
set_option maxRecDepth 20000 in
set_option maxHeartbeats 1000000 in
theorem wrM_loop {G : GC} {d mc ms : Nat} {h : HS} {K : Option Value → HS → Prop} {q u nq nc : Nat} {P S : Int} (I : Inv h) (hnc : nc ≤ 6) (ec2 : vi h 64 2 = iZ (nc : Int)) (ec0 : vi h 99 0 = iZ (nc : Int)) (hq : q < nq) (hnq : nq ≤ 16) (hu : ri h 80 q = some u) (QS : QkS h u) (RR : ∀ c, c < 6 → RdR h u q c) (eP : vi h 64 8 = iZ P) (eS : vi h 64 9 = iZ S) (eP2 : vi h 99 39 = iZ P) (eS2 : vi h 99 40 = iZ S) (hP : 1 ≤ P ∧ P ≤ 99) (hS : 1 ≤ S ∧ S ≤ 99) : ∀ (m c : Nat) (f : Int), c + m = nc → -1 ≤ f ∧ f ≤ 6 → K (some (.int (iZ (wr (wrg h P S nc q) m c f)))) h → Go G (d + 3) mc ms M_X12_wrong 24 [.ref 99, .int (iZ (q : Int)), .int (iZ f), .int (iZ (c : Int))] [] h K := by
  intro m
  induction m with
  | zero =>
    intro c f hm hf hk
    refine Go_iload_n (pc' := 25) dX12_wrong_24 rfl rfl rfl ?_
    refine Go_aload_n (pc' := 26) dX12_wrong_25 rfl rfl rfl ?_
    refine Go_getIv (v := (iZ (nc : Int))) (pc' := 29) dX12_wrong_26 rfl kf_RX12_151 (by decide) (by decide) rfl (I.S.b 99 rfl rfl) (I.S.o 99 rfl rfl rfl) (ec0) ?_
    refine Go_icmp_geY (tgt := 80) (pc' := 32) dX12_wrong_29 (by decide) rfl (by first | exact ⟨i_lo _, i_hi _⟩ | omega) (by first | exact ⟨i_lo _, i_hi _⟩ | omega) (fun c29 => ?_) (fun c29 => by exfalso; omega)
    refine Go_iload_n (pc' := 81) dX12_wrong_80 rfl rfl rfl ?_
    refine Go_ireturn (ty := .int) dX12_wrong_81 rfl rfl ?_
    exact hk
  | succ m ih =>
    intro c f hm hf hk
    rcases RR c (by omega) with ⟨hw, h0⟩ | ⟨w, hw, h0, RS, RV, -⟩
    · refine Go_iload_n (pc' := 25) dX12_wrong_24 rfl rfl rfl ?_
      refine Go_aload_n (pc' := 26) dX12_wrong_25 rfl rfl rfl ?_
      refine Go_getIv (v := (iZ (nc : Int))) (pc' := 29) dX12_wrong_26 rfl kf_RX12_151 (by decide) (by decide) rfl (I.S.b 99 rfl rfl) (I.S.o 99 rfl rfl rfl) (ec0) ?_
      refine Go_icmp_geY (tgt := 80) (pc' := 32) dX12_wrong_29 (by decide) rfl (by first | exact ⟨i_lo _, i_hi _⟩ | omega) (by first | exact ⟨i_lo _, i_hi _⟩ | omega) (fun c29 => by exfalso; omega) (fun c29 => ?_)
      refine Go_aload_n (pc' := 33) dX12_wrong_32 rfl rfl rfl ?_
      refine Go_getRs (pc' := 36) dX12_wrong_33 rfl kf_RX12_92 (by decide) (by decide) rfl (I.S.b 99 rfl rfl) (I.S.o 99 rfl rfl rfl) (I.S.r 99 41 rfl rfl rfl) ?_
      refine Go_bipush (v := iZ 6) (pc' := 38) dX12_wrong_36 rfl (by decide) ?_
      refine Go_iload_n (pc' := 39) dX12_wrong_38 rfl rfl rfl ?_
      refine Go_imulZ (pc' := 40) dX12_wrong_39 rfl ?_
      refine Go_iload_n (pc' := 41) dX12_wrong_40 rfl rfl rfl ?_
      refine Go_iaddZ (pc' := 42) dX12_wrong_41 rfl ?_
      refine Go_baloadZ (n := 96) (k := (6 * q + c)) (v := (iZ 0)) (pc' := 43) dX12_wrong_42 rfl (I.S.b 124 rfl rfl) (I.S.k 124 rfl rfl rfl) (by omega) (by omega) (by decide) (h0) ?_
      refine Go_if_eqY (tgt := 74) (pc' := 46) dX12_wrong_43 (by decide) rfl (by first | exact ⟨i_lo _, i_hi _⟩ | omega) (fun c43 => ?_) (fun c43 => by exfalso; omega)
      refine Go_iincZ (pc' := 77) (lv' := [.ref _, .int _, .int _, .int _]) dX12_wrong_74 rfl rfl (Nat.le_of_ble_eq_true rfl) rfl rfl ?_
      refine Go_goto (tgt := 24) dX12_wrong_77 (by decide) ?_
      rw [wr_f (wrg_n h0)] at hk
      exact ih (c + 1) _ (by omega) hf hk
    · refine Go_iload_n (pc' := 25) dX12_wrong_24 rfl rfl rfl ?_
      refine Go_aload_n (pc' := 26) dX12_wrong_25 rfl rfl rfl ?_
      refine Go_getIv (v := (iZ (nc : Int))) (pc' := 29) dX12_wrong_26 rfl kf_RX12_151 (by decide) (by decide) rfl (I.S.b 99 rfl rfl) (I.S.o 99 rfl rfl rfl) (ec0) ?_
      refine Go_icmp_geY (tgt := 80) (pc' := 32) dX12_wrong_29 (by decide) rfl (by first | exact ⟨i_lo _, i_hi _⟩ | omega) (by first | exact ⟨i_lo _, i_hi _⟩ | omega) (fun c29 => by exfalso; omega) (fun c29 => ?_)
      refine Go_aload_n (pc' := 33) dX12_wrong_32 rfl rfl rfl ?_
      refine Go_getRs (pc' := 36) dX12_wrong_33 rfl kf_RX12_92 (by decide) (by decide) rfl (I.S.b 99 rfl rfl) (I.S.o 99 rfl rfl rfl) (I.S.r 99 41 rfl rfl rfl) ?_
      refine Go_bipush (v := iZ 6) (pc' := 38) dX12_wrong_36 rfl (by decide) ?_
      refine Go_iload_n (pc' := 39) dX12_wrong_38 rfl rfl rfl ?_
      refine Go_imulZ (pc' := 40) dX12_wrong_39 rfl ?_
      refine Go_iload_n (pc' := 41) dX12_wrong_40 rfl rfl rfl ?_
      refine Go_iaddZ (pc' := 42) dX12_wrong_41 rfl ?_
      refine Go_baloadZ (n := 96) (k := (6 * q + c)) (v := (iZ 1)) (pc' := 43) dX12_wrong_42 rfl (I.S.b 124 rfl rfl) (I.S.k 124 rfl rfl rfl) (by omega) (by omega) (by decide) (h0) ?_
      refine Go_if_eqY (tgt := 74) (pc' := 46) dX12_wrong_43 (by decide) rfl (by first | exact ⟨i_lo _, i_hi _⟩ | omega) (fun c43 => by exfalso; omega) (fun c43 => ?_)
      refine Go_aload_n (pc' := 47) dX12_wrong_46 rfl rfl rfl ?_
      refine Go_iload_n (pc' := 48) dX12_wrong_47 rfl rfl rfl ?_
      refine Go_bipush (v := iZ 63) (pc' := 50) dX12_wrong_48 rfl (by decide) ?_
      refine Go_iconst (v := iZ 1) (pc' := 51) dX12_wrong_50 rfl (by decide) ?_
      refine Go_iload_n (pc' := 52) dX12_wrong_51 rfl rfl rfl ?_
      refine Go_ishl (pc' := 53) dX12_wrong_52 rfl ?_
      refine Go_iconst (v := iZ (-1)) (pc' := 54) dX12_wrong_53 rfl (by decide) ?_
      refine Go_ixor (pc' := 55) dX12_wrong_54 rfl ?_
      refine Go_iand (pc' := 56) dX12_wrong_55 rfl ?_
      refine Go_callV_i (pc' := 59) (As := [.int _, .int _]) (st := []) dX12_wrong_56 rfl ok_X12_fitsSome km_RX12_356 (I.S.o 99 rfl rfl rfl) (I.S.b 99 rfl rfl) ⟨_, _, rfl⟩ rfl (Nat.le_of_ble_eq_true rfl) rfl rfl rfl (Nat.le_of_ble_eq_true rfl) (Nat.lt_succ_self _) ?_
      refine s_fs (s := wrS c) I hnc ec2 ec0 hq hnq hu QS RR eP eS eP2 eS2 hP hS ?_
      refine ⟨_, rfl, ?_⟩
      refine Go_if_neb (tgt := 65) (pc' := 62) dX12_wrong_59 (by decide) rfl (fun c59 => ?_) (fun c59 => ?_)
      · refine Go_iload_n (pc' := 66) dX12_wrong_65 rfl rfl rfl ?_
        refine Go_iconst (v := iZ (-1)) (pc' := 67) dX12_wrong_66 rfl (by decide) ?_
        refine Go_icmp_eqY (tgt := 72) (pc' := 70) dX12_wrong_67 (by decide) rfl (by first | exact ⟨i_lo _, i_hi _⟩ | omega) (by first | exact ⟨i_lo _, i_hi _⟩ | omega) (fun c67 => ?_) (fun c67 => ?_)
        · refine Go_iload_n (pc' := 73) dX12_wrong_72 rfl rfl rfl ?_
          refine Go_istore_n (pc' := 74) (lv' := [.ref _, .int _, .int _, .int _]) dX12_wrong_73 rfl rfl (Nat.le_of_ble_eq_true rfl) rfl rfl ?_
          refine Go_iincZ (pc' := 77) (lv' := [.ref _, .int _, .int _, .int _]) dX12_wrong_74 rfl rfl (Nat.le_of_ble_eq_true rfl) rfl rfl ?_
          refine Go_goto (tgt := 24) dX12_wrong_77 (by decide) ?_
          rw [wr_t (show (wrg h P S nc q) c = true from by rw [wrg_s h0]; exact c59) c67] at hk
          exact ih (c + 1) _ (by omega) (by omega) hk
        · refine Go_iconst (v := iZ (-1)) (pc' := 71) dX12_wrong_70 rfl (by decide) ?_
          refine Go_ireturn (ty := .int) dX12_wrong_71 rfl rfl ?_
          rw [wr_x (show (wrg h P S nc q) c = true from by rw [wrg_s h0]; exact c59) c67] at hk; exact hk
      · refine Go_goto (tgt := 74) dX12_wrong_62 (by decide) ?_
        refine Go_iincZ (pc' := 77) (lv' := [.ref _, .int _, .int _, .int _]) dX12_wrong_74 rfl rfl (Nat.le_of_ble_eq_true rfl) rfl rfl ?_
        refine Go_goto (tgt := 24) dX12_wrong_77 (by decide) ?_
        rw [wr_f (show ¬ (wrg h P S nc q) c = true from by rw [wrg_s h0]; exact c59)] at hk
        exact ih (c + 1) _ (by omega) hf hk
set_option maxRecDepth 20000 in
set_option maxHeartbeats 1000000 in
theorem pair25 {G : GC} (a : Int32) : PairI G M_X11_wrong M_X12_wrong [.int a] := by
  intro h I
  obtain ⟨Az, hva, rfl⟩ := i_eta a
  obtain ⟨nq, hnq, eq7⟩ := of_rgZ (b := 16) I.Q.1.2
  have eq38 : vi h 99 38 = iZ (nq : Int) := I.Q.1.1.trans eq7
  obtain ⟨nc, hnc, ec2⟩ := of_rgZ (b := 6) I.C.1.2
  have ec0 : vi h 99 0 = iZ (nc : Int) := I.C.1.1.trans ec2
  rcases qk_cases I hnq eq7 Az with hq0 | ⟨q, u, rfl, hq, hu, QS, PV, RR⟩
  · refine PairI.ro' (fun _ => iZ (-1)) h I (fun K k => ?_) (fun K k => ?_)
    · show Go G 60 0 0 M_X11_wrong 0 [.ref 64, .int (iZ Az), un, un, un, un] [] h K
      refine Go_aload_n (pc' := 1) dX11_wrong_0 rfl rfl rfl ?_
      refine Go_iload_n (pc' := 2) dX11_wrong_1 rfl rfl rfl ?_
      refine Go_callV_r (pc' := 5) (As := [.int _]) (st := []) dX11_wrong_2 rfl ok_X11_quakeOf km_RX11_230 (I.S.o 64 rfl rfl rfl) (I.S.b 64 rfl rfl) ⟨_, _, rfl⟩ rfl (Nat.le_of_ble_eq_true rfl) rfl rfl rfl (Nat.le_of_ble_eq_true rfl) (Nat.lt_succ_self _) ?_
      refine Go_iload_n (pc' := 1) dX11_quakeOf_0 rfl rfl rfl ?_
      refine Go_iconst (v := iZ 0) (pc' := 2) dX11_quakeOf_1 rfl (by decide) ?_
      refine Go_aload_n (pc' := 3) dX11_quakeOf_2 rfl rfl rfl ?_
      refine Go_getIv (v := (iZ (nq : Int))) (pc' := 6) dX11_quakeOf_3 rfl kf_RX11_226 (by decide) (by decide) rfl (I.S.b 64 rfl rfl) (I.S.o 64 rfl rfl rfl) (eq7) ?_
      refine Go_iconst (v := iZ 1) (pc' := 7) dX11_quakeOf_6 rfl (by decide) ?_
      refine Go_isubZ (pc' := 8) dX11_quakeOf_7 rfl ?_
      refine Go_callS_i (pc' := 11) (As := [.int _, .int _, .int _]) (st := []) dX11_quakeOf_8 rfl ok_X11_within km_RX11_94 rfl (Nat.le_of_ble_eq_true rfl) rfl rfl rfl (Nat.le_of_ble_eq_true rfl) (Nat.lt_succ_self _) ?_
      refine s_withinY (by first | exact ⟨i_lo _, i_hi _⟩ | omega) (by first | exact ⟨i_lo _, i_hi _⟩ | omega) (by first | exact ⟨i_lo _, i_hi _⟩ | omega) ?_
      refine ⟨_, rfl, ?_⟩
      refine Go_if_eqb (tgt := 32) (pc' := 14) dX11_quakeOf_11 (by decide) rfl (fun q11 => ?_) (fun q11 => by exfalso; omega)
      refine Go_null (pc' := 33) dX11_quakeOf_32 rfl ?_
      refine Go_areturn (r := none) dX11_quakeOf_33 rfl ?_
      refine ⟨none, rfl, ?_⟩
      refine Go_astore_nN (pc' := 6) (lv' := [.ref _, .int _, .null, un, un, un]) dX11_wrong_5 rfl rfl (Nat.le_of_ble_eq_true rfl) rfl rfl ?_
      refine Go_aload_nN (pc' := 7) dX11_wrong_6 rfl rfl rfl ?_
      refine Go_ifnullN (tgt := 22) dX11_wrong_7 (by decide) ?_
      refine Go_iconst (v := iZ (-1)) (pc' := 23) dX11_wrong_22 rfl (by decide) ?_
      refine Go_ireturn (ty := .int) dX11_wrong_23 rfl rfl ?_
      exact k
    · show Go G 60 0 0 M_X12_wrong 0 [.ref 99, .int (iZ Az), un, un] [] h K
      refine Go_aload_n (pc' := 1) dX12_wrong_0 rfl rfl rfl ?_
      refine Go_iload_n (pc' := 2) dX12_wrong_1 rfl rfl rfl ?_
      refine Go_callV_i (pc' := 5) (As := [.int _]) (st := []) dX12_wrong_2 rfl ok_X12_isQuake km_RX12_340 (I.S.o 99 rfl rfl rfl) (I.S.b 99 rfl rfl) ⟨_, _, rfl⟩ rfl (Nat.le_of_ble_eq_true rfl) rfl rfl rfl (Nat.le_of_ble_eq_true rfl) (Nat.lt_succ_self _) ?_
      refine Go_iload_n (pc' := 1) dX12_isQuake_0 rfl rfl rfl ?_
      refine Go_iconst (v := iZ 0) (pc' := 2) dX12_isQuake_1 rfl (by decide) ?_
      refine Go_aload_n (pc' := 3) dX12_isQuake_2 rfl rfl rfl ?_
      refine Go_getIv (v := (iZ (nq : Int))) (pc' := 6) dX12_isQuake_3 rfl kf_RX12_336 (by decide) (by decide) rfl (I.S.b 99 rfl rfl) (I.S.o 99 rfl rfl rfl) (eq38) ?_
      refine Go_iconst (v := iZ 1) (pc' := 7) dX12_isQuake_6 rfl (by decide) ?_
      refine Go_isubZ (pc' := 8) dX12_isQuake_7 rfl ?_
      refine Go_callS_i (pc' := 11) (As := [.int _, .int _, .int _]) (st := []) dX12_isQuake_8 rfl ok_X12_isIn km_RX12_147 rfl (Nat.le_of_ble_eq_true rfl) rfl rfl rfl (Nat.le_of_ble_eq_true rfl) (Nat.lt_succ_self _) ?_
      refine s_isInY (by first | exact ⟨i_lo _, i_hi _⟩ | omega) (by first | exact ⟨i_lo _, i_hi _⟩ | omega) (by first | exact ⟨i_lo _, i_hi _⟩ | omega) ?_
      refine ⟨_, rfl, ?_⟩
      refine Go_ireturn (ty := .boolean) dX12_isQuake_11 rfl b2i_nb ?_
      refine ⟨_, rfl, ?_⟩
      refine Go_if_eqb (tgt := 18) (pc' := 8) dX12_wrong_5 (by decide) rfl (fun c5 => ?_) (fun c5 => by exfalso; omega)
      refine Go_iconst (v := iZ (-1)) (pc' := 19) dX12_wrong_18 rfl (by decide) ?_
      refine Go_ireturn (ty := .int) dX12_wrong_19 rfl rfl ?_
      exact k
  · obtain ⟨P, hP, eP⟩ := rgE I.W.2.2.1
    obtain ⟨S, hS, eS⟩ := rgE I.W.2.2.2.1
    have eP2 : vi h 99 39 = iZ P := I.W.1.symm.trans eP
    have eS2 : vi h 99 40 = iZ S := I.W.2.1.symm.trans eS
    have nf := nth_fs (g := fitq h P S nc q (iZ 63)) (m := 1600) (i := 0)
    refine PairI.ro' (fun _ => iZ (if fsB (fitq h P S nc q (iZ 63)) 1600 0 = true then (-1) else wr (wrg h P S nc q) nc 0 (-1))) h I (fun K k => ?_) (fun K k => ?_)
    · show Go G 60 0 0 M_X11_wrong 0 [.ref 64, .int (iZ (q : Int)), un, un, un, un] [] h K
      refine Go_aload_n (pc' := 1) dX11_wrong_0 rfl rfl rfl ?_
      refine Go_iload_n (pc' := 2) dX11_wrong_1 rfl rfl rfl ?_
      refine Go_callV_r (pc' := 5) (As := [.int _]) (st := []) dX11_wrong_2 rfl ok_X11_quakeOf km_RX11_230 (I.S.o 64 rfl rfl rfl) (I.S.b 64 rfl rfl) ⟨_, _, rfl⟩ rfl (Nat.le_of_ble_eq_true rfl) rfl rfl rfl (Nat.le_of_ble_eq_true rfl) (Nat.lt_succ_self _) ?_
      refine Go_iload_n (pc' := 1) dX11_quakeOf_0 rfl rfl rfl ?_
      refine Go_iconst (v := iZ 0) (pc' := 2) dX11_quakeOf_1 rfl (by decide) ?_
      refine Go_aload_n (pc' := 3) dX11_quakeOf_2 rfl rfl rfl ?_
      refine Go_getIv (v := (iZ (nq : Int))) (pc' := 6) dX11_quakeOf_3 rfl kf_RX11_226 (by decide) (by decide) rfl (I.S.b 64 rfl rfl) (I.S.o 64 rfl rfl rfl) (eq7) ?_
      refine Go_iconst (v := iZ 1) (pc' := 7) dX11_quakeOf_6 rfl (by decide) ?_
      refine Go_isubZ (pc' := 8) dX11_quakeOf_7 rfl ?_
      refine Go_callS_i (pc' := 11) (As := [.int _, .int _, .int _]) (st := []) dX11_quakeOf_8 rfl ok_X11_within km_RX11_94 rfl (Nat.le_of_ble_eq_true rfl) rfl rfl rfl (Nat.le_of_ble_eq_true rfl) (Nat.lt_succ_self _) ?_
      refine s_withinY (by first | exact ⟨i_lo _, i_hi _⟩ | omega) (by first | exact ⟨i_lo _, i_hi _⟩ | omega) (by first | exact ⟨i_lo _, i_hi _⟩ | omega) ?_
      refine ⟨_, rfl, ?_⟩
      refine Go_if_eqb (tgt := 32) (pc' := 14) dX11_quakeOf_11 (by decide) rfl (fun q11 => by exfalso; omega) (fun q11 => ?_)
      refine Go_iload_n (pc' := 15) dX11_quakeOf_14 rfl rfl rfl ?_
      refine Go_aload_n (pc' := 16) dX11_quakeOf_15 rfl rfl rfl ?_
      refine Go_getRs (pc' := 19) dX11_quakeOf_16 rfl kf_RX11_45 (by decide) (by decide) rfl (I.S.b 64 rfl rfl) (I.S.o 64 rfl rfl rfl) (I.S.r 64 6 rfl rfl rfl) ?_
      refine Go_alenZ (n := 16) (pc' := 20) dX11_quakeOf_19 rfl (I.S.b 80 rfl rfl) (I.S.k 80 rfl rfl rfl) (Or.inr (Or.inr ⟨_, rfl⟩)) ?_
      refine Go_icmp_geY (tgt := 32) (pc' := 23) dX11_quakeOf_20 (by decide) rfl (by first | exact ⟨i_lo _, i_hi _⟩ | omega) (by first | exact ⟨i_lo _, i_hi _⟩ | omega) (fun q20 => by exfalso; omega) (fun q20 => ?_)
      refine Go_aload_n (pc' := 24) dX11_quakeOf_23 rfl rfl rfl ?_
      refine Go_getRs (pc' := 27) dX11_quakeOf_24 rfl kf_RX11_45 (by decide) (by decide) rfl (I.S.b 64 rfl rfl) (I.S.o 64 rfl rfl rfl) (I.S.r 64 6 rfl rfl rfl) ?_
      refine Go_iload_n (pc' := 28) dX11_quakeOf_27 rfl rfl rfl ?_
      refine Go_aaloadZ (n := 16) (k := q) (pc' := 29) dX11_quakeOf_28 rfl (I.S.b 80 rfl rfl) (I.S.k 80 rfl rfl rfl) rfl rfl (by omega) (by decide) hu ?_
      refine Go_goto (tgt := 33) dX11_quakeOf_29 (by decide) ?_
      refine Go_areturn (r := some _) dX11_quakeOf_33 rfl ?_
      refine ⟨some _, rfl, ?_⟩
      refine Go_astore_n (pc' := 6) (lv' := [.ref _, .int _, .ref _, un, un, un]) dX11_wrong_5 rfl rfl (Nat.le_of_ble_eq_true rfl) rfl rfl ?_
      refine Go_aload_n (pc' := 7) dX11_wrong_6 rfl rfl rfl ?_
      refine Go_ifnull (pc' := 10) dX11_wrong_7 rfl ?_
      refine Go_aload_n (pc' := 11) dX11_wrong_10 rfl rfl rfl ?_
      refine Go_aload_n (pc' := 12) dX11_wrong_11 rfl rfl rfl ?_
      refine Go_bipush (v := iZ 63) (pc' := 14) dX11_wrong_12 rfl (by decide) ?_
      refine Go_iconst (v := iZ 0) (pc' := 15) dX11_wrong_14 rfl (by decide) ?_
      refine Go_callV_i (pc' := 18) (As := [.ref _, .int _, .int _]) (st := []) dX11_wrong_15 rfl ok_X11_fittingCell km_RX11_263 (I.S.o 64 rfl rfl rfl) (I.S.b 64 rfl rfl) ⟨_, _, rfl⟩ rfl (Nat.le_of_ble_eq_true rfl) rfl rfl rfl (Nat.le_of_ble_eq_true rfl) (Nat.lt_succ_self _) ?_
      refine s_fc I hnc ec2 ec0 hq hnq hu QS RR eP eS eP2 eS2 hP hS (by omega) ?_
      refine ⟨_, rfl, ?_⟩
      refine Go_iconst (v := iZ (-1)) (pc' := 19) dX11_wrong_18 rfl (by decide) ?_
      refine Go_icmp_eqY (tgt := 24) (pc' := 22) dX11_wrong_19 (by decide) rfl (by first | exact ⟨i_lo _, i_hi _⟩ | omega) (by first | exact ⟨i_lo _, i_hi _⟩ | omega) (fun c19 => ?_) (fun c19 => ?_)
      · refine Go_iconst (v := iZ (-1)) (pc' := 25) dX11_wrong_24 rfl (by decide) ?_
        refine Go_istore_n (pc' := 26) (lv' := [.ref _, .int _, .ref _, .int _, un, un]) dX11_wrong_25 rfl rfl (Nat.le_of_ble_eq_true rfl) rfl rfl ?_
        refine Go_iconst (v := iZ 0) (pc' := 27) dX11_wrong_26 rfl (by decide) ?_
        refine Go_istore (pc' := 29) (lv' := [.ref _, .int _, .ref _, .int _, .int _, un]) dX11_wrong_27 rfl (Nat.le_of_ble_eq_true rfl) rfl rfl ?_
        rw [if_neg (by rcases nf with nf | nf; rw [nf.2]; decide; exact absurd c19 (by omega))] at k
        exact wr_loop I hnc ec2 ec0 hq hnq hu QS RR eP eS eP2 eS2 hP hS nc 0 (-1) _ (Nat.zero_add nc) (by omega) k
      · refine Go_iconst (v := iZ (-1)) (pc' := 23) dX11_wrong_22 rfl (by decide) ?_
        refine Go_ireturn (ty := .int) dX11_wrong_23 rfl rfl ?_
        rw [if_pos (by rcases nf with nf | nf; exact absurd nf.1 c19; exact nf.2.2)] at k; exact k
    · show Go G 60 0 0 M_X12_wrong 0 [.ref 99, .int (iZ (q : Int)), un, un] [] h K
      refine Go_aload_n (pc' := 1) dX12_wrong_0 rfl rfl rfl ?_
      refine Go_iload_n (pc' := 2) dX12_wrong_1 rfl rfl rfl ?_
      refine Go_callV_i (pc' := 5) (As := [.int _]) (st := []) dX12_wrong_2 rfl ok_X12_isQuake km_RX12_340 (I.S.o 99 rfl rfl rfl) (I.S.b 99 rfl rfl) ⟨_, _, rfl⟩ rfl (Nat.le_of_ble_eq_true rfl) rfl rfl rfl (Nat.le_of_ble_eq_true rfl) (Nat.lt_succ_self _) ?_
      refine Go_iload_n (pc' := 1) dX12_isQuake_0 rfl rfl rfl ?_
      refine Go_iconst (v := iZ 0) (pc' := 2) dX12_isQuake_1 rfl (by decide) ?_
      refine Go_aload_n (pc' := 3) dX12_isQuake_2 rfl rfl rfl ?_
      refine Go_getIv (v := (iZ (nq : Int))) (pc' := 6) dX12_isQuake_3 rfl kf_RX12_336 (by decide) (by decide) rfl (I.S.b 99 rfl rfl) (I.S.o 99 rfl rfl rfl) (eq38) ?_
      refine Go_iconst (v := iZ 1) (pc' := 7) dX12_isQuake_6 rfl (by decide) ?_
      refine Go_isubZ (pc' := 8) dX12_isQuake_7 rfl ?_
      refine Go_callS_i (pc' := 11) (As := [.int _, .int _, .int _]) (st := []) dX12_isQuake_8 rfl ok_X12_isIn km_RX12_147 rfl (Nat.le_of_ble_eq_true rfl) rfl rfl rfl (Nat.le_of_ble_eq_true rfl) (Nat.lt_succ_self _) ?_
      refine s_isInY (by first | exact ⟨i_lo _, i_hi _⟩ | omega) (by first | exact ⟨i_lo _, i_hi _⟩ | omega) (by first | exact ⟨i_lo _, i_hi _⟩ | omega) ?_
      refine ⟨_, rfl, ?_⟩
      refine Go_ireturn (ty := .boolean) dX12_isQuake_11 rfl b2i_nb ?_
      refine ⟨_, rfl, ?_⟩
      refine Go_if_eqb (tgt := 18) (pc' := 8) dX12_wrong_5 (by decide) rfl (fun c5 => by exfalso; omega) (fun c5 => ?_)
      refine Go_aload_n (pc' := 9) dX12_wrong_8 rfl rfl rfl ?_
      refine Go_iload_n (pc' := 10) dX12_wrong_9 rfl rfl rfl ?_
      refine Go_bipush (v := iZ 63) (pc' := 12) dX12_wrong_10 rfl (by decide) ?_
      refine Go_callV_i (pc' := 15) (As := [.int _, .int _]) (st := []) dX12_wrong_12 rfl ok_X12_fitsSome km_RX12_356 (I.S.o 99 rfl rfl rfl) (I.S.b 99 rfl rfl) ⟨_, _, rfl⟩ rfl (Nat.le_of_ble_eq_true rfl) rfl rfl rfl (Nat.le_of_ble_eq_true rfl) (Nat.lt_succ_self _) ?_
      refine s_fs I hnc ec2 ec0 hq hnq hu QS RR eP eS eP2 eS2 hP hS ?_
      refine ⟨_, rfl, ?_⟩
      refine Go_if_eqb (tgt := 20) (pc' := 18) dX12_wrong_15 (by decide) rfl (fun c15 => ?_) (fun c15 => ?_)
      · refine Go_iconst (v := iZ (-1)) (pc' := 21) dX12_wrong_20 rfl (by decide) ?_
        refine Go_istore_n (pc' := 22) (lv' := [.ref _, .int _, .int _, un]) dX12_wrong_21 rfl rfl (Nat.le_of_ble_eq_true rfl) rfl rfl ?_
        refine Go_iconst (v := iZ 0) (pc' := 23) dX12_wrong_22 rfl (by decide) ?_
        refine Go_istore_n (pc' := 24) (lv' := [.ref _, .int _, .int _, .int _]) dX12_wrong_23 rfl rfl (Nat.le_of_ble_eq_true rfl) rfl rfl ?_
        rw [if_neg c15] at k
        exact wrM_loop I hnc ec2 ec0 hq hnq hu QS RR eP eS eP2 eS2 hP hS nc 0 (-1) (Nat.zero_add nc) (by omega) k
      · refine Go_iconst (v := iZ (-1)) (pc' := 19) dX12_wrong_18 rfl (by decide) ?_
        refine Go_ireturn (ty := .int) dX12_wrong_19 rfl rfl ?_
        rw [if_pos c15] at k; exact k
