/-! samples as whole numbers; pair: back -/
/-- the sample at X -/
def sap (h : HS) (o : Nat) (X : Int) : Int := (vi h (o + 1) X.toNat).toInt
def lmt (h : HS) (o : Nat) : Int := (vi h o 4).toInt
abbrev clz (v l : Int) : Prop := ¬ v = -1000000000 ∧ (l ≤ v ∨ v ≤ -l)
theorem sap_ok {h : HS} {j o n : Nat} {X : Int} (M : Smp h j o n) (hX : 0 ≤ X ∧ X < n) : sap h o X = -1000000000 ∨ (-999 ≤ sap h o X ∧ sap h o X ≤ 999) := by
  obtain ⟨i, rfl⟩ : ∃ i : Nat, X = (i : Int) := ⟨X.toNat, by omega⟩
  obtain ⟨hj6, CS, hn200, en, en2, el, lim, smp⟩ := M
  rcases (smp i (by omega)).2 with e | e
  · exact Or.inl (by show (vi h (o + 1) i).toInt = _; rw [e]; decide)
  · exact Or.inr e
theorem lm_r {h : HS} {j o n : Nat} (M : Smp h j o n) : 10 ≤ lmt h o ∧ lmt h o ≤ 999 := M.2.2.2.2.2.2.1
theorem Smp.n {h : HS} {j o n : Nat} (M : Smp h j o n) : n ≤ 200 := M.2.2.1
theorem Smp.j {h : HS} {j o n : Nat} (M : Smp h j o n) : j < 6 := M.1
theorem Smp.e8 {h : HS} {j o n : Nat} (M : Smp h j o n) : vi h o 8 = iZ (n : Int) := M.2.2.2.1.trans (iZ_nat n).symm
theorem Smp.e107 {h : HS} {j o n : Nat} (M : Smp h j o n) : vi h 107 j = iZ (n : Int) := M.2.2.2.2.1.trans (iZ_nat n).symm
section
variable {G : GC} {d mc ms : Nat} {h : HS} {K : Option Value → HS → Prop} {j o n : Nat} {X : Int}
theorem s_smpY (M : Smp h j o n) (hX : 0 ≤ X ∧ X < n) (hk : K (some (.int (iZ (sap h o X)))) h) : Go G d mc ms M_X2_sampleAt 0 [.ref o, .int (iZ X)] [] h K := by
  obtain ⟨i, rfl⟩ : ∃ i : Nat, X = (i : Int) := ⟨X.toNat, by omega⟩
  rw [iZ_nat]
  exact s_sampleAt M (by omega) (by rw [vi_eta]; exact hk)
theorem s_misY (M : Smp h j o n) (hX : 0 ≤ X ∧ X < n) (hk : K (some (.int (b2i (sap h o X = -1000000000)))) h) : Go G (d + 1) mc ms M_X2_isMissing 0 [.ref o, .int (iZ X)] [] h K := by
  obtain ⟨i, rfl⟩ : ∃ i : Nat, X = (i : Int) := ⟨X.toNat, by omega⟩
  rw [iZ_nat]
  exact s_isMissing M (by omega) hk
theorem s_clpY (M : Smp h j o n) (hX : 0 ≤ X ∧ X < n) (hk : K (some (.int (b2i (clz (sap h o X) (lmt h o))))) h) : Go G (d + 1) mc ms M_X2_isClipped 0 [.ref o, .int (iZ X), un] [] h K := by
  obtain ⟨i, rfl⟩ : ∃ i : Nat, X = (i : Int) := ⟨X.toNat, by omega⟩
  rw [iZ_nat]
  exact s_isClipped M (by omega) hk
theorem s_smpMY (S : Shp h) (M : Smp h j o n) (hX : 0 ≤ X ∧ X < n) (hk : K (some (.int (iZ (sap h o X)))) h) : Go G d mc ms M_X12_sample 0 [.ref 99, .int (iZ (j : Int)), .int (iZ X)] [] h K := by
  obtain ⟨i, rfl⟩ : ∃ i : Nat, X = (i : Int) := ⟨X.toNat, by omega⟩
  rw [iZ_nat, iZ_nat]
  exact s_sampleM S M (by omega) (by rw [vi_eta]; exact hk)
theorem s_clpMY (S : Shp h) (M : Smp h j o n) (hX : 0 ≤ X ∧ X < n) (hk : K (some (.int (b2i (clz (sap h o X) (lmt h o))))) h) : Go G (d + 1) mc ms M_X12_isClipped 0 [.ref 99, .int (iZ (j : Int)), .int (iZ X)] [] h K := by
  obtain ⟨i, rfl⟩ : ∃ i : Nat, X = (i : Int) := ⟨X.toNat, by omega⟩
  rw [iZ_nat, iZ_nat]
  exact s_isClippedM S M (by omega) hk
end
/-- all of m whole numbers from X on -/
def all (f : Int → Bool) : Nat → Int → Bool
  | 0, _ => true
  | m + 1, X => if f X = true then all f m (X + 1) else false
theorem all_t {f : Int → Bool} {m : Nat} {X : Int} (e : f X = true) : all f (m + 1) X = all f m (X + 1) := by show (if _ then _ else _) = _; rw [if_pos e]
theorem all_f {f : Int → Bool} {m : Nat} {X : Int} (e : ¬ f X = true) : all f (m + 1) X = false := by show (if _ then _ else _) = _; rw [if_neg e]
theorem all_iff {f : Int → Bool} : ∀ {m : Nat} {X : Int}, all f m X = true ↔ ∀ Y, X ≤ Y → Y < X + m → f Y = true
  | 0, X => ⟨fun _ Y a b => by omega, fun _ => rfl⟩
  | m + 1, X => by
    by_cases e : f X = true
    · rw [all_t e, all_iff]
      refine ⟨fun a Y b c => ?_, fun a Y b c => a Y (by omega) (by omega)⟩
      by_cases z : Y = X
      · rw [z]; exact e
      · exact a Y (by omega) (by omega)
    · rw [all_f e]
      exact ⟨fun a => (by cases a), fun a => absurd (a X (by omega) (by omega)) e⟩
def nmB (h : HS) (o : Nat) (X : Int) : Bool := decide (¬ sap h o X = -1000000000)
def ncB (h : HS) (o : Nat) (X : Int) : Bool := decide (¬ clz (sap h o X) (lmt h o))
abbrev wh (h : HS) (o n : Nat) (a b : Int) : Prop := (a ≤ b ∧ 0 ≤ a ∧ b < n) ∧ all (nmB h o) (b + 1 - a).toNat a = true
abbrev rb (h : HS) (o n : Nat) (a b : Int) : Prop := wh h o n a b ∧ all (ncB h o) (b + 1 - a).toNat a = true

set_option maxRecDepth 20000 in
set_option maxHeartbeats 1000000 in
theorem wh_loop {G : GC} {d mc ms : Nat} {h : HS} {K : Option Value → HS → Prop} {j o n : Nat} {a b : Int} (M : Smp h j o n) (ha : 0 ≤ a ∧ b < n) : ∀ (m : Nat) (X : Int), X + m = b + 1 → a ≤ X → K (some (.int (b2i (all (nmB h o) m X = true)))) h → Go G (d + 2) mc ms M_X2_isWhole 25 [.ref o, .int (iZ a), .int (iZ b), .int (iZ X)] [] h K := by
  have CS := M.2.1
  have hn := M.n
  have hj6 := M.j
  intro m
  induction m with
  | zero =>
    intro X hm hx hk
    refine Go_iload_n (pc' := 26) dX2_isWhole_25 rfl rfl rfl ?_
    refine Go_iload_n (pc' := 27) dX2_isWhole_26 rfl rfl rfl ?_
    refine Go_icmp_gtY (tgt := 46) (pc' := 30) dX2_isWhole_27 (by decide) rfl (by first | exact ⟨i_lo _, i_hi _⟩ | omega) (by first | exact ⟨i_lo _, i_hi _⟩ | omega) (fun c27 => ?_) (fun c27 => by exfalso; omega)
    refine Go_iconst (v := iZ 1) (pc' := 47) dX2_isWhole_46 rfl (by decide) ?_
    refine Go_ireturn (ty := .boolean) dX2_isWhole_47 rfl rfl ?_
    exact hk
  | succ m ih =>
    intro X hm hx hk
    refine Go_iload_n (pc' := 26) dX2_isWhole_25 rfl rfl rfl ?_
    refine Go_iload_n (pc' := 27) dX2_isWhole_26 rfl rfl rfl ?_
    refine Go_icmp_gtY (tgt := 46) (pc' := 30) dX2_isWhole_27 (by decide) rfl (by first | exact ⟨i_lo _, i_hi _⟩ | omega) (by first | exact ⟨i_lo _, i_hi _⟩ | omega) (fun c27 => by exfalso; omega) (fun c27 => ?_)
    refine Go_aload_n (pc' := 31) dX2_isWhole_30 rfl rfl rfl ?_
    refine Go_iload_n (pc' := 32) dX2_isWhole_31 rfl rfl rfl ?_
    refine Go_callV_i (pc' := 35) (As := [.int _]) (st := []) dX2_isWhole_32 rfl ok_X2_isMissing km_RX2_76 CS.o CS.b ⟨_, _, rfl⟩ rfl (Nat.le_of_ble_eq_true rfl) rfl rfl rfl (Nat.le_of_ble_eq_true rfl) (Nat.lt_succ_self _) ?_
    refine s_misY M (by omega) ?_
    refine ⟨_, rfl, ?_⟩
    refine Go_if_eqb (tgt := 40) (pc' := 38) dX2_isWhole_35 (by decide) rfl (fun c35 => ?_) (fun c35 => ?_)
    · refine Go_iincZ (pc' := 43) (lv' := [.ref _, .int _, .int _, .int _]) dX2_isWhole_40 rfl rfl (Nat.le_of_ble_eq_true rfl) rfl rfl ?_
      refine Go_goto (tgt := 25) dX2_isWhole_43 (by decide) ?_
      rw [all_t (by unfold nmB; exact decide_eq_true c35)] at hk
      exact ih _ (by omega) (by omega) hk
    · refine Go_iconst (v := iZ 0) (pc' := 39) dX2_isWhole_38 rfl (by decide) ?_
      refine Go_ireturn (ty := .boolean) dX2_isWhole_39 rfl rfl ?_
      rw [all_f (by unfold nmB; exact fun z => of_decide_eq_true z c35)] at hk; exact hk
set_option maxRecDepth 20000 in
set_option maxHeartbeats 1000000 in
theorem rb_loop {G : GC} {d mc ms : Nat} {h : HS} {K : Option Value → HS → Prop} {j o n : Nat} {a b : Int} (M : Smp h j o n) (ha : 0 ≤ a ∧ b < n) : ∀ (m : Nat) (X : Int), X + m = b + 1 → a ≤ X → K (some (.int (b2i (all (ncB h o) m X = true)))) h → Go G (d + 2) mc ms M_X2_isReadable 13 [.ref o, .int (iZ a), .int (iZ b), .int (iZ X)] [] h K := by
  have CS := M.2.1
  have hn := M.n
  have hj6 := M.j
  intro m
  induction m with
  | zero =>
    intro X hm hx hk
    refine Go_iload_n (pc' := 14) dX2_isReadable_13 rfl rfl rfl ?_
    refine Go_iload_n (pc' := 15) dX2_isReadable_14 rfl rfl rfl ?_
    refine Go_icmp_gtY (tgt := 34) (pc' := 18) dX2_isReadable_15 (by decide) rfl (by first | exact ⟨i_lo _, i_hi _⟩ | omega) (by first | exact ⟨i_lo _, i_hi _⟩ | omega) (fun c15 => ?_) (fun c15 => by exfalso; omega)
    refine Go_iconst (v := iZ 1) (pc' := 35) dX2_isReadable_34 rfl (by decide) ?_
    refine Go_ireturn (ty := .boolean) dX2_isReadable_35 rfl rfl ?_
    exact hk
  | succ m ih =>
    intro X hm hx hk
    refine Go_iload_n (pc' := 14) dX2_isReadable_13 rfl rfl rfl ?_
    refine Go_iload_n (pc' := 15) dX2_isReadable_14 rfl rfl rfl ?_
    refine Go_icmp_gtY (tgt := 34) (pc' := 18) dX2_isReadable_15 (by decide) rfl (by first | exact ⟨i_lo _, i_hi _⟩ | omega) (by first | exact ⟨i_lo _, i_hi _⟩ | omega) (fun c15 => by exfalso; omega) (fun c15 => ?_)
    refine Go_aload_n (pc' := 19) dX2_isReadable_18 rfl rfl rfl ?_
    refine Go_iload_n (pc' := 20) dX2_isReadable_19 rfl rfl rfl ?_
    refine Go_callV_i (pc' := 23) (As := [.int _]) (st := []) dX2_isReadable_20 rfl ok_X2_isClipped km_RX2_72 CS.o CS.b ⟨_, _, rfl⟩ rfl (Nat.le_of_ble_eq_true rfl) rfl rfl rfl (Nat.le_of_ble_eq_true rfl) (Nat.lt_succ_self _) ?_
    refine s_clpY M (by omega) ?_
    refine ⟨_, rfl, ?_⟩
    refine Go_if_eqb (tgt := 28) (pc' := 26) dX2_isReadable_23 (by decide) rfl (fun c23 => ?_) (fun c23 => ?_)
    · refine Go_iincZ (pc' := 31) (lv' := [.ref _, .int _, .int _, .int _]) dX2_isReadable_28 rfl rfl (Nat.le_of_ble_eq_true rfl) rfl rfl ?_
      refine Go_goto (tgt := 13) dX2_isReadable_31 (by decide) ?_
      rw [all_t (by unfold ncB; exact decide_eq_true c23)] at hk
      exact ih _ (by omega) (by omega) hk
    · refine Go_iconst (v := iZ 0) (pc' := 27) dX2_isReadable_26 rfl (by decide) ?_
      refine Go_ireturn (ty := .boolean) dX2_isReadable_27 rfl rfl ?_
      rw [all_f (by unfold ncB; exact fun z => of_decide_eq_true z c23)] at hk; exact hk
set_option maxRecDepth 20000 in
set_option maxHeartbeats 1000000 in
theorem s_wh {G : GC} {d mc ms : Nat} {h : HS} {K : Option Value → HS → Prop} {j o n : Nat} {a b : Int} (M : Smp h j o n) (ha : -2147483648 ≤ a ∧ a < 2147483648) (hb : -2147483648 ≤ b ∧ b < 2147483648) (hk : K (some (.int (b2i (wh h o n a b)))) h) : Go G (d + 2) mc ms M_X2_isWhole 0 [.ref o, .int (iZ a), .int (iZ b), un] [] h K := by
  have CS := M.2.1
  have hn := M.n
  have hj6 := M.j
  refine Go_iload_n (pc' := 1) dX2_isWhole_0 rfl rfl rfl ?_
  refine Go_iload_n (pc' := 2) dX2_isWhole_1 rfl rfl rfl ?_
  refine Go_icmp_gtY (tgt := 21) (pc' := 5) dX2_isWhole_2 (by decide) rfl (by first | exact ⟨i_lo _, i_hi _⟩ | omega) (by first | exact ⟨i_lo _, i_hi _⟩ | omega) (fun c2 => ?_) (fun c2 => ?_)
  · refine Go_iconst (v := iZ 0) (pc' := 22) dX2_isWhole_21 rfl (by decide) ?_
    refine Go_ireturn (ty := .boolean) dX2_isWhole_22 rfl rfl ?_
    rw [b2i_f (fun z : wh h o n a b => by have := z.1; omega)] at hk; exact hk
  · refine Go_aload_n (pc' := 6) dX2_isWhole_5 rfl rfl rfl ?_
    refine Go_iload_n (pc' := 7) dX2_isWhole_6 rfl rfl rfl ?_
    refine Go_callV_i (pc' := 10) (As := [.int _]) (st := []) dX2_isWhole_7 rfl ok_X2_hasSample km_RX2_79 CS.o CS.b ⟨_, _, rfl⟩ rfl (Nat.le_of_ble_eq_true rfl) rfl rfl rfl (Nat.le_of_ble_eq_true rfl) (Nat.lt_succ_self _) ?_
    refine Go_iload_n (pc' := 1) dX2_hasSample_0 rfl rfl rfl ?_
    refine Go_if_ltY (tgt := 16) (pc' := 4) dX2_hasSample_1 (by decide) rfl (by first | exact ⟨i_lo _, i_hi _⟩ | omega) (fun s1 => ?_) (fun s1 => ?_)
    · refine Go_iconst (v := iZ 0) (pc' := 17) dX2_hasSample_16 rfl (by decide) ?_
      refine Go_ireturn (ty := .boolean) dX2_hasSample_17 rfl rfl ?_
      refine ⟨_, rfl, ?_⟩
      refine Go_if_eqY (tgt := 21) (pc' := 13) dX2_isWhole_10 (by decide) rfl (by first | exact ⟨i_lo _, i_hi _⟩ | omega) (fun c10 => ?_) (fun c10 => by exfalso; omega)
      refine Go_iconst (v := iZ 0) (pc' := 22) dX2_isWhole_21 rfl (by decide) ?_
      refine Go_ireturn (ty := .boolean) dX2_isWhole_22 rfl rfl ?_
      rw [b2i_f (fun z : wh h o n a b => by have := z.1; omega)] at hk; exact hk
    · refine Go_iload_n (pc' := 5) dX2_hasSample_4 rfl rfl rfl ?_
      refine Go_aload_n (pc' := 6) dX2_hasSample_5 rfl rfl rfl ?_
      refine Go_getIv (v := (iZ (n : Int))) (pc' := 9) dX2_hasSample_6 rfl kf_RX2_58 (by decide) (by decide) rfl CS.b CS.o (M.e8) ?_
      refine Go_icmp_geY (tgt := 16) (pc' := 12) dX2_hasSample_9 (by decide) rfl (by first | exact ⟨i_lo _, i_hi _⟩ | omega) (by first | exact ⟨i_lo _, i_hi _⟩ | omega) (fun s9 => ?_) (fun s9 => ?_)
      · refine Go_iconst (v := iZ 0) (pc' := 17) dX2_hasSample_16 rfl (by decide) ?_
        refine Go_ireturn (ty := .boolean) dX2_hasSample_17 rfl rfl ?_
        refine ⟨_, rfl, ?_⟩
        refine Go_if_eqY (tgt := 21) (pc' := 13) dX2_isWhole_10 (by decide) rfl (by first | exact ⟨i_lo _, i_hi _⟩ | omega) (fun c10 => ?_) (fun c10 => by exfalso; omega)
        refine Go_iconst (v := iZ 0) (pc' := 22) dX2_isWhole_21 rfl (by decide) ?_
        refine Go_ireturn (ty := .boolean) dX2_isWhole_22 rfl rfl ?_
        rw [b2i_f (fun z : wh h o n a b => by have := z.1; omega)] at hk; exact hk
      · refine Go_iconst (v := iZ 1) (pc' := 13) dX2_hasSample_12 rfl (by decide) ?_
        refine Go_goto (tgt := 17) dX2_hasSample_13 (by decide) ?_
        refine Go_ireturn (ty := .boolean) dX2_hasSample_17 rfl rfl ?_
        refine ⟨_, rfl, ?_⟩
        refine Go_if_eqY (tgt := 21) (pc' := 13) dX2_isWhole_10 (by decide) rfl (by first | exact ⟨i_lo _, i_hi _⟩ | omega) (fun c10 => by exfalso; omega) (fun c10 => ?_)
        refine Go_aload_n (pc' := 14) dX2_isWhole_13 rfl rfl rfl ?_
        refine Go_iload_n (pc' := 15) dX2_isWhole_14 rfl rfl rfl ?_
        refine Go_callV_i (pc' := 18) (As := [.int _]) (st := []) dX2_isWhole_15 rfl ok_X2_hasSample km_RX2_79 CS.o CS.b ⟨_, _, rfl⟩ rfl (Nat.le_of_ble_eq_true rfl) rfl rfl rfl (Nat.le_of_ble_eq_true rfl) (Nat.lt_succ_self _) ?_
        refine Go_iload_n (pc' := 1) dX2_hasSample_0 rfl rfl rfl ?_
        refine Go_if_ltY (tgt := 16) (pc' := 4) dX2_hasSample_1 (by decide) rfl (by first | exact ⟨i_lo _, i_hi _⟩ | omega) (fun s1 => ?_) (fun s1 => ?_)
        · refine Go_iconst (v := iZ 0) (pc' := 17) dX2_hasSample_16 rfl (by decide) ?_
          refine Go_ireturn (ty := .boolean) dX2_hasSample_17 rfl rfl ?_
          refine ⟨_, rfl, ?_⟩
          refine Go_if_neY (tgt := 23) (pc' := 21) dX2_isWhole_18 (by decide) rfl (by first | exact ⟨i_lo _, i_hi _⟩ | omega) (fun c18 => by exfalso; omega) (fun c18 => ?_)
          refine Go_iconst (v := iZ 0) (pc' := 22) dX2_isWhole_21 rfl (by decide) ?_
          refine Go_ireturn (ty := .boolean) dX2_isWhole_22 rfl rfl ?_
          rw [b2i_f (fun z : wh h o n a b => by have := z.1; omega)] at hk; exact hk
        · refine Go_iload_n (pc' := 5) dX2_hasSample_4 rfl rfl rfl ?_
          refine Go_aload_n (pc' := 6) dX2_hasSample_5 rfl rfl rfl ?_
          refine Go_getIv (v := (iZ (n : Int))) (pc' := 9) dX2_hasSample_6 rfl kf_RX2_58 (by decide) (by decide) rfl CS.b CS.o (M.e8) ?_
          refine Go_icmp_geY (tgt := 16) (pc' := 12) dX2_hasSample_9 (by decide) rfl (by first | exact ⟨i_lo _, i_hi _⟩ | omega) (by first | exact ⟨i_lo _, i_hi _⟩ | omega) (fun s9 => ?_) (fun s9 => ?_)
          · refine Go_iconst (v := iZ 0) (pc' := 17) dX2_hasSample_16 rfl (by decide) ?_
            refine Go_ireturn (ty := .boolean) dX2_hasSample_17 rfl rfl ?_
            refine ⟨_, rfl, ?_⟩
            refine Go_if_neY (tgt := 23) (pc' := 21) dX2_isWhole_18 (by decide) rfl (by first | exact ⟨i_lo _, i_hi _⟩ | omega) (fun c18 => by exfalso; omega) (fun c18 => ?_)
            refine Go_iconst (v := iZ 0) (pc' := 22) dX2_isWhole_21 rfl (by decide) ?_
            refine Go_ireturn (ty := .boolean) dX2_isWhole_22 rfl rfl ?_
            rw [b2i_f (fun z : wh h o n a b => by have := z.1; omega)] at hk; exact hk
          · refine Go_iconst (v := iZ 1) (pc' := 13) dX2_hasSample_12 rfl (by decide) ?_
            refine Go_goto (tgt := 17) dX2_hasSample_13 (by decide) ?_
            refine Go_ireturn (ty := .boolean) dX2_hasSample_17 rfl rfl ?_
            refine ⟨_, rfl, ?_⟩
            refine Go_if_neY (tgt := 23) (pc' := 21) dX2_isWhole_18 (by decide) rfl (by first | exact ⟨i_lo _, i_hi _⟩ | omega) (fun c18 => ?_) (fun c18 => by exfalso; omega)
            refine Go_iload_n (pc' := 24) dX2_isWhole_23 rfl rfl rfl ?_
            refine Go_istore_n (pc' := 25) (lv' := [.ref _, .int _, .int _, .int _]) dX2_isWhole_24 rfl rfl (Nat.le_of_ble_eq_true rfl) rfl rfl ?_
            refine wh_loop M (by omega) (b + 1 - a).toNat a (by omega) (by omega) ?_
            rw [b2i_congr (show wh h o n a b ↔ all (nmB h o) (b + 1 - a).toNat a = true from ⟨fun z => z.2, fun z => ⟨by omega, z⟩⟩)] at hk
            exact hk
set_option maxRecDepth 20000 in
set_option maxHeartbeats 1000000 in
theorem s_rb {G : GC} {d mc ms : Nat} {h : HS} {K : Option Value → HS → Prop} {j o n : Nat} {a b : Int} (M : Smp h j o n) (ha : -2147483648 ≤ a ∧ a < 2147483648) (hb : -2147483648 ≤ b ∧ b < 2147483648) (hk : K (some (.int (b2i (rb h o n a b)))) h) : Go G (d + 3) mc ms M_X2_isReadable 0 [.ref o, .int (iZ a), .int (iZ b), un] [] h K := by
  have CS := M.2.1
  have hn := M.n
  have hj6 := M.j
  refine Go_aload_n (pc' := 1) dX2_isReadable_0 rfl rfl rfl ?_
  refine Go_iload_n (pc' := 2) dX2_isReadable_1 rfl rfl rfl ?_
  refine Go_iload_n (pc' := 3) dX2_isReadable_2 rfl rfl rfl ?_
  refine Go_callV_i (pc' := 6) (As := [.int _, .int _]) (st := []) dX2_isReadable_3 rfl ok_X2_isWhole km_RX2_82 CS.o CS.b ⟨_, _, rfl⟩ rfl (Nat.le_of_ble_eq_true rfl) rfl rfl rfl (Nat.le_of_ble_eq_true rfl) (Nat.lt_succ_self _) ?_
  refine s_wh M (by omega) (by omega) ?_
  refine ⟨_, rfl, ?_⟩
  refine Go_if_neb (tgt := 11) (pc' := 9) dX2_isReadable_6 (by decide) rfl (fun c6 => ?_) (fun c6 => ?_)
  · refine Go_iload_n (pc' := 12) dX2_isReadable_11 rfl rfl rfl ?_
    refine Go_istore_n (pc' := 13) (lv' := [.ref _, .int _, .int _, .int _]) dX2_isReadable_12 rfl rfl (Nat.le_of_ble_eq_true rfl) rfl rfl ?_
    refine rb_loop M (by omega) (b + 1 - a).toNat a (by omega) (by omega) ?_
    rw [b2i_congr (show rb h o n a b ↔ all (ncB h o) (b + 1 - a).toNat a = true from ⟨fun z => z.2, fun z => ⟨c6, z⟩⟩)] at hk
    exact hk
  · refine Go_iconst (v := iZ 0) (pc' := 10) dX2_isReadable_9 rfl (by decide) ?_
    refine Go_ireturn (ty := .boolean) dX2_isReadable_10 rfl rfl ?_
    rw [b2i_f (fun z : rb h o n a b => c6 z.1)] at hk; exact hk
/-- it can be read, and isn't clipped -/
abbrev clr (h : HS) (o : Nat) (X : Int) : Prop := ¬ sap h o X = -1000000000 ∧ ¬ clz (sap h o X) (lmt h o)
abbrev cr (h : HS) (o n : Nat) (X : Int) : Prop := (2 ≤ X ∧ X < n) ∧ clr h o X ∧ clr h o (X - 1) ∧ clr h o (X - 2)
theorem rb_iff {h : HS} {o n : Nat} {a b : Int} : rb h o n a b ↔ (a ≤ b ∧ 0 ≤ a ∧ b < n) ∧ ∀ X, a ≤ X → X ≤ b → clr h o X := by
  refine ⟨fun ⟨⟨z, z1⟩, z2⟩ => ⟨z, fun X x1 x2 => ?_⟩, fun ⟨z, z1⟩ => ⟨⟨z, ?_⟩, ?_⟩⟩
  · have y1 := all_iff.1 z1 X x1 (by omega)
    have y2 := all_iff.1 z2 X x1 (by omega)
    unfold nmB at y1; unfold ncB at y2
    exact ⟨of_decide_eq_true y1, of_decide_eq_true y2⟩
  · exact all_iff.2 (fun Y a b => decide_eq_true (z1 Y a (by omega)).1)
  · exact all_iff.2 (fun Y a b => decide_eq_true (z1 Y a (by omega)).2)
theorem cr_rb {h : HS} {o n : Nat} {X : Int} : cr h o n X ↔ 2 ≤ X ∧ rb h o n (X - 2) X := by
  rw [rb_iff]
  refine ⟨fun ⟨z, z1, z2, z3⟩ => ⟨z.1, ⟨by omega, by omega, z.2⟩, fun Y a b => ?_⟩, fun ⟨z, z1, z2⟩ => ⟨⟨z, z1.2.2⟩, z2 X (by omega) (by omega), z2 _ (by omega) (by omega), z2 _ (by omega) (by omega)⟩⟩
  rcases (show Y = X ∨ Y = X - 1 ∨ Y = X - 2 by omega) with e | e | e
  · rw [e]; exact z1
  · rw [e]; exact z2
  · rw [e]; exact z3
def dmp (h : HS) (o : Nat) : Int := (vi h o 2).toInt
def stf (h : HS) (o : Nat) : Int := (vi h o 3).toInt
def rbk (h : HS) (o : Nat) (D T X : Int) : Int := sap h o X - sap h o (X - 1) - (sap h o (X - 1) - sap h o (X - 1 - 1)) + (D * (sap h o (X - 1) - sap h o (X - 1 - 1)) + T * sap h o (X - 1)).tdiv 64
theorem mul63 {D V B : Int} (hD : 0 ≤ D ∧ D ≤ 63) (hV : -B ≤ V ∧ V ≤ B) : -(63 * B) ≤ D * V ∧ D * V ≤ 63 * B := by
  have hB : 0 ≤ B := by omega
  have h1 : D * V ≤ D * B := Int.mul_le_mul_of_nonneg_left hV.2 hD.1
  have h2 : D * B ≤ 63 * B := Int.mul_le_mul_of_nonneg_right hD.2 hB
  have h3 : D * (-B) ≤ D * V := Int.mul_le_mul_of_nonneg_left hV.1 hD.1
  rw [Int.mul_neg] at h3
  omega

set_option maxRecDepth 20000 in
set_option maxHeartbeats 1000000 in
theorem s_clr {G : GC} {d mc ms : Nat} {h : HS} {K : Option Value → HS → Prop} {j o n : Nat} {X : Int} (S : Shp h) (M : Smp h j o n) (hX : 0 ≤ X ∧ X < n) (hk : K (some (.int (b2i (clr h o X)))) h) : Go G (d + 2) mc ms M_X12_isClear 0 [.ref 99, .int (iZ (j : Int)), .int (iZ X)] [] h K := by
  have CS := M.2.1
  have hn := M.n
  have hj6 := M.j
  have sr := sap_ok M hX
  refine Go_aload_n (pc' := 1) dX12_isClear_0 rfl rfl rfl ?_
  refine Go_iload_n (pc' := 2) dX12_isClear_1 rfl rfl rfl ?_
  refine Go_iload_n (pc' := 3) dX12_isClear_2 rfl rfl rfl ?_
  refine Go_callV_i (pc' := 6) (As := [.int _, .int _]) (st := []) dX12_isClear_3 rfl ok_X12_sample km_RX12_163 (S.o 99 rfl rfl rfl) (S.b 99 rfl rfl) ⟨_, _, rfl⟩ rfl (Nat.le_of_ble_eq_true rfl) rfl rfl rfl (Nat.le_of_ble_eq_true rfl) (Nat.lt_succ_self _) ?_
  refine s_smpMY S M (by omega) ?_
  refine ⟨_, rfl, ?_⟩
  refine Go_ldcZ (X := (-1000000000)) (pc' := 8) dX12_isClear_6 rfl kn_RX12_162 (by decide) ?_
  refine Go_icmp_eqY (tgt := 24) (pc' := 11) dX12_isClear_8 (by decide) rfl (by first | exact ⟨i_lo _, i_hi _⟩ | omega) (by first | exact ⟨i_lo _, i_hi _⟩ | omega) (fun c8 => ?_) (fun c8 => ?_)
  · refine Go_iconst (v := iZ 0) (pc' := 25) dX12_isClear_24 rfl (by decide) ?_
    refine Go_ireturn (ty := .boolean) dX12_isClear_25 rfl rfl ?_
    rw [b2i_f (fun z : clr h o X => z.1 c8)] at hk; exact hk
  · refine Go_aload_n (pc' := 12) dX12_isClear_11 rfl rfl rfl ?_
    refine Go_iload_n (pc' := 13) dX12_isClear_12 rfl rfl rfl ?_
    refine Go_iload_n (pc' := 14) dX12_isClear_13 rfl rfl rfl ?_
    refine Go_callV_i (pc' := 17) (As := [.int _, .int _]) (st := []) dX12_isClear_14 rfl ok_X12_isClipped km_RX12_167 (S.o 99 rfl rfl rfl) (S.b 99 rfl rfl) ⟨_, _, rfl⟩ rfl (Nat.le_of_ble_eq_true rfl) rfl rfl rfl (Nat.le_of_ble_eq_true rfl) (Nat.lt_succ_self _) ?_
    refine s_clpMY S M (by omega) ?_
    refine ⟨_, rfl, ?_⟩
    refine Go_if_neb (tgt := 24) (pc' := 20) dX12_isClear_17 (by decide) rfl (fun c17 => ?_) (fun c17 => ?_)
    · refine Go_iconst (v := iZ 0) (pc' := 25) dX12_isClear_24 rfl (by decide) ?_
      refine Go_ireturn (ty := .boolean) dX12_isClear_25 rfl rfl ?_
      rw [b2i_f (fun z : clr h o X => z.2 c17)] at hk; exact hk
    · refine Go_iconst (v := iZ 1) (pc' := 21) dX12_isClear_20 rfl (by decide) ?_
      refine Go_goto (tgt := 25) dX12_isClear_21 (by decide) ?_
      refine Go_ireturn (ty := .boolean) dX12_isClear_25 rfl rfl ?_
      rw [b2i_t (show clr h o X from ⟨c8, c17⟩)] at hk; exact hk
set_option maxRecDepth 20000 in
set_option maxHeartbeats 1000000 in
theorem s_cr {G : GC} {d mc ms : Nat} {h : HS} {K : Option Value → HS → Prop} {j o n : Nat} {X : Int} (S : Shp h) (M : Smp h j o n) (hX : -2147483648 ≤ X ∧ X < 2147483648) (hk : K (some (.int (b2i (cr h o n X)))) h) : Go G (d + 3) mc ms M_X12_canRead 0 [.ref 99, .int (iZ (j : Int)), .int (iZ X)] [] h K := by
  have CS := M.2.1
  have hn := M.n
  have hj6 := M.j
  refine Go_iload_n (pc' := 1) dX12_canRead_0 rfl rfl rfl ?_
  refine Go_iconst (v := iZ 2) (pc' := 2) dX12_canRead_1 rfl (by decide) ?_
  refine Go_aload_n (pc' := 3) dX12_canRead_2 rfl rfl rfl ?_
  refine Go_getRs (pc' := 6) dX12_canRead_3 rfl kf_RX12_31 (by decide) (by decide) rfl (S.b 99 rfl rfl) (S.o 99 rfl rfl rfl) (S.r 99 8 rfl rfl rfl) ?_
  refine Go_iload_n (pc' := 7) dX12_canRead_6 rfl rfl rfl ?_
  refine Go_ialoadZ (n := 6) (k := j) (v := (iZ (n : Int))) (pc' := 8) dX12_canRead_7 rfl (S.b 107 rfl rfl) (S.k 107 rfl rfl rfl) rfl (by omega) (by decide) (M.e107) ?_
  refine Go_iconst (v := iZ 1) (pc' := 9) dX12_canRead_8 rfl (by decide) ?_
  refine Go_isubZ (pc' := 10) dX12_canRead_9 rfl ?_
  refine Go_callS_i (pc' := 13) (As := [.int _, .int _, .int _]) (st := []) dX12_canRead_10 rfl ok_X12_isIn km_RX12_147 rfl (Nat.le_of_ble_eq_true rfl) rfl rfl rfl (Nat.le_of_ble_eq_true rfl) (Nat.lt_succ_self _) ?_
  refine s_isInY (by first | exact ⟨i_lo _, i_hi _⟩ | omega) (by first | exact ⟨i_lo _, i_hi _⟩ | omega) (by first | exact ⟨i_lo _, i_hi _⟩ | omega) ?_
  refine ⟨_, rfl, ?_⟩
  refine Go_if_eqb (tgt := 51) (pc' := 16) dX12_canRead_13 (by decide) rfl (fun c13 => ?_) (fun c13 => ?_)
  · refine Go_iconst (v := iZ 0) (pc' := 52) dX12_canRead_51 rfl (by decide) ?_
    refine Go_ireturn (ty := .boolean) dX12_canRead_52 rfl rfl ?_
    rw [b2i_f (fun z : cr h o n X => by have := z.1; omega)] at hk; exact hk
  · refine Go_aload_n (pc' := 17) dX12_canRead_16 rfl rfl rfl ?_
    refine Go_iload_n (pc' := 18) dX12_canRead_17 rfl rfl rfl ?_
    refine Go_iload_n (pc' := 19) dX12_canRead_18 rfl rfl rfl ?_
    refine Go_callV_i (pc' := 22) (As := [.int _, .int _]) (st := []) dX12_canRead_19 rfl ok_X12_isClear km_RX12_170 (S.o 99 rfl rfl rfl) (S.b 99 rfl rfl) ⟨_, _, rfl⟩ rfl (Nat.le_of_ble_eq_true rfl) rfl rfl rfl (Nat.le_of_ble_eq_true rfl) (Nat.lt_succ_self _) ?_
    refine s_clr S M (by omega) ?_
    refine ⟨_, rfl, ?_⟩
    refine Go_if_eqb (tgt := 51) (pc' := 25) dX12_canRead_22 (by decide) rfl (fun c22 => ?_) (fun c22 => ?_)
    · refine Go_iconst (v := iZ 0) (pc' := 52) dX12_canRead_51 rfl (by decide) ?_
      refine Go_ireturn (ty := .boolean) dX12_canRead_52 rfl rfl ?_
      rw [b2i_f (fun z : cr h o n X => c22 z.2.1)] at hk; exact hk
    · refine Go_aload_n (pc' := 26) dX12_canRead_25 rfl rfl rfl ?_
      refine Go_iload_n (pc' := 27) dX12_canRead_26 rfl rfl rfl ?_
      refine Go_iload_n (pc' := 28) dX12_canRead_27 rfl rfl rfl ?_
      refine Go_iconst (v := iZ 1) (pc' := 29) dX12_canRead_28 rfl (by decide) ?_
      refine Go_isubZ (pc' := 30) dX12_canRead_29 rfl ?_
      refine Go_callV_i (pc' := 33) (As := [.int _, .int _]) (st := []) dX12_canRead_30 rfl ok_X12_isClear km_RX12_170 (S.o 99 rfl rfl rfl) (S.b 99 rfl rfl) ⟨_, _, rfl⟩ rfl (Nat.le_of_ble_eq_true rfl) rfl rfl rfl (Nat.le_of_ble_eq_true rfl) (Nat.lt_succ_self _) ?_
      refine s_clr S M (by omega) ?_
      refine ⟨_, rfl, ?_⟩
      refine Go_if_eqb (tgt := 51) (pc' := 36) dX12_canRead_33 (by decide) rfl (fun c33 => ?_) (fun c33 => ?_)
      · refine Go_iconst (v := iZ 0) (pc' := 52) dX12_canRead_51 rfl (by decide) ?_
        refine Go_ireturn (ty := .boolean) dX12_canRead_52 rfl rfl ?_
        rw [b2i_f (fun z : cr h o n X => c33 z.2.2.1)] at hk; exact hk
      · refine Go_aload_n (pc' := 37) dX12_canRead_36 rfl rfl rfl ?_
        refine Go_iload_n (pc' := 38) dX12_canRead_37 rfl rfl rfl ?_
        refine Go_iload_n (pc' := 39) dX12_canRead_38 rfl rfl rfl ?_
        refine Go_iconst (v := iZ 2) (pc' := 40) dX12_canRead_39 rfl (by decide) ?_
        refine Go_isubZ (pc' := 41) dX12_canRead_40 rfl ?_
        refine Go_callV_i (pc' := 44) (As := [.int _, .int _]) (st := []) dX12_canRead_41 rfl ok_X12_isClear km_RX12_170 (S.o 99 rfl rfl rfl) (S.b 99 rfl rfl) ⟨_, _, rfl⟩ rfl (Nat.le_of_ble_eq_true rfl) rfl rfl rfl (Nat.le_of_ble_eq_true rfl) (Nat.lt_succ_self _) ?_
        refine s_clr S M (by omega) ?_
        refine ⟨_, rfl, ?_⟩
        refine Go_if_eqb (tgt := 51) (pc' := 47) dX12_canRead_44 (by decide) rfl (fun c44 => ?_) (fun c44 => ?_)
        · refine Go_iconst (v := iZ 0) (pc' := 52) dX12_canRead_51 rfl (by decide) ?_
          refine Go_ireturn (ty := .boolean) dX12_canRead_52 rfl rfl ?_
          rw [b2i_f (fun z : cr h o n X => c44 z.2.2.2)] at hk; exact hk
        · refine Go_iconst (v := iZ 1) (pc' := 48) dX12_canRead_47 rfl (by decide) ?_
          refine Go_goto (tgt := 52) dX12_canRead_48 (by decide) ?_
          refine Go_ireturn (ty := .boolean) dX12_canRead_52 rfl rfl ?_
          rw [b2i_t (show cr h o n X from ⟨by omega, c22, c33, c44⟩)] at hk; exact hk
set_option maxRecDepth 20000 in
set_option maxHeartbeats 1000000 in
theorem s_rbk {G : GC} {d mc ms : Nat} {h : HS} {K : Option Value → HS → Prop} {j o n : Nat} {X : Int} (M : Smp h j o n) (hc : cr h o n X) (hD : 0 ≤ dmp h o ∧ dmp h o ≤ 63) (hT : 0 ≤ stf h o ∧ stf h o ≤ 63) (hk : K (some (.int (iZ (rbk h o (dmp h o) (stf h o) X)))) h) : Go G (d + 2) mc ms M_X2_readBack 0 [.ref o, .int (iZ X), un] [] h K := by
  have CS := M.2.1
  have hn := M.n
  have hj6 := M.j
  have hx := hc.1
  have q0 := hc.2.1.1
  have q1 := hc.2.2.1.1
  have q2 := hc.2.2.2.1
  rw [show X - 2 = X - 1 - 1 by omega] at q2
  have s0 := sap_ok M (X := X) (by omega)
  have s1 := sap_ok M (X := X - 1) (by omega)
  have s2 := sap_ok M (X := X - 1 - 1) (by omega)
  have b1 := mul63 (B := 1998) hD (V := sap h o (X - 1) - sap h o (X - 1 - 1)) (by omega)
  have b2 := mul63 (B := 999) hT (V := sap h o (X - 1)) (by omega)
  refine Go_aload_n (pc' := 1) dX2_readBack_0 rfl rfl rfl ?_
  refine Go_getIv (v := (iZ (dmp h o))) (pc' := 4) dX2_readBack_1 rfl kf_RX2_18 (by decide) (by decide) rfl CS.b CS.o (vi_eta _ _ _) ?_
  refine Go_aload_n (pc' := 5) dX2_readBack_4 rfl rfl rfl ?_
  refine Go_iload_n (pc' := 6) dX2_readBack_5 rfl rfl rfl ?_
  refine Go_iconst (v := iZ 1) (pc' := 7) dX2_readBack_6 rfl (by decide) ?_
  refine Go_isubZ (pc' := 8) dX2_readBack_7 rfl ?_
  refine Go_callV_i (pc' := 11) (As := [.int _]) (st := [.int _]) dX2_readBack_8 rfl ok_X2_speedAt km_RX2_86 CS.o CS.b ⟨_, _, rfl⟩ rfl (Nat.le_of_ble_eq_true rfl) rfl rfl rfl (Nat.le_of_ble_eq_true rfl) (Nat.lt_succ_self _) ?_
  refine Go_aload_n (pc' := 1) dX2_speedAt_0 rfl rfl rfl ?_
  refine Go_iload_n (pc' := 2) dX2_speedAt_1 rfl rfl rfl ?_
  refine Go_callV_i (pc' := 5) (As := [.int _]) (st := []) dX2_speedAt_2 rfl ok_X2_sampleAt km_RX2_64 CS.o CS.b ⟨_, _, rfl⟩ rfl (Nat.le_of_ble_eq_true rfl) rfl rfl rfl (Nat.le_of_ble_eq_true rfl) (Nat.lt_succ_self _) ?_
  refine s_smpY M (by omega) ?_
  refine ⟨_, rfl, ?_⟩
  refine Go_aload_n (pc' := 6) dX2_speedAt_5 rfl rfl rfl ?_
  refine Go_iload_n (pc' := 7) dX2_speedAt_6 rfl rfl rfl ?_
  refine Go_iconst (v := iZ 1) (pc' := 8) dX2_speedAt_7 rfl (by decide) ?_
  refine Go_isubZ (pc' := 9) dX2_speedAt_8 rfl ?_
  refine Go_callV_i (pc' := 12) (As := [.int _]) (st := [.int _]) dX2_speedAt_9 rfl ok_X2_sampleAt km_RX2_64 CS.o CS.b ⟨_, _, rfl⟩ rfl (Nat.le_of_ble_eq_true rfl) rfl rfl rfl (Nat.le_of_ble_eq_true rfl) (Nat.lt_succ_self _) ?_
  refine s_smpY M (by omega) ?_
  refine ⟨_, rfl, ?_⟩
  refine Go_isubZ (pc' := 13) dX2_speedAt_12 rfl ?_
  refine Go_ireturn (ty := .int) dX2_speedAt_13 rfl rfl ?_
  refine ⟨_, rfl, ?_⟩
  refine Go_imulZ (pc' := 12) dX2_readBack_11 rfl ?_
  refine Go_aload_n (pc' := 13) dX2_readBack_12 rfl rfl rfl ?_
  refine Go_getIv (v := (iZ (stf h o))) (pc' := 16) dX2_readBack_13 rfl kf_RX2_21 (by decide) (by decide) rfl CS.b CS.o (vi_eta _ _ _) ?_
  refine Go_aload_n (pc' := 17) dX2_readBack_16 rfl rfl rfl ?_
  refine Go_iload_n (pc' := 18) dX2_readBack_17 rfl rfl rfl ?_
  refine Go_iconst (v := iZ 1) (pc' := 19) dX2_readBack_18 rfl (by decide) ?_
  refine Go_isubZ (pc' := 20) dX2_readBack_19 rfl ?_
  refine Go_callV_i (pc' := 23) (As := [.int _]) (st := [.int _, .int _]) dX2_readBack_20 rfl ok_X2_sampleAt km_RX2_64 CS.o CS.b ⟨_, _, rfl⟩ rfl (Nat.le_of_ble_eq_true rfl) rfl rfl rfl (Nat.le_of_ble_eq_true rfl) (Nat.lt_succ_self _) ?_
  refine s_smpY M (by omega) ?_
  refine ⟨_, rfl, ?_⟩
  refine Go_imulZ (pc' := 24) dX2_readBack_23 rfl ?_
  refine Go_iaddZ (pc' := 25) dX2_readBack_24 rfl ?_
  refine Go_bipush (v := iZ 64) (pc' := 27) dX2_readBack_25 rfl (by decide) ?_
  refine Go_idivT (pc' := 28) dX2_readBack_27 rfl (by omega) (by omega) ?_
  refine Go_istore_n (pc' := 29) (lv' := [.ref _, .int _, .int _]) dX2_readBack_28 rfl rfl (Nat.le_of_ble_eq_true rfl) rfl rfl ?_
  refine Go_aload_n (pc' := 30) dX2_readBack_29 rfl rfl rfl ?_
  refine Go_iload_n (pc' := 31) dX2_readBack_30 rfl rfl rfl ?_
  refine Go_callV_i (pc' := 34) (As := [.int _]) (st := []) dX2_readBack_31 rfl ok_X2_speedAt km_RX2_86 CS.o CS.b ⟨_, _, rfl⟩ rfl (Nat.le_of_ble_eq_true rfl) rfl rfl rfl (Nat.le_of_ble_eq_true rfl) (Nat.lt_succ_self _) ?_
  refine Go_aload_n (pc' := 1) dX2_speedAt_0 rfl rfl rfl ?_
  refine Go_iload_n (pc' := 2) dX2_speedAt_1 rfl rfl rfl ?_
  refine Go_callV_i (pc' := 5) (As := [.int _]) (st := []) dX2_speedAt_2 rfl ok_X2_sampleAt km_RX2_64 CS.o CS.b ⟨_, _, rfl⟩ rfl (Nat.le_of_ble_eq_true rfl) rfl rfl rfl (Nat.le_of_ble_eq_true rfl) (Nat.lt_succ_self _) ?_
  refine s_smpY M (by omega) ?_
  refine ⟨_, rfl, ?_⟩
  refine Go_aload_n (pc' := 6) dX2_speedAt_5 rfl rfl rfl ?_
  refine Go_iload_n (pc' := 7) dX2_speedAt_6 rfl rfl rfl ?_
  refine Go_iconst (v := iZ 1) (pc' := 8) dX2_speedAt_7 rfl (by decide) ?_
  refine Go_isubZ (pc' := 9) dX2_speedAt_8 rfl ?_
  refine Go_callV_i (pc' := 12) (As := [.int _]) (st := [.int _]) dX2_speedAt_9 rfl ok_X2_sampleAt km_RX2_64 CS.o CS.b ⟨_, _, rfl⟩ rfl (Nat.le_of_ble_eq_true rfl) rfl rfl rfl (Nat.le_of_ble_eq_true rfl) (Nat.lt_succ_self _) ?_
  refine s_smpY M (by omega) ?_
  refine ⟨_, rfl, ?_⟩
  refine Go_isubZ (pc' := 13) dX2_speedAt_12 rfl ?_
  refine Go_ireturn (ty := .int) dX2_speedAt_13 rfl rfl ?_
  refine ⟨_, rfl, ?_⟩
  refine Go_aload_n (pc' := 35) dX2_readBack_34 rfl rfl rfl ?_
  refine Go_iload_n (pc' := 36) dX2_readBack_35 rfl rfl rfl ?_
  refine Go_iconst (v := iZ 1) (pc' := 37) dX2_readBack_36 rfl (by decide) ?_
  refine Go_isubZ (pc' := 38) dX2_readBack_37 rfl ?_
  refine Go_callV_i (pc' := 41) (As := [.int _]) (st := [.int _]) dX2_readBack_38 rfl ok_X2_speedAt km_RX2_86 CS.o CS.b ⟨_, _, rfl⟩ rfl (Nat.le_of_ble_eq_true rfl) rfl rfl rfl (Nat.le_of_ble_eq_true rfl) (Nat.lt_succ_self _) ?_
  refine Go_aload_n (pc' := 1) dX2_speedAt_0 rfl rfl rfl ?_
  refine Go_iload_n (pc' := 2) dX2_speedAt_1 rfl rfl rfl ?_
  refine Go_callV_i (pc' := 5) (As := [.int _]) (st := []) dX2_speedAt_2 rfl ok_X2_sampleAt km_RX2_64 CS.o CS.b ⟨_, _, rfl⟩ rfl (Nat.le_of_ble_eq_true rfl) rfl rfl rfl (Nat.le_of_ble_eq_true rfl) (Nat.lt_succ_self _) ?_
  refine s_smpY M (by omega) ?_
  refine ⟨_, rfl, ?_⟩
  refine Go_aload_n (pc' := 6) dX2_speedAt_5 rfl rfl rfl ?_
  refine Go_iload_n (pc' := 7) dX2_speedAt_6 rfl rfl rfl ?_
  refine Go_iconst (v := iZ 1) (pc' := 8) dX2_speedAt_7 rfl (by decide) ?_
  refine Go_isubZ (pc' := 9) dX2_speedAt_8 rfl ?_
  refine Go_callV_i (pc' := 12) (As := [.int _]) (st := [.int _]) dX2_speedAt_9 rfl ok_X2_sampleAt km_RX2_64 CS.o CS.b ⟨_, _, rfl⟩ rfl (Nat.le_of_ble_eq_true rfl) rfl rfl rfl (Nat.le_of_ble_eq_true rfl) (Nat.lt_succ_self _) ?_
  refine s_smpY M (by omega) ?_
  refine ⟨_, rfl, ?_⟩
  refine Go_isubZ (pc' := 13) dX2_speedAt_12 rfl ?_
  refine Go_ireturn (ty := .int) dX2_speedAt_13 rfl rfl ?_
  refine ⟨_, rfl, ?_⟩
  refine Go_isubZ (pc' := 42) dX2_readBack_41 rfl ?_
  refine Go_iload_n (pc' := 43) dX2_readBack_42 rfl rfl rfl ?_
  refine Go_iaddZ (pc' := 44) dX2_readBack_43 rfl ?_
  refine Go_ireturn (ty := .int) dX2_readBack_44 rfl rfl ?_
  exact hk
set_option maxRecDepth 20000 in
set_option maxHeartbeats 1000000 in
theorem s_rbkM {G : GC} {d mc ms : Nat} {h : HS} {K : Option Value → HS → Prop} {j o n : Nat} {X D T : Int} (S : Shp h) (M : Smp h j o n) (hc : cr h o n X) (hD : 0 ≤ D ∧ D ≤ 63) (hT : 0 ≤ T ∧ T ≤ 63) (hk : K (some (.int (iZ (rbk h o D T X)))) h) : Go G (d + 2) mc ms M_X12_readBack 0 [.ref 99, .int (iZ (j : Int)), .int (iZ X), .int (iZ D), .int (iZ T), un, un] [] h K := by
  have CS := M.2.1
  have hn := M.n
  have hj6 := M.j
  have hx := hc.1
  have q0 := hc.2.1.1
  have q1 := hc.2.2.1.1
  have q2 := hc.2.2.2.1
  rw [show X - 2 = X - 1 - 1 by omega] at q2
  have s0 := sap_ok M (X := X) (by omega)
  have s1 := sap_ok M (X := X - 1) (by omega)
  have s2 := sap_ok M (X := X - 1 - 1) (by omega)
  have b1 := mul63 (B := 1998) hD (V := sap h o (X - 1) - sap h o (X - 1 - 1)) (by omega)
  have b2 := mul63 (B := 999) hT (V := sap h o (X - 1)) (by omega)
  have e2 : X - 1 - 1 = X - 2 := by omega
  unfold rbk at hk
  rw [e2] at hk q2 s2 b1
  refine Go_aload_n (pc' := 1) dX12_readBack_0 rfl rfl rfl ?_
  refine Go_iload_n (pc' := 2) dX12_readBack_1 rfl rfl rfl ?_
  refine Go_iload_n (pc' := 3) dX12_readBack_2 rfl rfl rfl ?_
  refine Go_callV_i (pc' := 6) (As := [.int _, .int _]) (st := []) dX12_readBack_3 rfl ok_X12_sample km_RX12_163 (S.o 99 rfl rfl rfl) (S.b 99 rfl rfl) ⟨_, _, rfl⟩ rfl (Nat.le_of_ble_eq_true rfl) rfl rfl rfl (Nat.le_of_ble_eq_true rfl) (Nat.lt_succ_self _) ?_
  refine s_smpMY S M (by omega) ?_
  refine ⟨_, rfl, ?_⟩
  refine Go_aload_n (pc' := 7) dX12_readBack_6 rfl rfl rfl ?_
  refine Go_iload_n (pc' := 8) dX12_readBack_7 rfl rfl rfl ?_
  refine Go_iload_n (pc' := 9) dX12_readBack_8 rfl rfl rfl ?_
  refine Go_iconst (v := iZ 1) (pc' := 10) dX12_readBack_9 rfl (by decide) ?_
  refine Go_isubZ (pc' := 11) dX12_readBack_10 rfl ?_
  refine Go_callV_i (pc' := 14) (As := [.int _, .int _]) (st := [.int _]) dX12_readBack_11 rfl ok_X12_sample km_RX12_163 (S.o 99 rfl rfl rfl) (S.b 99 rfl rfl) ⟨_, _, rfl⟩ rfl (Nat.le_of_ble_eq_true rfl) rfl rfl rfl (Nat.le_of_ble_eq_true rfl) (Nat.lt_succ_self _) ?_
  refine s_smpMY S M (by omega) ?_
  refine ⟨_, rfl, ?_⟩
  refine Go_isubZ (pc' := 15) dX12_readBack_14 rfl ?_
  refine Go_istore (pc' := 17) (lv' := [.ref _, .int _, .int _, .int _, .int _, .int _, un]) dX12_readBack_15 rfl (Nat.le_of_ble_eq_true rfl) rfl rfl ?_
  refine Go_aload_n (pc' := 18) dX12_readBack_17 rfl rfl rfl ?_
  refine Go_iload_n (pc' := 19) dX12_readBack_18 rfl rfl rfl ?_
  refine Go_iload_n (pc' := 20) dX12_readBack_19 rfl rfl rfl ?_
  refine Go_iconst (v := iZ 1) (pc' := 21) dX12_readBack_20 rfl (by decide) ?_
  refine Go_isubZ (pc' := 22) dX12_readBack_21 rfl ?_
  refine Go_callV_i (pc' := 25) (As := [.int _, .int _]) (st := []) dX12_readBack_22 rfl ok_X12_sample km_RX12_163 (S.o 99 rfl rfl rfl) (S.b 99 rfl rfl) ⟨_, _, rfl⟩ rfl (Nat.le_of_ble_eq_true rfl) rfl rfl rfl (Nat.le_of_ble_eq_true rfl) (Nat.lt_succ_self _) ?_
  refine s_smpMY S M (by omega) ?_
  refine ⟨_, rfl, ?_⟩
  refine Go_aload_n (pc' := 26) dX12_readBack_25 rfl rfl rfl ?_
  refine Go_iload_n (pc' := 27) dX12_readBack_26 rfl rfl rfl ?_
  refine Go_iload_n (pc' := 28) dX12_readBack_27 rfl rfl rfl ?_
  refine Go_iconst (v := iZ 2) (pc' := 29) dX12_readBack_28 rfl (by decide) ?_
  refine Go_isubZ (pc' := 30) dX12_readBack_29 rfl ?_
  refine Go_callV_i (pc' := 33) (As := [.int _, .int _]) (st := [.int _]) dX12_readBack_30 rfl ok_X12_sample km_RX12_163 (S.o 99 rfl rfl rfl) (S.b 99 rfl rfl) ⟨_, _, rfl⟩ rfl (Nat.le_of_ble_eq_true rfl) rfl rfl rfl (Nat.le_of_ble_eq_true rfl) (Nat.lt_succ_self _) ?_
  refine s_smpMY S M (by omega) ?_
  refine ⟨_, rfl, ?_⟩
  refine Go_isubZ (pc' := 34) dX12_readBack_33 rfl ?_
  refine Go_istore (pc' := 36) (lv' := [.ref _, .int _, .int _, .int _, .int _, .int _, .int _]) dX12_readBack_34 rfl (Nat.le_of_ble_eq_true rfl) rfl rfl ?_
  refine Go_iload (pc' := 38) dX12_readBack_36 rfl rfl ?_
  refine Go_iload (pc' := 40) dX12_readBack_38 rfl rfl ?_
  refine Go_isubZ (pc' := 41) dX12_readBack_40 rfl ?_
  refine Go_iload_n (pc' := 42) dX12_readBack_41 rfl rfl rfl ?_
  refine Go_iload (pc' := 44) dX12_readBack_42 rfl rfl ?_
  refine Go_imulZ (pc' := 45) dX12_readBack_44 rfl ?_
  refine Go_iload (pc' := 47) dX12_readBack_45 rfl rfl ?_
  refine Go_aload_n (pc' := 48) dX12_readBack_47 rfl rfl rfl ?_
  refine Go_iload_n (pc' := 49) dX12_readBack_48 rfl rfl rfl ?_
  refine Go_iload_n (pc' := 50) dX12_readBack_49 rfl rfl rfl ?_
  refine Go_iconst (v := iZ 1) (pc' := 51) dX12_readBack_50 rfl (by decide) ?_
  refine Go_isubZ (pc' := 52) dX12_readBack_51 rfl ?_
  refine Go_callV_i (pc' := 55) (As := [.int _, .int _]) (st := [.int _, .int _, .int _]) dX12_readBack_52 rfl ok_X12_sample km_RX12_163 (S.o 99 rfl rfl rfl) (S.b 99 rfl rfl) ⟨_, _, rfl⟩ rfl (Nat.le_of_ble_eq_true rfl) rfl rfl rfl (Nat.le_of_ble_eq_true rfl) (Nat.lt_succ_self _) ?_
  refine s_smpMY S M (by omega) ?_
  refine ⟨_, rfl, ?_⟩
  refine Go_imulZ (pc' := 56) dX12_readBack_55 rfl ?_
  refine Go_iaddZ (pc' := 57) dX12_readBack_56 rfl ?_
  refine Go_bipush (v := iZ 64) (pc' := 59) dX12_readBack_57 rfl (by decide) ?_
  refine Go_idivT (pc' := 60) dX12_readBack_59 rfl (by omega) (by omega) ?_
  refine Go_iaddZ (pc' := 61) dX12_readBack_60 rfl ?_
  refine Go_ireturn (ty := .int) dX12_readBack_61 rfl rfl ?_
  exact hk
set_option maxRecDepth 20000 in
set_option maxHeartbeats 1000000 in
theorem pair6 {G : GC} (a b : Int32) : PairI G M_X11_back M_X12_back [.int a, .int b] := by
  intro h I
  obtain ⟨Az, hva, rfl⟩ := i_eta a
  obtain ⟨Bz, hvb, rfl⟩ := i_eta b
  obtain ⟨nc, hnc, ec2⟩ := of_rgZ (b := 6) I.C.1.2
  have ec0 : vi h 99 0 = iZ (nc : Int) := I.C.1.1.trans ec2
  have S := I.S
  by_cases hcc : 0 ≤ Az ∧ Az < nc
  · obtain ⟨j, rfl⟩ : ∃ j : Nat, Az = (j : Int) := ⟨Az.toNat, by omega⟩
    obtain ⟨o, ho, CS, CV⟩ := cel_ex I hnc ec2 (c := j) (by omega)
    obtain ⟨n, M⟩ := smp_of (by omega) CS CV
    have hn := M.n
    have hD : 0 ≤ dmp h o ∧ dmp h o ≤ 63 := CV.2.1.1.2
    have hT : 0 ≤ stf h o ∧ stf h o ≤ 63 := CV.2.1.2.1.2
    have eD : vi h 101 j = iZ (dmp h o) := CV.2.1.1.1.symm.trans (vi_eta _ _ _)
    have eT : vi h 102 j = iZ (stf h o) := CV.2.1.2.1.1.symm.trans (vi_eta _ _ _)
    have ecr := @cr_rb h o n Bz
    by_cases hc : cr h o n Bz
    · have hr := (ecr.1 hc).2
      have hx := hc.1
      refine PairI.ro' (fun _ => iZ (rbk h o (dmp h o) (stf h o) Bz)) h I (fun K k => ?_) (fun K k => ?_)
      · show Go G 60 0 0 M_X11_back 0 [.ref 64, .int (iZ (j : Int)), .int (iZ Bz), un] [] h K
        refine Go_aload_n (pc' := 1) dX11_back_0 rfl rfl rfl ?_
        refine Go_iload_n (pc' := 2) dX11_back_1 rfl rfl rfl ?_
        refine Go_callV_r (pc' := 5) (As := [.int _]) (st := []) dX11_back_2 rfl ok_X11_cellarOf km_RX11_90 (I.S.o 64 rfl rfl rfl) (I.S.b 64 rfl rfl) ⟨_, _, rfl⟩ rfl (Nat.le_of_ble_eq_true rfl) rfl rfl rfl (Nat.le_of_ble_eq_true rfl) (Nat.lt_succ_self _) ?_
        refine Go_iload_n (pc' := 1) dX11_cellarOf_0 rfl rfl rfl ?_
        refine Go_iconst (v := iZ 0) (pc' := 2) dX11_cellarOf_1 rfl (by decide) ?_
        refine Go_aload_n (pc' := 3) dX11_cellarOf_2 rfl rfl rfl ?_
        refine Go_getIv (v := (iZ (nc : Int))) (pc' := 6) dX11_cellarOf_3 rfl kf_RX11_84 (by decide) (by decide) rfl (I.S.b 64 rfl rfl) (I.S.o 64 rfl rfl rfl) (ec2) ?_
        refine Go_iconst (v := iZ 1) (pc' := 7) dX11_cellarOf_6 rfl (by decide) ?_
        refine Go_isubZ (pc' := 8) dX11_cellarOf_7 rfl ?_
        refine Go_callS_i (pc' := 11) (As := [.int _, .int _, .int _]) (st := []) dX11_cellarOf_8 rfl ok_X11_within km_RX11_94 rfl (Nat.le_of_ble_eq_true rfl) rfl rfl rfl (Nat.le_of_ble_eq_true rfl) (Nat.lt_succ_self _) ?_
        refine s_withinY (by first | exact ⟨i_lo _, i_hi _⟩ | omega) (by first | exact ⟨i_lo _, i_hi _⟩ | omega) (by first | exact ⟨i_lo _, i_hi _⟩ | omega) ?_
        refine ⟨_, rfl, ?_⟩
        refine Go_if_eqb (tgt := 32) (pc' := 14) dX11_cellarOf_11 (by decide) rfl (fun q11 => by exfalso; omega) (fun q11 => ?_)
        refine Go_iload_n (pc' := 15) dX11_cellarOf_14 rfl rfl rfl ?_
        refine Go_aload_n (pc' := 16) dX11_cellarOf_15 rfl rfl rfl ?_
        refine Go_getRs (pc' := 19) dX11_cellarOf_16 rfl kf_RX11_18 (by decide) (by decide) rfl (I.S.b 64 rfl rfl) (I.S.o 64 rfl rfl rfl) (I.S.r 64 1 rfl rfl rfl) ?_
        refine Go_alenZ (n := 6) (pc' := 20) dX11_cellarOf_19 rfl (I.S.b 67 rfl rfl) (I.S.k 67 rfl rfl rfl) (Or.inr (Or.inr ⟨_, rfl⟩)) ?_
        refine Go_icmp_geY (tgt := 32) (pc' := 23) dX11_cellarOf_20 (by decide) rfl (by first | exact ⟨i_lo _, i_hi _⟩ | omega) (by first | exact ⟨i_lo _, i_hi _⟩ | omega) (fun q20 => by exfalso; omega) (fun q20 => ?_)
        refine Go_aload_n (pc' := 24) dX11_cellarOf_23 rfl rfl rfl ?_
        refine Go_getRs (pc' := 27) dX11_cellarOf_24 rfl kf_RX11_18 (by decide) (by decide) rfl (I.S.b 64 rfl rfl) (I.S.o 64 rfl rfl rfl) (I.S.r 64 1 rfl rfl rfl) ?_
        refine Go_iload_n (pc' := 28) dX11_cellarOf_27 rfl rfl rfl ?_
        refine Go_aaloadZ (n := 6) (k := j) (pc' := 29) dX11_cellarOf_28 rfl (I.S.b 67 rfl rfl) (I.S.k 67 rfl rfl rfl) rfl rfl (by omega) (by decide) ho ?_
        refine Go_goto (tgt := 33) dX11_cellarOf_29 (by decide) ?_
        refine Go_areturn (r := some _) dX11_cellarOf_33 rfl ?_
        refine ⟨some _, rfl, ?_⟩
        refine Go_astore_n (pc' := 6) (lv' := [.ref _, .int _, .int _, .ref _]) dX11_back_5 rfl rfl (Nat.le_of_ble_eq_true rfl) rfl rfl ?_
        refine Go_aload_n (pc' := 7) dX11_back_6 rfl rfl rfl ?_
        refine Go_ifnull (pc' := 10) dX11_back_7 rfl ?_
        refine Go_iload_n (pc' := 11) dX11_back_10 rfl rfl rfl ?_
        refine Go_iconst (v := iZ 2) (pc' := 12) dX11_back_11 rfl (by decide) ?_
        refine Go_sipush (v := iZ 199) (pc' := 15) dX11_back_12 rfl (by decide) ?_
        refine Go_callS_i (pc' := 18) (As := [.int _, .int _, .int _]) (st := []) dX11_back_15 rfl ok_X11_within km_RX11_94 rfl (Nat.le_of_ble_eq_true rfl) rfl rfl rfl (Nat.le_of_ble_eq_true rfl) (Nat.lt_succ_self _) ?_
        refine s_withinY (by first | exact ⟨i_lo _, i_hi _⟩ | omega) (by first | exact ⟨i_lo _, i_hi _⟩ | omega) (by first | exact ⟨i_lo _, i_hi _⟩ | omega) ?_
        refine ⟨_, rfl, ?_⟩
        refine Go_if_eqb (tgt := 32) (pc' := 21) dX11_back_18 (by decide) rfl (fun c18 => by exfalso; omega) (fun c18 => ?_)
        refine Go_aload_n (pc' := 22) dX11_back_21 rfl rfl rfl ?_
        refine Go_iload_n (pc' := 23) dX11_back_22 rfl rfl rfl ?_
        refine Go_iconst (v := iZ 2) (pc' := 24) dX11_back_23 rfl (by decide) ?_
        refine Go_isubZ (pc' := 25) dX11_back_24 rfl ?_
        refine Go_iload_n (pc' := 26) dX11_back_25 rfl rfl rfl ?_
        refine Go_callV_i (pc' := 29) (As := [.int _, .int _]) (st := []) dX11_back_26 rfl ok_X2_isReadable km_RX11_140 CS.o CS.b ⟨_, _, rfl⟩ rfl (Nat.le_of_ble_eq_true rfl) rfl rfl rfl (Nat.le_of_ble_eq_true rfl) (Nat.lt_succ_self _) ?_
        refine s_rb M (by omega) (by omega) ?_
        refine ⟨_, rfl, ?_⟩
        refine Go_if_neb (tgt := 35) (pc' := 32) dX11_back_29 (by decide) rfl (fun c29 => ?_) (fun c29 => by exact absurd hr c29)
        refine Go_aload_n (pc' := 36) dX11_back_35 rfl rfl rfl ?_
        refine Go_iload_n (pc' := 37) dX11_back_36 rfl rfl rfl ?_
        refine Go_callV_i (pc' := 40) (As := [.int _]) (st := []) dX11_back_37 rfl ok_X2_readBack km_RX11_143 CS.o CS.b ⟨_, _, rfl⟩ rfl (Nat.le_of_ble_eq_true rfl) rfl rfl rfl (Nat.le_of_ble_eq_true rfl) (Nat.lt_succ_self _) ?_
        refine s_rbk M hc hD hT ?_
        refine ⟨_, rfl, ?_⟩
        refine Go_ireturn (ty := .int) dX11_back_40 rfl rfl ?_
        exact k
      · show Go G 60 0 0 M_X12_back 0 [.ref 99, .int (iZ (j : Int)), .int (iZ Bz)] [] h K
        refine Go_aload_n (pc' := 1) dX12_back_0 rfl rfl rfl ?_
        refine Go_iload_n (pc' := 2) dX12_back_1 rfl rfl rfl ?_
        refine Go_callV_i (pc' := 5) (As := [.int _]) (st := []) dX12_back_2 rfl ok_X12_isCellar km_RX12_158 (I.S.o 99 rfl rfl rfl) (I.S.b 99 rfl rfl) ⟨_, _, rfl⟩ rfl (Nat.le_of_ble_eq_true rfl) rfl rfl rfl (Nat.le_of_ble_eq_true rfl) (Nat.lt_succ_self _) ?_
        refine Go_iload_n (pc' := 1) dX12_isCellar_0 rfl rfl rfl ?_
        refine Go_iconst (v := iZ 0) (pc' := 2) dX12_isCellar_1 rfl (by decide) ?_
        refine Go_aload_n (pc' := 3) dX12_isCellar_2 rfl rfl rfl ?_
        refine Go_getIv (v := (iZ (nc : Int))) (pc' := 6) dX12_isCellar_3 rfl kf_RX12_151 (by decide) (by decide) rfl (I.S.b 99 rfl rfl) (I.S.o 99 rfl rfl rfl) (ec0) ?_
        refine Go_iconst (v := iZ 1) (pc' := 7) dX12_isCellar_6 rfl (by decide) ?_
        refine Go_isubZ (pc' := 8) dX12_isCellar_7 rfl ?_
        refine Go_callS_i (pc' := 11) (As := [.int _, .int _, .int _]) (st := []) dX12_isCellar_8 rfl ok_X12_isIn km_RX12_147 rfl (Nat.le_of_ble_eq_true rfl) rfl rfl rfl (Nat.le_of_ble_eq_true rfl) (Nat.lt_succ_self _) ?_
        refine s_isInY (by first | exact ⟨i_lo _, i_hi _⟩ | omega) (by first | exact ⟨i_lo _, i_hi _⟩ | omega) (by first | exact ⟨i_lo _, i_hi _⟩ | omega) ?_
        refine ⟨_, rfl, ?_⟩
        refine Go_ireturn (ty := .boolean) dX12_isCellar_11 rfl b2i_nb ?_
        refine ⟨_, rfl, ?_⟩
        refine Go_if_eqb (tgt := 38) (pc' := 8) dX12_back_5 (by decide) rfl (fun c5 => by exfalso; omega) (fun c5 => ?_)
        refine Go_aload_n (pc' := 9) dX12_back_8 rfl rfl rfl ?_
        refine Go_iload_n (pc' := 10) dX12_back_9 rfl rfl rfl ?_
        refine Go_iload_n (pc' := 11) dX12_back_10 rfl rfl rfl ?_
        refine Go_callV_i (pc' := 14) (As := [.int _, .int _]) (st := []) dX12_back_11 rfl ok_X12_canRead km_RX12_173 (I.S.o 99 rfl rfl rfl) (I.S.b 99 rfl rfl) ⟨_, _, rfl⟩ rfl (Nat.le_of_ble_eq_true rfl) rfl rfl rfl (Nat.le_of_ble_eq_true rfl) (Nat.lt_succ_self _) ?_
        refine s_cr S M (by omega) ?_
        refine ⟨_, rfl, ?_⟩
        refine Go_if_eqb (tgt := 38) (pc' := 17) dX12_back_14 (by decide) rfl (fun c14 => by exact absurd hc c14) (fun c14 => ?_)
        refine Go_aload_n (pc' := 18) dX12_back_17 rfl rfl rfl ?_
        refine Go_iload_n (pc' := 19) dX12_back_18 rfl rfl rfl ?_
        refine Go_iload_n (pc' := 20) dX12_back_19 rfl rfl rfl ?_
        refine Go_aload_n (pc' := 21) dX12_back_20 rfl rfl rfl ?_
        refine Go_getRs (pc' := 24) dX12_back_21 rfl kf_RX12_13 (by decide) (by decide) rfl (I.S.b 99 rfl rfl) (I.S.o 99 rfl rfl rfl) (I.S.r 99 2 rfl rfl rfl) ?_
        refine Go_iload_n (pc' := 25) dX12_back_24 rfl rfl rfl ?_
        refine Go_ialoadZ (n := 6) (k := j) (v := (iZ (dmp h o))) (pc' := 26) dX12_back_25 rfl (I.S.b 101 rfl rfl) (I.S.k 101 rfl rfl rfl) rfl (by omega) (by decide) (eD) ?_
        refine Go_aload_n (pc' := 27) dX12_back_26 rfl rfl rfl ?_
        refine Go_getRs (pc' := 30) dX12_back_27 rfl kf_RX12_16 (by decide) (by decide) rfl (I.S.b 99 rfl rfl) (I.S.o 99 rfl rfl rfl) (I.S.r 99 3 rfl rfl rfl) ?_
        refine Go_iload_n (pc' := 31) dX12_back_30 rfl rfl rfl ?_
        refine Go_ialoadZ (n := 6) (k := j) (v := (iZ (stf h o))) (pc' := 32) dX12_back_31 rfl (I.S.b 102 rfl rfl) (I.S.k 102 rfl rfl rfl) rfl (by omega) (by decide) (eT) ?_
        refine Go_callV_i (pc' := 35) (As := [.int _, .int _, .int _, .int _]) (st := []) dX12_back_32 rfl ok_X12_readBack km_RX12_176 (I.S.o 99 rfl rfl rfl) (I.S.b 99 rfl rfl) ⟨_, _, rfl⟩ rfl (Nat.le_of_ble_eq_true rfl) rfl rfl rfl (Nat.le_of_ble_eq_true rfl) (Nat.lt_succ_self _) ?_
        refine s_rbkM S M hc (by omega) (by omega) ?_
        refine ⟨_, rfl, ?_⟩
        refine Go_goto (tgt := 40) dX12_back_35 (by decide) ?_
        refine Go_ireturn (ty := .int) dX12_back_40 rfl rfl ?_
        exact k
    · have hr := fun a b => hc (ecr.2 ⟨a, b⟩)
      refine PairI.ro' (fun _ => iZ (-1000000000)) h I (fun K k => ?_) (fun K k => ?_)
      · show Go G 60 0 0 M_X11_back 0 [.ref 64, .int (iZ (j : Int)), .int (iZ Bz), un] [] h K
        refine Go_aload_n (pc' := 1) dX11_back_0 rfl rfl rfl ?_
        refine Go_iload_n (pc' := 2) dX11_back_1 rfl rfl rfl ?_
        refine Go_callV_r (pc' := 5) (As := [.int _]) (st := []) dX11_back_2 rfl ok_X11_cellarOf km_RX11_90 (I.S.o 64 rfl rfl rfl) (I.S.b 64 rfl rfl) ⟨_, _, rfl⟩ rfl (Nat.le_of_ble_eq_true rfl) rfl rfl rfl (Nat.le_of_ble_eq_true rfl) (Nat.lt_succ_self _) ?_
        refine Go_iload_n (pc' := 1) dX11_cellarOf_0 rfl rfl rfl ?_
        refine Go_iconst (v := iZ 0) (pc' := 2) dX11_cellarOf_1 rfl (by decide) ?_
        refine Go_aload_n (pc' := 3) dX11_cellarOf_2 rfl rfl rfl ?_
        refine Go_getIv (v := (iZ (nc : Int))) (pc' := 6) dX11_cellarOf_3 rfl kf_RX11_84 (by decide) (by decide) rfl (I.S.b 64 rfl rfl) (I.S.o 64 rfl rfl rfl) (ec2) ?_
        refine Go_iconst (v := iZ 1) (pc' := 7) dX11_cellarOf_6 rfl (by decide) ?_
        refine Go_isubZ (pc' := 8) dX11_cellarOf_7 rfl ?_
        refine Go_callS_i (pc' := 11) (As := [.int _, .int _, .int _]) (st := []) dX11_cellarOf_8 rfl ok_X11_within km_RX11_94 rfl (Nat.le_of_ble_eq_true rfl) rfl rfl rfl (Nat.le_of_ble_eq_true rfl) (Nat.lt_succ_self _) ?_
        refine s_withinY (by first | exact ⟨i_lo _, i_hi _⟩ | omega) (by first | exact ⟨i_lo _, i_hi _⟩ | omega) (by first | exact ⟨i_lo _, i_hi _⟩ | omega) ?_
        refine ⟨_, rfl, ?_⟩
        refine Go_if_eqb (tgt := 32) (pc' := 14) dX11_cellarOf_11 (by decide) rfl (fun q11 => by exfalso; omega) (fun q11 => ?_)
        refine Go_iload_n (pc' := 15) dX11_cellarOf_14 rfl rfl rfl ?_
        refine Go_aload_n (pc' := 16) dX11_cellarOf_15 rfl rfl rfl ?_
        refine Go_getRs (pc' := 19) dX11_cellarOf_16 rfl kf_RX11_18 (by decide) (by decide) rfl (I.S.b 64 rfl rfl) (I.S.o 64 rfl rfl rfl) (I.S.r 64 1 rfl rfl rfl) ?_
        refine Go_alenZ (n := 6) (pc' := 20) dX11_cellarOf_19 rfl (I.S.b 67 rfl rfl) (I.S.k 67 rfl rfl rfl) (Or.inr (Or.inr ⟨_, rfl⟩)) ?_
        refine Go_icmp_geY (tgt := 32) (pc' := 23) dX11_cellarOf_20 (by decide) rfl (by first | exact ⟨i_lo _, i_hi _⟩ | omega) (by first | exact ⟨i_lo _, i_hi _⟩ | omega) (fun q20 => by exfalso; omega) (fun q20 => ?_)
        refine Go_aload_n (pc' := 24) dX11_cellarOf_23 rfl rfl rfl ?_
        refine Go_getRs (pc' := 27) dX11_cellarOf_24 rfl kf_RX11_18 (by decide) (by decide) rfl (I.S.b 64 rfl rfl) (I.S.o 64 rfl rfl rfl) (I.S.r 64 1 rfl rfl rfl) ?_
        refine Go_iload_n (pc' := 28) dX11_cellarOf_27 rfl rfl rfl ?_
        refine Go_aaloadZ (n := 6) (k := j) (pc' := 29) dX11_cellarOf_28 rfl (I.S.b 67 rfl rfl) (I.S.k 67 rfl rfl rfl) rfl rfl (by omega) (by decide) ho ?_
        refine Go_goto (tgt := 33) dX11_cellarOf_29 (by decide) ?_
        refine Go_areturn (r := some _) dX11_cellarOf_33 rfl ?_
        refine ⟨some _, rfl, ?_⟩
        refine Go_astore_n (pc' := 6) (lv' := [.ref _, .int _, .int _, .ref _]) dX11_back_5 rfl rfl (Nat.le_of_ble_eq_true rfl) rfl rfl ?_
        refine Go_aload_n (pc' := 7) dX11_back_6 rfl rfl rfl ?_
        refine Go_ifnull (pc' := 10) dX11_back_7 rfl ?_
        refine Go_iload_n (pc' := 11) dX11_back_10 rfl rfl rfl ?_
        refine Go_iconst (v := iZ 2) (pc' := 12) dX11_back_11 rfl (by decide) ?_
        refine Go_sipush (v := iZ 199) (pc' := 15) dX11_back_12 rfl (by decide) ?_
        refine Go_callS_i (pc' := 18) (As := [.int _, .int _, .int _]) (st := []) dX11_back_15 rfl ok_X11_within km_RX11_94 rfl (Nat.le_of_ble_eq_true rfl) rfl rfl rfl (Nat.le_of_ble_eq_true rfl) (Nat.lt_succ_self _) ?_
        refine s_withinY (by first | exact ⟨i_lo _, i_hi _⟩ | omega) (by first | exact ⟨i_lo _, i_hi _⟩ | omega) (by first | exact ⟨i_lo _, i_hi _⟩ | omega) ?_
        refine ⟨_, rfl, ?_⟩
        refine Go_if_eqb (tgt := 32) (pc' := 21) dX11_back_18 (by decide) rfl (fun c18 => ?_) (fun c18 => ?_)
        · refine Go_ldcZ (X := (-1000000000)) (pc' := 34) dX11_back_32 rfl kn_RX11_110 (by decide) ?_
          refine Go_ireturn (ty := .int) dX11_back_34 rfl rfl ?_
          exact k
        · refine Go_aload_n (pc' := 22) dX11_back_21 rfl rfl rfl ?_
          refine Go_iload_n (pc' := 23) dX11_back_22 rfl rfl rfl ?_
          refine Go_iconst (v := iZ 2) (pc' := 24) dX11_back_23 rfl (by decide) ?_
          refine Go_isubZ (pc' := 25) dX11_back_24 rfl ?_
          refine Go_iload_n (pc' := 26) dX11_back_25 rfl rfl rfl ?_
          refine Go_callV_i (pc' := 29) (As := [.int _, .int _]) (st := []) dX11_back_26 rfl ok_X2_isReadable km_RX11_140 CS.o CS.b ⟨_, _, rfl⟩ rfl (Nat.le_of_ble_eq_true rfl) rfl rfl rfl (Nat.le_of_ble_eq_true rfl) (Nat.lt_succ_self _) ?_
          refine s_rb M (by omega) (by omega) ?_
          refine ⟨_, rfl, ?_⟩
          refine Go_if_neb (tgt := 35) (pc' := 32) dX11_back_29 (by decide) rfl (fun c29 => by exact absurd c29 (hr (by omega))) (fun c29 => ?_)
          refine Go_ldcZ (X := (-1000000000)) (pc' := 34) dX11_back_32 rfl kn_RX11_110 (by decide) ?_
          refine Go_ireturn (ty := .int) dX11_back_34 rfl rfl ?_
          exact k
      · show Go G 60 0 0 M_X12_back 0 [.ref 99, .int (iZ (j : Int)), .int (iZ Bz)] [] h K
        refine Go_aload_n (pc' := 1) dX12_back_0 rfl rfl rfl ?_
        refine Go_iload_n (pc' := 2) dX12_back_1 rfl rfl rfl ?_
        refine Go_callV_i (pc' := 5) (As := [.int _]) (st := []) dX12_back_2 rfl ok_X12_isCellar km_RX12_158 (I.S.o 99 rfl rfl rfl) (I.S.b 99 rfl rfl) ⟨_, _, rfl⟩ rfl (Nat.le_of_ble_eq_true rfl) rfl rfl rfl (Nat.le_of_ble_eq_true rfl) (Nat.lt_succ_self _) ?_
        refine Go_iload_n (pc' := 1) dX12_isCellar_0 rfl rfl rfl ?_
        refine Go_iconst (v := iZ 0) (pc' := 2) dX12_isCellar_1 rfl (by decide) ?_
        refine Go_aload_n (pc' := 3) dX12_isCellar_2 rfl rfl rfl ?_
        refine Go_getIv (v := (iZ (nc : Int))) (pc' := 6) dX12_isCellar_3 rfl kf_RX12_151 (by decide) (by decide) rfl (I.S.b 99 rfl rfl) (I.S.o 99 rfl rfl rfl) (ec0) ?_
        refine Go_iconst (v := iZ 1) (pc' := 7) dX12_isCellar_6 rfl (by decide) ?_
        refine Go_isubZ (pc' := 8) dX12_isCellar_7 rfl ?_
        refine Go_callS_i (pc' := 11) (As := [.int _, .int _, .int _]) (st := []) dX12_isCellar_8 rfl ok_X12_isIn km_RX12_147 rfl (Nat.le_of_ble_eq_true rfl) rfl rfl rfl (Nat.le_of_ble_eq_true rfl) (Nat.lt_succ_self _) ?_
        refine s_isInY (by first | exact ⟨i_lo _, i_hi _⟩ | omega) (by first | exact ⟨i_lo _, i_hi _⟩ | omega) (by first | exact ⟨i_lo _, i_hi _⟩ | omega) ?_
        refine ⟨_, rfl, ?_⟩
        refine Go_ireturn (ty := .boolean) dX12_isCellar_11 rfl b2i_nb ?_
        refine ⟨_, rfl, ?_⟩
        refine Go_if_eqb (tgt := 38) (pc' := 8) dX12_back_5 (by decide) rfl (fun c5 => by exfalso; omega) (fun c5 => ?_)
        refine Go_aload_n (pc' := 9) dX12_back_8 rfl rfl rfl ?_
        refine Go_iload_n (pc' := 10) dX12_back_9 rfl rfl rfl ?_
        refine Go_iload_n (pc' := 11) dX12_back_10 rfl rfl rfl ?_
        refine Go_callV_i (pc' := 14) (As := [.int _, .int _]) (st := []) dX12_back_11 rfl ok_X12_canRead km_RX12_173 (I.S.o 99 rfl rfl rfl) (I.S.b 99 rfl rfl) ⟨_, _, rfl⟩ rfl (Nat.le_of_ble_eq_true rfl) rfl rfl rfl (Nat.le_of_ble_eq_true rfl) (Nat.lt_succ_self _) ?_
        refine s_cr S M (by omega) ?_
        refine ⟨_, rfl, ?_⟩
        refine Go_if_eqb (tgt := 38) (pc' := 17) dX12_back_14 (by decide) rfl (fun c14 => ?_) (fun c14 => by exact absurd c14 hc)
        refine Go_ldcZ (X := (-1000000000)) (pc' := 40) dX12_back_38 rfl kn_RX12_162 (by decide) ?_
        refine Go_ireturn (ty := .int) dX12_back_40 rfl rfl ?_
        exact k
  · refine PairI.ro' (fun _ => iZ (-1000000000)) h I (fun K k => ?_) (fun K k => ?_)
    · show Go G 60 0 0 M_X11_back 0 [.ref 64, .int (iZ Az), .int (iZ Bz), un] [] h K
      refine Go_aload_n (pc' := 1) dX11_back_0 rfl rfl rfl ?_
      refine Go_iload_n (pc' := 2) dX11_back_1 rfl rfl rfl ?_
      refine Go_callV_r (pc' := 5) (As := [.int _]) (st := []) dX11_back_2 rfl ok_X11_cellarOf km_RX11_90 (I.S.o 64 rfl rfl rfl) (I.S.b 64 rfl rfl) ⟨_, _, rfl⟩ rfl (Nat.le_of_ble_eq_true rfl) rfl rfl rfl (Nat.le_of_ble_eq_true rfl) (Nat.lt_succ_self _) ?_
      refine Go_iload_n (pc' := 1) dX11_cellarOf_0 rfl rfl rfl ?_
      refine Go_iconst (v := iZ 0) (pc' := 2) dX11_cellarOf_1 rfl (by decide) ?_
      refine Go_aload_n (pc' := 3) dX11_cellarOf_2 rfl rfl rfl ?_
      refine Go_getIv (v := (iZ (nc : Int))) (pc' := 6) dX11_cellarOf_3 rfl kf_RX11_84 (by decide) (by decide) rfl (I.S.b 64 rfl rfl) (I.S.o 64 rfl rfl rfl) (ec2) ?_
      refine Go_iconst (v := iZ 1) (pc' := 7) dX11_cellarOf_6 rfl (by decide) ?_
      refine Go_isubZ (pc' := 8) dX11_cellarOf_7 rfl ?_
      refine Go_callS_i (pc' := 11) (As := [.int _, .int _, .int _]) (st := []) dX11_cellarOf_8 rfl ok_X11_within km_RX11_94 rfl (Nat.le_of_ble_eq_true rfl) rfl rfl rfl (Nat.le_of_ble_eq_true rfl) (Nat.lt_succ_self _) ?_
      refine s_withinY (by first | exact ⟨i_lo _, i_hi _⟩ | omega) (by first | exact ⟨i_lo _, i_hi _⟩ | omega) (by first | exact ⟨i_lo _, i_hi _⟩ | omega) ?_
      refine ⟨_, rfl, ?_⟩
      refine Go_if_eqb (tgt := 32) (pc' := 14) dX11_cellarOf_11 (by decide) rfl (fun q11 => ?_) (fun q11 => by exfalso; omega)
      refine Go_null (pc' := 33) dX11_cellarOf_32 rfl ?_
      refine Go_areturn (r := none) dX11_cellarOf_33 rfl ?_
      refine ⟨none, rfl, ?_⟩
      refine Go_astore_nN (pc' := 6) (lv' := [.ref _, .int _, .int _, .null]) dX11_back_5 rfl rfl (Nat.le_of_ble_eq_true rfl) rfl rfl ?_
      refine Go_aload_nN (pc' := 7) dX11_back_6 rfl rfl rfl ?_
      refine Go_ifnullN (tgt := 32) dX11_back_7 (by decide) ?_
      refine Go_ldcZ (X := (-1000000000)) (pc' := 34) dX11_back_32 rfl kn_RX11_110 (by decide) ?_
      refine Go_ireturn (ty := .int) dX11_back_34 rfl rfl ?_
      exact k
    · show Go G 60 0 0 M_X12_back 0 [.ref 99, .int (iZ Az), .int (iZ Bz)] [] h K
      refine Go_aload_n (pc' := 1) dX12_back_0 rfl rfl rfl ?_
      refine Go_iload_n (pc' := 2) dX12_back_1 rfl rfl rfl ?_
      refine Go_callV_i (pc' := 5) (As := [.int _]) (st := []) dX12_back_2 rfl ok_X12_isCellar km_RX12_158 (I.S.o 99 rfl rfl rfl) (I.S.b 99 rfl rfl) ⟨_, _, rfl⟩ rfl (Nat.le_of_ble_eq_true rfl) rfl rfl rfl (Nat.le_of_ble_eq_true rfl) (Nat.lt_succ_self _) ?_
      refine Go_iload_n (pc' := 1) dX12_isCellar_0 rfl rfl rfl ?_
      refine Go_iconst (v := iZ 0) (pc' := 2) dX12_isCellar_1 rfl (by decide) ?_
      refine Go_aload_n (pc' := 3) dX12_isCellar_2 rfl rfl rfl ?_
      refine Go_getIv (v := (iZ (nc : Int))) (pc' := 6) dX12_isCellar_3 rfl kf_RX12_151 (by decide) (by decide) rfl (I.S.b 99 rfl rfl) (I.S.o 99 rfl rfl rfl) (ec0) ?_
      refine Go_iconst (v := iZ 1) (pc' := 7) dX12_isCellar_6 rfl (by decide) ?_
      refine Go_isubZ (pc' := 8) dX12_isCellar_7 rfl ?_
      refine Go_callS_i (pc' := 11) (As := [.int _, .int _, .int _]) (st := []) dX12_isCellar_8 rfl ok_X12_isIn km_RX12_147 rfl (Nat.le_of_ble_eq_true rfl) rfl rfl rfl (Nat.le_of_ble_eq_true rfl) (Nat.lt_succ_self _) ?_
      refine s_isInY (by first | exact ⟨i_lo _, i_hi _⟩ | omega) (by first | exact ⟨i_lo _, i_hi _⟩ | omega) (by first | exact ⟨i_lo _, i_hi _⟩ | omega) ?_
      refine ⟨_, rfl, ?_⟩
      refine Go_ireturn (ty := .boolean) dX12_isCellar_11 rfl b2i_nb ?_
      refine ⟨_, rfl, ?_⟩
      refine Go_if_eqb (tgt := 38) (pc' := 8) dX12_back_5 (by decide) rfl (fun c5 => ?_) (fun c5 => by exfalso; omega)
      refine Go_ldcZ (X := (-1000000000)) (pc' := 40) dX12_back_38 rfl kn_RX12_162 (by decide) ?_
      refine Go_ireturn (ty := .int) dX12_back_40 rfl rfl ?_
      exact k
