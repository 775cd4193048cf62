/-! pairs: time, mark -/
abbrev lZ (X : Int) : Int64 := Int64.ofInt X
theorem lZ_t {X : Int} (h : -9223372036854775808 ≤ X ∧ X < 9223372036854775808) : (lZ X).toInt = X := Int64.toInt_ofInt_of_le h.1 h.2
theorem i2l_Z {X : Int} (h : -2147483648 ≤ X ∧ X < 2147483648) : (iZ X).toInt64 = lZ X := by
  apply Int64.toInt_inj.1
  rw [lZ_t (by omega), Int32.toInt_toInt64, iZ_t h]
def cmpz (X Y : Int) : Int := if Y < X then 1 else if X = Y then 0 else -1
theorem cmpz_0 (X Y : Int) : (cmpz X Y = 0 ↔ X = Y) ∧ -1 ≤ cmpz X Y ∧ cmpz X Y ≤ 1 := by
  unfold cmpz
  split
  · omega
  · split <;> omega
theorem lcmp_Z {X Y : Int} (hX : -9223372036854775808 ≤ X ∧ X < 9223372036854775808) (hY : -9223372036854775808 ≤ Y ∧ Y < 9223372036854775808) : lg_cmp (lZ X) (lZ Y) = iZ (cmpz X Y) := by
  have h1 : (lZ X > lZ Y) ↔ Y < X := by rw [GT.gt, Int64.lt_iff_toInt_lt, lZ_t hX, lZ_t hY]
  have h2 : (lZ X = lZ Y) ↔ X = Y := by rw [← Int64.toInt_inj, lZ_t hX, lZ_t hY]
  unfold lg_cmp cmpz
  by_cases e : Y < X
  · rw [if_pos (h1.2 e), if_pos e]; decide
  · rw [if_neg (fun z => e (h1.1 z)), if_neg e]
    by_cases e1 : X = Y
    · rw [if_pos (h2.2 e1), if_pos e1]; decide
    · rw [if_neg (fun z => e1 (h2.1 z)), if_neg e1]; decide
section
variable {G : GC} {d mc ms : Nat} {M : MI} {pc pc' tgt : Nat} {lv lv' st : List Value} {h : HS} {K : Option Value → HS → Prop} {X Y : Int}
theorem Go_i2lZ (hd : decode M.2.2.1 pc = .ok (.i2l, 1)) (hp : pc + 1 = pc') (hX : -2147483648 ≤ X ∧ X < 2147483648) (k : Go G d mc ms M pc' lv (.long (lZ X) :: st) h K) : Go G d mc ms M pc lv (.int (iZ X) :: st) h K := Go_i2l hd hp (by rw [i2l_Z hX]; exact k)
theorem Go_laddZ (hd : decode M.2.2.1 pc = .ok (.ladd, 1)) (hp : pc + 1 = pc') (k : Go G d mc ms M pc' lv (.long (lZ (X + Y)) :: st) h K) : Go G d mc ms M pc lv (.long (lZ Y) :: .long (lZ X) :: st) h K := Go_ladd hd hp (by rw [← Int64.ofInt_add]; exact k)
theorem Go_lmulZ (hd : decode M.2.2.1 pc = .ok (.lmul, 1)) (hp : pc + 1 = pc') (k : Go G d mc ms M pc' lv (.long (lZ (X * Y)) :: st) h K) : Go G d mc ms M pc lv (.long (lZ Y) :: .long (lZ X) :: st) h K := Go_lmul hd hp (by rw [← Int64.ofInt_mul]; exact k)
theorem Go_ldivP (hd : decode M.2.2.1 pc = .ok (.ldiv, 1)) (hp : pc + 1 = pc') (hX : 0 ≤ X ∧ X < 9223372036854775808) (hY : 0 < Y ∧ Y < 9223372036854775808) (k : Go G d mc ms M pc' lv (.long (lZ (X / Y)) :: st) h K) : Go G d mc ms M pc lv (.long (lZ Y) :: .long (lZ X) :: st) h K := by
  refine Go_ldiv hd hp (fun e => ?_) ?_
  · have e1 := congrArg Int64.toInt e
    rw [lZ_t (by omega)] at e1
    have : (0 : Int64).toInt = 0 := rfl
    omega
  · have e : lZ X / lZ Y = lZ (X / Y) := by
      apply Int64.toInt_inj.1
      have hb : 0 ≤ X / Y ∧ X / Y ≤ X := ⟨Int.ediv_nonneg hX.1 (by omega), Int.ediv_le_self _ hX.1⟩
      rw [lZ_t (by omega), Int64.toInt_div, lZ_t (by omega), lZ_t (by omega), Int.tdiv_eq_ediv_of_nonneg hX.1]
      exact Int.bmod_eq_of_le (by omega) (by omega)
    rw [e]; exact k
theorem Go_ldc2Z {i : Nat} {v : Int64} (hd : decode M.2.2.1 pc = .ok (.ldc2_w i, 3)) (hp : pc + 3 = pc') (hw : Cond.constantLong M.1 i v ∈ Tg) (hv : v = lZ X) (k : Go G d mc ms M pc' lv (.long (lZ X) :: st) h K) : Go G d mc ms M pc lv st h K := Go_ldc2 hd hp hw (by rw [hv]; exact k)
theorem Go_lcmpZ (hd : decode M.2.2.1 pc = .ok (.lcmp, 1)) (hp : pc + 1 = pc') (hX : -9223372036854775808 ≤ X ∧ X < 9223372036854775808) (hY : -9223372036854775808 ≤ Y ∧ Y < 9223372036854775808) (k : Go G d mc ms M pc' lv (.int (iZ (cmpz X Y)) :: st) h K) : Go G d mc ms M pc lv (.long (lZ Y) :: .long (lZ X) :: st) h K := Go_lcmp hd hp (by rw [lcmp_Z hX hY]; exact k)
end
/-- the marks -/
def ma (h : HS) (o k : Nat) : Int := (vi h (o + 2) k).toInt
def mi (h : HS) (o k : Nat) : Int := (vi h (o + 3) k).toInt
def Mks (h : HS) (j o m : Nat) : Prop := m ≤ 40 ∧ vi h o 11 = iZ (m : Int) ∧ vi h 110 j = iZ (m : Int) ∧ (∀ i, i < m → (vi h 108 (40 * j + i) = iZ (ma h o i) ∧ (0 ≤ ma h o i ∧ ma h o i ≤ 199)) ∧ (vi h 109 (40 * j + i) = iZ (mi h o i) ∧ (0 ≤ mi h o i ∧ mi h o i ≤ 9999))) ∧ ∀ i, i + 1 < m → ma h o i < ma h o (i + 1) ∧ mi h o i < mi h o (i + 1)
theorem mks_of {h : HS} {j o : Nat} (E : CelE h o j) : ∃ m, Mks h j o m := by
  obtain ⟨⟨e1, e2⟩, e3, e4⟩ := E
  obtain ⟨m, hm, em⟩ := of_rgZ (b := 40) e2
  have ez : (vi h o 11).toInt = (m : Int) := by rw [em, iZ_t (by omega)]
  rw [ez] at e3 e4
  refine ⟨m, hm, em, e1.symm.trans em, fun i hi => ?_, fun i hi => e4 i (by omega)⟩
  have := e3 i (by omega)
  exact ⟨⟨this.1.1.symm.trans (vi_eta _ _ _), this.1.2⟩, this.2.1.symm.trans (vi_eta _ _ _), this.2.2⟩
def cks (h : HS) (o : Nat) (X : Int) : Nat → Nat → Int
  | 0, _ => -1
  | m + 1, k => if ma h o k ≤ X ∧ X < ma h o (k + 1) then 60 * mi h o k + (X - ma h o k) * 60 * (mi h o (k + 1) - mi h o k) / (ma h o (k + 1) - ma h o k) else cks h o X m (k + 1)
theorem cks_t {h : HS} {o : Nat} {X : Int} {m k : Nat} (e : ma h o k ≤ X ∧ X < ma h o (k + 1)) : cks h o X (m + 1) k = 60 * mi h o k + (X - ma h o k) * 60 * (mi h o (k + 1) - mi h o k) / (ma h o (k + 1) - ma h o k) := by show (if _ then _ else _) = _; rw [if_pos e]
theorem cks_f {h : HS} {o : Nat} {X : Int} {m k : Nat} (e : ¬ (ma h o k ≤ X ∧ X < ma h o (k + 1))) : cks h o X (m + 1) k = cks h o X m (k + 1) := by show (if _ then _ else _) = _; rw [if_neg e]
theorem mulb {U V g : Int} (hU : 0 ≤ U ∧ U ≤ 199) (hV : 0 ≤ V ∧ V ≤ 9999) (hg : U < g) : (0 ≤ U * 60 * V ∧ U * 60 * V ≤ 119388060) ∧ (0 ≤ U * 60 * V / g ∧ U * 60 * V / g ≤ 60 * V) := by
  have h0 : 0 ≤ U * 60 * V := Int.mul_nonneg (by omega) hV.1
  have h1 : U * 60 * V ≤ U * 60 * 9999 := Int.mul_le_mul_of_nonneg_left hV.2 (by omega)
  refine ⟨⟨h0, by omega⟩, Int.ediv_nonneg h0 (by omega), Int.ediv_le_of_le_mul (by omega) ?_⟩
  have h2 : U * (60 * V) ≤ g * (60 * V) := Int.mul_le_mul_of_nonneg_right (by omega) (by omega)
  rw [Int.mul_assoc, Int.mul_comm (60 * V) g]; exact h2
theorem cks_r {h : HS} {j o n : Nat} {X : Int} (Q : Mks h j o n) : ∀ (m k : Nat), k + m = n - 1 → cks h o X m k = -1 ∨ (0 ≤ cks h o X m k ∧ cks h o X m k ≤ 599940)
  | 0, k, _ => Or.inl rfl
  | m + 1, k, hm => by
    by_cases e : ma h o k ≤ X ∧ X < ma h o (k + 1)
    · rw [cks_t e]
      have a := Q.2.2.2.1 k (by omega)
      have b := Q.2.2.2.1 (k + 1) (by omega)
      have c := Q.2.2.2.2 k (by omega)
      have := mulb (U := X - ma h o k) (V := mi h o (k + 1) - mi h o k) (g := ma h o (k + 1) - ma h o k) (by omega) (by omega) (by omega)
      omega
    · rw [cks_f e]; exact cks_r Q m (k + 1) (by omega)

set_option maxRecDepth 20000 in
set_option maxHeartbeats 1000000 in
theorem ckc_loop {G : GC} {d mc ms : Nat} {h : HS} {K : Option Value → HS → Prop} {j o n : Nat} {X : Int} (S : Shp h) (CS : CelS h o) (hj6 : j < 6) (Q : Mks h j o n) (hX : -2147483648 ≤ X ∧ X < 2147483648) : ∀ (m k : Nat) (v3 v4 : Value), k + m = n - 1 → K (some (.int (iZ (cks h o X m k)))) h → Go G (d + 1) mc ms M_X2_clockSeconds 2 [.ref o, .int (iZ X), .int (iZ (k : Int)), v3, v4] [] h K := by
  have hn := Q.1
  have hq0 := CS.1
  intro m
  induction m with
  | zero =>
    intro k v3 v4 hm hk
    refine Go_iload_n (pc' := 3) dX2_clockSeconds_2 rfl rfl rfl ?_
    refine Go_iconst (v := iZ 1) (pc' := 4) dX2_clockSeconds_3 rfl (by decide) ?_
    refine Go_iaddZ (pc' := 5) dX2_clockSeconds_4 rfl ?_
    refine Go_aload_n (pc' := 6) dX2_clockSeconds_5 rfl rfl rfl ?_
    refine Go_getIv (v := (iZ (n : Int))) (pc' := 9) dX2_clockSeconds_6 rfl kf_RX2_61 (by decide) (by decide) rfl CS.b CS.o (Q.2.1) ?_
    refine Go_icmp_geY (tgt := 106) (pc' := 12) dX2_clockSeconds_9 (by decide) rfl (by first | exact ⟨i_lo _, i_hi _⟩ | omega) (by first | exact ⟨i_lo _, i_hi _⟩ | omega) (fun c9 => ?_) (fun c9 => by exfalso; omega)
    refine Go_iconst (v := iZ (-1)) (pc' := 107) dX2_clockSeconds_106 rfl (by decide) ?_
    refine Go_ireturn (ty := .int) dX2_clockSeconds_107 rfl rfl ?_
    exact hk
  | succ m ih =>
    intro k v3 v4 hm hk
    have a := Q.2.2.2.1 k (by omega)
    have b := Q.2.2.2.1 (k + 1) (by omega)
    have c := Q.2.2.2.2 k (by omega)
    refine Go_iload_n (pc' := 3) dX2_clockSeconds_2 rfl rfl rfl ?_
    refine Go_iconst (v := iZ 1) (pc' := 4) dX2_clockSeconds_3 rfl (by decide) ?_
    refine Go_iaddZ (pc' := 5) dX2_clockSeconds_4 rfl ?_
    refine Go_aload_n (pc' := 6) dX2_clockSeconds_5 rfl rfl rfl ?_
    refine Go_getIv (v := (iZ (n : Int))) (pc' := 9) dX2_clockSeconds_6 rfl kf_RX2_61 (by decide) (by decide) rfl CS.b CS.o (Q.2.1) ?_
    refine Go_icmp_geY (tgt := 106) (pc' := 12) dX2_clockSeconds_9 (by decide) rfl (by first | exact ⟨i_lo _, i_hi _⟩ | omega) (by first | exact ⟨i_lo _, i_hi _⟩ | omega) (fun c9 => by exfalso; omega) (fun c9 => ?_)
    refine Go_aload_n (pc' := 13) dX2_clockSeconds_12 rfl rfl rfl ?_
    refine Go_getRs (pc' := 16) dX2_clockSeconds_13 rfl kf_RX2_31 (by decide) (by decide) rfl CS.b CS.o CS.r9 ?_
    refine Go_iload_n (pc' := 17) dX2_clockSeconds_16 rfl rfl rfl ?_
    refine Go_iconst (v := iZ 1) (pc' := 18) dX2_clockSeconds_17 rfl (by decide) ?_
    refine Go_iaddZ (pc' := 19) dX2_clockSeconds_18 rfl ?_
    refine Go_ialoadZ (n := 40) (k := (k + 1)) (v := (iZ (ma h o (k + 1)))) (pc' := 20) dX2_clockSeconds_19 rfl CS.b2 CS.k2 (by omega) (by omega) (by decide) (vi_eta _ _ _) ?_
    refine Go_aload_n (pc' := 21) dX2_clockSeconds_20 rfl rfl rfl ?_
    refine Go_getRs (pc' := 24) dX2_clockSeconds_21 rfl kf_RX2_31 (by decide) (by decide) rfl CS.b CS.o CS.r9 ?_
    refine Go_iload_n (pc' := 25) dX2_clockSeconds_24 rfl rfl rfl ?_
    refine Go_ialoadZ (n := 40) (k := k) (v := (iZ (ma h o k))) (pc' := 26) dX2_clockSeconds_25 rfl CS.b2 CS.k2 rfl (by omega) (by decide) (vi_eta _ _ _) ?_
    refine Go_isubZ (pc' := 27) dX2_clockSeconds_26 rfl ?_
    refine Go_istore_n (pc' := 28) (lv' := [.ref _, .int _, .int _, .int _, _]) dX2_clockSeconds_27 rfl rfl (Nat.le_of_ble_eq_true rfl) rfl rfl ?_
    refine Go_iload_n (pc' := 29) dX2_clockSeconds_28 rfl rfl rfl ?_
    refine Go_if_leY (tgt := 100) (pc' := 32) dX2_clockSeconds_29 (by decide) rfl (by first | exact ⟨i_lo _, i_hi _⟩ | omega) (fun c29 => by exfalso; omega) (fun c29 => ?_)
    refine Go_iload_n (pc' := 33) dX2_clockSeconds_32 rfl rfl rfl ?_
    refine Go_aload_n (pc' := 34) dX2_clockSeconds_33 rfl rfl rfl ?_
    refine Go_getRs (pc' := 37) dX2_clockSeconds_34 rfl kf_RX2_31 (by decide) (by decide) rfl CS.b CS.o CS.r9 ?_
    refine Go_iload_n (pc' := 38) dX2_clockSeconds_37 rfl rfl rfl ?_
    refine Go_ialoadZ (n := 40) (k := k) (v := (iZ (ma h o k))) (pc' := 39) dX2_clockSeconds_38 rfl CS.b2 CS.k2 rfl (by omega) (by decide) (vi_eta _ _ _) ?_
    refine Go_icmp_ltY (tgt := 100) (pc' := 42) dX2_clockSeconds_39 (by decide) rfl (by first | exact ⟨i_lo _, i_hi _⟩ | omega) (by first | exact ⟨i_lo _, i_hi _⟩ | omega) (fun c39 => ?_) (fun c39 => ?_)
    · refine Go_iincZ (pc' := 103) (lv' := [.ref _, .int _, .int _, .int _, _]) dX2_clockSeconds_100 rfl rfl (Nat.le_of_ble_eq_true rfl) rfl rfl ?_
      refine Go_goto (tgt := 2) dX2_clockSeconds_103 (by decide) ?_
      rw [cks_f (by omega)] at hk
      exact ih (k + 1) _ _ (by omega) hk
    · refine Go_iload_n (pc' := 43) dX2_clockSeconds_42 rfl rfl rfl ?_
      refine Go_aload_n (pc' := 44) dX2_clockSeconds_43 rfl rfl rfl ?_
      refine Go_getRs (pc' := 47) dX2_clockSeconds_44 rfl kf_RX2_31 (by decide) (by decide) rfl CS.b CS.o CS.r9 ?_
      refine Go_iload_n (pc' := 48) dX2_clockSeconds_47 rfl rfl rfl ?_
      refine Go_iconst (v := iZ 1) (pc' := 49) dX2_clockSeconds_48 rfl (by decide) ?_
      refine Go_iaddZ (pc' := 50) dX2_clockSeconds_49 rfl ?_
      refine Go_ialoadZ (n := 40) (k := (k + 1)) (v := (iZ (ma h o (k + 1)))) (pc' := 51) dX2_clockSeconds_50 rfl CS.b2 CS.k2 (by omega) (by omega) (by decide) (vi_eta _ _ _) ?_
      refine Go_icmp_geY (tgt := 100) (pc' := 54) dX2_clockSeconds_51 (by decide) rfl (by first | exact ⟨i_lo _, i_hi _⟩ | omega) (by first | exact ⟨i_lo _, i_hi _⟩ | omega) (fun c51 => ?_) (fun c51 => ?_)
      · refine Go_iincZ (pc' := 103) (lv' := [.ref _, .int _, .int _, .int _, _]) dX2_clockSeconds_100 rfl rfl (Nat.le_of_ble_eq_true rfl) rfl rfl ?_
        refine Go_goto (tgt := 2) dX2_clockSeconds_103 (by decide) ?_
        rw [cks_f (by omega)] at hk
        exact ih (k + 1) _ _ (by omega) hk
      · refine Go_aload_n (pc' := 55) dX2_clockSeconds_54 rfl rfl rfl ?_
        refine Go_getRs (pc' := 58) dX2_clockSeconds_55 rfl kf_RX2_34 (by decide) (by decide) rfl CS.b CS.o CS.r10 ?_
        refine Go_iload_n (pc' := 59) dX2_clockSeconds_58 rfl rfl rfl ?_
        refine Go_iconst (v := iZ 1) (pc' := 60) dX2_clockSeconds_59 rfl (by decide) ?_
        refine Go_iaddZ (pc' := 61) dX2_clockSeconds_60 rfl ?_
        refine Go_ialoadZ (n := 40) (k := (k + 1)) (v := (iZ (mi h o (k + 1)))) (pc' := 62) dX2_clockSeconds_61 rfl CS.b3 CS.k3 (by omega) (by omega) (by decide) (vi_eta _ _ _) ?_
        refine Go_aload_n (pc' := 63) dX2_clockSeconds_62 rfl rfl rfl ?_
        refine Go_getRs (pc' := 66) dX2_clockSeconds_63 rfl kf_RX2_34 (by decide) (by decide) rfl CS.b CS.o CS.r10 ?_
        refine Go_iload_n (pc' := 67) dX2_clockSeconds_66 rfl rfl rfl ?_
        refine Go_ialoadZ (n := 40) (k := k) (v := (iZ (mi h o k))) (pc' := 68) dX2_clockSeconds_67 rfl CS.b3 CS.k3 rfl (by omega) (by decide) (vi_eta _ _ _) ?_
        refine Go_isubZ (pc' := 69) dX2_clockSeconds_68 rfl ?_
        refine Go_istore (pc' := 71) (lv' := [.ref _, .int _, .int _, .int _, .int _]) dX2_clockSeconds_69 rfl (Nat.le_of_ble_eq_true rfl) rfl rfl ?_
        refine Go_bipush (v := iZ 60) (pc' := 73) dX2_clockSeconds_71 rfl (by decide) ?_
        refine Go_aload_n (pc' := 74) dX2_clockSeconds_73 rfl rfl rfl ?_
        refine Go_getRs (pc' := 77) dX2_clockSeconds_74 rfl kf_RX2_34 (by decide) (by decide) rfl CS.b CS.o CS.r10 ?_
        refine Go_iload_n (pc' := 78) dX2_clockSeconds_77 rfl rfl rfl ?_
        refine Go_ialoadZ (n := 40) (k := k) (v := (iZ (mi h o k))) (pc' := 79) dX2_clockSeconds_78 rfl CS.b3 CS.k3 rfl (by omega) (by decide) (vi_eta _ _ _) ?_
        refine Go_imulZ (pc' := 80) dX2_clockSeconds_79 rfl ?_
        refine Go_iload_n (pc' := 81) dX2_clockSeconds_80 rfl rfl rfl ?_
        refine Go_aload_n (pc' := 82) dX2_clockSeconds_81 rfl rfl rfl ?_
        refine Go_getRs (pc' := 85) dX2_clockSeconds_82 rfl kf_RX2_31 (by decide) (by decide) rfl CS.b CS.o CS.r9 ?_
        refine Go_iload_n (pc' := 86) dX2_clockSeconds_85 rfl rfl rfl ?_
        refine Go_ialoadZ (n := 40) (k := k) (v := (iZ (ma h o k))) (pc' := 87) dX2_clockSeconds_86 rfl CS.b2 CS.k2 rfl (by omega) (by decide) (vi_eta _ _ _) ?_
        refine Go_isubZ (pc' := 88) dX2_clockSeconds_87 rfl ?_
        refine Go_bipush (v := iZ 60) (pc' := 90) dX2_clockSeconds_88 rfl (by decide) ?_
        refine Go_imulZ (pc' := 91) dX2_clockSeconds_90 rfl ?_
        refine Go_iload (pc' := 93) dX2_clockSeconds_91 rfl rfl ?_
        refine Go_imulZ (pc' := 94) dX2_clockSeconds_93 rfl ?_
        have pb := mulb (U := X - ma h o k) (V := mi h o (k + 1) - mi h o k) (g := ma h o (k + 1) - ma h o k) (by omega) (by omega) (by omega)
        refine Go_iload_n (pc' := 95) dX2_clockSeconds_94 rfl rfl rfl ?_
        refine Go_callS_i (pc' := 98) (As := [.int _, .int _]) (st := [.int _]) dX2_clockSeconds_95 rfl ok_J9_floorDiv_7cf53 km_RX2_89 rfl (Nat.le_of_ble_eq_true rfl) rfl rfl rfl (Nat.le_of_ble_eq_true rfl) (Nat.lt_succ_self _) ?_
        refine s_fdivY (by omega) (by omega) ?_
        refine ⟨_, rfl, ?_⟩
        refine Go_iaddZ (pc' := 99) dX2_clockSeconds_98 rfl ?_
        refine Go_ireturn (ty := .int) dX2_clockSeconds_99 rfl rfl ?_
        rw [cks_t (by omega)] at hk; exact hk
set_option maxRecDepth 20000 in
set_option maxHeartbeats 1000000 in
theorem s_ckc {G : GC} {d mc ms : Nat} {h : HS} {K : Option Value → HS → Prop} {j o n : Nat} {X : Int} (S : Shp h) (CS : CelS h o) (hj6 : j < 6) (Q : Mks h j o n) (hX : -2147483648 ≤ X ∧ X < 2147483648) (hk : K (some (.int (iZ (cks h o X (n - 1) 0)))) h) : Go G (d + 1) mc ms M_X2_clockSeconds 0 [.ref o, .int (iZ X), un, un, un] [] h K := by
  refine Go_iconst (v := iZ 0) (pc' := 1) dX2_clockSeconds_0 rfl (by decide) ?_
  refine Go_istore_n (pc' := 2) (lv' := [.ref _, .int _, .int _, un, un]) dX2_clockSeconds_1 rfl rfl (Nat.le_of_ble_eq_true rfl) rfl rfl ?_
  exact ckc_loop S CS hj6 Q hX (n - 1) 0 _ _ (by omega) hk
set_option maxRecDepth 20000 in
set_option maxHeartbeats 1000000 in
theorem ckm_loop {G : GC} {d mc ms : Nat} {h : HS} {K : Option Value → HS → Prop} {j o n : Nat} {X : Int} (S : Shp h) (CS : CelS h o) (hj6 : j < 6) (Q : Mks h j o n) (hX : -2147483648 ≤ X ∧ X < 2147483648) : ∀ (m k : Nat) (v4 : Value), k + m = n - 1 → K (some (.int (iZ (cks h o X m k)))) h → Go G (d + 1) mc ms M_X12_secondsOf 2 [.ref 99, .int (iZ (j : Int)), .int (iZ X), .int (iZ ((k : Int) + 1)), v4] [] h K := by
  have hn := Q.1
  have hq0 := CS.1
  intro m
  induction m with
  | zero =>
    intro k v4 hm hk
    refine Go_iload_n (pc' := 3) dX12_secondsOf_2 rfl rfl rfl ?_
    refine Go_aload_n (pc' := 4) dX12_secondsOf_3 rfl rfl rfl ?_
    refine Go_getRs (pc' := 7) dX12_secondsOf_4 rfl kf_RX12_40 (by decide) (by decide) rfl (S.b 99 rfl rfl) (S.o 99 rfl rfl rfl) (S.r 99 11 rfl rfl rfl) ?_
    refine Go_iload_n (pc' := 8) dX12_secondsOf_7 rfl rfl rfl ?_
    refine Go_ialoadZ (n := 6) (k := j) (v := (iZ (n : Int))) (pc' := 9) dX12_secondsOf_8 rfl (S.b 110 rfl rfl) (S.k 110 rfl rfl rfl) rfl (by omega) (by decide) (Q.2.2.1) ?_
    refine Go_icmp_geY (tgt := 117) (pc' := 12) dX12_secondsOf_9 (by decide) rfl (by first | exact ⟨i_lo _, i_hi _⟩ | omega) (by first | exact ⟨i_lo _, i_hi _⟩ | omega) (fun c9 => ?_) (fun c9 => by exfalso; omega)
    refine Go_iconst (v := iZ (-1)) (pc' := 118) dX12_secondsOf_117 rfl (by decide) ?_
    refine Go_ireturn (ty := .int) dX12_secondsOf_118 rfl rfl ?_
    exact hk
  | succ m ih =>
    intro k v4 hm hk
    have a := Q.2.2.2.1 k (by omega)
    have b := Q.2.2.2.1 (k + 1) (by omega)
    have c := Q.2.2.2.2 k (by omega)
    refine Go_iload_n (pc' := 3) dX12_secondsOf_2 rfl rfl rfl ?_
    refine Go_aload_n (pc' := 4) dX12_secondsOf_3 rfl rfl rfl ?_
    refine Go_getRs (pc' := 7) dX12_secondsOf_4 rfl kf_RX12_40 (by decide) (by decide) rfl (S.b 99 rfl rfl) (S.o 99 rfl rfl rfl) (S.r 99 11 rfl rfl rfl) ?_
    refine Go_iload_n (pc' := 8) dX12_secondsOf_7 rfl rfl rfl ?_
    refine Go_ialoadZ (n := 6) (k := j) (v := (iZ (n : Int))) (pc' := 9) dX12_secondsOf_8 rfl (S.b 110 rfl rfl) (S.k 110 rfl rfl rfl) rfl (by omega) (by decide) (Q.2.2.1) ?_
    refine Go_icmp_geY (tgt := 117) (pc' := 12) dX12_secondsOf_9 (by decide) rfl (by first | exact ⟨i_lo _, i_hi _⟩ | omega) (by first | exact ⟨i_lo _, i_hi _⟩ | omega) (fun c9 => by exfalso; omega) (fun c9 => ?_)
    refine Go_bipush (v := iZ 40) (pc' := 14) dX12_secondsOf_12 rfl (by decide) ?_
    refine Go_iload_n (pc' := 15) dX12_secondsOf_14 rfl rfl rfl ?_
    refine Go_imulZ (pc' := 16) dX12_secondsOf_15 rfl ?_
    refine Go_iload_n (pc' := 17) dX12_secondsOf_16 rfl rfl rfl ?_
    refine Go_iaddZ (pc' := 18) dX12_secondsOf_17 rfl ?_
    refine Go_istore (pc' := 20) (lv' := [.ref _, .int _, .int _, .int _, .int _]) dX12_secondsOf_18 rfl (Nat.le_of_ble_eq_true rfl) rfl rfl ?_
    refine Go_iload_n (pc' := 21) dX12_secondsOf_20 rfl rfl rfl ?_
    refine Go_aload_n (pc' := 22) dX12_secondsOf_21 rfl rfl rfl ?_
    refine Go_getRs (pc' := 25) dX12_secondsOf_22 rfl kf_RX12_34 (by decide) (by decide) rfl (S.b 99 rfl rfl) (S.o 99 rfl rfl rfl) (S.r 99 9 rfl rfl rfl) ?_
    refine Go_iload (pc' := 27) dX12_secondsOf_25 rfl rfl ?_
    refine Go_iconst (v := iZ 1) (pc' := 28) dX12_secondsOf_27 rfl (by decide) ?_
    refine Go_isubZ (pc' := 29) dX12_secondsOf_28 rfl ?_
    refine Go_ialoadZ (n := 240) (k := (40 * j + k)) (v := (iZ (ma h o k))) (pc' := 30) dX12_secondsOf_29 rfl (S.b 108 rfl rfl) (S.k 108 rfl rfl rfl) (by omega) (by omega) (by decide) (a.1.1) ?_
    refine Go_icmp_ltY (tgt := 111) (pc' := 33) dX12_secondsOf_30 (by decide) rfl (by first | exact ⟨i_lo _, i_hi _⟩ | omega) (by first | exact ⟨i_lo _, i_hi _⟩ | omega) (fun c30 => ?_) (fun c30 => ?_)
    · refine Go_iincZ (pc' := 114) (lv' := [.ref _, .int _, .int _, .int _, .int _]) dX12_secondsOf_111 rfl rfl (Nat.le_of_ble_eq_true rfl) rfl rfl ?_
      refine Go_goto (tgt := 2) dX12_secondsOf_114 (by decide) ?_
      rw [cks_f (by omega)] at hk
      exact ih (k + 1) _ (by omega) hk
    · refine Go_iload_n (pc' := 34) dX12_secondsOf_33 rfl rfl rfl ?_
      refine Go_aload_n (pc' := 35) dX12_secondsOf_34 rfl rfl rfl ?_
      refine Go_getRs (pc' := 38) dX12_secondsOf_35 rfl kf_RX12_34 (by decide) (by decide) rfl (S.b 99 rfl rfl) (S.o 99 rfl rfl rfl) (S.r 99 9 rfl rfl rfl) ?_
      refine Go_iload (pc' := 40) dX12_secondsOf_38 rfl rfl ?_
      refine Go_ialoadZ (n := 240) (k := (40 * j + (k + 1))) (v := (iZ (ma h o (k + 1)))) (pc' := 41) dX12_secondsOf_40 rfl (S.b 108 rfl rfl) (S.k 108 rfl rfl rfl) (by omega) (by omega) (by decide) (b.1.1) ?_
      refine Go_icmp_ltY (tgt := 47) (pc' := 44) dX12_secondsOf_41 (by decide) rfl (by first | exact ⟨i_lo _, i_hi _⟩ | omega) (by first | exact ⟨i_lo _, i_hi _⟩ | omega) (fun c41 => ?_) (fun c41 => ?_)
      · refine Go_bipush (v := iZ 60) (pc' := 49) dX12_secondsOf_47 rfl (by decide) ?_
        refine Go_aload_n (pc' := 50) dX12_secondsOf_49 rfl rfl rfl ?_
        refine Go_getRs (pc' := 53) dX12_secondsOf_50 rfl kf_RX12_37 (by decide) (by decide) rfl (S.b 99 rfl rfl) (S.o 99 rfl rfl rfl) (S.r 99 10 rfl rfl rfl) ?_
        refine Go_iload (pc' := 55) dX12_secondsOf_53 rfl rfl ?_
        refine Go_iconst (v := iZ 1) (pc' := 56) dX12_secondsOf_55 rfl (by decide) ?_
        refine Go_isubZ (pc' := 57) dX12_secondsOf_56 rfl ?_
        refine Go_ialoadZ (n := 240) (k := (40 * j + k)) (v := (iZ (mi h o k))) (pc' := 58) dX12_secondsOf_57 rfl (S.b 109 rfl rfl) (S.k 109 rfl rfl rfl) (by omega) (by omega) (by decide) (a.2.1) ?_
        refine Go_imulZ (pc' := 59) dX12_secondsOf_58 rfl ?_
        refine Go_iload_n (pc' := 60) dX12_secondsOf_59 rfl rfl rfl ?_
        refine Go_aload_n (pc' := 61) dX12_secondsOf_60 rfl rfl rfl ?_
        refine Go_getRs (pc' := 64) dX12_secondsOf_61 rfl kf_RX12_34 (by decide) (by decide) rfl (S.b 99 rfl rfl) (S.o 99 rfl rfl rfl) (S.r 99 9 rfl rfl rfl) ?_
        refine Go_iload (pc' := 66) dX12_secondsOf_64 rfl rfl ?_
        refine Go_iconst (v := iZ 1) (pc' := 67) dX12_secondsOf_66 rfl (by decide) ?_
        refine Go_isubZ (pc' := 68) dX12_secondsOf_67 rfl ?_
        refine Go_ialoadZ (n := 240) (k := (40 * j + k)) (v := (iZ (ma h o k))) (pc' := 69) dX12_secondsOf_68 rfl (S.b 108 rfl rfl) (S.k 108 rfl rfl rfl) (by omega) (by omega) (by decide) (a.1.1) ?_
        refine Go_isubZ (pc' := 70) dX12_secondsOf_69 rfl ?_
        refine Go_bipush (v := iZ 60) (pc' := 72) dX12_secondsOf_70 rfl (by decide) ?_
        refine Go_imulZ (pc' := 73) dX12_secondsOf_72 rfl ?_
        refine Go_aload_n (pc' := 74) dX12_secondsOf_73 rfl rfl rfl ?_
        refine Go_getRs (pc' := 77) dX12_secondsOf_74 rfl kf_RX12_37 (by decide) (by decide) rfl (S.b 99 rfl rfl) (S.o 99 rfl rfl rfl) (S.r 99 10 rfl rfl rfl) ?_
        refine Go_iload (pc' := 79) dX12_secondsOf_77 rfl rfl ?_
        refine Go_ialoadZ (n := 240) (k := (40 * j + (k + 1))) (v := (iZ (mi h o (k + 1)))) (pc' := 80) dX12_secondsOf_79 rfl (S.b 109 rfl rfl) (S.k 109 rfl rfl rfl) (by omega) (by omega) (by decide) (b.2.1) ?_
        refine Go_aload_n (pc' := 81) dX12_secondsOf_80 rfl rfl rfl ?_
        refine Go_getRs (pc' := 84) dX12_secondsOf_81 rfl kf_RX12_37 (by decide) (by decide) rfl (S.b 99 rfl rfl) (S.o 99 rfl rfl rfl) (S.r 99 10 rfl rfl rfl) ?_
        refine Go_iload (pc' := 86) dX12_secondsOf_84 rfl rfl ?_
        refine Go_iconst (v := iZ 1) (pc' := 87) dX12_secondsOf_86 rfl (by decide) ?_
        refine Go_isubZ (pc' := 88) dX12_secondsOf_87 rfl ?_
        refine Go_ialoadZ (n := 240) (k := (40 * j + k)) (v := (iZ (mi h o k))) (pc' := 89) dX12_secondsOf_88 rfl (S.b 109 rfl rfl) (S.k 109 rfl rfl rfl) (by omega) (by omega) (by decide) (a.2.1) ?_
        refine Go_isubZ (pc' := 90) dX12_secondsOf_89 rfl ?_
        refine Go_imulZ (pc' := 91) dX12_secondsOf_90 rfl ?_
        have pb := mulb (U := X - ma h o k) (V := mi h o (k + 1) - mi h o k) (g := ma h o (k + 1) - ma h o k) (by omega) (by omega) (by omega)
        refine Go_aload_n (pc' := 92) dX12_secondsOf_91 rfl rfl rfl ?_
        refine Go_getRs (pc' := 95) dX12_secondsOf_92 rfl kf_RX12_34 (by decide) (by decide) rfl (S.b 99 rfl rfl) (S.o 99 rfl rfl rfl) (S.r 99 9 rfl rfl rfl) ?_
        refine Go_iload (pc' := 97) dX12_secondsOf_95 rfl rfl ?_
        refine Go_ialoadZ (n := 240) (k := (40 * j + (k + 1))) (v := (iZ (ma h o (k + 1)))) (pc' := 98) dX12_secondsOf_97 rfl (S.b 108 rfl rfl) (S.k 108 rfl rfl rfl) (by omega) (by omega) (by decide) (b.1.1) ?_
        refine Go_aload_n (pc' := 99) dX12_secondsOf_98 rfl rfl rfl ?_
        refine Go_getRs (pc' := 102) dX12_secondsOf_99 rfl kf_RX12_34 (by decide) (by decide) rfl (S.b 99 rfl rfl) (S.o 99 rfl rfl rfl) (S.r 99 9 rfl rfl rfl) ?_
        refine Go_iload (pc' := 104) dX12_secondsOf_102 rfl rfl ?_
        refine Go_iconst (v := iZ 1) (pc' := 105) dX12_secondsOf_104 rfl (by decide) ?_
        refine Go_isubZ (pc' := 106) dX12_secondsOf_105 rfl ?_
        refine Go_ialoadZ (n := 240) (k := (40 * j + k)) (v := (iZ (ma h o k))) (pc' := 107) dX12_secondsOf_106 rfl (S.b 108 rfl rfl) (S.k 108 rfl rfl rfl) (by omega) (by omega) (by decide) (a.1.1) ?_
        refine Go_isubZ (pc' := 108) dX12_secondsOf_107 rfl ?_
        refine Go_idivP (pc' := 109) dX12_secondsOf_108 rfl (by omega) (by omega) ?_
        refine Go_iaddZ (pc' := 110) dX12_secondsOf_109 rfl ?_
        refine Go_ireturn (ty := .int) dX12_secondsOf_110 rfl rfl ?_
        rw [cks_t (by omega)] at hk; exact hk
      · refine Go_goto (tgt := 111) dX12_secondsOf_44 (by decide) ?_
        refine Go_iincZ (pc' := 114) (lv' := [.ref _, .int _, .int _, .int _, .int _]) dX12_secondsOf_111 rfl rfl (Nat.le_of_ble_eq_true rfl) rfl rfl ?_
        refine Go_goto (tgt := 2) dX12_secondsOf_114 (by decide) ?_
        rw [cks_f (by omega)] at hk
        exact ih (k + 1) _ (by omega) hk
set_option maxRecDepth 20000 in
set_option maxHeartbeats 1000000 in
theorem s_ckm {G : GC} {d mc ms : Nat} {h : HS} {K : Option Value → HS → Prop} {j o n : Nat} {X : Int} (S : Shp h) (CS : CelS h o) (hj6 : j < 6) (Q : Mks h j o n) (hX : -2147483648 ≤ X ∧ X < 2147483648) (hk : K (some (.int (iZ (cks h o X (n - 1) 0)))) h) : Go G (d + 1) mc ms M_X12_secondsOf 0 [.ref 99, .int (iZ (j : Int)), .int (iZ X), un, un] [] h K := by
  refine Go_iconst (v := iZ 1) (pc' := 1) dX12_secondsOf_0 rfl (by decide) ?_
  refine Go_istore_n (pc' := 2) (lv' := [.ref _, .int _, .int _, .int _, un]) dX12_secondsOf_1 rfl rfl (Nat.le_of_ble_eq_true rfl) rfl rfl ?_
  exact ckm_loop S CS hj6 Q hX (n - 1) 0 _ (by omega) hk
theorem mul7 {U V : Int} (hU : 0 ≤ U ∧ U ≤ 600000) (hV : 0 ≤ V ∧ V ≤ 700) : 0 ≤ U * V ∧ U * V ≤ 420000000 := by
  have h0 : 0 ≤ U * V := Int.mul_nonneg hU.1 hV.1
  have h1 : U * V ≤ U * 700 := Int.mul_le_mul_of_nonneg_left hV.2 hU.1
  omega
set_option maxRecDepth 20000 in
set_option maxHeartbeats 1000000 in
theorem pair10 {G : GC} (a b c : Int32) : PairL G M_X11_time M_X12_time [.int a, .int b, .int c] := by
  intro h I
  obtain ⟨Az, hva, rfl⟩ := i_eta a
  obtain ⟨Bz, hvb, rfl⟩ := i_eta b
  obtain ⟨Cz, hvc, rfl⟩ := i_eta c
  obtain ⟨nc, hnc, ec2⟩ := of_rgZ (b := 6) I.C.1.2
  have ec0 : vi h 99 0 = iZ (nc : Int) := I.C.1.1.trans ec2
  have S := I.S
  by_cases hcc : 0 ≤ Az ∧ Az < nc
  · obtain ⟨j, rfl⟩ : ∃ j : Nat, Az = (j : Int) := ⟨Az.toNat, by omega⟩
    obtain ⟨o, ho, CS, CV⟩ := cel_ex I hnc ec2 (c := j) (by omega)
    obtain ⟨cA, cB, cC, cD, cE, cF, cG⟩ := CV
    obtain ⟨n, Q⟩ := mks_of cE
    have hj6 : j < 6 := by omega
    obtain ⟨⟨f1, f2⟩, ⟨f3, f4⟩, f5, f6⟩ := cF
    obtain ⟨s, hs⟩ : ∃ s, s = cks h o Bz (n - 1) 0 := ⟨_, rfl⟩
    have sr := cks_r (X := Bz) Q (n - 1) 0 (by omega)
    rw [← hs] at sr
    have e12 := vi_eta h o 12
    have e13 := vi_eta h o 13
    have e14 := vi_eta h o 14
    have g12 := f1.symm.trans e12
    have g13 := f3.symm.trans e13
    have g14 := f5.symm.trans e14
    unfold rg at f2 f4 f6
    generalize ht0 : (vi h o 12).toInt = t0 at *
    generalize ht1 : (vi h o 13).toInt = t1 at *
    generalize ht2 : (vi h o 14).toInt = t2 at *
    have cz := cmpz_0 s (-1)
    by_cases hw : ¬ (0 ≤ Cz ∧ Cz ≤ 2)
    · refine ⟨fun r h1 => r = lZ (-1) ∧ h1 = h, fun K k => ?_, ?_⟩
      · refine Go.more (d := 60) (mc := 0) (ms := 0) ?_ (by omega) (by omega) (by omega)
        have k := k _ h ⟨rfl, rfl⟩ I.S
        show Go G 60 0 0 M_X11_time 0 [.ref 64, .int (iZ (j : Int)), .int (iZ Bz), .int (iZ Cz), un, un] [] h K
        refine Go_aload_n (pc' := 1) dX11_time_0 rfl rfl rfl ?_
        refine Go_iload_n (pc' := 2) dX11_time_1 rfl rfl rfl ?_
        refine Go_callV_r (pc' := 5) (As := [.int _]) (st := []) dX11_time_2 rfl ok_X11_cellarOf km_RX11_90 (I.S.o 64 rfl rfl rfl) (I.S.b 64 rfl rfl) ⟨_, _, rfl⟩ rfl (Nat.le_of_ble_eq_true rfl) rfl rfl rfl (Nat.le_of_ble_eq_true rfl) (Nat.lt_succ_self _) ?_
        refine Go_iload_n (pc' := 1) dX11_cellarOf_0 rfl rfl rfl ?_
        refine Go_iconst (v := iZ 0) (pc' := 2) dX11_cellarOf_1 rfl (by decide) ?_
        refine Go_aload_n (pc' := 3) dX11_cellarOf_2 rfl rfl rfl ?_
        refine Go_getIv (v := (iZ (nc : Int))) (pc' := 6) dX11_cellarOf_3 rfl kf_RX11_84 (by decide) (by decide) rfl (I.S.b 64 rfl rfl) (I.S.o 64 rfl rfl rfl) (ec2) ?_
        refine Go_iconst (v := iZ 1) (pc' := 7) dX11_cellarOf_6 rfl (by decide) ?_
        refine Go_isubZ (pc' := 8) dX11_cellarOf_7 rfl ?_
        refine Go_callS_i (pc' := 11) (As := [.int _, .int _, .int _]) (st := []) dX11_cellarOf_8 rfl ok_X11_within km_RX11_94 rfl (Nat.le_of_ble_eq_true rfl) rfl rfl rfl (Nat.le_of_ble_eq_true rfl) (Nat.lt_succ_self _) ?_
        refine s_withinY (by first | exact ⟨i_lo _, i_hi _⟩ | omega) (by first | exact ⟨i_lo _, i_hi _⟩ | omega) (by first | exact ⟨i_lo _, i_hi _⟩ | omega) ?_
        refine ⟨_, rfl, ?_⟩
        refine Go_if_eqb (tgt := 32) (pc' := 14) dX11_cellarOf_11 (by decide) rfl (fun q11 => by exfalso; omega) (fun q11 => ?_)
        refine Go_iload_n (pc' := 15) dX11_cellarOf_14 rfl rfl rfl ?_
        refine Go_aload_n (pc' := 16) dX11_cellarOf_15 rfl rfl rfl ?_
        refine Go_getRs (pc' := 19) dX11_cellarOf_16 rfl kf_RX11_18 (by decide) (by decide) rfl (I.S.b 64 rfl rfl) (I.S.o 64 rfl rfl rfl) (I.S.r 64 1 rfl rfl rfl) ?_
        refine Go_alenZ (n := 6) (pc' := 20) dX11_cellarOf_19 rfl (I.S.b 67 rfl rfl) (I.S.k 67 rfl rfl rfl) (Or.inr (Or.inr ⟨_, rfl⟩)) ?_
        refine Go_icmp_geY (tgt := 32) (pc' := 23) dX11_cellarOf_20 (by decide) rfl (by first | exact ⟨i_lo _, i_hi _⟩ | omega) (by first | exact ⟨i_lo _, i_hi _⟩ | omega) (fun q20 => by exfalso; omega) (fun q20 => ?_)
        refine Go_aload_n (pc' := 24) dX11_cellarOf_23 rfl rfl rfl ?_
        refine Go_getRs (pc' := 27) dX11_cellarOf_24 rfl kf_RX11_18 (by decide) (by decide) rfl (I.S.b 64 rfl rfl) (I.S.o 64 rfl rfl rfl) (I.S.r 64 1 rfl rfl rfl) ?_
        refine Go_iload_n (pc' := 28) dX11_cellarOf_27 rfl rfl rfl ?_
        refine Go_aaloadZ (n := 6) (k := j) (pc' := 29) dX11_cellarOf_28 rfl (I.S.b 67 rfl rfl) (I.S.k 67 rfl rfl rfl) rfl rfl (by omega) (by decide) ho ?_
        refine Go_goto (tgt := 33) dX11_cellarOf_29 (by decide) ?_
        refine Go_areturn (r := some _) dX11_cellarOf_33 rfl ?_
        refine ⟨some _, rfl, ?_⟩
        refine Go_astore (pc' := 7) (lv' := [.ref _, .int _, .int _, .int _, .ref _, un]) dX11_time_5 rfl (Nat.le_of_ble_eq_true rfl) rfl rfl ?_
        refine Go_aload (pc' := 9) dX11_time_7 rfl rfl ?_
        refine Go_ifnull (pc' := 12) dX11_time_9 rfl ?_
        refine Go_iload_n (pc' := 13) dX11_time_12 rfl rfl rfl ?_
        refine Go_iconst (v := iZ 0) (pc' := 14) dX11_time_13 rfl (by decide) ?_
        refine Go_iconst (v := iZ 2) (pc' := 15) dX11_time_14 rfl (by decide) ?_
        refine Go_callS_i (pc' := 18) (As := [.int _, .int _, .int _]) (st := []) dX11_time_15 rfl ok_X11_within km_RX11_94 rfl (Nat.le_of_ble_eq_true rfl) rfl rfl rfl (Nat.le_of_ble_eq_true rfl) (Nat.lt_succ_self _) ?_
        refine s_withinY (by first | exact ⟨i_lo _, i_hi _⟩ | omega) (by first | exact ⟨i_lo _, i_hi _⟩ | omega) (by first | exact ⟨i_lo _, i_hi _⟩ | omega) ?_
        refine ⟨_, rfl, ?_⟩
        refine Go_if_neb (tgt := 25) (pc' := 21) dX11_time_18 (by decide) rfl (fun c18 => by exfalso; omega) (fun c18 => ?_)
        refine Go_ldc2Z (X := (-1)) (pc' := 24) dX11_time_21 rfl kn_RX11_172 (by decide) ?_
        refine Go_lreturn dX11_time_24 rfl ?_
        exact k
      · rintro r h1 ⟨rfl, rfl⟩ K k
        have k := k _ I
        show Go G 60 0 0 M_X12_time 0 [.ref 99, .int (iZ (j : Int)), .int (iZ Bz), .int (iZ Cz), un, un] [] h1 K
        refine Go_aload_n (pc' := 1) dX12_time_0 rfl rfl rfl ?_
        refine Go_iload_n (pc' := 2) dX12_time_1 rfl rfl rfl ?_
        refine Go_callV_i (pc' := 5) (As := [.int _]) (st := []) dX12_time_2 rfl ok_X12_isCellar km_RX12_158 (I.S.o 99 rfl rfl rfl) (I.S.b 99 rfl rfl) ⟨_, _, rfl⟩ rfl (Nat.le_of_ble_eq_true rfl) rfl rfl rfl (Nat.le_of_ble_eq_true rfl) (Nat.lt_succ_self _) ?_
        refine Go_iload_n (pc' := 1) dX12_isCellar_0 rfl rfl rfl ?_
        refine Go_iconst (v := iZ 0) (pc' := 2) dX12_isCellar_1 rfl (by decide) ?_
        refine Go_aload_n (pc' := 3) dX12_isCellar_2 rfl rfl rfl ?_
        refine Go_getIv (v := (iZ (nc : Int))) (pc' := 6) dX12_isCellar_3 rfl kf_RX12_151 (by decide) (by decide) rfl (I.S.b 99 rfl rfl) (I.S.o 99 rfl rfl rfl) (ec0) ?_
        refine Go_iconst (v := iZ 1) (pc' := 7) dX12_isCellar_6 rfl (by decide) ?_
        refine Go_isubZ (pc' := 8) dX12_isCellar_7 rfl ?_
        refine Go_callS_i (pc' := 11) (As := [.int _, .int _, .int _]) (st := []) dX12_isCellar_8 rfl ok_X12_isIn km_RX12_147 rfl (Nat.le_of_ble_eq_true rfl) rfl rfl rfl (Nat.le_of_ble_eq_true rfl) (Nat.lt_succ_self _) ?_
        refine s_isInY (by first | exact ⟨i_lo _, i_hi _⟩ | omega) (by first | exact ⟨i_lo _, i_hi _⟩ | omega) (by first | exact ⟨i_lo _, i_hi _⟩ | omega) ?_
        refine ⟨_, rfl, ?_⟩
        refine Go_ireturn (ty := .boolean) dX12_isCellar_11 rfl b2i_nb ?_
        refine ⟨_, rfl, ?_⟩
        refine Go_if_eqb (tgt := 17) (pc' := 8) dX12_time_5 (by decide) rfl (fun c5 => by exfalso; omega) (fun c5 => ?_)
        refine Go_iload_n (pc' := 9) dX12_time_8 rfl rfl rfl ?_
        refine Go_iconst (v := iZ 0) (pc' := 10) dX12_time_9 rfl (by decide) ?_
        refine Go_iconst (v := iZ 2) (pc' := 11) dX12_time_10 rfl (by decide) ?_
        refine Go_callS_i (pc' := 14) (As := [.int _, .int _, .int _]) (st := []) dX12_time_11 rfl ok_X12_isIn km_RX12_147 rfl (Nat.le_of_ble_eq_true rfl) rfl rfl rfl (Nat.le_of_ble_eq_true rfl) (Nat.lt_succ_self _) ?_
        refine s_isInY (by first | exact ⟨i_lo _, i_hi _⟩ | omega) (by first | exact ⟨i_lo _, i_hi _⟩ | omega) (by first | exact ⟨i_lo _, i_hi _⟩ | omega) ?_
        refine ⟨_, rfl, ?_⟩
        refine Go_if_neb (tgt := 21) (pc' := 17) dX12_time_14 (by decide) rfl (fun c14 => by exfalso; omega) (fun c14 => ?_)
        refine Go_ldc2Z (X := (-1)) (pc' := 20) dX12_time_17 rfl kn_RX12_185 (by decide) ?_
        refine Go_lreturn dX12_time_20 rfl ?_
        exact k
    by_cases h1 : s = -1 ∨ Cz = 2
    · refine ⟨fun r h1 => r = lZ s ∧ h1 = h, fun K k => ?_, ?_⟩
      · refine Go.more (d := 60) (mc := 0) (ms := 0) ?_ (by omega) (by omega) (by omega)
        have k := k _ h ⟨rfl, rfl⟩ I.S
        show Go G 60 0 0 M_X11_time 0 [.ref 64, .int (iZ (j : Int)), .int (iZ Bz), .int (iZ Cz), un, un] [] h K
        refine Go_aload_n (pc' := 1) dX11_time_0 rfl rfl rfl ?_
        refine Go_iload_n (pc' := 2) dX11_time_1 rfl rfl rfl ?_
        refine Go_callV_r (pc' := 5) (As := [.int _]) (st := []) dX11_time_2 rfl ok_X11_cellarOf km_RX11_90 (I.S.o 64 rfl rfl rfl) (I.S.b 64 rfl rfl) ⟨_, _, rfl⟩ rfl (Nat.le_of_ble_eq_true rfl) rfl rfl rfl (Nat.le_of_ble_eq_true rfl) (Nat.lt_succ_self _) ?_
        refine Go_iload_n (pc' := 1) dX11_cellarOf_0 rfl rfl rfl ?_
        refine Go_iconst (v := iZ 0) (pc' := 2) dX11_cellarOf_1 rfl (by decide) ?_
        refine Go_aload_n (pc' := 3) dX11_cellarOf_2 rfl rfl rfl ?_
        refine Go_getIv (v := (iZ (nc : Int))) (pc' := 6) dX11_cellarOf_3 rfl kf_RX11_84 (by decide) (by decide) rfl (I.S.b 64 rfl rfl) (I.S.o 64 rfl rfl rfl) (ec2) ?_
        refine Go_iconst (v := iZ 1) (pc' := 7) dX11_cellarOf_6 rfl (by decide) ?_
        refine Go_isubZ (pc' := 8) dX11_cellarOf_7 rfl ?_
        refine Go_callS_i (pc' := 11) (As := [.int _, .int _, .int _]) (st := []) dX11_cellarOf_8 rfl ok_X11_within km_RX11_94 rfl (Nat.le_of_ble_eq_true rfl) rfl rfl rfl (Nat.le_of_ble_eq_true rfl) (Nat.lt_succ_self _) ?_
        refine s_withinY (by first | exact ⟨i_lo _, i_hi _⟩ | omega) (by first | exact ⟨i_lo _, i_hi _⟩ | omega) (by first | exact ⟨i_lo _, i_hi _⟩ | omega) ?_
        refine ⟨_, rfl, ?_⟩
        refine Go_if_eqb (tgt := 32) (pc' := 14) dX11_cellarOf_11 (by decide) rfl (fun q11 => by exfalso; omega) (fun q11 => ?_)
        refine Go_iload_n (pc' := 15) dX11_cellarOf_14 rfl rfl rfl ?_
        refine Go_aload_n (pc' := 16) dX11_cellarOf_15 rfl rfl rfl ?_
        refine Go_getRs (pc' := 19) dX11_cellarOf_16 rfl kf_RX11_18 (by decide) (by decide) rfl (I.S.b 64 rfl rfl) (I.S.o 64 rfl rfl rfl) (I.S.r 64 1 rfl rfl rfl) ?_
        refine Go_alenZ (n := 6) (pc' := 20) dX11_cellarOf_19 rfl (I.S.b 67 rfl rfl) (I.S.k 67 rfl rfl rfl) (Or.inr (Or.inr ⟨_, rfl⟩)) ?_
        refine Go_icmp_geY (tgt := 32) (pc' := 23) dX11_cellarOf_20 (by decide) rfl (by first | exact ⟨i_lo _, i_hi _⟩ | omega) (by first | exact ⟨i_lo _, i_hi _⟩ | omega) (fun q20 => by exfalso; omega) (fun q20 => ?_)
        refine Go_aload_n (pc' := 24) dX11_cellarOf_23 rfl rfl rfl ?_
        refine Go_getRs (pc' := 27) dX11_cellarOf_24 rfl kf_RX11_18 (by decide) (by decide) rfl (I.S.b 64 rfl rfl) (I.S.o 64 rfl rfl rfl) (I.S.r 64 1 rfl rfl rfl) ?_
        refine Go_iload_n (pc' := 28) dX11_cellarOf_27 rfl rfl rfl ?_
        refine Go_aaloadZ (n := 6) (k := j) (pc' := 29) dX11_cellarOf_28 rfl (I.S.b 67 rfl rfl) (I.S.k 67 rfl rfl rfl) rfl rfl (by omega) (by decide) ho ?_
        refine Go_goto (tgt := 33) dX11_cellarOf_29 (by decide) ?_
        refine Go_areturn (r := some _) dX11_cellarOf_33 rfl ?_
        refine ⟨some _, rfl, ?_⟩
        refine Go_astore (pc' := 7) (lv' := [.ref _, .int _, .int _, .int _, .ref _, un]) dX11_time_5 rfl (Nat.le_of_ble_eq_true rfl) rfl rfl ?_
        refine Go_aload (pc' := 9) dX11_time_7 rfl rfl ?_
        refine Go_ifnull (pc' := 12) dX11_time_9 rfl ?_
        refine Go_iload_n (pc' := 13) dX11_time_12 rfl rfl rfl ?_
        refine Go_iconst (v := iZ 0) (pc' := 14) dX11_time_13 rfl (by decide) ?_
        refine Go_iconst (v := iZ 2) (pc' := 15) dX11_time_14 rfl (by decide) ?_
        refine Go_callS_i (pc' := 18) (As := [.int _, .int _, .int _]) (st := []) dX11_time_15 rfl ok_X11_within km_RX11_94 rfl (Nat.le_of_ble_eq_true rfl) rfl rfl rfl (Nat.le_of_ble_eq_true rfl) (Nat.lt_succ_self _) ?_
        refine s_withinY (by first | exact ⟨i_lo _, i_hi _⟩ | omega) (by first | exact ⟨i_lo _, i_hi _⟩ | omega) (by first | exact ⟨i_lo _, i_hi _⟩ | omega) ?_
        refine ⟨_, rfl, ?_⟩
        refine Go_if_neb (tgt := 25) (pc' := 21) dX11_time_18 (by decide) rfl (fun c18 => ?_) (fun c18 => by exfalso; omega)
        refine Go_aload (pc' := 27) dX11_time_25 rfl rfl ?_
        refine Go_iload_n (pc' := 28) dX11_time_27 rfl rfl rfl ?_
        refine Go_callV_i (pc' := 31) (As := [.int _]) (st := []) dX11_time_28 rfl ok_X2_clockSeconds km_RX11_174 CS.o CS.b ⟨_, _, rfl⟩ rfl (Nat.le_of_ble_eq_true rfl) rfl rfl rfl (Nat.le_of_ble_eq_true rfl) (Nat.lt_succ_self _) ?_
        refine s_ckc S CS hj6 Q (by omega) ?_
        rw [← hs]
        refine ⟨_, rfl, ?_⟩
        refine Go_istore (pc' := 33) (lv' := [.ref _, .int _, .int _, .int _, .ref _, .int _]) dX11_time_31 rfl (Nat.le_of_ble_eq_true rfl) rfl rfl ?_
        refine Go_iload (pc' := 35) dX11_time_33 rfl rfl ?_
        refine Go_iconst (v := iZ (-1)) (pc' := 36) dX11_time_35 rfl (by decide) ?_
        refine Go_icmp_eqY (tgt := 44) (pc' := 39) dX11_time_36 (by decide) rfl (by first | exact ⟨i_lo _, i_hi _⟩ | omega) (by first | exact ⟨i_lo _, i_hi _⟩ | omega) (fun c36 => ?_) (fun c36 => ?_)
        · refine Go_iload (pc' := 46) dX11_time_44 rfl rfl ?_
          refine Go_i2lZ (pc' := 47) dX11_time_46 rfl (by first | exact ⟨i_lo _, i_hi _⟩ | omega) ?_
          refine Go_lreturn dX11_time_47 rfl ?_
          exact k
        · refine Go_iload_n (pc' := 40) dX11_time_39 rfl rfl rfl ?_
          refine Go_iconst (v := iZ 2) (pc' := 41) dX11_time_40 rfl (by decide) ?_
          refine Go_icmp_neY (tgt := 48) (pc' := 44) dX11_time_41 (by decide) rfl (by first | exact ⟨i_lo _, i_hi _⟩ | omega) (by first | exact ⟨i_lo _, i_hi _⟩ | omega) (fun c41 => by exfalso; omega) (fun c41 => ?_)
          refine Go_iload (pc' := 46) dX11_time_44 rfl rfl ?_
          refine Go_i2lZ (pc' := 47) dX11_time_46 rfl (by first | exact ⟨i_lo _, i_hi _⟩ | omega) ?_
          refine Go_lreturn dX11_time_47 rfl ?_
          exact k
      · rintro r h1 ⟨rfl, rfl⟩ K k
        have k := k _ I
        show Go G 60 0 0 M_X12_time 0 [.ref 99, .int (iZ (j : Int)), .int (iZ Bz), .int (iZ Cz), un, un] [] h1 K
        refine Go_aload_n (pc' := 1) dX12_time_0 rfl rfl rfl ?_
        refine Go_iload_n (pc' := 2) dX12_time_1 rfl rfl rfl ?_
        refine Go_callV_i (pc' := 5) (As := [.int _]) (st := []) dX12_time_2 rfl ok_X12_isCellar km_RX12_158 (I.S.o 99 rfl rfl rfl) (I.S.b 99 rfl rfl) ⟨_, _, rfl⟩ rfl (Nat.le_of_ble_eq_true rfl) rfl rfl rfl (Nat.le_of_ble_eq_true rfl) (Nat.lt_succ_self _) ?_
        refine Go_iload_n (pc' := 1) dX12_isCellar_0 rfl rfl rfl ?_
        refine Go_iconst (v := iZ 0) (pc' := 2) dX12_isCellar_1 rfl (by decide) ?_
        refine Go_aload_n (pc' := 3) dX12_isCellar_2 rfl rfl rfl ?_
        refine Go_getIv (v := (iZ (nc : Int))) (pc' := 6) dX12_isCellar_3 rfl kf_RX12_151 (by decide) (by decide) rfl (I.S.b 99 rfl rfl) (I.S.o 99 rfl rfl rfl) (ec0) ?_
        refine Go_iconst (v := iZ 1) (pc' := 7) dX12_isCellar_6 rfl (by decide) ?_
        refine Go_isubZ (pc' := 8) dX12_isCellar_7 rfl ?_
        refine Go_callS_i (pc' := 11) (As := [.int _, .int _, .int _]) (st := []) dX12_isCellar_8 rfl ok_X12_isIn km_RX12_147 rfl (Nat.le_of_ble_eq_true rfl) rfl rfl rfl (Nat.le_of_ble_eq_true rfl) (Nat.lt_succ_self _) ?_
        refine s_isInY (by first | exact ⟨i_lo _, i_hi _⟩ | omega) (by first | exact ⟨i_lo _, i_hi _⟩ | omega) (by first | exact ⟨i_lo _, i_hi _⟩ | omega) ?_
        refine ⟨_, rfl, ?_⟩
        refine Go_ireturn (ty := .boolean) dX12_isCellar_11 rfl b2i_nb ?_
        refine ⟨_, rfl, ?_⟩
        refine Go_if_eqb (tgt := 17) (pc' := 8) dX12_time_5 (by decide) rfl (fun c5 => by exfalso; omega) (fun c5 => ?_)
        refine Go_iload_n (pc' := 9) dX12_time_8 rfl rfl rfl ?_
        refine Go_iconst (v := iZ 0) (pc' := 10) dX12_time_9 rfl (by decide) ?_
        refine Go_iconst (v := iZ 2) (pc' := 11) dX12_time_10 rfl (by decide) ?_
        refine Go_callS_i (pc' := 14) (As := [.int _, .int _, .int _]) (st := []) dX12_time_11 rfl ok_X12_isIn km_RX12_147 rfl (Nat.le_of_ble_eq_true rfl) rfl rfl rfl (Nat.le_of_ble_eq_true rfl) (Nat.lt_succ_self _) ?_
        refine s_isInY (by first | exact ⟨i_lo _, i_hi _⟩ | omega) (by first | exact ⟨i_lo _, i_hi _⟩ | omega) (by first | exact ⟨i_lo _, i_hi _⟩ | omega) ?_
        refine ⟨_, rfl, ?_⟩
        refine Go_if_neb (tgt := 21) (pc' := 17) dX12_time_14 (by decide) rfl (fun c14 => ?_) (fun c14 => by exfalso; omega)
        refine Go_aload_n (pc' := 22) dX12_time_21 rfl rfl rfl ?_
        refine Go_iload_n (pc' := 23) dX12_time_22 rfl rfl rfl ?_
        refine Go_iload_n (pc' := 24) dX12_time_23 rfl rfl rfl ?_
        refine Go_callV_i (pc' := 27) (As := [.int _, .int _]) (st := []) dX12_time_24 rfl ok_X12_secondsOf km_RX12_187 (I.S.o 99 rfl rfl rfl) (I.S.b 99 rfl rfl) ⟨_, _, rfl⟩ rfl (Nat.le_of_ble_eq_true rfl) rfl rfl rfl (Nat.le_of_ble_eq_true rfl) (Nat.lt_succ_self _) ?_
        refine s_ckm S CS hj6 Q (by omega) ?_
        rw [← hs]
        refine ⟨_, rfl, ?_⟩
        refine Go_i2lZ (pc' := 28) dX12_time_27 rfl (by first | exact ⟨i_lo _, i_hi _⟩ | omega) ?_
        refine Go_lstore (pc' := 30) (lv' := [.ref _, .int _, .int _, .int _, .long _, un]) dX12_time_28 rfl (Nat.le_of_ble_eq_true rfl) rfl rfl ?_
        refine Go_lload (pc' := 32) dX12_time_30 rfl rfl ?_
        refine Go_ldc2Z (X := (-1)) (pc' := 35) dX12_time_32 rfl kn_RX12_185 (by decide) ?_
        refine Go_lcmpZ (pc' := 36) dX12_time_35 rfl (by omega) (by omega) ?_
        refine Go_if_eqY (tgt := 44) (pc' := 39) dX12_time_36 (by decide) rfl (by first | exact ⟨i_lo _, i_hi _⟩ | omega) (fun c36 => ?_) (fun c36 => ?_)
        · refine Go_lload (pc' := 46) dX12_time_44 rfl rfl ?_
          refine Go_lreturn dX12_time_46 rfl ?_
          exact k
        · refine Go_iload_n (pc' := 40) dX12_time_39 rfl rfl rfl ?_
          refine Go_iconst (v := iZ 2) (pc' := 41) dX12_time_40 rfl (by decide) ?_
          refine Go_icmp_neY (tgt := 47) (pc' := 44) dX12_time_41 (by decide) rfl (by first | exact ⟨i_lo _, i_hi _⟩ | omega) (by first | exact ⟨i_lo _, i_hi _⟩ | omega) (fun c41 => by exfalso; omega) (fun c41 => ?_)
          refine Go_lload (pc' := 46) dX12_time_44 rfl rfl ?_
          refine Go_lreturn dX12_time_46 rfl ?_
          exact k
    · have pm := mul7 (U := s) (V := t1) (by omega) (by omega)
      have pm2 := mul7 (U := s + 1) (V := t2) (by omega) (by omega)
      by_cases h2 : Cz = 0
      · refine ⟨fun r h1 => r = lZ (t0 + s * t1 / 60) ∧ h1 = h, fun K k => ?_, ?_⟩
        · refine Go.more (d := 60) (mc := 0) (ms := 0) ?_ (by omega) (by omega) (by omega)
          have k := k _ h ⟨rfl, rfl⟩ I.S
          show Go G 60 0 0 M_X11_time 0 [.ref 64, .int (iZ (j : Int)), .int (iZ Bz), .int (iZ Cz), un, un] [] h K
          refine Go_aload_n (pc' := 1) dX11_time_0 rfl rfl rfl ?_
          refine Go_iload_n (pc' := 2) dX11_time_1 rfl rfl rfl ?_
          refine Go_callV_r (pc' := 5) (As := [.int _]) (st := []) dX11_time_2 rfl ok_X11_cellarOf km_RX11_90 (I.S.o 64 rfl rfl rfl) (I.S.b 64 rfl rfl) ⟨_, _, rfl⟩ rfl (Nat.le_of_ble_eq_true rfl) rfl rfl rfl (Nat.le_of_ble_eq_true rfl) (Nat.lt_succ_self _) ?_
          refine Go_iload_n (pc' := 1) dX11_cellarOf_0 rfl rfl rfl ?_
          refine Go_iconst (v := iZ 0) (pc' := 2) dX11_cellarOf_1 rfl (by decide) ?_
          refine Go_aload_n (pc' := 3) dX11_cellarOf_2 rfl rfl rfl ?_
          refine Go_getIv (v := (iZ (nc : Int))) (pc' := 6) dX11_cellarOf_3 rfl kf_RX11_84 (by decide) (by decide) rfl (I.S.b 64 rfl rfl) (I.S.o 64 rfl rfl rfl) (ec2) ?_
          refine Go_iconst (v := iZ 1) (pc' := 7) dX11_cellarOf_6 rfl (by decide) ?_
          refine Go_isubZ (pc' := 8) dX11_cellarOf_7 rfl ?_
          refine Go_callS_i (pc' := 11) (As := [.int _, .int _, .int _]) (st := []) dX11_cellarOf_8 rfl ok_X11_within km_RX11_94 rfl (Nat.le_of_ble_eq_true rfl) rfl rfl rfl (Nat.le_of_ble_eq_true rfl) (Nat.lt_succ_self _) ?_
          refine s_withinY (by first | exact ⟨i_lo _, i_hi _⟩ | omega) (by first | exact ⟨i_lo _, i_hi _⟩ | omega) (by first | exact ⟨i_lo _, i_hi _⟩ | omega) ?_
          refine ⟨_, rfl, ?_⟩
          refine Go_if_eqb (tgt := 32) (pc' := 14) dX11_cellarOf_11 (by decide) rfl (fun q11 => by exfalso; omega) (fun q11 => ?_)
          refine Go_iload_n (pc' := 15) dX11_cellarOf_14 rfl rfl rfl ?_
          refine Go_aload_n (pc' := 16) dX11_cellarOf_15 rfl rfl rfl ?_
          refine Go_getRs (pc' := 19) dX11_cellarOf_16 rfl kf_RX11_18 (by decide) (by decide) rfl (I.S.b 64 rfl rfl) (I.S.o 64 rfl rfl rfl) (I.S.r 64 1 rfl rfl rfl) ?_
          refine Go_alenZ (n := 6) (pc' := 20) dX11_cellarOf_19 rfl (I.S.b 67 rfl rfl) (I.S.k 67 rfl rfl rfl) (Or.inr (Or.inr ⟨_, rfl⟩)) ?_
          refine Go_icmp_geY (tgt := 32) (pc' := 23) dX11_cellarOf_20 (by decide) rfl (by first | exact ⟨i_lo _, i_hi _⟩ | omega) (by first | exact ⟨i_lo _, i_hi _⟩ | omega) (fun q20 => by exfalso; omega) (fun q20 => ?_)
          refine Go_aload_n (pc' := 24) dX11_cellarOf_23 rfl rfl rfl ?_
          refine Go_getRs (pc' := 27) dX11_cellarOf_24 rfl kf_RX11_18 (by decide) (by decide) rfl (I.S.b 64 rfl rfl) (I.S.o 64 rfl rfl rfl) (I.S.r 64 1 rfl rfl rfl) ?_
          refine Go_iload_n (pc' := 28) dX11_cellarOf_27 rfl rfl rfl ?_
          refine Go_aaloadZ (n := 6) (k := j) (pc' := 29) dX11_cellarOf_28 rfl (I.S.b 67 rfl rfl) (I.S.k 67 rfl rfl rfl) rfl rfl (by omega) (by decide) ho ?_
          refine Go_goto (tgt := 33) dX11_cellarOf_29 (by decide) ?_
          refine Go_areturn (r := some _) dX11_cellarOf_33 rfl ?_
          refine ⟨some _, rfl, ?_⟩
          refine Go_astore (pc' := 7) (lv' := [.ref _, .int _, .int _, .int _, .ref _, un]) dX11_time_5 rfl (Nat.le_of_ble_eq_true rfl) rfl rfl ?_
          refine Go_aload (pc' := 9) dX11_time_7 rfl rfl ?_
          refine Go_ifnull (pc' := 12) dX11_time_9 rfl ?_
          refine Go_iload_n (pc' := 13) dX11_time_12 rfl rfl rfl ?_
          refine Go_iconst (v := iZ 0) (pc' := 14) dX11_time_13 rfl (by decide) ?_
          refine Go_iconst (v := iZ 2) (pc' := 15) dX11_time_14 rfl (by decide) ?_
          refine Go_callS_i (pc' := 18) (As := [.int _, .int _, .int _]) (st := []) dX11_time_15 rfl ok_X11_within km_RX11_94 rfl (Nat.le_of_ble_eq_true rfl) rfl rfl rfl (Nat.le_of_ble_eq_true rfl) (Nat.lt_succ_self _) ?_
          refine s_withinY (by first | exact ⟨i_lo _, i_hi _⟩ | omega) (by first | exact ⟨i_lo _, i_hi _⟩ | omega) (by first | exact ⟨i_lo _, i_hi _⟩ | omega) ?_
          refine ⟨_, rfl, ?_⟩
          refine Go_if_neb (tgt := 25) (pc' := 21) dX11_time_18 (by decide) rfl (fun c18 => ?_) (fun c18 => by exfalso; omega)
          refine Go_aload (pc' := 27) dX11_time_25 rfl rfl ?_
          refine Go_iload_n (pc' := 28) dX11_time_27 rfl rfl rfl ?_
          refine Go_callV_i (pc' := 31) (As := [.int _]) (st := []) dX11_time_28 rfl ok_X2_clockSeconds km_RX11_174 CS.o CS.b ⟨_, _, rfl⟩ rfl (Nat.le_of_ble_eq_true rfl) rfl rfl rfl (Nat.le_of_ble_eq_true rfl) (Nat.lt_succ_self _) ?_
          refine s_ckc S CS hj6 Q (by omega) ?_
          rw [← hs]
          refine ⟨_, rfl, ?_⟩
          refine Go_istore (pc' := 33) (lv' := [.ref _, .int _, .int _, .int _, .ref _, .int _]) dX11_time_31 rfl (Nat.le_of_ble_eq_true rfl) rfl rfl ?_
          refine Go_iload (pc' := 35) dX11_time_33 rfl rfl ?_
          refine Go_iconst (v := iZ (-1)) (pc' := 36) dX11_time_35 rfl (by decide) ?_
          refine Go_icmp_eqY (tgt := 44) (pc' := 39) dX11_time_36 (by decide) rfl (by first | exact ⟨i_lo _, i_hi _⟩ | omega) (by first | exact ⟨i_lo _, i_hi _⟩ | omega) (fun c36 => by exfalso; omega) (fun c36 => ?_)
          refine Go_iload_n (pc' := 40) dX11_time_39 rfl rfl rfl ?_
          refine Go_iconst (v := iZ 2) (pc' := 41) dX11_time_40 rfl (by decide) ?_
          refine Go_icmp_neY (tgt := 48) (pc' := 44) dX11_time_41 (by decide) rfl (by first | exact ⟨i_lo _, i_hi _⟩ | omega) (by first | exact ⟨i_lo _, i_hi _⟩ | omega) (fun c41 => ?_) (fun c41 => by exfalso; omega)
          refine Go_iload_n (pc' := 49) dX11_time_48 rfl rfl rfl ?_
          refine Go_if_neY (tgt := 73) (pc' := 52) dX11_time_49 (by decide) rfl (by first | exact ⟨i_lo _, i_hi _⟩ | omega) (fun c49 => by exfalso; omega) (fun c49 => ?_)
          refine Go_aload (pc' := 54) dX11_time_52 rfl rfl ?_
          refine Go_getIv (v := (iZ t0)) (pc' := 57) dX11_time_54 rfl kf_RX11_163 (by decide) (by decide) rfl CS.b CS.o (e12) ?_
          refine Go_iload (pc' := 59) dX11_time_57 rfl rfl ?_
          refine Go_aload (pc' := 61) dX11_time_59 rfl rfl ?_
          refine Go_getIv (v := (iZ t1)) (pc' := 64) dX11_time_61 rfl kf_RX11_166 (by decide) (by decide) rfl CS.b CS.o (e13) ?_
          refine Go_imulZ (pc' := 65) dX11_time_64 rfl ?_
          refine Go_bipush (v := iZ 60) (pc' := 67) dX11_time_65 rfl (by decide) ?_
          refine Go_callS_i (pc' := 70) (As := [.int _, .int _]) (st := [.int _]) dX11_time_67 rfl ok_J9_floorDiv_7cf53 km_RX11_177 rfl (Nat.le_of_ble_eq_true rfl) rfl rfl rfl (Nat.le_of_ble_eq_true rfl) (Nat.lt_succ_self _) ?_
          refine s_fdivY (by omega) (by omega) ?_
          refine ⟨_, rfl, ?_⟩
          refine Go_iaddZ (pc' := 71) dX11_time_70 rfl ?_
          refine Go_i2lZ (pc' := 72) dX11_time_71 rfl (by first | exact ⟨i_lo _, i_hi _⟩ | omega) ?_
          refine Go_lreturn dX11_time_72 rfl ?_
          exact k
        · rintro r h1 ⟨rfl, rfl⟩ K k
          have k := k _ I
          show Go G 60 0 0 M_X12_time 0 [.ref 99, .int (iZ (j : Int)), .int (iZ Bz), .int (iZ Cz), un, un] [] h1 K
          refine Go_aload_n (pc' := 1) dX12_time_0 rfl rfl rfl ?_
          refine Go_iload_n (pc' := 2) dX12_time_1 rfl rfl rfl ?_
          refine Go_callV_i (pc' := 5) (As := [.int _]) (st := []) dX12_time_2 rfl ok_X12_isCellar km_RX12_158 (I.S.o 99 rfl rfl rfl) (I.S.b 99 rfl rfl) ⟨_, _, rfl⟩ rfl (Nat.le_of_ble_eq_true rfl) rfl rfl rfl (Nat.le_of_ble_eq_true rfl) (Nat.lt_succ_self _) ?_
          refine Go_iload_n (pc' := 1) dX12_isCellar_0 rfl rfl rfl ?_
          refine Go_iconst (v := iZ 0) (pc' := 2) dX12_isCellar_1 rfl (by decide) ?_
          refine Go_aload_n (pc' := 3) dX12_isCellar_2 rfl rfl rfl ?_
          refine Go_getIv (v := (iZ (nc : Int))) (pc' := 6) dX12_isCellar_3 rfl kf_RX12_151 (by decide) (by decide) rfl (I.S.b 99 rfl rfl) (I.S.o 99 rfl rfl rfl) (ec0) ?_
          refine Go_iconst (v := iZ 1) (pc' := 7) dX12_isCellar_6 rfl (by decide) ?_
          refine Go_isubZ (pc' := 8) dX12_isCellar_7 rfl ?_
          refine Go_callS_i (pc' := 11) (As := [.int _, .int _, .int _]) (st := []) dX12_isCellar_8 rfl ok_X12_isIn km_RX12_147 rfl (Nat.le_of_ble_eq_true rfl) rfl rfl rfl (Nat.le_of_ble_eq_true rfl) (Nat.lt_succ_self _) ?_
          refine s_isInY (by first | exact ⟨i_lo _, i_hi _⟩ | omega) (by first | exact ⟨i_lo _, i_hi _⟩ | omega) (by first | exact ⟨i_lo _, i_hi _⟩ | omega) ?_
          refine ⟨_, rfl, ?_⟩
          refine Go_ireturn (ty := .boolean) dX12_isCellar_11 rfl b2i_nb ?_
          refine ⟨_, rfl, ?_⟩
          refine Go_if_eqb (tgt := 17) (pc' := 8) dX12_time_5 (by decide) rfl (fun c5 => by exfalso; omega) (fun c5 => ?_)
          refine Go_iload_n (pc' := 9) dX12_time_8 rfl rfl rfl ?_
          refine Go_iconst (v := iZ 0) (pc' := 10) dX12_time_9 rfl (by decide) ?_
          refine Go_iconst (v := iZ 2) (pc' := 11) dX12_time_10 rfl (by decide) ?_
          refine Go_callS_i (pc' := 14) (As := [.int _, .int _, .int _]) (st := []) dX12_time_11 rfl ok_X12_isIn km_RX12_147 rfl (Nat.le_of_ble_eq_true rfl) rfl rfl rfl (Nat.le_of_ble_eq_true rfl) (Nat.lt_succ_self _) ?_
          refine s_isInY (by first | exact ⟨i_lo _, i_hi _⟩ | omega) (by first | exact ⟨i_lo _, i_hi _⟩ | omega) (by first | exact ⟨i_lo _, i_hi _⟩ | omega) ?_
          refine ⟨_, rfl, ?_⟩
          refine Go_if_neb (tgt := 21) (pc' := 17) dX12_time_14 (by decide) rfl (fun c14 => ?_) (fun c14 => by exfalso; omega)
          refine Go_aload_n (pc' := 22) dX12_time_21 rfl rfl rfl ?_
          refine Go_iload_n (pc' := 23) dX12_time_22 rfl rfl rfl ?_
          refine Go_iload_n (pc' := 24) dX12_time_23 rfl rfl rfl ?_
          refine Go_callV_i (pc' := 27) (As := [.int _, .int _]) (st := []) dX12_time_24 rfl ok_X12_secondsOf km_RX12_187 (I.S.o 99 rfl rfl rfl) (I.S.b 99 rfl rfl) ⟨_, _, rfl⟩ rfl (Nat.le_of_ble_eq_true rfl) rfl rfl rfl (Nat.le_of_ble_eq_true rfl) (Nat.lt_succ_self _) ?_
          refine s_ckm S CS hj6 Q (by omega) ?_
          rw [← hs]
          refine ⟨_, rfl, ?_⟩
          refine Go_i2lZ (pc' := 28) dX12_time_27 rfl (by first | exact ⟨i_lo _, i_hi _⟩ | omega) ?_
          refine Go_lstore (pc' := 30) (lv' := [.ref _, .int _, .int _, .int _, .long _, un]) dX12_time_28 rfl (Nat.le_of_ble_eq_true rfl) rfl rfl ?_
          refine Go_lload (pc' := 32) dX12_time_30 rfl rfl ?_
          refine Go_ldc2Z (X := (-1)) (pc' := 35) dX12_time_32 rfl kn_RX12_185 (by decide) ?_
          refine Go_lcmpZ (pc' := 36) dX12_time_35 rfl (by omega) (by omega) ?_
          refine Go_if_eqY (tgt := 44) (pc' := 39) dX12_time_36 (by decide) rfl (by first | exact ⟨i_lo _, i_hi _⟩ | omega) (fun c36 => by exfalso; omega) (fun c36 => ?_)
          refine Go_iload_n (pc' := 40) dX12_time_39 rfl rfl rfl ?_
          refine Go_iconst (v := iZ 2) (pc' := 41) dX12_time_40 rfl (by decide) ?_
          refine Go_icmp_neY (tgt := 47) (pc' := 44) dX12_time_41 (by decide) rfl (by first | exact ⟨i_lo _, i_hi _⟩ | omega) (by first | exact ⟨i_lo _, i_hi _⟩ | omega) (fun c41 => ?_) (fun c41 => by exfalso; omega)
          refine Go_aload_n (pc' := 48) dX12_time_47 rfl rfl rfl ?_
          refine Go_getRs (pc' := 51) dX12_time_48 rfl kf_RX12_43 (by decide) (by decide) rfl (I.S.b 99 rfl rfl) (I.S.o 99 rfl rfl rfl) (I.S.r 99 12 rfl rfl rfl) ?_
          refine Go_iload_n (pc' := 52) dX12_time_51 rfl rfl rfl ?_
          refine Go_ialoadZ (n := 6) (k := j) (v := (iZ t0)) (pc' := 53) dX12_time_52 rfl (I.S.b 111 rfl rfl) (I.S.k 111 rfl rfl rfl) rfl (by omega) (by decide) (g12) ?_
          refine Go_i2lZ (pc' := 54) dX12_time_53 rfl (by first | exact ⟨i_lo _, i_hi _⟩ | omega) ?_
          refine Go_iload_n (pc' := 55) dX12_time_54 rfl rfl rfl ?_
          refine Go_if_neY (tgt := 75) (pc' := 58) dX12_time_55 (by decide) rfl (by first | exact ⟨i_lo _, i_hi _⟩ | omega) (fun c55 => by exfalso; omega) (fun c55 => ?_)
          refine Go_lload (pc' := 60) dX12_time_58 rfl rfl ?_
          refine Go_aload_n (pc' := 61) dX12_time_60 rfl rfl rfl ?_
          refine Go_getRs (pc' := 64) dX12_time_61 rfl kf_RX12_46 (by decide) (by decide) rfl (I.S.b 99 rfl rfl) (I.S.o 99 rfl rfl rfl) (I.S.r 99 13 rfl rfl rfl) ?_
          refine Go_iload_n (pc' := 65) dX12_time_64 rfl rfl rfl ?_
          refine Go_ialoadZ (n := 6) (k := j) (v := (iZ t1)) (pc' := 66) dX12_time_65 rfl (I.S.b 112 rfl rfl) (I.S.k 112 rfl rfl rfl) rfl (by omega) (by decide) (g13) ?_
          refine Go_i2lZ (pc' := 67) dX12_time_66 rfl (by first | exact ⟨i_lo _, i_hi _⟩ | omega) ?_
          refine Go_lmulZ (pc' := 68) dX12_time_67 rfl ?_
          refine Go_ldc2Z (X := 60) (pc' := 71) dX12_time_68 rfl kn_RX12_190 (by decide) ?_
          refine Go_ldivP (pc' := 72) dX12_time_71 rfl (by omega) (by omega) ?_
          refine Go_goto (tgt := 91) dX12_time_72 (by decide) ?_
          refine Go_laddZ (pc' := 92) dX12_time_91 rfl ?_
          refine Go_lreturn dX12_time_92 rfl ?_
          exact k
      · refine ⟨fun r h1 => r = lZ (t0 + (s + 1) * t2 / 60) ∧ h1 = h, fun K k => ?_, ?_⟩
        · refine Go.more (d := 60) (mc := 0) (ms := 0) ?_ (by omega) (by omega) (by omega)
          have k := k _ h ⟨rfl, rfl⟩ I.S
          show Go G 60 0 0 M_X11_time 0 [.ref 64, .int (iZ (j : Int)), .int (iZ Bz), .int (iZ Cz), un, un] [] h K
          refine Go_aload_n (pc' := 1) dX11_time_0 rfl rfl rfl ?_
          refine Go_iload_n (pc' := 2) dX11_time_1 rfl rfl rfl ?_
          refine Go_callV_r (pc' := 5) (As := [.int _]) (st := []) dX11_time_2 rfl ok_X11_cellarOf km_RX11_90 (I.S.o 64 rfl rfl rfl) (I.S.b 64 rfl rfl) ⟨_, _, rfl⟩ rfl (Nat.le_of_ble_eq_true rfl) rfl rfl rfl (Nat.le_of_ble_eq_true rfl) (Nat.lt_succ_self _) ?_
          refine Go_iload_n (pc' := 1) dX11_cellarOf_0 rfl rfl rfl ?_
          refine Go_iconst (v := iZ 0) (pc' := 2) dX11_cellarOf_1 rfl (by decide) ?_
          refine Go_aload_n (pc' := 3) dX11_cellarOf_2 rfl rfl rfl ?_
          refine Go_getIv (v := (iZ (nc : Int))) (pc' := 6) dX11_cellarOf_3 rfl kf_RX11_84 (by decide) (by decide) rfl (I.S.b 64 rfl rfl) (I.S.o 64 rfl rfl rfl) (ec2) ?_
          refine Go_iconst (v := iZ 1) (pc' := 7) dX11_cellarOf_6 rfl (by decide) ?_
          refine Go_isubZ (pc' := 8) dX11_cellarOf_7 rfl ?_
          refine Go_callS_i (pc' := 11) (As := [.int _, .int _, .int _]) (st := []) dX11_cellarOf_8 rfl ok_X11_within km_RX11_94 rfl (Nat.le_of_ble_eq_true rfl) rfl rfl rfl (Nat.le_of_ble_eq_true rfl) (Nat.lt_succ_self _) ?_
          refine s_withinY (by first | exact ⟨i_lo _, i_hi _⟩ | omega) (by first | exact ⟨i_lo _, i_hi _⟩ | omega) (by first | exact ⟨i_lo _, i_hi _⟩ | omega) ?_
          refine ⟨_, rfl, ?_⟩
          refine Go_if_eqb (tgt := 32) (pc' := 14) dX11_cellarOf_11 (by decide) rfl (fun q11 => by exfalso; omega) (fun q11 => ?_)
          refine Go_iload_n (pc' := 15) dX11_cellarOf_14 rfl rfl rfl ?_
          refine Go_aload_n (pc' := 16) dX11_cellarOf_15 rfl rfl rfl ?_
          refine Go_getRs (pc' := 19) dX11_cellarOf_16 rfl kf_RX11_18 (by decide) (by decide) rfl (I.S.b 64 rfl rfl) (I.S.o 64 rfl rfl rfl) (I.S.r 64 1 rfl rfl rfl) ?_
          refine Go_alenZ (n := 6) (pc' := 20) dX11_cellarOf_19 rfl (I.S.b 67 rfl rfl) (I.S.k 67 rfl rfl rfl) (Or.inr (Or.inr ⟨_, rfl⟩)) ?_
          refine Go_icmp_geY (tgt := 32) (pc' := 23) dX11_cellarOf_20 (by decide) rfl (by first | exact ⟨i_lo _, i_hi _⟩ | omega) (by first | exact ⟨i_lo _, i_hi _⟩ | omega) (fun q20 => by exfalso; omega) (fun q20 => ?_)
          refine Go_aload_n (pc' := 24) dX11_cellarOf_23 rfl rfl rfl ?_
          refine Go_getRs (pc' := 27) dX11_cellarOf_24 rfl kf_RX11_18 (by decide) (by decide) rfl (I.S.b 64 rfl rfl) (I.S.o 64 rfl rfl rfl) (I.S.r 64 1 rfl rfl rfl) ?_
          refine Go_iload_n (pc' := 28) dX11_cellarOf_27 rfl rfl rfl ?_
          refine Go_aaloadZ (n := 6) (k := j) (pc' := 29) dX11_cellarOf_28 rfl (I.S.b 67 rfl rfl) (I.S.k 67 rfl rfl rfl) rfl rfl (by omega) (by decide) ho ?_
          refine Go_goto (tgt := 33) dX11_cellarOf_29 (by decide) ?_
          refine Go_areturn (r := some _) dX11_cellarOf_33 rfl ?_
          refine ⟨some _, rfl, ?_⟩
          refine Go_astore (pc' := 7) (lv' := [.ref _, .int _, .int _, .int _, .ref _, un]) dX11_time_5 rfl (Nat.le_of_ble_eq_true rfl) rfl rfl ?_
          refine Go_aload (pc' := 9) dX11_time_7 rfl rfl ?_
          refine Go_ifnull (pc' := 12) dX11_time_9 rfl ?_
          refine Go_iload_n (pc' := 13) dX11_time_12 rfl rfl rfl ?_
          refine Go_iconst (v := iZ 0) (pc' := 14) dX11_time_13 rfl (by decide) ?_
          refine Go_iconst (v := iZ 2) (pc' := 15) dX11_time_14 rfl (by decide) ?_
          refine Go_callS_i (pc' := 18) (As := [.int _, .int _, .int _]) (st := []) dX11_time_15 rfl ok_X11_within km_RX11_94 rfl (Nat.le_of_ble_eq_true rfl) rfl rfl rfl (Nat.le_of_ble_eq_true rfl) (Nat.lt_succ_self _) ?_
          refine s_withinY (by first | exact ⟨i_lo _, i_hi _⟩ | omega) (by first | exact ⟨i_lo _, i_hi _⟩ | omega) (by first | exact ⟨i_lo _, i_hi _⟩ | omega) ?_
          refine ⟨_, rfl, ?_⟩
          refine Go_if_neb (tgt := 25) (pc' := 21) dX11_time_18 (by decide) rfl (fun c18 => ?_) (fun c18 => by exfalso; omega)
          refine Go_aload (pc' := 27) dX11_time_25 rfl rfl ?_
          refine Go_iload_n (pc' := 28) dX11_time_27 rfl rfl rfl ?_
          refine Go_callV_i (pc' := 31) (As := [.int _]) (st := []) dX11_time_28 rfl ok_X2_clockSeconds km_RX11_174 CS.o CS.b ⟨_, _, rfl⟩ rfl (Nat.le_of_ble_eq_true rfl) rfl rfl rfl (Nat.le_of_ble_eq_true rfl) (Nat.lt_succ_self _) ?_
          refine s_ckc S CS hj6 Q (by omega) ?_
          rw [← hs]
          refine ⟨_, rfl, ?_⟩
          refine Go_istore (pc' := 33) (lv' := [.ref _, .int _, .int _, .int _, .ref _, .int _]) dX11_time_31 rfl (Nat.le_of_ble_eq_true rfl) rfl rfl ?_
          refine Go_iload (pc' := 35) dX11_time_33 rfl rfl ?_
          refine Go_iconst (v := iZ (-1)) (pc' := 36) dX11_time_35 rfl (by decide) ?_
          refine Go_icmp_eqY (tgt := 44) (pc' := 39) dX11_time_36 (by decide) rfl (by first | exact ⟨i_lo _, i_hi _⟩ | omega) (by first | exact ⟨i_lo _, i_hi _⟩ | omega) (fun c36 => by exfalso; omega) (fun c36 => ?_)
          refine Go_iload_n (pc' := 40) dX11_time_39 rfl rfl rfl ?_
          refine Go_iconst (v := iZ 2) (pc' := 41) dX11_time_40 rfl (by decide) ?_
          refine Go_icmp_neY (tgt := 48) (pc' := 44) dX11_time_41 (by decide) rfl (by first | exact ⟨i_lo _, i_hi _⟩ | omega) (by first | exact ⟨i_lo _, i_hi _⟩ | omega) (fun c41 => ?_) (fun c41 => by exfalso; omega)
          refine Go_iload_n (pc' := 49) dX11_time_48 rfl rfl rfl ?_
          refine Go_if_neY (tgt := 73) (pc' := 52) dX11_time_49 (by decide) rfl (by first | exact ⟨i_lo _, i_hi _⟩ | omega) (fun c49 => ?_) (fun c49 => by exfalso; omega)
          refine Go_aload (pc' := 75) dX11_time_73 rfl rfl ?_
          refine Go_getIv (v := (iZ t0)) (pc' := 78) dX11_time_75 rfl kf_RX11_163 (by decide) (by decide) rfl CS.b CS.o (e12) ?_
          refine Go_iload (pc' := 80) dX11_time_78 rfl rfl ?_
          refine Go_iconst (v := iZ 1) (pc' := 81) dX11_time_80 rfl (by decide) ?_
          refine Go_iaddZ (pc' := 82) dX11_time_81 rfl ?_
          refine Go_aload (pc' := 84) dX11_time_82 rfl rfl ?_
          refine Go_getIv (v := (iZ t2)) (pc' := 87) dX11_time_84 rfl kf_RX11_169 (by decide) (by decide) rfl CS.b CS.o (e14) ?_
          refine Go_imulZ (pc' := 88) dX11_time_87 rfl ?_
          refine Go_bipush (v := iZ 60) (pc' := 90) dX11_time_88 rfl (by decide) ?_
          refine Go_callS_i (pc' := 93) (As := [.int _, .int _]) (st := [.int _]) dX11_time_90 rfl ok_J9_floorDiv_7cf53 km_RX11_177 rfl (Nat.le_of_ble_eq_true rfl) rfl rfl rfl (Nat.le_of_ble_eq_true rfl) (Nat.lt_succ_self _) ?_
          refine s_fdivY (by omega) (by omega) ?_
          refine ⟨_, rfl, ?_⟩
          refine Go_iaddZ (pc' := 94) dX11_time_93 rfl ?_
          refine Go_i2lZ (pc' := 95) dX11_time_94 rfl (by first | exact ⟨i_lo _, i_hi _⟩ | omega) ?_
          refine Go_lreturn dX11_time_95 rfl ?_
          exact k
        · rintro r h1 ⟨rfl, rfl⟩ K k
          have k := k _ I
          show Go G 60 0 0 M_X12_time 0 [.ref 99, .int (iZ (j : Int)), .int (iZ Bz), .int (iZ Cz), un, un] [] h1 K
          refine Go_aload_n (pc' := 1) dX12_time_0 rfl rfl rfl ?_
          refine Go_iload_n (pc' := 2) dX12_time_1 rfl rfl rfl ?_
          refine Go_callV_i (pc' := 5) (As := [.int _]) (st := []) dX12_time_2 rfl ok_X12_isCellar km_RX12_158 (I.S.o 99 rfl rfl rfl) (I.S.b 99 rfl rfl) ⟨_, _, rfl⟩ rfl (Nat.le_of_ble_eq_true rfl) rfl rfl rfl (Nat.le_of_ble_eq_true rfl) (Nat.lt_succ_self _) ?_
          refine Go_iload_n (pc' := 1) dX12_isCellar_0 rfl rfl rfl ?_
          refine Go_iconst (v := iZ 0) (pc' := 2) dX12_isCellar_1 rfl (by decide) ?_
          refine Go_aload_n (pc' := 3) dX12_isCellar_2 rfl rfl rfl ?_
          refine Go_getIv (v := (iZ (nc : Int))) (pc' := 6) dX12_isCellar_3 rfl kf_RX12_151 (by decide) (by decide) rfl (I.S.b 99 rfl rfl) (I.S.o 99 rfl rfl rfl) (ec0) ?_
          refine Go_iconst (v := iZ 1) (pc' := 7) dX12_isCellar_6 rfl (by decide) ?_
          refine Go_isubZ (pc' := 8) dX12_isCellar_7 rfl ?_
          refine Go_callS_i (pc' := 11) (As := [.int _, .int _, .int _]) (st := []) dX12_isCellar_8 rfl ok_X12_isIn km_RX12_147 rfl (Nat.le_of_ble_eq_true rfl) rfl rfl rfl (Nat.le_of_ble_eq_true rfl) (Nat.lt_succ_self _) ?_
          refine s_isInY (by first | exact ⟨i_lo _, i_hi _⟩ | omega) (by first | exact ⟨i_lo _, i_hi _⟩ | omega) (by first | exact ⟨i_lo _, i_hi _⟩ | omega) ?_
          refine ⟨_, rfl, ?_⟩
          refine Go_ireturn (ty := .boolean) dX12_isCellar_11 rfl b2i_nb ?_
          refine ⟨_, rfl, ?_⟩
          refine Go_if_eqb (tgt := 17) (pc' := 8) dX12_time_5 (by decide) rfl (fun c5 => by exfalso; omega) (fun c5 => ?_)
          refine Go_iload_n (pc' := 9) dX12_time_8 rfl rfl rfl ?_
          refine Go_iconst (v := iZ 0) (pc' := 10) dX12_time_9 rfl (by decide) ?_
          refine Go_iconst (v := iZ 2) (pc' := 11) dX12_time_10 rfl (by decide) ?_
          refine Go_callS_i (pc' := 14) (As := [.int _, .int _, .int _]) (st := []) dX12_time_11 rfl ok_X12_isIn km_RX12_147 rfl (Nat.le_of_ble_eq_true rfl) rfl rfl rfl (Nat.le_of_ble_eq_true rfl) (Nat.lt_succ_self _) ?_
          refine s_isInY (by first | exact ⟨i_lo _, i_hi _⟩ | omega) (by first | exact ⟨i_lo _, i_hi _⟩ | omega) (by first | exact ⟨i_lo _, i_hi _⟩ | omega) ?_
          refine ⟨_, rfl, ?_⟩
          refine Go_if_neb (tgt := 21) (pc' := 17) dX12_time_14 (by decide) rfl (fun c14 => ?_) (fun c14 => by exfalso; omega)
          refine Go_aload_n (pc' := 22) dX12_time_21 rfl rfl rfl ?_
          refine Go_iload_n (pc' := 23) dX12_time_22 rfl rfl rfl ?_
          refine Go_iload_n (pc' := 24) dX12_time_23 rfl rfl rfl ?_
          refine Go_callV_i (pc' := 27) (As := [.int _, .int _]) (st := []) dX12_time_24 rfl ok_X12_secondsOf km_RX12_187 (I.S.o 99 rfl rfl rfl) (I.S.b 99 rfl rfl) ⟨_, _, rfl⟩ rfl (Nat.le_of_ble_eq_true rfl) rfl rfl rfl (Nat.le_of_ble_eq_true rfl) (Nat.lt_succ_self _) ?_
          refine s_ckm S CS hj6 Q (by omega) ?_
          rw [← hs]
          refine ⟨_, rfl, ?_⟩
          refine Go_i2lZ (pc' := 28) dX12_time_27 rfl (by first | exact ⟨i_lo _, i_hi _⟩ | omega) ?_
          refine Go_lstore (pc' := 30) (lv' := [.ref _, .int _, .int _, .int _, .long _, un]) dX12_time_28 rfl (Nat.le_of_ble_eq_true rfl) rfl rfl ?_
          refine Go_lload (pc' := 32) dX12_time_30 rfl rfl ?_
          refine Go_ldc2Z (X := (-1)) (pc' := 35) dX12_time_32 rfl kn_RX12_185 (by decide) ?_
          refine Go_lcmpZ (pc' := 36) dX12_time_35 rfl (by omega) (by omega) ?_
          refine Go_if_eqY (tgt := 44) (pc' := 39) dX12_time_36 (by decide) rfl (by first | exact ⟨i_lo _, i_hi _⟩ | omega) (fun c36 => by exfalso; omega) (fun c36 => ?_)
          refine Go_iload_n (pc' := 40) dX12_time_39 rfl rfl rfl ?_
          refine Go_iconst (v := iZ 2) (pc' := 41) dX12_time_40 rfl (by decide) ?_
          refine Go_icmp_neY (tgt := 47) (pc' := 44) dX12_time_41 (by decide) rfl (by first | exact ⟨i_lo _, i_hi _⟩ | omega) (by first | exact ⟨i_lo _, i_hi _⟩ | omega) (fun c41 => ?_) (fun c41 => by exfalso; omega)
          refine Go_aload_n (pc' := 48) dX12_time_47 rfl rfl rfl ?_
          refine Go_getRs (pc' := 51) dX12_time_48 rfl kf_RX12_43 (by decide) (by decide) rfl (I.S.b 99 rfl rfl) (I.S.o 99 rfl rfl rfl) (I.S.r 99 12 rfl rfl rfl) ?_
          refine Go_iload_n (pc' := 52) dX12_time_51 rfl rfl rfl ?_
          refine Go_ialoadZ (n := 6) (k := j) (v := (iZ t0)) (pc' := 53) dX12_time_52 rfl (I.S.b 111 rfl rfl) (I.S.k 111 rfl rfl rfl) rfl (by omega) (by decide) (g12) ?_
          refine Go_i2lZ (pc' := 54) dX12_time_53 rfl (by first | exact ⟨i_lo _, i_hi _⟩ | omega) ?_
          refine Go_iload_n (pc' := 55) dX12_time_54 rfl rfl rfl ?_
          refine Go_if_neY (tgt := 75) (pc' := 58) dX12_time_55 (by decide) rfl (by first | exact ⟨i_lo _, i_hi _⟩ | omega) (fun c55 => ?_) (fun c55 => by exfalso; omega)
          refine Go_lload (pc' := 77) dX12_time_75 rfl rfl ?_
          refine Go_lconst (v := lZ 1) (pc' := 78) dX12_time_77 rfl (by decide) ?_
          refine Go_laddZ (pc' := 79) dX12_time_78 rfl ?_
          refine Go_aload_n (pc' := 80) dX12_time_79 rfl rfl rfl ?_
          refine Go_getRs (pc' := 83) dX12_time_80 rfl kf_RX12_49 (by decide) (by decide) rfl (I.S.b 99 rfl rfl) (I.S.o 99 rfl rfl rfl) (I.S.r 99 14 rfl rfl rfl) ?_
          refine Go_iload_n (pc' := 84) dX12_time_83 rfl rfl rfl ?_
          refine Go_ialoadZ (n := 6) (k := j) (v := (iZ t2)) (pc' := 85) dX12_time_84 rfl (I.S.b 113 rfl rfl) (I.S.k 113 rfl rfl rfl) rfl (by omega) (by decide) (g14) ?_
          refine Go_i2lZ (pc' := 86) dX12_time_85 rfl (by first | exact ⟨i_lo _, i_hi _⟩ | omega) ?_
          refine Go_lmulZ (pc' := 87) dX12_time_86 rfl ?_
          refine Go_ldc2Z (X := 60) (pc' := 90) dX12_time_87 rfl kn_RX12_190 (by decide) ?_
          refine Go_ldivP (pc' := 91) dX12_time_90 rfl (by omega) (by omega) ?_
          refine Go_laddZ (pc' := 92) dX12_time_91 rfl ?_
          refine Go_lreturn dX12_time_92 rfl ?_
          exact k
  · refine ⟨fun r h1 => r = lZ (-1) ∧ h1 = h, fun K k => ?_, ?_⟩
    · refine Go.more (d := 60) (mc := 0) (ms := 0) ?_ (by omega) (by omega) (by omega)
      have k := k _ h ⟨rfl, rfl⟩ I.S
      show Go G 60 0 0 M_X11_time 0 [.ref 64, .int (iZ Az), .int (iZ Bz), .int (iZ Cz), un, un] [] h K
      refine Go_aload_n (pc' := 1) dX11_time_0 rfl rfl rfl ?_
      refine Go_iload_n (pc' := 2) dX11_time_1 rfl rfl rfl ?_
      refine Go_callV_r (pc' := 5) (As := [.int _]) (st := []) dX11_time_2 rfl ok_X11_cellarOf km_RX11_90 (I.S.o 64 rfl rfl rfl) (I.S.b 64 rfl rfl) ⟨_, _, rfl⟩ rfl (Nat.le_of_ble_eq_true rfl) rfl rfl rfl (Nat.le_of_ble_eq_true rfl) (Nat.lt_succ_self _) ?_
      refine Go_iload_n (pc' := 1) dX11_cellarOf_0 rfl rfl rfl ?_
      refine Go_iconst (v := iZ 0) (pc' := 2) dX11_cellarOf_1 rfl (by decide) ?_
      refine Go_aload_n (pc' := 3) dX11_cellarOf_2 rfl rfl rfl ?_
      refine Go_getIv (v := (iZ (nc : Int))) (pc' := 6) dX11_cellarOf_3 rfl kf_RX11_84 (by decide) (by decide) rfl (I.S.b 64 rfl rfl) (I.S.o 64 rfl rfl rfl) (ec2) ?_
      refine Go_iconst (v := iZ 1) (pc' := 7) dX11_cellarOf_6 rfl (by decide) ?_
      refine Go_isubZ (pc' := 8) dX11_cellarOf_7 rfl ?_
      refine Go_callS_i (pc' := 11) (As := [.int _, .int _, .int _]) (st := []) dX11_cellarOf_8 rfl ok_X11_within km_RX11_94 rfl (Nat.le_of_ble_eq_true rfl) rfl rfl rfl (Nat.le_of_ble_eq_true rfl) (Nat.lt_succ_self _) ?_
      refine s_withinY (by first | exact ⟨i_lo _, i_hi _⟩ | omega) (by first | exact ⟨i_lo _, i_hi _⟩ | omega) (by first | exact ⟨i_lo _, i_hi _⟩ | omega) ?_
      refine ⟨_, rfl, ?_⟩
      refine Go_if_eqb (tgt := 32) (pc' := 14) dX11_cellarOf_11 (by decide) rfl (fun q11 => ?_) (fun q11 => by exfalso; omega)
      refine Go_null (pc' := 33) dX11_cellarOf_32 rfl ?_
      refine Go_areturn (r := none) dX11_cellarOf_33 rfl ?_
      refine ⟨none, rfl, ?_⟩
      refine Go_astoreN (pc' := 7) (lv' := [.ref _, .int _, .int _, .int _, .null, un]) dX11_time_5 rfl (Nat.le_of_ble_eq_true rfl) rfl rfl ?_
      refine Go_aloadN (pc' := 9) dX11_time_7 rfl rfl ?_
      refine Go_ifnullN (tgt := 21) dX11_time_9 (by decide) ?_
      refine Go_ldc2Z (X := (-1)) (pc' := 24) dX11_time_21 rfl kn_RX11_172 (by decide) ?_
      refine Go_lreturn dX11_time_24 rfl ?_
      exact k
    · rintro r h1 ⟨rfl, rfl⟩ K k
      have k := k _ I
      show Go G 60 0 0 M_X12_time 0 [.ref 99, .int (iZ Az), .int (iZ Bz), .int (iZ Cz), un, un] [] h1 K
      refine Go_aload_n (pc' := 1) dX12_time_0 rfl rfl rfl ?_
      refine Go_iload_n (pc' := 2) dX12_time_1 rfl rfl rfl ?_
      refine Go_callV_i (pc' := 5) (As := [.int _]) (st := []) dX12_time_2 rfl ok_X12_isCellar km_RX12_158 (I.S.o 99 rfl rfl rfl) (I.S.b 99 rfl rfl) ⟨_, _, rfl⟩ rfl (Nat.le_of_ble_eq_true rfl) rfl rfl rfl (Nat.le_of_ble_eq_true rfl) (Nat.lt_succ_self _) ?_
      refine Go_iload_n (pc' := 1) dX12_isCellar_0 rfl rfl rfl ?_
      refine Go_iconst (v := iZ 0) (pc' := 2) dX12_isCellar_1 rfl (by decide) ?_
      refine Go_aload_n (pc' := 3) dX12_isCellar_2 rfl rfl rfl ?_
      refine Go_getIv (v := (iZ (nc : Int))) (pc' := 6) dX12_isCellar_3 rfl kf_RX12_151 (by decide) (by decide) rfl (I.S.b 99 rfl rfl) (I.S.o 99 rfl rfl rfl) (ec0) ?_
      refine Go_iconst (v := iZ 1) (pc' := 7) dX12_isCellar_6 rfl (by decide) ?_
      refine Go_isubZ (pc' := 8) dX12_isCellar_7 rfl ?_
      refine Go_callS_i (pc' := 11) (As := [.int _, .int _, .int _]) (st := []) dX12_isCellar_8 rfl ok_X12_isIn km_RX12_147 rfl (Nat.le_of_ble_eq_true rfl) rfl rfl rfl (Nat.le_of_ble_eq_true rfl) (Nat.lt_succ_self _) ?_
      refine s_isInY (by first | exact ⟨i_lo _, i_hi _⟩ | omega) (by first | exact ⟨i_lo _, i_hi _⟩ | omega) (by first | exact ⟨i_lo _, i_hi _⟩ | omega) ?_
      refine ⟨_, rfl, ?_⟩
      refine Go_ireturn (ty := .boolean) dX12_isCellar_11 rfl b2i_nb ?_
      refine ⟨_, rfl, ?_⟩
      refine Go_if_eqb (tgt := 17) (pc' := 8) dX12_time_5 (by decide) rfl (fun c5 => ?_) (fun c5 => by exfalso; omega)
      refine Go_ldc2Z (X := (-1)) (pc' := 20) dX12_time_17 rfl kn_RX12_185 (by decide) ?_
      refine Go_lreturn dX12_time_20 rfl ?_
      exact k
