/-! tokens of the tape, as the class reads them -/
theorem wI_wI {h : HS} {i k : Nat} {a b : Int32} : wI (wI h i k a) i k b = wI h i k b := by
  unfold wI
  refine Prod.ext rfl (Prod.ext rfl (Prod.ext ?_ rfl))
  funext x y
  simp only
  by_cases c : x = i ∧ y = k
  · rw [if_pos c, if_pos c]
  · rw [if_neg c, if_neg c, if_neg c]
theorem wI_se {h : HS} {i k : Nat} {a : Int32} (e : vi h i k = a) : wI h i k a = h := by
  unfold wI
  refine Prod.ext rfl (Prod.ext rfl (Prod.ext ?_ rfl))
  funext x y
  simp only
  by_cases c : x = i ∧ y = k
  · rw [if_pos c, c.1, c.2]; exact e.symm
  · rw [if_neg c]
theorem wI_cm {h : HS} {i k i' k' : Nat} {a b : Int32} (e : i ≠ i' ∨ k ≠ k') : wI (wI h i k a) i' k' b = wI (wI h i' k' b) i k a := by
  unfold wI
  refine Prod.ext rfl (Prod.ext rfl (Prod.ext ?_ rfl))
  funext x y
  simp only
  by_cases c : x = i ∧ y = k
  · by_cases c' : x = i' ∧ y = k'
    · exfalso; rcases e with e | e
      · exact e (c.1.symm.trans c'.1)
      · exact e (c.2.symm.trans c'.2)
    · rw [if_neg c', if_pos c, if_pos c]
  · by_cases c' : x = i' ∧ y = k'
    · rw [if_pos c', if_neg c, if_pos c']
    · rw [if_neg c', if_neg c, if_neg c, if_neg c']
def blB (x : Int) : Bool := decide (x = 32 ∨ x = 10)
def leB (x : Int) : Bool := decide ((97 ≤ x ∧ x ≤ 122) ∨ (65 ≤ x ∧ x ≤ 90))
def diB (x : Int) : Bool := decide (48 ≤ x ∧ x ≤ 57)
/-- the first place from i on, within m, where f doesn't hold -/
def skp (f : Int → Bool) (T : Nat → Int) : Nat → Nat → Nat
  | 0, i => i
  | m + 1, i => if f (T i) = true then skp f T m (i + 1) else i
theorem skp_t {f : Int → Bool} {T : Nat → Int} {m i : Nat} (e : f (T i) = true) : skp f T (m + 1) i = skp f T m (i + 1) := by show (if _ then _ else _) = _; rw [if_pos e]
theorem skp_f {f : Int → Bool} {T : Nat → Int} {m i : Nat} (e : ¬ f (T i) = true) : skp f T (m + 1) i = i := by show (if _ then _ else _) = _; rw [if_neg e]
theorem skp_r {f : Int → Bool} {T : Nat → Int} : ∀ (m i : Nat), i ≤ skp f T m i ∧ skp f T m i ≤ i + m
  | 0, i => ⟨Nat.le_refl _, Nat.le_refl _⟩
  | m + 1, i => by
    by_cases e : f (T i) = true
    · rw [skp_t e]; have := skp_r (f := f) (T := T) m (i + 1); omega
    · rw [skp_f e]; omega
def nvl (T : Nat → Int) : Nat → Nat → Int → Int
  | 0, _, v => v
  | m + 1, i, v => nvl T m (i + 1) (10 * v + T i - 48)
/-- the text j stands at p -/
def mtB (T : Nat → Int) (p j : Nat) : Nat → Nat → Bool
  | 0, _ => true
  | m + 1, k => if T (p + k) = ((strT j).getD k 0).toInt then mtB T p j m (k + 1) else false
theorem mtB_t {T : Nat → Int} {p j m k : Nat} (e : T (p + k) = ((strT j).getD k 0).toInt) : mtB T p j (m + 1) k = mtB T p j m (k + 1) := by show (if _ then _ else _) = _; rw [if_pos e]
theorem mtB_f {T : Nat → Int} {p j m k : Nat} (e : ¬ T (p + k) = ((strT j).getD k 0).toInt) : mtB T p j (m + 1) k = false := by show (if _ then _ else _) = _; rw [if_neg e]
abbrev wdP (T : Nat → Int) (p e j : Nat) : Prop := e = p + (strT j).length ∧ mtB T p j (strT j).length 0 = true
def kwf (T : Nat → Int) (p e : Nat) : Nat → Nat → Nat
  | 0, _ => 22
  | m + 1, j => if wdP T p e j then j else kwf T p e m (j + 1)
theorem kwf_t {T : Nat → Int} {p e m j : Nat} (h : wdP T p e j) : kwf T p e (m + 1) j = j := by show (if _ then _ else _) = _; rw [if_pos h]
theorem kwf_f {T : Nat → Int} {p e m j : Nat} (h : ¬ wdP T p e j) : kwf T p e (m + 1) j = kwf T p e m (j + 1) := by show (if _ then _ else _) = _; rw [if_neg h]
theorem kwf_r {T : Nat → Int} {p e : Nat} : ∀ (m j : Nat), kwf T p e m j = 22 ∨ (j ≤ kwf T p e m j ∧ kwf T p e m j < j + m)
  | 0, j => Or.inl rfl
  | m + 1, j => by
    by_cases h : wdP T p e j
    · rw [kwf_t h]; omega
    · rw [kwf_f h]; have := kwf_r (T := T) (p := p) (e := e) m (j + 1); omega
/-- the tape in the heap -/
def TF (H : HS) (T : Nat → Int) (n : Nat) : Prop := Shp H ∧ n ≤ 600 ∧ vi H 71 1 = iZ (n : Int) ∧ ∀ i, i < n → vi H 72 i = iZ (T i) ∧ 0 ≤ T i ∧ T i ≤ 255
theorem bo {h : HS} {o k : Nat} {X : Int} (e : vi h o k = iZ X) : vi h o k = iZ X := e

set_option maxRecDepth 20000 in
set_option maxHeartbeats 1000000 in
theorem s_skB {G : GC} {d mc ms : Nat} {H : HS} {K : Option Value → HS → Prop} {T : Nat → Int} {n : Nat} (F : TF H T n) : ∀ (m p : Nat), p + m = n → K none (wI H 71 2 (iZ (skp blB T m p : Nat))) → Go G (d + 1) mc ms M_X9_skipBlanks 0 [.ref 71] [] (wI H 71 2 (iZ (p : Int))) K := by
  obtain ⟨S, hn, en, ht⟩ := id F
  intro m
  induction m with
  | zero =>
    intro p hm hk
    refine Go_aload_n (pc' := 1) dX9_skipBlanks_0 rfl rfl rfl ?_
    refine Go_getIv (v := (iZ (p : Int))) (pc' := 4) dX9_skipBlanks_1 rfl kf_RX9_56 (by decide) (by decide) rfl (S.b 71 rfl rfl) (S.o 71 rfl rfl rfl) (vi_same) ?_
    refine Go_aload_n (pc' := 5) dX9_skipBlanks_4 rfl rfl rfl ?_
    refine Go_getIv (v := (iZ (n : Int))) (pc' := 8) dX9_skipBlanks_5 rfl kf_RX9_32 (by decide) (by decide) rfl (S.b 71 rfl rfl) (S.o 71 rfl rfl rfl) ((vi_skip (Or.inr (by decide))).trans (en)) ?_
    refine Go_icmp_geY (tgt := 65) (pc' := 11) dX9_skipBlanks_8 (by decide) rfl (by first | exact ⟨i_lo _, i_hi _⟩ | omega) (by first | exact ⟨i_lo _, i_hi _⟩ | omega) (fun c8 => ?_) (fun c8 => by exfalso; omega)
    refine Go_return dX9_skipBlanks_65 rfl ?_
    exact hk
  | succ m ih =>
    intro p hm hk
    have tp := (ht p (by omega)).2
    refine Go_aload_n (pc' := 1) dX9_skipBlanks_0 rfl rfl rfl ?_
    refine Go_getIv (v := (iZ (p : Int))) (pc' := 4) dX9_skipBlanks_1 rfl kf_RX9_56 (by decide) (by decide) rfl (S.b 71 rfl rfl) (S.o 71 rfl rfl rfl) (vi_same) ?_
    refine Go_aload_n (pc' := 5) dX9_skipBlanks_4 rfl rfl rfl ?_
    refine Go_getIv (v := (iZ (n : Int))) (pc' := 8) dX9_skipBlanks_5 rfl kf_RX9_32 (by decide) (by decide) rfl (S.b 71 rfl rfl) (S.o 71 rfl rfl rfl) ((vi_skip (Or.inr (by decide))).trans (en)) ?_
    refine Go_icmp_geY (tgt := 65) (pc' := 11) dX9_skipBlanks_8 (by decide) rfl (by first | exact ⟨i_lo _, i_hi _⟩ | omega) (by first | exact ⟨i_lo _, i_hi _⟩ | omega) (fun c8 => by exfalso; omega) (fun c8 => ?_)
    refine Go_aload_n (pc' := 12) dX9_skipBlanks_11 rfl rfl rfl ?_
    refine Go_getIv (v := (iZ (p : Int))) (pc' := 15) dX9_skipBlanks_12 rfl kf_RX9_56 (by decide) (by decide) rfl (S.b 71 rfl rfl) (S.o 71 rfl rfl rfl) (vi_same) ?_
    refine Go_aload_n (pc' := 16) dX9_skipBlanks_15 rfl rfl rfl ?_
    refine Go_getRs (pc' := 19) dX9_skipBlanks_16 rfl kf_RX9_9 (by decide) (by decide) rfl (S.b 71 rfl rfl) (S.o 71 rfl rfl rfl) (S.r 71 0 rfl rfl rfl) ?_
    refine Go_alenZ (n := 600) (pc' := 20) dX9_skipBlanks_19 rfl (S.b 72 rfl rfl) (S.k 72 rfl rfl rfl) (Or.inl rfl) ?_
    refine Go_icmp_geY (tgt := 65) (pc' := 23) dX9_skipBlanks_20 (by decide) rfl (by first | exact ⟨i_lo _, i_hi _⟩ | omega) (by first | exact ⟨i_lo _, i_hi _⟩ | omega) (fun c20 => by exfalso; omega) (fun c20 => ?_)
    refine Go_aload_n (pc' := 24) dX9_skipBlanks_23 rfl rfl rfl ?_
    refine Go_getRs (pc' := 27) dX9_skipBlanks_24 rfl kf_RX9_9 (by decide) (by decide) rfl (S.b 71 rfl rfl) (S.o 71 rfl rfl rfl) (S.r 71 0 rfl rfl rfl) ?_
    refine Go_aload_n (pc' := 28) dX9_skipBlanks_27 rfl rfl rfl ?_
    refine Go_getIv (v := (iZ (p : Int))) (pc' := 31) dX9_skipBlanks_28 rfl kf_RX9_56 (by decide) (by decide) rfl (S.b 71 rfl rfl) (S.o 71 rfl rfl rfl) (vi_same) ?_
    refine Go_ialoadZ (n := 600) (k := p) (v := (iZ (T p))) (pc' := 32) dX9_skipBlanks_31 rfl (S.b 72 rfl rfl) (S.k 72 rfl rfl rfl) rfl (by omega) (by decide) ((vi_skip (Or.inl (by decide))).trans ((ht p (by omega)).1)) ?_
    refine Go_bipush (v := iZ 32) (pc' := 34) dX9_skipBlanks_32 rfl (by decide) ?_
    refine Go_icmp_eqY (tgt := 52) (pc' := 37) dX9_skipBlanks_34 (by decide) rfl (by first | exact ⟨i_lo _, i_hi _⟩ | omega) (by first | exact ⟨i_lo _, i_hi _⟩ | omega) (fun c34 => ?_) (fun c34 => ?_)
    · refine Go_aload_n (pc' := 53) dX9_skipBlanks_52 rfl rfl rfl ?_
      refine Go_dup (pc' := 54) dX9_skipBlanks_53 rfl rfl ?_
      refine Go_getIv (v := (iZ (p : Int))) (pc' := 57) dX9_skipBlanks_54 rfl kf_RX9_56 (by decide) (by decide) rfl (S.b 71 rfl rfl) (S.o 71 rfl rfl rfl) (vi_same) ?_
      refine Go_iconst (v := iZ 1) (pc' := 58) dX9_skipBlanks_57 rfl (by decide) ?_
      refine Go_iaddZ (pc' := 59) dX9_skipBlanks_58 rfl ?_
      refine Go_putI (pc' := 62) dX9_skipBlanks_59 rfl kf_RX9_56 (by decide) (by decide) rfl (S.b 71 rfl rfl) (S.o 71 rfl rfl rfl) (Or.inl rfl) rfl rfl ?_
      refine Go_goto (tgt := 0) dX9_skipBlanks_62 (by decide) ?_
      rw [skp_t (by unfold blB; rw [decide_eq_true_iff]; omega)] at hk
      rw [wI_wI]
      exact ih (p + 1) (by omega) hk
    · refine Go_aload_n (pc' := 38) dX9_skipBlanks_37 rfl rfl rfl ?_
      refine Go_getRs (pc' := 41) dX9_skipBlanks_38 rfl kf_RX9_9 (by decide) (by decide) rfl (S.b 71 rfl rfl) (S.o 71 rfl rfl rfl) (S.r 71 0 rfl rfl rfl) ?_
      refine Go_aload_n (pc' := 42) dX9_skipBlanks_41 rfl rfl rfl ?_
      refine Go_getIv (v := (iZ (p : Int))) (pc' := 45) dX9_skipBlanks_42 rfl kf_RX9_56 (by decide) (by decide) rfl (S.b 71 rfl rfl) (S.o 71 rfl rfl rfl) (vi_same) ?_
      refine Go_ialoadZ (n := 600) (k := p) (v := (iZ (T p))) (pc' := 46) dX9_skipBlanks_45 rfl (S.b 72 rfl rfl) (S.k 72 rfl rfl rfl) rfl (by omega) (by decide) ((vi_skip (Or.inl (by decide))).trans ((ht p (by omega)).1)) ?_
      refine Go_bipush (v := iZ 10) (pc' := 48) dX9_skipBlanks_46 rfl (by decide) ?_
      refine Go_icmp_eqY (tgt := 52) (pc' := 51) dX9_skipBlanks_48 (by decide) rfl (by first | exact ⟨i_lo _, i_hi _⟩ | omega) (by first | exact ⟨i_lo _, i_hi _⟩ | omega) (fun c48 => ?_) (fun c48 => ?_)
      · refine Go_aload_n (pc' := 53) dX9_skipBlanks_52 rfl rfl rfl ?_
        refine Go_dup (pc' := 54) dX9_skipBlanks_53 rfl rfl ?_
        refine Go_getIv (v := (iZ (p : Int))) (pc' := 57) dX9_skipBlanks_54 rfl kf_RX9_56 (by decide) (by decide) rfl (S.b 71 rfl rfl) (S.o 71 rfl rfl rfl) (vi_same) ?_
        refine Go_iconst (v := iZ 1) (pc' := 58) dX9_skipBlanks_57 rfl (by decide) ?_
        refine Go_iaddZ (pc' := 59) dX9_skipBlanks_58 rfl ?_
        refine Go_putI (pc' := 62) dX9_skipBlanks_59 rfl kf_RX9_56 (by decide) (by decide) rfl (S.b 71 rfl rfl) (S.o 71 rfl rfl rfl) (Or.inl rfl) rfl rfl ?_
        refine Go_goto (tgt := 0) dX9_skipBlanks_62 (by decide) ?_
        rw [skp_t (by unfold blB; rw [decide_eq_true_iff]; omega)] at hk
        rw [wI_wI]
        exact ih (p + 1) (by omega) hk
      · refine Go_return dX9_skipBlanks_51 rfl ?_
        rw [skp_f (by unfold blB; rw [decide_eq_true_iff]; omega)] at hk; exact hk
set_option maxRecDepth 20000 in
set_option maxHeartbeats 1000000 in
theorem s_skL {G : GC} {d mc ms : Nat} {H : HS} {K : Option Value → HS → Prop} {T : Nat → Int} {n : Nat} (F : TF H T n) : ∀ (m p : Nat), p + m = n → K none (wI H 71 2 (iZ (skp leB T m p : Nat))) → Go G (d + 1) mc ms M_X9_skipLetters 0 [.ref 71] [] (wI H 71 2 (iZ (p : Int))) K := by
  obtain ⟨S, hn, en, ht⟩ := id F
  intro m
  induction m with
  | zero =>
    intro p hm hk
    refine Go_aload_n (pc' := 1) dX9_skipLetters_0 rfl rfl rfl ?_
    refine Go_getIv (v := (iZ (p : Int))) (pc' := 4) dX9_skipLetters_1 rfl kf_RX9_56 (by decide) (by decide) rfl (S.b 71 rfl rfl) (S.o 71 rfl rfl rfl) (vi_same) ?_
    refine Go_aload_n (pc' := 5) dX9_skipLetters_4 rfl rfl rfl ?_
    refine Go_getIv (v := (iZ (n : Int))) (pc' := 8) dX9_skipLetters_5 rfl kf_RX9_32 (by decide) (by decide) rfl (S.b 71 rfl rfl) (S.o 71 rfl rfl rfl) ((vi_skip (Or.inr (by decide))).trans (en)) ?_
    refine Go_icmp_geY (tgt := 52) (pc' := 11) dX9_skipLetters_8 (by decide) rfl (by first | exact ⟨i_lo _, i_hi _⟩ | omega) (by first | exact ⟨i_lo _, i_hi _⟩ | omega) (fun c8 => ?_) (fun c8 => by exfalso; omega)
    refine Go_return dX9_skipLetters_52 rfl ?_
    exact hk
  | succ m ih =>
    intro p hm hk
    have tp := (ht p (by omega)).2
    refine Go_aload_n (pc' := 1) dX9_skipLetters_0 rfl rfl rfl ?_
    refine Go_getIv (v := (iZ (p : Int))) (pc' := 4) dX9_skipLetters_1 rfl kf_RX9_56 (by decide) (by decide) rfl (S.b 71 rfl rfl) (S.o 71 rfl rfl rfl) (vi_same) ?_
    refine Go_aload_n (pc' := 5) dX9_skipLetters_4 rfl rfl rfl ?_
    refine Go_getIv (v := (iZ (n : Int))) (pc' := 8) dX9_skipLetters_5 rfl kf_RX9_32 (by decide) (by decide) rfl (S.b 71 rfl rfl) (S.o 71 rfl rfl rfl) ((vi_skip (Or.inr (by decide))).trans (en)) ?_
    refine Go_icmp_geY (tgt := 52) (pc' := 11) dX9_skipLetters_8 (by decide) rfl (by first | exact ⟨i_lo _, i_hi _⟩ | omega) (by first | exact ⟨i_lo _, i_hi _⟩ | omega) (fun c8 => by exfalso; omega) (fun c8 => ?_)
    refine Go_aload_n (pc' := 12) dX9_skipLetters_11 rfl rfl rfl ?_
    refine Go_getIv (v := (iZ (p : Int))) (pc' := 15) dX9_skipLetters_12 rfl kf_RX9_56 (by decide) (by decide) rfl (S.b 71 rfl rfl) (S.o 71 rfl rfl rfl) (vi_same) ?_
    refine Go_aload_n (pc' := 16) dX9_skipLetters_15 rfl rfl rfl ?_
    refine Go_getRs (pc' := 19) dX9_skipLetters_16 rfl kf_RX9_9 (by decide) (by decide) rfl (S.b 71 rfl rfl) (S.o 71 rfl rfl rfl) (S.r 71 0 rfl rfl rfl) ?_
    refine Go_alenZ (n := 600) (pc' := 20) dX9_skipLetters_19 rfl (S.b 72 rfl rfl) (S.k 72 rfl rfl rfl) (Or.inl rfl) ?_
    refine Go_icmp_geY (tgt := 52) (pc' := 23) dX9_skipLetters_20 (by decide) rfl (by first | exact ⟨i_lo _, i_hi _⟩ | omega) (by first | exact ⟨i_lo _, i_hi _⟩ | omega) (fun c20 => by exfalso; omega) (fun c20 => ?_)
    refine Go_aload_n (pc' := 24) dX9_skipLetters_23 rfl rfl rfl ?_
    refine Go_getRs (pc' := 27) dX9_skipLetters_24 rfl kf_RX9_9 (by decide) (by decide) rfl (S.b 71 rfl rfl) (S.o 71 rfl rfl rfl) (S.r 71 0 rfl rfl rfl) ?_
    refine Go_aload_n (pc' := 28) dX9_skipLetters_27 rfl rfl rfl ?_
    refine Go_getIv (v := (iZ (p : Int))) (pc' := 31) dX9_skipLetters_28 rfl kf_RX9_56 (by decide) (by decide) rfl (S.b 71 rfl rfl) (S.o 71 rfl rfl rfl) (vi_same) ?_
    refine Go_ialoadZ (n := 600) (k := p) (v := (iZ (T p))) (pc' := 32) dX9_skipLetters_31 rfl (S.b 72 rfl rfl) (S.k 72 rfl rfl rfl) rfl (by omega) (by decide) ((vi_skip (Or.inl (by decide))).trans ((ht p (by omega)).1)) ?_
    refine Go_callS_i (pc' := 35) (As := [.int _]) (st := []) dX9_skipLetters_32 rfl ok_X9_isLetter km_RX9_132 rfl (Nat.le_of_ble_eq_true rfl) rfl rfl rfl (Nat.le_of_ble_eq_true rfl) (Nat.lt_succ_self _) ?_
    refine Go_iload_n (pc' := 1) dX9_isLetter_0 rfl rfl rfl ?_
    refine Go_bipush (v := iZ 97) (pc' := 3) dX9_isLetter_1 rfl (by decide) ?_
    refine Go_icmp_ltY (tgt := 12) (pc' := 6) dX9_isLetter_3 (by decide) rfl (by first | exact ⟨i_lo _, i_hi _⟩ | omega) (by first | exact ⟨i_lo _, i_hi _⟩ | omega) (fun l3 => ?_) (fun l3 => ?_)
    · refine Go_iload_n (pc' := 13) dX9_isLetter_12 rfl rfl rfl ?_
      refine Go_bipush (v := iZ 65) (pc' := 15) dX9_isLetter_13 rfl (by decide) ?_
      refine Go_icmp_ltY (tgt := 28) (pc' := 18) dX9_isLetter_15 (by decide) rfl (by first | exact ⟨i_lo _, i_hi _⟩ | omega) (by first | exact ⟨i_lo _, i_hi _⟩ | omega) (fun l15 => ?_) (fun l15 => ?_)
      · refine Go_iconst (v := iZ 0) (pc' := 29) dX9_isLetter_28 rfl (by decide) ?_
        refine Go_ireturn (ty := .boolean) dX9_isLetter_29 rfl rfl ?_
        refine ⟨_, rfl, ?_⟩
        refine Go_if_neY (tgt := 39) (pc' := 38) dX9_skipLetters_35 (by decide) rfl (by first | exact ⟨i_lo _, i_hi _⟩ | omega) (fun c35 => by exfalso; omega) (fun c35 => ?_)
        refine Go_return dX9_skipLetters_38 rfl ?_
        rw [skp_f (by unfold leB; rw [decide_eq_true_iff]; omega)] at hk; exact hk
      · refine Go_iload_n (pc' := 19) dX9_isLetter_18 rfl rfl rfl ?_
        refine Go_bipush (v := iZ 90) (pc' := 21) dX9_isLetter_19 rfl (by decide) ?_
        refine Go_icmp_gtY (tgt := 28) (pc' := 24) dX9_isLetter_21 (by decide) rfl (by first | exact ⟨i_lo _, i_hi _⟩ | omega) (by first | exact ⟨i_lo _, i_hi _⟩ | omega) (fun l21 => ?_) (fun l21 => ?_)
        · refine Go_iconst (v := iZ 0) (pc' := 29) dX9_isLetter_28 rfl (by decide) ?_
          refine Go_ireturn (ty := .boolean) dX9_isLetter_29 rfl rfl ?_
          refine ⟨_, rfl, ?_⟩
          refine Go_if_neY (tgt := 39) (pc' := 38) dX9_skipLetters_35 (by decide) rfl (by first | exact ⟨i_lo _, i_hi _⟩ | omega) (fun c35 => by exfalso; omega) (fun c35 => ?_)
          refine Go_return dX9_skipLetters_38 rfl ?_
          rw [skp_f (by unfold leB; rw [decide_eq_true_iff]; omega)] at hk; exact hk
        · refine Go_iconst (v := iZ 1) (pc' := 25) dX9_isLetter_24 rfl (by decide) ?_
          refine Go_goto (tgt := 29) dX9_isLetter_25 (by decide) ?_
          refine Go_ireturn (ty := .boolean) dX9_isLetter_29 rfl rfl ?_
          refine ⟨_, rfl, ?_⟩
          refine Go_if_neY (tgt := 39) (pc' := 38) dX9_skipLetters_35 (by decide) rfl (by first | exact ⟨i_lo _, i_hi _⟩ | omega) (fun c35 => ?_) (fun c35 => by exfalso; omega)
          refine Go_aload_n (pc' := 40) dX9_skipLetters_39 rfl rfl rfl ?_
          refine Go_dup (pc' := 41) dX9_skipLetters_40 rfl rfl ?_
          refine Go_getIv (v := (iZ (p : Int))) (pc' := 44) dX9_skipLetters_41 rfl kf_RX9_56 (by decide) (by decide) rfl (S.b 71 rfl rfl) (S.o 71 rfl rfl rfl) (vi_same) ?_
          refine Go_iconst (v := iZ 1) (pc' := 45) dX9_skipLetters_44 rfl (by decide) ?_
          refine Go_iaddZ (pc' := 46) dX9_skipLetters_45 rfl ?_
          refine Go_putI (pc' := 49) dX9_skipLetters_46 rfl kf_RX9_56 (by decide) (by decide) rfl (S.b 71 rfl rfl) (S.o 71 rfl rfl rfl) (Or.inl rfl) rfl rfl ?_
          refine Go_goto (tgt := 0) dX9_skipLetters_49 (by decide) ?_
          rw [skp_t (by unfold leB; rw [decide_eq_true_iff]; omega)] at hk
          rw [wI_wI]
          exact ih (p + 1) (by omega) hk
    · refine Go_iload_n (pc' := 7) dX9_isLetter_6 rfl rfl rfl ?_
      refine Go_bipush (v := iZ 122) (pc' := 9) dX9_isLetter_7 rfl (by decide) ?_
      refine Go_icmp_leY (tgt := 24) (pc' := 12) dX9_isLetter_9 (by decide) rfl (by first | exact ⟨i_lo _, i_hi _⟩ | omega) (by first | exact ⟨i_lo _, i_hi _⟩ | omega) (fun l9 => ?_) (fun l9 => ?_)
      · refine Go_iconst (v := iZ 1) (pc' := 25) dX9_isLetter_24 rfl (by decide) ?_
        refine Go_goto (tgt := 29) dX9_isLetter_25 (by decide) ?_
        refine Go_ireturn (ty := .boolean) dX9_isLetter_29 rfl rfl ?_
        refine ⟨_, rfl, ?_⟩
        refine Go_if_neY (tgt := 39) (pc' := 38) dX9_skipLetters_35 (by decide) rfl (by first | exact ⟨i_lo _, i_hi _⟩ | omega) (fun c35 => ?_) (fun c35 => by exfalso; omega)
        refine Go_aload_n (pc' := 40) dX9_skipLetters_39 rfl rfl rfl ?_
        refine Go_dup (pc' := 41) dX9_skipLetters_40 rfl rfl ?_
        refine Go_getIv (v := (iZ (p : Int))) (pc' := 44) dX9_skipLetters_41 rfl kf_RX9_56 (by decide) (by decide) rfl (S.b 71 rfl rfl) (S.o 71 rfl rfl rfl) (vi_same) ?_
        refine Go_iconst (v := iZ 1) (pc' := 45) dX9_skipLetters_44 rfl (by decide) ?_
        refine Go_iaddZ (pc' := 46) dX9_skipLetters_45 rfl ?_
        refine Go_putI (pc' := 49) dX9_skipLetters_46 rfl kf_RX9_56 (by decide) (by decide) rfl (S.b 71 rfl rfl) (S.o 71 rfl rfl rfl) (Or.inl rfl) rfl rfl ?_
        refine Go_goto (tgt := 0) dX9_skipLetters_49 (by decide) ?_
        rw [skp_t (by unfold leB; rw [decide_eq_true_iff]; omega)] at hk
        rw [wI_wI]
        exact ih (p + 1) (by omega) hk
      · refine Go_iload_n (pc' := 13) dX9_isLetter_12 rfl rfl rfl ?_
        refine Go_bipush (v := iZ 65) (pc' := 15) dX9_isLetter_13 rfl (by decide) ?_
        refine Go_icmp_ltY (tgt := 28) (pc' := 18) dX9_isLetter_15 (by decide) rfl (by first | exact ⟨i_lo _, i_hi _⟩ | omega) (by first | exact ⟨i_lo _, i_hi _⟩ | omega) (fun l15 => ?_) (fun l15 => ?_)
        · refine Go_iconst (v := iZ 0) (pc' := 29) dX9_isLetter_28 rfl (by decide) ?_
          refine Go_ireturn (ty := .boolean) dX9_isLetter_29 rfl rfl ?_
          refine ⟨_, rfl, ?_⟩
          refine Go_if_neY (tgt := 39) (pc' := 38) dX9_skipLetters_35 (by decide) rfl (by first | exact ⟨i_lo _, i_hi _⟩ | omega) (fun c35 => by exfalso; omega) (fun c35 => ?_)
          refine Go_return dX9_skipLetters_38 rfl ?_
          rw [skp_f (by unfold leB; rw [decide_eq_true_iff]; omega)] at hk; exact hk
        · refine Go_iload_n (pc' := 19) dX9_isLetter_18 rfl rfl rfl ?_
          refine Go_bipush (v := iZ 90) (pc' := 21) dX9_isLetter_19 rfl (by decide) ?_
          refine Go_icmp_gtY (tgt := 28) (pc' := 24) dX9_isLetter_21 (by decide) rfl (by first | exact ⟨i_lo _, i_hi _⟩ | omega) (by first | exact ⟨i_lo _, i_hi _⟩ | omega) (fun l21 => ?_) (fun l21 => ?_)
          · refine Go_iconst (v := iZ 0) (pc' := 29) dX9_isLetter_28 rfl (by decide) ?_
            refine Go_ireturn (ty := .boolean) dX9_isLetter_29 rfl rfl ?_
            refine ⟨_, rfl, ?_⟩
            refine Go_if_neY (tgt := 39) (pc' := 38) dX9_skipLetters_35 (by decide) rfl (by first | exact ⟨i_lo _, i_hi _⟩ | omega) (fun c35 => by exfalso; omega) (fun c35 => ?_)
            refine Go_return dX9_skipLetters_38 rfl ?_
            rw [skp_f (by unfold leB; rw [decide_eq_true_iff]; omega)] at hk; exact hk
          · refine Go_iconst (v := iZ 1) (pc' := 25) dX9_isLetter_24 rfl (by decide) ?_
            refine Go_goto (tgt := 29) dX9_isLetter_25 (by decide) ?_
            refine Go_ireturn (ty := .boolean) dX9_isLetter_29 rfl rfl ?_
            refine ⟨_, rfl, ?_⟩
            refine Go_if_neY (tgt := 39) (pc' := 38) dX9_skipLetters_35 (by decide) rfl (by first | exact ⟨i_lo _, i_hi _⟩ | omega) (fun c35 => ?_) (fun c35 => by exfalso; omega)
            refine Go_aload_n (pc' := 40) dX9_skipLetters_39 rfl rfl rfl ?_
            refine Go_dup (pc' := 41) dX9_skipLetters_40 rfl rfl ?_
            refine Go_getIv (v := (iZ (p : Int))) (pc' := 44) dX9_skipLetters_41 rfl kf_RX9_56 (by decide) (by decide) rfl (S.b 71 rfl rfl) (S.o 71 rfl rfl rfl) (vi_same) ?_
            refine Go_iconst (v := iZ 1) (pc' := 45) dX9_skipLetters_44 rfl (by decide) ?_
            refine Go_iaddZ (pc' := 46) dX9_skipLetters_45 rfl ?_
            refine Go_putI (pc' := 49) dX9_skipLetters_46 rfl kf_RX9_56 (by decide) (by decide) rfl (S.b 71 rfl rfl) (S.o 71 rfl rfl rfl) (Or.inl rfl) rfl rfl ?_
            refine Go_goto (tgt := 0) dX9_skipLetters_49 (by decide) ?_
            rw [skp_t (by unfold leB; rw [decide_eq_true_iff]; omega)] at hk
            rw [wI_wI]
            exact ih (p + 1) (by omega) hk
set_option maxRecDepth 20000 in
set_option maxHeartbeats 1000000 in
theorem tt_loop {G : GC} {d mc ms : Nat} {H : HS} {K : Option Value → HS → Prop} {T : Nat → Int} {n : Nat} {p e j : Nat} (F : TF H T n) (hj : j < 15) (he : e ≤ n) (hpe : p ≤ e) (e2 : vi H 71 2 = iZ (e : Int)) (e4 : vi H 71 4 = iZ (p : Int)) (hl : e = p + (strT j).length) : ∀ (m k : Nat), k + m = (strT j).length → K (some (.int (b2i (mtB T p j m k = true)))) H → Go G (d + 4) mc ms M_X9_isTokenText 32 [.ref 71, .ref (1 + 2 * j), .int (iZ (k : Int))] [] H K := by
  obtain ⟨S, hn, en, ht⟩ := id F
  have l10 := ln_10 j hj
  intro m
  induction m with
  | zero =>
    intro k hm hk
    refine Go_iload_n (pc' := 33) dX9_isTokenText_32 rfl rfl rfl ?_
    refine Go_aload_n (pc' := 34) dX9_isTokenText_33 rfl rfl rfl ?_
    refine Go_callVS_i (pc' := 37) (As := []) (st := [.int _]) dX9_isTokenText_34 rfl ok_J0_length_8abf5 km_RX9_164 hj rfl rfl (Nat.le_of_ble_eq_true rfl) rfl rfl rfl (Nat.le_of_ble_eq_true rfl) (Nat.lt_succ_self _) ?_
    refine s_slen hj ?_
    refine ⟨_, rfl, ?_⟩
    refine Go_icmp_geY (tgt := 67) (pc' := 40) dX9_isTokenText_37 (by decide) rfl (by first | exact ⟨i_lo _, i_hi _⟩ | omega) (by first | exact ⟨i_lo _, i_hi _⟩ | omega) (fun c37 => ?_) (fun c37 => by exfalso; omega)
    refine Go_iconst (v := iZ 1) (pc' := 68) dX9_isTokenText_67 rfl (by decide) ?_
    refine Go_ireturn (ty := .boolean) dX9_isTokenText_68 rfl rfl ?_
    exact hk
  | succ m ih =>
    intro k hm hk
    have tp := (ht (p + k) (by omega)).2
    refine Go_iload_n (pc' := 33) dX9_isTokenText_32 rfl rfl rfl ?_
    refine Go_aload_n (pc' := 34) dX9_isTokenText_33 rfl rfl rfl ?_
    refine Go_callVS_i (pc' := 37) (As := []) (st := [.int _]) dX9_isTokenText_34 rfl ok_J0_length_8abf5 km_RX9_164 hj rfl rfl (Nat.le_of_ble_eq_true rfl) rfl rfl rfl (Nat.le_of_ble_eq_true rfl) (Nat.lt_succ_self _) ?_
    refine s_slen hj ?_
    refine ⟨_, rfl, ?_⟩
    refine Go_icmp_geY (tgt := 67) (pc' := 40) dX9_isTokenText_37 (by decide) rfl (by first | exact ⟨i_lo _, i_hi _⟩ | omega) (by first | exact ⟨i_lo _, i_hi _⟩ | omega) (fun c37 => by exfalso; omega) (fun c37 => ?_)
    refine Go_aload_n (pc' := 41) dX9_isTokenText_40 rfl rfl rfl ?_
    refine Go_getRs (pc' := 44) dX9_isTokenText_41 rfl kf_RX9_9 (by decide) (by decide) rfl (S.b 71 rfl rfl) (S.o 71 rfl rfl rfl) (S.r 71 0 rfl rfl rfl) ?_
    refine Go_aload_n (pc' := 45) dX9_isTokenText_44 rfl rfl rfl ?_
    refine Go_getIv (v := (iZ (p : Int))) (pc' := 48) dX9_isTokenText_45 rfl kf_RX9_68 (by decide) (by decide) rfl (S.b 71 rfl rfl) (S.o 71 rfl rfl rfl) (e4) ?_
    refine Go_iload_n (pc' := 49) dX9_isTokenText_48 rfl rfl rfl ?_
    refine Go_iaddZ (pc' := 50) dX9_isTokenText_49 rfl ?_
    refine Go_ialoadZ (n := 600) (k := (p + k)) (v := (iZ (T (p + k)))) (pc' := 51) dX9_isTokenText_50 rfl (S.b 72 rfl rfl) (S.k 72 rfl rfl rfl) (by omega) (by omega) (by decide) ((ht (p + k) (by omega)).1) ?_
    refine Go_aload_n (pc' := 52) dX9_isTokenText_51 rfl rfl rfl ?_
    refine Go_iload_n (pc' := 53) dX9_isTokenText_52 rfl rfl rfl ?_
    refine Go_callVS_i (pc' := 56) (As := [.int _]) (st := [.int _]) dX9_isTokenText_53 rfl ok_J0_charAt_5068e km_RX9_167 hj rfl rfl (Nat.le_of_ble_eq_true rfl) rfl rfl rfl (Nat.le_of_ble_eq_true rfl) (Nat.lt_succ_self _) ?_
    refine s_charAt hj (by omega) ?_
    rw [← iZ_self ((strT j).getD k 0)]
    refine ⟨_, rfl, ?_⟩
    refine Go_icmp_eqY (tgt := 61) (pc' := 59) dX9_isTokenText_56 (by decide) rfl (by first | exact ⟨i_lo _, i_hi _⟩ | omega) (by first | exact ⟨i_lo _, i_hi _⟩ | omega) (fun c56 => ?_) (fun c56 => ?_)
    · refine Go_iincZ (pc' := 64) (lv' := [.ref _, .ref _, .int _]) dX9_isTokenText_61 rfl rfl (Nat.le_of_ble_eq_true rfl) rfl rfl ?_
      refine Go_goto (tgt := 32) dX9_isTokenText_64 (by decide) ?_
      rw [mtB_t c56] at hk
      exact ih (k + 1) (by omega) hk
    · refine Go_iconst (v := iZ 0) (pc' := 60) dX9_isTokenText_59 rfl (by decide) ?_
      refine Go_ireturn (ty := .boolean) dX9_isTokenText_60 rfl rfl ?_
      rw [mtB_f c56] at hk; exact hk
set_option maxRecDepth 20000 in
set_option maxHeartbeats 1000000 in
theorem s_tt {G : GC} {d mc ms : Nat} {H : HS} {K : Option Value → HS → Prop} {T : Nat → Int} {n : Nat} {p e j : Nat} (F : TF H T n) (hj : j < 15) (he : e ≤ n) (hpe : p ≤ e) (e2 : vi H 71 2 = iZ (e : Int)) (e4 : vi H 71 4 = iZ (p : Int)) (hk : K (some (.int (b2i (wdP T p e j)))) H) : Go G (d + 4) mc ms M_X9_isTokenText 0 [.ref 71, .ref (1 + 2 * j), un] [] H K := by
  obtain ⟨S, hn, en, ht⟩ := id F
  have l10 := ln_10 j hj
  refine Go_aload_n (pc' := 1) dX9_isTokenText_0 rfl rfl rfl ?_
  refine Go_callVS_i (pc' := 4) (As := []) (st := []) dX9_isTokenText_1 rfl ok_J0_length_8abf5 km_RX9_164 hj rfl rfl (Nat.le_of_ble_eq_true rfl) rfl rfl rfl (Nat.le_of_ble_eq_true rfl) (Nat.lt_succ_self _) ?_
  refine s_slen hj ?_
  refine ⟨_, rfl, ?_⟩
  refine Go_aload_n (pc' := 5) dX9_isTokenText_4 rfl rfl rfl ?_
  refine Go_getIv (v := (iZ (e : Int))) (pc' := 8) dX9_isTokenText_5 rfl kf_RX9_56 (by decide) (by decide) rfl (S.b 71 rfl rfl) (S.o 71 rfl rfl rfl) (e2) ?_
  refine Go_aload_n (pc' := 9) dX9_isTokenText_8 rfl rfl rfl ?_
  refine Go_getIv (v := (iZ (p : Int))) (pc' := 12) dX9_isTokenText_9 rfl kf_RX9_68 (by decide) (by decide) rfl (S.b 71 rfl rfl) (S.o 71 rfl rfl rfl) (e4) ?_
  refine Go_isubZ (pc' := 13) dX9_isTokenText_12 rfl ?_
  refine Go_icmp_neY (tgt := 28) (pc' := 16) dX9_isTokenText_13 (by decide) rfl (by first | exact ⟨i_lo _, i_hi _⟩ | omega) (by first | exact ⟨i_lo _, i_hi _⟩ | omega) (fun c13 => ?_) (fun c13 => ?_)
  · refine Go_iconst (v := iZ 0) (pc' := 29) dX9_isTokenText_28 rfl (by decide) ?_
    refine Go_ireturn (ty := .boolean) dX9_isTokenText_29 rfl rfl ?_
    rw [b2i_f (fun z : wdP T p e j => by have := z.1; omega)] at hk; exact hk
  · refine Go_aload_n (pc' := 17) dX9_isTokenText_16 rfl rfl rfl ?_
    refine Go_getIv (v := (iZ (e : Int))) (pc' := 20) dX9_isTokenText_17 rfl kf_RX9_56 (by decide) (by decide) rfl (S.b 71 rfl rfl) (S.o 71 rfl rfl rfl) (e2) ?_
    refine Go_aload_n (pc' := 21) dX9_isTokenText_20 rfl rfl rfl ?_
    refine Go_getRs (pc' := 24) dX9_isTokenText_21 rfl kf_RX9_9 (by decide) (by decide) rfl (S.b 71 rfl rfl) (S.o 71 rfl rfl rfl) (S.r 71 0 rfl rfl rfl) ?_
    refine Go_alenZ (n := 600) (pc' := 25) dX9_isTokenText_24 rfl (S.b 72 rfl rfl) (S.k 72 rfl rfl rfl) (Or.inl rfl) ?_
    refine Go_icmp_leY (tgt := 30) (pc' := 28) dX9_isTokenText_25 (by decide) rfl (by first | exact ⟨i_lo _, i_hi _⟩ | omega) (by first | exact ⟨i_lo _, i_hi _⟩ | omega) (fun c25 => ?_) (fun c25 => by exfalso; omega)
    refine Go_iconst (v := iZ 0) (pc' := 31) dX9_isTokenText_30 rfl (by decide) ?_
    refine Go_istore_n (pc' := 32) (lv' := [.ref _, .ref _, .int _]) dX9_isTokenText_31 rfl rfl (Nat.le_of_ble_eq_true rfl) rfl rfl ?_
    refine tt_loop F hj he hpe e2 e4 (by omega) (strT j).length 0 (Nat.zero_add _) ?_
    rw [b2i_congr (show wdP T p e j ↔ mtB T p j (strT j).length 0 = true from ⟨fun z => z.2, fun z => ⟨by omega, z⟩⟩)] at hk; exact hk
set_option maxRecDepth 20000 in
set_option maxHeartbeats 1000000 in
theorem s_spell0 {G : GC} {d mc ms : Nat} {H : HS} {K : Option Value → HS → Prop} (hk : K (some (.ref (1 + 2 * 0))) H) : Go G d mc ms M_X9_spelling 0 [.int (iZ 0)] [] H K := by
  refine Go_iload_n (pc' := 1) dX9_spelling_0 rfl rfl rfl ?_
  refine Go_tableIn (off := 67) (tgt := 68) dX9_spelling_1 (by decide) (by decide) (by decide) (by decide) ?_
  refine Go_ldcS (tx := "truck") (j := 0) (pc' := 70) dX9_spelling_68 rfl (by decide +kernel) (by decide) ?_
  refine Go_areturn (r := some _) dX9_spelling_70 rfl ?_
  exact hk
set_option maxRecDepth 20000 in
set_option maxHeartbeats 1000000 in
theorem s_spell1 {G : GC} {d mc ms : Nat} {H : HS} {K : Option Value → HS → Prop} (hk : K (some (.ref (1 + 2 * 1))) H) : Go G d mc ms M_X9_spelling 0 [.int (iZ 1)] [] H K := by
  refine Go_iload_n (pc' := 1) dX9_spelling_0 rfl rfl rfl ?_
  refine Go_tableIn (off := 70) (tgt := 71) dX9_spelling_1 (by decide) (by decide) (by decide) (by decide) ?_
  refine Go_ldcS (tx := "blast") (j := 1) (pc' := 73) dX9_spelling_71 rfl (by decide +kernel) (by decide) ?_
  refine Go_areturn (r := some _) dX9_spelling_73 rfl ?_
  exact hk
set_option maxRecDepth 20000 in
set_option maxHeartbeats 1000000 in
theorem s_spell2 {G : GC} {d mc ms : Nat} {H : HS} {K : Option Value → HS → Prop} (hk : K (some (.ref (1 + 2 * 2))) H) : Go G d mc ms M_X9_spelling 0 [.int (iZ 2)] [] H K := by
  refine Go_iload_n (pc' := 1) dX9_spelling_0 rfl rfl rfl ?_
  refine Go_tableIn (off := 73) (tgt := 74) dX9_spelling_1 (by decide) (by decide) (by decide) (by decide) ?_
  refine Go_ldcS (tx := "quake") (j := 2) (pc' := 76) dX9_spelling_74 rfl (by decide +kernel) (by decide) ?_
  refine Go_areturn (r := some _) dX9_spelling_76 rfl ?_
  exact hk
set_option maxRecDepth 20000 in
set_option maxHeartbeats 1000000 in
theorem s_spell3 {G : GC} {d mc ms : Nat} {H : HS} {K : Option Value → HS → Prop} (hk : K (some (.ref (1 + 2 * 3))) H) : Go G d mc ms M_X9_spelling 0 [.int (iZ 3)] [] H K := by
  refine Go_iload_n (pc' := 1) dX9_spelling_0 rfl rfl rfl ?_
  refine Go_tableIn (off := 76) (tgt := 77) dX9_spelling_1 (by decide) (by decide) (by decide) (by decide) ?_
  refine Go_ldcS (tx := "when") (j := 3) (pc' := 79) dX9_spelling_77 rfl (by decide +kernel) (by decide) ?_
  refine Go_areturn (r := some _) dX9_spelling_79 rfl ?_
  exact hk
set_option maxRecDepth 20000 in
set_option maxHeartbeats 1000000 in
theorem s_spell4 {G : GC} {d mc ms : Nat} {H : HS} {K : Option Value → HS → Prop} (hk : K (some (.ref (1 + 2 * 4))) H) : Go G d mc ms M_X9_spelling 0 [.int (iZ 4)] [] H K := by
  refine Go_iload_n (pc' := 1) dX9_spelling_0 rfl rfl rfl ?_
  refine Go_tableIn (off := 79) (tgt := 80) dX9_spelling_1 (by decide) (by decide) (by decide) (by decide) ?_
  refine Go_ldcS (tx := "or") (j := 4) (pc' := 82) dX9_spelling_80 rfl (by decide +kernel) (by decide) ?_
  refine Go_areturn (r := some _) dX9_spelling_82 rfl ?_
  exact hk
set_option maxRecDepth 20000 in
set_option maxHeartbeats 1000000 in
theorem s_spell5 {G : GC} {d mc ms : Nat} {H : HS} {K : Option Value → HS → Prop} (hk : K (some (.ref (1 + 2 * 5))) H) : Go G d mc ms M_X9_spelling 0 [.int (iZ 5)] [] H K := by
  refine Go_iload_n (pc' := 1) dX9_spelling_0 rfl rfl rfl ?_
  refine Go_tableIn (off := 82) (tgt := 83) dX9_spelling_1 (by decide) (by decide) (by decide) (by decide) ?_
  refine Go_ldcS (tx := "and") (j := 5) (pc' := 85) dX9_spelling_83 rfl (by decide +kernel) (by decide) ?_
  refine Go_areturn (r := some _) dX9_spelling_85 rfl ?_
  exact hk
set_option maxRecDepth 20000 in
set_option maxHeartbeats 1000000 in
theorem s_spell6 {G : GC} {d mc ms : Nat} {H : HS} {K : Option Value → HS → Prop} (hk : K (some (.ref (1 + 2 * 6))) H) : Go G d mc ms M_X9_spelling 0 [.int (iZ 6)] [] H K := by
  refine Go_iload_n (pc' := 1) dX9_spelling_0 rfl rfl rfl ?_
  refine Go_tableIn (off := 85) (tgt := 86) dX9_spelling_1 (by decide) (by decide) (by decide) (by decide) ?_
  refine Go_ldcS (tx := "not") (j := 6) (pc' := 88) dX9_spelling_86 rfl (by decide +kernel) (by decide) ?_
  refine Go_areturn (r := some _) dX9_spelling_88 rfl ?_
  exact hk
set_option maxRecDepth 20000 in
set_option maxHeartbeats 1000000 in
theorem s_spell7 {G : GC} {d mc ms : Nat} {H : HS} {K : Option Value → HS → Prop} (hk : K (some (.ref (1 + 2 * 7))) H) : Go G d mc ms M_X9_spelling 0 [.int (iZ 7)] [] H K := by
  refine Go_iload_n (pc' := 1) dX9_spelling_0 rfl rfl rfl ?_
  refine Go_tableIn (off := 88) (tgt := 89) dX9_spelling_1 (by decide) (by decide) (by decide) (by decide) ?_
  refine Go_ldcS (tx := "hour") (j := 7) (pc' := 91) dX9_spelling_89 rfl (by decide +kernel) (by decide) ?_
  refine Go_areturn (r := some _) dX9_spelling_91 rfl ?_
  exact hk
set_option maxRecDepth 20000 in
set_option maxHeartbeats 1000000 in
theorem s_spell8 {G : GC} {d mc ms : Nat} {H : HS} {K : Option Value → HS → Prop} (hk : K (some (.ref (1 + 2 * 8))) H) : Go G d mc ms M_X9_spelling 0 [.int (iZ 8)] [] H K := by
  refine Go_iload_n (pc' := 1) dX9_spelling_0 rfl rfl rfl ?_
  refine Go_tableIn (off := 91) (tgt := 92) dX9_spelling_1 (by decide) (by decide) (by decide) (by decide) ?_
  refine Go_ldcS (tx := "day") (j := 8) (pc' := 94) dX9_spelling_92 rfl (by decide +kernel) (by decide) ?_
  refine Go_areturn (r := some _) dX9_spelling_94 rfl ?_
  exact hk
set_option maxRecDepth 20000 in
set_option maxHeartbeats 1000000 in
theorem s_spell9 {G : GC} {d mc ms : Nat} {H : HS} {K : Option Value → HS → Prop} (hk : K (some (.ref (1 + 2 * 9))) H) : Go G d mc ms M_X9_spelling 0 [.int (iZ 9)] [] H K := by
  refine Go_iload_n (pc' := 1) dX9_spelling_0 rfl rfl rfl ?_
  refine Go_tableIn (off := 94) (tgt := 95) dX9_spelling_1 (by decide) (by decide) (by decide) (by decide) ?_
  refine Go_ldcS (tx := "peak") (j := 9) (pc' := 97) dX9_spelling_95 rfl (by decide +kernel) (by decide) ?_
  refine Go_areturn (r := some _) dX9_spelling_97 rfl ?_
  exact hk
set_option maxRecDepth 20000 in
set_option maxHeartbeats 1000000 in
theorem s_spell10 {G : GC} {d mc ms : Nat} {H : HS} {K : Option Value → HS → Prop} (hk : K (some (.ref (1 + 2 * 10))) H) : Go G d mc ms M_X9_spelling 0 [.int (iZ 10)] [] H K := by
  refine Go_iload_n (pc' := 1) dX9_spelling_0 rfl rfl rfl ?_
  refine Go_tableIn (off := 97) (tgt := 98) dX9_spelling_1 (by decide) (by decide) (by decide) (by decide) ?_
  refine Go_ldcS (tx := "length") (j := 10) (pc' := 100) dX9_spelling_98 rfl (by decide +kernel) (by decide) ?_
  refine Go_areturn (r := some _) dX9_spelling_100 rfl ?_
  exact hk
set_option maxRecDepth 20000 in
set_option maxHeartbeats 1000000 in
theorem s_spell11 {G : GC} {d mc ms : Nat} {H : HS} {K : Option Value → HS → Prop} (hk : K (some (.ref (1 + 2 * 11))) H) : Go G d mc ms M_X9_spelling 0 [.int (iZ 11)] [] H K := by
  refine Go_iload_n (pc' := 1) dX9_spelling_0 rfl rfl rfl ?_
  refine Go_tableIn (off := 100) (tgt := 101) dX9_spelling_1 (by decide) (by decide) (by decide) (by decide) ?_
  refine Go_ldcS (tx := "crossings") (j := 11) (pc' := 103) dX9_spelling_101 rfl (by decide +kernel) (by decide) ?_
  refine Go_areturn (r := some _) dX9_spelling_103 rfl ?_
  exact hk
set_option maxRecDepth 20000 in
set_option maxHeartbeats 1000000 in
theorem s_spell12 {G : GC} {d mc ms : Nat} {H : HS} {K : Option Value → HS → Prop} (hk : K (some (.ref (1 + 2 * 12))) H) : Go G d mc ms M_X9_spelling 0 [.int (iZ 12)] [] H K := by
  refine Go_iload_n (pc' := 1) dX9_spelling_0 rfl rfl rfl ?_
  refine Go_tableIn (off := 103) (tgt := 104) dX9_spelling_1 (by decide) (by decide) (by decide) (by decide) ?_
  refine Go_ldcS (tx := "rise") (j := 12) (pc' := 106) dX9_spelling_104 rfl (by decide +kernel) (by decide) ?_
  refine Go_areturn (r := some _) dX9_spelling_106 rfl ?_
  exact hk
set_option maxRecDepth 20000 in
set_option maxHeartbeats 1000000 in
theorem s_spell13 {G : GC} {d mc ms : Nat} {H : HS} {K : Option Value → HS → Prop} (hk : K (some (.ref (1 + 2 * 13))) H) : Go G d mc ms M_X9_spelling 0 [.int (iZ 13)] [] H K := by
  refine Go_iload_n (pc' := 1) dX9_spelling_0 rfl rfl rfl ?_
  refine Go_tableOut (tgt := 107) dX9_spelling_1 (by decide) (by decide) ?_
  refine Go_ldcS (tx := "clipped") (j := 13) (pc' := 109) dX9_spelling_107 rfl (by decide +kernel) (by decide) ?_
  refine Go_areturn (r := some _) dX9_spelling_109 rfl ?_
  exact hk
theorem s_spell {G : GC} {d mc ms : Nat} {H : HS} {K : Option Value → HS → Prop} {j : Nat} (hj : j < 14) (hk : K (some (.ref (1 + 2 * j))) H) : Go G d mc ms M_X9_spelling 0 [.int (iZ (j : Int))] [] H K := by
  match j, hj with
  | 0, _ => exact s_spell0 hk
  | 1, _ => exact s_spell1 hk
  | 2, _ => exact s_spell2 hk
  | 3, _ => exact s_spell3 hk
  | 4, _ => exact s_spell4 hk
  | 5, _ => exact s_spell5 hk
  | 6, _ => exact s_spell6 hk
  | 7, _ => exact s_spell7 hk
  | 8, _ => exact s_spell8 hk
  | 9, _ => exact s_spell9 hk
  | 10, _ => exact s_spell10 hk
  | 11, _ => exact s_spell11 hk
  | 12, _ => exact s_spell12 hk
  | 13, _ => exact s_spell13 hk
set_option maxRecDepth 20000 in
set_option maxHeartbeats 1000000 in
theorem kw_loop {G : GC} {d mc ms : Nat} {H : HS} {K : Option Value → HS → Prop} {T : Nat → Int} {n : Nat} {p e : Nat} (F : TF H T n) (he : e ≤ n) (hpe : p ≤ e) (e2 : vi H 71 2 = iZ (e : Int)) (e4 : vi H 71 4 = iZ (p : Int)) : ∀ (m j : Nat), j + m = 14 → K (some (.int (iZ (kwf T p e m j : Nat)))) H → Go G (d + 5) mc ms M_X9_keyword 2 [.ref 71, .int (iZ (j : Int))] [] H K := by
  obtain ⟨S, hn, en, ht⟩ := id F
  intro m
  induction m with
  | zero =>
    intro j hm hk
    refine Go_iload_n (pc' := 3) dX9_keyword_2 rfl rfl rfl ?_
    refine Go_bipush (v := iZ 13) (pc' := 5) dX9_keyword_3 rfl (by decide) ?_
    refine Go_icmp_gtY (tgt := 27) (pc' := 8) dX9_keyword_5 (by decide) rfl (by first | exact ⟨i_lo _, i_hi _⟩ | omega) (by first | exact ⟨i_lo _, i_hi _⟩ | omega) (fun c5 => ?_) (fun c5 => by exfalso; omega)
    refine Go_bipush (v := iZ 22) (pc' := 29) dX9_keyword_27 rfl (by decide) ?_
    refine Go_ireturn (ty := .int) dX9_keyword_29 rfl rfl ?_
    exact hk
  | succ m ih =>
    intro j hm hk
    refine Go_iload_n (pc' := 3) dX9_keyword_2 rfl rfl rfl ?_
    refine Go_bipush (v := iZ 13) (pc' := 5) dX9_keyword_3 rfl (by decide) ?_
    refine Go_icmp_gtY (tgt := 27) (pc' := 8) dX9_keyword_5 (by decide) rfl (by first | exact ⟨i_lo _, i_hi _⟩ | omega) (by first | exact ⟨i_lo _, i_hi _⟩ | omega) (fun c5 => by exfalso; omega) (fun c5 => ?_)
    refine Go_aload_n (pc' := 9) dX9_keyword_8 rfl rfl rfl ?_
    refine Go_iload_n (pc' := 10) dX9_keyword_9 rfl rfl rfl ?_
    refine Go_callS_r (pc' := 13) (As := [.int _]) (st := [.ref _]) dX9_keyword_10 rfl ok_X9_spelling km_RX9_156 rfl (Nat.le_of_ble_eq_true rfl) rfl rfl rfl (Nat.le_of_ble_eq_true rfl) (Nat.lt_succ_self _) ?_
    refine s_spell (j := j) (by omega) ?_
    refine ⟨some _, rfl, ?_⟩
    refine Go_callV_i (pc' := 16) (As := [.ref _]) (st := []) dX9_keyword_13 rfl ok_X9_isTokenText km_RX9_160 (S.o 71 rfl rfl rfl) (S.b 71 rfl rfl) ⟨_, _, rfl⟩ rfl (Nat.le_of_ble_eq_true rfl) rfl rfl rfl (Nat.le_of_ble_eq_true rfl) (Nat.lt_succ_self _) ?_
    refine s_tt F (j := j) (by omega) he hpe e2 e4 ?_
    refine ⟨_, rfl, ?_⟩
    refine Go_if_eqb (tgt := 21) (pc' := 19) dX9_keyword_16 (by decide) rfl (fun c16 => ?_) (fun c16 => ?_)
    · refine Go_iincZ (pc' := 24) (lv' := [.ref _, .int _]) dX9_keyword_21 rfl rfl (Nat.le_of_ble_eq_true rfl) rfl rfl ?_
      refine Go_goto (tgt := 2) dX9_keyword_24 (by decide) ?_
      rw [kwf_f c16] at hk
      exact ih (j + 1) (by omega) hk
    · refine Go_iload_n (pc' := 20) dX9_keyword_19 rfl rfl rfl ?_
      refine Go_ireturn (ty := .int) dX9_keyword_20 rfl rfl ?_
      rw [kwf_t c16] at hk; exact hk
set_option maxRecDepth 20000 in
set_option maxHeartbeats 1000000 in
theorem s_kw {G : GC} {d mc ms : Nat} {H : HS} {K : Option Value → HS → Prop} {T : Nat → Int} {n : Nat} {p e : Nat} (F : TF H T n) (he : e ≤ n) (hpe : p ≤ e) (e2 : vi H 71 2 = iZ (e : Int)) (e4 : vi H 71 4 = iZ (p : Int)) (hk : K (some (.int (iZ (kwf T p e 14 0 : Nat)))) H) : Go G (d + 5) mc ms M_X9_keyword 0 [.ref 71, un] [] H K := by
  obtain ⟨S, hn, en, ht⟩ := id F
  refine Go_iconst (v := iZ 0) (pc' := 1) dX9_keyword_0 rfl (by decide) ?_
  refine Go_istore_n (pc' := 2) (lv' := [.ref _, .int _]) dX9_keyword_1 rfl rfl (Nat.le_of_ble_eq_true rfl) rfl rfl ?_
  exact kw_loop F he hpe e2 e4 14 0 (by omega) hk
