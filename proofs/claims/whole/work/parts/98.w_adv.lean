/-! the class takes the next token -/
/-- all is the same but where P says so -/
def DX (P : Nat → Nat → Prop) (h h' : HS) : Prop := hN h' = hN h ∧ (∀ i, ki h' i = ki h i) ∧ (∀ i k, ri h' i k = ri h i k) ∧ ∀ i k, ¬ P i k → vi h' i k = vi h i k
theorem DX.rf (P : Nat → Nat → Prop) (h : HS) : DX P h h := ⟨rfl, fun _ => rfl, fun _ _ => rfl, fun _ _ _ => rfl⟩
theorem DX.tr {P : Nat → Nat → Prop} {h h1 h2 : HS} (a : DX P h h1) (b : DX P h1 h2) : DX P h h2 := ⟨b.1.trans a.1, fun i => (b.2.1 i).trans (a.2.1 i), fun i k => (b.2.2.1 i k).trans (a.2.2.1 i k), fun i k e => (b.2.2.2 i k e).trans (a.2.2.2 i k e)⟩
theorem DX.wI {P : Nat → Nat → Prop} {h h' : HS} {i k : Nat} {v : Int32} (a : DX P h h') (e : P i k) : DX P h (wI h' i k v) := by
  refine ⟨a.1, a.2.1, a.2.2.1, fun x y hx => ?_⟩
  rw [vi_wI, if_neg (fun z => by rw [z.1, z.2] at hx; exact hx e)]
  exact a.2.2.2 x y hx
theorem DX.mono {P Q : Nat → Nat → Prop} {h h' : HS} (a : DX P h h') (e : ∀ i k, P i k → Q i k) : DX Q h h' := ⟨a.1, a.2.1, a.2.2.1, fun i k z => a.2.2.2 i k (fun y => z (e i k y))⟩
theorem DX.shp {P : Nat → Nat → Prop} {h h' : HS} (D : DX P h h') (S : Shp h) : Shp h' := ⟨by rw [D.1]; exact S.1, fun i a b => by rw [D.2.1]; exact S.2.1 i a b, fun i a b k r e => by rw [D.2.2.1]; exact S.2.2 i a b k r e⟩
theorem TF.w {H : HS} {T : Nat → Int} {n i k : Nat} {v : Int32} (F : TF H T n) (e : i ≠ 72 ∧ (i ≠ 71 ∨ k ≠ 1)) : TF (wI H i k v) T n := by
  obtain ⟨S, hn, en, ht⟩ := F
  exact ⟨S, hn, by rw [vi_skip (by omega)]; exact en, fun j hj => by rw [vi_skip (by omega)]; exact ht j hj⟩
theorem TF.dx {P : Nat → Nat → Prop} {H H' : HS} {T : Nat → Int} {n : Nat} (F : TF H T n) (D : DX P H H') (h1 : ¬ P 71 1) (h2 : ∀ k, ¬ P 72 k) : TF H' T n := by
  obtain ⟨S, hn, en, ht⟩ := F
  exact ⟨D.shp S, hn, by rw [D.2.2.2 _ _ h1]; exact en, fun j hj => by rw [D.2.2.2 _ _ (h2 j)]; exact ht j hj⟩
def nvs (T : Nat → Int) : Nat → Nat → Int → Int
  | 0, _, v => v
  | m + 1, i, v => if diB (T i) = true then nvs T m (i + 1) (10 * v + T i - 48) else v
theorem nvs_t {T : Nat → Int} {m i : Nat} {v : Int} (e : diB (T i) = true) : nvs T (m + 1) i v = nvs T m (i + 1) (10 * v + T i - 48) := by show (if _ then _ else _) = _; rw [if_pos e]
theorem nvs_f {T : Nat → Int} {m i : Nat} {v : Int} (e : ¬ diB (T i) = true) : nvs T (m + 1) i v = v := by show (if _ then _ else _) = _; rw [if_neg e]
/-- the next token from pos on: its place, its end, its number, its value -/
def tP (T : Nat → Int) (n pos : Nat) : Nat := skp blB T (n - pos) pos
def tE (T : Nat → Int) (n pos : Nat) : Nat := if n ≤ tP T n pos then tP T n pos else if leB (T (tP T n pos)) = true then skp leB T (n - tP T n pos) (tP T n pos) else if diB (T (tP T n pos)) = true then skp diB T (n - tP T n pos) (tP T n pos) else tP T n pos + 1
def tC (T : Nat → Int) (n pos : Nat) : Int := if n ≤ tP T n pos then 21 else if leB (T (tP T n pos)) = true then (kwf T (tP T n pos) (tE T n pos) 14 0 : Nat) else if diB (T (tP T n pos)) = true then (if tE T n pos ≤ tP T n pos + 4 then 20 else 22) else (if sgn (T (tP T n pos)) then 100 + T (tP T n pos) else 22)
def tV (T : Nat → Int) (n pos : Nat) : Int := nvs T (n - tP T n pos) (tP T n pos) 0
section
variable {T : Nat → Int} {n pos : Nat}
theorem tP_r (h : pos ≤ n) : pos ≤ tP T n pos ∧ tP T n pos ≤ n := by
  have := skp_r (f := blB) (T := T) (n - pos) pos
  unfold tP; omega
theorem tE_fin (h : n ≤ tP T n pos) : tE T n pos = tP T n pos := if_pos h
theorem tC_fin (h : n ≤ tP T n pos) : tC T n pos = 21 := if_pos h
theorem tE_let (h : ¬ n ≤ tP T n pos) (h1 : leB (T (tP T n pos)) = true) : tE T n pos = skp leB T (n - tP T n pos) (tP T n pos) := by unfold tE; rw [if_neg h, if_pos h1]
theorem tC_let (h : ¬ n ≤ tP T n pos) (h1 : leB (T (tP T n pos)) = true) : tC T n pos = (kwf T (tP T n pos) (tE T n pos) 14 0 : Nat) := by unfold tC; rw [if_neg h, if_pos h1]
theorem tE_dig (h : ¬ n ≤ tP T n pos) (h1 : ¬ leB (T (tP T n pos)) = true) (h2 : diB (T (tP T n pos)) = true) : tE T n pos = skp diB T (n - tP T n pos) (tP T n pos) := by unfold tE; rw [if_neg h, if_neg h1, if_pos h2]
theorem tC_dig (h : ¬ n ≤ tP T n pos) (h1 : ¬ leB (T (tP T n pos)) = true) (h2 : diB (T (tP T n pos)) = true) : tC T n pos = (if tE T n pos ≤ tP T n pos + 4 then 20 else 22) := by unfold tC; rw [if_neg h, if_neg h1, if_pos h2]
theorem tE_sig (h : ¬ n ≤ tP T n pos) (h1 : ¬ leB (T (tP T n pos)) = true) (h2 : ¬ diB (T (tP T n pos)) = true) : tE T n pos = tP T n pos + 1 := by unfold tE; rw [if_neg h, if_neg h1, if_neg h2]
theorem tC_sig (h : ¬ n ≤ tP T n pos) (h1 : ¬ leB (T (tP T n pos)) = true) (h2 : ¬ diB (T (tP T n pos)) = true) : tC T n pos = (if sgn (T (tP T n pos)) then 100 + T (tP T n pos) else 22) := by unfold tC; rw [if_neg h, if_neg h1, if_neg h2]
/-- a token that isn't the end has a byte -/
theorem tE_r (h : pos ≤ n) : tP T n pos ≤ tE T n pos ∧ tE T n pos ≤ n ∧ (tP T n pos < n → tP T n pos < tE T n pos) := by
  have hp := tP_r (T := T) h
  by_cases c : n ≤ tP T n pos
  · rw [tE_fin c]; omega
  · obtain ⟨m, hm⟩ : ∃ m, n - tP T n pos = m + 1 := ⟨n - tP T n pos - 1, by omega⟩
    by_cases c1 : leB (T (tP T n pos)) = true
    · rw [tE_let c c1, hm, skp_t c1]
      have := skp_r (f := leB) (T := T) m (tP T n pos + 1); omega
    · by_cases c2 : diB (T (tP T n pos)) = true
      · rw [tE_dig c c1 c2, hm, skp_t c2]
        have := skp_r (f := diB) (T := T) m (tP T n pos + 1); omega
      · rw [tE_sig c c1 c2]; omega
end
abbrev Pt (i k : Nat) : Prop := i = 71 ∧ 2 ≤ k ∧ k ≤ 5
theorem s_skB' {G : GC} {d mc ms : Nat} {H : HS} {K : Option Value → HS → Prop} {T : Nat → Int} {n : Nat} {pos : Nat} (F : TF H T n) (e2 : vi H 71 2 = iZ (pos : Int)) (hp : pos ≤ n) (hk : K none (wI H 71 2 (iZ (tP T n pos : Nat)))) : Go G (d + 1) mc ms M_X9_skipBlanks 0 [.ref 71] [] H K := by
  have := s_skB (G := G) (d := d) (mc := mc) (ms := ms) F (n - pos) pos (by omega) hk
  rw [wI_se e2] at this; exact this
theorem s_skL' {G : GC} {d mc ms : Nat} {H : HS} {K : Option Value → HS → Prop} {T : Nat → Int} {n : Nat} {pos : Nat} (F : TF H T n) (e2 : vi H 71 2 = iZ (pos : Int)) (hp : pos ≤ n) (hk : K none (wI H 71 2 (iZ (skp leB T (n - pos) pos : Nat)))) : Go G (d + 1) mc ms M_X9_skipLetters 0 [.ref 71] [] H K := by
  have := s_skL (G := G) (d := d) (mc := mc) (ms := ms) F (n - pos) pos (by omega) hk
  rw [wI_se e2] at this; exact this

set_option maxRecDepth 20000 in
set_option maxHeartbeats 1000000 in
theorem tn_loop {G : GC} {d mc ms : Nat} {H : HS} {K : Option Value → HS → Prop} {T : Nat → Int} {n : Nat} (F : TF H T n) : ∀ (m p : Nat) (N : Int), p + m = n → Go G (d + 1) mc ms M_X9_takeNumber 83 [.ref 71] [] (wI (wI H 71 5 (iZ (nvs T m p N))) 71 2 (iZ (skp diB T m p : Nat))) K → Go G (d + 1) mc ms M_X9_takeNumber 5 [.ref 71] [] (wI (wI H 71 5 (iZ N)) 71 2 (iZ (p : Int))) K := by
  obtain ⟨S, hn, en, ht⟩ := id F
  intro m
  induction m with
  | zero =>
    intro p N hm hk
    refine Go_aload_n (pc' := 6) dX9_takeNumber_5 rfl rfl rfl ?_
    refine Go_getIv (v := (iZ (p : Int))) (pc' := 9) dX9_takeNumber_6 rfl kf_RX9_56 (by decide) (by decide) rfl (S.b 71 rfl rfl) (S.o 71 rfl rfl rfl) (vi_same) ?_
    refine Go_aload_n (pc' := 10) dX9_takeNumber_9 rfl rfl rfl ?_
    refine Go_getIv (v := (iZ (n : Int))) (pc' := 13) dX9_takeNumber_10 rfl kf_RX9_32 (by decide) (by decide) rfl (S.b 71 rfl rfl) (S.o 71 rfl rfl rfl) ((vi_skip (Or.inr (by decide))).trans ((vi_skip (Or.inr (by decide))).trans (en))) ?_
    refine Go_icmp_geY (tgt := 83) (pc' := 16) dX9_takeNumber_13 (by decide) rfl (by first | exact ⟨i_lo _, i_hi _⟩ | omega) (by first | exact ⟨i_lo _, i_hi _⟩ | omega) (fun c13 => ?_) (fun c13 => by exfalso; omega)
    exact hk
  | succ m ih =>
    intro p N hm hk
    have tp := (ht p (by omega)).2
    refine Go_aload_n (pc' := 6) dX9_takeNumber_5 rfl rfl rfl ?_
    refine Go_getIv (v := (iZ (p : Int))) (pc' := 9) dX9_takeNumber_6 rfl kf_RX9_56 (by decide) (by decide) rfl (S.b 71 rfl rfl) (S.o 71 rfl rfl rfl) (vi_same) ?_
    refine Go_aload_n (pc' := 10) dX9_takeNumber_9 rfl rfl rfl ?_
    refine Go_getIv (v := (iZ (n : Int))) (pc' := 13) dX9_takeNumber_10 rfl kf_RX9_32 (by decide) (by decide) rfl (S.b 71 rfl rfl) (S.o 71 rfl rfl rfl) ((vi_skip (Or.inr (by decide))).trans ((vi_skip (Or.inr (by decide))).trans (en))) ?_
    refine Go_icmp_geY (tgt := 83) (pc' := 16) dX9_takeNumber_13 (by decide) rfl (by first | exact ⟨i_lo _, i_hi _⟩ | omega) (by first | exact ⟨i_lo _, i_hi _⟩ | omega) (fun c13 => by exfalso; omega) (fun c13 => ?_)
    refine Go_aload_n (pc' := 17) dX9_takeNumber_16 rfl rfl rfl ?_
    refine Go_getIv (v := (iZ (p : Int))) (pc' := 20) dX9_takeNumber_17 rfl kf_RX9_56 (by decide) (by decide) rfl (S.b 71 rfl rfl) (S.o 71 rfl rfl rfl) (vi_same) ?_
    refine Go_aload_n (pc' := 21) dX9_takeNumber_20 rfl rfl rfl ?_
    refine Go_getRs (pc' := 24) dX9_takeNumber_21 rfl kf_RX9_9 (by decide) (by decide) rfl (S.b 71 rfl rfl) (S.o 71 rfl rfl rfl) (S.r 71 0 rfl rfl rfl) ?_
    refine Go_alenZ (n := 600) (pc' := 25) dX9_takeNumber_24 rfl (S.b 72 rfl rfl) (S.k 72 rfl rfl rfl) (Or.inl rfl) ?_
    refine Go_icmp_geY (tgt := 83) (pc' := 28) dX9_takeNumber_25 (by decide) rfl (by first | exact ⟨i_lo _, i_hi _⟩ | omega) (by first | exact ⟨i_lo _, i_hi _⟩ | omega) (fun c25 => by exfalso; omega) (fun c25 => ?_)
    refine Go_aload_n (pc' := 29) dX9_takeNumber_28 rfl rfl rfl ?_
    refine Go_getRs (pc' := 32) dX9_takeNumber_29 rfl kf_RX9_9 (by decide) (by decide) rfl (S.b 71 rfl rfl) (S.o 71 rfl rfl rfl) (S.r 71 0 rfl rfl rfl) ?_
    refine Go_aload_n (pc' := 33) dX9_takeNumber_32 rfl rfl rfl ?_
    refine Go_getIv (v := (iZ (p : Int))) (pc' := 36) dX9_takeNumber_33 rfl kf_RX9_56 (by decide) (by decide) rfl (S.b 71 rfl rfl) (S.o 71 rfl rfl rfl) (vi_same) ?_
    refine Go_ialoadZ (n := 600) (k := p) (v := (iZ (T p))) (pc' := 37) dX9_takeNumber_36 rfl (S.b 72 rfl rfl) (S.k 72 rfl rfl rfl) rfl (by omega) (by decide) ((vi_skip (Or.inl (by decide))).trans ((vi_skip (Or.inl (by decide))).trans ((ht p (by omega)).1))) ?_
    refine Go_callS_i (pc' := 40) (As := [.int _]) (st := []) dX9_takeNumber_37 rfl ok_X9_isDigit km_RX9_143 rfl (Nat.le_of_ble_eq_true rfl) rfl rfl rfl (Nat.le_of_ble_eq_true rfl) (Nat.lt_succ_self _) ?_
    refine Go_iload_n (pc' := 1) dX9_isDigit_0 rfl rfl rfl ?_
    refine Go_bipush (v := iZ 48) (pc' := 3) dX9_isDigit_1 rfl (by decide) ?_
    refine Go_icmp_ltY (tgt := 16) (pc' := 6) dX9_isDigit_3 (by decide) rfl (by first | exact ⟨i_lo _, i_hi _⟩ | omega) (by first | exact ⟨i_lo _, i_hi _⟩ | omega) (fun l3 => ?_) (fun l3 => ?_)
    · refine Go_iconst (v := iZ 0) (pc' := 17) dX9_isDigit_16 rfl (by decide) ?_
      refine Go_ireturn (ty := .boolean) dX9_isDigit_17 rfl rfl ?_
      refine ⟨_, rfl, ?_⟩
      refine Go_if_neY (tgt := 46) (pc' := 43) dX9_takeNumber_40 (by decide) rfl (by first | exact ⟨i_lo _, i_hi _⟩ | omega) (fun c40 => by exfalso; omega) (fun c40 => ?_)
      refine Go_goto (tgt := 83) dX9_takeNumber_43 (by decide) ?_
      rw [skp_f (by unfold diB; rw [decide_eq_true_iff]; omega), nvs_f (by unfold diB; rw [decide_eq_true_iff]; omega)] at hk; exact hk
    · refine Go_iload_n (pc' := 7) dX9_isDigit_6 rfl rfl rfl ?_
      refine Go_bipush (v := iZ 57) (pc' := 9) dX9_isDigit_7 rfl (by decide) ?_
      refine Go_icmp_gtY (tgt := 16) (pc' := 12) dX9_isDigit_9 (by decide) rfl (by first | exact ⟨i_lo _, i_hi _⟩ | omega) (by first | exact ⟨i_lo _, i_hi _⟩ | omega) (fun l9 => ?_) (fun l9 => ?_)
      · refine Go_iconst (v := iZ 0) (pc' := 17) dX9_isDigit_16 rfl (by decide) ?_
        refine Go_ireturn (ty := .boolean) dX9_isDigit_17 rfl rfl ?_
        refine ⟨_, rfl, ?_⟩
        refine Go_if_neY (tgt := 46) (pc' := 43) dX9_takeNumber_40 (by decide) rfl (by first | exact ⟨i_lo _, i_hi _⟩ | omega) (fun c40 => by exfalso; omega) (fun c40 => ?_)
        refine Go_goto (tgt := 83) dX9_takeNumber_43 (by decide) ?_
        rw [skp_f (by unfold diB; rw [decide_eq_true_iff]; omega), nvs_f (by unfold diB; rw [decide_eq_true_iff]; omega)] at hk; exact hk
      · refine Go_iconst (v := iZ 1) (pc' := 13) dX9_isDigit_12 rfl (by decide) ?_
        refine Go_goto (tgt := 17) dX9_isDigit_13 (by decide) ?_
        refine Go_ireturn (ty := .boolean) dX9_isDigit_17 rfl rfl ?_
        refine ⟨_, rfl, ?_⟩
        refine Go_if_neY (tgt := 46) (pc' := 43) dX9_takeNumber_40 (by decide) rfl (by first | exact ⟨i_lo _, i_hi _⟩ | omega) (fun c40 => ?_) (fun c40 => by exfalso; omega)
        refine Go_aload_n (pc' := 47) dX9_takeNumber_46 rfl rfl rfl ?_
        refine Go_bipush (v := iZ 10) (pc' := 49) dX9_takeNumber_47 rfl (by decide) ?_
        refine Go_aload_n (pc' := 50) dX9_takeNumber_49 rfl rfl rfl ?_
        refine Go_getIv (v := (iZ N)) (pc' := 53) dX9_takeNumber_50 rfl kf_RX9_106 (by decide) (by decide) rfl (S.b 71 rfl rfl) (S.o 71 rfl rfl rfl) ((vi_skip (Or.inr (by decide))).trans (vi_same)) ?_
        refine Go_imulZ (pc' := 54) dX9_takeNumber_53 rfl ?_
        refine Go_aload_n (pc' := 55) dX9_takeNumber_54 rfl rfl rfl ?_
        refine Go_getRs (pc' := 58) dX9_takeNumber_55 rfl kf_RX9_9 (by decide) (by decide) rfl (S.b 71 rfl rfl) (S.o 71 rfl rfl rfl) (S.r 71 0 rfl rfl rfl) ?_
        refine Go_aload_n (pc' := 59) dX9_takeNumber_58 rfl rfl rfl ?_
        refine Go_getIv (v := (iZ (p : Int))) (pc' := 62) dX9_takeNumber_59 rfl kf_RX9_56 (by decide) (by decide) rfl (S.b 71 rfl rfl) (S.o 71 rfl rfl rfl) (vi_same) ?_
        refine Go_ialoadZ (n := 600) (k := p) (v := (iZ (T p))) (pc' := 63) dX9_takeNumber_62 rfl (S.b 72 rfl rfl) (S.k 72 rfl rfl rfl) rfl (by omega) (by decide) ((vi_skip (Or.inl (by decide))).trans ((vi_skip (Or.inl (by decide))).trans ((ht p (by omega)).1))) ?_
        refine Go_iaddZ (pc' := 64) dX9_takeNumber_63 rfl ?_
        refine Go_bipush (v := iZ 48) (pc' := 66) dX9_takeNumber_64 rfl (by decide) ?_
        refine Go_isubZ (pc' := 67) dX9_takeNumber_66 rfl ?_
        refine Go_putI (pc' := 70) dX9_takeNumber_67 rfl kf_RX9_106 (by decide) (by decide) rfl (S.b 71 rfl rfl) (S.o 71 rfl rfl rfl) (Or.inl rfl) rfl rfl ?_
        refine Go_aload_n (pc' := 71) dX9_takeNumber_70 rfl rfl rfl ?_
        refine Go_dup (pc' := 72) dX9_takeNumber_71 rfl rfl ?_
        refine Go_getIv (v := (iZ (p : Int))) (pc' := 75) dX9_takeNumber_72 rfl kf_RX9_56 (by decide) (by decide) rfl (S.b 71 rfl rfl) (S.o 71 rfl rfl rfl) ((vi_skip (Or.inr (by decide))).trans (vi_same)) ?_
        refine Go_iconst (v := iZ 1) (pc' := 76) dX9_takeNumber_75 rfl (by decide) ?_
        refine Go_iaddZ (pc' := 77) dX9_takeNumber_76 rfl ?_
        refine Go_putI (pc' := 80) dX9_takeNumber_77 rfl kf_RX9_56 (by decide) (by decide) rfl (S.b 71 rfl rfl) (S.o 71 rfl rfl rfl) (Or.inl rfl) rfl rfl ?_
        refine Go_goto (tgt := 5) dX9_takeNumber_80 (by decide) ?_
        rw [skp_t (by unfold diB; rw [decide_eq_true_iff]; omega), nvs_t (by unfold diB; rw [decide_eq_true_iff]; omega)] at hk
        rw [wI_cm (i := 71) (k := 2) (i' := 71) (k' := 5) (by decide), wI_wI, wI_wI]
        exact ih (p + 1) _ (by omega) hk
set_option maxRecDepth 20000 in
set_option maxHeartbeats 1000000 in
theorem s_tn {G : GC} {d mc ms : Nat} {H : HS} {K : Option Value → HS → Prop} {T : Nat → Int} {n : Nat} {p : Nat} (F : TF H T n) (hp : p ≤ n) (e2 : vi H 71 2 = iZ (p : Int)) (e4 : vi H 71 4 = iZ (p : Int)) (hk : K none (wI (wI (wI H 71 5 (iZ (nvs T (n - p) p 0))) 71 2 (iZ (skp diB T (n - p) p : Nat))) 71 3 (iZ (if skp diB T (n - p) p ≤ p + 4 then 20 else 22)))) : Go G (d + 1) mc ms M_X9_takeNumber 0 [.ref 71] [] H K := by
  obtain ⟨S, hn, en, ht⟩ := id F
  have sr := skp_r (f := diB) (T := T) (n - p) p
  refine Go_aload_n (pc' := 1) dX9_takeNumber_0 rfl rfl rfl ?_
  refine Go_iconst (v := iZ 0) (pc' := 2) dX9_takeNumber_1 rfl (by decide) ?_
  refine Go_putI (pc' := 5) dX9_takeNumber_2 rfl kf_RX9_106 (by decide) (by decide) rfl (S.b 71 rfl rfl) (S.o 71 rfl rfl rfl) (Or.inl rfl) rfl rfl ?_
  rw [← wI_se (h := wI H 71 5 (iZ 0)) (i := 71) (k := 2) (a := iZ (p : Int)) ((vi_skip (by decide)).trans e2)]
  refine tn_loop F (n - p) p 0 (by omega) ?_
  generalize he : skp diB T (n - p) p = e at *
  refine Go_aload_n (pc' := 84) dX9_takeNumber_83 rfl rfl rfl ?_
  refine Go_aload_n (pc' := 85) dX9_takeNumber_84 rfl rfl rfl ?_
  refine Go_getIv (v := (iZ (e : Int))) (pc' := 88) dX9_takeNumber_85 rfl kf_RX9_56 (by decide) (by decide) rfl (S.b 71 rfl rfl) (S.o 71 rfl rfl rfl) (vi_same) ?_
  refine Go_aload_n (pc' := 89) dX9_takeNumber_88 rfl rfl rfl ?_
  refine Go_getIv (v := (iZ (p : Int))) (pc' := 92) dX9_takeNumber_89 rfl kf_RX9_68 (by decide) (by decide) rfl (S.b 71 rfl rfl) (S.o 71 rfl rfl rfl) ((vi_skip (Or.inr (by decide))).trans ((vi_skip (Or.inr (by decide))).trans (e4))) ?_
  refine Go_isubZ (pc' := 93) dX9_takeNumber_92 rfl ?_
  refine Go_iconst (v := iZ 4) (pc' := 94) dX9_takeNumber_93 rfl (by decide) ?_
  refine Go_icmp_gtY (tgt := 102) (pc' := 97) dX9_takeNumber_94 (by decide) rfl (by first | exact ⟨i_lo _, i_hi _⟩ | omega) (by first | exact ⟨i_lo _, i_hi _⟩ | omega) (fun c94 => ?_) (fun c94 => ?_)
  · refine Go_bipush (v := iZ 22) (pc' := 104) dX9_takeNumber_102 rfl (by decide) ?_
    refine Go_putI (pc' := 107) dX9_takeNumber_104 rfl kf_RX9_44 (by decide) (by decide) rfl (S.b 71 rfl rfl) (S.o 71 rfl rfl rfl) (Or.inl rfl) rfl rfl ?_
    refine Go_return dX9_takeNumber_107 rfl ?_
    rw [if_neg (by omega)] at hk; exact hk
  · refine Go_bipush (v := iZ 20) (pc' := 99) dX9_takeNumber_97 rfl (by decide) ?_
    refine Go_goto (tgt := 104) dX9_takeNumber_99 (by decide) ?_
    refine Go_putI (pc' := 107) dX9_takeNumber_104 rfl kf_RX9_44 (by decide) (by decide) rfl (S.b 71 rfl rfl) (S.o 71 rfl rfl rfl) (Or.inl rfl) rfl rfl ?_
    refine Go_return dX9_takeNumber_107 rfl ?_
    rw [if_pos (by omega)] at hk; exact hk
set_option maxRecDepth 20000 in
set_option maxHeartbeats 4000000 in
theorem s_adv {G : GC} {d mc ms : Nat} {H : HS} {K : Option Value → HS → Prop} {T : Nat → Int} {n : Nat} {pos : Nat} (F : TF H T n) (e2 : vi H 71 2 = iZ (pos : Int)) (hp : pos ≤ n) (hk : ∀ H', DX Pt H H' → vi H' 71 2 = iZ (tE T n pos : Nat) → vi H' 71 3 = iZ (tC T n pos) → vi H' 71 4 = iZ (tP T n pos : Nat) → (tC T n pos = 20 → vi H' 71 5 = iZ (tV T n pos)) → K none H') : Go G (d + 6) mc ms M_X9_advance 0 [.ref 71, un] [] H K := by
  obtain ⟨S, hn, en, ht⟩ := id F
  have hpr := tP_r (T := T) hp
  have her := tE_r (T := T) hp
  by_cases c0 : n ≤ tP T n pos
  · have hE := tE_fin c0
    have hC := tC_fin c0
    refine Go_aload_n (pc' := 1) dX9_advance_0 rfl rfl rfl ?_
    refine Go_callV_v (pc' := 4) (As := []) (st := []) dX9_advance_1 rfl ok_X9_skipBlanks km_RX9_129 (S.o 71 rfl rfl rfl) (S.b 71 rfl rfl) ⟨_, _, rfl⟩ rfl (Nat.le_of_ble_eq_true rfl) rfl rfl rfl (Nat.le_of_ble_eq_true rfl) (Nat.lt_succ_self _) ?_
    refine s_skB' F e2 hp ?_
    refine ⟨rfl, ?_⟩
    refine Go_aload_n (pc' := 5) dX9_advance_4 rfl rfl rfl ?_
    refine Go_aload_n (pc' := 6) dX9_advance_5 rfl rfl rfl ?_
    refine Go_getIv (v := (iZ (tP T n pos : Int))) (pc' := 9) dX9_advance_6 rfl kf_RX9_56 (by decide) (by decide) rfl (S.b 71 rfl rfl) (S.o 71 rfl rfl rfl) (vi_same) ?_
    refine Go_putI (pc' := 12) dX9_advance_9 rfl kf_RX9_68 (by decide) (by decide) rfl (S.b 71 rfl rfl) (S.o 71 rfl rfl rfl) (Or.inl rfl) rfl rfl ?_
    refine Go_aload_n (pc' := 13) dX9_advance_12 rfl rfl rfl ?_
    refine Go_getIv (v := (iZ (tP T n pos : Int))) (pc' := 16) dX9_advance_13 rfl kf_RX9_56 (by decide) (by decide) rfl (S.b 71 rfl rfl) (S.o 71 rfl rfl rfl) ((vi_skip (Or.inr (by decide))).trans (vi_same)) ?_
    refine Go_aload_n (pc' := 17) dX9_advance_16 rfl rfl rfl ?_
    refine Go_getIv (v := (iZ (n : Int))) (pc' := 20) dX9_advance_17 rfl kf_RX9_32 (by decide) (by decide) rfl (S.b 71 rfl rfl) (S.o 71 rfl rfl rfl) ((vi_skip (Or.inr (by decide))).trans ((vi_skip (Or.inr (by decide))).trans (en))) ?_
    refine Go_icmp_geY (tgt := 35) (pc' := 23) dX9_advance_20 (by decide) rfl (by first | exact ⟨i_lo _, i_hi _⟩ | omega) (by first | exact ⟨i_lo _, i_hi _⟩ | omega) (fun c20 => ?_) (fun c20 => by exfalso; omega)
    refine Go_aload_n (pc' := 36) dX9_advance_35 rfl rfl rfl ?_
    refine Go_bipush (v := iZ 21) (pc' := 38) dX9_advance_36 rfl (by decide) ?_
    refine Go_putI (pc' := 41) dX9_advance_38 rfl kf_RX9_44 (by decide) (by decide) rfl (S.b 71 rfl rfl) (S.o 71 rfl rfl rfl) (Or.inl rfl) rfl rfl ?_
    refine Go_return dX9_advance_41 rfl ?_
    refine hk _ ((((DX.rf _ _).wI (by unfold Pt; omega)).wI (by unfold Pt; omega)).wI (by unfold Pt; omega)) (((vi_skip (Or.inr (by decide))).trans ((vi_skip (Or.inr (by decide))).trans (vi_same))).trans (congrArg iZ (by omega))) ((vi_same).trans (congrArg iZ (by omega))) ((vi_skip (Or.inr (by decide))).trans (vi_same)) (fun z => by exfalso; omega)
  · have tp := (ht (tP T n pos) (by omega)).2
    have c20 := c0
    by_cases cl : leB (T (tP T n pos)) = true
    · have cl1 := cl
      unfold leB at cl1
      rw [decide_eq_true_iff] at cl1
      have hC := tC_let c0 cl
      have kr := kwf_r (T := T) (p := tP T n pos) (e := tE T n pos) 14 0
      refine Go_aload_n (pc' := 1) dX9_advance_0 rfl rfl rfl ?_
      refine Go_callV_v (pc' := 4) (As := []) (st := []) dX9_advance_1 rfl ok_X9_skipBlanks km_RX9_129 (S.o 71 rfl rfl rfl) (S.b 71 rfl rfl) ⟨_, _, rfl⟩ rfl (Nat.le_of_ble_eq_true rfl) rfl rfl rfl (Nat.le_of_ble_eq_true rfl) (Nat.lt_succ_self _) ?_
      refine s_skB' F e2 hp ?_
      refine ⟨rfl, ?_⟩
      refine Go_aload_n (pc' := 5) dX9_advance_4 rfl rfl rfl ?_
      refine Go_aload_n (pc' := 6) dX9_advance_5 rfl rfl rfl ?_
      refine Go_getIv (v := (iZ (tP T n pos : Int))) (pc' := 9) dX9_advance_6 rfl kf_RX9_56 (by decide) (by decide) rfl (S.b 71 rfl rfl) (S.o 71 rfl rfl rfl) (vi_same) ?_
      refine Go_putI (pc' := 12) dX9_advance_9 rfl kf_RX9_68 (by decide) (by decide) rfl (S.b 71 rfl rfl) (S.o 71 rfl rfl rfl) (Or.inl rfl) rfl rfl ?_
      refine Go_aload_n (pc' := 13) dX9_advance_12 rfl rfl rfl ?_
      refine Go_getIv (v := (iZ (tP T n pos : Int))) (pc' := 16) dX9_advance_13 rfl kf_RX9_56 (by decide) (by decide) rfl (S.b 71 rfl rfl) (S.o 71 rfl rfl rfl) ((vi_skip (Or.inr (by decide))).trans (vi_same)) ?_
      refine Go_aload_n (pc' := 17) dX9_advance_16 rfl rfl rfl ?_
      refine Go_getIv (v := (iZ (n : Int))) (pc' := 20) dX9_advance_17 rfl kf_RX9_32 (by decide) (by decide) rfl (S.b 71 rfl rfl) (S.o 71 rfl rfl rfl) ((vi_skip (Or.inr (by decide))).trans ((vi_skip (Or.inr (by decide))).trans (en))) ?_
      refine Go_icmp_geY (tgt := 35) (pc' := 23) dX9_advance_20 (by decide) rfl (by first | exact ⟨i_lo _, i_hi _⟩ | omega) (by first | exact ⟨i_lo _, i_hi _⟩ | omega) (fun c20 => by exfalso; omega) (fun c20 => ?_)
      refine Go_aload_n (pc' := 24) dX9_advance_23 rfl rfl rfl ?_
      refine Go_getIv (v := (iZ (tP T n pos : Int))) (pc' := 27) dX9_advance_24 rfl kf_RX9_56 (by decide) (by decide) rfl (S.b 71 rfl rfl) (S.o 71 rfl rfl rfl) ((vi_skip (Or.inr (by decide))).trans (vi_same)) ?_
      refine Go_aload_n (pc' := 28) dX9_advance_27 rfl rfl rfl ?_
      refine Go_getRs (pc' := 31) dX9_advance_28 rfl kf_RX9_9 (by decide) (by decide) rfl (S.b 71 rfl rfl) (S.o 71 rfl rfl rfl) (S.r 71 0 rfl rfl rfl) ?_
      refine Go_alenZ (n := 600) (pc' := 32) dX9_advance_31 rfl (S.b 72 rfl rfl) (S.k 72 rfl rfl rfl) (Or.inl rfl) ?_
      refine Go_icmp_ltY (tgt := 42) (pc' := 35) dX9_advance_32 (by decide) rfl (by first | exact ⟨i_lo _, i_hi _⟩ | omega) (by first | exact ⟨i_lo _, i_hi _⟩ | omega) (fun c32 => ?_) (fun c32 => by exfalso; omega)
      refine Go_aload_n (pc' := 43) dX9_advance_42 rfl rfl rfl ?_
      refine Go_getRs (pc' := 46) dX9_advance_43 rfl kf_RX9_9 (by decide) (by decide) rfl (S.b 71 rfl rfl) (S.o 71 rfl rfl rfl) (S.r 71 0 rfl rfl rfl) ?_
      refine Go_aload_n (pc' := 47) dX9_advance_46 rfl rfl rfl ?_
      refine Go_getIv (v := (iZ (tP T n pos : Int))) (pc' := 50) dX9_advance_47 rfl kf_RX9_56 (by decide) (by decide) rfl (S.b 71 rfl rfl) (S.o 71 rfl rfl rfl) ((vi_skip (Or.inr (by decide))).trans (vi_same)) ?_
      refine Go_ialoadZ (n := 600) (k := (tP T n pos)) (v := (iZ (T (tP T n pos)))) (pc' := 51) dX9_advance_50 rfl (S.b 72 rfl rfl) (S.k 72 rfl rfl rfl) rfl (by omega) (by decide) ((vi_skip (Or.inl (by decide))).trans ((vi_skip (Or.inl (by decide))).trans ((ht (tP T n pos) (by omega)).1))) ?_
      refine Go_istore_n (pc' := 52) (lv' := [.ref _, .int _]) dX9_advance_51 rfl rfl (Nat.le_of_ble_eq_true rfl) rfl rfl ?_
      refine Go_iload_n (pc' := 53) dX9_advance_52 rfl rfl rfl ?_
      refine Go_callS_i (pc' := 56) (As := [.int _]) (st := []) dX9_advance_53 rfl ok_X9_isLetter km_RX9_132 rfl (Nat.le_of_ble_eq_true rfl) rfl rfl rfl (Nat.le_of_ble_eq_true rfl) (Nat.lt_succ_self _) ?_
      refine Go_iload_n (pc' := 1) dX9_isLetter_0 rfl rfl rfl ?_
      refine Go_bipush (v := iZ 97) (pc' := 3) dX9_isLetter_1 rfl (by decide) ?_
      refine Go_icmp_ltY (tgt := 12) (pc' := 6) dX9_isLetter_3 (by decide) rfl (by first | exact ⟨i_lo _, i_hi _⟩ | omega) (by first | exact ⟨i_lo _, i_hi _⟩ | omega) (fun l3 => ?_) (fun l3 => ?_)
      · refine Go_iload_n (pc' := 13) dX9_isLetter_12 rfl rfl rfl ?_
        refine Go_bipush (v := iZ 65) (pc' := 15) dX9_isLetter_13 rfl (by decide) ?_
        refine Go_icmp_ltY (tgt := 28) (pc' := 18) dX9_isLetter_15 (by decide) rfl (by first | exact ⟨i_lo _, i_hi _⟩ | omega) (by first | exact ⟨i_lo _, i_hi _⟩ | omega) (fun l15 => ?_) (fun l15 => ?_)
        · refine Go_iconst (v := iZ 0) (pc' := 29) dX9_isLetter_28 rfl (by decide) ?_
          refine Go_ireturn (ty := .boolean) dX9_isLetter_29 rfl rfl ?_
          refine ⟨_, rfl, ?_⟩
          refine Go_if_eqY (tgt := 74) (pc' := 59) dX9_advance_56 (by decide) rfl (by first | exact ⟨i_lo _, i_hi _⟩ | omega) (fun c56 => ?_) (fun c56 => by exfalso; omega)
          exfalso; omega
        · refine Go_iload_n (pc' := 19) dX9_isLetter_18 rfl rfl rfl ?_
          refine Go_bipush (v := iZ 90) (pc' := 21) dX9_isLetter_19 rfl (by decide) ?_
          refine Go_icmp_gtY (tgt := 28) (pc' := 24) dX9_isLetter_21 (by decide) rfl (by first | exact ⟨i_lo _, i_hi _⟩ | omega) (by first | exact ⟨i_lo _, i_hi _⟩ | omega) (fun l21 => ?_) (fun l21 => ?_)
          · refine Go_iconst (v := iZ 0) (pc' := 29) dX9_isLetter_28 rfl (by decide) ?_
            refine Go_ireturn (ty := .boolean) dX9_isLetter_29 rfl rfl ?_
            refine ⟨_, rfl, ?_⟩
            refine Go_if_eqY (tgt := 74) (pc' := 59) dX9_advance_56 (by decide) rfl (by first | exact ⟨i_lo _, i_hi _⟩ | omega) (fun c56 => ?_) (fun c56 => by exfalso; omega)
            exfalso; omega
          · refine Go_iconst (v := iZ 1) (pc' := 25) dX9_isLetter_24 rfl (by decide) ?_
            refine Go_goto (tgt := 29) dX9_isLetter_25 (by decide) ?_
            refine Go_ireturn (ty := .boolean) dX9_isLetter_29 rfl rfl ?_
            refine ⟨_, rfl, ?_⟩
            refine Go_if_eqY (tgt := 74) (pc' := 59) dX9_advance_56 (by decide) rfl (by first | exact ⟨i_lo _, i_hi _⟩ | omega) (fun c56 => by exfalso; omega) (fun c56 => ?_)
            refine Go_aload_n (pc' := 60) dX9_advance_59 rfl rfl rfl ?_
            refine Go_callV_v (pc' := 63) (As := []) (st := []) dX9_advance_60 rfl ok_X9_skipLetters km_RX9_136 (S.o 71 rfl rfl rfl) (S.b 71 rfl rfl) ⟨_, _, rfl⟩ rfl (Nat.le_of_ble_eq_true rfl) rfl rfl rfl (Nat.le_of_ble_eq_true rfl) (Nat.lt_succ_self _) ?_
            refine s_skL' (TF.w (TF.w F (by decide)) (by decide)) (pos := tP T n pos) ((vi_skip (Or.inr (by decide))).trans (vi_same)) (by omega) ?_
            refine ⟨rfl, ?_⟩
            rw [← tE_let c0 cl]
            refine Go_aload_n (pc' := 64) dX9_advance_63 rfl rfl rfl ?_
            refine Go_aload_n (pc' := 65) dX9_advance_64 rfl rfl rfl ?_
            refine Go_callV_i (pc' := 68) (As := []) (st := [.ref _]) dX9_advance_65 rfl ok_X9_keyword km_RX9_139 (S.o 71 rfl rfl rfl) (S.b 71 rfl rfl) ⟨_, _, rfl⟩ rfl (Nat.le_of_ble_eq_true rfl) rfl rfl rfl (Nat.le_of_ble_eq_true rfl) (Nat.lt_succ_self _) ?_
            refine s_kw (p := tP T n pos) (e := tE T n pos) (TF.w (TF.w (TF.w F (by decide)) (by decide)) (by decide)) (by omega) (by omega) (vi_same) ((vi_skip (Or.inr (by decide))).trans (vi_same)) ?_
            rw [← tC_let c0 cl]
            refine ⟨_, rfl, ?_⟩
            refine Go_putI (pc' := 71) dX9_advance_68 rfl kf_RX9_44 (by decide) (by decide) rfl (S.b 71 rfl rfl) (S.o 71 rfl rfl rfl) (Or.inl rfl) rfl rfl ?_
            refine Go_goto (tgt := 121) dX9_advance_71 (by decide) ?_
            refine Go_return dX9_advance_121 rfl ?_
            refine hk _ (((((DX.rf _ _).wI (by unfold Pt; omega)).wI (by unfold Pt; omega)).wI (by unfold Pt; omega)).wI (by unfold Pt; omega)) ((vi_skip (Or.inr (by decide))).trans (vi_same)) (vi_same) ((vi_skip (Or.inr (by decide))).trans ((vi_skip (Or.inr (by decide))).trans (vi_same))) (fun z => by exfalso; omega)
      · refine Go_iload_n (pc' := 7) dX9_isLetter_6 rfl rfl rfl ?_
        refine Go_bipush (v := iZ 122) (pc' := 9) dX9_isLetter_7 rfl (by decide) ?_
        refine Go_icmp_leY (tgt := 24) (pc' := 12) dX9_isLetter_9 (by decide) rfl (by first | exact ⟨i_lo _, i_hi _⟩ | omega) (by first | exact ⟨i_lo _, i_hi _⟩ | omega) (fun l9 => ?_) (fun l9 => ?_)
        · refine Go_iconst (v := iZ 1) (pc' := 25) dX9_isLetter_24 rfl (by decide) ?_
          refine Go_goto (tgt := 29) dX9_isLetter_25 (by decide) ?_
          refine Go_ireturn (ty := .boolean) dX9_isLetter_29 rfl rfl ?_
          refine ⟨_, rfl, ?_⟩
          refine Go_if_eqY (tgt := 74) (pc' := 59) dX9_advance_56 (by decide) rfl (by first | exact ⟨i_lo _, i_hi _⟩ | omega) (fun c56 => by exfalso; omega) (fun c56 => ?_)
          refine Go_aload_n (pc' := 60) dX9_advance_59 rfl rfl rfl ?_
          refine Go_callV_v (pc' := 63) (As := []) (st := []) dX9_advance_60 rfl ok_X9_skipLetters km_RX9_136 (S.o 71 rfl rfl rfl) (S.b 71 rfl rfl) ⟨_, _, rfl⟩ rfl (Nat.le_of_ble_eq_true rfl) rfl rfl rfl (Nat.le_of_ble_eq_true rfl) (Nat.lt_succ_self _) ?_
          refine s_skL' (TF.w (TF.w F (by decide)) (by decide)) (pos := tP T n pos) ((vi_skip (Or.inr (by decide))).trans (vi_same)) (by omega) ?_
          refine ⟨rfl, ?_⟩
          rw [← tE_let c0 cl]
          refine Go_aload_n (pc' := 64) dX9_advance_63 rfl rfl rfl ?_
          refine Go_aload_n (pc' := 65) dX9_advance_64 rfl rfl rfl ?_
          refine Go_callV_i (pc' := 68) (As := []) (st := [.ref _]) dX9_advance_65 rfl ok_X9_keyword km_RX9_139 (S.o 71 rfl rfl rfl) (S.b 71 rfl rfl) ⟨_, _, rfl⟩ rfl (Nat.le_of_ble_eq_true rfl) rfl rfl rfl (Nat.le_of_ble_eq_true rfl) (Nat.lt_succ_self _) ?_
          refine s_kw (p := tP T n pos) (e := tE T n pos) (TF.w (TF.w (TF.w F (by decide)) (by decide)) (by decide)) (by omega) (by omega) (vi_same) ((vi_skip (Or.inr (by decide))).trans (vi_same)) ?_
          rw [← tC_let c0 cl]
          refine ⟨_, rfl, ?_⟩
          refine Go_putI (pc' := 71) dX9_advance_68 rfl kf_RX9_44 (by decide) (by decide) rfl (S.b 71 rfl rfl) (S.o 71 rfl rfl rfl) (Or.inl rfl) rfl rfl ?_
          refine Go_goto (tgt := 121) dX9_advance_71 (by decide) ?_
          refine Go_return dX9_advance_121 rfl ?_
          refine hk _ (((((DX.rf _ _).wI (by unfold Pt; omega)).wI (by unfold Pt; omega)).wI (by unfold Pt; omega)).wI (by unfold Pt; omega)) ((vi_skip (Or.inr (by decide))).trans (vi_same)) (vi_same) ((vi_skip (Or.inr (by decide))).trans ((vi_skip (Or.inr (by decide))).trans (vi_same))) (fun z => by exfalso; omega)
        · refine Go_iload_n (pc' := 13) dX9_isLetter_12 rfl rfl rfl ?_
          refine Go_bipush (v := iZ 65) (pc' := 15) dX9_isLetter_13 rfl (by decide) ?_
          refine Go_icmp_ltY (tgt := 28) (pc' := 18) dX9_isLetter_15 (by decide) rfl (by first | exact ⟨i_lo _, i_hi _⟩ | omega) (by first | exact ⟨i_lo _, i_hi _⟩ | omega) (fun l15 => ?_) (fun l15 => ?_)
          · refine Go_iconst (v := iZ 0) (pc' := 29) dX9_isLetter_28 rfl (by decide) ?_
            refine Go_ireturn (ty := .boolean) dX9_isLetter_29 rfl rfl ?_
            refine ⟨_, rfl, ?_⟩
            refine Go_if_eqY (tgt := 74) (pc' := 59) dX9_advance_56 (by decide) rfl (by first | exact ⟨i_lo _, i_hi _⟩ | omega) (fun c56 => ?_) (fun c56 => by exfalso; omega)
            exfalso; omega
          · refine Go_iload_n (pc' := 19) dX9_isLetter_18 rfl rfl rfl ?_
            refine Go_bipush (v := iZ 90) (pc' := 21) dX9_isLetter_19 rfl (by decide) ?_
            refine Go_icmp_gtY (tgt := 28) (pc' := 24) dX9_isLetter_21 (by decide) rfl (by first | exact ⟨i_lo _, i_hi _⟩ | omega) (by first | exact ⟨i_lo _, i_hi _⟩ | omega) (fun l21 => ?_) (fun l21 => ?_)
            · refine Go_iconst (v := iZ 0) (pc' := 29) dX9_isLetter_28 rfl (by decide) ?_
              refine Go_ireturn (ty := .boolean) dX9_isLetter_29 rfl rfl ?_
              refine ⟨_, rfl, ?_⟩
              refine Go_if_eqY (tgt := 74) (pc' := 59) dX9_advance_56 (by decide) rfl (by first | exact ⟨i_lo _, i_hi _⟩ | omega) (fun c56 => ?_) (fun c56 => by exfalso; omega)
              exfalso; omega
            · refine Go_iconst (v := iZ 1) (pc' := 25) dX9_isLetter_24 rfl (by decide) ?_
              refine Go_goto (tgt := 29) dX9_isLetter_25 (by decide) ?_
              refine Go_ireturn (ty := .boolean) dX9_isLetter_29 rfl rfl ?_
              refine ⟨_, rfl, ?_⟩
              refine Go_if_eqY (tgt := 74) (pc' := 59) dX9_advance_56 (by decide) rfl (by first | exact ⟨i_lo _, i_hi _⟩ | omega) (fun c56 => by exfalso; omega) (fun c56 => ?_)
              refine Go_aload_n (pc' := 60) dX9_advance_59 rfl rfl rfl ?_
              refine Go_callV_v (pc' := 63) (As := []) (st := []) dX9_advance_60 rfl ok_X9_skipLetters km_RX9_136 (S.o 71 rfl rfl rfl) (S.b 71 rfl rfl) ⟨_, _, rfl⟩ rfl (Nat.le_of_ble_eq_true rfl) rfl rfl rfl (Nat.le_of_ble_eq_true rfl) (Nat.lt_succ_self _) ?_
              refine s_skL' (TF.w (TF.w F (by decide)) (by decide)) (pos := tP T n pos) ((vi_skip (Or.inr (by decide))).trans (vi_same)) (by omega) ?_
              refine ⟨rfl, ?_⟩
              rw [← tE_let c0 cl]
              refine Go_aload_n (pc' := 64) dX9_advance_63 rfl rfl rfl ?_
              refine Go_aload_n (pc' := 65) dX9_advance_64 rfl rfl rfl ?_
              refine Go_callV_i (pc' := 68) (As := []) (st := [.ref _]) dX9_advance_65 rfl ok_X9_keyword km_RX9_139 (S.o 71 rfl rfl rfl) (S.b 71 rfl rfl) ⟨_, _, rfl⟩ rfl (Nat.le_of_ble_eq_true rfl) rfl rfl rfl (Nat.le_of_ble_eq_true rfl) (Nat.lt_succ_self _) ?_
              refine s_kw (p := tP T n pos) (e := tE T n pos) (TF.w (TF.w (TF.w F (by decide)) (by decide)) (by decide)) (by omega) (by omega) (vi_same) ((vi_skip (Or.inr (by decide))).trans (vi_same)) ?_
              rw [← tC_let c0 cl]
              refine ⟨_, rfl, ?_⟩
              refine Go_putI (pc' := 71) dX9_advance_68 rfl kf_RX9_44 (by decide) (by decide) rfl (S.b 71 rfl rfl) (S.o 71 rfl rfl rfl) (Or.inl rfl) rfl rfl ?_
              refine Go_goto (tgt := 121) dX9_advance_71 (by decide) ?_
              refine Go_return dX9_advance_121 rfl ?_
              refine hk _ (((((DX.rf _ _).wI (by unfold Pt; omega)).wI (by unfold Pt; omega)).wI (by unfold Pt; omega)).wI (by unfold Pt; omega)) ((vi_skip (Or.inr (by decide))).trans (vi_same)) (vi_same) ((vi_skip (Or.inr (by decide))).trans ((vi_skip (Or.inr (by decide))).trans (vi_same))) (fun z => by exfalso; omega)
    · have cl1 := cl
      unfold leB at cl1
      rw [decide_eq_true_iff] at cl1
      by_cases cd : diB (T (tP T n pos)) = true
      · have cd1 := cd
        unfold diB at cd1
        rw [decide_eq_true_iff] at cd1
        refine Go_aload_n (pc' := 1) dX9_advance_0 rfl rfl rfl ?_
        refine Go_callV_v (pc' := 4) (As := []) (st := []) dX9_advance_1 rfl ok_X9_skipBlanks km_RX9_129 (S.o 71 rfl rfl rfl) (S.b 71 rfl rfl) ⟨_, _, rfl⟩ rfl (Nat.le_of_ble_eq_true rfl) rfl rfl rfl (Nat.le_of_ble_eq_true rfl) (Nat.lt_succ_self _) ?_
        refine s_skB' F e2 hp ?_
        refine ⟨rfl, ?_⟩
        refine Go_aload_n (pc' := 5) dX9_advance_4 rfl rfl rfl ?_
        refine Go_aload_n (pc' := 6) dX9_advance_5 rfl rfl rfl ?_
        refine Go_getIv (v := (iZ (tP T n pos : Int))) (pc' := 9) dX9_advance_6 rfl kf_RX9_56 (by decide) (by decide) rfl (S.b 71 rfl rfl) (S.o 71 rfl rfl rfl) (vi_same) ?_
        refine Go_putI (pc' := 12) dX9_advance_9 rfl kf_RX9_68 (by decide) (by decide) rfl (S.b 71 rfl rfl) (S.o 71 rfl rfl rfl) (Or.inl rfl) rfl rfl ?_
        refine Go_aload_n (pc' := 13) dX9_advance_12 rfl rfl rfl ?_
        refine Go_getIv (v := (iZ (tP T n pos : Int))) (pc' := 16) dX9_advance_13 rfl kf_RX9_56 (by decide) (by decide) rfl (S.b 71 rfl rfl) (S.o 71 rfl rfl rfl) ((vi_skip (Or.inr (by decide))).trans (vi_same)) ?_
        refine Go_aload_n (pc' := 17) dX9_advance_16 rfl rfl rfl ?_
        refine Go_getIv (v := (iZ (n : Int))) (pc' := 20) dX9_advance_17 rfl kf_RX9_32 (by decide) (by decide) rfl (S.b 71 rfl rfl) (S.o 71 rfl rfl rfl) ((vi_skip (Or.inr (by decide))).trans ((vi_skip (Or.inr (by decide))).trans (en))) ?_
        refine Go_icmp_geY (tgt := 35) (pc' := 23) dX9_advance_20 (by decide) rfl (by first | exact ⟨i_lo _, i_hi _⟩ | omega) (by first | exact ⟨i_lo _, i_hi _⟩ | omega) (fun c20 => by exfalso; omega) (fun c20 => ?_)
        refine Go_aload_n (pc' := 24) dX9_advance_23 rfl rfl rfl ?_
        refine Go_getIv (v := (iZ (tP T n pos : Int))) (pc' := 27) dX9_advance_24 rfl kf_RX9_56 (by decide) (by decide) rfl (S.b 71 rfl rfl) (S.o 71 rfl rfl rfl) ((vi_skip (Or.inr (by decide))).trans (vi_same)) ?_
        refine Go_aload_n (pc' := 28) dX9_advance_27 rfl rfl rfl ?_
        refine Go_getRs (pc' := 31) dX9_advance_28 rfl kf_RX9_9 (by decide) (by decide) rfl (S.b 71 rfl rfl) (S.o 71 rfl rfl rfl) (S.r 71 0 rfl rfl rfl) ?_
        refine Go_alenZ (n := 600) (pc' := 32) dX9_advance_31 rfl (S.b 72 rfl rfl) (S.k 72 rfl rfl rfl) (Or.inl rfl) ?_
        refine Go_icmp_ltY (tgt := 42) (pc' := 35) dX9_advance_32 (by decide) rfl (by first | exact ⟨i_lo _, i_hi _⟩ | omega) (by first | exact ⟨i_lo _, i_hi _⟩ | omega) (fun c32 => ?_) (fun c32 => by exfalso; omega)
        refine Go_aload_n (pc' := 43) dX9_advance_42 rfl rfl rfl ?_
        refine Go_getRs (pc' := 46) dX9_advance_43 rfl kf_RX9_9 (by decide) (by decide) rfl (S.b 71 rfl rfl) (S.o 71 rfl rfl rfl) (S.r 71 0 rfl rfl rfl) ?_
        refine Go_aload_n (pc' := 47) dX9_advance_46 rfl rfl rfl ?_
        refine Go_getIv (v := (iZ (tP T n pos : Int))) (pc' := 50) dX9_advance_47 rfl kf_RX9_56 (by decide) (by decide) rfl (S.b 71 rfl rfl) (S.o 71 rfl rfl rfl) ((vi_skip (Or.inr (by decide))).trans (vi_same)) ?_
        refine Go_ialoadZ (n := 600) (k := (tP T n pos)) (v := (iZ (T (tP T n pos)))) (pc' := 51) dX9_advance_50 rfl (S.b 72 rfl rfl) (S.k 72 rfl rfl rfl) rfl (by omega) (by decide) ((vi_skip (Or.inl (by decide))).trans ((vi_skip (Or.inl (by decide))).trans ((ht (tP T n pos) (by omega)).1))) ?_
        refine Go_istore_n (pc' := 52) (lv' := [.ref _, .int _]) dX9_advance_51 rfl rfl (Nat.le_of_ble_eq_true rfl) rfl rfl ?_
        refine Go_iload_n (pc' := 53) dX9_advance_52 rfl rfl rfl ?_
        refine Go_callS_i (pc' := 56) (As := [.int _]) (st := []) dX9_advance_53 rfl ok_X9_isLetter km_RX9_132 rfl (Nat.le_of_ble_eq_true rfl) rfl rfl rfl (Nat.le_of_ble_eq_true rfl) (Nat.lt_succ_self _) ?_
        refine Go_iload_n (pc' := 1) dX9_isLetter_0 rfl rfl rfl ?_
        refine Go_bipush (v := iZ 97) (pc' := 3) dX9_isLetter_1 rfl (by decide) ?_
        refine Go_icmp_ltY (tgt := 12) (pc' := 6) dX9_isLetter_3 (by decide) rfl (by first | exact ⟨i_lo _, i_hi _⟩ | omega) (by first | exact ⟨i_lo _, i_hi _⟩ | omega) (fun l3 => ?_) (fun l3 => ?_)
        · refine Go_iload_n (pc' := 13) dX9_isLetter_12 rfl rfl rfl ?_
          refine Go_bipush (v := iZ 65) (pc' := 15) dX9_isLetter_13 rfl (by decide) ?_
          refine Go_icmp_ltY (tgt := 28) (pc' := 18) dX9_isLetter_15 (by decide) rfl (by first | exact ⟨i_lo _, i_hi _⟩ | omega) (by first | exact ⟨i_lo _, i_hi _⟩ | omega) (fun l15 => ?_) (fun l15 => ?_)
          · refine Go_iconst (v := iZ 0) (pc' := 29) dX9_isLetter_28 rfl (by decide) ?_
            refine Go_ireturn (ty := .boolean) dX9_isLetter_29 rfl rfl ?_
            refine ⟨_, rfl, ?_⟩
            refine Go_if_eqY (tgt := 74) (pc' := 59) dX9_advance_56 (by decide) rfl (by first | exact ⟨i_lo _, i_hi _⟩ | omega) (fun c56 => ?_) (fun c56 => by exfalso; omega)
            refine Go_iload_n (pc' := 75) dX9_advance_74 rfl rfl rfl ?_
            refine Go_callS_i (pc' := 78) (As := [.int _]) (st := []) dX9_advance_75 rfl ok_X9_isDigit km_RX9_143 rfl (Nat.le_of_ble_eq_true rfl) rfl rfl rfl (Nat.le_of_ble_eq_true rfl) (Nat.lt_succ_self _) ?_
            refine Go_iload_n (pc' := 1) dX9_isDigit_0 rfl rfl rfl ?_
            refine Go_bipush (v := iZ 48) (pc' := 3) dX9_isDigit_1 rfl (by decide) ?_
            refine Go_icmp_ltY (tgt := 16) (pc' := 6) dX9_isDigit_3 (by decide) rfl (by first | exact ⟨i_lo _, i_hi _⟩ | omega) (by first | exact ⟨i_lo _, i_hi _⟩ | omega) (fun m3 => ?_) (fun m3 => ?_)
            · refine Go_iconst (v := iZ 0) (pc' := 17) dX9_isDigit_16 rfl (by decide) ?_
              refine Go_ireturn (ty := .boolean) dX9_isDigit_17 rfl rfl ?_
              refine ⟨_, rfl, ?_⟩
              refine Go_if_eqY (tgt := 88) (pc' := 81) dX9_advance_78 (by decide) rfl (by first | exact ⟨i_lo _, i_hi _⟩ | omega) (fun c78 => ?_) (fun c78 => by exfalso; omega)
              exfalso; omega
            · refine Go_iload_n (pc' := 7) dX9_isDigit_6 rfl rfl rfl ?_
              refine Go_bipush (v := iZ 57) (pc' := 9) dX9_isDigit_7 rfl (by decide) ?_
              refine Go_icmp_gtY (tgt := 16) (pc' := 12) dX9_isDigit_9 (by decide) rfl (by first | exact ⟨i_lo _, i_hi _⟩ | omega) (by first | exact ⟨i_lo _, i_hi _⟩ | omega) (fun m9 => ?_) (fun m9 => ?_)
              · refine Go_iconst (v := iZ 0) (pc' := 17) dX9_isDigit_16 rfl (by decide) ?_
                refine Go_ireturn (ty := .boolean) dX9_isDigit_17 rfl rfl ?_
                refine ⟨_, rfl, ?_⟩
                refine Go_if_eqY (tgt := 88) (pc' := 81) dX9_advance_78 (by decide) rfl (by first | exact ⟨i_lo _, i_hi _⟩ | omega) (fun c78 => ?_) (fun c78 => by exfalso; omega)
                exfalso; omega
              · refine Go_iconst (v := iZ 1) (pc' := 13) dX9_isDigit_12 rfl (by decide) ?_
                refine Go_goto (tgt := 17) dX9_isDigit_13 (by decide) ?_
                refine Go_ireturn (ty := .boolean) dX9_isDigit_17 rfl rfl ?_
                refine ⟨_, rfl, ?_⟩
                refine Go_if_eqY (tgt := 88) (pc' := 81) dX9_advance_78 (by decide) rfl (by first | exact ⟨i_lo _, i_hi _⟩ | omega) (fun c78 => by exfalso; omega) (fun c78 => ?_)
                refine Go_aload_n (pc' := 82) dX9_advance_81 rfl rfl rfl ?_
                refine Go_callV_v (pc' := 85) (As := []) (st := []) dX9_advance_82 rfl ok_X9_takeNumber km_RX9_146 (S.o 71 rfl rfl rfl) (S.b 71 rfl rfl) ⟨_, _, rfl⟩ rfl (Nat.le_of_ble_eq_true rfl) rfl rfl rfl (Nat.le_of_ble_eq_true rfl) (Nat.lt_succ_self _) ?_
                refine s_tn (p := tP T n pos) (TF.w (TF.w F (by decide)) (by decide)) (by omega) ((vi_skip (Or.inr (by decide))).trans (vi_same)) (vi_same) ?_
                refine ⟨rfl, ?_⟩
                rw [← tE_dig c0 cl cd, ← tC_dig c0 cl cd]
                refine Go_goto (tgt := 121) dX9_advance_85 (by decide) ?_
                refine Go_return dX9_advance_121 rfl ?_
                refine hk _ ((((((DX.rf _ _).wI (by unfold Pt; omega)).wI (by unfold Pt; omega)).wI (by unfold Pt; omega)).wI (by unfold Pt; omega)).wI (by unfold Pt; omega)) ((vi_skip (Or.inr (by decide))).trans (vi_same)) (vi_same) ((vi_skip (Or.inr (by decide))).trans ((vi_skip (Or.inr (by decide))).trans ((vi_skip (Or.inr (by decide))).trans (vi_same)))) (fun _ => ((vi_skip (Or.inr (by decide))).trans ((vi_skip (Or.inr (by decide))).trans (vi_same))))
          · refine Go_iload_n (pc' := 19) dX9_isLetter_18 rfl rfl rfl ?_
            refine Go_bipush (v := iZ 90) (pc' := 21) dX9_isLetter_19 rfl (by decide) ?_
            refine Go_icmp_gtY (tgt := 28) (pc' := 24) dX9_isLetter_21 (by decide) rfl (by first | exact ⟨i_lo _, i_hi _⟩ | omega) (by first | exact ⟨i_lo _, i_hi _⟩ | omega) (fun l21 => ?_) (fun l21 => ?_)
            · refine Go_iconst (v := iZ 0) (pc' := 29) dX9_isLetter_28 rfl (by decide) ?_
              refine Go_ireturn (ty := .boolean) dX9_isLetter_29 rfl rfl ?_
              refine ⟨_, rfl, ?_⟩
              refine Go_if_eqY (tgt := 74) (pc' := 59) dX9_advance_56 (by decide) rfl (by first | exact ⟨i_lo _, i_hi _⟩ | omega) (fun c56 => ?_) (fun c56 => by exfalso; omega)
              refine Go_iload_n (pc' := 75) dX9_advance_74 rfl rfl rfl ?_
              refine Go_callS_i (pc' := 78) (As := [.int _]) (st := []) dX9_advance_75 rfl ok_X9_isDigit km_RX9_143 rfl (Nat.le_of_ble_eq_true rfl) rfl rfl rfl (Nat.le_of_ble_eq_true rfl) (Nat.lt_succ_self _) ?_
              refine Go_iload_n (pc' := 1) dX9_isDigit_0 rfl rfl rfl ?_
              refine Go_bipush (v := iZ 48) (pc' := 3) dX9_isDigit_1 rfl (by decide) ?_
              refine Go_icmp_ltY (tgt := 16) (pc' := 6) dX9_isDigit_3 (by decide) rfl (by first | exact ⟨i_lo _, i_hi _⟩ | omega) (by first | exact ⟨i_lo _, i_hi _⟩ | omega) (fun m3 => ?_) (fun m3 => ?_)
              · refine Go_iconst (v := iZ 0) (pc' := 17) dX9_isDigit_16 rfl (by decide) ?_
                refine Go_ireturn (ty := .boolean) dX9_isDigit_17 rfl rfl ?_
                refine ⟨_, rfl, ?_⟩
                refine Go_if_eqY (tgt := 88) (pc' := 81) dX9_advance_78 (by decide) rfl (by first | exact ⟨i_lo _, i_hi _⟩ | omega) (fun c78 => ?_) (fun c78 => by exfalso; omega)
                exfalso; omega
              · refine Go_iload_n (pc' := 7) dX9_isDigit_6 rfl rfl rfl ?_
                refine Go_bipush (v := iZ 57) (pc' := 9) dX9_isDigit_7 rfl (by decide) ?_
                refine Go_icmp_gtY (tgt := 16) (pc' := 12) dX9_isDigit_9 (by decide) rfl (by first | exact ⟨i_lo _, i_hi _⟩ | omega) (by first | exact ⟨i_lo _, i_hi _⟩ | omega) (fun m9 => ?_) (fun m9 => ?_)
                · refine Go_iconst (v := iZ 0) (pc' := 17) dX9_isDigit_16 rfl (by decide) ?_
                  refine Go_ireturn (ty := .boolean) dX9_isDigit_17 rfl rfl ?_
                  refine ⟨_, rfl, ?_⟩
                  refine Go_if_eqY (tgt := 88) (pc' := 81) dX9_advance_78 (by decide) rfl (by first | exact ⟨i_lo _, i_hi _⟩ | omega) (fun c78 => ?_) (fun c78 => by exfalso; omega)
                  exfalso; omega
                · refine Go_iconst (v := iZ 1) (pc' := 13) dX9_isDigit_12 rfl (by decide) ?_
                  refine Go_goto (tgt := 17) dX9_isDigit_13 (by decide) ?_
                  refine Go_ireturn (ty := .boolean) dX9_isDigit_17 rfl rfl ?_
                  refine ⟨_, rfl, ?_⟩
                  refine Go_if_eqY (tgt := 88) (pc' := 81) dX9_advance_78 (by decide) rfl (by first | exact ⟨i_lo _, i_hi _⟩ | omega) (fun c78 => by exfalso; omega) (fun c78 => ?_)
                  refine Go_aload_n (pc' := 82) dX9_advance_81 rfl rfl rfl ?_
                  refine Go_callV_v (pc' := 85) (As := []) (st := []) dX9_advance_82 rfl ok_X9_takeNumber km_RX9_146 (S.o 71 rfl rfl rfl) (S.b 71 rfl rfl) ⟨_, _, rfl⟩ rfl (Nat.le_of_ble_eq_true rfl) rfl rfl rfl (Nat.le_of_ble_eq_true rfl) (Nat.lt_succ_self _) ?_
                  refine s_tn (p := tP T n pos) (TF.w (TF.w F (by decide)) (by decide)) (by omega) ((vi_skip (Or.inr (by decide))).trans (vi_same)) (vi_same) ?_
                  refine ⟨rfl, ?_⟩
                  rw [← tE_dig c0 cl cd, ← tC_dig c0 cl cd]
                  refine Go_goto (tgt := 121) dX9_advance_85 (by decide) ?_
                  refine Go_return dX9_advance_121 rfl ?_
                  refine hk _ ((((((DX.rf _ _).wI (by unfold Pt; omega)).wI (by unfold Pt; omega)).wI (by unfold Pt; omega)).wI (by unfold Pt; omega)).wI (by unfold Pt; omega)) ((vi_skip (Or.inr (by decide))).trans (vi_same)) (vi_same) ((vi_skip (Or.inr (by decide))).trans ((vi_skip (Or.inr (by decide))).trans ((vi_skip (Or.inr (by decide))).trans (vi_same)))) (fun _ => ((vi_skip (Or.inr (by decide))).trans ((vi_skip (Or.inr (by decide))).trans (vi_same))))
            · refine Go_iconst (v := iZ 1) (pc' := 25) dX9_isLetter_24 rfl (by decide) ?_
              refine Go_goto (tgt := 29) dX9_isLetter_25 (by decide) ?_
              refine Go_ireturn (ty := .boolean) dX9_isLetter_29 rfl rfl ?_
              refine ⟨_, rfl, ?_⟩
              refine Go_if_eqY (tgt := 74) (pc' := 59) dX9_advance_56 (by decide) rfl (by first | exact ⟨i_lo _, i_hi _⟩ | omega) (fun c56 => by exfalso; omega) (fun c56 => ?_)
              exfalso; omega
        · refine Go_iload_n (pc' := 7) dX9_isLetter_6 rfl rfl rfl ?_
          refine Go_bipush (v := iZ 122) (pc' := 9) dX9_isLetter_7 rfl (by decide) ?_
          refine Go_icmp_leY (tgt := 24) (pc' := 12) dX9_isLetter_9 (by decide) rfl (by first | exact ⟨i_lo _, i_hi _⟩ | omega) (by first | exact ⟨i_lo _, i_hi _⟩ | omega) (fun l9 => ?_) (fun l9 => ?_)
          · refine Go_iconst (v := iZ 1) (pc' := 25) dX9_isLetter_24 rfl (by decide) ?_
            refine Go_goto (tgt := 29) dX9_isLetter_25 (by decide) ?_
            refine Go_ireturn (ty := .boolean) dX9_isLetter_29 rfl rfl ?_
            refine ⟨_, rfl, ?_⟩
            refine Go_if_eqY (tgt := 74) (pc' := 59) dX9_advance_56 (by decide) rfl (by first | exact ⟨i_lo _, i_hi _⟩ | omega) (fun c56 => by exfalso; omega) (fun c56 => ?_)
            exfalso; omega
          · refine Go_iload_n (pc' := 13) dX9_isLetter_12 rfl rfl rfl ?_
            refine Go_bipush (v := iZ 65) (pc' := 15) dX9_isLetter_13 rfl (by decide) ?_
            refine Go_icmp_ltY (tgt := 28) (pc' := 18) dX9_isLetter_15 (by decide) rfl (by first | exact ⟨i_lo _, i_hi _⟩ | omega) (by first | exact ⟨i_lo _, i_hi _⟩ | omega) (fun l15 => ?_) (fun l15 => ?_)
            · refine Go_iconst (v := iZ 0) (pc' := 29) dX9_isLetter_28 rfl (by decide) ?_
              refine Go_ireturn (ty := .boolean) dX9_isLetter_29 rfl rfl ?_
              refine ⟨_, rfl, ?_⟩
              refine Go_if_eqY (tgt := 74) (pc' := 59) dX9_advance_56 (by decide) rfl (by first | exact ⟨i_lo _, i_hi _⟩ | omega) (fun c56 => ?_) (fun c56 => by exfalso; omega)
              refine Go_iload_n (pc' := 75) dX9_advance_74 rfl rfl rfl ?_
              refine Go_callS_i (pc' := 78) (As := [.int _]) (st := []) dX9_advance_75 rfl ok_X9_isDigit km_RX9_143 rfl (Nat.le_of_ble_eq_true rfl) rfl rfl rfl (Nat.le_of_ble_eq_true rfl) (Nat.lt_succ_self _) ?_
              refine Go_iload_n (pc' := 1) dX9_isDigit_0 rfl rfl rfl ?_
              refine Go_bipush (v := iZ 48) (pc' := 3) dX9_isDigit_1 rfl (by decide) ?_
              refine Go_icmp_ltY (tgt := 16) (pc' := 6) dX9_isDigit_3 (by decide) rfl (by first | exact ⟨i_lo _, i_hi _⟩ | omega) (by first | exact ⟨i_lo _, i_hi _⟩ | omega) (fun m3 => ?_) (fun m3 => ?_)
              · refine Go_iconst (v := iZ 0) (pc' := 17) dX9_isDigit_16 rfl (by decide) ?_
                refine Go_ireturn (ty := .boolean) dX9_isDigit_17 rfl rfl ?_
                refine ⟨_, rfl, ?_⟩
                refine Go_if_eqY (tgt := 88) (pc' := 81) dX9_advance_78 (by decide) rfl (by first | exact ⟨i_lo _, i_hi _⟩ | omega) (fun c78 => ?_) (fun c78 => by exfalso; omega)
                exfalso; omega
              · refine Go_iload_n (pc' := 7) dX9_isDigit_6 rfl rfl rfl ?_
                refine Go_bipush (v := iZ 57) (pc' := 9) dX9_isDigit_7 rfl (by decide) ?_
                refine Go_icmp_gtY (tgt := 16) (pc' := 12) dX9_isDigit_9 (by decide) rfl (by first | exact ⟨i_lo _, i_hi _⟩ | omega) (by first | exact ⟨i_lo _, i_hi _⟩ | omega) (fun m9 => ?_) (fun m9 => ?_)
                · refine Go_iconst (v := iZ 0) (pc' := 17) dX9_isDigit_16 rfl (by decide) ?_
                  refine Go_ireturn (ty := .boolean) dX9_isDigit_17 rfl rfl ?_
                  refine ⟨_, rfl, ?_⟩
                  refine Go_if_eqY (tgt := 88) (pc' := 81) dX9_advance_78 (by decide) rfl (by first | exact ⟨i_lo _, i_hi _⟩ | omega) (fun c78 => ?_) (fun c78 => by exfalso; omega)
                  exfalso; omega
                · refine Go_iconst (v := iZ 1) (pc' := 13) dX9_isDigit_12 rfl (by decide) ?_
                  refine Go_goto (tgt := 17) dX9_isDigit_13 (by decide) ?_
                  refine Go_ireturn (ty := .boolean) dX9_isDigit_17 rfl rfl ?_
                  refine ⟨_, rfl, ?_⟩
                  refine Go_if_eqY (tgt := 88) (pc' := 81) dX9_advance_78 (by decide) rfl (by first | exact ⟨i_lo _, i_hi _⟩ | omega) (fun c78 => by exfalso; omega) (fun c78 => ?_)
                  refine Go_aload_n (pc' := 82) dX9_advance_81 rfl rfl rfl ?_
                  refine Go_callV_v (pc' := 85) (As := []) (st := []) dX9_advance_82 rfl ok_X9_takeNumber km_RX9_146 (S.o 71 rfl rfl rfl) (S.b 71 rfl rfl) ⟨_, _, rfl⟩ rfl (Nat.le_of_ble_eq_true rfl) rfl rfl rfl (Nat.le_of_ble_eq_true rfl) (Nat.lt_succ_self _) ?_
                  refine s_tn (p := tP T n pos) (TF.w (TF.w F (by decide)) (by decide)) (by omega) ((vi_skip (Or.inr (by decide))).trans (vi_same)) (vi_same) ?_
                  refine ⟨rfl, ?_⟩
                  rw [← tE_dig c0 cl cd, ← tC_dig c0 cl cd]
                  refine Go_goto (tgt := 121) dX9_advance_85 (by decide) ?_
                  refine Go_return dX9_advance_121 rfl ?_
                  refine hk _ ((((((DX.rf _ _).wI (by unfold Pt; omega)).wI (by unfold Pt; omega)).wI (by unfold Pt; omega)).wI (by unfold Pt; omega)).wI (by unfold Pt; omega)) ((vi_skip (Or.inr (by decide))).trans (vi_same)) (vi_same) ((vi_skip (Or.inr (by decide))).trans ((vi_skip (Or.inr (by decide))).trans ((vi_skip (Or.inr (by decide))).trans (vi_same)))) (fun _ => ((vi_skip (Or.inr (by decide))).trans ((vi_skip (Or.inr (by decide))).trans (vi_same))))
            · refine Go_iload_n (pc' := 19) dX9_isLetter_18 rfl rfl rfl ?_
              refine Go_bipush (v := iZ 90) (pc' := 21) dX9_isLetter_19 rfl (by decide) ?_
              refine Go_icmp_gtY (tgt := 28) (pc' := 24) dX9_isLetter_21 (by decide) rfl (by first | exact ⟨i_lo _, i_hi _⟩ | omega) (by first | exact ⟨i_lo _, i_hi _⟩ | omega) (fun l21 => ?_) (fun l21 => ?_)
              · refine Go_iconst (v := iZ 0) (pc' := 29) dX9_isLetter_28 rfl (by decide) ?_
                refine Go_ireturn (ty := .boolean) dX9_isLetter_29 rfl rfl ?_
                refine ⟨_, rfl, ?_⟩
                refine Go_if_eqY (tgt := 74) (pc' := 59) dX9_advance_56 (by decide) rfl (by first | exact ⟨i_lo _, i_hi _⟩ | omega) (fun c56 => ?_) (fun c56 => by exfalso; omega)
                refine Go_iload_n (pc' := 75) dX9_advance_74 rfl rfl rfl ?_
                refine Go_callS_i (pc' := 78) (As := [.int _]) (st := []) dX9_advance_75 rfl ok_X9_isDigit km_RX9_143 rfl (Nat.le_of_ble_eq_true rfl) rfl rfl rfl (Nat.le_of_ble_eq_true rfl) (Nat.lt_succ_self _) ?_
                refine Go_iload_n (pc' := 1) dX9_isDigit_0 rfl rfl rfl ?_
                refine Go_bipush (v := iZ 48) (pc' := 3) dX9_isDigit_1 rfl (by decide) ?_
                refine Go_icmp_ltY (tgt := 16) (pc' := 6) dX9_isDigit_3 (by decide) rfl (by first | exact ⟨i_lo _, i_hi _⟩ | omega) (by first | exact ⟨i_lo _, i_hi _⟩ | omega) (fun m3 => ?_) (fun m3 => ?_)
                · refine Go_iconst (v := iZ 0) (pc' := 17) dX9_isDigit_16 rfl (by decide) ?_
                  refine Go_ireturn (ty := .boolean) dX9_isDigit_17 rfl rfl ?_
                  refine ⟨_, rfl, ?_⟩
                  refine Go_if_eqY (tgt := 88) (pc' := 81) dX9_advance_78 (by decide) rfl (by first | exact ⟨i_lo _, i_hi _⟩ | omega) (fun c78 => ?_) (fun c78 => by exfalso; omega)
                  exfalso; omega
                · refine Go_iload_n (pc' := 7) dX9_isDigit_6 rfl rfl rfl ?_
                  refine Go_bipush (v := iZ 57) (pc' := 9) dX9_isDigit_7 rfl (by decide) ?_
                  refine Go_icmp_gtY (tgt := 16) (pc' := 12) dX9_isDigit_9 (by decide) rfl (by first | exact ⟨i_lo _, i_hi _⟩ | omega) (by first | exact ⟨i_lo _, i_hi _⟩ | omega) (fun m9 => ?_) (fun m9 => ?_)
                  · refine Go_iconst (v := iZ 0) (pc' := 17) dX9_isDigit_16 rfl (by decide) ?_
                    refine Go_ireturn (ty := .boolean) dX9_isDigit_17 rfl rfl ?_
                    refine ⟨_, rfl, ?_⟩
                    refine Go_if_eqY (tgt := 88) (pc' := 81) dX9_advance_78 (by decide) rfl (by first | exact ⟨i_lo _, i_hi _⟩ | omega) (fun c78 => ?_) (fun c78 => by exfalso; omega)
                    exfalso; omega
                  · refine Go_iconst (v := iZ 1) (pc' := 13) dX9_isDigit_12 rfl (by decide) ?_
                    refine Go_goto (tgt := 17) dX9_isDigit_13 (by decide) ?_
                    refine Go_ireturn (ty := .boolean) dX9_isDigit_17 rfl rfl ?_
                    refine ⟨_, rfl, ?_⟩
                    refine Go_if_eqY (tgt := 88) (pc' := 81) dX9_advance_78 (by decide) rfl (by first | exact ⟨i_lo _, i_hi _⟩ | omega) (fun c78 => by exfalso; omega) (fun c78 => ?_)
                    refine Go_aload_n (pc' := 82) dX9_advance_81 rfl rfl rfl ?_
                    refine Go_callV_v (pc' := 85) (As := []) (st := []) dX9_advance_82 rfl ok_X9_takeNumber km_RX9_146 (S.o 71 rfl rfl rfl) (S.b 71 rfl rfl) ⟨_, _, rfl⟩ rfl (Nat.le_of_ble_eq_true rfl) rfl rfl rfl (Nat.le_of_ble_eq_true rfl) (Nat.lt_succ_self _) ?_
                    refine s_tn (p := tP T n pos) (TF.w (TF.w F (by decide)) (by decide)) (by omega) ((vi_skip (Or.inr (by decide))).trans (vi_same)) (vi_same) ?_
                    refine ⟨rfl, ?_⟩
                    rw [← tE_dig c0 cl cd, ← tC_dig c0 cl cd]
                    refine Go_goto (tgt := 121) dX9_advance_85 (by decide) ?_
                    refine Go_return dX9_advance_121 rfl ?_
                    refine hk _ ((((((DX.rf _ _).wI (by unfold Pt; omega)).wI (by unfold Pt; omega)).wI (by unfold Pt; omega)).wI (by unfold Pt; omega)).wI (by unfold Pt; omega)) ((vi_skip (Or.inr (by decide))).trans (vi_same)) (vi_same) ((vi_skip (Or.inr (by decide))).trans ((vi_skip (Or.inr (by decide))).trans ((vi_skip (Or.inr (by decide))).trans (vi_same)))) (fun _ => ((vi_skip (Or.inr (by decide))).trans ((vi_skip (Or.inr (by decide))).trans (vi_same))))
              · refine Go_iconst (v := iZ 1) (pc' := 25) dX9_isLetter_24 rfl (by decide) ?_
                refine Go_goto (tgt := 29) dX9_isLetter_25 (by decide) ?_
                refine Go_ireturn (ty := .boolean) dX9_isLetter_29 rfl rfl ?_
                refine ⟨_, rfl, ?_⟩
                refine Go_if_eqY (tgt := 74) (pc' := 59) dX9_advance_56 (by decide) rfl (by first | exact ⟨i_lo _, i_hi _⟩ | omega) (fun c56 => by exfalso; omega) (fun c56 => ?_)
                exfalso; omega
      · have cd1 := cd
        unfold diB at cd1
        rw [decide_eq_true_iff] at cd1
        have hE := tE_sig c0 cl cd
        have hC := tC_sig c0 cl cd
        have eT : (T (tP T n pos)) = (((T (tP T n pos)).toNat : Nat) : Int) := by omega
        by_cases sg : sgn (T (tP T n pos))
        · rw [if_pos sg] at hC
          refine Go_aload_n (pc' := 1) dX9_advance_0 rfl rfl rfl ?_
          refine Go_callV_v (pc' := 4) (As := []) (st := []) dX9_advance_1 rfl ok_X9_skipBlanks km_RX9_129 (S.o 71 rfl rfl rfl) (S.b 71 rfl rfl) ⟨_, _, rfl⟩ rfl (Nat.le_of_ble_eq_true rfl) rfl rfl rfl (Nat.le_of_ble_eq_true rfl) (Nat.lt_succ_self _) ?_
          refine s_skB' F e2 hp ?_
          refine ⟨rfl, ?_⟩
          refine Go_aload_n (pc' := 5) dX9_advance_4 rfl rfl rfl ?_
          refine Go_aload_n (pc' := 6) dX9_advance_5 rfl rfl rfl ?_
          refine Go_getIv (v := (iZ (tP T n pos : Int))) (pc' := 9) dX9_advance_6 rfl kf_RX9_56 (by decide) (by decide) rfl (S.b 71 rfl rfl) (S.o 71 rfl rfl rfl) (vi_same) ?_
          refine Go_putI (pc' := 12) dX9_advance_9 rfl kf_RX9_68 (by decide) (by decide) rfl (S.b 71 rfl rfl) (S.o 71 rfl rfl rfl) (Or.inl rfl) rfl rfl ?_
          refine Go_aload_n (pc' := 13) dX9_advance_12 rfl rfl rfl ?_
          refine Go_getIv (v := (iZ (tP T n pos : Int))) (pc' := 16) dX9_advance_13 rfl kf_RX9_56 (by decide) (by decide) rfl (S.b 71 rfl rfl) (S.o 71 rfl rfl rfl) ((vi_skip (Or.inr (by decide))).trans (vi_same)) ?_
          refine Go_aload_n (pc' := 17) dX9_advance_16 rfl rfl rfl ?_
          refine Go_getIv (v := (iZ (n : Int))) (pc' := 20) dX9_advance_17 rfl kf_RX9_32 (by decide) (by decide) rfl (S.b 71 rfl rfl) (S.o 71 rfl rfl rfl) ((vi_skip (Or.inr (by decide))).trans ((vi_skip (Or.inr (by decide))).trans (en))) ?_
          refine Go_icmp_geY (tgt := 35) (pc' := 23) dX9_advance_20 (by decide) rfl (by first | exact ⟨i_lo _, i_hi _⟩ | omega) (by first | exact ⟨i_lo _, i_hi _⟩ | omega) (fun c20 => by exfalso; omega) (fun c20 => ?_)
          refine Go_aload_n (pc' := 24) dX9_advance_23 rfl rfl rfl ?_
          refine Go_getIv (v := (iZ (tP T n pos : Int))) (pc' := 27) dX9_advance_24 rfl kf_RX9_56 (by decide) (by decide) rfl (S.b 71 rfl rfl) (S.o 71 rfl rfl rfl) ((vi_skip (Or.inr (by decide))).trans (vi_same)) ?_
          refine Go_aload_n (pc' := 28) dX9_advance_27 rfl rfl rfl ?_
          refine Go_getRs (pc' := 31) dX9_advance_28 rfl kf_RX9_9 (by decide) (by decide) rfl (S.b 71 rfl rfl) (S.o 71 rfl rfl rfl) (S.r 71 0 rfl rfl rfl) ?_
          refine Go_alenZ (n := 600) (pc' := 32) dX9_advance_31 rfl (S.b 72 rfl rfl) (S.k 72 rfl rfl rfl) (Or.inl rfl) ?_
          refine Go_icmp_ltY (tgt := 42) (pc' := 35) dX9_advance_32 (by decide) rfl (by first | exact ⟨i_lo _, i_hi _⟩ | omega) (by first | exact ⟨i_lo _, i_hi _⟩ | omega) (fun c32 => ?_) (fun c32 => by exfalso; omega)
          refine Go_aload_n (pc' := 43) dX9_advance_42 rfl rfl rfl ?_
          refine Go_getRs (pc' := 46) dX9_advance_43 rfl kf_RX9_9 (by decide) (by decide) rfl (S.b 71 rfl rfl) (S.o 71 rfl rfl rfl) (S.r 71 0 rfl rfl rfl) ?_
          refine Go_aload_n (pc' := 47) dX9_advance_46 rfl rfl rfl ?_
          refine Go_getIv (v := (iZ (tP T n pos : Int))) (pc' := 50) dX9_advance_47 rfl kf_RX9_56 (by decide) (by decide) rfl (S.b 71 rfl rfl) (S.o 71 rfl rfl rfl) ((vi_skip (Or.inr (by decide))).trans (vi_same)) ?_
          refine Go_ialoadZ (n := 600) (k := (tP T n pos)) (v := (iZ ((T (tP T n pos)).toNat : Int))) (pc' := 51) dX9_advance_50 rfl (S.b 72 rfl rfl) (S.k 72 rfl rfl rfl) rfl (by omega) (by decide) ((vi_skip (Or.inl (by decide))).trans ((vi_skip (Or.inl (by decide))).trans (((ht (tP T n pos) (by omega)).1.trans (congrArg iZ eT))))) ?_
          refine Go_istore_n (pc' := 52) (lv' := [.ref _, .int _]) dX9_advance_51 rfl rfl (Nat.le_of_ble_eq_true rfl) rfl rfl ?_
          refine Go_iload_n (pc' := 53) dX9_advance_52 rfl rfl rfl ?_
          refine Go_callS_i (pc' := 56) (As := [.int _]) (st := []) dX9_advance_53 rfl ok_X9_isLetter km_RX9_132 rfl (Nat.le_of_ble_eq_true rfl) rfl rfl rfl (Nat.le_of_ble_eq_true rfl) (Nat.lt_succ_self _) ?_
          refine Go_iload_n (pc' := 1) dX9_isLetter_0 rfl rfl rfl ?_
          refine Go_bipush (v := iZ 97) (pc' := 3) dX9_isLetter_1 rfl (by decide) ?_
          refine Go_icmp_ltY (tgt := 12) (pc' := 6) dX9_isLetter_3 (by decide) rfl (by first | exact ⟨i_lo _, i_hi _⟩ | omega) (by first | exact ⟨i_lo _, i_hi _⟩ | omega) (fun l3 => ?_) (fun l3 => ?_)
          · refine Go_iload_n (pc' := 13) dX9_isLetter_12 rfl rfl rfl ?_
            refine Go_bipush (v := iZ 65) (pc' := 15) dX9_isLetter_13 rfl (by decide) ?_
            refine Go_icmp_ltY (tgt := 28) (pc' := 18) dX9_isLetter_15 (by decide) rfl (by first | exact ⟨i_lo _, i_hi _⟩ | omega) (by first | exact ⟨i_lo _, i_hi _⟩ | omega) (fun l15 => ?_) (fun l15 => ?_)
            · refine Go_iconst (v := iZ 0) (pc' := 29) dX9_isLetter_28 rfl (by decide) ?_
              refine Go_ireturn (ty := .boolean) dX9_isLetter_29 rfl rfl ?_
              refine ⟨_, rfl, ?_⟩
              refine Go_if_eqY (tgt := 74) (pc' := 59) dX9_advance_56 (by decide) rfl (by first | exact ⟨i_lo _, i_hi _⟩ | omega) (fun c56 => ?_) (fun c56 => by exfalso; omega)
              refine Go_iload_n (pc' := 75) dX9_advance_74 rfl rfl rfl ?_
              refine Go_callS_i (pc' := 78) (As := [.int _]) (st := []) dX9_advance_75 rfl ok_X9_isDigit km_RX9_143 rfl (Nat.le_of_ble_eq_true rfl) rfl rfl rfl (Nat.le_of_ble_eq_true rfl) (Nat.lt_succ_self _) ?_
              refine Go_iload_n (pc' := 1) dX9_isDigit_0 rfl rfl rfl ?_
              refine Go_bipush (v := iZ 48) (pc' := 3) dX9_isDigit_1 rfl (by decide) ?_
              refine Go_icmp_ltY (tgt := 16) (pc' := 6) dX9_isDigit_3 (by decide) rfl (by first | exact ⟨i_lo _, i_hi _⟩ | omega) (by first | exact ⟨i_lo _, i_hi _⟩ | omega) (fun m3 => ?_) (fun m3 => ?_)
              · refine Go_iconst (v := iZ 0) (pc' := 17) dX9_isDigit_16 rfl (by decide) ?_
                refine Go_ireturn (ty := .boolean) dX9_isDigit_17 rfl rfl ?_
                refine ⟨_, rfl, ?_⟩
                refine Go_if_eqY (tgt := 88) (pc' := 81) dX9_advance_78 (by decide) rfl (by first | exact ⟨i_lo _, i_hi _⟩ | omega) (fun c78 => ?_) (fun c78 => by exfalso; omega)
                refine Go_aload_n (pc' := 89) dX9_advance_88 rfl rfl rfl ?_
                refine Go_dup (pc' := 90) dX9_advance_89 rfl rfl ?_
                refine Go_getIv (v := (iZ (tP T n pos : Int))) (pc' := 93) dX9_advance_90 rfl kf_RX9_56 (by decide) (by decide) rfl (S.b 71 rfl rfl) (S.o 71 rfl rfl rfl) ((vi_skip (Or.inr (by decide))).trans (vi_same)) ?_
                refine Go_iconst (v := iZ 1) (pc' := 94) dX9_advance_93 rfl (by decide) ?_
                refine Go_iaddZ (pc' := 95) dX9_advance_94 rfl ?_
                refine Go_putI (pc' := 98) dX9_advance_95 rfl kf_RX9_56 (by decide) (by decide) rfl (S.b 71 rfl rfl) (S.o 71 rfl rfl rfl) (Or.inl rfl) rfl rfl ?_
                refine Go_aload_n (pc' := 99) dX9_advance_98 rfl rfl rfl ?_
                refine Go_ldcS (tx := ";+-*/()<=>") (j := 14) (pc' := 101) dX9_advance_99 rfl (by decide +kernel) (by decide) ?_
                refine Go_iload_n (pc' := 102) dX9_advance_101 rfl rfl rfl ?_
                refine Go_i2cZ (pc' := 103) dX9_advance_102 rfl (by omega) ?_
                refine Go_callVS_i (j := 14) (pc' := 106) (As := [.int _]) (st := [.ref _]) dX9_advance_103 rfl ok_J0_indexOf_0f7a4 km_RX9_151 (by decide) rfl rfl (Nat.le_of_ble_eq_true rfl) rfl rfl rfl (Nat.le_of_ble_eq_true rfl) (Nat.lt_succ_self _) ?_
                refine s_indexOf (j := 14) (n := (T (tP T n pos)).toNat) (by decide) rfl (by omega) (fun R r1 r2 => ?_)
                refine ⟨_, rfl, ?_⟩
                refine Go_if_ltY (tgt := 116) (pc' := 109) dX9_advance_106 (by decide) rfl (by first | exact ⟨i_lo _, i_hi _⟩ | omega) (fun c106 => by exfalso; omega) (fun c106 => ?_)
                refine Go_bipush (v := iZ 100) (pc' := 111) dX9_advance_109 rfl (by decide) ?_
                refine Go_iload_n (pc' := 112) dX9_advance_111 rfl rfl rfl ?_
                refine Go_iaddZ (pc' := 113) dX9_advance_112 rfl ?_
                refine Go_goto (tgt := 118) dX9_advance_113 (by decide) ?_
                refine Go_putI (pc' := 121) dX9_advance_118 rfl kf_RX9_44 (by decide) (by decide) rfl (S.b 71 rfl rfl) (S.o 71 rfl rfl rfl) (Or.inl rfl) rfl rfl ?_
                refine Go_return dX9_advance_121 rfl ?_
                refine hk _ (((((DX.rf _ _).wI (by unfold Pt; omega)).wI (by unfold Pt; omega)).wI (by unfold Pt; omega)).wI (by unfold Pt; omega)) (((vi_skip (Or.inr (by decide))).trans (vi_same)).trans (congrArg iZ (by omega))) ((vi_same).trans (congrArg iZ (by omega))) ((vi_skip (Or.inr (by decide))).trans ((vi_skip (Or.inr (by decide))).trans (vi_same))) (fun z => by exfalso; omega)
              · refine Go_iload_n (pc' := 7) dX9_isDigit_6 rfl rfl rfl ?_
                refine Go_bipush (v := iZ 57) (pc' := 9) dX9_isDigit_7 rfl (by decide) ?_
                refine Go_icmp_gtY (tgt := 16) (pc' := 12) dX9_isDigit_9 (by decide) rfl (by first | exact ⟨i_lo _, i_hi _⟩ | omega) (by first | exact ⟨i_lo _, i_hi _⟩ | omega) (fun m9 => ?_) (fun m9 => ?_)
                · refine Go_iconst (v := iZ 0) (pc' := 17) dX9_isDigit_16 rfl (by decide) ?_
                  refine Go_ireturn (ty := .boolean) dX9_isDigit_17 rfl rfl ?_
                  refine ⟨_, rfl, ?_⟩
                  refine Go_if_eqY (tgt := 88) (pc' := 81) dX9_advance_78 (by decide) rfl (by first | exact ⟨i_lo _, i_hi _⟩ | omega) (fun c78 => ?_) (fun c78 => by exfalso; omega)
                  refine Go_aload_n (pc' := 89) dX9_advance_88 rfl rfl rfl ?_
                  refine Go_dup (pc' := 90) dX9_advance_89 rfl rfl ?_
                  refine Go_getIv (v := (iZ (tP T n pos : Int))) (pc' := 93) dX9_advance_90 rfl kf_RX9_56 (by decide) (by decide) rfl (S.b 71 rfl rfl) (S.o 71 rfl rfl rfl) ((vi_skip (Or.inr (by decide))).trans (vi_same)) ?_
                  refine Go_iconst (v := iZ 1) (pc' := 94) dX9_advance_93 rfl (by decide) ?_
                  refine Go_iaddZ (pc' := 95) dX9_advance_94 rfl ?_
                  refine Go_putI (pc' := 98) dX9_advance_95 rfl kf_RX9_56 (by decide) (by decide) rfl (S.b 71 rfl rfl) (S.o 71 rfl rfl rfl) (Or.inl rfl) rfl rfl ?_
                  refine Go_aload_n (pc' := 99) dX9_advance_98 rfl rfl rfl ?_
                  refine Go_ldcS (tx := ";+-*/()<=>") (j := 14) (pc' := 101) dX9_advance_99 rfl (by decide +kernel) (by decide) ?_
                  refine Go_iload_n (pc' := 102) dX9_advance_101 rfl rfl rfl ?_
                  refine Go_i2cZ (pc' := 103) dX9_advance_102 rfl (by omega) ?_
                  refine Go_callVS_i (j := 14) (pc' := 106) (As := [.int _]) (st := [.ref _]) dX9_advance_103 rfl ok_J0_indexOf_0f7a4 km_RX9_151 (by decide) rfl rfl (Nat.le_of_ble_eq_true rfl) rfl rfl rfl (Nat.le_of_ble_eq_true rfl) (Nat.lt_succ_self _) ?_
                  refine s_indexOf (j := 14) (n := (T (tP T n pos)).toNat) (by decide) rfl (by omega) (fun R r1 r2 => ?_)
                  refine ⟨_, rfl, ?_⟩
                  refine Go_if_ltY (tgt := 116) (pc' := 109) dX9_advance_106 (by decide) rfl (by first | exact ⟨i_lo _, i_hi _⟩ | omega) (fun c106 => by exfalso; omega) (fun c106 => ?_)
                  refine Go_bipush (v := iZ 100) (pc' := 111) dX9_advance_109 rfl (by decide) ?_
                  refine Go_iload_n (pc' := 112) dX9_advance_111 rfl rfl rfl ?_
                  refine Go_iaddZ (pc' := 113) dX9_advance_112 rfl ?_
                  refine Go_goto (tgt := 118) dX9_advance_113 (by decide) ?_
                  refine Go_putI (pc' := 121) dX9_advance_118 rfl kf_RX9_44 (by decide) (by decide) rfl (S.b 71 rfl rfl) (S.o 71 rfl rfl rfl) (Or.inl rfl) rfl rfl ?_
                  refine Go_return dX9_advance_121 rfl ?_
                  refine hk _ (((((DX.rf _ _).wI (by unfold Pt; omega)).wI (by unfold Pt; omega)).wI (by unfold Pt; omega)).wI (by unfold Pt; omega)) (((vi_skip (Or.inr (by decide))).trans (vi_same)).trans (congrArg iZ (by omega))) ((vi_same).trans (congrArg iZ (by omega))) ((vi_skip (Or.inr (by decide))).trans ((vi_skip (Or.inr (by decide))).trans (vi_same))) (fun z => by exfalso; omega)
                · refine Go_iconst (v := iZ 1) (pc' := 13) dX9_isDigit_12 rfl (by decide) ?_
                  refine Go_goto (tgt := 17) dX9_isDigit_13 (by decide) ?_
                  refine Go_ireturn (ty := .boolean) dX9_isDigit_17 rfl rfl ?_
                  refine ⟨_, rfl, ?_⟩
                  refine Go_if_eqY (tgt := 88) (pc' := 81) dX9_advance_78 (by decide) rfl (by first | exact ⟨i_lo _, i_hi _⟩ | omega) (fun c78 => by exfalso; omega) (fun c78 => ?_)
                  exfalso; omega
            · refine Go_iload_n (pc' := 19) dX9_isLetter_18 rfl rfl rfl ?_
              refine Go_bipush (v := iZ 90) (pc' := 21) dX9_isLetter_19 rfl (by decide) ?_
              refine Go_icmp_gtY (tgt := 28) (pc' := 24) dX9_isLetter_21 (by decide) rfl (by first | exact ⟨i_lo _, i_hi _⟩ | omega) (by first | exact ⟨i_lo _, i_hi _⟩ | omega) (fun l21 => ?_) (fun l21 => ?_)
              · refine Go_iconst (v := iZ 0) (pc' := 29) dX9_isLetter_28 rfl (by decide) ?_
                refine Go_ireturn (ty := .boolean) dX9_isLetter_29 rfl rfl ?_
                refine ⟨_, rfl, ?_⟩
                refine Go_if_eqY (tgt := 74) (pc' := 59) dX9_advance_56 (by decide) rfl (by first | exact ⟨i_lo _, i_hi _⟩ | omega) (fun c56 => ?_) (fun c56 => by exfalso; omega)
                refine Go_iload_n (pc' := 75) dX9_advance_74 rfl rfl rfl ?_
                refine Go_callS_i (pc' := 78) (As := [.int _]) (st := []) dX9_advance_75 rfl ok_X9_isDigit km_RX9_143 rfl (Nat.le_of_ble_eq_true rfl) rfl rfl rfl (Nat.le_of_ble_eq_true rfl) (Nat.lt_succ_self _) ?_
                refine Go_iload_n (pc' := 1) dX9_isDigit_0 rfl rfl rfl ?_
                refine Go_bipush (v := iZ 48) (pc' := 3) dX9_isDigit_1 rfl (by decide) ?_
                refine Go_icmp_ltY (tgt := 16) (pc' := 6) dX9_isDigit_3 (by decide) rfl (by first | exact ⟨i_lo _, i_hi _⟩ | omega) (by first | exact ⟨i_lo _, i_hi _⟩ | omega) (fun m3 => ?_) (fun m3 => ?_)
                · refine Go_iconst (v := iZ 0) (pc' := 17) dX9_isDigit_16 rfl (by decide) ?_
                  refine Go_ireturn (ty := .boolean) dX9_isDigit_17 rfl rfl ?_
                  refine ⟨_, rfl, ?_⟩
                  refine Go_if_eqY (tgt := 88) (pc' := 81) dX9_advance_78 (by decide) rfl (by first | exact ⟨i_lo _, i_hi _⟩ | omega) (fun c78 => ?_) (fun c78 => by exfalso; omega)
                  refine Go_aload_n (pc' := 89) dX9_advance_88 rfl rfl rfl ?_
                  refine Go_dup (pc' := 90) dX9_advance_89 rfl rfl ?_
                  refine Go_getIv (v := (iZ (tP T n pos : Int))) (pc' := 93) dX9_advance_90 rfl kf_RX9_56 (by decide) (by decide) rfl (S.b 71 rfl rfl) (S.o 71 rfl rfl rfl) ((vi_skip (Or.inr (by decide))).trans (vi_same)) ?_
                  refine Go_iconst (v := iZ 1) (pc' := 94) dX9_advance_93 rfl (by decide) ?_
                  refine Go_iaddZ (pc' := 95) dX9_advance_94 rfl ?_
                  refine Go_putI (pc' := 98) dX9_advance_95 rfl kf_RX9_56 (by decide) (by decide) rfl (S.b 71 rfl rfl) (S.o 71 rfl rfl rfl) (Or.inl rfl) rfl rfl ?_
                  refine Go_aload_n (pc' := 99) dX9_advance_98 rfl rfl rfl ?_
                  refine Go_ldcS (tx := ";+-*/()<=>") (j := 14) (pc' := 101) dX9_advance_99 rfl (by decide +kernel) (by decide) ?_
                  refine Go_iload_n (pc' := 102) dX9_advance_101 rfl rfl rfl ?_
                  refine Go_i2cZ (pc' := 103) dX9_advance_102 rfl (by omega) ?_
                  refine Go_callVS_i (j := 14) (pc' := 106) (As := [.int _]) (st := [.ref _]) dX9_advance_103 rfl ok_J0_indexOf_0f7a4 km_RX9_151 (by decide) rfl rfl (Nat.le_of_ble_eq_true rfl) rfl rfl rfl (Nat.le_of_ble_eq_true rfl) (Nat.lt_succ_self _) ?_
                  refine s_indexOf (j := 14) (n := (T (tP T n pos)).toNat) (by decide) rfl (by omega) (fun R r1 r2 => ?_)
                  refine ⟨_, rfl, ?_⟩
                  refine Go_if_ltY (tgt := 116) (pc' := 109) dX9_advance_106 (by decide) rfl (by first | exact ⟨i_lo _, i_hi _⟩ | omega) (fun c106 => by exfalso; omega) (fun c106 => ?_)
                  refine Go_bipush (v := iZ 100) (pc' := 111) dX9_advance_109 rfl (by decide) ?_
                  refine Go_iload_n (pc' := 112) dX9_advance_111 rfl rfl rfl ?_
                  refine Go_iaddZ (pc' := 113) dX9_advance_112 rfl ?_
                  refine Go_goto (tgt := 118) dX9_advance_113 (by decide) ?_
                  refine Go_putI (pc' := 121) dX9_advance_118 rfl kf_RX9_44 (by decide) (by decide) rfl (S.b 71 rfl rfl) (S.o 71 rfl rfl rfl) (Or.inl rfl) rfl rfl ?_
                  refine Go_return dX9_advance_121 rfl ?_
                  refine hk _ (((((DX.rf _ _).wI (by unfold Pt; omega)).wI (by unfold Pt; omega)).wI (by unfold Pt; omega)).wI (by unfold Pt; omega)) (((vi_skip (Or.inr (by decide))).trans (vi_same)).trans (congrArg iZ (by omega))) ((vi_same).trans (congrArg iZ (by omega))) ((vi_skip (Or.inr (by decide))).trans ((vi_skip (Or.inr (by decide))).trans (vi_same))) (fun z => by exfalso; omega)
                · refine Go_iload_n (pc' := 7) dX9_isDigit_6 rfl rfl rfl ?_
                  refine Go_bipush (v := iZ 57) (pc' := 9) dX9_isDigit_7 rfl (by decide) ?_
                  refine Go_icmp_gtY (tgt := 16) (pc' := 12) dX9_isDigit_9 (by decide) rfl (by first | exact ⟨i_lo _, i_hi _⟩ | omega) (by first | exact ⟨i_lo _, i_hi _⟩ | omega) (fun m9 => ?_) (fun m9 => ?_)
                  · refine Go_iconst (v := iZ 0) (pc' := 17) dX9_isDigit_16 rfl (by decide) ?_
                    refine Go_ireturn (ty := .boolean) dX9_isDigit_17 rfl rfl ?_
                    refine ⟨_, rfl, ?_⟩
                    refine Go_if_eqY (tgt := 88) (pc' := 81) dX9_advance_78 (by decide) rfl (by first | exact ⟨i_lo _, i_hi _⟩ | omega) (fun c78 => ?_) (fun c78 => by exfalso; omega)
                    refine Go_aload_n (pc' := 89) dX9_advance_88 rfl rfl rfl ?_
                    refine Go_dup (pc' := 90) dX9_advance_89 rfl rfl ?_
                    refine Go_getIv (v := (iZ (tP T n pos : Int))) (pc' := 93) dX9_advance_90 rfl kf_RX9_56 (by decide) (by decide) rfl (S.b 71 rfl rfl) (S.o 71 rfl rfl rfl) ((vi_skip (Or.inr (by decide))).trans (vi_same)) ?_
                    refine Go_iconst (v := iZ 1) (pc' := 94) dX9_advance_93 rfl (by decide) ?_
                    refine Go_iaddZ (pc' := 95) dX9_advance_94 rfl ?_
                    refine Go_putI (pc' := 98) dX9_advance_95 rfl kf_RX9_56 (by decide) (by decide) rfl (S.b 71 rfl rfl) (S.o 71 rfl rfl rfl) (Or.inl rfl) rfl rfl ?_
                    refine Go_aload_n (pc' := 99) dX9_advance_98 rfl rfl rfl ?_
                    refine Go_ldcS (tx := ";+-*/()<=>") (j := 14) (pc' := 101) dX9_advance_99 rfl (by decide +kernel) (by decide) ?_
                    refine Go_iload_n (pc' := 102) dX9_advance_101 rfl rfl rfl ?_
                    refine Go_i2cZ (pc' := 103) dX9_advance_102 rfl (by omega) ?_
                    refine Go_callVS_i (j := 14) (pc' := 106) (As := [.int _]) (st := [.ref _]) dX9_advance_103 rfl ok_J0_indexOf_0f7a4 km_RX9_151 (by decide) rfl rfl (Nat.le_of_ble_eq_true rfl) rfl rfl rfl (Nat.le_of_ble_eq_true rfl) (Nat.lt_succ_self _) ?_
                    refine s_indexOf (j := 14) (n := (T (tP T n pos)).toNat) (by decide) rfl (by omega) (fun R r1 r2 => ?_)
                    refine ⟨_, rfl, ?_⟩
                    refine Go_if_ltY (tgt := 116) (pc' := 109) dX9_advance_106 (by decide) rfl (by first | exact ⟨i_lo _, i_hi _⟩ | omega) (fun c106 => by exfalso; omega) (fun c106 => ?_)
                    refine Go_bipush (v := iZ 100) (pc' := 111) dX9_advance_109 rfl (by decide) ?_
                    refine Go_iload_n (pc' := 112) dX9_advance_111 rfl rfl rfl ?_
                    refine Go_iaddZ (pc' := 113) dX9_advance_112 rfl ?_
                    refine Go_goto (tgt := 118) dX9_advance_113 (by decide) ?_
                    refine Go_putI (pc' := 121) dX9_advance_118 rfl kf_RX9_44 (by decide) (by decide) rfl (S.b 71 rfl rfl) (S.o 71 rfl rfl rfl) (Or.inl rfl) rfl rfl ?_
                    refine Go_return dX9_advance_121 rfl ?_
                    refine hk _ (((((DX.rf _ _).wI (by unfold Pt; omega)).wI (by unfold Pt; omega)).wI (by unfold Pt; omega)).wI (by unfold Pt; omega)) (((vi_skip (Or.inr (by decide))).trans (vi_same)).trans (congrArg iZ (by omega))) ((vi_same).trans (congrArg iZ (by omega))) ((vi_skip (Or.inr (by decide))).trans ((vi_skip (Or.inr (by decide))).trans (vi_same))) (fun z => by exfalso; omega)
                  · refine Go_iconst (v := iZ 1) (pc' := 13) dX9_isDigit_12 rfl (by decide) ?_
                    refine Go_goto (tgt := 17) dX9_isDigit_13 (by decide) ?_
                    refine Go_ireturn (ty := .boolean) dX9_isDigit_17 rfl rfl ?_
                    refine ⟨_, rfl, ?_⟩
                    refine Go_if_eqY (tgt := 88) (pc' := 81) dX9_advance_78 (by decide) rfl (by first | exact ⟨i_lo _, i_hi _⟩ | omega) (fun c78 => by exfalso; omega) (fun c78 => ?_)
                    exfalso; omega
              · refine Go_iconst (v := iZ 1) (pc' := 25) dX9_isLetter_24 rfl (by decide) ?_
                refine Go_goto (tgt := 29) dX9_isLetter_25 (by decide) ?_
                refine Go_ireturn (ty := .boolean) dX9_isLetter_29 rfl rfl ?_
                refine ⟨_, rfl, ?_⟩
                refine Go_if_eqY (tgt := 74) (pc' := 59) dX9_advance_56 (by decide) rfl (by first | exact ⟨i_lo _, i_hi _⟩ | omega) (fun c56 => by exfalso; omega) (fun c56 => ?_)
                exfalso; omega
          · refine Go_iload_n (pc' := 7) dX9_isLetter_6 rfl rfl rfl ?_
            refine Go_bipush (v := iZ 122) (pc' := 9) dX9_isLetter_7 rfl (by decide) ?_
            refine Go_icmp_leY (tgt := 24) (pc' := 12) dX9_isLetter_9 (by decide) rfl (by first | exact ⟨i_lo _, i_hi _⟩ | omega) (by first | exact ⟨i_lo _, i_hi _⟩ | omega) (fun l9 => ?_) (fun l9 => ?_)
            · refine Go_iconst (v := iZ 1) (pc' := 25) dX9_isLetter_24 rfl (by decide) ?_
              refine Go_goto (tgt := 29) dX9_isLetter_25 (by decide) ?_
              refine Go_ireturn (ty := .boolean) dX9_isLetter_29 rfl rfl ?_
              refine ⟨_, rfl, ?_⟩
              refine Go_if_eqY (tgt := 74) (pc' := 59) dX9_advance_56 (by decide) rfl (by first | exact ⟨i_lo _, i_hi _⟩ | omega) (fun c56 => by exfalso; omega) (fun c56 => ?_)
              exfalso; omega
            · refine Go_iload_n (pc' := 13) dX9_isLetter_12 rfl rfl rfl ?_
              refine Go_bipush (v := iZ 65) (pc' := 15) dX9_isLetter_13 rfl (by decide) ?_
              refine Go_icmp_ltY (tgt := 28) (pc' := 18) dX9_isLetter_15 (by decide) rfl (by first | exact ⟨i_lo _, i_hi _⟩ | omega) (by first | exact ⟨i_lo _, i_hi _⟩ | omega) (fun l15 => ?_) (fun l15 => ?_)
              · refine Go_iconst (v := iZ 0) (pc' := 29) dX9_isLetter_28 rfl (by decide) ?_
                refine Go_ireturn (ty := .boolean) dX9_isLetter_29 rfl rfl ?_
                refine ⟨_, rfl, ?_⟩
                refine Go_if_eqY (tgt := 74) (pc' := 59) dX9_advance_56 (by decide) rfl (by first | exact ⟨i_lo _, i_hi _⟩ | omega) (fun c56 => ?_) (fun c56 => by exfalso; omega)
                refine Go_iload_n (pc' := 75) dX9_advance_74 rfl rfl rfl ?_
                refine Go_callS_i (pc' := 78) (As := [.int _]) (st := []) dX9_advance_75 rfl ok_X9_isDigit km_RX9_143 rfl (Nat.le_of_ble_eq_true rfl) rfl rfl rfl (Nat.le_of_ble_eq_true rfl) (Nat.lt_succ_self _) ?_
                refine Go_iload_n (pc' := 1) dX9_isDigit_0 rfl rfl rfl ?_
                refine Go_bipush (v := iZ 48) (pc' := 3) dX9_isDigit_1 rfl (by decide) ?_
                refine Go_icmp_ltY (tgt := 16) (pc' := 6) dX9_isDigit_3 (by decide) rfl (by first | exact ⟨i_lo _, i_hi _⟩ | omega) (by first | exact ⟨i_lo _, i_hi _⟩ | omega) (fun m3 => ?_) (fun m3 => ?_)
                · refine Go_iconst (v := iZ 0) (pc' := 17) dX9_isDigit_16 rfl (by decide) ?_
                  refine Go_ireturn (ty := .boolean) dX9_isDigit_17 rfl rfl ?_
                  refine ⟨_, rfl, ?_⟩
                  refine Go_if_eqY (tgt := 88) (pc' := 81) dX9_advance_78 (by decide) rfl (by first | exact ⟨i_lo _, i_hi _⟩ | omega) (fun c78 => ?_) (fun c78 => by exfalso; omega)
                  refine Go_aload_n (pc' := 89) dX9_advance_88 rfl rfl rfl ?_
                  refine Go_dup (pc' := 90) dX9_advance_89 rfl rfl ?_
                  refine Go_getIv (v := (iZ (tP T n pos : Int))) (pc' := 93) dX9_advance_90 rfl kf_RX9_56 (by decide) (by decide) rfl (S.b 71 rfl rfl) (S.o 71 rfl rfl rfl) ((vi_skip (Or.inr (by decide))).trans (vi_same)) ?_
                  refine Go_iconst (v := iZ 1) (pc' := 94) dX9_advance_93 rfl (by decide) ?_
                  refine Go_iaddZ (pc' := 95) dX9_advance_94 rfl ?_
                  refine Go_putI (pc' := 98) dX9_advance_95 rfl kf_RX9_56 (by decide) (by decide) rfl (S.b 71 rfl rfl) (S.o 71 rfl rfl rfl) (Or.inl rfl) rfl rfl ?_
                  refine Go_aload_n (pc' := 99) dX9_advance_98 rfl rfl rfl ?_
                  refine Go_ldcS (tx := ";+-*/()<=>") (j := 14) (pc' := 101) dX9_advance_99 rfl (by decide +kernel) (by decide) ?_
                  refine Go_iload_n (pc' := 102) dX9_advance_101 rfl rfl rfl ?_
                  refine Go_i2cZ (pc' := 103) dX9_advance_102 rfl (by omega) ?_
                  refine Go_callVS_i (j := 14) (pc' := 106) (As := [.int _]) (st := [.ref _]) dX9_advance_103 rfl ok_J0_indexOf_0f7a4 km_RX9_151 (by decide) rfl rfl (Nat.le_of_ble_eq_true rfl) rfl rfl rfl (Nat.le_of_ble_eq_true rfl) (Nat.lt_succ_self _) ?_
                  refine s_indexOf (j := 14) (n := (T (tP T n pos)).toNat) (by decide) rfl (by omega) (fun R r1 r2 => ?_)
                  refine ⟨_, rfl, ?_⟩
                  refine Go_if_ltY (tgt := 116) (pc' := 109) dX9_advance_106 (by decide) rfl (by first | exact ⟨i_lo _, i_hi _⟩ | omega) (fun c106 => by exfalso; omega) (fun c106 => ?_)
                  refine Go_bipush (v := iZ 100) (pc' := 111) dX9_advance_109 rfl (by decide) ?_
                  refine Go_iload_n (pc' := 112) dX9_advance_111 rfl rfl rfl ?_
                  refine Go_iaddZ (pc' := 113) dX9_advance_112 rfl ?_
                  refine Go_goto (tgt := 118) dX9_advance_113 (by decide) ?_
                  refine Go_putI (pc' := 121) dX9_advance_118 rfl kf_RX9_44 (by decide) (by decide) rfl (S.b 71 rfl rfl) (S.o 71 rfl rfl rfl) (Or.inl rfl) rfl rfl ?_
                  refine Go_return dX9_advance_121 rfl ?_
                  refine hk _ (((((DX.rf _ _).wI (by unfold Pt; omega)).wI (by unfold Pt; omega)).wI (by unfold Pt; omega)).wI (by unfold Pt; omega)) (((vi_skip (Or.inr (by decide))).trans (vi_same)).trans (congrArg iZ (by omega))) ((vi_same).trans (congrArg iZ (by omega))) ((vi_skip (Or.inr (by decide))).trans ((vi_skip (Or.inr (by decide))).trans (vi_same))) (fun z => by exfalso; omega)
                · refine Go_iload_n (pc' := 7) dX9_isDigit_6 rfl rfl rfl ?_
                  refine Go_bipush (v := iZ 57) (pc' := 9) dX9_isDigit_7 rfl (by decide) ?_
                  refine Go_icmp_gtY (tgt := 16) (pc' := 12) dX9_isDigit_9 (by decide) rfl (by first | exact ⟨i_lo _, i_hi _⟩ | omega) (by first | exact ⟨i_lo _, i_hi _⟩ | omega) (fun m9 => ?_) (fun m9 => ?_)
                  · refine Go_iconst (v := iZ 0) (pc' := 17) dX9_isDigit_16 rfl (by decide) ?_
                    refine Go_ireturn (ty := .boolean) dX9_isDigit_17 rfl rfl ?_
                    refine ⟨_, rfl, ?_⟩
                    refine Go_if_eqY (tgt := 88) (pc' := 81) dX9_advance_78 (by decide) rfl (by first | exact ⟨i_lo _, i_hi _⟩ | omega) (fun c78 => ?_) (fun c78 => by exfalso; omega)
                    refine Go_aload_n (pc' := 89) dX9_advance_88 rfl rfl rfl ?_
                    refine Go_dup (pc' := 90) dX9_advance_89 rfl rfl ?_
                    refine Go_getIv (v := (iZ (tP T n pos : Int))) (pc' := 93) dX9_advance_90 rfl kf_RX9_56 (by decide) (by decide) rfl (S.b 71 rfl rfl) (S.o 71 rfl rfl rfl) ((vi_skip (Or.inr (by decide))).trans (vi_same)) ?_
                    refine Go_iconst (v := iZ 1) (pc' := 94) dX9_advance_93 rfl (by decide) ?_
                    refine Go_iaddZ (pc' := 95) dX9_advance_94 rfl ?_
                    refine Go_putI (pc' := 98) dX9_advance_95 rfl kf_RX9_56 (by decide) (by decide) rfl (S.b 71 rfl rfl) (S.o 71 rfl rfl rfl) (Or.inl rfl) rfl rfl ?_
                    refine Go_aload_n (pc' := 99) dX9_advance_98 rfl rfl rfl ?_
                    refine Go_ldcS (tx := ";+-*/()<=>") (j := 14) (pc' := 101) dX9_advance_99 rfl (by decide +kernel) (by decide) ?_
                    refine Go_iload_n (pc' := 102) dX9_advance_101 rfl rfl rfl ?_
                    refine Go_i2cZ (pc' := 103) dX9_advance_102 rfl (by omega) ?_
                    refine Go_callVS_i (j := 14) (pc' := 106) (As := [.int _]) (st := [.ref _]) dX9_advance_103 rfl ok_J0_indexOf_0f7a4 km_RX9_151 (by decide) rfl rfl (Nat.le_of_ble_eq_true rfl) rfl rfl rfl (Nat.le_of_ble_eq_true rfl) (Nat.lt_succ_self _) ?_
                    refine s_indexOf (j := 14) (n := (T (tP T n pos)).toNat) (by decide) rfl (by omega) (fun R r1 r2 => ?_)
                    refine ⟨_, rfl, ?_⟩
                    refine Go_if_ltY (tgt := 116) (pc' := 109) dX9_advance_106 (by decide) rfl (by first | exact ⟨i_lo _, i_hi _⟩ | omega) (fun c106 => by exfalso; omega) (fun c106 => ?_)
                    refine Go_bipush (v := iZ 100) (pc' := 111) dX9_advance_109 rfl (by decide) ?_
                    refine Go_iload_n (pc' := 112) dX9_advance_111 rfl rfl rfl ?_
                    refine Go_iaddZ (pc' := 113) dX9_advance_112 rfl ?_
                    refine Go_goto (tgt := 118) dX9_advance_113 (by decide) ?_
                    refine Go_putI (pc' := 121) dX9_advance_118 rfl kf_RX9_44 (by decide) (by decide) rfl (S.b 71 rfl rfl) (S.o 71 rfl rfl rfl) (Or.inl rfl) rfl rfl ?_
                    refine Go_return dX9_advance_121 rfl ?_
                    refine hk _ (((((DX.rf _ _).wI (by unfold Pt; omega)).wI (by unfold Pt; omega)).wI (by unfold Pt; omega)).wI (by unfold Pt; omega)) (((vi_skip (Or.inr (by decide))).trans (vi_same)).trans (congrArg iZ (by omega))) ((vi_same).trans (congrArg iZ (by omega))) ((vi_skip (Or.inr (by decide))).trans ((vi_skip (Or.inr (by decide))).trans (vi_same))) (fun z => by exfalso; omega)
                  · refine Go_iconst (v := iZ 1) (pc' := 13) dX9_isDigit_12 rfl (by decide) ?_
                    refine Go_goto (tgt := 17) dX9_isDigit_13 (by decide) ?_
                    refine Go_ireturn (ty := .boolean) dX9_isDigit_17 rfl rfl ?_
                    refine ⟨_, rfl, ?_⟩
                    refine Go_if_eqY (tgt := 88) (pc' := 81) dX9_advance_78 (by decide) rfl (by first | exact ⟨i_lo _, i_hi _⟩ | omega) (fun c78 => by exfalso; omega) (fun c78 => ?_)
                    exfalso; omega
              · refine Go_iload_n (pc' := 19) dX9_isLetter_18 rfl rfl rfl ?_
                refine Go_bipush (v := iZ 90) (pc' := 21) dX9_isLetter_19 rfl (by decide) ?_
                refine Go_icmp_gtY (tgt := 28) (pc' := 24) dX9_isLetter_21 (by decide) rfl (by first | exact ⟨i_lo _, i_hi _⟩ | omega) (by first | exact ⟨i_lo _, i_hi _⟩ | omega) (fun l21 => ?_) (fun l21 => ?_)
                · refine Go_iconst (v := iZ 0) (pc' := 29) dX9_isLetter_28 rfl (by decide) ?_
                  refine Go_ireturn (ty := .boolean) dX9_isLetter_29 rfl rfl ?_
                  refine ⟨_, rfl, ?_⟩
                  refine Go_if_eqY (tgt := 74) (pc' := 59) dX9_advance_56 (by decide) rfl (by first | exact ⟨i_lo _, i_hi _⟩ | omega) (fun c56 => ?_) (fun c56 => by exfalso; omega)
                  refine Go_iload_n (pc' := 75) dX9_advance_74 rfl rfl rfl ?_
                  refine Go_callS_i (pc' := 78) (As := [.int _]) (st := []) dX9_advance_75 rfl ok_X9_isDigit km_RX9_143 rfl (Nat.le_of_ble_eq_true rfl) rfl rfl rfl (Nat.le_of_ble_eq_true rfl) (Nat.lt_succ_self _) ?_
                  refine Go_iload_n (pc' := 1) dX9_isDigit_0 rfl rfl rfl ?_
                  refine Go_bipush (v := iZ 48) (pc' := 3) dX9_isDigit_1 rfl (by decide) ?_
                  refine Go_icmp_ltY (tgt := 16) (pc' := 6) dX9_isDigit_3 (by decide) rfl (by first | exact ⟨i_lo _, i_hi _⟩ | omega) (by first | exact ⟨i_lo _, i_hi _⟩ | omega) (fun m3 => ?_) (fun m3 => ?_)
                  · refine Go_iconst (v := iZ 0) (pc' := 17) dX9_isDigit_16 rfl (by decide) ?_
                    refine Go_ireturn (ty := .boolean) dX9_isDigit_17 rfl rfl ?_
                    refine ⟨_, rfl, ?_⟩
                    refine Go_if_eqY (tgt := 88) (pc' := 81) dX9_advance_78 (by decide) rfl (by first | exact ⟨i_lo _, i_hi _⟩ | omega) (fun c78 => ?_) (fun c78 => by exfalso; omega)
                    refine Go_aload_n (pc' := 89) dX9_advance_88 rfl rfl rfl ?_
                    refine Go_dup (pc' := 90) dX9_advance_89 rfl rfl ?_
                    refine Go_getIv (v := (iZ (tP T n pos : Int))) (pc' := 93) dX9_advance_90 rfl kf_RX9_56 (by decide) (by decide) rfl (S.b 71 rfl rfl) (S.o 71 rfl rfl rfl) ((vi_skip (Or.inr (by decide))).trans (vi_same)) ?_
                    refine Go_iconst (v := iZ 1) (pc' := 94) dX9_advance_93 rfl (by decide) ?_
                    refine Go_iaddZ (pc' := 95) dX9_advance_94 rfl ?_
                    refine Go_putI (pc' := 98) dX9_advance_95 rfl kf_RX9_56 (by decide) (by decide) rfl (S.b 71 rfl rfl) (S.o 71 rfl rfl rfl) (Or.inl rfl) rfl rfl ?_
                    refine Go_aload_n (pc' := 99) dX9_advance_98 rfl rfl rfl ?_
                    refine Go_ldcS (tx := ";+-*/()<=>") (j := 14) (pc' := 101) dX9_advance_99 rfl (by decide +kernel) (by decide) ?_
                    refine Go_iload_n (pc' := 102) dX9_advance_101 rfl rfl rfl ?_
                    refine Go_i2cZ (pc' := 103) dX9_advance_102 rfl (by omega) ?_
                    refine Go_callVS_i (j := 14) (pc' := 106) (As := [.int _]) (st := [.ref _]) dX9_advance_103 rfl ok_J0_indexOf_0f7a4 km_RX9_151 (by decide) rfl rfl (Nat.le_of_ble_eq_true rfl) rfl rfl rfl (Nat.le_of_ble_eq_true rfl) (Nat.lt_succ_self _) ?_
                    refine s_indexOf (j := 14) (n := (T (tP T n pos)).toNat) (by decide) rfl (by omega) (fun R r1 r2 => ?_)
                    refine ⟨_, rfl, ?_⟩
                    refine Go_if_ltY (tgt := 116) (pc' := 109) dX9_advance_106 (by decide) rfl (by first | exact ⟨i_lo _, i_hi _⟩ | omega) (fun c106 => by exfalso; omega) (fun c106 => ?_)
                    refine Go_bipush (v := iZ 100) (pc' := 111) dX9_advance_109 rfl (by decide) ?_
                    refine Go_iload_n (pc' := 112) dX9_advance_111 rfl rfl rfl ?_
                    refine Go_iaddZ (pc' := 113) dX9_advance_112 rfl ?_
                    refine Go_goto (tgt := 118) dX9_advance_113 (by decide) ?_
                    refine Go_putI (pc' := 121) dX9_advance_118 rfl kf_RX9_44 (by decide) (by decide) rfl (S.b 71 rfl rfl) (S.o 71 rfl rfl rfl) (Or.inl rfl) rfl rfl ?_
                    refine Go_return dX9_advance_121 rfl ?_
                    refine hk _ (((((DX.rf _ _).wI (by unfold Pt; omega)).wI (by unfold Pt; omega)).wI (by unfold Pt; omega)).wI (by unfold Pt; omega)) (((vi_skip (Or.inr (by decide))).trans (vi_same)).trans (congrArg iZ (by omega))) ((vi_same).trans (congrArg iZ (by omega))) ((vi_skip (Or.inr (by decide))).trans ((vi_skip (Or.inr (by decide))).trans (vi_same))) (fun z => by exfalso; omega)
                  · refine Go_iload_n (pc' := 7) dX9_isDigit_6 rfl rfl rfl ?_
                    refine Go_bipush (v := iZ 57) (pc' := 9) dX9_isDigit_7 rfl (by decide) ?_
                    refine Go_icmp_gtY (tgt := 16) (pc' := 12) dX9_isDigit_9 (by decide) rfl (by first | exact ⟨i_lo _, i_hi _⟩ | omega) (by first | exact ⟨i_lo _, i_hi _⟩ | omega) (fun m9 => ?_) (fun m9 => ?_)
                    · refine Go_iconst (v := iZ 0) (pc' := 17) dX9_isDigit_16 rfl (by decide) ?_
                      refine Go_ireturn (ty := .boolean) dX9_isDigit_17 rfl rfl ?_
                      refine ⟨_, rfl, ?_⟩
                      refine Go_if_eqY (tgt := 88) (pc' := 81) dX9_advance_78 (by decide) rfl (by first | exact ⟨i_lo _, i_hi _⟩ | omega) (fun c78 => ?_) (fun c78 => by exfalso; omega)
                      refine Go_aload_n (pc' := 89) dX9_advance_88 rfl rfl rfl ?_
                      refine Go_dup (pc' := 90) dX9_advance_89 rfl rfl ?_
                      refine Go_getIv (v := (iZ (tP T n pos : Int))) (pc' := 93) dX9_advance_90 rfl kf_RX9_56 (by decide) (by decide) rfl (S.b 71 rfl rfl) (S.o 71 rfl rfl rfl) ((vi_skip (Or.inr (by decide))).trans (vi_same)) ?_
                      refine Go_iconst (v := iZ 1) (pc' := 94) dX9_advance_93 rfl (by decide) ?_
                      refine Go_iaddZ (pc' := 95) dX9_advance_94 rfl ?_
                      refine Go_putI (pc' := 98) dX9_advance_95 rfl kf_RX9_56 (by decide) (by decide) rfl (S.b 71 rfl rfl) (S.o 71 rfl rfl rfl) (Or.inl rfl) rfl rfl ?_
                      refine Go_aload_n (pc' := 99) dX9_advance_98 rfl rfl rfl ?_
                      refine Go_ldcS (tx := ";+-*/()<=>") (j := 14) (pc' := 101) dX9_advance_99 rfl (by decide +kernel) (by decide) ?_
                      refine Go_iload_n (pc' := 102) dX9_advance_101 rfl rfl rfl ?_
                      refine Go_i2cZ (pc' := 103) dX9_advance_102 rfl (by omega) ?_
                      refine Go_callVS_i (j := 14) (pc' := 106) (As := [.int _]) (st := [.ref _]) dX9_advance_103 rfl ok_J0_indexOf_0f7a4 km_RX9_151 (by decide) rfl rfl (Nat.le_of_ble_eq_true rfl) rfl rfl rfl (Nat.le_of_ble_eq_true rfl) (Nat.lt_succ_self _) ?_
                      refine s_indexOf (j := 14) (n := (T (tP T n pos)).toNat) (by decide) rfl (by omega) (fun R r1 r2 => ?_)
                      refine ⟨_, rfl, ?_⟩
                      refine Go_if_ltY (tgt := 116) (pc' := 109) dX9_advance_106 (by decide) rfl (by first | exact ⟨i_lo _, i_hi _⟩ | omega) (fun c106 => by exfalso; omega) (fun c106 => ?_)
                      refine Go_bipush (v := iZ 100) (pc' := 111) dX9_advance_109 rfl (by decide) ?_
                      refine Go_iload_n (pc' := 112) dX9_advance_111 rfl rfl rfl ?_
                      refine Go_iaddZ (pc' := 113) dX9_advance_112 rfl ?_
                      refine Go_goto (tgt := 118) dX9_advance_113 (by decide) ?_
                      refine Go_putI (pc' := 121) dX9_advance_118 rfl kf_RX9_44 (by decide) (by decide) rfl (S.b 71 rfl rfl) (S.o 71 rfl rfl rfl) (Or.inl rfl) rfl rfl ?_
                      refine Go_return dX9_advance_121 rfl ?_
                      refine hk _ (((((DX.rf _ _).wI (by unfold Pt; omega)).wI (by unfold Pt; omega)).wI (by unfold Pt; omega)).wI (by unfold Pt; omega)) (((vi_skip (Or.inr (by decide))).trans (vi_same)).trans (congrArg iZ (by omega))) ((vi_same).trans (congrArg iZ (by omega))) ((vi_skip (Or.inr (by decide))).trans ((vi_skip (Or.inr (by decide))).trans (vi_same))) (fun z => by exfalso; omega)
                    · refine Go_iconst (v := iZ 1) (pc' := 13) dX9_isDigit_12 rfl (by decide) ?_
                      refine Go_goto (tgt := 17) dX9_isDigit_13 (by decide) ?_
                      refine Go_ireturn (ty := .boolean) dX9_isDigit_17 rfl rfl ?_
                      refine ⟨_, rfl, ?_⟩
                      refine Go_if_eqY (tgt := 88) (pc' := 81) dX9_advance_78 (by decide) rfl (by first | exact ⟨i_lo _, i_hi _⟩ | omega) (fun c78 => by exfalso; omega) (fun c78 => ?_)
                      exfalso; omega
                · refine Go_iconst (v := iZ 1) (pc' := 25) dX9_isLetter_24 rfl (by decide) ?_
                  refine Go_goto (tgt := 29) dX9_isLetter_25 (by decide) ?_
                  refine Go_ireturn (ty := .boolean) dX9_isLetter_29 rfl rfl ?_
                  refine ⟨_, rfl, ?_⟩
                  refine Go_if_eqY (tgt := 74) (pc' := 59) dX9_advance_56 (by decide) rfl (by first | exact ⟨i_lo _, i_hi _⟩ | omega) (fun c56 => by exfalso; omega) (fun c56 => ?_)
                  exfalso; omega
        · rw [if_neg sg] at hC
          refine Go_aload_n (pc' := 1) dX9_advance_0 rfl rfl rfl ?_
          refine Go_callV_v (pc' := 4) (As := []) (st := []) dX9_advance_1 rfl ok_X9_skipBlanks km_RX9_129 (S.o 71 rfl rfl rfl) (S.b 71 rfl rfl) ⟨_, _, rfl⟩ rfl (Nat.le_of_ble_eq_true rfl) rfl rfl rfl (Nat.le_of_ble_eq_true rfl) (Nat.lt_succ_self _) ?_
          refine s_skB' F e2 hp ?_
          refine ⟨rfl, ?_⟩
          refine Go_aload_n (pc' := 5) dX9_advance_4 rfl rfl rfl ?_
          refine Go_aload_n (pc' := 6) dX9_advance_5 rfl rfl rfl ?_
          refine Go_getIv (v := (iZ (tP T n pos : Int))) (pc' := 9) dX9_advance_6 rfl kf_RX9_56 (by decide) (by decide) rfl (S.b 71 rfl rfl) (S.o 71 rfl rfl rfl) (vi_same) ?_
          refine Go_putI (pc' := 12) dX9_advance_9 rfl kf_RX9_68 (by decide) (by decide) rfl (S.b 71 rfl rfl) (S.o 71 rfl rfl rfl) (Or.inl rfl) rfl rfl ?_
          refine Go_aload_n (pc' := 13) dX9_advance_12 rfl rfl rfl ?_
          refine Go_getIv (v := (iZ (tP T n pos : Int))) (pc' := 16) dX9_advance_13 rfl kf_RX9_56 (by decide) (by decide) rfl (S.b 71 rfl rfl) (S.o 71 rfl rfl rfl) ((vi_skip (Or.inr (by decide))).trans (vi_same)) ?_
          refine Go_aload_n (pc' := 17) dX9_advance_16 rfl rfl rfl ?_
          refine Go_getIv (v := (iZ (n : Int))) (pc' := 20) dX9_advance_17 rfl kf_RX9_32 (by decide) (by decide) rfl (S.b 71 rfl rfl) (S.o 71 rfl rfl rfl) ((vi_skip (Or.inr (by decide))).trans ((vi_skip (Or.inr (by decide))).trans (en))) ?_
          refine Go_icmp_geY (tgt := 35) (pc' := 23) dX9_advance_20 (by decide) rfl (by first | exact ⟨i_lo _, i_hi _⟩ | omega) (by first | exact ⟨i_lo _, i_hi _⟩ | omega) (fun c20 => by exfalso; omega) (fun c20 => ?_)
          refine Go_aload_n (pc' := 24) dX9_advance_23 rfl rfl rfl ?_
          refine Go_getIv (v := (iZ (tP T n pos : Int))) (pc' := 27) dX9_advance_24 rfl kf_RX9_56 (by decide) (by decide) rfl (S.b 71 rfl rfl) (S.o 71 rfl rfl rfl) ((vi_skip (Or.inr (by decide))).trans (vi_same)) ?_
          refine Go_aload_n (pc' := 28) dX9_advance_27 rfl rfl rfl ?_
          refine Go_getRs (pc' := 31) dX9_advance_28 rfl kf_RX9_9 (by decide) (by decide) rfl (S.b 71 rfl rfl) (S.o 71 rfl rfl rfl) (S.r 71 0 rfl rfl rfl) ?_
          refine Go_alenZ (n := 600) (pc' := 32) dX9_advance_31 rfl (S.b 72 rfl rfl) (S.k 72 rfl rfl rfl) (Or.inl rfl) ?_
          refine Go_icmp_ltY (tgt := 42) (pc' := 35) dX9_advance_32 (by decide) rfl (by first | exact ⟨i_lo _, i_hi _⟩ | omega) (by first | exact ⟨i_lo _, i_hi _⟩ | omega) (fun c32 => ?_) (fun c32 => by exfalso; omega)
          refine Go_aload_n (pc' := 43) dX9_advance_42 rfl rfl rfl ?_
          refine Go_getRs (pc' := 46) dX9_advance_43 rfl kf_RX9_9 (by decide) (by decide) rfl (S.b 71 rfl rfl) (S.o 71 rfl rfl rfl) (S.r 71 0 rfl rfl rfl) ?_
          refine Go_aload_n (pc' := 47) dX9_advance_46 rfl rfl rfl ?_
          refine Go_getIv (v := (iZ (tP T n pos : Int))) (pc' := 50) dX9_advance_47 rfl kf_RX9_56 (by decide) (by decide) rfl (S.b 71 rfl rfl) (S.o 71 rfl rfl rfl) ((vi_skip (Or.inr (by decide))).trans (vi_same)) ?_
          refine Go_ialoadZ (n := 600) (k := (tP T n pos)) (v := (iZ ((T (tP T n pos)).toNat : Int))) (pc' := 51) dX9_advance_50 rfl (S.b 72 rfl rfl) (S.k 72 rfl rfl rfl) rfl (by omega) (by decide) ((vi_skip (Or.inl (by decide))).trans ((vi_skip (Or.inl (by decide))).trans (((ht (tP T n pos) (by omega)).1.trans (congrArg iZ eT))))) ?_
          refine Go_istore_n (pc' := 52) (lv' := [.ref _, .int _]) dX9_advance_51 rfl rfl (Nat.le_of_ble_eq_true rfl) rfl rfl ?_
          refine Go_iload_n (pc' := 53) dX9_advance_52 rfl rfl rfl ?_
          refine Go_callS_i (pc' := 56) (As := [.int _]) (st := []) dX9_advance_53 rfl ok_X9_isLetter km_RX9_132 rfl (Nat.le_of_ble_eq_true rfl) rfl rfl rfl (Nat.le_of_ble_eq_true rfl) (Nat.lt_succ_self _) ?_
          refine Go_iload_n (pc' := 1) dX9_isLetter_0 rfl rfl rfl ?_
          refine Go_bipush (v := iZ 97) (pc' := 3) dX9_isLetter_1 rfl (by decide) ?_
          refine Go_icmp_ltY (tgt := 12) (pc' := 6) dX9_isLetter_3 (by decide) rfl (by first | exact ⟨i_lo _, i_hi _⟩ | omega) (by first | exact ⟨i_lo _, i_hi _⟩ | omega) (fun l3 => ?_) (fun l3 => ?_)
          · refine Go_iload_n (pc' := 13) dX9_isLetter_12 rfl rfl rfl ?_
            refine Go_bipush (v := iZ 65) (pc' := 15) dX9_isLetter_13 rfl (by decide) ?_
            refine Go_icmp_ltY (tgt := 28) (pc' := 18) dX9_isLetter_15 (by decide) rfl (by first | exact ⟨i_lo _, i_hi _⟩ | omega) (by first | exact ⟨i_lo _, i_hi _⟩ | omega) (fun l15 => ?_) (fun l15 => ?_)
            · refine Go_iconst (v := iZ 0) (pc' := 29) dX9_isLetter_28 rfl (by decide) ?_
              refine Go_ireturn (ty := .boolean) dX9_isLetter_29 rfl rfl ?_
              refine ⟨_, rfl, ?_⟩
              refine Go_if_eqY (tgt := 74) (pc' := 59) dX9_advance_56 (by decide) rfl (by first | exact ⟨i_lo _, i_hi _⟩ | omega) (fun c56 => ?_) (fun c56 => by exfalso; omega)
              refine Go_iload_n (pc' := 75) dX9_advance_74 rfl rfl rfl ?_
              refine Go_callS_i (pc' := 78) (As := [.int _]) (st := []) dX9_advance_75 rfl ok_X9_isDigit km_RX9_143 rfl (Nat.le_of_ble_eq_true rfl) rfl rfl rfl (Nat.le_of_ble_eq_true rfl) (Nat.lt_succ_self _) ?_
              refine Go_iload_n (pc' := 1) dX9_isDigit_0 rfl rfl rfl ?_
              refine Go_bipush (v := iZ 48) (pc' := 3) dX9_isDigit_1 rfl (by decide) ?_
              refine Go_icmp_ltY (tgt := 16) (pc' := 6) dX9_isDigit_3 (by decide) rfl (by first | exact ⟨i_lo _, i_hi _⟩ | omega) (by first | exact ⟨i_lo _, i_hi _⟩ | omega) (fun m3 => ?_) (fun m3 => ?_)
              · refine Go_iconst (v := iZ 0) (pc' := 17) dX9_isDigit_16 rfl (by decide) ?_
                refine Go_ireturn (ty := .boolean) dX9_isDigit_17 rfl rfl ?_
                refine ⟨_, rfl, ?_⟩
                refine Go_if_eqY (tgt := 88) (pc' := 81) dX9_advance_78 (by decide) rfl (by first | exact ⟨i_lo _, i_hi _⟩ | omega) (fun c78 => ?_) (fun c78 => by exfalso; omega)
                refine Go_aload_n (pc' := 89) dX9_advance_88 rfl rfl rfl ?_
                refine Go_dup (pc' := 90) dX9_advance_89 rfl rfl ?_
                refine Go_getIv (v := (iZ (tP T n pos : Int))) (pc' := 93) dX9_advance_90 rfl kf_RX9_56 (by decide) (by decide) rfl (S.b 71 rfl rfl) (S.o 71 rfl rfl rfl) ((vi_skip (Or.inr (by decide))).trans (vi_same)) ?_
                refine Go_iconst (v := iZ 1) (pc' := 94) dX9_advance_93 rfl (by decide) ?_
                refine Go_iaddZ (pc' := 95) dX9_advance_94 rfl ?_
                refine Go_putI (pc' := 98) dX9_advance_95 rfl kf_RX9_56 (by decide) (by decide) rfl (S.b 71 rfl rfl) (S.o 71 rfl rfl rfl) (Or.inl rfl) rfl rfl ?_
                refine Go_aload_n (pc' := 99) dX9_advance_98 rfl rfl rfl ?_
                refine Go_ldcS (tx := ";+-*/()<=>") (j := 14) (pc' := 101) dX9_advance_99 rfl (by decide +kernel) (by decide) ?_
                refine Go_iload_n (pc' := 102) dX9_advance_101 rfl rfl rfl ?_
                refine Go_i2cZ (pc' := 103) dX9_advance_102 rfl (by omega) ?_
                refine Go_callVS_i (j := 14) (pc' := 106) (As := [.int _]) (st := [.ref _]) dX9_advance_103 rfl ok_J0_indexOf_0f7a4 km_RX9_151 (by decide) rfl rfl (Nat.le_of_ble_eq_true rfl) rfl rfl rfl (Nat.le_of_ble_eq_true rfl) (Nat.lt_succ_self _) ?_
                refine s_indexOf (j := 14) (n := (T (tP T n pos)).toNat) (by decide) rfl (by omega) (fun R r1 r2 => ?_)
                refine ⟨_, rfl, ?_⟩
                refine Go_if_ltY (tgt := 116) (pc' := 109) dX9_advance_106 (by decide) rfl (by first | exact ⟨i_lo _, i_hi _⟩ | omega) (fun c106 => ?_) (fun c106 => by exfalso; omega)
                refine Go_bipush (v := iZ 22) (pc' := 118) dX9_advance_116 rfl (by decide) ?_
                refine Go_putI (pc' := 121) dX9_advance_118 rfl kf_RX9_44 (by decide) (by decide) rfl (S.b 71 rfl rfl) (S.o 71 rfl rfl rfl) (Or.inl rfl) rfl rfl ?_
                refine Go_return dX9_advance_121 rfl ?_
                refine hk _ (((((DX.rf _ _).wI (by unfold Pt; omega)).wI (by unfold Pt; omega)).wI (by unfold Pt; omega)).wI (by unfold Pt; omega)) (((vi_skip (Or.inr (by decide))).trans (vi_same)).trans (congrArg iZ (by omega))) ((vi_same).trans (congrArg iZ (by omega))) ((vi_skip (Or.inr (by decide))).trans ((vi_skip (Or.inr (by decide))).trans (vi_same))) (fun z => by exfalso; omega)
              · refine Go_iload_n (pc' := 7) dX9_isDigit_6 rfl rfl rfl ?_
                refine Go_bipush (v := iZ 57) (pc' := 9) dX9_isDigit_7 rfl (by decide) ?_
                refine Go_icmp_gtY (tgt := 16) (pc' := 12) dX9_isDigit_9 (by decide) rfl (by first | exact ⟨i_lo _, i_hi _⟩ | omega) (by first | exact ⟨i_lo _, i_hi _⟩ | omega) (fun m9 => ?_) (fun m9 => ?_)
                · refine Go_iconst (v := iZ 0) (pc' := 17) dX9_isDigit_16 rfl (by decide) ?_
                  refine Go_ireturn (ty := .boolean) dX9_isDigit_17 rfl rfl ?_
                  refine ⟨_, rfl, ?_⟩
                  refine Go_if_eqY (tgt := 88) (pc' := 81) dX9_advance_78 (by decide) rfl (by first | exact ⟨i_lo _, i_hi _⟩ | omega) (fun c78 => ?_) (fun c78 => by exfalso; omega)
                  refine Go_aload_n (pc' := 89) dX9_advance_88 rfl rfl rfl ?_
                  refine Go_dup (pc' := 90) dX9_advance_89 rfl rfl ?_
                  refine Go_getIv (v := (iZ (tP T n pos : Int))) (pc' := 93) dX9_advance_90 rfl kf_RX9_56 (by decide) (by decide) rfl (S.b 71 rfl rfl) (S.o 71 rfl rfl rfl) ((vi_skip (Or.inr (by decide))).trans (vi_same)) ?_
                  refine Go_iconst (v := iZ 1) (pc' := 94) dX9_advance_93 rfl (by decide) ?_
                  refine Go_iaddZ (pc' := 95) dX9_advance_94 rfl ?_
                  refine Go_putI (pc' := 98) dX9_advance_95 rfl kf_RX9_56 (by decide) (by decide) rfl (S.b 71 rfl rfl) (S.o 71 rfl rfl rfl) (Or.inl rfl) rfl rfl ?_
                  refine Go_aload_n (pc' := 99) dX9_advance_98 rfl rfl rfl ?_
                  refine Go_ldcS (tx := ";+-*/()<=>") (j := 14) (pc' := 101) dX9_advance_99 rfl (by decide +kernel) (by decide) ?_
                  refine Go_iload_n (pc' := 102) dX9_advance_101 rfl rfl rfl ?_
                  refine Go_i2cZ (pc' := 103) dX9_advance_102 rfl (by omega) ?_
                  refine Go_callVS_i (j := 14) (pc' := 106) (As := [.int _]) (st := [.ref _]) dX9_advance_103 rfl ok_J0_indexOf_0f7a4 km_RX9_151 (by decide) rfl rfl (Nat.le_of_ble_eq_true rfl) rfl rfl rfl (Nat.le_of_ble_eq_true rfl) (Nat.lt_succ_self _) ?_
                  refine s_indexOf (j := 14) (n := (T (tP T n pos)).toNat) (by decide) rfl (by omega) (fun R r1 r2 => ?_)
                  refine ⟨_, rfl, ?_⟩
                  refine Go_if_ltY (tgt := 116) (pc' := 109) dX9_advance_106 (by decide) rfl (by first | exact ⟨i_lo _, i_hi _⟩ | omega) (fun c106 => ?_) (fun c106 => by exfalso; omega)
                  refine Go_bipush (v := iZ 22) (pc' := 118) dX9_advance_116 rfl (by decide) ?_
                  refine Go_putI (pc' := 121) dX9_advance_118 rfl kf_RX9_44 (by decide) (by decide) rfl (S.b 71 rfl rfl) (S.o 71 rfl rfl rfl) (Or.inl rfl) rfl rfl ?_
                  refine Go_return dX9_advance_121 rfl ?_
                  refine hk _ (((((DX.rf _ _).wI (by unfold Pt; omega)).wI (by unfold Pt; omega)).wI (by unfold Pt; omega)).wI (by unfold Pt; omega)) (((vi_skip (Or.inr (by decide))).trans (vi_same)).trans (congrArg iZ (by omega))) ((vi_same).trans (congrArg iZ (by omega))) ((vi_skip (Or.inr (by decide))).trans ((vi_skip (Or.inr (by decide))).trans (vi_same))) (fun z => by exfalso; omega)
                · refine Go_iconst (v := iZ 1) (pc' := 13) dX9_isDigit_12 rfl (by decide) ?_
                  refine Go_goto (tgt := 17) dX9_isDigit_13 (by decide) ?_
                  refine Go_ireturn (ty := .boolean) dX9_isDigit_17 rfl rfl ?_
                  refine ⟨_, rfl, ?_⟩
                  refine Go_if_eqY (tgt := 88) (pc' := 81) dX9_advance_78 (by decide) rfl (by first | exact ⟨i_lo _, i_hi _⟩ | omega) (fun c78 => by exfalso; omega) (fun c78 => ?_)
                  exfalso; omega
            · refine Go_iload_n (pc' := 19) dX9_isLetter_18 rfl rfl rfl ?_
              refine Go_bipush (v := iZ 90) (pc' := 21) dX9_isLetter_19 rfl (by decide) ?_
              refine Go_icmp_gtY (tgt := 28) (pc' := 24) dX9_isLetter_21 (by decide) rfl (by first | exact ⟨i_lo _, i_hi _⟩ | omega) (by first | exact ⟨i_lo _, i_hi _⟩ | omega) (fun l21 => ?_) (fun l21 => ?_)
              · refine Go_iconst (v := iZ 0) (pc' := 29) dX9_isLetter_28 rfl (by decide) ?_
                refine Go_ireturn (ty := .boolean) dX9_isLetter_29 rfl rfl ?_
                refine ⟨_, rfl, ?_⟩
                refine Go_if_eqY (tgt := 74) (pc' := 59) dX9_advance_56 (by decide) rfl (by first | exact ⟨i_lo _, i_hi _⟩ | omega) (fun c56 => ?_) (fun c56 => by exfalso; omega)
                refine Go_iload_n (pc' := 75) dX9_advance_74 rfl rfl rfl ?_
                refine Go_callS_i (pc' := 78) (As := [.int _]) (st := []) dX9_advance_75 rfl ok_X9_isDigit km_RX9_143 rfl (Nat.le_of_ble_eq_true rfl) rfl rfl rfl (Nat.le_of_ble_eq_true rfl) (Nat.lt_succ_self _) ?_
                refine Go_iload_n (pc' := 1) dX9_isDigit_0 rfl rfl rfl ?_
                refine Go_bipush (v := iZ 48) (pc' := 3) dX9_isDigit_1 rfl (by decide) ?_
                refine Go_icmp_ltY (tgt := 16) (pc' := 6) dX9_isDigit_3 (by decide) rfl (by first | exact ⟨i_lo _, i_hi _⟩ | omega) (by first | exact ⟨i_lo _, i_hi _⟩ | omega) (fun m3 => ?_) (fun m3 => ?_)
                · refine Go_iconst (v := iZ 0) (pc' := 17) dX9_isDigit_16 rfl (by decide) ?_
                  refine Go_ireturn (ty := .boolean) dX9_isDigit_17 rfl rfl ?_
                  refine ⟨_, rfl, ?_⟩
                  refine Go_if_eqY (tgt := 88) (pc' := 81) dX9_advance_78 (by decide) rfl (by first | exact ⟨i_lo _, i_hi _⟩ | omega) (fun c78 => ?_) (fun c78 => by exfalso; omega)
                  refine Go_aload_n (pc' := 89) dX9_advance_88 rfl rfl rfl ?_
                  refine Go_dup (pc' := 90) dX9_advance_89 rfl rfl ?_
                  refine Go_getIv (v := (iZ (tP T n pos : Int))) (pc' := 93) dX9_advance_90 rfl kf_RX9_56 (by decide) (by decide) rfl (S.b 71 rfl rfl) (S.o 71 rfl rfl rfl) ((vi_skip (Or.inr (by decide))).trans (vi_same)) ?_
                  refine Go_iconst (v := iZ 1) (pc' := 94) dX9_advance_93 rfl (by decide) ?_
                  refine Go_iaddZ (pc' := 95) dX9_advance_94 rfl ?_
                  refine Go_putI (pc' := 98) dX9_advance_95 rfl kf_RX9_56 (by decide) (by decide) rfl (S.b 71 rfl rfl) (S.o 71 rfl rfl rfl) (Or.inl rfl) rfl rfl ?_
                  refine Go_aload_n (pc' := 99) dX9_advance_98 rfl rfl rfl ?_
                  refine Go_ldcS (tx := ";+-*/()<=>") (j := 14) (pc' := 101) dX9_advance_99 rfl (by decide +kernel) (by decide) ?_
                  refine Go_iload_n (pc' := 102) dX9_advance_101 rfl rfl rfl ?_
                  refine Go_i2cZ (pc' := 103) dX9_advance_102 rfl (by omega) ?_
                  refine Go_callVS_i (j := 14) (pc' := 106) (As := [.int _]) (st := [.ref _]) dX9_advance_103 rfl ok_J0_indexOf_0f7a4 km_RX9_151 (by decide) rfl rfl (Nat.le_of_ble_eq_true rfl) rfl rfl rfl (Nat.le_of_ble_eq_true rfl) (Nat.lt_succ_self _) ?_
                  refine s_indexOf (j := 14) (n := (T (tP T n pos)).toNat) (by decide) rfl (by omega) (fun R r1 r2 => ?_)
                  refine ⟨_, rfl, ?_⟩
                  refine Go_if_ltY (tgt := 116) (pc' := 109) dX9_advance_106 (by decide) rfl (by first | exact ⟨i_lo _, i_hi _⟩ | omega) (fun c106 => ?_) (fun c106 => by exfalso; omega)
                  refine Go_bipush (v := iZ 22) (pc' := 118) dX9_advance_116 rfl (by decide) ?_
                  refine Go_putI (pc' := 121) dX9_advance_118 rfl kf_RX9_44 (by decide) (by decide) rfl (S.b 71 rfl rfl) (S.o 71 rfl rfl rfl) (Or.inl rfl) rfl rfl ?_
                  refine Go_return dX9_advance_121 rfl ?_
                  refine hk _ (((((DX.rf _ _).wI (by unfold Pt; omega)).wI (by unfold Pt; omega)).wI (by unfold Pt; omega)).wI (by unfold Pt; omega)) (((vi_skip (Or.inr (by decide))).trans (vi_same)).trans (congrArg iZ (by omega))) ((vi_same).trans (congrArg iZ (by omega))) ((vi_skip (Or.inr (by decide))).trans ((vi_skip (Or.inr (by decide))).trans (vi_same))) (fun z => by exfalso; omega)
                · refine Go_iload_n (pc' := 7) dX9_isDigit_6 rfl rfl rfl ?_
                  refine Go_bipush (v := iZ 57) (pc' := 9) dX9_isDigit_7 rfl (by decide) ?_
                  refine Go_icmp_gtY (tgt := 16) (pc' := 12) dX9_isDigit_9 (by decide) rfl (by first | exact ⟨i_lo _, i_hi _⟩ | omega) (by first | exact ⟨i_lo _, i_hi _⟩ | omega) (fun m9 => ?_) (fun m9 => ?_)
                  · refine Go_iconst (v := iZ 0) (pc' := 17) dX9_isDigit_16 rfl (by decide) ?_
                    refine Go_ireturn (ty := .boolean) dX9_isDigit_17 rfl rfl ?_
                    refine ⟨_, rfl, ?_⟩
                    refine Go_if_eqY (tgt := 88) (pc' := 81) dX9_advance_78 (by decide) rfl (by first | exact ⟨i_lo _, i_hi _⟩ | omega) (fun c78 => ?_) (fun c78 => by exfalso; omega)
                    refine Go_aload_n (pc' := 89) dX9_advance_88 rfl rfl rfl ?_
                    refine Go_dup (pc' := 90) dX9_advance_89 rfl rfl ?_
                    refine Go_getIv (v := (iZ (tP T n pos : Int))) (pc' := 93) dX9_advance_90 rfl kf_RX9_56 (by decide) (by decide) rfl (S.b 71 rfl rfl) (S.o 71 rfl rfl rfl) ((vi_skip (Or.inr (by decide))).trans (vi_same)) ?_
                    refine Go_iconst (v := iZ 1) (pc' := 94) dX9_advance_93 rfl (by decide) ?_
                    refine Go_iaddZ (pc' := 95) dX9_advance_94 rfl ?_
                    refine Go_putI (pc' := 98) dX9_advance_95 rfl kf_RX9_56 (by decide) (by decide) rfl (S.b 71 rfl rfl) (S.o 71 rfl rfl rfl) (Or.inl rfl) rfl rfl ?_
                    refine Go_aload_n (pc' := 99) dX9_advance_98 rfl rfl rfl ?_
                    refine Go_ldcS (tx := ";+-*/()<=>") (j := 14) (pc' := 101) dX9_advance_99 rfl (by decide +kernel) (by decide) ?_
                    refine Go_iload_n (pc' := 102) dX9_advance_101 rfl rfl rfl ?_
                    refine Go_i2cZ (pc' := 103) dX9_advance_102 rfl (by omega) ?_
                    refine Go_callVS_i (j := 14) (pc' := 106) (As := [.int _]) (st := [.ref _]) dX9_advance_103 rfl ok_J0_indexOf_0f7a4 km_RX9_151 (by decide) rfl rfl (Nat.le_of_ble_eq_true rfl) rfl rfl rfl (Nat.le_of_ble_eq_true rfl) (Nat.lt_succ_self _) ?_
                    refine s_indexOf (j := 14) (n := (T (tP T n pos)).toNat) (by decide) rfl (by omega) (fun R r1 r2 => ?_)
                    refine ⟨_, rfl, ?_⟩
                    refine Go_if_ltY (tgt := 116) (pc' := 109) dX9_advance_106 (by decide) rfl (by first | exact ⟨i_lo _, i_hi _⟩ | omega) (fun c106 => ?_) (fun c106 => by exfalso; omega)
                    refine Go_bipush (v := iZ 22) (pc' := 118) dX9_advance_116 rfl (by decide) ?_
                    refine Go_putI (pc' := 121) dX9_advance_118 rfl kf_RX9_44 (by decide) (by decide) rfl (S.b 71 rfl rfl) (S.o 71 rfl rfl rfl) (Or.inl rfl) rfl rfl ?_
                    refine Go_return dX9_advance_121 rfl ?_
                    refine hk _ (((((DX.rf _ _).wI (by unfold Pt; omega)).wI (by unfold Pt; omega)).wI (by unfold Pt; omega)).wI (by unfold Pt; omega)) (((vi_skip (Or.inr (by decide))).trans (vi_same)).trans (congrArg iZ (by omega))) ((vi_same).trans (congrArg iZ (by omega))) ((vi_skip (Or.inr (by decide))).trans ((vi_skip (Or.inr (by decide))).trans (vi_same))) (fun z => by exfalso; omega)
                  · refine Go_iconst (v := iZ 1) (pc' := 13) dX9_isDigit_12 rfl (by decide) ?_
                    refine Go_goto (tgt := 17) dX9_isDigit_13 (by decide) ?_
                    refine Go_ireturn (ty := .boolean) dX9_isDigit_17 rfl rfl ?_
                    refine ⟨_, rfl, ?_⟩
                    refine Go_if_eqY (tgt := 88) (pc' := 81) dX9_advance_78 (by decide) rfl (by first | exact ⟨i_lo _, i_hi _⟩ | omega) (fun c78 => by exfalso; omega) (fun c78 => ?_)
                    exfalso; omega
              · refine Go_iconst (v := iZ 1) (pc' := 25) dX9_isLetter_24 rfl (by decide) ?_
                refine Go_goto (tgt := 29) dX9_isLetter_25 (by decide) ?_
                refine Go_ireturn (ty := .boolean) dX9_isLetter_29 rfl rfl ?_
                refine ⟨_, rfl, ?_⟩
                refine Go_if_eqY (tgt := 74) (pc' := 59) dX9_advance_56 (by decide) rfl (by first | exact ⟨i_lo _, i_hi _⟩ | omega) (fun c56 => by exfalso; omega) (fun c56 => ?_)
                exfalso; omega
          · refine Go_iload_n (pc' := 7) dX9_isLetter_6 rfl rfl rfl ?_
            refine Go_bipush (v := iZ 122) (pc' := 9) dX9_isLetter_7 rfl (by decide) ?_
            refine Go_icmp_leY (tgt := 24) (pc' := 12) dX9_isLetter_9 (by decide) rfl (by first | exact ⟨i_lo _, i_hi _⟩ | omega) (by first | exact ⟨i_lo _, i_hi _⟩ | omega) (fun l9 => ?_) (fun l9 => ?_)
            · refine Go_iconst (v := iZ 1) (pc' := 25) dX9_isLetter_24 rfl (by decide) ?_
              refine Go_goto (tgt := 29) dX9_isLetter_25 (by decide) ?_
              refine Go_ireturn (ty := .boolean) dX9_isLetter_29 rfl rfl ?_
              refine ⟨_, rfl, ?_⟩
              refine Go_if_eqY (tgt := 74) (pc' := 59) dX9_advance_56 (by decide) rfl (by first | exact ⟨i_lo _, i_hi _⟩ | omega) (fun c56 => by exfalso; omega) (fun c56 => ?_)
              exfalso; omega
            · refine Go_iload_n (pc' := 13) dX9_isLetter_12 rfl rfl rfl ?_
              refine Go_bipush (v := iZ 65) (pc' := 15) dX9_isLetter_13 rfl (by decide) ?_
              refine Go_icmp_ltY (tgt := 28) (pc' := 18) dX9_isLetter_15 (by decide) rfl (by first | exact ⟨i_lo _, i_hi _⟩ | omega) (by first | exact ⟨i_lo _, i_hi _⟩ | omega) (fun l15 => ?_) (fun l15 => ?_)
              · refine Go_iconst (v := iZ 0) (pc' := 29) dX9_isLetter_28 rfl (by decide) ?_
                refine Go_ireturn (ty := .boolean) dX9_isLetter_29 rfl rfl ?_
                refine ⟨_, rfl, ?_⟩
                refine Go_if_eqY (tgt := 74) (pc' := 59) dX9_advance_56 (by decide) rfl (by first | exact ⟨i_lo _, i_hi _⟩ | omega) (fun c56 => ?_) (fun c56 => by exfalso; omega)
                refine Go_iload_n (pc' := 75) dX9_advance_74 rfl rfl rfl ?_
                refine Go_callS_i (pc' := 78) (As := [.int _]) (st := []) dX9_advance_75 rfl ok_X9_isDigit km_RX9_143 rfl (Nat.le_of_ble_eq_true rfl) rfl rfl rfl (Nat.le_of_ble_eq_true rfl) (Nat.lt_succ_self _) ?_
                refine Go_iload_n (pc' := 1) dX9_isDigit_0 rfl rfl rfl ?_
                refine Go_bipush (v := iZ 48) (pc' := 3) dX9_isDigit_1 rfl (by decide) ?_
                refine Go_icmp_ltY (tgt := 16) (pc' := 6) dX9_isDigit_3 (by decide) rfl (by first | exact ⟨i_lo _, i_hi _⟩ | omega) (by first | exact ⟨i_lo _, i_hi _⟩ | omega) (fun m3 => ?_) (fun m3 => ?_)
                · refine Go_iconst (v := iZ 0) (pc' := 17) dX9_isDigit_16 rfl (by decide) ?_
                  refine Go_ireturn (ty := .boolean) dX9_isDigit_17 rfl rfl ?_
                  refine ⟨_, rfl, ?_⟩
                  refine Go_if_eqY (tgt := 88) (pc' := 81) dX9_advance_78 (by decide) rfl (by first | exact ⟨i_lo _, i_hi _⟩ | omega) (fun c78 => ?_) (fun c78 => by exfalso; omega)
                  refine Go_aload_n (pc' := 89) dX9_advance_88 rfl rfl rfl ?_
                  refine Go_dup (pc' := 90) dX9_advance_89 rfl rfl ?_
                  refine Go_getIv (v := (iZ (tP T n pos : Int))) (pc' := 93) dX9_advance_90 rfl kf_RX9_56 (by decide) (by decide) rfl (S.b 71 rfl rfl) (S.o 71 rfl rfl rfl) ((vi_skip (Or.inr (by decide))).trans (vi_same)) ?_
                  refine Go_iconst (v := iZ 1) (pc' := 94) dX9_advance_93 rfl (by decide) ?_
                  refine Go_iaddZ (pc' := 95) dX9_advance_94 rfl ?_
                  refine Go_putI (pc' := 98) dX9_advance_95 rfl kf_RX9_56 (by decide) (by decide) rfl (S.b 71 rfl rfl) (S.o 71 rfl rfl rfl) (Or.inl rfl) rfl rfl ?_
                  refine Go_aload_n (pc' := 99) dX9_advance_98 rfl rfl rfl ?_
                  refine Go_ldcS (tx := ";+-*/()<=>") (j := 14) (pc' := 101) dX9_advance_99 rfl (by decide +kernel) (by decide) ?_
                  refine Go_iload_n (pc' := 102) dX9_advance_101 rfl rfl rfl ?_
                  refine Go_i2cZ (pc' := 103) dX9_advance_102 rfl (by omega) ?_
                  refine Go_callVS_i (j := 14) (pc' := 106) (As := [.int _]) (st := [.ref _]) dX9_advance_103 rfl ok_J0_indexOf_0f7a4 km_RX9_151 (by decide) rfl rfl (Nat.le_of_ble_eq_true rfl) rfl rfl rfl (Nat.le_of_ble_eq_true rfl) (Nat.lt_succ_self _) ?_
                  refine s_indexOf (j := 14) (n := (T (tP T n pos)).toNat) (by decide) rfl (by omega) (fun R r1 r2 => ?_)
                  refine ⟨_, rfl, ?_⟩
                  refine Go_if_ltY (tgt := 116) (pc' := 109) dX9_advance_106 (by decide) rfl (by first | exact ⟨i_lo _, i_hi _⟩ | omega) (fun c106 => ?_) (fun c106 => by exfalso; omega)
                  refine Go_bipush (v := iZ 22) (pc' := 118) dX9_advance_116 rfl (by decide) ?_
                  refine Go_putI (pc' := 121) dX9_advance_118 rfl kf_RX9_44 (by decide) (by decide) rfl (S.b 71 rfl rfl) (S.o 71 rfl rfl rfl) (Or.inl rfl) rfl rfl ?_
                  refine Go_return dX9_advance_121 rfl ?_
                  refine hk _ (((((DX.rf _ _).wI (by unfold Pt; omega)).wI (by unfold Pt; omega)).wI (by unfold Pt; omega)).wI (by unfold Pt; omega)) (((vi_skip (Or.inr (by decide))).trans (vi_same)).trans (congrArg iZ (by omega))) ((vi_same).trans (congrArg iZ (by omega))) ((vi_skip (Or.inr (by decide))).trans ((vi_skip (Or.inr (by decide))).trans (vi_same))) (fun z => by exfalso; omega)
                · refine Go_iload_n (pc' := 7) dX9_isDigit_6 rfl rfl rfl ?_
                  refine Go_bipush (v := iZ 57) (pc' := 9) dX9_isDigit_7 rfl (by decide) ?_
                  refine Go_icmp_gtY (tgt := 16) (pc' := 12) dX9_isDigit_9 (by decide) rfl (by first | exact ⟨i_lo _, i_hi _⟩ | omega) (by first | exact ⟨i_lo _, i_hi _⟩ | omega) (fun m9 => ?_) (fun m9 => ?_)
                  · refine Go_iconst (v := iZ 0) (pc' := 17) dX9_isDigit_16 rfl (by decide) ?_
                    refine Go_ireturn (ty := .boolean) dX9_isDigit_17 rfl rfl ?_
                    refine ⟨_, rfl, ?_⟩
                    refine Go_if_eqY (tgt := 88) (pc' := 81) dX9_advance_78 (by decide) rfl (by first | exact ⟨i_lo _, i_hi _⟩ | omega) (fun c78 => ?_) (fun c78 => by exfalso; omega)
                    refine Go_aload_n (pc' := 89) dX9_advance_88 rfl rfl rfl ?_
                    refine Go_dup (pc' := 90) dX9_advance_89 rfl rfl ?_
                    refine Go_getIv (v := (iZ (tP T n pos : Int))) (pc' := 93) dX9_advance_90 rfl kf_RX9_56 (by decide) (by decide) rfl (S.b 71 rfl rfl) (S.o 71 rfl rfl rfl) ((vi_skip (Or.inr (by decide))).trans (vi_same)) ?_
                    refine Go_iconst (v := iZ 1) (pc' := 94) dX9_advance_93 rfl (by decide) ?_
                    refine Go_iaddZ (pc' := 95) dX9_advance_94 rfl ?_
                    refine Go_putI (pc' := 98) dX9_advance_95 rfl kf_RX9_56 (by decide) (by decide) rfl (S.b 71 rfl rfl) (S.o 71 rfl rfl rfl) (Or.inl rfl) rfl rfl ?_
                    refine Go_aload_n (pc' := 99) dX9_advance_98 rfl rfl rfl ?_
                    refine Go_ldcS (tx := ";+-*/()<=>") (j := 14) (pc' := 101) dX9_advance_99 rfl (by decide +kernel) (by decide) ?_
                    refine Go_iload_n (pc' := 102) dX9_advance_101 rfl rfl rfl ?_
                    refine Go_i2cZ (pc' := 103) dX9_advance_102 rfl (by omega) ?_
                    refine Go_callVS_i (j := 14) (pc' := 106) (As := [.int _]) (st := [.ref _]) dX9_advance_103 rfl ok_J0_indexOf_0f7a4 km_RX9_151 (by decide) rfl rfl (Nat.le_of_ble_eq_true rfl) rfl rfl rfl (Nat.le_of_ble_eq_true rfl) (Nat.lt_succ_self _) ?_
                    refine s_indexOf (j := 14) (n := (T (tP T n pos)).toNat) (by decide) rfl (by omega) (fun R r1 r2 => ?_)
                    refine ⟨_, rfl, ?_⟩
                    refine Go_if_ltY (tgt := 116) (pc' := 109) dX9_advance_106 (by decide) rfl (by first | exact ⟨i_lo _, i_hi _⟩ | omega) (fun c106 => ?_) (fun c106 => by exfalso; omega)
                    refine Go_bipush (v := iZ 22) (pc' := 118) dX9_advance_116 rfl (by decide) ?_
                    refine Go_putI (pc' := 121) dX9_advance_118 rfl kf_RX9_44 (by decide) (by decide) rfl (S.b 71 rfl rfl) (S.o 71 rfl rfl rfl) (Or.inl rfl) rfl rfl ?_
                    refine Go_return dX9_advance_121 rfl ?_
                    refine hk _ (((((DX.rf _ _).wI (by unfold Pt; omega)).wI (by unfold Pt; omega)).wI (by unfold Pt; omega)).wI (by unfold Pt; omega)) (((vi_skip (Or.inr (by decide))).trans (vi_same)).trans (congrArg iZ (by omega))) ((vi_same).trans (congrArg iZ (by omega))) ((vi_skip (Or.inr (by decide))).trans ((vi_skip (Or.inr (by decide))).trans (vi_same))) (fun z => by exfalso; omega)
                  · refine Go_iconst (v := iZ 1) (pc' := 13) dX9_isDigit_12 rfl (by decide) ?_
                    refine Go_goto (tgt := 17) dX9_isDigit_13 (by decide) ?_
                    refine Go_ireturn (ty := .boolean) dX9_isDigit_17 rfl rfl ?_
                    refine ⟨_, rfl, ?_⟩
                    refine Go_if_eqY (tgt := 88) (pc' := 81) dX9_advance_78 (by decide) rfl (by first | exact ⟨i_lo _, i_hi _⟩ | omega) (fun c78 => by exfalso; omega) (fun c78 => ?_)
                    exfalso; omega
              · refine Go_iload_n (pc' := 19) dX9_isLetter_18 rfl rfl rfl ?_
                refine Go_bipush (v := iZ 90) (pc' := 21) dX9_isLetter_19 rfl (by decide) ?_
                refine Go_icmp_gtY (tgt := 28) (pc' := 24) dX9_isLetter_21 (by decide) rfl (by first | exact ⟨i_lo _, i_hi _⟩ | omega) (by first | exact ⟨i_lo _, i_hi _⟩ | omega) (fun l21 => ?_) (fun l21 => ?_)
                · refine Go_iconst (v := iZ 0) (pc' := 29) dX9_isLetter_28 rfl (by decide) ?_
                  refine Go_ireturn (ty := .boolean) dX9_isLetter_29 rfl rfl ?_
                  refine ⟨_, rfl, ?_⟩
                  refine Go_if_eqY (tgt := 74) (pc' := 59) dX9_advance_56 (by decide) rfl (by first | exact ⟨i_lo _, i_hi _⟩ | omega) (fun c56 => ?_) (fun c56 => by exfalso; omega)
                  refine Go_iload_n (pc' := 75) dX9_advance_74 rfl rfl rfl ?_
                  refine Go_callS_i (pc' := 78) (As := [.int _]) (st := []) dX9_advance_75 rfl ok_X9_isDigit km_RX9_143 rfl (Nat.le_of_ble_eq_true rfl) rfl rfl rfl (Nat.le_of_ble_eq_true rfl) (Nat.lt_succ_self _) ?_
                  refine Go_iload_n (pc' := 1) dX9_isDigit_0 rfl rfl rfl ?_
                  refine Go_bipush (v := iZ 48) (pc' := 3) dX9_isDigit_1 rfl (by decide) ?_
                  refine Go_icmp_ltY (tgt := 16) (pc' := 6) dX9_isDigit_3 (by decide) rfl (by first | exact ⟨i_lo _, i_hi _⟩ | omega) (by first | exact ⟨i_lo _, i_hi _⟩ | omega) (fun m3 => ?_) (fun m3 => ?_)
                  · refine Go_iconst (v := iZ 0) (pc' := 17) dX9_isDigit_16 rfl (by decide) ?_
                    refine Go_ireturn (ty := .boolean) dX9_isDigit_17 rfl rfl ?_
                    refine ⟨_, rfl, ?_⟩
                    refine Go_if_eqY (tgt := 88) (pc' := 81) dX9_advance_78 (by decide) rfl (by first | exact ⟨i_lo _, i_hi _⟩ | omega) (fun c78 => ?_) (fun c78 => by exfalso; omega)
                    refine Go_aload_n (pc' := 89) dX9_advance_88 rfl rfl rfl ?_
                    refine Go_dup (pc' := 90) dX9_advance_89 rfl rfl ?_
                    refine Go_getIv (v := (iZ (tP T n pos : Int))) (pc' := 93) dX9_advance_90 rfl kf_RX9_56 (by decide) (by decide) rfl (S.b 71 rfl rfl) (S.o 71 rfl rfl rfl) ((vi_skip (Or.inr (by decide))).trans (vi_same)) ?_
                    refine Go_iconst (v := iZ 1) (pc' := 94) dX9_advance_93 rfl (by decide) ?_
                    refine Go_iaddZ (pc' := 95) dX9_advance_94 rfl ?_
                    refine Go_putI (pc' := 98) dX9_advance_95 rfl kf_RX9_56 (by decide) (by decide) rfl (S.b 71 rfl rfl) (S.o 71 rfl rfl rfl) (Or.inl rfl) rfl rfl ?_
                    refine Go_aload_n (pc' := 99) dX9_advance_98 rfl rfl rfl ?_
                    refine Go_ldcS (tx := ";+-*/()<=>") (j := 14) (pc' := 101) dX9_advance_99 rfl (by decide +kernel) (by decide) ?_
                    refine Go_iload_n (pc' := 102) dX9_advance_101 rfl rfl rfl ?_
                    refine Go_i2cZ (pc' := 103) dX9_advance_102 rfl (by omega) ?_
                    refine Go_callVS_i (j := 14) (pc' := 106) (As := [.int _]) (st := [.ref _]) dX9_advance_103 rfl ok_J0_indexOf_0f7a4 km_RX9_151 (by decide) rfl rfl (Nat.le_of_ble_eq_true rfl) rfl rfl rfl (Nat.le_of_ble_eq_true rfl) (Nat.lt_succ_self _) ?_
                    refine s_indexOf (j := 14) (n := (T (tP T n pos)).toNat) (by decide) rfl (by omega) (fun R r1 r2 => ?_)
                    refine ⟨_, rfl, ?_⟩
                    refine Go_if_ltY (tgt := 116) (pc' := 109) dX9_advance_106 (by decide) rfl (by first | exact ⟨i_lo _, i_hi _⟩ | omega) (fun c106 => ?_) (fun c106 => by exfalso; omega)
                    refine Go_bipush (v := iZ 22) (pc' := 118) dX9_advance_116 rfl (by decide) ?_
                    refine Go_putI (pc' := 121) dX9_advance_118 rfl kf_RX9_44 (by decide) (by decide) rfl (S.b 71 rfl rfl) (S.o 71 rfl rfl rfl) (Or.inl rfl) rfl rfl ?_
                    refine Go_return dX9_advance_121 rfl ?_
                    refine hk _ (((((DX.rf _ _).wI (by unfold Pt; omega)).wI (by unfold Pt; omega)).wI (by unfold Pt; omega)).wI (by unfold Pt; omega)) (((vi_skip (Or.inr (by decide))).trans (vi_same)).trans (congrArg iZ (by omega))) ((vi_same).trans (congrArg iZ (by omega))) ((vi_skip (Or.inr (by decide))).trans ((vi_skip (Or.inr (by decide))).trans (vi_same))) (fun z => by exfalso; omega)
                  · refine Go_iload_n (pc' := 7) dX9_isDigit_6 rfl rfl rfl ?_
                    refine Go_bipush (v := iZ 57) (pc' := 9) dX9_isDigit_7 rfl (by decide) ?_
                    refine Go_icmp_gtY (tgt := 16) (pc' := 12) dX9_isDigit_9 (by decide) rfl (by first | exact ⟨i_lo _, i_hi _⟩ | omega) (by first | exact ⟨i_lo _, i_hi _⟩ | omega) (fun m9 => ?_) (fun m9 => ?_)
                    · refine Go_iconst (v := iZ 0) (pc' := 17) dX9_isDigit_16 rfl (by decide) ?_
                      refine Go_ireturn (ty := .boolean) dX9_isDigit_17 rfl rfl ?_
                      refine ⟨_, rfl, ?_⟩
                      refine Go_if_eqY (tgt := 88) (pc' := 81) dX9_advance_78 (by decide) rfl (by first | exact ⟨i_lo _, i_hi _⟩ | omega) (fun c78 => ?_) (fun c78 => by exfalso; omega)
                      refine Go_aload_n (pc' := 89) dX9_advance_88 rfl rfl rfl ?_
                      refine Go_dup (pc' := 90) dX9_advance_89 rfl rfl ?_
                      refine Go_getIv (v := (iZ (tP T n pos : Int))) (pc' := 93) dX9_advance_90 rfl kf_RX9_56 (by decide) (by decide) rfl (S.b 71 rfl rfl) (S.o 71 rfl rfl rfl) ((vi_skip (Or.inr (by decide))).trans (vi_same)) ?_
                      refine Go_iconst (v := iZ 1) (pc' := 94) dX9_advance_93 rfl (by decide) ?_
                      refine Go_iaddZ (pc' := 95) dX9_advance_94 rfl ?_
                      refine Go_putI (pc' := 98) dX9_advance_95 rfl kf_RX9_56 (by decide) (by decide) rfl (S.b 71 rfl rfl) (S.o 71 rfl rfl rfl) (Or.inl rfl) rfl rfl ?_
                      refine Go_aload_n (pc' := 99) dX9_advance_98 rfl rfl rfl ?_
                      refine Go_ldcS (tx := ";+-*/()<=>") (j := 14) (pc' := 101) dX9_advance_99 rfl (by decide +kernel) (by decide) ?_
                      refine Go_iload_n (pc' := 102) dX9_advance_101 rfl rfl rfl ?_
                      refine Go_i2cZ (pc' := 103) dX9_advance_102 rfl (by omega) ?_
                      refine Go_callVS_i (j := 14) (pc' := 106) (As := [.int _]) (st := [.ref _]) dX9_advance_103 rfl ok_J0_indexOf_0f7a4 km_RX9_151 (by decide) rfl rfl (Nat.le_of_ble_eq_true rfl) rfl rfl rfl (Nat.le_of_ble_eq_true rfl) (Nat.lt_succ_self _) ?_
                      refine s_indexOf (j := 14) (n := (T (tP T n pos)).toNat) (by decide) rfl (by omega) (fun R r1 r2 => ?_)
                      refine ⟨_, rfl, ?_⟩
                      refine Go_if_ltY (tgt := 116) (pc' := 109) dX9_advance_106 (by decide) rfl (by first | exact ⟨i_lo _, i_hi _⟩ | omega) (fun c106 => ?_) (fun c106 => by exfalso; omega)
                      refine Go_bipush (v := iZ 22) (pc' := 118) dX9_advance_116 rfl (by decide) ?_
                      refine Go_putI (pc' := 121) dX9_advance_118 rfl kf_RX9_44 (by decide) (by decide) rfl (S.b 71 rfl rfl) (S.o 71 rfl rfl rfl) (Or.inl rfl) rfl rfl ?_
                      refine Go_return dX9_advance_121 rfl ?_
                      refine hk _ (((((DX.rf _ _).wI (by unfold Pt; omega)).wI (by unfold Pt; omega)).wI (by unfold Pt; omega)).wI (by unfold Pt; omega)) (((vi_skip (Or.inr (by decide))).trans (vi_same)).trans (congrArg iZ (by omega))) ((vi_same).trans (congrArg iZ (by omega))) ((vi_skip (Or.inr (by decide))).trans ((vi_skip (Or.inr (by decide))).trans (vi_same))) (fun z => by exfalso; omega)
                    · refine Go_iconst (v := iZ 1) (pc' := 13) dX9_isDigit_12 rfl (by decide) ?_
                      refine Go_goto (tgt := 17) dX9_isDigit_13 (by decide) ?_
                      refine Go_ireturn (ty := .boolean) dX9_isDigit_17 rfl rfl ?_
                      refine ⟨_, rfl, ?_⟩
                      refine Go_if_eqY (tgt := 88) (pc' := 81) dX9_advance_78 (by decide) rfl (by first | exact ⟨i_lo _, i_hi _⟩ | omega) (fun c78 => by exfalso; omega) (fun c78 => ?_)
                      exfalso; omega
                · refine Go_iconst (v := iZ 1) (pc' := 25) dX9_isLetter_24 rfl (by decide) ?_
                  refine Go_goto (tgt := 29) dX9_isLetter_25 (by decide) ?_
                  refine Go_ireturn (ty := .boolean) dX9_isLetter_29 rfl rfl ?_
                  refine ⟨_, rfl, ?_⟩
                  refine Go_if_eqY (tgt := 74) (pc' := 59) dX9_advance_56 (by decide) rfl (by first | exact ⟨i_lo _, i_hi _⟩ | omega) (fun c56 => by exfalso; omega) (fun c56 => ?_)
                  exfalso; omega
