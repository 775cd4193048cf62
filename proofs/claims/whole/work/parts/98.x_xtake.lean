/-! the class takes a token -/
def zst (c v : Int) (s : St6) : Int × St6 := if s.1 = 0 then zlin c s else if s.1 = 1 then zwhen c s else if s.1 = 2 then zcon c v s else if s.1 = 3 then zunit c v s else if s.1 = 4 then zdiv c v s else zfol c s
def zinv (s : St6) : Prop := (0 ≤ s.1 ∧ s.1 ≤ 6) ∧ s.2.2.2.2.2 ≤ 16 ∧ (¬ s.1 = 0 → s.2.2.2.2.2 ≤ 15)
theorem zi {a b : Int} {cm : Int} {W : List Int} {o : List Int32} {l : Nat} (ha : 0 ≤ a ∧ a ≤ 6) (hl : l ≤ 16) (h : ¬ a = 0 → l ≤ 15) : zinv (a, b, cm, W, o, l) := ⟨ha, hl, h⟩
theorem zunit_i {c v : Int} {s : St6} (h : s.2.2.2.2.2 ≤ 15) (e : (zunit c v s).1 = 0) : zinv (zunit c v s).2 := by
  by_cases h1 : c = 20
  · rw [zunit_n h1]; exact zi (by omega) (by omega) (by omega)
  · by_cases h2 : 7 ≤ c ∧ c ≤ 13
    · rw [zunit_f h2]; exact zi (by omega) (by omega) (by omega)
    · rw [zunit_b h1 h2] at e; exact absurd (show (1 : Int) = 0 from e) (by decide)
theorem zst_i {c v : Int} {s : St6} (I : zinv s) (e : (zst c v s).1 = 0) : zinv (zst c v s).2 := by
  obtain ⟨i1, i2, i3⟩ := I
  unfold zst at e ⊢
  by_cases h0 : s.1 = 0
  · rw [if_pos h0] at e ⊢
    unfold zlin at e ⊢
    by_cases g1 : 0 ≤ c ∧ c ≤ 2
    · rw [if_pos g1] at e ⊢
      by_cases g2 : 16 ≤ s.2.2.2.2.2
      · rw [if_pos g2] at e; exact absurd (show (3 : Int) = 0 from e) (by decide)
      · rw [if_neg g2]; exact zi (by omega) (by omega) (by omega)
    · rw [if_neg g1] at e; exact absurd (show (1 : Int) = 0 from e) (by decide)
  · have h15 := i3 h0
    rw [if_neg h0] at e ⊢
    by_cases h1 : s.1 = 1
    · rw [if_pos h1] at e ⊢
      unfold zwhen at e ⊢
      by_cases g1 : c = 3
      · rw [if_pos g1]; exact zi (by omega) (by omega) (by omega)
      · rw [if_neg g1] at e; exact absurd (show (1 : Int) = 0 from e) (by decide)
    · rw [if_neg h1] at e ⊢
      by_cases h2 : s.1 = 2
      · rw [if_pos h2] at e ⊢
        unfold zcon at e ⊢
        by_cases g1 : c = 6 ∨ c = 140
        · rw [if_pos g1] at e ⊢
          by_cases g2 : 8 ≤ zop s.2.2.2.1
          · rw [if_pos g2] at e; exact absurd (show (3 : Int) = 0 from e) (by decide)
          · rw [if_neg g2]; exact zi (by omega) (by omega) (by omega)
        · rw [if_neg g1] at e ⊢
          exact zunit_i h15 e
      · rw [if_neg h2] at e ⊢
        by_cases h3 : s.1 = 3
        · rw [if_pos h3] at e ⊢; exact zunit_i h15 e
        · rw [if_neg h3] at e ⊢
          by_cases h4 : s.1 = 4
          · rw [if_pos h4] at e ⊢
            unfold zdiv at e ⊢
            by_cases g1 : c = 20
            · rw [if_pos g1] at e ⊢
              by_cases g2 : v = 0
              · rw [if_pos g2] at e; exact absurd (show (2 : Int) = 0 from e) (by decide)
              · rw [if_neg g2] at e ⊢; exact zunit_i h15 e
            · rw [if_neg g1] at e; exact absurd (show (1 : Int) = 0 from e) (by decide)
          · rw [if_neg h4] at e ⊢
            unfold zfol at e ⊢
            split
            · exact zi (by split <;> omega) (by omega) (by omega)
            · split
              · exact zi (by omega) (show s.2.2.2.2.2 ≤ 16 by omega) (fun _ => show s.2.2.2.2.2 ≤ 15 by omega)
              · split
                · exact zi (by omega) (by omega) (by omega)
                · split
                  · exact zi (by omega) (by omega) (by omega)
                  · split
                    · exact zi (by omega) (by omega) (by omega)
                    · exact ⟨i1, i2, i3⟩

set_option maxRecDepth 20000 in
set_option maxHeartbeats 1000000 in
theorem s_take {G : GC} {d mc ms : Nat} {H : HS} {K : Option Value → HS → Prop} {q : Nat} {s : St6} {c v pl : Int} (S : Shp H) (QP : QPr H q) (hq : q = 74 ∨ q = 77) (hr : ri H 71 16 = some q) (R : RS6 H q s) (e3 : vi H 71 3 = iZ c) (hc : -2147483648 ≤ c ∧ c < 2147483648) (e4 : vi H 71 4 = iZ pl) (e5 : c = 20 → vi H 71 5 = iZ v) (I : zinv s) (hv : c = 20 → 0 ≤ v ∧ v ≤ 9999) (hk : ∀ H', TKp H H' q (zst c v s) pl → K none H') : Go G (d + 4) mc ms M_X9_take 0 [.ref 71] [] H K := by
  have i1 := I.1
  have ep := e4
  refine Go_aload_n (pc' := 1) dX9_take_0 rfl rfl rfl ?_
  refine Go_getIv (v := (iZ s.1)) (pc' := 4) dX9_take_1 rfl kf_RX9_47 (by decide) (by decide) rfl (S.b 71 rfl rfl) (S.o 71 rfl rfl rfl) (R.1) ?_
  rcases (show s.1 = 0 ∨ s.1 = 1 ∨ s.1 = 2 ∨ s.1 = 3 ∨ s.1 = 4 ∨ (s.1 < 0 ∨ 4 < s.1) by omega) with e4 | e4 | e4 | e4 | e4 | e4
  · refine Go_tableIn (off := 36) (tgt := 40) dX9_take_4 (by rw [(iZ_t (X := s.1) (by omega))]; omega) (by rw [(iZ_t (X := s.1) (by omega))]; omega) (by rw [(iZ_t (X := s.1) (by omega)), e4]; rfl) (by decide) ?_
    refine Go_aload_n (pc' := 41) dX9_take_40 rfl rfl rfl ?_
    refine Go_callV_v (pc' := 44) (As := []) (st := []) dX9_take_41 rfl ok_X9_takeLine km_RX9_71 (S.o 71 rfl rfl rfl) (S.b 71 rfl rfl) ⟨_, _, rfl⟩ rfl (Nat.le_of_ble_eq_true rfl) rfl rfl rfl (Nat.le_of_ble_eq_true rfl) (Nat.lt_succ_self _) ?_
    refine s_lin S QP hq hr R e3 hc ep e5 I.2.1 (fun H1 T1 => ?_)
    refine ⟨rfl, ?_⟩
    refine Go_goto (tgt := 79) dX9_take_44 (by decide) ?_
    refine Go_return dX9_take_79 rfl ?_
    refine hk _ ?_
    unfold zst
    rw [if_pos (by omega)]
    exact T1
  · refine Go_tableIn (off := 43) (tgt := 47) dX9_take_4 (by rw [(iZ_t (X := s.1) (by omega))]; omega) (by rw [(iZ_t (X := s.1) (by omega))]; omega) (by rw [(iZ_t (X := s.1) (by omega)), e4]; rfl) (by decide) ?_
    refine Go_aload_n (pc' := 48) dX9_take_47 rfl rfl rfl ?_
    refine Go_callV_v (pc' := 51) (As := []) (st := []) dX9_take_48 rfl ok_X9_takeWhen km_RX9_74 (S.o 71 rfl rfl rfl) (S.b 71 rfl rfl) ⟨_, _, rfl⟩ rfl (Nat.le_of_ble_eq_true rfl) rfl rfl rfl (Nat.le_of_ble_eq_true rfl) (Nat.lt_succ_self _) ?_
    refine s_when S QP hq hr R e3 hc ep e5 (fun H1 T1 => ?_)
    refine ⟨rfl, ?_⟩
    refine Go_goto (tgt := 79) dX9_take_51 (by decide) ?_
    refine Go_return dX9_take_79 rfl ?_
    refine hk _ ?_
    unfold zst
    rw [if_neg (by omega), if_pos (by omega)]
    exact T1
  · refine Go_tableIn (off := 50) (tgt := 54) dX9_take_4 (by rw [(iZ_t (X := s.1) (by omega))]; omega) (by rw [(iZ_t (X := s.1) (by omega))]; omega) (by rw [(iZ_t (X := s.1) (by omega)), e4]; rfl) (by decide) ?_
    refine Go_aload_n (pc' := 55) dX9_take_54 rfl rfl rfl ?_
    refine Go_callV_v (pc' := 58) (As := []) (st := []) dX9_take_55 rfl ok_X9_takeCondition km_RX9_77 (S.o 71 rfl rfl rfl) (S.b 71 rfl rfl) ⟨_, _, rfl⟩ rfl (Nat.le_of_ble_eq_true rfl) rfl rfl rfl (Nat.le_of_ble_eq_true rfl) (Nat.lt_succ_self _) ?_
    refine s_con S QP hq hr R e3 hc ep e5 (fun H1 T1 => ?_)
    refine ⟨rfl, ?_⟩
    refine Go_goto (tgt := 79) dX9_take_58 (by decide) ?_
    refine Go_return dX9_take_79 rfl ?_
    refine hk _ ?_
    unfold zst
    rw [if_neg (by omega), if_neg (by omega), if_pos (by omega)]
    exact T1
  · refine Go_tableIn (off := 57) (tgt := 61) dX9_take_4 (by rw [(iZ_t (X := s.1) (by omega))]; omega) (by rw [(iZ_t (X := s.1) (by omega))]; omega) (by rw [(iZ_t (X := s.1) (by omega)), e4]; rfl) (by decide) ?_
    refine Go_aload_n (pc' := 62) dX9_take_61 rfl rfl rfl ?_
    refine Go_callV_v (pc' := 65) (As := []) (st := []) dX9_take_62 rfl ok_X9_takeUnit km_RX9_80 (S.o 71 rfl rfl rfl) (S.b 71 rfl rfl) ⟨_, _, rfl⟩ rfl (Nat.le_of_ble_eq_true rfl) rfl rfl rfl (Nat.le_of_ble_eq_true rfl) (Nat.lt_succ_self _) ?_
    refine s_unit S QP hq hr R e3 hc ep e5 (fun H1 T1 => ?_)
    refine ⟨rfl, ?_⟩
    refine Go_goto (tgt := 79) dX9_take_65 (by decide) ?_
    refine Go_return dX9_take_79 rfl ?_
    refine hk _ ?_
    unfold zst
    rw [if_neg (by omega), if_neg (by omega), if_neg (by omega), if_pos (by omega)]
    exact T1
  · refine Go_tableIn (off := 64) (tgt := 68) dX9_take_4 (by rw [(iZ_t (X := s.1) (by omega))]; omega) (by rw [(iZ_t (X := s.1) (by omega))]; omega) (by rw [(iZ_t (X := s.1) (by omega)), e4]; rfl) (by decide) ?_
    refine Go_aload_n (pc' := 69) dX9_take_68 rfl rfl rfl ?_
    refine Go_callV_v (pc' := 72) (As := []) (st := []) dX9_take_69 rfl ok_X9_takeDivisor km_RX9_83 (S.o 71 rfl rfl rfl) (S.b 71 rfl rfl) ⟨_, _, rfl⟩ rfl (Nat.le_of_ble_eq_true rfl) rfl rfl rfl (Nat.le_of_ble_eq_true rfl) (Nat.lt_succ_self _) ?_
    refine s_div S QP hq hr R e3 hc ep e5 hv (fun H1 T1 => ?_)
    refine ⟨rfl, ?_⟩
    refine Go_goto (tgt := 79) dX9_take_72 (by decide) ?_
    refine Go_return dX9_take_79 rfl ?_
    refine hk _ ?_
    unfold zst
    rw [if_neg (by omega), if_neg (by omega), if_neg (by omega), if_neg (by omega), if_pos (by omega)]
    exact T1
  · refine Go_tableOut (tgt := 75) dX9_take_4 (by rw [(iZ_t (X := s.1) (by omega))]; omega) (by decide) ?_
    refine Go_aload_n (pc' := 76) dX9_take_75 rfl rfl rfl ?_
    refine Go_callV_v (pc' := 79) (As := []) (st := []) dX9_take_76 rfl ok_X9_takeFollower km_RX9_86 (S.o 71 rfl rfl rfl) (S.b 71 rfl rfl) ⟨_, _, rfl⟩ rfl (Nat.le_of_ble_eq_true rfl) rfl rfl rfl (Nat.le_of_ble_eq_true rfl) (Nat.lt_succ_self _) ?_
    refine s_fol S QP hq hr R e3 hc ep e5 (by omega) (fun H1 T1 => ?_)
    refine ⟨rfl, ?_⟩
    refine Go_return dX9_take_79 rfl ?_
    refine hk _ ?_
    unfold zst
    rw [if_neg (by omega), if_neg (by omega), if_neg (by omega), if_neg (by omega), if_neg (by omega)]
    exact T1
