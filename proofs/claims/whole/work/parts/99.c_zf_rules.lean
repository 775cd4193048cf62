/-! the model reads its tape to the end -/
set_option maxRecDepth 20000 in
set_option maxHeartbeats 2000000 in
theorem cp_sort {G : GC} {d mc ms : Nat} {K : Option Value → HS → Prop} {B : Nat} (hB : B ≤ 16) : ∀ (m j : Nat) (H : HS), j + m = B → Shp H → vi H 99 25 = iZ (B : Int) → (∀ l, l < j → vi H 120 l = vi H 122 l) → (∀ H' x, DX (fun i _ => i = 120) H H' → (∀ l, l < B → vi H' 120 l = vi H' 122 l) → Go G d mc ms M_X12_rules 123 [.ref 99, .int (iZ 1), .int (iZ x)] [] H' K) → Go G d mc ms M_X12_rules 97 [.ref 99, .int (iZ 1), .int (iZ (j : Int))] [] H K := by
  intro m
  induction m with
  | zero =>
    intro j H hj S eB inv hk
    refine Go_iload_n (pc' := 98) dX12_rules_97 rfl rfl rfl ?_
    refine Go_aload_n (pc' := 99) dX12_rules_98 rfl rfl rfl ?_
    refine Go_getIv (v := (iZ (B : Int))) (pc' := 102) dX12_rules_99 rfl kf_RX12_326 (by decide) (by decide) rfl (S.b 99 rfl rfl) (S.o 99 rfl rfl rfl) (eB) ?_
    refine Go_icmp_geY (tgt := 123) (pc' := 105) dX12_rules_102 (by decide) rfl (by first | exact ⟨i_lo _, i_hi _⟩ | omega) (by first | exact ⟨i_lo _, i_hi _⟩ | omega) (fun c102 => ?_) (fun c102 => by exfalso; omega)
    exact hk H _ (DX.rf _ _) (fun l hl => inv l (by omega))
  | succ m ih =>
    intro j H hj S eB inv hk
    refine Go_iload_n (pc' := 98) dX12_rules_97 rfl rfl rfl ?_
    refine Go_aload_n (pc' := 99) dX12_rules_98 rfl rfl rfl ?_
    refine Go_getIv (v := (iZ (B : Int))) (pc' := 102) dX12_rules_99 rfl kf_RX12_326 (by decide) (by decide) rfl (S.b 99 rfl rfl) (S.o 99 rfl rfl rfl) (eB) ?_
    refine Go_icmp_geY (tgt := 123) (pc' := 105) dX12_rules_102 (by decide) rfl (by first | exact ⟨i_lo _, i_hi _⟩ | omega) (by first | exact ⟨i_lo _, i_hi _⟩ | omega) (fun c102 => by exfalso; omega) (fun c102 => ?_)
    refine Go_aload_n (pc' := 106) dX12_rules_105 rfl rfl rfl ?_
    refine Go_getRs (pc' := 109) dX12_rules_106 rfl kf_RX12_70 (by decide) (by decide) rfl (S.b 99 rfl rfl) (S.o 99 rfl rfl rfl) (S.r 99 21 rfl rfl rfl) ?_
    refine Go_iload_n (pc' := 110) dX12_rules_109 rfl rfl rfl ?_
    refine Go_aload_n (pc' := 111) dX12_rules_110 rfl rfl rfl ?_
    refine Go_getRs (pc' := 114) dX12_rules_111 rfl kf_RX12_76 (by decide) (by decide) rfl (S.b 99 rfl rfl) (S.o 99 rfl rfl rfl) (S.r 99 23 rfl rfl rfl) ?_
    refine Go_iload_n (pc' := 115) dX12_rules_114 rfl rfl rfl ?_
    refine Go_ialoadZ (n := 16) (k := j) (v := (iZ (vi H 122 j).toInt)) (pc' := 116) dX12_rules_115 rfl (S.b 122 rfl rfl) (S.k 122 rfl rfl rfl) rfl (by omega) (by decide) (vi_eta _ _ _) ?_
    refine Go_iastoreZ (n := 16) (k := j) (pc' := 117) dX12_rules_116 rfl (S.b 120 rfl rfl) (S.k 120 rfl rfl rfl) rfl (by omega) (by decide) ?_
    refine Go_iincZ (pc' := 120) (lv' := [.ref _, .int _, .int _]) dX12_rules_117 rfl rfl (Nat.le_of_ble_eq_true rfl) rfl rfl ?_
    refine Go_goto (tgt := 97) dX12_rules_120 (by decide) ?_
    have D0 : DX (fun i _ => i = 120) H (wI H 120 j (iZ (vi H 122 j).toInt)) := (DX.rf _ _).wI rfl
    refine ih (j + 1) _ (by omega) (D0.shp S) ((vi_skip (by omega)).trans eB) (fun l hl => ?_) (fun H' x D E => hk H' x (D0.tr D) E)
    rw [vi_skip (i := 120) (a := 122) (by omega)]
    by_cases c : l = j
    · subst c; rw [vi_same, iZ_self]
    · rw [vi_skip (by omega)]; exact inv l (by omega)
set_option maxRecDepth 20000 in
set_option maxHeartbeats 2000000 in
theorem cp_from {G : GC} {d mc ms : Nat} {K : Option Value → HS → Prop} {B : Nat} (hB : B ≤ 16) : ∀ (m j : Nat) (H : HS), j + m = B + 1 → Shp H → vi H 99 25 = iZ (B : Int) → (∀ l, l < j → vi H 121 l = vi H 123 l) → (∀ H' x, DX (fun i _ => i = 121) H H' → (∀ l, l < B + 1 → vi H' 121 l = vi H' 123 l) → Go G d mc ms M_X12_rules 151 [.ref 99, .int (iZ 1), .int (iZ x)] [] H' K) → Go G d mc ms M_X12_rules 125 [.ref 99, .int (iZ 1), .int (iZ (j : Int))] [] H K := by
  intro m
  induction m with
  | zero =>
    intro j H hj S eB inv hk
    refine Go_iload_n (pc' := 126) dX12_rules_125 rfl rfl rfl ?_
    refine Go_aload_n (pc' := 127) dX12_rules_126 rfl rfl rfl ?_
    refine Go_getIv (v := (iZ (B : Int))) (pc' := 130) dX12_rules_127 rfl kf_RX12_326 (by decide) (by decide) rfl (S.b 99 rfl rfl) (S.o 99 rfl rfl rfl) (eB) ?_
    refine Go_icmp_gtY (tgt := 151) (pc' := 133) dX12_rules_130 (by decide) rfl (by first | exact ⟨i_lo _, i_hi _⟩ | omega) (by first | exact ⟨i_lo _, i_hi _⟩ | omega) (fun c130 => ?_) (fun c130 => by exfalso; omega)
    exact hk H _ (DX.rf _ _) (fun l hl => inv l (by omega))
  | succ m ih =>
    intro j H hj S eB inv hk
    refine Go_iload_n (pc' := 126) dX12_rules_125 rfl rfl rfl ?_
    refine Go_aload_n (pc' := 127) dX12_rules_126 rfl rfl rfl ?_
    refine Go_getIv (v := (iZ (B : Int))) (pc' := 130) dX12_rules_127 rfl kf_RX12_326 (by decide) (by decide) rfl (S.b 99 rfl rfl) (S.o 99 rfl rfl rfl) (eB) ?_
    refine Go_icmp_gtY (tgt := 151) (pc' := 133) dX12_rules_130 (by decide) rfl (by first | exact ⟨i_lo _, i_hi _⟩ | omega) (by first | exact ⟨i_lo _, i_hi _⟩ | omega) (fun c130 => by exfalso; omega) (fun c130 => ?_)
    refine Go_aload_n (pc' := 134) dX12_rules_133 rfl rfl rfl ?_
    refine Go_getRs (pc' := 137) dX12_rules_134 rfl kf_RX12_73 (by decide) (by decide) rfl (S.b 99 rfl rfl) (S.o 99 rfl rfl rfl) (S.r 99 22 rfl rfl rfl) ?_
    refine Go_iload_n (pc' := 138) dX12_rules_137 rfl rfl rfl ?_
    refine Go_aload_n (pc' := 139) dX12_rules_138 rfl rfl rfl ?_
    refine Go_getRs (pc' := 142) dX12_rules_139 rfl kf_RX12_79 (by decide) (by decide) rfl (S.b 99 rfl rfl) (S.o 99 rfl rfl rfl) (S.r 99 24 rfl rfl rfl) ?_
    refine Go_iload_n (pc' := 143) dX12_rules_142 rfl rfl rfl ?_
    refine Go_ialoadZ (n := 17) (k := j) (v := (iZ (vi H 123 j).toInt)) (pc' := 144) dX12_rules_143 rfl (S.b 123 rfl rfl) (S.k 123 rfl rfl rfl) rfl (by omega) (by decide) (vi_eta _ _ _) ?_
    refine Go_iastoreZ (n := 17) (k := j) (pc' := 145) dX12_rules_144 rfl (S.b 121 rfl rfl) (S.k 121 rfl rfl rfl) rfl (by omega) (by decide) ?_
    refine Go_iincZ (pc' := 148) (lv' := [.ref _, .int _, .int _]) dX12_rules_145 rfl rfl (Nat.le_of_ble_eq_true rfl) rfl rfl ?_
    refine Go_goto (tgt := 125) dX12_rules_148 (by decide) ?_
    have D0 : DX (fun i _ => i = 121) H (wI H 121 j (iZ (vi H 123 j).toInt)) := (DX.rf _ _).wI rfl
    refine ih (j + 1) _ (by omega) (D0.shp S) ((vi_skip (by omega)).trans eB) (fun l hl => ?_) (fun H' x D E => hk H' x (D0.tr D) E)
    rw [vi_skip (i := 121) (a := 123) (by omega)]
    by_cases c : l = j
    · subst c; rw [vi_same, iZ_self]
    · rw [vi_skip (by omega)]; exact inv l (by omega)
set_option maxRecDepth 20000 in
set_option maxHeartbeats 2000000 in
theorem cp_step {G : GC} {d mc ms : Nat} {K : Option Value → HS → Prop} {B : Nat} (hB : B ≤ 600) : ∀ (m j : Nat) (H : HS), j + m = 2 * B → Shp H → vi H 99 27 = iZ (B : Int) → (∀ l, l < j → vi H 118 l = vi H 119 l) → (∀ H' x, DX (fun i _ => i = 118) H H' → (∀ l, l < 2 * B → vi H' 118 l = vi H' 119 l) → Go G d mc ms M_X12_rules 181 [.ref 99, .int (iZ 1), .int (iZ x)] [] H' K) → Go G d mc ms M_X12_rules 153 [.ref 99, .int (iZ 1), .int (iZ (j : Int))] [] H K := by
  intro m
  induction m with
  | zero =>
    intro j H hj S eB inv hk
    refine Go_iload_n (pc' := 154) dX12_rules_153 rfl rfl rfl ?_
    refine Go_iconst (v := iZ 2) (pc' := 155) dX12_rules_154 rfl (by decide) ?_
    refine Go_aload_n (pc' := 156) dX12_rules_155 rfl rfl rfl ?_
    refine Go_getIv (v := (iZ (B : Int))) (pc' := 159) dX12_rules_156 rfl kf_RX12_282 (by decide) (by decide) rfl (S.b 99 rfl rfl) (S.o 99 rfl rfl rfl) (eB) ?_
    refine Go_imulZ (pc' := 160) dX12_rules_159 rfl ?_
    refine Go_icmp_geY (tgt := 181) (pc' := 163) dX12_rules_160 (by decide) rfl (by first | exact ⟨i_lo _, i_hi _⟩ | omega) (by first | exact ⟨i_lo _, i_hi _⟩ | omega) (fun c160 => ?_) (fun c160 => by exfalso; omega)
    exact hk H _ (DX.rf _ _) (fun l hl => inv l (by omega))
  | succ m ih =>
    intro j H hj S eB inv hk
    refine Go_iload_n (pc' := 154) dX12_rules_153 rfl rfl rfl ?_
    refine Go_iconst (v := iZ 2) (pc' := 155) dX12_rules_154 rfl (by decide) ?_
    refine Go_aload_n (pc' := 156) dX12_rules_155 rfl rfl rfl ?_
    refine Go_getIv (v := (iZ (B : Int))) (pc' := 159) dX12_rules_156 rfl kf_RX12_282 (by decide) (by decide) rfl (S.b 99 rfl rfl) (S.o 99 rfl rfl rfl) (eB) ?_
    refine Go_imulZ (pc' := 160) dX12_rules_159 rfl ?_
    refine Go_icmp_geY (tgt := 181) (pc' := 163) dX12_rules_160 (by decide) rfl (by first | exact ⟨i_lo _, i_hi _⟩ | omega) (by first | exact ⟨i_lo _, i_hi _⟩ | omega) (fun c160 => by exfalso; omega) (fun c160 => ?_)
    refine Go_aload_n (pc' := 164) dX12_rules_163 rfl rfl rfl ?_
    refine Go_getRs (pc' := 167) dX12_rules_164 rfl kf_RX12_64 (by decide) (by decide) rfl (S.b 99 rfl rfl) (S.o 99 rfl rfl rfl) (S.r 99 19 rfl rfl rfl) ?_
    refine Go_iload_n (pc' := 168) dX12_rules_167 rfl rfl rfl ?_
    refine Go_aload_n (pc' := 169) dX12_rules_168 rfl rfl rfl ?_
    refine Go_getRs (pc' := 172) dX12_rules_169 rfl kf_RX12_67 (by decide) (by decide) rfl (S.b 99 rfl rfl) (S.o 99 rfl rfl rfl) (S.r 99 20 rfl rfl rfl) ?_
    refine Go_iload_n (pc' := 173) dX12_rules_172 rfl rfl rfl ?_
    refine Go_ialoadZ (n := 1220) (k := j) (v := (iZ (vi H 119 j).toInt)) (pc' := 174) dX12_rules_173 rfl (S.b 119 rfl rfl) (S.k 119 rfl rfl rfl) rfl (by omega) (by decide) (vi_eta _ _ _) ?_
    refine Go_iastoreZ (n := 1220) (k := j) (pc' := 175) dX12_rules_174 rfl (S.b 118 rfl rfl) (S.k 118 rfl rfl rfl) rfl (by omega) (by decide) ?_
    refine Go_iincZ (pc' := 178) (lv' := [.ref _, .int _, .int _]) dX12_rules_175 rfl rfl (Nat.le_of_ble_eq_true rfl) rfl rfl ?_
    refine Go_goto (tgt := 153) dX12_rules_178 (by decide) ?_
    have D0 : DX (fun i _ => i = 118) H (wI H 118 j (iZ (vi H 119 j).toInt)) := (DX.rf _ _).wI rfl
    refine ih (j + 1) _ (by omega) (D0.shp S) ((vi_skip (by omega)).trans eB) (fun l hl => ?_) (fun H' x D E => hk H' x (D0.tr D) E)
    rw [vi_skip (i := 118) (a := 119) (by omega)]
    by_cases c : l = j
    · subst c; rw [vi_same, iZ_self]
    · rw [vi_skip (by omega)]; exact inv l (by omega)
set_option maxRecDepth 20000 in
set_option maxHeartbeats 4000000 in
theorem ru_loop {G : GC} {d mc ms : Nat} {K : Option Value → HS → Prop} {T : Nat → Int} {n : Nat} {s0 : St6} : ∀ (m : Nat) (H : HS) (pos : Nat) (p : List Lin), n < pos + m → zLs T n s0 p H pos → (∀ H', DX zPc H H' → zBd T n s0 H' → Go G (d + 38) mc ms M_X12_rules 52 [.ref 99, .int (iZ 0), un] [] H' K) → (∀ H' pos' p', DX zPn H H' → zLs T n s0 p' H' pos' → tC T n pos' = 21 → Go G (d + 38) mc ms M_X12_rules 52 [.ref 99, .int (iZ 1), un] [] H' K) → Go G (d + 38) mc ms M_X12_rules 33 [.ref 99, .int (iZ 1), un] [] H K := by
  intro m
  induction m with
  | zero =>
    intro H pos p hm X kb kg
    obtain ⟨dep, vd, cm, M, _⟩ := X
    have := M.hp
    exfalso; omega
  | succ m ih =>
    intro H pos p hm X kb kg
    have X0 := X
    obtain ⟨dep, vd, cm, M, _⟩ := X
    have hp := M.hp
    have mx := mtk_x (tC_s (T := T) (n := n) (pos := pos))
    by_cases h21 : tC T n pos = 21
    · refine Go_iload_n (pc' := 34) dX12_rules_33 rfl rfl rfl ?_
      refine Go_if_eqY (tgt := 52) (pc' := 37) dX12_rules_34 (by decide) rfl (by first | exact ⟨i_lo _, i_hi _⟩ | omega) (fun c34 => by exfalso; omega) (fun c34 => ?_)
      refine Go_aload_n (pc' := 38) dX12_rules_37 rfl rfl rfl ?_
      refine Go_getIv (v := (iZ (mtk (tC T n pos)))) (pc' := 41) dX12_rules_38 rfl kf_RX12_255 (by decide) (by decide) rfl (M.S.b 99 rfl rfl) (M.S.o 99 rfl rfl rfl) (M.e30) ?_
      refine Go_if_eqY (tgt := 52) (pc' := 44) dX12_rules_41 (by decide) rfl (by first | exact ⟨i_lo _, i_hi _⟩ | omega) (fun c41 => ?_) (fun c41 => ?_)
      · exact kg H pos p (DX.rf _ _) X0 h21
      · exfalso; omega
    · refine Go_iload_n (pc' := 34) dX12_rules_33 rfl rfl rfl ?_
      refine Go_if_eqY (tgt := 52) (pc' := 37) dX12_rules_34 (by decide) rfl (by first | exact ⟨i_lo _, i_hi _⟩ | omega) (fun c34 => by exfalso; omega) (fun c34 => ?_)
      refine Go_aload_n (pc' := 38) dX12_rules_37 rfl rfl rfl ?_
      refine Go_getIv (v := (iZ (mtk (tC T n pos)))) (pc' := 41) dX12_rules_38 rfl kf_RX12_255 (by decide) (by decide) rfl (M.S.b 99 rfl rfl) (M.S.o 99 rfl rfl rfl) (M.e30) ?_
      refine Go_if_eqY (tgt := 52) (pc' := 44) dX12_rules_41 (by decide) rfl (by first | exact ⟨i_lo _, i_hi _⟩ | omega) (fun c41 => ?_) (fun c41 => ?_)
      · exfalso; omega
      · refine Go_aload_n (pc' := 45) dX12_rules_44 rfl rfl rfl ?_
        refine Go_callV_i (pc' := 48) (As := []) (st := []) dX12_rules_45 rfl ok_X12_aLine km_RX12_320 (M.S.o 99 rfl rfl rfl) (M.S.b 99 rfl rfl) ⟨_, _, rfl⟩ rfl (Nat.le_of_ble_eq_true rfl) rfl rfl rfl (Nat.le_of_ble_eq_true rfl) (Nat.lt_succ_self _) ?_
        refine m_line X0 h21 (fun H1 D1 B1 => ?_) (fun H1 p1 q1 D1 l1 X1 => ?_)
        · refine ⟨_, rfl, ?_⟩
          refine Go_istore_n (pc' := 49) (lv' := [.ref _, .int _, un]) dX12_rules_48 rfl rfl (Nat.le_of_ble_eq_true rfl) rfl rfl ?_
          refine Go_goto (tgt := 33) dX12_rules_49 (by decide) ?_
          refine Go_iload_n (pc' := 34) dX12_rules_33 rfl rfl rfl ?_
          refine Go_if_eqY (tgt := 52) (pc' := 37) dX12_rules_34 (by decide) rfl (by first | exact ⟨i_lo _, i_hi _⟩ | omega) (fun c34 => ?_) (fun c34 => by exfalso; omega)
          exact kb H1 D1 B1
        · refine ⟨_, rfl, ?_⟩
          refine Go_istore_n (pc' := 49) (lv' := [.ref _, .int _, un]) dX12_rules_48 rfl rfl (Nat.le_of_ble_eq_true rfl) rfl rfl ?_
          refine Go_goto (tgt := 33) dX12_rules_49 (by decide) ?_
          exact ih H1 p1 q1 (by omega) X1 (fun H9 D9 B9 => kb H9 ((zPnc D1).tr D9) B9) (fun H9 p9 q9 D9 X9 e9 => kg H9 p9 q9 (D1.tr D9) X9 e9)
abbrev zPx (i k : Nat) : Prop := (i = 99 ∧ 26 ≤ k ∧ k ≤ 37) ∨ i = 119 ∨ i = 122 ∨ i = 123
abbrev zPy (i k : Nat) : Prop := (i = 99 ∧ 25 ≤ k ∧ k ≤ 37) ∨ (118 ≤ i ∧ i ≤ 123)
theorem zPcx {H H' : HS} (D : DX zPc H H') : DX zPx H H' := D.mono (fun i k z => by unfold zPc zPb zPl at z; unfold zPx; omega)
theorem zPnx {H H' : HS} (D : DX zPn H H') : DX zPx H H' := D.mono (fun i k z => by unfold zPn zPe zPl at z; unfold zPx; omega)
theorem zPxy {H H' : HS} (D : DX zPx H H') : DX zPy H H' := D.mono (fun i k z => by unfold zPx at z; unfold zPy; omega)
set_option maxRecDepth 20000 in
set_option maxHeartbeats 4000000 in
theorem m_rules {G : GC} {d mc ms : Nat} {H : HS} {K : Option Value → HS → Prop} {T : Nat → Int} {n : Nat} {vd cm : Int} (F : TM H T n) (kb : (∀ H', DX zPx H H' → ¬ (rn T n 601 0 (0, vd, cm, [], [], 0)).1 = 0 → vi H' 99 28 = iZ 0 → vi H' 99 35 = iZ (rn T n 601 0 (0, vd, cm, [], [], 0)).1 → vi H' 99 37 = iZ (rn T n 601 0 (0, vd, cm, [], [], 0)).2.1 → K (some (.int (iZ (-1)))) H')) (kg : (∀ H' p vd' cm', DX zPy H H' → (rn T n 601 0 (0, vd, cm, [], [], 0)).1 = 0 → (rn T n 601 0 (0, vd, cm, [], [], 0)).2.2 = (0, vd', cm', [], codesC p, p.length) → goodP p → EncM H' p → vi H' 99 28 = iZ 0 → vi H' 99 35 = iZ 0 → vi H' 99 37 = iZ (-1) → K (some (.int (iZ (p.length : Int)))) H')) : Go G (d + 38) mc ms M_X12_rules 0 [.ref 99, un, un] [] H K := by
  have S := F.1
  have hn := F.2.1
  refine Go_aload_n (pc' := 1) dX12_rules_0 rfl rfl rfl ?_
  refine Go_iconst (v := iZ 0) (pc' := 2) dX12_rules_1 rfl (by decide) ?_
  refine Go_putI (pc' := 5) dX12_rules_2 rfl kf_RX12_270 (by decide) (by decide) rfl (S.b 99 rfl rfl) (S.o 99 rfl rfl rfl) (Or.inl rfl) rfl rfl ?_
  refine Go_aload_n (pc' := 6) dX12_rules_5 rfl rfl rfl ?_
  refine Go_iconst (v := iZ 0) (pc' := 7) dX12_rules_6 rfl (by decide) ?_
  refine Go_putI (pc' := 10) dX12_rules_7 rfl kf_RX12_206 (by decide) (by decide) rfl (S.b 99 rfl rfl) (S.o 99 rfl rfl rfl) (Or.inl rfl) rfl rfl ?_
  refine Go_aload_n (pc' := 11) dX12_rules_10 rfl rfl rfl ?_
  refine Go_iconst (v := iZ 0) (pc' := 12) dX12_rules_11 rfl (by decide) ?_
  refine Go_putI (pc' := 15) dX12_rules_12 rfl kf_RX12_317 (by decide) (by decide) rfl (S.b 99 rfl rfl) (S.o 99 rfl rfl rfl) (Or.inl rfl) rfl rfl ?_
  refine Go_aload_n (pc' := 16) dX12_rules_15 rfl rfl rfl ?_
  refine Go_iconst (v := iZ 0) (pc' := 17) dX12_rules_16 rfl (by decide) ?_
  refine Go_putI (pc' := 20) dX12_rules_17 rfl kf_RX12_282 (by decide) (by decide) rfl (S.b 99 rfl rfl) (S.o 99 rfl rfl rfl) (Or.inl rfl) rfl rfl ?_
  refine Go_aload_n (pc' := 21) dX12_rules_20 rfl rfl rfl ?_
  refine Go_getRs (pc' := 24) dX12_rules_21 rfl kf_RX12_79 (by decide) (by decide) rfl (S.b 99 rfl rfl) (S.o 99 rfl rfl rfl) (S.r 99 24 rfl rfl rfl) ?_
  refine Go_iconst (v := iZ 0) (pc' := 25) dX12_rules_24 rfl (by decide) ?_
  refine Go_iconst (v := iZ 0) (pc' := 26) dX12_rules_25 rfl (by decide) ?_
  refine Go_iastoreZ (n := 17) (k := 0) (pc' := 27) dX12_rules_26 rfl (S.b 123 rfl rfl) (S.k 123 rfl rfl rfl) rfl (by decide) (by decide) ?_
  have FW : TM (wI (wI (wI (wI (wI H 99 33 (iZ 0)) 99 29 (iZ 0)) 99 26 (iZ 0)) 99 27 (iZ 0)) 123 0 (iZ 0)) T n := ((((F.w (by omega)).w (by omega)).w (by omega)).w (by omega)).w (by omega)
  have DW : DX zPx H (wI (wI (wI (wI (wI H 99 33 (iZ 0)) 99 29 (iZ 0)) 99 26 (iZ 0)) 99 27 (iZ 0)) 123 0 (iZ 0)) := (((((DX.rf _ _).wI (by unfold zPx; omega)).wI (by unfold zPx; omega)).wI (by unfold zPx; omega)).wI (by unfold zPx; omega)).wI (by unfold zPx; omega)
  have e29W : vi (wI (wI (wI (wI (wI H 99 33 (iZ 0)) 99 29 (iZ 0)) 99 26 (iZ 0)) 99 27 (iZ 0)) 123 0 (iZ 0)) 99 29 = iZ ((0 : Nat) : Int) := (vi_skip (by omega)).trans ((vi_skip (by omega)).trans ((vi_skip (by omega)).trans vi_same))
  generalize hHW : (wI (wI (wI (wI (wI H 99 33 (iZ 0)) 99 29 (iZ 0)) 99 26 (iZ 0)) 99 27 (iZ 0)) 123 0 (iZ 0)) = HW at FW DW e29W ⊢
  refine Go_aload_n (pc' := 28) dX12_rules_27 rfl rfl rfl ?_
  refine Go_callV_v (pc' := 31) (As := []) (st := []) dX12_rules_28 rfl ok_X12_next0 km_RX12_279 (FW.1.o 99 rfl rfl rfl) (FW.1.b 99 rfl rfl) ⟨_, _, rfl⟩ rfl (Nat.le_of_ble_eq_true rfl) rfl rfl rfl (Nat.le_of_ble_eq_true rfl) (Nat.lt_succ_self _) ?_
  refine s_nxt (pos := 0) FW e29W (Nat.zero_le _) (fun H1 D1 g1 g2 g3 g4 => ?_)
  refine ⟨rfl, ?_⟩
  have M1 : zMX H1 T n 0 [] (vi H 99 36).toInt := ⟨FW.dx D1 (by unfold Pm; omega) (fun k => by unfold Pm; omega), Nat.zero_le _, ⟨g1, g2, g3, g4⟩, ⟨(D1.2.2.2 _ _ (by unfold Pm; omega)).trans (by rw [← hHW]; exact (vi_skip (by omega)).trans vi_same), fun i hi => absurd hi (Nat.not_lt_zero _)⟩, (D1.2.2.2 _ _ (by unfold Pm; omega)).trans (by rw [← hHW]; exact (vi_skip (by omega)).trans ((vi_skip (by omega)).trans ((vi_skip (by omega)).trans ((vi_skip (by omega)).trans ((vi_skip (by omega)).trans (vi_eta _ _ _))))))⟩
  have E1 : zLE H1 [] := by
    refine ⟨(D1.2.2.2 _ _ (by unfold Pm; omega)).trans (by rw [← hHW]; exact (vi_skip (by omega)).trans ((vi_skip (by omega)).trans vi_same)), fun l hl => absurd hl (Nat.not_lt_zero _), fun l hl => ?_⟩
    have h0 : l = 0 := Nat.le_zero.1 hl
    subst h0
    exact (D1.2.2.2 _ _ (by unfold Pm; omega)).trans (by rw [← hHW]; exact vi_same.trans (by decide))
  have e33_ : vi H1 99 33 = iZ 0 := (D1.2.2.2 _ _ (by unfold Pm; omega)).trans (by rw [← hHW]; exact (vi_skip (by omega)).trans ((vi_skip (by omega)).trans ((vi_skip (by omega)).trans ((vi_skip (by omega)).trans vi_same))))
  have X1 : zLs T n (0, vd, cm, [], [], 0) [] H1 0 := ⟨_, vd, cm, M1, E1, ⟨601, by omega, rfl⟩, Nat.le_refl _, by decide, fun l hl => absurd hl (by simp)⟩
  refine Go_iconst (v := iZ 1) (pc' := 32) dX12_rules_31 rfl (by decide) ?_
  refine Go_istore_n (pc' := 33) (lv' := [.ref _, .int _, un]) dX12_rules_32 rfl rfl (Nat.le_of_ble_eq_true rfl) rfl rfl ?_
  have DW1 : DX zPx H H1 := DW.tr (zPnx (zPen (zPm D1)))
  refine ru_loop (n + 1) H1 0 [] (by omega) X1 (fun H2 D2 B2 => ?_) (fun H2 p2 p D2 X2 e21 => ?_)
  · have S2 := D2.shp M1.S
    refine Go_aload_n (pc' := 53) dX12_rules_52 rfl rfl rfl ?_
    refine Go_iconst (v := iZ 0) (pc' := 54) dX12_rules_53 rfl (by decide) ?_
    refine Go_putI (pc' := 57) dX12_rules_54 rfl kf_RX12_203 (by decide) (by decide) rfl (S2.b 99 rfl rfl) (S2.o 99 rfl rfl rfl) (Or.inl rfl) rfl rfl ?_
    refine Go_aload_n (pc' := 58) dX12_rules_57 rfl rfl rfl ?_
    refine Go_aload_n (pc' := 59) dX12_rules_58 rfl rfl rfl ?_
    refine Go_getIv (v := (iZ (rn T n 601 0 (0, vd, cm, [], [], 0)).1)) (pc' := 62) dX12_rules_59 rfl kf_RX12_270 (by decide) (by decide) rfl (S2.b 99 rfl rfl) (S2.o 99 rfl rfl rfl) ((vi_skip (Or.inr (by decide))).trans (B2.2.1)) ?_
    refine Go_putI (pc' := 65) dX12_rules_62 rfl kf_RX12_323 (by decide) (by decide) rfl (S2.b 99 rfl rfl) (S2.o 99 rfl rfl rfl) (Or.inl rfl) rfl rfl ?_
    refine Go_aload_n (pc' := 66) dX12_rules_65 rfl rfl rfl ?_
    refine Go_iload_n (pc' := 67) dX12_rules_66 rfl rfl rfl ?_
    refine Go_if_eqY (tgt := 74) (pc' := 70) dX12_rules_67 (by decide) rfl (by first | exact ⟨i_lo _, i_hi _⟩ | omega) (fun c67 => ?_) (fun c67 => by exfalso; omega)
    refine Go_aload_n (pc' := 75) dX12_rules_74 rfl rfl rfl ?_
    refine Go_getIv (v := (iZ (rn T n 601 0 (0, vd, cm, [], [], 0)).2.1)) (pc' := 78) dX12_rules_75 rfl kf_RX12_273 (by decide) (by decide) rfl (S2.b 99 rfl rfl) (S2.o 99 rfl rfl rfl) ((vi_skip (Or.inr (by decide))).trans ((vi_skip (Or.inr (by decide))).trans (B2.2.2))) ?_
    refine Go_putI (pc' := 81) dX12_rules_78 rfl kf_RX12_82 (by decide) (by decide) rfl (S2.b 99 rfl rfl) (S2.o 99 rfl rfl rfl) (Or.inl rfl) rfl rfl ?_
    refine Go_iload_n (pc' := 82) dX12_rules_81 rfl rfl rfl ?_
    refine Go_if_neY (tgt := 87) (pc' := 85) dX12_rules_82 (by decide) rfl (by first | exact ⟨i_lo _, i_hi _⟩ | omega) (fun c82 => by exfalso; omega) (fun c82 => ?_)
    refine Go_iconst (v := iZ (-1)) (pc' := 86) dX12_rules_85 rfl (by decide) ?_
    refine Go_ireturn (ty := .int) dX12_rules_86 rfl rfl ?_
    exact kb _ ((DW1.tr (zPcx D2)).tr ((((DX.rf _ _).wI (by unfold zPx; omega)).wI (by unfold zPx; omega)).wI (by unfold zPx; omega))) B2.1 ((vi_skip (by omega)).trans ((vi_skip (by omega)).trans vi_same)) ((vi_skip (by omega)).trans vi_same) vi_same
  · have e33 : vi H2 99 33 = iZ 0 := (D2.2.2.2 _ _ (by unfold zPn zPe zPl; omega)).trans e33_
    obtain ⟨dep2, vd2, cm2, M, LE, C2, b2, h16, gl⟩ := X2
    have hp2 := M.hp
    have sc := steps_codes p
    have rE : (rn T n 601 0 (0, vd, cm, [], [], 0)).1 = 0 ∧ (rn T n 601 0 (0, vd, cm, [], [], 0)).2.2 = (0, vd2, cm2, [], codesC p, p.length) := by
      obtain ⟨m, h1, h2⟩ := C2
      obtain ⟨m', rfl⟩ : ∃ m', m = m' + 1 := ⟨m - 1, by omega⟩
      rw [h2, rn_e ⟨e21, rfl⟩]
      exact ⟨rfl, rfl⟩
    refine Go_aload_n (pc' := 53) dX12_rules_52 rfl rfl rfl ?_
    refine Go_iconst (v := iZ 0) (pc' := 54) dX12_rules_53 rfl (by decide) ?_
    refine Go_putI (pc' := 57) dX12_rules_54 rfl kf_RX12_203 (by decide) (by decide) rfl (M.S.b 99 rfl rfl) (M.S.o 99 rfl rfl rfl) (Or.inl rfl) rfl rfl ?_
    refine Go_aload_n (pc' := 58) dX12_rules_57 rfl rfl rfl ?_
    refine Go_aload_n (pc' := 59) dX12_rules_58 rfl rfl rfl ?_
    refine Go_getIv (v := (iZ 0)) (pc' := 62) dX12_rules_59 rfl kf_RX12_270 (by decide) (by decide) rfl (M.S.b 99 rfl rfl) (M.S.o 99 rfl rfl rfl) ((vi_skip (Or.inr (by decide))).trans (e33)) ?_
    refine Go_putI (pc' := 65) dX12_rules_62 rfl kf_RX12_323 (by decide) (by decide) rfl (M.S.b 99 rfl rfl) (M.S.o 99 rfl rfl rfl) (Or.inl rfl) rfl rfl ?_
    refine Go_aload_n (pc' := 66) dX12_rules_65 rfl rfl rfl ?_
    refine Go_iload_n (pc' := 67) dX12_rules_66 rfl rfl rfl ?_
    refine Go_if_eqY (tgt := 74) (pc' := 70) dX12_rules_67 (by decide) rfl (by first | exact ⟨i_lo _, i_hi _⟩ | omega) (fun c67 => by exfalso; omega) (fun c67 => ?_)
    refine Go_iconst (v := iZ (-1)) (pc' := 71) dX12_rules_70 rfl (by decide) ?_
    refine Go_goto (tgt := 78) dX12_rules_71 (by decide) ?_
    refine Go_putI (pc' := 81) dX12_rules_78 rfl kf_RX12_82 (by decide) (by decide) rfl (M.S.b 99 rfl rfl) (M.S.o 99 rfl rfl rfl) (Or.inl rfl) rfl rfl ?_
    refine Go_iload_n (pc' := 82) dX12_rules_81 rfl rfl rfl ?_
    refine Go_if_neY (tgt := 87) (pc' := 85) dX12_rules_82 (by decide) rfl (by first | exact ⟨i_lo _, i_hi _⟩ | omega) (fun c82 => ?_) (fun c82 => by exfalso; omega)
    refine Go_aload_n (pc' := 88) dX12_rules_87 rfl rfl rfl ?_
    refine Go_aload_n (pc' := 89) dX12_rules_88 rfl rfl rfl ?_
    refine Go_getIv (v := (iZ (p.length : Int))) (pc' := 92) dX12_rules_89 rfl kf_RX12_317 (by decide) (by decide) rfl (M.S.b 99 rfl rfl) (M.S.o 99 rfl rfl rfl) ((vi_skip (Or.inr (by decide))).trans ((vi_skip (Or.inr (by decide))).trans ((vi_skip (Or.inr (by decide))).trans (LE.1)))) ?_
    refine Go_putI (pc' := 95) dX12_rules_92 rfl kf_RX12_326 (by decide) (by decide) rfl (M.S.b 99 rfl rfl) (M.S.o 99 rfl rfl rfl) (Or.inl rfl) rfl rfl ?_
    refine Go_iconst (v := iZ 0) (pc' := 96) dX12_rules_95 rfl (by decide) ?_
    refine Go_istore_n (pc' := 97) (lv' := [.ref _, .int _, .int _]) dX12_rules_96 rfl rfl (Nat.le_of_ble_eq_true rfl) rfl rfl ?_
    have S3 : Shp (wI (wI (wI (wI H2 99 28 (iZ 0)) 99 35 (iZ 0)) 99 37 (iZ (-1))) 99 25 (iZ (p.length : Int))) := M.S
    have D3 : DX zPy H2 (wI (wI (wI (wI H2 99 28 (iZ 0)) 99 35 (iZ 0)) 99 37 (iZ (-1))) 99 25 (iZ (p.length : Int))) := ((((DX.rf _ _).wI (by unfold zPy; omega)).wI (by unfold zPy; omega)).wI (by unfold zPy; omega)).wI (by unfold zPy; omega)
    have e25 : vi (wI (wI (wI (wI H2 99 28 (iZ 0)) 99 35 (iZ 0)) 99 37 (iZ (-1))) 99 25 (iZ (p.length : Int))) 99 25 = iZ (p.length : Int) := vi_same
    have e27 : vi (wI (wI (wI (wI H2 99 28 (iZ 0)) 99 35 (iZ 0)) 99 37 (iZ (-1))) 99 25 (iZ (p.length : Int))) 99 27 = iZ ((stepsM p).length : Int) := (vi_skip (by omega)).trans ((vi_skip (by omega)).trans ((vi_skip (by omega)).trans ((vi_skip (by omega)).trans M.fe.1)))
    generalize hH3 : (wI (wI (wI (wI H2 99 28 (iZ 0)) 99 35 (iZ 0)) 99 37 (iZ (-1))) 99 25 (iZ (p.length : Int))) = H3 at S3 D3 e25 e27 ⊢
    refine cp_sort (B := p.length) (by omega) p.length 0 H3 (by omega) S3 e25 (fun l hl => absurd hl (by omega)) (fun H4 x4 D4 E4 => ?_)
    have S4 := D4.shp S3
    refine Go_iconst (v := iZ 0) (pc' := 124) dX12_rules_123 rfl (by decide) ?_
    refine Go_istore_n (pc' := 125) (lv' := [.ref _, .int _, .int _]) dX12_rules_124 rfl rfl (Nat.le_of_ble_eq_true rfl) rfl rfl ?_
    refine cp_from (B := p.length) (by omega) (p.length + 1) 0 H4 (by omega) S4 ((D4.2.2.2 _ _ (by omega)).trans e25) (fun l hl => absurd hl (by omega)) (fun H5 x5 D5 E5 => ?_)
    have S5 := D5.shp S4
    refine Go_iconst (v := iZ 0) (pc' := 152) dX12_rules_151 rfl (by decide) ?_
    refine Go_istore_n (pc' := 153) (lv' := [.ref _, .int _, .int _]) dX12_rules_152 rfl rfl (Nat.le_of_ble_eq_true rfl) rfl rfl ?_
    refine cp_step (B := (stepsM p).length) (by omega) (2 * (stepsM p).length) 0 H5 (by omega) S5 ((D5.2.2.2 _ _ (by omega)).trans ((D4.2.2.2 _ _ (by omega)).trans e27)) (fun l hl => absurd hl (by omega)) (fun H6 x6 D6 E6 => ?_)
    refine Go_aload_n (pc' := 182) dX12_rules_181 rfl rfl rfl ?_
    refine Go_getIv (v := (iZ (p.length : Int))) (pc' := 185) dX12_rules_182 rfl kf_RX12_326 (by decide) (by decide) rfl ((D6.shp S5).b 99 rfl rfl) ((D6.shp S5).o 99 rfl rfl rfl) (((D6.2.2.2 _ _ (by omega)).trans ((D5.2.2.2 _ _ (by omega)).trans ((D4.2.2.2 _ _ (by omega)).trans e25)))) ?_
    refine Go_ireturn (ty := .int) dX12_rules_185 rfl rfl ?_
    have v6 : ∀ l, vi H6 99 l = vi H3 99 l := fun l => (D6.2.2.2 _ _ (by omega)).trans ((D5.2.2.2 _ _ (by omega)).trans (D4.2.2.2 _ _ (by omega)))
    refine kg H6 p vd2 cm2 ((zPxy (DW1.tr (zPnx D2))).tr (D3.tr ((D4.mono (fun i k z => by unfold zPy; omega)).tr ((D5.mono (fun i k z => by unfold zPy; omega)).tr (D6.mono (fun i k z => by unfold zPy; omega)))))) rE.1 rE.2 ⟨h16, by omega, by omega, gl⟩ ⟨?_, fun l hl => ?_, fun l hl => ?_, fun i hi => ?_⟩ ?_ ?_ ?_
    · rw [v6, ← hH3, vi_same, iZ_nat]
    · rw [D6.2.2.2 120 l (by omega), D5.2.2.2 120 l (by omega), E4 l hl, D4.2.2.2 122 l (by omega), ← hH3, vi_skip (by omega), vi_skip (by omega), vi_skip (by omega), vi_skip (by omega)]; exact LE.2.1 l hl
    · rw [D6.2.2.2 121 l (by omega), E5 l (by omega), D5.2.2.2 123 l (by omega), D4.2.2.2 123 l (by omega), ← hH3, vi_skip (by omega), vi_skip (by omega), vi_skip (by omega), vi_skip (by omega)]; exact LE.2.2 l hl
    · have q : ∀ l, vi H6 119 l = vi H2 119 l := fun l => by rw [D6.2.2.2 119 l (by omega), D5.2.2.2 119 l (by omega), D4.2.2.2 119 l (by omega), ← hH3, vi_skip (by omega), vi_skip (by omega), vi_skip (by omega), vi_skip (by omega)]
      rw [E6 _ (by omega), E6 _ (by omega), q, q]; exact M.fe.2 i hi
    · rw [v6, ← hH3]; exact (vi_skip (by omega)).trans ((vi_skip (by omega)).trans ((vi_skip (by omega)).trans vi_same))
    · rw [v6, ← hH3]; exact (vi_skip (by omega)).trans ((vi_skip (by omega)).trans vi_same)
    · rw [v6, ← hH3]; exact (vi_skip (by omega)).trans vi_same
