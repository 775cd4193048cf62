/-! the model reads a line -/
abbrev zPl (i k : Nat) : Prop := (i = 99 ∧ k = 26) ∨ i = 122 ∨ i = 123
abbrev zPn (i k : Nat) : Prop := zPe i k ∨ zPl i k
abbrev zPc (i k : Nat) : Prop := zPb i k ∨ zPl i k
theorem zPen {H H' : HS} (D : DX zPe H H') : DX zPn H H' := D.mono (fun i k z => Or.inl z)
theorem zPln {H H' : HS} (D : DX zPl H H') : DX zPn H H' := D.mono (fun i k z => Or.inr z)
theorem zPbc {H H' : HS} (D : DX zPb H H') : DX zPc H H' := D.mono (fun i k z => Or.inl z)
theorem zPnc {H H' : HS} (D : DX zPn H H') : DX zPc H H' := D.mono (fun i k z => by rcases z with z | z; exact Or.inl (by unfold zPe at z; unfold zPb; omega); exact Or.inr z)
theorem zMX.fr {H H' : HS} {T : Nat → Int} {n pos : Nat} {g : List Stp2} {dep : Int} (M : zMX H T n pos g dep) (D : DX zPl H H') : zMX H' T n pos g dep :=
  ⟨M.F.dx D (by unfold zPl; omega) (fun k => by unfold zPl; omega), M.hp, ⟨(D.2.2.2 _ _ (by unfold zPl; omega)).trans M.e29, (D.2.2.2 _ _ (by unfold zPl; omega)).trans M.e30, (D.2.2.2 _ _ (by unfold zPl; omega)).trans M.e31, fun z => (D.2.2.2 _ _ (by unfold zPl; omega)).trans (M.e32 z)⟩, M.fe.dx D (by unfold zPl; omega) (fun k => by unfold zPl; omega), (D.2.2.2 _ _ (by unfold zPl; omega)).trans M.e36⟩
/-- the model's lines -/
def zLE (H : HS) (p : List Lin) : Prop := vi H 99 26 = iZ (p.length : Int) ∧ (∀ l, l < p.length → vi H 122 l = nI (p.getD l (0, [])).1) ∧ ∀ l, l ≤ p.length → vi H 123 l = nI (stepsM (p.take l)).length
theorem zLE.dx {P : Nat → Nat → Prop} {H H' : HS} {p : List Lin} (E : zLE H p) (D : DX P H H') (h1 : ¬ P 99 26) (h2 : ∀ k, ¬ P 122 k) (h3 : ∀ k, ¬ P 123 k) : zLE H' p :=
  ⟨(D.2.2.2 _ _ h1).trans E.1, fun l hl => (D.2.2.2 _ _ (h2 _)).trans (E.2.1 l hl), fun l hl => (D.2.2.2 _ _ (h3 _)).trans (E.2.2 l hl)⟩
theorem stepsM_app {p : List Lin} {x : Lin} : stepsM (p ++ [x]) = stepsM p ++ x.2 := by
  unfold stepsM
  rw [List.flatMap_append]
  simp
theorem codesC_app {p : List Lin} {x : Lin} : codesC (p ++ [x]) = codesC p ++ lineC x := by
  unfold codesC
  rw [List.flatMap_append]
  simp
theorem steps_codes : ∀ p : List Lin, (stepsM p).length ≤ (codesC p).length
  | [] => Nat.le_refl _
  | x :: p => by
    have h1 := steps_codes p
    have h2 := zco_len x.2
    have e1 : stepsM (x :: p) = x.2 ++ stepsM p := by unfold stepsM; exact List.flatMap_cons
    have e2 : codesC (x :: p) = lineC x ++ codesC p := by unfold codesC; exact List.flatMap_cons
    have e3 : lineC x = zco x.2 ++ [nI (20000 + x.1)] := rfl
    rw [e1, e2, e3, List.length_append, List.length_append, List.length_append]
    omega
theorem zLE.put {H H' : HS} {p : List Lin} {k : Nat} {f : List Stp2} (E : zLE H p) (a1 : vi H' 99 26 = iZ ((p.length : Int) + 1)) (a2 : vi H' 122 p.length = nI k) (a3 : vi H' 123 (p.length + 1) = nI (stepsM p ++ f).length) (a4 : vi H' 123 p.length = nI (stepsM p).length) (b1 : ∀ l, l < p.length → vi H' 122 l = vi H 122 l) (b2 : ∀ l, l < p.length → vi H' 123 l = vi H 123 l) : zLE H' (p ++ [(k, f)]) := by
  have el : (p ++ [(k, f)]).length = p.length + 1 := by rw [List.length_append]; rfl
  refine ⟨by rw [el, a1]; rfl, fun l hl => ?_, fun l hl => ?_⟩
  · rw [el] at hl
    by_cases c : l = p.length
    · subst c
      rw [a2, List.getD_eq_getElem?_getD, List.getElem?_append_right (Nat.le_refl _), Nat.sub_self]
      rfl
    · rw [b1 l (by omega), E.2.1 l (by omega), List.getD_eq_getElem?_getD, List.getD_eq_getElem?_getD, List.getElem?_append_left (by omega)]
  · rw [el] at hl
    by_cases c : l = p.length + 1
    · subst c
      rw [a3, ← el, List.take_length, stepsM_app]
    · rw [List.take_append_of_le_length (by omega)]
      by_cases c2 : l = p.length
      · subst c2
        rw [a4, List.take_length]
      · rw [b2 l (by omega), E.2.2 l (by omega)]
/-- both readers stand before a line -/
def zLs (T : Nat → Int) (n : Nat) (s0 : St6) (p : List Lin) (H : HS) (pos : Nat) : Prop := ∃ dep vd cm, zMX H T n pos (stepsM p) dep ∧ zLE H p ∧ zCf T n s0 pos (0, vd, cm, [], codesC p, p.length) ∧ (codesC p).length ≤ pos ∧ p.length ≤ 16 ∧ ∀ l ∈ p, goodL l
set_option maxRecDepth 20000 in
set_option maxHeartbeats 4000000 in
theorem m_line {G : GC} {d mc ms : Nat} {H : HS} {K : Option Value → HS → Prop} {T : Nat → Int} {n : Nat} {s0 : St6} {p : List Lin} {pos : Nat} (X : zLs T n s0 p H pos) (h21 : ¬ tC T n pos = 21) (kb : ∀ H', DX zPc H H' → zBd T n s0 H' → K (some (.int (iZ 0))) H') (kg : ∀ H' pos' p', DX zPn H H' → pos < pos' → zLs T n s0 p' H' pos' → K (some (.int (iZ 1))) H') : Go G (d + 37) mc ms M_X12_aLine 0 [.ref 99] [] H K := by
  obtain ⟨dep, vd, cm, M, LE, C, hb, h16, gl⟩ := X
  have hp := M.hp
  have hn := M.hn
  have mx := mtk_x (tC_s (T := T) (n := n) (pos := pos))
  have hg := steps_codes p
  by_cases h3 : 0 ≤ tC T n pos ∧ tC T n pos ≤ 2
  · by_cases hL : p.length = 16
    · refine Go_aload_n (pc' := 1) dX12_aLine_0 rfl rfl rfl ?_
      refine Go_getIv (v := (iZ (mtk (tC T n pos)))) (pc' := 4) dX12_aLine_1 rfl kf_RX12_255 (by decide) (by decide) rfl (M.S.b 99 rfl rfl) (M.S.o 99 rfl rfl rfl) (M.e30) ?_
      refine Go_bipush (v := iZ 11) (pc' := 6) dX12_aLine_4 rfl (by decide) ?_
      refine Go_bipush (v := iZ 13) (pc' := 8) dX12_aLine_6 rfl (by decide) ?_
      refine Go_callS_i (pc' := 11) (As := [.int _, .int _, .int _]) (st := []) dX12_aLine_8 rfl ok_X12_isIn km_RX12_147 rfl (Nat.le_of_ble_eq_true rfl) rfl rfl rfl (Nat.le_of_ble_eq_true rfl) (Nat.lt_succ_self _) ?_
      refine s_isInY (by first | exact ⟨i_lo _, i_hi _⟩ | omega) (by first | exact ⟨i_lo _, i_hi _⟩ | omega) (by first | exact ⟨i_lo _, i_hi _⟩ | omega) ?_
      refine ⟨_, rfl, ?_⟩
      refine Go_if_neb (tgt := 20) (pc' := 14) dX12_aLine_11 (by decide) rfl (fun c11 => ?_) (fun c11 => ?_)
      · refine Go_aload_n (pc' := 21) dX12_aLine_20 rfl rfl rfl ?_
        refine Go_getIv (v := (iZ (p.length : Int))) (pc' := 24) dX12_aLine_21 rfl kf_RX12_317 (by decide) (by decide) rfl (M.S.b 99 rfl rfl) (M.S.o 99 rfl rfl rfl) (LE.1) ?_
        refine Go_bipush (v := iZ 16) (pc' := 26) dX12_aLine_24 rfl (by decide) ?_
        refine Go_icmp_neY (tgt := 35) (pc' := 29) dX12_aLine_26 (by decide) rfl (by first | exact ⟨i_lo _, i_hi _⟩ | omega) (by first | exact ⟨i_lo _, i_hi _⟩ | omega) (fun c26 => ?_) (fun c26 => ?_)
        · exfalso; omega
        · refine Go_aload_n (pc' := 30) dX12_aLine_29 rfl rfl rfl ?_
          refine Go_iconst (v := iZ 3) (pc' := 31) dX12_aLine_30 rfl (by decide) ?_
          refine Go_callV_i (pc' := 34) (As := [.int _]) (st := []) dX12_aLine_31 rfl ok_X12_bad km_RX12_276 (M.S.o 99 rfl rfl rfl) (M.S.b 99 rfl rfl) ⟨_, _, rfl⟩ rfl (Nat.le_of_ble_eq_true rfl) rfl rfl rfl (Nat.le_of_ble_eq_true rfl) (Nat.lt_succ_self _) ?_
          refine s_bad (k := 3) M.S M.e31 ?_
          refine ⟨_, rfl, ?_⟩
          refine Go_ireturn (ty := .boolean) dX12_aLine_34 rfl rfl ?_
          exact kb _ (zPbc zBdd) (C.bd (by omega) (by omega) (show (zlin _ _).1 = 3 by unfold zlin; rw [if_pos h3, if_pos (show 16 ≤ p.length by omega)]) (by decide))
      · exfalso; omega
    · have tl := tE_lt (T := T) hp (by omega)
      obtain ⟨k, hk, hkc⟩ : ∃ k : Nat, (1 ≤ k ∧ k ≤ 3) ∧ tC T n pos + 1 = (k : Int) := ⟨(tC T n pos + 1).toNat, by omega, by omega⟩
      have C1 := C.st hp hn (by omega) (show zst (tC T n pos) (tV T n pos) (0, vd, cm, [], codesC p, p.length) = (0, (1, tC T n pos + 1, cm, [], codesC p, p.length)) by show zlin _ _ = _; unfold zlin; rw [if_pos h3, if_neg (show ¬ 16 ≤ p.length by omega)])
      refine Go_aload_n (pc' := 1) dX12_aLine_0 rfl rfl rfl ?_
      refine Go_getIv (v := (iZ (mtk (tC T n pos)))) (pc' := 4) dX12_aLine_1 rfl kf_RX12_255 (by decide) (by decide) rfl (M.S.b 99 rfl rfl) (M.S.o 99 rfl rfl rfl) (M.e30) ?_
      refine Go_bipush (v := iZ 11) (pc' := 6) dX12_aLine_4 rfl (by decide) ?_
      refine Go_bipush (v := iZ 13) (pc' := 8) dX12_aLine_6 rfl (by decide) ?_
      refine Go_callS_i (pc' := 11) (As := [.int _, .int _, .int _]) (st := []) dX12_aLine_8 rfl ok_X12_isIn km_RX12_147 rfl (Nat.le_of_ble_eq_true rfl) rfl rfl rfl (Nat.le_of_ble_eq_true rfl) (Nat.lt_succ_self _) ?_
      refine s_isInY (by first | exact ⟨i_lo _, i_hi _⟩ | omega) (by first | exact ⟨i_lo _, i_hi _⟩ | omega) (by first | exact ⟨i_lo _, i_hi _⟩ | omega) ?_
      refine ⟨_, rfl, ?_⟩
      refine Go_if_neb (tgt := 20) (pc' := 14) dX12_aLine_11 (by decide) rfl (fun c11 => ?_) (fun c11 => ?_)
      · refine Go_aload_n (pc' := 21) dX12_aLine_20 rfl rfl rfl ?_
        refine Go_getIv (v := (iZ (p.length : Int))) (pc' := 24) dX12_aLine_21 rfl kf_RX12_317 (by decide) (by decide) rfl (M.S.b 99 rfl rfl) (M.S.o 99 rfl rfl rfl) (LE.1) ?_
        refine Go_bipush (v := iZ 16) (pc' := 26) dX12_aLine_24 rfl (by decide) ?_
        refine Go_icmp_neY (tgt := 35) (pc' := 29) dX12_aLine_26 (by decide) rfl (by first | exact ⟨i_lo _, i_hi _⟩ | omega) (by first | exact ⟨i_lo _, i_hi _⟩ | omega) (fun c26 => ?_) (fun c26 => ?_)
        · refine Go_aload_n (pc' := 36) dX12_aLine_35 rfl rfl rfl ?_
          refine Go_getRs (pc' := 39) dX12_aLine_36 rfl kf_RX12_76 (by decide) (by decide) rfl (M.S.b 99 rfl rfl) (M.S.o 99 rfl rfl rfl) (M.S.r 99 23 rfl rfl rfl) ?_
          refine Go_aload_n (pc' := 40) dX12_aLine_39 rfl rfl rfl ?_
          refine Go_getIv (v := (iZ (p.length : Int))) (pc' := 43) dX12_aLine_40 rfl kf_RX12_317 (by decide) (by decide) rfl (M.S.b 99 rfl rfl) (M.S.o 99 rfl rfl rfl) (LE.1) ?_
          refine Go_aload_n (pc' := 44) dX12_aLine_43 rfl rfl rfl ?_
          refine Go_getIv (v := (iZ (mtk (tC T n pos)))) (pc' := 47) dX12_aLine_44 rfl kf_RX12_255 (by decide) (by decide) rfl (M.S.b 99 rfl rfl) (M.S.o 99 rfl rfl rfl) (M.e30) ?_
          refine Go_bipush (v := iZ 10) (pc' := 49) dX12_aLine_47 rfl (by decide) ?_
          refine Go_isubZ (pc' := 50) dX12_aLine_49 rfl ?_
          refine Go_iastoreZ (n := 16) (k := p.length) (pc' := 51) dX12_aLine_50 rfl (M.S.b 122 rfl rfl) (M.S.k 122 rfl rfl rfl) rfl (by omega) (by decide) ?_
          refine Go_aload_n (pc' := 52) dX12_aLine_51 rfl rfl rfl ?_
          refine Go_getRs (pc' := 55) dX12_aLine_52 rfl kf_RX12_79 (by decide) (by decide) rfl (M.S.b 99 rfl rfl) (M.S.o 99 rfl rfl rfl) (M.S.r 99 24 rfl rfl rfl) ?_
          refine Go_aload_n (pc' := 56) dX12_aLine_55 rfl rfl rfl ?_
          refine Go_getIv (v := (iZ (p.length : Int))) (pc' := 59) dX12_aLine_56 rfl kf_RX12_317 (by decide) (by decide) rfl (M.S.b 99 rfl rfl) (M.S.o 99 rfl rfl rfl) ((vi_skip (Or.inl (by decide))).trans (LE.1)) ?_
          refine Go_aload_n (pc' := 60) dX12_aLine_59 rfl rfl rfl ?_
          refine Go_getIv (v := (iZ ((stepsM p).length : Int))) (pc' := 63) dX12_aLine_60 rfl kf_RX12_282 (by decide) (by decide) rfl (M.S.b 99 rfl rfl) (M.S.o 99 rfl rfl rfl) ((vi_skip (Or.inl (by decide))).trans (M.fe.1)) ?_
          refine Go_iastoreZ (n := 17) (k := p.length) (pc' := 64) dX12_aLine_63 rfl (M.S.b 123 rfl rfl) (M.S.k 123 rfl rfl rfl) rfl (by omega) (by decide) ?_
          refine Go_aload_n (pc' := 65) dX12_aLine_64 rfl rfl rfl ?_
          refine Go_iconst (v := iZ 0) (pc' := 66) dX12_aLine_65 rfl (by decide) ?_
          refine Go_putI (pc' := 69) dX12_aLine_66 rfl kf_RX12_285 (by decide) (by decide) rfl (M.S.b 99 rfl rfl) (M.S.o 99 rfl rfl rfl) (Or.inl rfl) rfl rfl ?_
          have DW : DX zPn H (wI (wI (wI H 122 p.length (iZ ((mtk (tC T n pos)) - 10))) 123 p.length (iZ ((stepsM p).length : Int))) 99 36 (iZ 0)) := (((DX.rf _ _).wI (by unfold zPn zPl; omega)).wI (by unfold zPn zPl; omega)).wI (by unfold zPn zPe; omega)
          have MW : zMX (wI (wI (wI H 122 p.length (iZ ((mtk (tC T n pos)) - 10))) 123 p.length (iZ ((stepsM p).length : Int))) 99 36 (iZ 0)) T n pos (stepsM p) 0 := (M.fr (((DX.rf _ _).wI (by unfold zPl; omega)).wI (by unfold zPl; omega))).dep
          generalize hHW : (wI (wI (wI H 122 p.length (iZ ((mtk (tC T n pos)) - 10))) 123 p.length (iZ ((stepsM p).length : Int))) 99 36 (iZ 0)) = HW at DW MW ⊢
          refine Go_aload_n (pc' := 70) dX12_aLine_69 rfl rfl rfl ?_
          refine Go_callV_v (pc' := 73) (As := []) (st := []) dX12_aLine_70 rfl ok_X12_next0 km_RX12_279 (MW.S.o 99 rfl rfl rfl) (MW.S.b 99 rfl rfl) ⟨_, _, rfl⟩ rfl (Nat.le_of_ble_eq_true rfl) rfl rfl rfl (Nat.le_of_ble_eq_true rfl) (Nat.lt_succ_self _) ?_
          refine s_nx MW (fun H1 D1 M1 => ?_)
          refine ⟨rfl, ?_⟩
          have hp1 := M1.hp
          refine Go_aload_n (pc' := 74) dX12_aLine_73 rfl rfl rfl ?_
          refine Go_iconst (v := iZ 3) (pc' := 75) dX12_aLine_74 rfl (by decide) ?_
          refine Go_callV_i (pc' := 78) (As := [.int _]) (st := []) dX12_aLine_75 rfl ok_X12_need km_RX12_311 (M1.S.o 99 rfl rfl rfl) (M1.S.b 99 rfl rfl) ⟨_, _, rfl⟩ rfl (Nat.le_of_ble_eq_true rfl) rfl rfl rfl (Nat.le_of_ble_eq_true rfl) (Nat.lt_succ_self _) ?_
          refine s_need (c := 3) (by omega) M1 (fun e3 => ?_) (fun e3 H2 D2 M2 => ?_)
          · refine ⟨_, rfl, ?_⟩
            refine Go_if_eqY (tgt := 88) (pc' := 81) dX12_aLine_78 (by decide) rfl (by first | exact ⟨i_lo _, i_hi _⟩ | omega) (fun c78 => ?_) (fun c78 => by exfalso; omega)
            refine Go_iconst (v := iZ 0) (pc' := 89) dX12_aLine_88 rfl (by decide) ?_
            refine Go_ireturn (ty := .boolean) dX12_aLine_89 rfl rfl ?_
            exact kb _ ((zPnc (DW.tr (zPen (zPm D1)))).tr (zPbc zBdd)) (C1.bd (by omega) (fun z => absurd (show (1 : Int) = 0 from z.2) (by decide)) (show (zwhen _ _).1 = 1 by unfold zwhen; rw [if_neg e3]) (by decide))
          · refine ⟨_, rfl, ?_⟩
            have hp2 := M2.hp
            have tl1 := tE_lt (T := T) hp1 (by omega)
            have C2 := C1.st hp1 hn (by omega) (show zst (tC T n (tE T n pos)) (tV T n (tE T n pos)) (1, tC T n pos + 1, cm, [], codesC p, p.length) = (0, (2, tC T n pos + 1, cm, [], codesC p, p.length)) by show zwhen _ _ = _; unfold zwhen; rw [if_pos e3])
            have X3 : zEn T n s0 (stepsM p) (codesC p) (tC T n pos + 1) p.length [] [] (zop []) 2 cm H2 (tE T n (tE T n pos)) := ⟨[], by rw [List.append_nil]; exact M2, by rw [show zco [] = [] from rfl, List.append_nil]; exact C2, by rw [show zco [] = [] from rfl, List.append_nil]; show _ + 0 ≤ _; omega, rfl⟩
            refine Go_if_eqY (tgt := 88) (pc' := 81) dX12_aLine_78 (by decide) rfl (by first | exact ⟨i_lo _, i_hi _⟩ | omega) (fun c78 => by exfalso; omega) (fun c78 => ?_)
            refine Go_aload_n (pc' := 82) dX12_aLine_81 rfl rfl rfl ?_
            refine Go_callV_i (pc' := 85) (As := []) (st := []) dX12_aLine_82 rfl ok_X12_any km_RX12_308 (M2.S.o 99 rfl rfl rfl) (M2.S.b 99 rfl rfl) ⟨_, _, rfl⟩ rfl (Nat.le_of_ble_eq_true rfl) rfl rfl rfl (Nat.le_of_ble_eq_true rfl) (Nat.lt_succ_self _) ?_
            refine m_any (m_one hg 8) (by omega) X3 (by decide) (by decide) (by decide) trivial (by decide) hg (fun H4 D4 B4 => ?_) (fun H4 p4 s4 c4 D4 l4 X4 w4 n0 n1 => ?_)
            · refine ⟨_, rfl, ?_⟩
              refine Go_if_neY (tgt := 90) (pc' := 88) dX12_aLine_85 (by decide) rfl (by first | exact ⟨i_lo _, i_hi _⟩ | omega) (fun c85 => by exfalso; omega) (fun c85 => ?_)
              refine Go_iconst (v := iZ 0) (pc' := 89) dX12_aLine_88 rfl (by decide) ?_
              refine Go_ireturn (ty := .boolean) dX12_aLine_89 rfl rfl ?_
              exact kb H4 ((zPnc (DW.tr (zPen ((zPm D1).tr (zPm D2))))).tr (zPbc D4)) B4
            · refine ⟨_, rfl, ?_⟩
              obtain ⟨f, W4, o4, M4, C4, r4, b4, y4⟩ := X4
              have hp4 := M4.hp
              have b4a := b4
              rw [List.length_append] at b4a
              have e26 : vi H4 99 26 = iZ (p.length : Int) := (((zPm D1).tr ((zPm D2).tr D4)).2.2.2 _ _ (by unfold zPe; omega)).trans (by rw [← hHW]; exact (vi_skip (by omega)).trans ((vi_skip (by omega)).trans ((vi_skip (by omega)).trans LE.1)))
              have D5 : DX zPl H4 (wI (wI H4 99 26 (iZ ((p.length : Int) + 1))) 123 (p.length + 1) (iZ ((stepsM p ++ f).length : Int))) := ((DX.rf _ _).wI (by unfold zPl; omega)).wI (by unfold zPl; omega)
              have M5 := M4.fr D5
              refine Go_if_neY (tgt := 90) (pc' := 88) dX12_aLine_85 (by decide) rfl (by first | exact ⟨i_lo _, i_hi _⟩ | omega) (fun c85 => ?_) (fun c85 => by exfalso; omega)
              refine Go_aload_n (pc' := 91) dX12_aLine_90 rfl rfl rfl ?_
              refine Go_dup (pc' := 92) dX12_aLine_91 rfl rfl ?_
              refine Go_getIv (v := (iZ (p.length : Int))) (pc' := 95) dX12_aLine_92 rfl kf_RX12_317 (by decide) (by decide) rfl (M4.S.b 99 rfl rfl) (M4.S.o 99 rfl rfl rfl) (e26) ?_
              refine Go_iconst (v := iZ 1) (pc' := 96) dX12_aLine_95 rfl (by decide) ?_
              refine Go_iaddZ (pc' := 97) dX12_aLine_96 rfl ?_
              refine Go_putI (pc' := 100) dX12_aLine_97 rfl kf_RX12_317 (by decide) (by decide) rfl (M4.S.b 99 rfl rfl) (M4.S.o 99 rfl rfl rfl) (Or.inl rfl) rfl rfl ?_
              refine Go_aload_n (pc' := 101) dX12_aLine_100 rfl rfl rfl ?_
              refine Go_getRs (pc' := 104) dX12_aLine_101 rfl kf_RX12_79 (by decide) (by decide) rfl (M4.S.b 99 rfl rfl) (M4.S.o 99 rfl rfl rfl) (M4.S.r 99 24 rfl rfl rfl) ?_
              refine Go_aload_n (pc' := 105) dX12_aLine_104 rfl rfl rfl ?_
              refine Go_getIv (v := (iZ ((p.length : Int) + 1))) (pc' := 108) dX12_aLine_105 rfl kf_RX12_317 (by decide) (by decide) rfl (M4.S.b 99 rfl rfl) (M4.S.o 99 rfl rfl rfl) (vi_same) ?_
              refine Go_aload_n (pc' := 109) dX12_aLine_108 rfl rfl rfl ?_
              refine Go_getIv (v := (iZ ((stepsM p ++ f).length : Int))) (pc' := 112) dX12_aLine_109 rfl kf_RX12_282 (by decide) (by decide) rfl (M4.S.b 99 rfl rfl) (M4.S.o 99 rfl rfl rfl) ((vi_skip (Or.inr (by decide))).trans (M4.fe.1)) ?_
              refine Go_iastoreZ (n := 17) (k := (p.length + 1)) (pc' := 113) dX12_aLine_112 rfl (M4.S.b 123 rfl rfl) (M4.S.k 123 rfl rfl rfl) (by omega) (by omega) (by decide) ?_
              generalize hH5 : (wI (wI H4 99 26 (iZ ((p.length : Int) + 1))) 123 (p.length + 1) (iZ ((stepsM p ++ f).length : Int))) = H5 at D5 M5 ⊢
              refine Go_aload_n (pc' := 114) dX12_aLine_113 rfl rfl rfl ?_
              refine Go_sipush (v := iZ 159) (pc' := 117) dX12_aLine_114 rfl (by decide) ?_
              refine Go_callV_i (pc' := 120) (As := [.int _]) (st := []) dX12_aLine_117 rfl ok_X12_need km_RX12_311 (M5.S.o 99 rfl rfl rfl) (M5.S.b 99 rfl rfl) ⟨_, _, rfl⟩ rfl (Nat.le_of_ble_eq_true rfl) rfl rfl rfl (Nat.le_of_ble_eq_true rfl) (Nat.lt_succ_self _) ?_
              refine s_need (c := 159) (by omega) M5 (fun e9 => ?_) (fun e9 H6 D6 M6 => ?_)
              · refine ⟨_, rfl, ?_⟩
                refine Go_ireturn (ty := .boolean) dX12_aLine_120 rfl rfl ?_
                have hz4 : zbr W4 = 0 := by
                  have t1 := zrel_b (r := 1) (by omega) W4 o4
                  rw [r4, zrel_b (by omega)] at t1
                  exact t1.symm
                exact kb _ ((zPnc ((DW.tr (zPen ((zPm D1).tr ((zPm D2).tr D4)))).tr (zPln D5))).tr (zPbc zBdd)) (C4.bd (by omega) (fun z => by have h0 : s4 = 0 := z.2; rcases w4 with z2 | z2 <;> omega) (z_stop w4 n1 n0 (by omega) (by omega)) (by decide))
              · refine ⟨_, rfl, ?_⟩
                refine Go_ireturn (ty := .boolean) dX12_aLine_120 rfl rfl ?_
                have tl4 := tE_lt (T := T) hp4 (by omega)
                have C5 := C4.st hp4 hn (by omega) (z_line w4 e9 r4 (by omega))
                have eC : codesC p ++ zco f ++ [iZ (20000 + (tC T n pos + 1))] = codesC (p ++ [(k, f)]) := by
                  rw [codesC_app, List.append_assoc]
                  show codesC p ++ (zco f ++ _) = codesC p ++ (zco f ++ [nI (20000 + k)])
                  rw [show iZ (20000 + (tC T n pos + 1)) = nI (20000 + k) from by rw [← iZ_nat]; exact congrArg iZ (by omega)]
                rw [eC] at C5
                rw [← stepsM_app (x := (k, f))] at M6
                have el : (p ++ [(k, f)]).length = p.length + 1 := by rw [List.length_append]; rfl
                have D46 : DX Pm H5 H6 := D6
                have v6 : ∀ i l, ¬ Pm i l → vi H6 i l = vi H5 i l := fun i l z => D6.2.2.2 i l z
                have v4 : ∀ i l, ¬ zPe i l → vi H4 i l = vi HW i l := fun i l z => ((zPm D1).tr ((zPm D2).tr D4)).2.2.2 i l z
                have E6 : zLE H6 (p ++ [(k, f)]) := by
                  refine LE.put ?_ ?_ ?_ ?_ (fun l hl => ?_) (fun l hl => ?_)
                  · rw [v6 _ _ (by unfold Pm; omega), ← hH5, vi_skip (by omega), vi_same]
                  · rw [v6 _ _ (by unfold Pm; omega), ← hH5, vi_skip (by omega), vi_skip (by omega), v4 _ _ (by unfold zPe; omega), ← hHW, vi_skip (by omega), vi_skip (by omega), vi_same, ← iZ_nat]; exact congrArg iZ (by omega)
                  · rw [v6 _ _ (by unfold Pm; omega), ← hH5, vi_same, iZ_nat]
                  · rw [v6 _ _ (by unfold Pm; omega), ← hH5, vi_skip (by omega), vi_skip (by omega), v4 _ _ (by unfold zPe; omega), ← hHW, vi_skip (by omega), vi_same, iZ_nat]
                  · rw [v6 _ _ (by unfold Pm; omega), ← hH5, vi_skip (by omega), vi_skip (by omega), v4 _ _ (by unfold zPe; omega), ← hHW, vi_skip (by omega), vi_skip (by omega), vi_skip (by omega)]
                  · rw [v6 _ _ (by unfold Pm; omega), ← hH5, vi_skip (by omega), vi_skip (by omega), v4 _ _ (by unfold zPe; omega), ← hHW, vi_skip (by omega), vi_skip (by omega), vi_skip (by omega)]
                refine kg H6 _ (p ++ [(k, f)]) (((DW.tr (zPen ((zPm D1).tr ((zPm D2).tr D4)))).tr (zPln D5)).tr (zPen (zPm D6))) (by omega) ⟨0, _, _, M6, E6, by rw [el]; exact C5, ?_, by omega, ?_⟩
                · rw [codesC_app, List.length_append]
                  show (codesC p).length + (zco f ++ [nI (20000 + k)]).length ≤ _
                  rw [List.length_append]
                  show (codesC p).length + ((zco f).length + 1) ≤ _
                  rw [List.length_append] at b4
                  have b5 : (codesC p).length + (zco f).length + 0 ≤ p4 := b4
                  omega
                · intro l hl
                  rcases List.mem_append.1 hl with z | z
                  · exact gl l z
                  · rw [List.mem_singleton.1 z]
                    exact ⟨by show 1 ≤ k; omega, by show k ≤ 3; omega, y4⟩
        · exfalso; omega
      · exfalso; omega
  · refine Go_aload_n (pc' := 1) dX12_aLine_0 rfl rfl rfl ?_
    refine Go_getIv (v := (iZ (mtk (tC T n pos)))) (pc' := 4) dX12_aLine_1 rfl kf_RX12_255 (by decide) (by decide) rfl (M.S.b 99 rfl rfl) (M.S.o 99 rfl rfl rfl) (M.e30) ?_
    refine Go_bipush (v := iZ 11) (pc' := 6) dX12_aLine_4 rfl (by decide) ?_
    refine Go_bipush (v := iZ 13) (pc' := 8) dX12_aLine_6 rfl (by decide) ?_
    refine Go_callS_i (pc' := 11) (As := [.int _, .int _, .int _]) (st := []) dX12_aLine_8 rfl ok_X12_isIn km_RX12_147 rfl (Nat.le_of_ble_eq_true rfl) rfl rfl rfl (Nat.le_of_ble_eq_true rfl) (Nat.lt_succ_self _) ?_
    refine s_isInY (by first | exact ⟨i_lo _, i_hi _⟩ | omega) (by first | exact ⟨i_lo _, i_hi _⟩ | omega) (by first | exact ⟨i_lo _, i_hi _⟩ | omega) ?_
    refine ⟨_, rfl, ?_⟩
    refine Go_if_neb (tgt := 20) (pc' := 14) dX12_aLine_11 (by decide) rfl (fun c11 => ?_) (fun c11 => ?_)
    · exfalso; omega
    · refine Go_aload_n (pc' := 15) dX12_aLine_14 rfl rfl rfl ?_
      refine Go_iconst (v := iZ 1) (pc' := 16) dX12_aLine_15 rfl (by decide) ?_
      refine Go_callV_i (pc' := 19) (As := [.int _]) (st := []) dX12_aLine_16 rfl ok_X12_bad km_RX12_276 (M.S.o 99 rfl rfl rfl) (M.S.b 99 rfl rfl) ⟨_, _, rfl⟩ rfl (Nat.le_of_ble_eq_true rfl) rfl rfl rfl (Nat.le_of_ble_eq_true rfl) (Nat.lt_succ_self _) ?_
      refine s_bad (k := 1) M.S M.e31 ?_
      refine ⟨_, rfl, ?_⟩
      refine Go_ireturn (ty := .boolean) dX12_aLine_19 rfl rfl ?_
      exact kb _ (zPbc zBdd) (C.bd (by omega) (fun z => h21 z.1) (show (zlin _ _).1 = 1 by unfold zlin; rw [if_neg h3]) (by decide))
