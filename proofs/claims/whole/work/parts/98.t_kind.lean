/-! pair: kind -/
abbrev scrK (i k : Nat) : Prop := i = 68 ∨ i = 70 ∨ i = 115 ∨ i = 117 ∨ i = 76 ∨ i = 79 ∨ ((i = 74 ∨ i = 77) ∧ k = 4)
def DifK (h h' : HS) : Prop := hN h' = hN h ∧ (∀ i, ki h' i = ki h i) ∧ (∀ i k, ri h' i k = ri h i k) ∧ ∀ i k, ¬ scrK i k → vi h' i k = vi h i k
theorem DifK.rf (h : HS) : DifK h h := ⟨rfl, fun _ => rfl, fun _ _ => rfl, fun _ _ _ => rfl⟩
theorem DifK.tr {h h1 h2 : HS} (a : DifK h h1) (b : DifK h1 h2) : DifK h h2 := ⟨b.1.trans a.1, fun i => (b.2.1 i).trans (a.2.1 i), fun i k => (b.2.2.1 i k).trans (a.2.2.1 i k), fun i k e => (b.2.2.2 i k e).trans (a.2.2.2 i k e)⟩
theorem DifK.wI {h h' : HS} {i k : Nat} {v : Int32} (a : DifK h h') (e : scrK i k) : DifK h (wI h' i k v) := by
  refine ⟨a.1, a.2.1, a.2.2.1, fun x y hx => ?_⟩
  rw [vi_wI, if_neg (fun z => by rw [z.1, z.2] at hx; exact hx e)]
  exact a.2.2.2 x y hx
theorem DifK.setR {h h' : HS} {i : Nat} {f : Nat → Int32} (a : DifK h h') (e : ∀ k, scrK i k) : DifK h (setR h' i f) := by
  refine ⟨a.1, a.2.1, a.2.2.1, fun x y hx => ?_⟩
  rw [viS (fun z => by rw [z] at hx; exact hx (e _))]
  exact a.2.2.2 x y hx
theorem DifK.so {h h' : HS} (D : DifK h h') {P : Nat → Nat → Bool} (hP : ∀ i k, P i k = true → ¬ scrK i k) : SameOn P h h' := fun i k e => ⟨D.2.2.2 i k (hP i k e), D.2.2.1 i k⟩
theorem DifK.shp {h h' : HS} (D : DifK h h') (S : Shp h) : Shp h' := ⟨by rw [D.1]; exact S.1, fun i a b => by rw [D.2.1]; exact S.2.1 i a b, fun i a b k r e => by rw [D.2.2.1]; exact S.2.2 i a b k r e⟩
def fpG3 (i k : Nat) : Bool := (i == 71 && (k == 15 || k == 16)) || ((i == 74 || i == 77) && (k == 1 || k == 2)) || i == 75 || i == 78 || (i == 99 && k == 25) || i == 118 || i == 120 || i == 121
theorem RG.fr3 {h h' : HS} (R : RG h) (s : SameOn fpG3 h h') : RG h' := by
  obtain ⟨q, q', p, hq, h1, h2, h3, ⟨c1, c2, c3⟩, m1, m2, m3, m4⟩ := R
  have e1 : ∀ i, vi h' 118 i = vi h 118 i := fun i => (s 118 i rfl).1
  have e2 : ∀ i, vi h' 120 i = vi h 120 i := fun i => (s 120 i rfl).1
  have e3 : ∀ i, vi h' 121 i = vi h 121 i := fun i => (s 121 i rfl).1
  refine ⟨q, q', p, hq, by rw [(s 71 15 rfl).2]; exact h1, by rw [(s 71 16 rfl).2]; exact h2, h3, ?_, by rw [(s 99 25 rfl).1]; exact m1, fun l hl => by rw [e2]; exact m2 l hl, fun l hl => by rw [e3]; exact m3 l hl, fun i hi => by rw [e1, e1]; exact m4 i hi⟩
  rcases hq with ⟨rfl, -⟩ | ⟨rfl, -⟩
  · exact ⟨by rw [(s 74 1 rfl).1]; exact c1, by rw [(s 74 2 rfl).1]; exact c2, fun i hi => by rw [(s 75 i rfl).1]; exact c3 i hi⟩
  · exact ⟨by rw [(s 77 1 rfl).1]; exact c1, by rw [(s 77 2 rfl).1]; exact c2, fun i hi => by rw [(s 78 i rfl).1]; exact c3 i hi⟩
theorem fk_D (i k : Nat) (h : fpD i k = true) : ¬ scrK i k := by unfold fpD at h; simp at h; omega
theorem fk_W (i k : Nat) (h : fpW i k = true) : ¬ scrK i k := by unfold fpW at h; simp at h; omega
theorem fk_P (i k : Nat) (h : fpP i k = true) : ¬ scrK i k := by unfold fpP at h; simp at h; omega
theorem fk_E (i k : Nat) (h : fpE i k = true) : ¬ scrK i k := by unfold fpE at h; simp at h; omega
theorem fk_F (i k : Nat) (h : fpF i k = true) : ¬ scrK i k := by unfold fpF at h; simp at h; omega
theorem fk_T (i k : Nat) (h : fpT i k = true) : ¬ scrK i k := by unfold fpT at h; simp at h; omega
theorem fk_G (i k : Nat) (h : fpG3 i k = true) : ¬ scrK i k := by unfold fpG3 at h; simp at h; omega
theorem fk_Q (i k : Nat) (h : fpQ i k = true) : ¬ scrK i k := by unfold fpQ at h; simp at h; omega
theorem fk_C (i k : Nat) (h : fpC i k = true) : ¬ scrK i k := by unfold fpC at h; simp at h; omega
theorem Inv.scrK {h h' : HS} (I : Inv h) (D : DifK h h') : Inv h' :=
  ⟨D.shp I.S, I.D.fr (D.so fk_D), I.W.fr (D.so fk_W), I.P.fr (D.so fk_P), I.E.fr (D.so fk_E), I.F.fr (D.so fk_F), I.T.fr (D.so fk_T), I.G.fr3 (D.so fk_G), I.C.fr (D.so fk_C) (by rw [D.1]; exact Nat.le_refl _) (fun i _ => D.2.1 i) (fun i h1 h2 h3 k => ⟨D.2.2.2 i k (by omega), D.2.2.1 i k⟩), I.Q.fr (D.so fk_Q) (by rw [D.1]; exact Nat.le_refl _) (fun i _ => D.2.1 i) (fun i h1 h2 h3 k => ⟨D.2.2.2 i k (by omega), D.2.2.1 i k⟩)⟩
theorem CelS.difK {h h' : HS} {o : Nat} (C : CelS h o) (D : DifK h h') : CelS h' o := by
  unfold CelS at C ⊢
  rw [D.1, D.2.1, D.2.1, D.2.1, D.2.1, D.2.2.1, D.2.2.1, D.2.2.1]; exact C
theorem Smp.difK {h h' : HS} {j o n : Nat} (M : Smp h j o n) (D : DifK h h') : Smp h' j o n := by
  have b := M.2.1.1
  obtain ⟨a1, a2, a3, a4, a5, a6, a7, a8⟩ := M
  refine ⟨a1, a2.difK D, a3, ?_, ?_, ?_, ?_, fun i hi => ?_⟩
  · rw [D.2.2.2 o 8 (by omega)]; exact a4
  · rw [D.2.2.2 107 j (by omega)]; exact a5
  · rw [D.2.2.2 o 4 (by omega), D.2.2.2 103 j (by omega)]; exact a6
  · rw [D.2.2.2 o 4 (by omega)]; exact a7
  · rw [D.2.2.2 106 _ (by omega), D.2.2.2 (o + 1) i (by omega)]; exact a8 i hi
theorem sap_difK {h h' : HS} {o : Nat} (ho : 142 ≤ o) (D : DifK h h') : sap h' o = sap h o := by
  funext X; unfold sap; rw [D.2.2.2 _ _ (by omega)]
theorem lmt_difK {h h' : HS} {o : Nat} (ho : 142 ≤ o) (D : DifK h h') : lmt h' o = lmt h o := by
  unfold lmt; rw [D.2.2.2 _ _ (by omega)]

theorem DifK.hT {h h' : HS} {q : Nat} {u : Nat → Int32} {n : Int} (a : DifK h h') (hq : q = 74 ∨ q = 77) : DifK h (hT h' (q + 2) q 4 u n) := (a.setR (fun k => by omega)).wI (by omega)
theorem EncM.dif {h h' : HS} {p : List Lin} (E : EncM h p) (D : DifK h h') : EncM h' p := by
  obtain ⟨m1, m2, m3, m4⟩ := E
  refine ⟨by rw [D.2.2.2 99 25 (by omega)]; exact m1, fun l hl => by rw [D.2.2.2 120 l (by omega)]; exact m2 l hl, fun l hl => by rw [D.2.2.2 121 l (by omega)]; exact m3 l hl, fun i hi => by rw [D.2.2.2 118 _ (by omega), D.2.2.2 118 _ (by omega)]; exact m4 i hi⟩
def Ff (E D Ln : Int) (t : Int × Int × Int × Int) (k : Nat) : Int32 := match k with
  | 1 => iZ E
  | 2 => iZ D
  | 3 => iZ t.1
  | 4 => iZ Ln
  | 5 => iZ t.2.2.1
  | 6 => iZ t.2.1
  | _ => iZ t.2.2.2
theorem k17 {k : Nat} (h1 : 1 ≤ k) (h2 : k ≤ 7) : k = 1 ∨ k = 2 ∨ k = 3 ∨ k = 4 ∨ k = 5 ∨ k = 6 ∨ k = 7 := by omega

set_option maxRecDepth 20000 in
set_option maxHeartbeats 1000000 in
theorem ki_M {G : GC} {d mc ms : Nat} {h : HS} {K : Option Value → HS → Prop} {j o n : Nat} {nc : Nat} {a b E D : Int} {p : List Lin} (I : Inv h) (M : Smp h j o n) (hj : j < nc) (hnc : nc ≤ 6) (ec0 : vi h 99 0 = iZ (nc : Int)) (ha : -2147483648 ≤ a ∧ a < 2147483648) (hb : -2147483648 ≤ b ∧ b < 2147483648) (hE : 0 ≤ E ∧ E ≤ 23) (hD : 0 ≤ D ∧ D ≤ 6) (w : wh h o n a b) (GP : goodP p) (EM : EncM h p) (hk : ∀ h2, Inv h2 → K (some (.int (iZ (kindP (Ff E D (b - a + 1) (ME h o a b)) p)))) h2) : Go G (d + 3) mc ms M_X12_kind 0 [.ref 99, .int (iZ (j : Int)), .int (iZ a), .int (iZ b), .int (iZ E), .int (iZ D), un] [] h K := by
  have S := I.S
  refine Go_aload_n (pc' := 1) dX12_kind_0 rfl rfl rfl ?_
  refine Go_iload_n (pc' := 2) dX12_kind_1 rfl rfl rfl ?_
  refine Go_iload_n (pc' := 3) dX12_kind_2 rfl rfl rfl ?_
  refine Go_iload_n (pc' := 4) dX12_kind_3 rfl rfl rfl ?_
  refine Go_callV_i (pc' := 7) (As := [.int _, .int _, .int _]) (st := []) dX12_kind_4 rfl ok_X12_isBurst km_RX12_196 (S.o 99 rfl rfl rfl) (S.b 99 rfl rfl) ⟨_, _, rfl⟩ rfl (Nat.le_of_ble_eq_true rfl) rfl rfl rfl (Nat.le_of_ble_eq_true rfl) (Nat.lt_succ_self _) ?_
  refine s_ib S M hj hnc ec0 (by omega) (by omega) ?_
  refine ⟨_, rfl, ?_⟩
  refine Go_if_eqb (tgt := 32) (pc' := 10) dX12_kind_7 (by decide) rfl (fun c7 => by exact absurd w c7) (fun c7 => ?_)
  refine Go_iload (pc' := 12) dX12_kind_10 rfl rfl ?_
  refine Go_iconst (v := iZ 0) (pc' := 13) dX12_kind_12 rfl (by decide) ?_
  refine Go_bipush (v := iZ 23) (pc' := 15) dX12_kind_13 rfl (by decide) ?_
  refine Go_callS_i (pc' := 18) (As := [.int _, .int _, .int _]) (st := []) dX12_kind_15 rfl ok_X12_isIn km_RX12_147 rfl (Nat.le_of_ble_eq_true rfl) rfl rfl rfl (Nat.le_of_ble_eq_true rfl) (Nat.lt_succ_self _) ?_
  refine s_isInY (by first | exact ⟨i_lo _, i_hi _⟩ | omega) (by first | exact ⟨i_lo _, i_hi _⟩ | omega) (by first | exact ⟨i_lo _, i_hi _⟩ | omega) ?_
  refine ⟨_, rfl, ?_⟩
  refine Go_if_eqb (tgt := 32) (pc' := 21) dX12_kind_18 (by decide) rfl (fun c18 => by exfalso; omega) (fun c18 => ?_)
  refine Go_iload (pc' := 23) dX12_kind_21 rfl rfl ?_
  refine Go_iconst (v := iZ 0) (pc' := 24) dX12_kind_23 rfl (by decide) ?_
  refine Go_bipush (v := iZ 6) (pc' := 26) dX12_kind_24 rfl (by decide) ?_
  refine Go_callS_i (pc' := 29) (As := [.int _, .int _, .int _]) (st := []) dX12_kind_26 rfl ok_X12_isIn km_RX12_147 rfl (Nat.le_of_ble_eq_true rfl) rfl rfl rfl (Nat.le_of_ble_eq_true rfl) (Nat.lt_succ_self _) ?_
  refine s_isInY (by first | exact ⟨i_lo _, i_hi _⟩ | omega) (by first | exact ⟨i_lo _, i_hi _⟩ | omega) (by first | exact ⟨i_lo _, i_hi _⟩ | omega) ?_
  refine ⟨_, rfl, ?_⟩
  refine Go_if_neb (tgt := 34) (pc' := 32) dX12_kind_29 (by decide) rfl (fun c29 => ?_) (fun c29 => by exfalso; omega)
  refine Go_aload_n (pc' := 35) dX12_kind_34 rfl rfl rfl ?_
  refine Go_iload_n (pc' := 36) dX12_kind_35 rfl rfl rfl ?_
  refine Go_iload_n (pc' := 37) dX12_kind_36 rfl rfl rfl ?_
  refine Go_iload_n (pc' := 38) dX12_kind_37 rfl rfl rfl ?_
  refine Go_callV_v (pc' := 41) (As := [.int _, .int _, .int _]) (st := []) dX12_kind_38 rfl ok_X12_gathers km_RX12_199 (S.o 99 rfl rfl rfl) (S.b 99 rfl rfl) ⟨_, _, rfl⟩ rfl (Nat.le_of_ble_eq_true rfl) rfl rfl rfl (Nat.le_of_ble_eq_true rfl) (Nat.lt_succ_self _) ?_
  refine s_ga S M w (fun u hU => ?_)
  refine ⟨rfl, ?_⟩
  obtain ⟨U1, U2, U3, U4, U5⟩ := hU
  refine Go_aload_n (pc' := 42) dX12_kind_41 rfl rfl rfl ?_
  refine Go_getRs (pc' := 45) dX12_kind_42 rfl kf_RX12_55 (by decide) (by decide) rfl (S.b 99 rfl rfl) (S.o 99 rfl rfl rfl) (S.r 99 16 rfl rfl rfl) ?_
  refine Go_iconst (v := iZ 1) (pc' := 46) dX12_kind_45 rfl (by decide) ?_
  refine Go_iload (pc' := 48) dX12_kind_46 rfl rfl ?_
  refine Go_iastoreZ (n := 8) (k := 1) (pc' := 49) dX12_kind_48 rfl (S.b 115 rfl rfl) (S.k 115 rfl rfl rfl) rfl (by decide) (by decide) ?_
  refine Go_aload_n (pc' := 50) dX12_kind_49 rfl rfl rfl ?_
  refine Go_getRs (pc' := 53) dX12_kind_50 rfl kf_RX12_55 (by decide) (by decide) rfl (S.b 99 rfl rfl) (S.o 99 rfl rfl rfl) (S.r 99 16 rfl rfl rfl) ?_
  refine Go_iconst (v := iZ 2) (pc' := 54) dX12_kind_53 rfl (by decide) ?_
  refine Go_iload (pc' := 56) dX12_kind_54 rfl rfl ?_
  refine Go_iastoreZ (n := 8) (k := 2) (pc' := 57) dX12_kind_56 rfl (S.b 115 rfl rfl) (S.k 115 rfl rfl rfl) rfl (by decide) (by decide) ?_
  refine Go_iconst (v := iZ 0) (pc' := 58) dX12_kind_57 rfl (by decide) ?_
  refine Go_istore (pc' := 60) (lv' := [.ref _, .int _, .int _, .int _, .int _, .int _, .int _]) dX12_kind_58 rfl (Nat.le_of_ble_eq_true rfl) rfl rfl ?_
  rw [setR_wI, setR_wI]
  have e : setR h 115 (upd (upd u 1 (iZ E)) 2 (iZ D)) = setR (setR h 115 (upd (upd u 1 (iZ E)) 2 (iZ D))) 117 (vi (setR h 115 (upd (upd u 1 (iZ E)) 2 (iZ D))) 117) := (setR_self _ 117).symm
  rw [e]
  refine km_loop (h := setR h 115 (upd (upd u 1 (iZ E)) 2 (iZ D))) (F := Ff E D (b - a + 1) (ME h o a b)) (((DifK.rf h).setR (fun k => by omega)).shp S) (fun k k1 k2 => ?_) GP (EM.dif ((DifK.rf h).setR (fun k => by omega))) p.length 0 _ (Nat.zero_add _) (fun u1 => hk _ (I.scrK (((DifK.rf h).setR (fun k => by omega)).setR (fun k => by omega))))
  rw [vi_setR]
  rcases k17 k1 k2 with rfl | rfl | rfl | rfl | rfl | rfl | rfl
  · exact rfl
  · exact rfl
  · exact U1
  · exact U2
  · exact U3
  · exact U4
  · exact U5
set_option maxRecDepth 20000 in
set_option maxHeartbeats 4000000 in
theorem pair13 {G : GC} (a b c e f : Int32) : PairI G M_X11_kind M_X12_kind [.int a, .int b, .int c, .int e, .int f] := by
  intro h I
  obtain ⟨Az, hva, rfl⟩ := i_eta a
  obtain ⟨Bz, hvb, rfl⟩ := i_eta b
  obtain ⟨Cz, hvc, rfl⟩ := i_eta c
  obtain ⟨Ez, hve, rfl⟩ := i_eta e
  obtain ⟨Fz, hvf, rfl⟩ := i_eta f
  obtain ⟨nc, hnc, ec2⟩ := of_rgZ (b := 6) I.C.1.2
  have ec0 : vi h 99 0 = iZ (nc : Int) := I.C.1.1.trans ec2
  have S := I.S
  by_cases hcc : 0 ≤ Az ∧ Az < nc
  · obtain ⟨j, rfl⟩ : ∃ j : Nat, Az = (j : Int) := ⟨Az.toNat, by omega⟩
    obtain ⟨o, ho, CS, CV⟩ := cel_ex I hnc ec2 (c := j) (by omega)
    obtain ⟨n, M⟩ := smp_of (by omega) CS CV
    have hn := M.n
    have hq0 := CS.1
    by_cases w : wh h o n Bz Cz
    · by_cases hg : (0 ≤ Ez ∧ Ez ≤ 23) ∧ (0 ≤ Fz ∧ Fz ≤ 6)
      · obtain ⟨q, q', p, hqq, hr, hr2, GP, EC, EM⟩ := I.G
        have hq : q = 74 ∨ q = 77 := by omega
        have QP := qpr_of S hq
        have hL := GP.2.1
        have DB : DifK h (wI (wI (h70 h Bz Cz (ME h o Bz Cz)) 70 0 (iZ Ez)) 70 1 (iZ Fz)) := (((((((DifK.rf h).wI (by omega)).wI (by omega)).wI (by omega)).wI (by omega)).wI (by omega)).wI (by omega)).wI (by omega)
        have hFF : ∀ k, 1 ≤ k → k ≤ 7 → vi (wI (wI (h70 h Bz Cz (ME h o Bz Cz)) 70 0 (iZ Ez)) 70 1 (iZ Fz)) 70 (k - 1) = (Ff Ez Fz (Cz - Bz + 1) (ME h o Bz Cz)) k := by
          intro k k1 k2
          rcases k17 k1 k2 with rfl | rfl | rfl | rfl | rfl | rfl | rfl
          · exact (vi_skip (by omega)).trans (vi_same)
          · exact vi_same
          · exact (vi_skip (by omega)).trans ((vi_skip (by omega)).trans ((vi_skip (by omega)).trans ((vi_skip (by omega)).trans ((vi_skip (by omega)).trans ((vi_skip (by omega)).trans (vi_same))))))
          · exact (vi_skip (by omega)).trans ((vi_skip (by omega)).trans ((vi_skip (by omega)).trans ((vi_skip (by omega)).trans ((vi_skip (by omega)).trans (vi_same)))))
          · exact (vi_skip (by omega)).trans ((vi_skip (by omega)).trans ((vi_skip (by omega)).trans ((vi_skip (by omega)).trans (vi_same))))
          · exact (vi_skip (by omega)).trans ((vi_skip (by omega)).trans ((vi_skip (by omega)).trans (vi_same)))
          · exact (vi_skip (by omega)).trans ((vi_skip (by omega)).trans (vi_same))
        refine ⟨fun r h1 => r = iZ (kindP (Ff Ez Fz (Cz - Bz + 1) (ME h o Bz Cz)) p) ∧ ∃ u n, h1 = hT (wI (wI (h70 h Bz Cz (ME h o Bz Cz)) 70 0 (iZ Ez)) 70 1 (iZ Fz)) (q + 2) q 4 u n, fun K k => ?_, ?_⟩
        · refine Go.more (d := 60) (mc := 0) (ms := 0) ?_ (by omega) (by omega) (by omega)
          show Go G 60 0 0 M_X11_kind 0 [.ref 64, .int (iZ (j : Int)), .int (iZ Bz), .int (iZ Cz), .int (iZ Ez), .int (iZ Fz), un] [] h K
          refine Go_aload_n (pc' := 1) dX11_kind_0 rfl rfl rfl ?_
          refine Go_iload_n (pc' := 2) dX11_kind_1 rfl rfl rfl ?_
          refine Go_callV_r (pc' := 5) (As := [.int _]) (st := []) dX11_kind_2 rfl ok_X11_cellarOf km_RX11_90 (I.S.o 64 rfl rfl rfl) (I.S.b 64 rfl rfl) ⟨_, _, rfl⟩ rfl (Nat.le_of_ble_eq_true rfl) rfl rfl rfl (Nat.le_of_ble_eq_true rfl) (Nat.lt_succ_self _) ?_
          refine Go_iload_n (pc' := 1) dX11_cellarOf_0 rfl rfl rfl ?_
          refine Go_iconst (v := iZ 0) (pc' := 2) dX11_cellarOf_1 rfl (by decide) ?_
          refine Go_aload_n (pc' := 3) dX11_cellarOf_2 rfl rfl rfl ?_
          refine Go_getIv (v := (iZ (nc : Int))) (pc' := 6) dX11_cellarOf_3 rfl kf_RX11_84 (by decide) (by decide) rfl (I.S.b 64 rfl rfl) (I.S.o 64 rfl rfl rfl) (ec2) ?_
          refine Go_iconst (v := iZ 1) (pc' := 7) dX11_cellarOf_6 rfl (by decide) ?_
          refine Go_isubZ (pc' := 8) dX11_cellarOf_7 rfl ?_
          refine Go_callS_i (pc' := 11) (As := [.int _, .int _, .int _]) (st := []) dX11_cellarOf_8 rfl ok_X11_within km_RX11_94 rfl (Nat.le_of_ble_eq_true rfl) rfl rfl rfl (Nat.le_of_ble_eq_true rfl) (Nat.lt_succ_self _) ?_
          refine s_withinY (by first | exact ⟨i_lo _, i_hi _⟩ | omega) (by first | exact ⟨i_lo _, i_hi _⟩ | omega) (by first | exact ⟨i_lo _, i_hi _⟩ | omega) ?_
          refine ⟨_, rfl, ?_⟩
          refine Go_if_eqb (tgt := 32) (pc' := 14) dX11_cellarOf_11 (by decide) rfl (fun q11 => by exfalso; omega) (fun q11 => ?_)
          refine Go_iload_n (pc' := 15) dX11_cellarOf_14 rfl rfl rfl ?_
          refine Go_aload_n (pc' := 16) dX11_cellarOf_15 rfl rfl rfl ?_
          refine Go_getRs (pc' := 19) dX11_cellarOf_16 rfl kf_RX11_18 (by decide) (by decide) rfl (I.S.b 64 rfl rfl) (I.S.o 64 rfl rfl rfl) (I.S.r 64 1 rfl rfl rfl) ?_
          refine Go_alenZ (n := 6) (pc' := 20) dX11_cellarOf_19 rfl (I.S.b 67 rfl rfl) (I.S.k 67 rfl rfl rfl) (Or.inr (Or.inr ⟨_, rfl⟩)) ?_
          refine Go_icmp_geY (tgt := 32) (pc' := 23) dX11_cellarOf_20 (by decide) rfl (by first | exact ⟨i_lo _, i_hi _⟩ | omega) (by first | exact ⟨i_lo _, i_hi _⟩ | omega) (fun q20 => by exfalso; omega) (fun q20 => ?_)
          refine Go_aload_n (pc' := 24) dX11_cellarOf_23 rfl rfl rfl ?_
          refine Go_getRs (pc' := 27) dX11_cellarOf_24 rfl kf_RX11_18 (by decide) (by decide) rfl (I.S.b 64 rfl rfl) (I.S.o 64 rfl rfl rfl) (I.S.r 64 1 rfl rfl rfl) ?_
          refine Go_iload_n (pc' := 28) dX11_cellarOf_27 rfl rfl rfl ?_
          refine Go_aaloadZ (n := 6) (k := j) (pc' := 29) dX11_cellarOf_28 rfl (I.S.b 67 rfl rfl) (I.S.k 67 rfl rfl rfl) rfl rfl (by omega) (by decide) ho ?_
          refine Go_goto (tgt := 33) dX11_cellarOf_29 (by decide) ?_
          refine Go_areturn (r := some _) dX11_cellarOf_33 rfl ?_
          refine ⟨some _, rfl, ?_⟩
          refine Go_astore (pc' := 7) (lv' := [.ref _, .int _, .int _, .int _, .int _, .int _, .ref _]) dX11_kind_5 rfl (Nat.le_of_ble_eq_true rfl) rfl rfl ?_
          refine Go_aload (pc' := 9) dX11_kind_7 rfl rfl ?_
          refine Go_ifnull (pc' := 12) dX11_kind_9 rfl ?_
          refine Go_iload (pc' := 14) dX11_kind_12 rfl rfl ?_
          refine Go_iconst (v := iZ 0) (pc' := 15) dX11_kind_14 rfl (by decide) ?_
          refine Go_bipush (v := iZ 23) (pc' := 17) dX11_kind_15 rfl (by decide) ?_
          refine Go_callS_i (pc' := 20) (As := [.int _, .int _, .int _]) (st := []) dX11_kind_17 rfl ok_X11_within km_RX11_94 rfl (Nat.le_of_ble_eq_true rfl) rfl rfl rfl (Nat.le_of_ble_eq_true rfl) (Nat.lt_succ_self _) ?_
          refine s_withinY (by first | exact ⟨i_lo _, i_hi _⟩ | omega) (by first | exact ⟨i_lo _, i_hi _⟩ | omega) (by first | exact ⟨i_lo _, i_hi _⟩ | omega) ?_
          refine ⟨_, rfl, ?_⟩
          refine Go_if_eqb (tgt := 48) (pc' := 23) dX11_kind_20 (by decide) rfl (fun c20 => by exfalso; omega) (fun c20 => ?_)
          refine Go_iload (pc' := 25) dX11_kind_23 rfl rfl ?_
          refine Go_iconst (v := iZ 0) (pc' := 26) dX11_kind_25 rfl (by decide) ?_
          refine Go_bipush (v := iZ 6) (pc' := 28) dX11_kind_26 rfl (by decide) ?_
          refine Go_callS_i (pc' := 31) (As := [.int _, .int _, .int _]) (st := []) dX11_kind_28 rfl ok_X11_within km_RX11_94 rfl (Nat.le_of_ble_eq_true rfl) rfl rfl rfl (Nat.le_of_ble_eq_true rfl) (Nat.lt_succ_self _) ?_
          refine s_withinY (by first | exact ⟨i_lo _, i_hi _⟩ | omega) (by first | exact ⟨i_lo _, i_hi _⟩ | omega) (by first | exact ⟨i_lo _, i_hi _⟩ | omega) ?_
          refine ⟨_, rfl, ?_⟩
          refine Go_if_eqb (tgt := 48) (pc' := 34) dX11_kind_31 (by decide) rfl (fun c31 => by exfalso; omega) (fun c31 => ?_)
          refine Go_aload_n (pc' := 35) dX11_kind_34 rfl rfl rfl ?_
          refine Go_getRs (pc' := 38) dX11_kind_35 rfl kf_RX11_32 (by decide) (by decide) rfl (I.S.b 64 rfl rfl) (I.S.o 64 rfl rfl rfl) (I.S.r 64 4 rfl rfl rfl) ?_
          refine Go_aload (pc' := 40) dX11_kind_38 rfl rfl ?_
          refine Go_iload_n (pc' := 41) dX11_kind_40 rfl rfl rfl ?_
          refine Go_iload_n (pc' := 42) dX11_kind_41 rfl rfl rfl ?_
          refine Go_callV_i (pc' := 45) (As := [.ref _, .int _, .int _]) (st := []) dX11_kind_42 rfl ok_X0_measure km_RX11_186 (I.S.o 69 rfl rfl rfl) (I.S.b 69 rfl rfl) ⟨_, _, rfl⟩ rfl (Nat.le_of_ble_eq_true rfl) rfl rfl rfl (Nat.le_of_ble_eq_true rfl) (Nat.lt_succ_self _) ?_
          refine s_mea S M (by omega) (by omega) w ?_
          refine ⟨_, rfl, ?_⟩
          refine Go_if_neY (tgt := 50) (pc' := 48) dX11_kind_45 (by decide) rfl (by first | exact ⟨i_lo _, i_hi _⟩ | omega) (fun c45 => ?_) (fun c45 => by exfalso; omega)
          refine Go_aload_n (pc' := 51) dX11_kind_50 rfl rfl rfl ?_
          refine Go_getRs (pc' := 54) dX11_kind_51 rfl kf_RX11_32 (by decide) (by decide) rfl (S.b 64 rfl rfl) (S.o 64 rfl rfl rfl) (S.r 64 4 rfl rfl rfl) ?_
          refine Go_iload (pc' := 56) dX11_kind_54 rfl rfl ?_
          refine Go_iload (pc' := 58) dX11_kind_56 rfl rfl ?_
          refine Go_callV_v (pc' := 61) (As := [.int _, .int _]) (st := []) dX11_kind_58 rfl ok_X0_setWhen km_RX11_193 (S.o 69 rfl rfl rfl) (S.b 69 rfl rfl) ⟨_, _, rfl⟩ rfl (Nat.le_of_ble_eq_true rfl) rfl rfl rfl (Nat.le_of_ble_eq_true rfl) (Nat.lt_succ_self _) ?_
          refine Go_aload_n (pc' := 1) dX0_setWhen_0 rfl rfl rfl ?_
          refine Go_getRs (pc' := 4) dX0_setWhen_1 rfl kf_RX0_9 (by decide) (by decide) rfl (S.b 69 rfl rfl) (S.o 69 rfl rfl rfl) (S.r 69 0 rfl rfl rfl) ?_
          refine Go_iconst (v := iZ 0) (pc' := 5) dX0_setWhen_4 rfl (by decide) ?_
          refine Go_iload_n (pc' := 6) dX0_setWhen_5 rfl rfl rfl ?_
          refine Go_iastoreZ (n := 7) (k := 0) (pc' := 7) dX0_setWhen_6 rfl (S.b 70 rfl rfl) (S.k 70 rfl rfl rfl) rfl (by decide) (by decide) ?_
          refine Go_aload_n (pc' := 8) dX0_setWhen_7 rfl rfl rfl ?_
          refine Go_getRs (pc' := 11) dX0_setWhen_8 rfl kf_RX0_9 (by decide) (by decide) rfl (S.b 69 rfl rfl) (S.o 69 rfl rfl rfl) (S.r 69 0 rfl rfl rfl) ?_
          refine Go_iconst (v := iZ 1) (pc' := 12) dX0_setWhen_11 rfl (by decide) ?_
          refine Go_iload_n (pc' := 13) dX0_setWhen_12 rfl rfl rfl ?_
          refine Go_iastoreZ (n := 7) (k := 1) (pc' := 14) dX0_setWhen_13 rfl (S.b 70 rfl rfl) (S.k 70 rfl rfl rfl) rfl (by decide) (by decide) ?_
          refine Go_return dX0_setWhen_14 rfl ?_
          refine ⟨rfl, ?_⟩
          refine Go_aload_n (pc' := 62) dX11_kind_61 rfl rfl rfl ?_
          refine Go_getRs (pc' := 65) dX11_kind_62 rfl kf_RX11_39 (by decide) (by decide) rfl (S.b 64 rfl rfl) (S.o 64 rfl rfl rfl) (S.r 64 5 rfl rfl rfl) ?_
          refine Go_getRs (pc' := 68) dX11_kind_65 rfl kf_RX11_196 (by decide) (by decide) rfl (S.b 71 rfl rfl) (S.o 71 rfl rfl rfl) hr ?_
          refine Go_aload_n (pc' := 69) dX11_kind_68 rfl rfl rfl ?_
          refine Go_getRs (pc' := 72) dX11_kind_69 rfl kf_RX11_32 (by decide) (by decide) rfl (S.b 64 rfl rfl) (S.o 64 rfl rfl rfl) (S.r 64 4 rfl rfl rfl) ?_
          refine Go_callV_i (pc' := 75) (As := [.ref _]) (st := []) dX11_kind_72 rfl ok_X8_judge km_RX11_200 QP.2.1 QP.1 ⟨_, _, rfl⟩ rfl (Nat.le_of_ble_eq_true rfl) rfl rfl rfl (Nat.le_of_ble_eq_true rfl) (Nat.lt_succ_self _) ?_
          refine s_judge (h := (wI (wI (h70 h Bz Cz (ME h o Bz Cz)) 70 0 (iZ Ez)) 70 1 (iZ Fz))) (F := (Ff Ez Fz (Cz - Bz + 1) (ME h o Bz Cz))) (c := fun i => ((codesC p).getD i 0).toInt) (DB.shp S) QP hq hFF hL (((DB.2.2.2 _ _ (by omega)).trans EC.1).trans (iZ_nat _).symm) (fun i hi => ⟨((DB.2.2.2 _ _ (by omega)).trans (EC.2.2 i hi)).trans (iZ_self _).symm, cod_all GP.2.2.2 _ (by rw [List.getD_eq_getElem?_getD, List.getElem?_eq_getElem hi]; exact List.getElem_mem hi)⟩) (fun u9 n9 => ?_)
          refine ⟨_, rfl, ?_⟩
          refine Go_ireturn (ty := .int) dX11_kind_75 rfl rfl ?_
          refine k _ _ ⟨?_, u9, n9, rfl⟩ ((DB.hT hq).shp S)
          rw [jx_jl _ 0 _ (Nat.zero_add _), List.drop_zero, jl_kind GP.2.2.2]
        · rintro r h1 ⟨rfl, u, m, rfl⟩ K k
          have D : DifK h (hT (wI (wI (h70 h Bz Cz (ME h o Bz Cz)) 70 0 (iZ Ez)) 70 1 (iZ Fz)) (q + 2) q 4 u m) := DB.hT hq
          have ec0 : vi (hT (wI (wI (h70 h Bz Cz (ME h o Bz Cz)) 70 0 (iZ Ez)) 70 1 (iZ Fz)) (q + 2) q 4 u m) 99 0 = iZ (nc : Int) := (D.2.2.2 _ _ (by omega)).trans ec0
          have I1 := I.scrK D
          have M1 := M.difK D
          have EM1 := EM.dif D
          have es := sap_difK hq0.1 D
          have el := lmt_difK hq0.1 D
          generalize (hT (wI (wI (h70 h Bz Cz (ME h o Bz Cz)) 70 0 (iZ Ez)) 70 1 (iZ Fz)) (q + 2) q 4 u m) = h1 at *
          have w1 : wh h1 o n Bz Cz := by unfold wh nmB; rw [es]; exact w
          show Go G 60 0 0 M_X12_kind 0 [.ref 99, .int (iZ (j : Int)), .int (iZ Bz), .int (iZ Cz), .int (iZ Ez), .int (iZ Fz), un] [] h1 K
          refine ki_M (nc := nc) I1 M1 (by omega) hnc ec0 (by omega) (by omega) hg.1 hg.2 w1 GP EM1 (fun h2 I2 => ?_)
          rw [show ME h1 o Bz Cz = ME h o Bz Cz by unfold ME; rw [es, el]]
          exact k h2 I2
      · refine PairI.ro' (fun _ => iZ (-1)) h I (fun K k => ?_) (fun K k => ?_)
        · show Go G 60 0 0 M_X11_kind 0 [.ref 64, .int (iZ (j : Int)), .int (iZ Bz), .int (iZ Cz), .int (iZ Ez), .int (iZ Fz), un] [] h K
          refine Go_aload_n (pc' := 1) dX11_kind_0 rfl rfl rfl ?_
          refine Go_iload_n (pc' := 2) dX11_kind_1 rfl rfl rfl ?_
          refine Go_callV_r (pc' := 5) (As := [.int _]) (st := []) dX11_kind_2 rfl ok_X11_cellarOf km_RX11_90 (I.S.o 64 rfl rfl rfl) (I.S.b 64 rfl rfl) ⟨_, _, rfl⟩ rfl (Nat.le_of_ble_eq_true rfl) rfl rfl rfl (Nat.le_of_ble_eq_true rfl) (Nat.lt_succ_self _) ?_
          refine Go_iload_n (pc' := 1) dX11_cellarOf_0 rfl rfl rfl ?_
          refine Go_iconst (v := iZ 0) (pc' := 2) dX11_cellarOf_1 rfl (by decide) ?_
          refine Go_aload_n (pc' := 3) dX11_cellarOf_2 rfl rfl rfl ?_
          refine Go_getIv (v := (iZ (nc : Int))) (pc' := 6) dX11_cellarOf_3 rfl kf_RX11_84 (by decide) (by decide) rfl (I.S.b 64 rfl rfl) (I.S.o 64 rfl rfl rfl) (ec2) ?_
          refine Go_iconst (v := iZ 1) (pc' := 7) dX11_cellarOf_6 rfl (by decide) ?_
          refine Go_isubZ (pc' := 8) dX11_cellarOf_7 rfl ?_
          refine Go_callS_i (pc' := 11) (As := [.int _, .int _, .int _]) (st := []) dX11_cellarOf_8 rfl ok_X11_within km_RX11_94 rfl (Nat.le_of_ble_eq_true rfl) rfl rfl rfl (Nat.le_of_ble_eq_true rfl) (Nat.lt_succ_self _) ?_
          refine s_withinY (by first | exact ⟨i_lo _, i_hi _⟩ | omega) (by first | exact ⟨i_lo _, i_hi _⟩ | omega) (by first | exact ⟨i_lo _, i_hi _⟩ | omega) ?_
          refine ⟨_, rfl, ?_⟩
          refine Go_if_eqb (tgt := 32) (pc' := 14) dX11_cellarOf_11 (by decide) rfl (fun q11 => by exfalso; omega) (fun q11 => ?_)
          refine Go_iload_n (pc' := 15) dX11_cellarOf_14 rfl rfl rfl ?_
          refine Go_aload_n (pc' := 16) dX11_cellarOf_15 rfl rfl rfl ?_
          refine Go_getRs (pc' := 19) dX11_cellarOf_16 rfl kf_RX11_18 (by decide) (by decide) rfl (I.S.b 64 rfl rfl) (I.S.o 64 rfl rfl rfl) (I.S.r 64 1 rfl rfl rfl) ?_
          refine Go_alenZ (n := 6) (pc' := 20) dX11_cellarOf_19 rfl (I.S.b 67 rfl rfl) (I.S.k 67 rfl rfl rfl) (Or.inr (Or.inr ⟨_, rfl⟩)) ?_
          refine Go_icmp_geY (tgt := 32) (pc' := 23) dX11_cellarOf_20 (by decide) rfl (by first | exact ⟨i_lo _, i_hi _⟩ | omega) (by first | exact ⟨i_lo _, i_hi _⟩ | omega) (fun q20 => by exfalso; omega) (fun q20 => ?_)
          refine Go_aload_n (pc' := 24) dX11_cellarOf_23 rfl rfl rfl ?_
          refine Go_getRs (pc' := 27) dX11_cellarOf_24 rfl kf_RX11_18 (by decide) (by decide) rfl (I.S.b 64 rfl rfl) (I.S.o 64 rfl rfl rfl) (I.S.r 64 1 rfl rfl rfl) ?_
          refine Go_iload_n (pc' := 28) dX11_cellarOf_27 rfl rfl rfl ?_
          refine Go_aaloadZ (n := 6) (k := j) (pc' := 29) dX11_cellarOf_28 rfl (I.S.b 67 rfl rfl) (I.S.k 67 rfl rfl rfl) rfl rfl (by omega) (by decide) ho ?_
          refine Go_goto (tgt := 33) dX11_cellarOf_29 (by decide) ?_
          refine Go_areturn (r := some _) dX11_cellarOf_33 rfl ?_
          refine ⟨some _, rfl, ?_⟩
          refine Go_astore (pc' := 7) (lv' := [.ref _, .int _, .int _, .int _, .int _, .int _, .ref _]) dX11_kind_5 rfl (Nat.le_of_ble_eq_true rfl) rfl rfl ?_
          refine Go_aload (pc' := 9) dX11_kind_7 rfl rfl ?_
          refine Go_ifnull (pc' := 12) dX11_kind_9 rfl ?_
          refine Go_iload (pc' := 14) dX11_kind_12 rfl rfl ?_
          refine Go_iconst (v := iZ 0) (pc' := 15) dX11_kind_14 rfl (by decide) ?_
          refine Go_bipush (v := iZ 23) (pc' := 17) dX11_kind_15 rfl (by decide) ?_
          refine Go_callS_i (pc' := 20) (As := [.int _, .int _, .int _]) (st := []) dX11_kind_17 rfl ok_X11_within km_RX11_94 rfl (Nat.le_of_ble_eq_true rfl) rfl rfl rfl (Nat.le_of_ble_eq_true rfl) (Nat.lt_succ_self _) ?_
          refine s_withinY (by first | exact ⟨i_lo _, i_hi _⟩ | omega) (by first | exact ⟨i_lo _, i_hi _⟩ | omega) (by first | exact ⟨i_lo _, i_hi _⟩ | omega) ?_
          refine ⟨_, rfl, ?_⟩
          refine Go_if_eqb (tgt := 48) (pc' := 23) dX11_kind_20 (by decide) rfl (fun c20 => ?_) (fun c20 => ?_)
          · refine Go_iconst (v := iZ (-1)) (pc' := 49) dX11_kind_48 rfl (by decide) ?_
            refine Go_ireturn (ty := .int) dX11_kind_49 rfl rfl ?_
            exact k
          · refine Go_iload (pc' := 25) dX11_kind_23 rfl rfl ?_
            refine Go_iconst (v := iZ 0) (pc' := 26) dX11_kind_25 rfl (by decide) ?_
            refine Go_bipush (v := iZ 6) (pc' := 28) dX11_kind_26 rfl (by decide) ?_
            refine Go_callS_i (pc' := 31) (As := [.int _, .int _, .int _]) (st := []) dX11_kind_28 rfl ok_X11_within km_RX11_94 rfl (Nat.le_of_ble_eq_true rfl) rfl rfl rfl (Nat.le_of_ble_eq_true rfl) (Nat.lt_succ_self _) ?_
            refine s_withinY (by first | exact ⟨i_lo _, i_hi _⟩ | omega) (by first | exact ⟨i_lo _, i_hi _⟩ | omega) (by first | exact ⟨i_lo _, i_hi _⟩ | omega) ?_
            refine ⟨_, rfl, ?_⟩
            refine Go_if_eqb (tgt := 48) (pc' := 34) dX11_kind_31 (by decide) rfl (fun c31 => ?_) (fun c31 => by exfalso; omega)
            refine Go_iconst (v := iZ (-1)) (pc' := 49) dX11_kind_48 rfl (by decide) ?_
            refine Go_ireturn (ty := .int) dX11_kind_49 rfl rfl ?_
            exact k
        · show Go G 60 0 0 M_X12_kind 0 [.ref 99, .int (iZ (j : Int)), .int (iZ Bz), .int (iZ Cz), .int (iZ Ez), .int (iZ Fz), un] [] h K
          refine Go_aload_n (pc' := 1) dX12_kind_0 rfl rfl rfl ?_
          refine Go_iload_n (pc' := 2) dX12_kind_1 rfl rfl rfl ?_
          refine Go_iload_n (pc' := 3) dX12_kind_2 rfl rfl rfl ?_
          refine Go_iload_n (pc' := 4) dX12_kind_3 rfl rfl rfl ?_
          refine Go_callV_i (pc' := 7) (As := [.int _, .int _, .int _]) (st := []) dX12_kind_4 rfl ok_X12_isBurst km_RX12_196 (I.S.o 99 rfl rfl rfl) (I.S.b 99 rfl rfl) ⟨_, _, rfl⟩ rfl (Nat.le_of_ble_eq_true rfl) rfl rfl rfl (Nat.le_of_ble_eq_true rfl) (Nat.lt_succ_self _) ?_
          refine s_ib (nc := nc) S M (by omega) hnc ec0 (by omega) (by omega) ?_
          refine ⟨_, rfl, ?_⟩
          refine Go_if_eqb (tgt := 32) (pc' := 10) dX12_kind_7 (by decide) rfl (fun c7 => by exact absurd w c7) (fun c7 => ?_)
          refine Go_iload (pc' := 12) dX12_kind_10 rfl rfl ?_
          refine Go_iconst (v := iZ 0) (pc' := 13) dX12_kind_12 rfl (by decide) ?_
          refine Go_bipush (v := iZ 23) (pc' := 15) dX12_kind_13 rfl (by decide) ?_
          refine Go_callS_i (pc' := 18) (As := [.int _, .int _, .int _]) (st := []) dX12_kind_15 rfl ok_X12_isIn km_RX12_147 rfl (Nat.le_of_ble_eq_true rfl) rfl rfl rfl (Nat.le_of_ble_eq_true rfl) (Nat.lt_succ_self _) ?_
          refine s_isInY (by first | exact ⟨i_lo _, i_hi _⟩ | omega) (by first | exact ⟨i_lo _, i_hi _⟩ | omega) (by first | exact ⟨i_lo _, i_hi _⟩ | omega) ?_
          refine ⟨_, rfl, ?_⟩
          refine Go_if_eqb (tgt := 32) (pc' := 21) dX12_kind_18 (by decide) rfl (fun c18 => ?_) (fun c18 => ?_)
          · refine Go_iconst (v := iZ (-1)) (pc' := 33) dX12_kind_32 rfl (by decide) ?_
            refine Go_ireturn (ty := .int) dX12_kind_33 rfl rfl ?_
            exact k
          · refine Go_iload (pc' := 23) dX12_kind_21 rfl rfl ?_
            refine Go_iconst (v := iZ 0) (pc' := 24) dX12_kind_23 rfl (by decide) ?_
            refine Go_bipush (v := iZ 6) (pc' := 26) dX12_kind_24 rfl (by decide) ?_
            refine Go_callS_i (pc' := 29) (As := [.int _, .int _, .int _]) (st := []) dX12_kind_26 rfl ok_X12_isIn km_RX12_147 rfl (Nat.le_of_ble_eq_true rfl) rfl rfl rfl (Nat.le_of_ble_eq_true rfl) (Nat.lt_succ_self _) ?_
            refine s_isInY (by first | exact ⟨i_lo _, i_hi _⟩ | omega) (by first | exact ⟨i_lo _, i_hi _⟩ | omega) (by first | exact ⟨i_lo _, i_hi _⟩ | omega) ?_
            refine ⟨_, rfl, ?_⟩
            refine Go_if_neb (tgt := 34) (pc' := 32) dX12_kind_29 (by decide) rfl (fun c29 => by exfalso; omega) (fun c29 => ?_)
            refine Go_iconst (v := iZ (-1)) (pc' := 33) dX12_kind_32 rfl (by decide) ?_
            refine Go_ireturn (ty := .int) dX12_kind_33 rfl rfl ?_
            exact k
    · refine PairI.ro' (fun _ => iZ (-1)) h I (fun K k => ?_) (fun K k => ?_)
      · show Go G 60 0 0 M_X11_kind 0 [.ref 64, .int (iZ (j : Int)), .int (iZ Bz), .int (iZ Cz), .int (iZ Ez), .int (iZ Fz), un] [] h K
        refine Go_aload_n (pc' := 1) dX11_kind_0 rfl rfl rfl ?_
        refine Go_iload_n (pc' := 2) dX11_kind_1 rfl rfl rfl ?_
        refine Go_callV_r (pc' := 5) (As := [.int _]) (st := []) dX11_kind_2 rfl ok_X11_cellarOf km_RX11_90 (I.S.o 64 rfl rfl rfl) (I.S.b 64 rfl rfl) ⟨_, _, rfl⟩ rfl (Nat.le_of_ble_eq_true rfl) rfl rfl rfl (Nat.le_of_ble_eq_true rfl) (Nat.lt_succ_self _) ?_
        refine Go_iload_n (pc' := 1) dX11_cellarOf_0 rfl rfl rfl ?_
        refine Go_iconst (v := iZ 0) (pc' := 2) dX11_cellarOf_1 rfl (by decide) ?_
        refine Go_aload_n (pc' := 3) dX11_cellarOf_2 rfl rfl rfl ?_
        refine Go_getIv (v := (iZ (nc : Int))) (pc' := 6) dX11_cellarOf_3 rfl kf_RX11_84 (by decide) (by decide) rfl (I.S.b 64 rfl rfl) (I.S.o 64 rfl rfl rfl) (ec2) ?_
        refine Go_iconst (v := iZ 1) (pc' := 7) dX11_cellarOf_6 rfl (by decide) ?_
        refine Go_isubZ (pc' := 8) dX11_cellarOf_7 rfl ?_
        refine Go_callS_i (pc' := 11) (As := [.int _, .int _, .int _]) (st := []) dX11_cellarOf_8 rfl ok_X11_within km_RX11_94 rfl (Nat.le_of_ble_eq_true rfl) rfl rfl rfl (Nat.le_of_ble_eq_true rfl) (Nat.lt_succ_self _) ?_
        refine s_withinY (by first | exact ⟨i_lo _, i_hi _⟩ | omega) (by first | exact ⟨i_lo _, i_hi _⟩ | omega) (by first | exact ⟨i_lo _, i_hi _⟩ | omega) ?_
        refine ⟨_, rfl, ?_⟩
        refine Go_if_eqb (tgt := 32) (pc' := 14) dX11_cellarOf_11 (by decide) rfl (fun q11 => by exfalso; omega) (fun q11 => ?_)
        refine Go_iload_n (pc' := 15) dX11_cellarOf_14 rfl rfl rfl ?_
        refine Go_aload_n (pc' := 16) dX11_cellarOf_15 rfl rfl rfl ?_
        refine Go_getRs (pc' := 19) dX11_cellarOf_16 rfl kf_RX11_18 (by decide) (by decide) rfl (I.S.b 64 rfl rfl) (I.S.o 64 rfl rfl rfl) (I.S.r 64 1 rfl rfl rfl) ?_
        refine Go_alenZ (n := 6) (pc' := 20) dX11_cellarOf_19 rfl (I.S.b 67 rfl rfl) (I.S.k 67 rfl rfl rfl) (Or.inr (Or.inr ⟨_, rfl⟩)) ?_
        refine Go_icmp_geY (tgt := 32) (pc' := 23) dX11_cellarOf_20 (by decide) rfl (by first | exact ⟨i_lo _, i_hi _⟩ | omega) (by first | exact ⟨i_lo _, i_hi _⟩ | omega) (fun q20 => by exfalso; omega) (fun q20 => ?_)
        refine Go_aload_n (pc' := 24) dX11_cellarOf_23 rfl rfl rfl ?_
        refine Go_getRs (pc' := 27) dX11_cellarOf_24 rfl kf_RX11_18 (by decide) (by decide) rfl (I.S.b 64 rfl rfl) (I.S.o 64 rfl rfl rfl) (I.S.r 64 1 rfl rfl rfl) ?_
        refine Go_iload_n (pc' := 28) dX11_cellarOf_27 rfl rfl rfl ?_
        refine Go_aaloadZ (n := 6) (k := j) (pc' := 29) dX11_cellarOf_28 rfl (I.S.b 67 rfl rfl) (I.S.k 67 rfl rfl rfl) rfl rfl (by omega) (by decide) ho ?_
        refine Go_goto (tgt := 33) dX11_cellarOf_29 (by decide) ?_
        refine Go_areturn (r := some _) dX11_cellarOf_33 rfl ?_
        refine ⟨some _, rfl, ?_⟩
        refine Go_astore (pc' := 7) (lv' := [.ref _, .int _, .int _, .int _, .int _, .int _, .ref _]) dX11_kind_5 rfl (Nat.le_of_ble_eq_true rfl) rfl rfl ?_
        refine Go_aload (pc' := 9) dX11_kind_7 rfl rfl ?_
        refine Go_ifnull (pc' := 12) dX11_kind_9 rfl ?_
        refine Go_iload (pc' := 14) dX11_kind_12 rfl rfl ?_
        refine Go_iconst (v := iZ 0) (pc' := 15) dX11_kind_14 rfl (by decide) ?_
        refine Go_bipush (v := iZ 23) (pc' := 17) dX11_kind_15 rfl (by decide) ?_
        refine Go_callS_i (pc' := 20) (As := [.int _, .int _, .int _]) (st := []) dX11_kind_17 rfl ok_X11_within km_RX11_94 rfl (Nat.le_of_ble_eq_true rfl) rfl rfl rfl (Nat.le_of_ble_eq_true rfl) (Nat.lt_succ_self _) ?_
        refine s_withinY (by first | exact ⟨i_lo _, i_hi _⟩ | omega) (by first | exact ⟨i_lo _, i_hi _⟩ | omega) (by first | exact ⟨i_lo _, i_hi _⟩ | omega) ?_
        refine ⟨_, rfl, ?_⟩
        refine Go_if_eqb (tgt := 48) (pc' := 23) dX11_kind_20 (by decide) rfl (fun c20 => ?_) (fun c20 => ?_)
        · refine Go_iconst (v := iZ (-1)) (pc' := 49) dX11_kind_48 rfl (by decide) ?_
          refine Go_ireturn (ty := .int) dX11_kind_49 rfl rfl ?_
          exact k
        · refine Go_iload (pc' := 25) dX11_kind_23 rfl rfl ?_
          refine Go_iconst (v := iZ 0) (pc' := 26) dX11_kind_25 rfl (by decide) ?_
          refine Go_bipush (v := iZ 6) (pc' := 28) dX11_kind_26 rfl (by decide) ?_
          refine Go_callS_i (pc' := 31) (As := [.int _, .int _, .int _]) (st := []) dX11_kind_28 rfl ok_X11_within km_RX11_94 rfl (Nat.le_of_ble_eq_true rfl) rfl rfl rfl (Nat.le_of_ble_eq_true rfl) (Nat.lt_succ_self _) ?_
          refine s_withinY (by first | exact ⟨i_lo _, i_hi _⟩ | omega) (by first | exact ⟨i_lo _, i_hi _⟩ | omega) (by first | exact ⟨i_lo _, i_hi _⟩ | omega) ?_
          refine ⟨_, rfl, ?_⟩
          refine Go_if_eqb (tgt := 48) (pc' := 34) dX11_kind_31 (by decide) rfl (fun c31 => ?_) (fun c31 => ?_)
          · refine Go_iconst (v := iZ (-1)) (pc' := 49) dX11_kind_48 rfl (by decide) ?_
            refine Go_ireturn (ty := .int) dX11_kind_49 rfl rfl ?_
            exact k
          · refine Go_aload_n (pc' := 35) dX11_kind_34 rfl rfl rfl ?_
            refine Go_getRs (pc' := 38) dX11_kind_35 rfl kf_RX11_32 (by decide) (by decide) rfl (I.S.b 64 rfl rfl) (I.S.o 64 rfl rfl rfl) (I.S.r 64 4 rfl rfl rfl) ?_
            refine Go_aload (pc' := 40) dX11_kind_38 rfl rfl ?_
            refine Go_iload_n (pc' := 41) dX11_kind_40 rfl rfl rfl ?_
            refine Go_iload_n (pc' := 42) dX11_kind_41 rfl rfl rfl ?_
            refine Go_callV_i (pc' := 45) (As := [.ref _, .int _, .int _]) (st := []) dX11_kind_42 rfl ok_X0_measure km_RX11_186 (I.S.o 69 rfl rfl rfl) (I.S.b 69 rfl rfl) ⟨_, _, rfl⟩ rfl (Nat.le_of_ble_eq_true rfl) rfl rfl rfl (Nat.le_of_ble_eq_true rfl) (Nat.lt_succ_self _) ?_
            refine s_meaN S M (by omega) (by omega) w ?_
            refine ⟨_, rfl, ?_⟩
            refine Go_if_neY (tgt := 50) (pc' := 48) dX11_kind_45 (by decide) rfl (by first | exact ⟨i_lo _, i_hi _⟩ | omega) (fun c45 => by exfalso; omega) (fun c45 => ?_)
            refine Go_iconst (v := iZ (-1)) (pc' := 49) dX11_kind_48 rfl (by decide) ?_
            refine Go_ireturn (ty := .int) dX11_kind_49 rfl rfl ?_
            exact k
      · show Go G 60 0 0 M_X12_kind 0 [.ref 99, .int (iZ (j : Int)), .int (iZ Bz), .int (iZ Cz), .int (iZ Ez), .int (iZ Fz), un] [] h K
        refine Go_aload_n (pc' := 1) dX12_kind_0 rfl rfl rfl ?_
        refine Go_iload_n (pc' := 2) dX12_kind_1 rfl rfl rfl ?_
        refine Go_iload_n (pc' := 3) dX12_kind_2 rfl rfl rfl ?_
        refine Go_iload_n (pc' := 4) dX12_kind_3 rfl rfl rfl ?_
        refine Go_callV_i (pc' := 7) (As := [.int _, .int _, .int _]) (st := []) dX12_kind_4 rfl ok_X12_isBurst km_RX12_196 (I.S.o 99 rfl rfl rfl) (I.S.b 99 rfl rfl) ⟨_, _, rfl⟩ rfl (Nat.le_of_ble_eq_true rfl) rfl rfl rfl (Nat.le_of_ble_eq_true rfl) (Nat.lt_succ_self _) ?_
        refine s_ib (nc := nc) S M (by omega) hnc ec0 (by omega) (by omega) ?_
        refine ⟨_, rfl, ?_⟩
        refine Go_if_eqb (tgt := 32) (pc' := 10) dX12_kind_7 (by decide) rfl (fun c7 => ?_) (fun c7 => by exact absurd c7 w)
        refine Go_iconst (v := iZ (-1)) (pc' := 33) dX12_kind_32 rfl (by decide) ?_
        refine Go_ireturn (ty := .int) dX12_kind_33 rfl rfl ?_
        exact k
  · refine PairI.ro' (fun _ => iZ (-1)) h I (fun K k => ?_) (fun K k => ?_)
    · show Go G 60 0 0 M_X11_kind 0 [.ref 64, .int (iZ Az), .int (iZ Bz), .int (iZ Cz), .int (iZ Ez), .int (iZ Fz), un] [] h K
      refine Go_aload_n (pc' := 1) dX11_kind_0 rfl rfl rfl ?_
      refine Go_iload_n (pc' := 2) dX11_kind_1 rfl rfl rfl ?_
      refine Go_callV_r (pc' := 5) (As := [.int _]) (st := []) dX11_kind_2 rfl ok_X11_cellarOf km_RX11_90 (I.S.o 64 rfl rfl rfl) (I.S.b 64 rfl rfl) ⟨_, _, rfl⟩ rfl (Nat.le_of_ble_eq_true rfl) rfl rfl rfl (Nat.le_of_ble_eq_true rfl) (Nat.lt_succ_self _) ?_
      refine Go_iload_n (pc' := 1) dX11_cellarOf_0 rfl rfl rfl ?_
      refine Go_iconst (v := iZ 0) (pc' := 2) dX11_cellarOf_1 rfl (by decide) ?_
      refine Go_aload_n (pc' := 3) dX11_cellarOf_2 rfl rfl rfl ?_
      refine Go_getIv (v := (iZ (nc : Int))) (pc' := 6) dX11_cellarOf_3 rfl kf_RX11_84 (by decide) (by decide) rfl (I.S.b 64 rfl rfl) (I.S.o 64 rfl rfl rfl) (ec2) ?_
      refine Go_iconst (v := iZ 1) (pc' := 7) dX11_cellarOf_6 rfl (by decide) ?_
      refine Go_isubZ (pc' := 8) dX11_cellarOf_7 rfl ?_
      refine Go_callS_i (pc' := 11) (As := [.int _, .int _, .int _]) (st := []) dX11_cellarOf_8 rfl ok_X11_within km_RX11_94 rfl (Nat.le_of_ble_eq_true rfl) rfl rfl rfl (Nat.le_of_ble_eq_true rfl) (Nat.lt_succ_self _) ?_
      refine s_withinY (by first | exact ⟨i_lo _, i_hi _⟩ | omega) (by first | exact ⟨i_lo _, i_hi _⟩ | omega) (by first | exact ⟨i_lo _, i_hi _⟩ | omega) ?_
      refine ⟨_, rfl, ?_⟩
      refine Go_if_eqb (tgt := 32) (pc' := 14) dX11_cellarOf_11 (by decide) rfl (fun q11 => ?_) (fun q11 => by exfalso; omega)
      refine Go_null (pc' := 33) dX11_cellarOf_32 rfl ?_
      refine Go_areturn (r := none) dX11_cellarOf_33 rfl ?_
      refine ⟨none, rfl, ?_⟩
      refine Go_astoreN (pc' := 7) (lv' := [.ref _, .int _, .int _, .int _, .int _, .int _, .null]) dX11_kind_5 rfl (Nat.le_of_ble_eq_true rfl) rfl rfl ?_
      refine Go_aloadN (pc' := 9) dX11_kind_7 rfl rfl ?_
      refine Go_ifnullN (tgt := 48) dX11_kind_9 (by decide) ?_
      refine Go_iconst (v := iZ (-1)) (pc' := 49) dX11_kind_48 rfl (by decide) ?_
      refine Go_ireturn (ty := .int) dX11_kind_49 rfl rfl ?_
      exact k
    · show Go G 60 0 0 M_X12_kind 0 [.ref 99, .int (iZ Az), .int (iZ Bz), .int (iZ Cz), .int (iZ Ez), .int (iZ Fz), un] [] h K
      refine Go_aload_n (pc' := 1) dX12_kind_0 rfl rfl rfl ?_
      refine Go_iload_n (pc' := 2) dX12_kind_1 rfl rfl rfl ?_
      refine Go_iload_n (pc' := 3) dX12_kind_2 rfl rfl rfl ?_
      refine Go_iload_n (pc' := 4) dX12_kind_3 rfl rfl rfl ?_
      refine Go_callV_i (pc' := 7) (As := [.int _, .int _, .int _]) (st := []) dX12_kind_4 rfl ok_X12_isBurst km_RX12_196 (I.S.o 99 rfl rfl rfl) (I.S.b 99 rfl rfl) ⟨_, _, rfl⟩ rfl (Nat.le_of_ble_eq_true rfl) rfl rfl rfl (Nat.le_of_ble_eq_true rfl) (Nat.lt_succ_self _) ?_
      refine s_ibN (nc := nc) S hcc hnc ec0 (by omega) ?_
      refine ⟨_, rfl, ?_⟩
      refine Go_if_eqY (tgt := 32) (pc' := 10) dX12_kind_7 (by decide) rfl (by first | exact ⟨i_lo _, i_hi _⟩ | omega) (fun c7 => ?_) (fun c7 => by exfalso; omega)
      refine Go_iconst (v := iZ (-1)) (pc' := 33) dX12_kind_32 rfl (by decide) ?_
      refine Go_ireturn (ty := .int) dX12_kind_33 rfl rfl ?_
      exact k
